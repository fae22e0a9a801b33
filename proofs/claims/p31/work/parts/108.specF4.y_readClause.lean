
set_option maxHeartbeats 4000000 in
set_option maxRecDepth 100000 in
theorem y_readClause (l : Launch) (D : va_G) (k : Nat → ClassId) (st : Nat → Nat) (lo : Nat) (h0 : Nat) (h1 : Nat) (h2 : Nat) (h3 : Nat) (h4 : Nat) (n : Nat) (see : Nat) (tm : Nat) (g : Nat → Int32) (x0 : Nat) (x1 : Nat) (tz : Nat) (ta : Nat) (na : Int32) (fn : Int32) (fb : Int32) (fx : Nat → Int32) (cl : Nat) (ht : ta ≤ tz) (hz : tz ≤ 240) (hsee : see ≤ 2) (htm9 : tm ≤ 3) (hcl : 1 ≤ cl ∧ cl ≤ 9 ∧ cl ≠ 8) (hf0 : fn = 0) : CWv l D k st lo yX5_readClause cX5_readClause 3 none ({ frames := 6, cells := 0, slots := 0, locals := 129 }) 0 0 [.ref h0, .ref x0, .int (nI cl)] [(h0, .inr (5, (fX5 h1 h2 h3 h4))), (aI k h1 10 (vv n see tm g)), (x0, .inr (6, (fX6 x1 (nI tz) (nI ta) na fn fb))), (aB k x1 240 fx)] (fun (u : Nat × Nat × (Nat → Int32) × Nat × Int32 × Int32 × Int32) => match u with | (see_, tm_, g_, ta_, na_, fn_, fb_) => ((fn_ = 0 ∧ ∃ v v2 : Int32, siC (bF fx) tz cl ta = (0, 0, ta_, v, v2) ∧ vv n see_ tm_ g_ = if cl = 7 then upd (upd (vv n see tm g) 7 v) 8 v2 else upd (vv n see tm g) cl v) ∨ (∃ e pl : Nat, fn_ = nI e ∧ 1 ≤ e ∧ e ≤ 4 ∧ (siC (bF fx) tz cl ta).1 = e ∧ (siC (bF fx) tz cl ta).2.1 = pl ∧ fb_ = nI pl)) ∧ see_ ≤ 2 ∧ tm_ ≤ 3 ∧ ta ≤ ta_ ∧ ta_ ≤ tz) (fun (u : Nat × Nat × (Nat → Int32) × Nat × Int32 × Int32 × Int32) => match u with | (see_, tm_, g_, ta_, na_, fn_, fb_) => [(h0, .inr (5, (fX5 h1 h2 h3 h4))), (aI k h1 10 (vv n see_ tm_ g_)), (x0, .inr (6, (fX6 x1 (nI tz) (nI ta_) na_ fn_ fb_))), (aB k x1 240 fx)]) := by
  intro sz
  refine Met.ofW (cc := cX5_readClause) (maxL := 3) (ret := none) (by decide) rfl ?_
  intro p e s m args below meth c s₁ B hml hv
  obtain ⟨rfl, hsz, hlo, hP, hK, hDL, hZ⟩ := hv
  have hx := B.exec
  have hb := B.bytes
  have hr := B.returns
  have hts := WS_ts B.pre
  have hown : s.vm.findClass RX5 = some m.cls := findClass_of_methodNamed B.named
  have hlocks := B.notSynchronized
  subst hsz
  have hD := hDL.self (sz := s.heap.size)
  have hAlo := A_lo hDL hlo
  generalize hAe : va_A [(h0, .inr (5, (fX5 h1 h2 h3 h4))), (aI k h1 10 (vv n see tm g)), (x0, .inr (6, (fX6 x1 (nI tz) (nI ta) na fn fb))), (aB k x1 240 fx)] s.heap.size = A at hD hAlo ⊢
  have hA : ∀ q : Nat, s.heap.size ≤ q → A q := fun q h => by rw [← hAe]; exact Or.inr h
  have hS : va_S A s.heap s.heap [] := va_S.rf
  have hl := lv_entry ([.ref h0, .ref x0, .int (nI cl)]) (n := 3) (Nat.le_of_ble_eq_true rfl)
  rw [lg_entry_eq]
  generalize (lg_sl ([.ref h0, .ref x0, .int (nI cl)]) ++ List.replicate (3 - (lg_sl ([.ref h0, .ref x0, .int (nI cl)])).length) Slot.unset).toArray = ls at hl ⊢
  have hl : lv_has ls 3 [(0, .ref h0), (1, .ref x0), (2, .int (nI cl))] := hl
  subst hf0
  rcases clsplit hcl with rfl | rfl | rfl | rfl | rfl | rfl | rfl | rfl
  · refine lv_aload_n hx hb dX5_readClause_0 rfl (lv_at hl 0 rfl) ?_
    refine va_get (D := D) (ci := 5) (v := .ref h1) (C := RX5) (T := TX5) (N := 4) hx hb hts inX5 hown hK hP 0 rfl rfl 0 (by decide) (hts _ tw_146) (fun _ h9 => h9) rfl dX5_readClause_1 ?_
    refine lv_iload_n hx hb dX5_readClause_4 rfl (lv_at hl 2 rfl) ?_
    refine lv_aload_n hx hb dX5_readClause_5 rfl (lv_at hl 1 rfl) ?_
    refine va_getsN (A := A) hx hb (hZ.2.2.2.2.1.narrow hAlo) hS hown ((hZ.2.2.2.2.2.2.2.2.1.2.1 (RX5, 106, "LastPlace", "LEAST", "[I", RX7) (List.mem_of_getElem? (i := 1) rfl)).use rfl) (fun _ h9 => h9) dX5_readClause_6 ?_
    refine lv_iload_n hx hb dX5_readClause_9 rfl (lv_at hl 2 rfl) ?_
    refine va_ti (A := A) hx hb (hZ.2.2.2.2.2.1.narrow hAlo) hS (i := 1) (by unfold vp_in; decide) (v := .int (-50)) rfl dX5_readClause_10 ?_
    refine va_getsN (A := A) hx hb (hZ.2.2.1.narrow hAlo) hS hown ((hZ.2.2.2.2.2.2.2.2.1.2.1 (RX5, 109, "LastPlace", "MOST", "[I", RX7) (List.mem_of_getElem? (i := 2) rfl)).use rfl) (fun _ h9 => h9) dX5_readClause_11 ?_
    refine lv_iload_n hx hb dX5_readClause_14 rfl (lv_at hl 2 rfl) ?_
    refine va_ti (A := A) hx hb (hZ.2.2.2.1.narrow hAlo) hS (i := 1) (by unfold vp_in; decide) (v := .int 50) rfl dX5_readClause_15 ?_
    refine rw_i (D := D) (wr := [(h0, .inr (5, (fX5 h1 h2 h3 h4))), (aI k h1 10 (vv n see tm g))]) (va_runV (As := [.int (-50), .int 50]) (rest := [.int 1, .ref h1]) ⟨hx, hb, hml, hown, hts⟩ ((y_needNumber l D k st lo x0 x1 tz ta na 0 fb fx (-50) 50 (by first | assumption | omega) (by first | assumption | omega) (by decide)) s.heap.size) (cwV 2 hts (gV tw_467 tw_468 tw_469 tw_80 tw_470) rfl rfl rfl (by decide +kernel) ⟨Nat.le_of_ble_eq_true rfl, Nat.le_of_ble_eq_true rfl⟩) (pV hS hAlo hlo hP hK (va_Dlo hD hAlo) hZ [2, 3] (by decide) rfl (ci := 6) (q := (RX6, TX6, 6)) (q0 := 0) rfl rfl) rfl rfl hl.1 rfl (lv_room (Nat.le_of_ble_eq_true rfl)) dX5_readClause_16 ⟨Nat.le_of_ble_eq_true rfl, Nat.le_of_ble_eq_true rfl⟩) hS hA hP hD [2, 3] [0, 1] rfl rfl (by decide) (by decide) (fun r_1 u H locs hw_1 hP hD hS => ?_)
    obtain ⟨ta__1, na__1, fn__1, fb__1⟩ := u
    have hQ9 := pd_mk [(h0, .inr (5, (fX5 h1 h2 h3 h4))), (aI k h1 10 (vv n see tm g)), (x0, .inr (6, (fX6 x1 (nI tz) (nI ta__1) na__1 fn__1 fb__1))), (aB k x1 240 fx)] hP hD
    clear hP hD
    obtain ⟨hP, hD⟩ := hQ9
    try dsimp only at hw_1
    obtain ⟨pl_2, nq_2, rfl, hq_2⟩ := hw_1.2.1 rfl
    rw [show decide (((-50) : Int32) < 0) = true from by decide] at hq_2
    rcases hq_2 with ⟨rfl, hq_2⟩ | ⟨rfl, hr_2, rfl, hq_2⟩ | ⟨rfl, hr_2, rfl, hq_2⟩
    · refine va_iast hx hb hK hP hD hS 1 1 rfl rfl (by unfold vp_in; decide) dX5_readClause_19 (fun H locs hP hD hS => ?_)
      have hQ9 := pd_mk [(h0, .inr (5, (fX5 h1 h2 h3 h4))), (aI k h1 10 (upd (vv n see tm g) (Int32.toNatClampNeg 1) r_1)), (x0, .inr (6, (fX6 x1 (nI tz) (nI ta__1) (nI nq_2) 0 fb__1))), (aB k x1 240 fx)] hP hD
      clear hP hD
      obtain ⟨hP, hD⟩ := hQ9
      rw [show upd (vv n see tm g) (Int32.toNatClampNeg 1) r_1 = vv n see tm (upd g 1 r_1) from vv_upd _ _ _ _ _ _ (by decide) (by decide) (by decide)] at hP hD
      obtain ⟨gg_4, hgg_4⟩ : ∃ z : Nat → Int32, z = upd g 1 r_1 := ⟨_, rfl⟩
      rw [← hgg_4] at hP hD
      have hQ9 := pd_mk [(h0, .inr (5, (fX5 h1 h2 h3 h4))), (aI k h1 10 (vv n see tm gg_4)), (x0, .inr (6, (fX6 x1 (nI tz) (nI ta__1) (nI nq_2) 0 fb__1))), (aB k x1 240 fx)] hP hD
      clear hP hD
      obtain ⟨hP, hD⟩ := hQ9
      refine lv_iload_n hx hb dX5_readClause_20 rfl (lv_at hl 2 rfl) ?_
      refine lv_bipush (v := 7) hx hb dX5_readClause_21 (by decide) ?_
      refine lv_icmp_ne (tgt := 58) hx hb dX5_readClause_23 (by decide) (fun _ => ?_) (fun h => absurd h (by decide))
      refine lv_aload_n hx hb dX5_readClause_58 rfl (lv_at hl 1 rfl) ?_
      refine rw_v (D := D) (wr := [(h0, .inr (5, (fX5 h1 h2 h3 h4))), (aI k h1 10 (vv n see tm gg_4))]) (va_runV (As := []) (rest := []) ⟨hx, hb, hml, hown, hts⟩ ((y_needSemicolon l D k st lo x0 x1 tz ta__1 (nI nq_2) 0 fb__1 fx (by first | assumption | omega) (by first | assumption | omega)) H.size) (cwV 0 hts (gV tw_488 tw_489 tw_490 tw_80 tw_491) rfl rfl rfl (by decide +kernel) ⟨Nat.le_of_ble_eq_true rfl, Nat.le_of_ble_eq_true rfl⟩) (pV hS hAlo hlo hP hK (va_Dlo hD hAlo) hZ [2, 3] (by decide) rfl (ci := 6) (q := (RX6, TX6, 6)) (q0 := 0) rfl rfl) rfl rfl hl.1 rfl (lv_room (Nat.le_of_ble_eq_true rfl)) dX5_readClause_59 ⟨Nat.le_of_ble_eq_true rfl, Nat.le_of_ble_eq_true rfl⟩) hS hA hP hD [2, 3] [0, 1] rfl rfl (by decide) (by decide) (fun u H locs hw_5 hP hD hS => ?_)
      obtain ⟨ta__5, fn__5, fb__5⟩ := u
      have hQ9 := pd_mk [(h0, .inr (5, (fX5 h1 h2 h3 h4))), (aI k h1 10 (vv n see tm gg_4)), (x0, .inr (6, (fX6 x1 (nI tz) (nI ta__5) (nI nq_2) fn__5 fb__5))), (aB k x1 240 fx)] hP hD
      clear hP hD
      obtain ⟨hP, hD⟩ := hQ9
      try dsimp only at hw_5
      rcases hw_5.2.1 rfl with ⟨rfl, hq_6⟩ | ⟨rfl, pl_6, hq_6, rfl⟩
      · obtain ⟨hP9, hD9⟩ := pd_sub [(h0, .inr (5, (fX5 h1 h2 h3 h4))), (aI k h1 10 (vv n see tm gg_4)), (x0, .inr (6, (fX6 x1 (nI tz) (nI ta__5) (nI nq_2) 0 fb__5))), (aB k x1 240 fx)] [0, 1, 2, 3] hP hD (by decide) rfl
        exact W.vret hx hb hr (fun t ht hW => ⟨⟨(see, tm, gg_4, ta__5, (nI nq_2), 0, fb__5), rfl, ⟨.inl ⟨rfl, r_1, 0, (by simp [siC, siF, hq_2, hq_6, (show zLE 1 = -50 from rfl), (show zMO 1 = 50 from rfl), (show decide ((1 : Nat) = 1) = true from rfl), -List.getD_eq_getElem?_getD]), by rw [if_neg (by decide), vv_upd _ _ _ _ 1 _ (by decide) (by decide) (by decide), hgg_4]⟩, by omega, by omega, by omega, by omega⟩, by rw [ht]; exact hP9, hD9⟩, hS.F ht⟩) hS.2.2 dX5_readClause_62
      · obtain ⟨hP9, hD9⟩ := pd_sub [(h0, .inr (5, (fX5 h1 h2 h3 h4))), (aI k h1 10 (vv n see tm gg_4)), (x0, .inr (6, (fX6 x1 (nI tz) (nI ta__5) (nI nq_2) 1 (nI pl_6)))), (aB k x1 240 fx)] [0, 1, 2, 3] hP hD (by decide) rfl
        exact W.vret hx hb hr (fun t ht hW => ⟨⟨(see, tm, gg_4, ta__5, (nI nq_2), 1, (nI pl_6)), rfl, ⟨.inr ⟨1, pl_6, rfl, by decide, by decide, by simp [siC, siF, hq_2, hq_6, (show zLE 1 = -50 from rfl), (show zMO 1 = 50 from rfl), (show decide ((1 : Nat) = 1) = true from rfl), -List.getD_eq_getElem?_getD], by simp [siC, siF, hq_2, hq_6, (show zLE 1 = -50 from rfl), (show zMO 1 = 50 from rfl), (show decide ((1 : Nat) = 1) = true from rfl), -List.getD_eq_getElem?_getD], rfl⟩, by omega, by omega, by omega, by omega⟩, by rw [ht]; exact hP9, hD9⟩, hS.F ht⟩) hS.2.2 dX5_readClause_62
    · refine va_iast hx hb hK hP hD hS 1 1 rfl rfl (by unfold vp_in; decide) dX5_readClause_19 (fun H locs hP hD hS => ?_)
      have hQ9 := pd_mk [(h0, .inr (5, (fX5 h1 h2 h3 h4))), (aI k h1 10 (upd (vv n see tm g) (Int32.toNatClampNeg 1) r_1)), (x0, .inr (6, (fX6 x1 (nI tz) (nI ta__1) (nI nq_2) 1 (nI pl_2)))), (aB k x1 240 fx)] hP hD
      clear hP hD
      obtain ⟨hP, hD⟩ := hQ9
      rw [show upd (vv n see tm g) (Int32.toNatClampNeg 1) r_1 = vv n see tm (upd g 1 r_1) from vv_upd _ _ _ _ _ _ (by decide) (by decide) (by decide)] at hP hD
      obtain ⟨gg_8, hgg_8⟩ : ∃ z : Nat → Int32, z = upd g 1 r_1 := ⟨_, rfl⟩
      rw [← hgg_8] at hP hD
      have hQ9 := pd_mk [(h0, .inr (5, (fX5 h1 h2 h3 h4))), (aI k h1 10 (vv n see tm gg_8)), (x0, .inr (6, (fX6 x1 (nI tz) (nI ta__1) (nI nq_2) 1 (nI pl_2)))), (aB k x1 240 fx)] hP hD
      clear hP hD
      obtain ⟨hP, hD⟩ := hQ9
      refine lv_iload_n hx hb dX5_readClause_20 rfl (lv_at hl 2 rfl) ?_
      refine lv_bipush (v := 7) hx hb dX5_readClause_21 (by decide) ?_
      refine lv_icmp_ne (tgt := 58) hx hb dX5_readClause_23 (by decide) (fun _ => ?_) (fun h => absurd h (by decide))
      refine lv_aload_n hx hb dX5_readClause_58 rfl (lv_at hl 1 rfl) ?_
      refine rw_v (D := D) (wr := [(h0, .inr (5, (fX5 h1 h2 h3 h4))), (aI k h1 10 (vv n see tm gg_8))]) (va_runV (As := []) (rest := []) ⟨hx, hb, hml, hown, hts⟩ ((y_needSemicolon l D k st lo x0 x1 tz ta__1 (nI nq_2) 1 (nI pl_2) fx (by first | assumption | omega) (by first | assumption | omega)) H.size) (cwV 0 hts (gV tw_488 tw_489 tw_490 tw_80 tw_491) rfl rfl rfl (by decide +kernel) ⟨Nat.le_of_ble_eq_true rfl, Nat.le_of_ble_eq_true rfl⟩) (pV hS hAlo hlo hP hK (va_Dlo hD hAlo) hZ [2, 3] (by decide) rfl (ci := 6) (q := (RX6, TX6, 6)) (q0 := 0) rfl rfl) rfl rfl hl.1 rfl (lv_room (Nat.le_of_ble_eq_true rfl)) dX5_readClause_59 ⟨Nat.le_of_ble_eq_true rfl, Nat.le_of_ble_eq_true rfl⟩) hS hA hP hD [2, 3] [0, 1] rfl rfl (by decide) (by decide) (fun u H locs hw_9 hP hD hS => ?_)
      obtain ⟨ta__9, fn__9, fb__9⟩ := u
      have hQ9 := pd_mk [(h0, .inr (5, (fX5 h1 h2 h3 h4))), (aI k h1 10 (vv n see tm gg_8)), (x0, .inr (6, (fX6 x1 (nI tz) (nI ta__9) (nI nq_2) fn__9 fb__9))), (aB k x1 240 fx)] hP hD
      clear hP hD
      obtain ⟨hP, hD⟩ := hQ9
      try dsimp only at hw_9
      obtain ⟨hs0_10, hs1_10⟩ := hw_9.1 (by decide)
      replace hs0_10 := hs0_10.symm
      subst hs0_10
      replace hs1_10 := hs1_10.symm
      subst hs1_10
      obtain ⟨hP9, hD9⟩ := pd_sub [(h0, .inr (5, (fX5 h1 h2 h3 h4))), (aI k h1 10 (vv n see tm gg_8)), (x0, .inr (6, (fX6 x1 (nI tz) (nI ta__9) (nI nq_2) 1 (nI pl_2)))), (aB k x1 240 fx)] [0, 1, 2, 3] hP hD (by decide) rfl
      exact W.vret hx hb hr (fun t ht hW => ⟨⟨(see, tm, gg_8, ta__9, (nI nq_2), 1, (nI pl_2)), rfl, ⟨.inr ⟨1, pl_2, rfl, by decide, by decide, by simp [siC, siF, hq_2, (show zLE 1 = -50 from rfl), (show zMO 1 = 50 from rfl), (show decide ((1 : Nat) = 1) = true from rfl), -List.getD_eq_getElem?_getD], by simp [siC, siF, hq_2, (show zLE 1 = -50 from rfl), (show zMO 1 = 50 from rfl), (show decide ((1 : Nat) = 1) = true from rfl), -List.getD_eq_getElem?_getD], rfl⟩, by omega, by omega, by omega, by omega⟩, by rw [ht]; exact hP9, hD9⟩, hS.F ht⟩) hS.2.2 dX5_readClause_62
    · refine va_iast hx hb hK hP hD hS 1 1 rfl rfl (by unfold vp_in; decide) dX5_readClause_19 (fun H locs hP hD hS => ?_)
      have hQ9 := pd_mk [(h0, .inr (5, (fX5 h1 h2 h3 h4))), (aI k h1 10 (upd (vv n see tm g) (Int32.toNatClampNeg 1) r_1)), (x0, .inr (6, (fX6 x1 (nI tz) (nI ta__1) (nI nq_2) 2 (nI pl_2)))), (aB k x1 240 fx)] hP hD
      clear hP hD
      obtain ⟨hP, hD⟩ := hQ9
      rw [show upd (vv n see tm g) (Int32.toNatClampNeg 1) r_1 = vv n see tm (upd g 1 r_1) from vv_upd _ _ _ _ _ _ (by decide) (by decide) (by decide)] at hP hD
      obtain ⟨gg_12, hgg_12⟩ : ∃ z : Nat → Int32, z = upd g 1 r_1 := ⟨_, rfl⟩
      rw [← hgg_12] at hP hD
      have hQ9 := pd_mk [(h0, .inr (5, (fX5 h1 h2 h3 h4))), (aI k h1 10 (vv n see tm gg_12)), (x0, .inr (6, (fX6 x1 (nI tz) (nI ta__1) (nI nq_2) 2 (nI pl_2)))), (aB k x1 240 fx)] hP hD
      clear hP hD
      obtain ⟨hP, hD⟩ := hQ9
      refine lv_iload_n hx hb dX5_readClause_20 rfl (lv_at hl 2 rfl) ?_
      refine lv_bipush (v := 7) hx hb dX5_readClause_21 (by decide) ?_
      refine lv_icmp_ne (tgt := 58) hx hb dX5_readClause_23 (by decide) (fun _ => ?_) (fun h => absurd h (by decide))
      refine lv_aload_n hx hb dX5_readClause_58 rfl (lv_at hl 1 rfl) ?_
      refine rw_v (D := D) (wr := [(h0, .inr (5, (fX5 h1 h2 h3 h4))), (aI k h1 10 (vv n see tm gg_12))]) (va_runV (As := []) (rest := []) ⟨hx, hb, hml, hown, hts⟩ ((y_needSemicolon l D k st lo x0 x1 tz ta__1 (nI nq_2) 2 (nI pl_2) fx (by first | assumption | omega) (by first | assumption | omega)) H.size) (cwV 0 hts (gV tw_488 tw_489 tw_490 tw_80 tw_491) rfl rfl rfl (by decide +kernel) ⟨Nat.le_of_ble_eq_true rfl, Nat.le_of_ble_eq_true rfl⟩) (pV hS hAlo hlo hP hK (va_Dlo hD hAlo) hZ [2, 3] (by decide) rfl (ci := 6) (q := (RX6, TX6, 6)) (q0 := 0) rfl rfl) rfl rfl hl.1 rfl (lv_room (Nat.le_of_ble_eq_true rfl)) dX5_readClause_59 ⟨Nat.le_of_ble_eq_true rfl, Nat.le_of_ble_eq_true rfl⟩) hS hA hP hD [2, 3] [0, 1] rfl rfl (by decide) (by decide) (fun u H locs hw_13 hP hD hS => ?_)
      obtain ⟨ta__13, fn__13, fb__13⟩ := u
      have hQ9 := pd_mk [(h0, .inr (5, (fX5 h1 h2 h3 h4))), (aI k h1 10 (vv n see tm gg_12)), (x0, .inr (6, (fX6 x1 (nI tz) (nI ta__13) (nI nq_2) fn__13 fb__13))), (aB k x1 240 fx)] hP hD
      clear hP hD
      obtain ⟨hP, hD⟩ := hQ9
      try dsimp only at hw_13
      obtain ⟨hs0_14, hs1_14⟩ := hw_13.1 (by decide)
      replace hs0_14 := hs0_14.symm
      subst hs0_14
      replace hs1_14 := hs1_14.symm
      subst hs1_14
      obtain ⟨hP9, hD9⟩ := pd_sub [(h0, .inr (5, (fX5 h1 h2 h3 h4))), (aI k h1 10 (vv n see tm gg_12)), (x0, .inr (6, (fX6 x1 (nI tz) (nI ta__13) (nI nq_2) 2 (nI pl_2)))), (aB k x1 240 fx)] [0, 1, 2, 3] hP hD (by decide) rfl
      exact W.vret hx hb hr (fun t ht hW => ⟨⟨(see, tm, gg_12, ta__13, (nI nq_2), 2, (nI pl_2)), rfl, ⟨.inr ⟨2, pl_2, rfl, by decide, by decide, by simp [siC, siF, hq_2, (show zLE 1 = -50 from rfl), (show zMO 1 = 50 from rfl), (show decide ((1 : Nat) = 1) = true from rfl), -List.getD_eq_getElem?_getD], by simp [siC, siF, hq_2, (show zLE 1 = -50 from rfl), (show zMO 1 = 50 from rfl), (show decide ((1 : Nat) = 1) = true from rfl), -List.getD_eq_getElem?_getD], rfl⟩, by omega, by omega, by omega, by omega⟩, by rw [ht]; exact hP9, hD9⟩, hS.F ht⟩) hS.2.2 dX5_readClause_62
  · refine lv_aload_n hx hb dX5_readClause_0 rfl (lv_at hl 0 rfl) ?_
    refine va_get (D := D) (ci := 5) (v := .ref h1) (C := RX5) (T := TX5) (N := 4) hx hb hts inX5 hown hK hP 0 rfl rfl 0 (by decide) (hts _ tw_146) (fun _ h9 => h9) rfl dX5_readClause_1 ?_
    refine lv_iload_n hx hb dX5_readClause_4 rfl (lv_at hl 2 rfl) ?_
    refine lv_aload_n hx hb dX5_readClause_5 rfl (lv_at hl 1 rfl) ?_
    refine va_getsN (A := A) hx hb (hZ.2.2.2.2.1.narrow hAlo) hS hown ((hZ.2.2.2.2.2.2.2.2.1.2.1 (RX5, 106, "LastPlace", "LEAST", "[I", RX7) (List.mem_of_getElem? (i := 1) rfl)).use rfl) (fun _ h9 => h9) dX5_readClause_6 ?_
    refine lv_iload_n hx hb dX5_readClause_9 rfl (lv_at hl 2 rfl) ?_
    refine va_ti (A := A) hx hb (hZ.2.2.2.2.2.1.narrow hAlo) hS (i := 2) (by unfold vp_in; decide) (v := .int 0) rfl dX5_readClause_10 ?_
    refine va_getsN (A := A) hx hb (hZ.2.2.1.narrow hAlo) hS hown ((hZ.2.2.2.2.2.2.2.2.1.2.1 (RX5, 109, "LastPlace", "MOST", "[I", RX7) (List.mem_of_getElem? (i := 2) rfl)).use rfl) (fun _ h9 => h9) dX5_readClause_11 ?_
    refine lv_iload_n hx hb dX5_readClause_14 rfl (lv_at hl 2 rfl) ?_
    refine va_ti (A := A) hx hb (hZ.2.2.2.1.narrow hAlo) hS (i := 2) (by unfold vp_in; decide) (v := .int 99) rfl dX5_readClause_15 ?_
    refine rw_i (D := D) (wr := [(h0, .inr (5, (fX5 h1 h2 h3 h4))), (aI k h1 10 (vv n see tm g))]) (va_runV (As := [.int 0, .int 99]) (rest := [.int 2, .ref h1]) ⟨hx, hb, hml, hown, hts⟩ ((y_needNumber l D k st lo x0 x1 tz ta na 0 fb fx 0 99 (by first | assumption | omega) (by first | assumption | omega) (by decide)) s.heap.size) (cwV 2 hts (gV tw_467 tw_468 tw_469 tw_80 tw_470) rfl rfl rfl (by decide +kernel) ⟨Nat.le_of_ble_eq_true rfl, Nat.le_of_ble_eq_true rfl⟩) (pV hS hAlo hlo hP hK (va_Dlo hD hAlo) hZ [2, 3] (by decide) rfl (ci := 6) (q := (RX6, TX6, 6)) (q0 := 0) rfl rfl) rfl rfl hl.1 rfl (lv_room (Nat.le_of_ble_eq_true rfl)) dX5_readClause_16 ⟨Nat.le_of_ble_eq_true rfl, Nat.le_of_ble_eq_true rfl⟩) hS hA hP hD [2, 3] [0, 1] rfl rfl (by decide) (by decide) (fun r_15 u H locs hw_15 hP hD hS => ?_)
    obtain ⟨ta__15, na__15, fn__15, fb__15⟩ := u
    have hQ9 := pd_mk [(h0, .inr (5, (fX5 h1 h2 h3 h4))), (aI k h1 10 (vv n see tm g)), (x0, .inr (6, (fX6 x1 (nI tz) (nI ta__15) na__15 fn__15 fb__15))), (aB k x1 240 fx)] hP hD
    clear hP hD
    obtain ⟨hP, hD⟩ := hQ9
    try dsimp only at hw_15
    obtain ⟨pl_16, nq_16, rfl, hq_16⟩ := hw_15.2.1 rfl
    rw [show decide ((0 : Int32) < 0) = false from by decide] at hq_16
    rcases hq_16 with ⟨rfl, hq_16⟩ | ⟨rfl, hr_16, rfl, hq_16⟩ | ⟨rfl, hr_16, rfl, hq_16⟩
    · refine va_iast hx hb hK hP hD hS 1 1 rfl rfl (by unfold vp_in; decide) dX5_readClause_19 (fun H locs hP hD hS => ?_)
      have hQ9 := pd_mk [(h0, .inr (5, (fX5 h1 h2 h3 h4))), (aI k h1 10 (upd (vv n see tm g) (Int32.toNatClampNeg 2) r_15)), (x0, .inr (6, (fX6 x1 (nI tz) (nI ta__15) (nI nq_16) 0 fb__15))), (aB k x1 240 fx)] hP hD
      clear hP hD
      obtain ⟨hP, hD⟩ := hQ9
      rw [show upd (vv n see tm g) (Int32.toNatClampNeg 2) r_15 = vv n see tm (upd g 2 r_15) from vv_upd _ _ _ _ _ _ (by decide) (by decide) (by decide)] at hP hD
      obtain ⟨gg_18, hgg_18⟩ : ∃ z : Nat → Int32, z = upd g 2 r_15 := ⟨_, rfl⟩
      rw [← hgg_18] at hP hD
      have hQ9 := pd_mk [(h0, .inr (5, (fX5 h1 h2 h3 h4))), (aI k h1 10 (vv n see tm gg_18)), (x0, .inr (6, (fX6 x1 (nI tz) (nI ta__15) (nI nq_16) 0 fb__15))), (aB k x1 240 fx)] hP hD
      clear hP hD
      obtain ⟨hP, hD⟩ := hQ9
      refine lv_iload_n hx hb dX5_readClause_20 rfl (lv_at hl 2 rfl) ?_
      refine lv_bipush (v := 7) hx hb dX5_readClause_21 (by decide) ?_
      refine lv_icmp_ne (tgt := 58) hx hb dX5_readClause_23 (by decide) (fun _ => ?_) (fun h => absurd h (by decide))
      refine lv_aload_n hx hb dX5_readClause_58 rfl (lv_at hl 1 rfl) ?_
      refine rw_v (D := D) (wr := [(h0, .inr (5, (fX5 h1 h2 h3 h4))), (aI k h1 10 (vv n see tm gg_18))]) (va_runV (As := []) (rest := []) ⟨hx, hb, hml, hown, hts⟩ ((y_needSemicolon l D k st lo x0 x1 tz ta__15 (nI nq_16) 0 fb__15 fx (by first | assumption | omega) (by first | assumption | omega)) H.size) (cwV 0 hts (gV tw_488 tw_489 tw_490 tw_80 tw_491) rfl rfl rfl (by decide +kernel) ⟨Nat.le_of_ble_eq_true rfl, Nat.le_of_ble_eq_true rfl⟩) (pV hS hAlo hlo hP hK (va_Dlo hD hAlo) hZ [2, 3] (by decide) rfl (ci := 6) (q := (RX6, TX6, 6)) (q0 := 0) rfl rfl) rfl rfl hl.1 rfl (lv_room (Nat.le_of_ble_eq_true rfl)) dX5_readClause_59 ⟨Nat.le_of_ble_eq_true rfl, Nat.le_of_ble_eq_true rfl⟩) hS hA hP hD [2, 3] [0, 1] rfl rfl (by decide) (by decide) (fun u H locs hw_19 hP hD hS => ?_)
      obtain ⟨ta__19, fn__19, fb__19⟩ := u
      have hQ9 := pd_mk [(h0, .inr (5, (fX5 h1 h2 h3 h4))), (aI k h1 10 (vv n see tm gg_18)), (x0, .inr (6, (fX6 x1 (nI tz) (nI ta__19) (nI nq_16) fn__19 fb__19))), (aB k x1 240 fx)] hP hD
      clear hP hD
      obtain ⟨hP, hD⟩ := hQ9
      try dsimp only at hw_19
      rcases hw_19.2.1 rfl with ⟨rfl, hq_20⟩ | ⟨rfl, pl_20, hq_20, rfl⟩
      · obtain ⟨hP9, hD9⟩ := pd_sub [(h0, .inr (5, (fX5 h1 h2 h3 h4))), (aI k h1 10 (vv n see tm gg_18)), (x0, .inr (6, (fX6 x1 (nI tz) (nI ta__19) (nI nq_16) 0 fb__19))), (aB k x1 240 fx)] [0, 1, 2, 3] hP hD (by decide) rfl
        exact W.vret hx hb hr (fun t ht hW => ⟨⟨(see, tm, gg_18, ta__19, (nI nq_16), 0, fb__19), rfl, ⟨.inl ⟨rfl, r_15, 0, (by simp [siC, siF, hq_16, hq_20, (show zLE 2 = 0 from rfl), (show zMO 2 = 99 from rfl), (show decide ((2 : Nat) = 1) = false from rfl), -List.getD_eq_getElem?_getD]), by rw [if_neg (by decide), vv_upd _ _ _ _ 2 _ (by decide) (by decide) (by decide), hgg_18]⟩, by omega, by omega, by omega, by omega⟩, by rw [ht]; exact hP9, hD9⟩, hS.F ht⟩) hS.2.2 dX5_readClause_62
      · obtain ⟨hP9, hD9⟩ := pd_sub [(h0, .inr (5, (fX5 h1 h2 h3 h4))), (aI k h1 10 (vv n see tm gg_18)), (x0, .inr (6, (fX6 x1 (nI tz) (nI ta__19) (nI nq_16) 1 (nI pl_20)))), (aB k x1 240 fx)] [0, 1, 2, 3] hP hD (by decide) rfl
        exact W.vret hx hb hr (fun t ht hW => ⟨⟨(see, tm, gg_18, ta__19, (nI nq_16), 1, (nI pl_20)), rfl, ⟨.inr ⟨1, pl_20, rfl, by decide, by decide, by simp [siC, siF, hq_16, hq_20, (show zLE 2 = 0 from rfl), (show zMO 2 = 99 from rfl), (show decide ((2 : Nat) = 1) = false from rfl), -List.getD_eq_getElem?_getD], by simp [siC, siF, hq_16, hq_20, (show zLE 2 = 0 from rfl), (show zMO 2 = 99 from rfl), (show decide ((2 : Nat) = 1) = false from rfl), -List.getD_eq_getElem?_getD], rfl⟩, by omega, by omega, by omega, by omega⟩, by rw [ht]; exact hP9, hD9⟩, hS.F ht⟩) hS.2.2 dX5_readClause_62
    · refine va_iast hx hb hK hP hD hS 1 1 rfl rfl (by unfold vp_in; decide) dX5_readClause_19 (fun H locs hP hD hS => ?_)
      have hQ9 := pd_mk [(h0, .inr (5, (fX5 h1 h2 h3 h4))), (aI k h1 10 (upd (vv n see tm g) (Int32.toNatClampNeg 2) r_15)), (x0, .inr (6, (fX6 x1 (nI tz) (nI ta__15) (nI nq_16) 1 (nI pl_16)))), (aB k x1 240 fx)] hP hD
      clear hP hD
      obtain ⟨hP, hD⟩ := hQ9
      rw [show upd (vv n see tm g) (Int32.toNatClampNeg 2) r_15 = vv n see tm (upd g 2 r_15) from vv_upd _ _ _ _ _ _ (by decide) (by decide) (by decide)] at hP hD
      obtain ⟨gg_22, hgg_22⟩ : ∃ z : Nat → Int32, z = upd g 2 r_15 := ⟨_, rfl⟩
      rw [← hgg_22] at hP hD
      have hQ9 := pd_mk [(h0, .inr (5, (fX5 h1 h2 h3 h4))), (aI k h1 10 (vv n see tm gg_22)), (x0, .inr (6, (fX6 x1 (nI tz) (nI ta__15) (nI nq_16) 1 (nI pl_16)))), (aB k x1 240 fx)] hP hD
      clear hP hD
      obtain ⟨hP, hD⟩ := hQ9
      refine lv_iload_n hx hb dX5_readClause_20 rfl (lv_at hl 2 rfl) ?_
      refine lv_bipush (v := 7) hx hb dX5_readClause_21 (by decide) ?_
      refine lv_icmp_ne (tgt := 58) hx hb dX5_readClause_23 (by decide) (fun _ => ?_) (fun h => absurd h (by decide))
      refine lv_aload_n hx hb dX5_readClause_58 rfl (lv_at hl 1 rfl) ?_
      refine rw_v (D := D) (wr := [(h0, .inr (5, (fX5 h1 h2 h3 h4))), (aI k h1 10 (vv n see tm gg_22))]) (va_runV (As := []) (rest := []) ⟨hx, hb, hml, hown, hts⟩ ((y_needSemicolon l D k st lo x0 x1 tz ta__15 (nI nq_16) 1 (nI pl_16) fx (by first | assumption | omega) (by first | assumption | omega)) H.size) (cwV 0 hts (gV tw_488 tw_489 tw_490 tw_80 tw_491) rfl rfl rfl (by decide +kernel) ⟨Nat.le_of_ble_eq_true rfl, Nat.le_of_ble_eq_true rfl⟩) (pV hS hAlo hlo hP hK (va_Dlo hD hAlo) hZ [2, 3] (by decide) rfl (ci := 6) (q := (RX6, TX6, 6)) (q0 := 0) rfl rfl) rfl rfl hl.1 rfl (lv_room (Nat.le_of_ble_eq_true rfl)) dX5_readClause_59 ⟨Nat.le_of_ble_eq_true rfl, Nat.le_of_ble_eq_true rfl⟩) hS hA hP hD [2, 3] [0, 1] rfl rfl (by decide) (by decide) (fun u H locs hw_23 hP hD hS => ?_)
      obtain ⟨ta__23, fn__23, fb__23⟩ := u
      have hQ9 := pd_mk [(h0, .inr (5, (fX5 h1 h2 h3 h4))), (aI k h1 10 (vv n see tm gg_22)), (x0, .inr (6, (fX6 x1 (nI tz) (nI ta__23) (nI nq_16) fn__23 fb__23))), (aB k x1 240 fx)] hP hD
      clear hP hD
      obtain ⟨hP, hD⟩ := hQ9
      try dsimp only at hw_23
      obtain ⟨hs0_24, hs1_24⟩ := hw_23.1 (by decide)
      replace hs0_24 := hs0_24.symm
      subst hs0_24
      replace hs1_24 := hs1_24.symm
      subst hs1_24
      obtain ⟨hP9, hD9⟩ := pd_sub [(h0, .inr (5, (fX5 h1 h2 h3 h4))), (aI k h1 10 (vv n see tm gg_22)), (x0, .inr (6, (fX6 x1 (nI tz) (nI ta__23) (nI nq_16) 1 (nI pl_16)))), (aB k x1 240 fx)] [0, 1, 2, 3] hP hD (by decide) rfl
      exact W.vret hx hb hr (fun t ht hW => ⟨⟨(see, tm, gg_22, ta__23, (nI nq_16), 1, (nI pl_16)), rfl, ⟨.inr ⟨1, pl_16, rfl, by decide, by decide, by simp [siC, siF, hq_16, (show zLE 2 = 0 from rfl), (show zMO 2 = 99 from rfl), (show decide ((2 : Nat) = 1) = false from rfl), -List.getD_eq_getElem?_getD], by simp [siC, siF, hq_16, (show zLE 2 = 0 from rfl), (show zMO 2 = 99 from rfl), (show decide ((2 : Nat) = 1) = false from rfl), -List.getD_eq_getElem?_getD], rfl⟩, by omega, by omega, by omega, by omega⟩, by rw [ht]; exact hP9, hD9⟩, hS.F ht⟩) hS.2.2 dX5_readClause_62
    · refine va_iast hx hb hK hP hD hS 1 1 rfl rfl (by unfold vp_in; decide) dX5_readClause_19 (fun H locs hP hD hS => ?_)
      have hQ9 := pd_mk [(h0, .inr (5, (fX5 h1 h2 h3 h4))), (aI k h1 10 (upd (vv n see tm g) (Int32.toNatClampNeg 2) r_15)), (x0, .inr (6, (fX6 x1 (nI tz) (nI ta__15) (nI nq_16) 2 (nI pl_16)))), (aB k x1 240 fx)] hP hD
      clear hP hD
      obtain ⟨hP, hD⟩ := hQ9
      rw [show upd (vv n see tm g) (Int32.toNatClampNeg 2) r_15 = vv n see tm (upd g 2 r_15) from vv_upd _ _ _ _ _ _ (by decide) (by decide) (by decide)] at hP hD
      obtain ⟨gg_26, hgg_26⟩ : ∃ z : Nat → Int32, z = upd g 2 r_15 := ⟨_, rfl⟩
      rw [← hgg_26] at hP hD
      have hQ9 := pd_mk [(h0, .inr (5, (fX5 h1 h2 h3 h4))), (aI k h1 10 (vv n see tm gg_26)), (x0, .inr (6, (fX6 x1 (nI tz) (nI ta__15) (nI nq_16) 2 (nI pl_16)))), (aB k x1 240 fx)] hP hD
      clear hP hD
      obtain ⟨hP, hD⟩ := hQ9
      refine lv_iload_n hx hb dX5_readClause_20 rfl (lv_at hl 2 rfl) ?_
      refine lv_bipush (v := 7) hx hb dX5_readClause_21 (by decide) ?_
      refine lv_icmp_ne (tgt := 58) hx hb dX5_readClause_23 (by decide) (fun _ => ?_) (fun h => absurd h (by decide))
      refine lv_aload_n hx hb dX5_readClause_58 rfl (lv_at hl 1 rfl) ?_
      refine rw_v (D := D) (wr := [(h0, .inr (5, (fX5 h1 h2 h3 h4))), (aI k h1 10 (vv n see tm gg_26))]) (va_runV (As := []) (rest := []) ⟨hx, hb, hml, hown, hts⟩ ((y_needSemicolon l D k st lo x0 x1 tz ta__15 (nI nq_16) 2 (nI pl_16) fx (by first | assumption | omega) (by first | assumption | omega)) H.size) (cwV 0 hts (gV tw_488 tw_489 tw_490 tw_80 tw_491) rfl rfl rfl (by decide +kernel) ⟨Nat.le_of_ble_eq_true rfl, Nat.le_of_ble_eq_true rfl⟩) (pV hS hAlo hlo hP hK (va_Dlo hD hAlo) hZ [2, 3] (by decide) rfl (ci := 6) (q := (RX6, TX6, 6)) (q0 := 0) rfl rfl) rfl rfl hl.1 rfl (lv_room (Nat.le_of_ble_eq_true rfl)) dX5_readClause_59 ⟨Nat.le_of_ble_eq_true rfl, Nat.le_of_ble_eq_true rfl⟩) hS hA hP hD [2, 3] [0, 1] rfl rfl (by decide) (by decide) (fun u H locs hw_27 hP hD hS => ?_)
      obtain ⟨ta__27, fn__27, fb__27⟩ := u
      have hQ9 := pd_mk [(h0, .inr (5, (fX5 h1 h2 h3 h4))), (aI k h1 10 (vv n see tm gg_26)), (x0, .inr (6, (fX6 x1 (nI tz) (nI ta__27) (nI nq_16) fn__27 fb__27))), (aB k x1 240 fx)] hP hD
      clear hP hD
      obtain ⟨hP, hD⟩ := hQ9
      try dsimp only at hw_27
      obtain ⟨hs0_28, hs1_28⟩ := hw_27.1 (by decide)
      replace hs0_28 := hs0_28.symm
      subst hs0_28
      replace hs1_28 := hs1_28.symm
      subst hs1_28
      obtain ⟨hP9, hD9⟩ := pd_sub [(h0, .inr (5, (fX5 h1 h2 h3 h4))), (aI k h1 10 (vv n see tm gg_26)), (x0, .inr (6, (fX6 x1 (nI tz) (nI ta__27) (nI nq_16) 2 (nI pl_16)))), (aB k x1 240 fx)] [0, 1, 2, 3] hP hD (by decide) rfl
      exact W.vret hx hb hr (fun t ht hW => ⟨⟨(see, tm, gg_26, ta__27, (nI nq_16), 2, (nI pl_16)), rfl, ⟨.inr ⟨2, pl_16, rfl, by decide, by decide, by simp [siC, siF, hq_16, (show zLE 2 = 0 from rfl), (show zMO 2 = 99 from rfl), (show decide ((2 : Nat) = 1) = false from rfl), -List.getD_eq_getElem?_getD], by simp [siC, siF, hq_16, (show zLE 2 = 0 from rfl), (show zMO 2 = 99 from rfl), (show decide ((2 : Nat) = 1) = false from rfl), -List.getD_eq_getElem?_getD], rfl⟩, by omega, by omega, by omega, by omega⟩, by rw [ht]; exact hP9, hD9⟩, hS.F ht⟩) hS.2.2 dX5_readClause_62
  · refine lv_aload_n hx hb dX5_readClause_0 rfl (lv_at hl 0 rfl) ?_
    refine va_get (D := D) (ci := 5) (v := .ref h1) (C := RX5) (T := TX5) (N := 4) hx hb hts inX5 hown hK hP 0 rfl rfl 0 (by decide) (hts _ tw_146) (fun _ h9 => h9) rfl dX5_readClause_1 ?_
    refine lv_iload_n hx hb dX5_readClause_4 rfl (lv_at hl 2 rfl) ?_
    refine lv_aload_n hx hb dX5_readClause_5 rfl (lv_at hl 1 rfl) ?_
    refine va_getsN (A := A) hx hb (hZ.2.2.2.2.1.narrow hAlo) hS hown ((hZ.2.2.2.2.2.2.2.2.1.2.1 (RX5, 106, "LastPlace", "LEAST", "[I", RX7) (List.mem_of_getElem? (i := 1) rfl)).use rfl) (fun _ h9 => h9) dX5_readClause_6 ?_
    refine lv_iload_n hx hb dX5_readClause_9 rfl (lv_at hl 2 rfl) ?_
    refine va_ti (A := A) hx hb (hZ.2.2.2.2.2.1.narrow hAlo) hS (i := 3) (by unfold vp_in; decide) (v := .int 0) rfl dX5_readClause_10 ?_
    refine va_getsN (A := A) hx hb (hZ.2.2.1.narrow hAlo) hS hown ((hZ.2.2.2.2.2.2.2.2.1.2.1 (RX5, 109, "LastPlace", "MOST", "[I", RX7) (List.mem_of_getElem? (i := 2) rfl)).use rfl) (fun _ h9 => h9) dX5_readClause_11 ?_
    refine lv_iload_n hx hb dX5_readClause_14 rfl (lv_at hl 2 rfl) ?_
    refine va_ti (A := A) hx hb (hZ.2.2.2.1.narrow hAlo) hS (i := 3) (by unfold vp_in; decide) (v := .int 99) rfl dX5_readClause_15 ?_
    refine rw_i (D := D) (wr := [(h0, .inr (5, (fX5 h1 h2 h3 h4))), (aI k h1 10 (vv n see tm g))]) (va_runV (As := [.int 0, .int 99]) (rest := [.int 3, .ref h1]) ⟨hx, hb, hml, hown, hts⟩ ((y_needNumber l D k st lo x0 x1 tz ta na 0 fb fx 0 99 (by first | assumption | omega) (by first | assumption | omega) (by decide)) s.heap.size) (cwV 2 hts (gV tw_467 tw_468 tw_469 tw_80 tw_470) rfl rfl rfl (by decide +kernel) ⟨Nat.le_of_ble_eq_true rfl, Nat.le_of_ble_eq_true rfl⟩) (pV hS hAlo hlo hP hK (va_Dlo hD hAlo) hZ [2, 3] (by decide) rfl (ci := 6) (q := (RX6, TX6, 6)) (q0 := 0) rfl rfl) rfl rfl hl.1 rfl (lv_room (Nat.le_of_ble_eq_true rfl)) dX5_readClause_16 ⟨Nat.le_of_ble_eq_true rfl, Nat.le_of_ble_eq_true rfl⟩) hS hA hP hD [2, 3] [0, 1] rfl rfl (by decide) (by decide) (fun r_29 u H locs hw_29 hP hD hS => ?_)
    obtain ⟨ta__29, na__29, fn__29, fb__29⟩ := u
    have hQ9 := pd_mk [(h0, .inr (5, (fX5 h1 h2 h3 h4))), (aI k h1 10 (vv n see tm g)), (x0, .inr (6, (fX6 x1 (nI tz) (nI ta__29) na__29 fn__29 fb__29))), (aB k x1 240 fx)] hP hD
    clear hP hD
    obtain ⟨hP, hD⟩ := hQ9
    try dsimp only at hw_29
    obtain ⟨pl_30, nq_30, rfl, hq_30⟩ := hw_29.2.1 rfl
    rw [show decide ((0 : Int32) < 0) = false from by decide] at hq_30
    rcases hq_30 with ⟨rfl, hq_30⟩ | ⟨rfl, hr_30, rfl, hq_30⟩ | ⟨rfl, hr_30, rfl, hq_30⟩
    · refine va_iast hx hb hK hP hD hS 1 1 rfl rfl (by unfold vp_in; decide) dX5_readClause_19 (fun H locs hP hD hS => ?_)
      have hQ9 := pd_mk [(h0, .inr (5, (fX5 h1 h2 h3 h4))), (aI k h1 10 (upd (vv n see tm g) (Int32.toNatClampNeg 3) r_29)), (x0, .inr (6, (fX6 x1 (nI tz) (nI ta__29) (nI nq_30) 0 fb__29))), (aB k x1 240 fx)] hP hD
      clear hP hD
      obtain ⟨hP, hD⟩ := hQ9
      rw [show upd (vv n see tm g) (Int32.toNatClampNeg 3) r_29 = vv n see tm (upd g 3 r_29) from vv_upd _ _ _ _ _ _ (by decide) (by decide) (by decide)] at hP hD
      obtain ⟨gg_32, hgg_32⟩ : ∃ z : Nat → Int32, z = upd g 3 r_29 := ⟨_, rfl⟩
      rw [← hgg_32] at hP hD
      have hQ9 := pd_mk [(h0, .inr (5, (fX5 h1 h2 h3 h4))), (aI k h1 10 (vv n see tm gg_32)), (x0, .inr (6, (fX6 x1 (nI tz) (nI ta__29) (nI nq_30) 0 fb__29))), (aB k x1 240 fx)] hP hD
      clear hP hD
      obtain ⟨hP, hD⟩ := hQ9
      refine lv_iload_n hx hb dX5_readClause_20 rfl (lv_at hl 2 rfl) ?_
      refine lv_bipush (v := 7) hx hb dX5_readClause_21 (by decide) ?_
      refine lv_icmp_ne (tgt := 58) hx hb dX5_readClause_23 (by decide) (fun _ => ?_) (fun h => absurd h (by decide))
      refine lv_aload_n hx hb dX5_readClause_58 rfl (lv_at hl 1 rfl) ?_
      refine rw_v (D := D) (wr := [(h0, .inr (5, (fX5 h1 h2 h3 h4))), (aI k h1 10 (vv n see tm gg_32))]) (va_runV (As := []) (rest := []) ⟨hx, hb, hml, hown, hts⟩ ((y_needSemicolon l D k st lo x0 x1 tz ta__29 (nI nq_30) 0 fb__29 fx (by first | assumption | omega) (by first | assumption | omega)) H.size) (cwV 0 hts (gV tw_488 tw_489 tw_490 tw_80 tw_491) rfl rfl rfl (by decide +kernel) ⟨Nat.le_of_ble_eq_true rfl, Nat.le_of_ble_eq_true rfl⟩) (pV hS hAlo hlo hP hK (va_Dlo hD hAlo) hZ [2, 3] (by decide) rfl (ci := 6) (q := (RX6, TX6, 6)) (q0 := 0) rfl rfl) rfl rfl hl.1 rfl (lv_room (Nat.le_of_ble_eq_true rfl)) dX5_readClause_59 ⟨Nat.le_of_ble_eq_true rfl, Nat.le_of_ble_eq_true rfl⟩) hS hA hP hD [2, 3] [0, 1] rfl rfl (by decide) (by decide) (fun u H locs hw_33 hP hD hS => ?_)
      obtain ⟨ta__33, fn__33, fb__33⟩ := u
      have hQ9 := pd_mk [(h0, .inr (5, (fX5 h1 h2 h3 h4))), (aI k h1 10 (vv n see tm gg_32)), (x0, .inr (6, (fX6 x1 (nI tz) (nI ta__33) (nI nq_30) fn__33 fb__33))), (aB k x1 240 fx)] hP hD
      clear hP hD
      obtain ⟨hP, hD⟩ := hQ9
      try dsimp only at hw_33
      rcases hw_33.2.1 rfl with ⟨rfl, hq_34⟩ | ⟨rfl, pl_34, hq_34, rfl⟩
      · obtain ⟨hP9, hD9⟩ := pd_sub [(h0, .inr (5, (fX5 h1 h2 h3 h4))), (aI k h1 10 (vv n see tm gg_32)), (x0, .inr (6, (fX6 x1 (nI tz) (nI ta__33) (nI nq_30) 0 fb__33))), (aB k x1 240 fx)] [0, 1, 2, 3] hP hD (by decide) rfl
        exact W.vret hx hb hr (fun t ht hW => ⟨⟨(see, tm, gg_32, ta__33, (nI nq_30), 0, fb__33), rfl, ⟨.inl ⟨rfl, r_29, 0, (by simp [siC, siF, hq_30, hq_34, (show zLE 3 = 0 from rfl), (show zMO 3 = 99 from rfl), (show decide ((3 : Nat) = 1) = false from rfl), -List.getD_eq_getElem?_getD]), by rw [if_neg (by decide), vv_upd _ _ _ _ 3 _ (by decide) (by decide) (by decide), hgg_32]⟩, by omega, by omega, by omega, by omega⟩, by rw [ht]; exact hP9, hD9⟩, hS.F ht⟩) hS.2.2 dX5_readClause_62
      · obtain ⟨hP9, hD9⟩ := pd_sub [(h0, .inr (5, (fX5 h1 h2 h3 h4))), (aI k h1 10 (vv n see tm gg_32)), (x0, .inr (6, (fX6 x1 (nI tz) (nI ta__33) (nI nq_30) 1 (nI pl_34)))), (aB k x1 240 fx)] [0, 1, 2, 3] hP hD (by decide) rfl
        exact W.vret hx hb hr (fun t ht hW => ⟨⟨(see, tm, gg_32, ta__33, (nI nq_30), 1, (nI pl_34)), rfl, ⟨.inr ⟨1, pl_34, rfl, by decide, by decide, by simp [siC, siF, hq_30, hq_34, (show zLE 3 = 0 from rfl), (show zMO 3 = 99 from rfl), (show decide ((3 : Nat) = 1) = false from rfl), -List.getD_eq_getElem?_getD], by simp [siC, siF, hq_30, hq_34, (show zLE 3 = 0 from rfl), (show zMO 3 = 99 from rfl), (show decide ((3 : Nat) = 1) = false from rfl), -List.getD_eq_getElem?_getD], rfl⟩, by omega, by omega, by omega, by omega⟩, by rw [ht]; exact hP9, hD9⟩, hS.F ht⟩) hS.2.2 dX5_readClause_62
    · refine va_iast hx hb hK hP hD hS 1 1 rfl rfl (by unfold vp_in; decide) dX5_readClause_19 (fun H locs hP hD hS => ?_)
      have hQ9 := pd_mk [(h0, .inr (5, (fX5 h1 h2 h3 h4))), (aI k h1 10 (upd (vv n see tm g) (Int32.toNatClampNeg 3) r_29)), (x0, .inr (6, (fX6 x1 (nI tz) (nI ta__29) (nI nq_30) 1 (nI pl_30)))), (aB k x1 240 fx)] hP hD
      clear hP hD
      obtain ⟨hP, hD⟩ := hQ9
      rw [show upd (vv n see tm g) (Int32.toNatClampNeg 3) r_29 = vv n see tm (upd g 3 r_29) from vv_upd _ _ _ _ _ _ (by decide) (by decide) (by decide)] at hP hD
      obtain ⟨gg_36, hgg_36⟩ : ∃ z : Nat → Int32, z = upd g 3 r_29 := ⟨_, rfl⟩
      rw [← hgg_36] at hP hD
      have hQ9 := pd_mk [(h0, .inr (5, (fX5 h1 h2 h3 h4))), (aI k h1 10 (vv n see tm gg_36)), (x0, .inr (6, (fX6 x1 (nI tz) (nI ta__29) (nI nq_30) 1 (nI pl_30)))), (aB k x1 240 fx)] hP hD
      clear hP hD
      obtain ⟨hP, hD⟩ := hQ9
      refine lv_iload_n hx hb dX5_readClause_20 rfl (lv_at hl 2 rfl) ?_
      refine lv_bipush (v := 7) hx hb dX5_readClause_21 (by decide) ?_
      refine lv_icmp_ne (tgt := 58) hx hb dX5_readClause_23 (by decide) (fun _ => ?_) (fun h => absurd h (by decide))
      refine lv_aload_n hx hb dX5_readClause_58 rfl (lv_at hl 1 rfl) ?_
      refine rw_v (D := D) (wr := [(h0, .inr (5, (fX5 h1 h2 h3 h4))), (aI k h1 10 (vv n see tm gg_36))]) (va_runV (As := []) (rest := []) ⟨hx, hb, hml, hown, hts⟩ ((y_needSemicolon l D k st lo x0 x1 tz ta__29 (nI nq_30) 1 (nI pl_30) fx (by first | assumption | omega) (by first | assumption | omega)) H.size) (cwV 0 hts (gV tw_488 tw_489 tw_490 tw_80 tw_491) rfl rfl rfl (by decide +kernel) ⟨Nat.le_of_ble_eq_true rfl, Nat.le_of_ble_eq_true rfl⟩) (pV hS hAlo hlo hP hK (va_Dlo hD hAlo) hZ [2, 3] (by decide) rfl (ci := 6) (q := (RX6, TX6, 6)) (q0 := 0) rfl rfl) rfl rfl hl.1 rfl (lv_room (Nat.le_of_ble_eq_true rfl)) dX5_readClause_59 ⟨Nat.le_of_ble_eq_true rfl, Nat.le_of_ble_eq_true rfl⟩) hS hA hP hD [2, 3] [0, 1] rfl rfl (by decide) (by decide) (fun u H locs hw_37 hP hD hS => ?_)
      obtain ⟨ta__37, fn__37, fb__37⟩ := u
      have hQ9 := pd_mk [(h0, .inr (5, (fX5 h1 h2 h3 h4))), (aI k h1 10 (vv n see tm gg_36)), (x0, .inr (6, (fX6 x1 (nI tz) (nI ta__37) (nI nq_30) fn__37 fb__37))), (aB k x1 240 fx)] hP hD
      clear hP hD
      obtain ⟨hP, hD⟩ := hQ9
      try dsimp only at hw_37
      obtain ⟨hs0_38, hs1_38⟩ := hw_37.1 (by decide)
      replace hs0_38 := hs0_38.symm
      subst hs0_38
      replace hs1_38 := hs1_38.symm
      subst hs1_38
      obtain ⟨hP9, hD9⟩ := pd_sub [(h0, .inr (5, (fX5 h1 h2 h3 h4))), (aI k h1 10 (vv n see tm gg_36)), (x0, .inr (6, (fX6 x1 (nI tz) (nI ta__37) (nI nq_30) 1 (nI pl_30)))), (aB k x1 240 fx)] [0, 1, 2, 3] hP hD (by decide) rfl
      exact W.vret hx hb hr (fun t ht hW => ⟨⟨(see, tm, gg_36, ta__37, (nI nq_30), 1, (nI pl_30)), rfl, ⟨.inr ⟨1, pl_30, rfl, by decide, by decide, by simp [siC, siF, hq_30, (show zLE 3 = 0 from rfl), (show zMO 3 = 99 from rfl), (show decide ((3 : Nat) = 1) = false from rfl), -List.getD_eq_getElem?_getD], by simp [siC, siF, hq_30, (show zLE 3 = 0 from rfl), (show zMO 3 = 99 from rfl), (show decide ((3 : Nat) = 1) = false from rfl), -List.getD_eq_getElem?_getD], rfl⟩, by omega, by omega, by omega, by omega⟩, by rw [ht]; exact hP9, hD9⟩, hS.F ht⟩) hS.2.2 dX5_readClause_62
    · refine va_iast hx hb hK hP hD hS 1 1 rfl rfl (by unfold vp_in; decide) dX5_readClause_19 (fun H locs hP hD hS => ?_)
      have hQ9 := pd_mk [(h0, .inr (5, (fX5 h1 h2 h3 h4))), (aI k h1 10 (upd (vv n see tm g) (Int32.toNatClampNeg 3) r_29)), (x0, .inr (6, (fX6 x1 (nI tz) (nI ta__29) (nI nq_30) 2 (nI pl_30)))), (aB k x1 240 fx)] hP hD
      clear hP hD
      obtain ⟨hP, hD⟩ := hQ9
      rw [show upd (vv n see tm g) (Int32.toNatClampNeg 3) r_29 = vv n see tm (upd g 3 r_29) from vv_upd _ _ _ _ _ _ (by decide) (by decide) (by decide)] at hP hD
      obtain ⟨gg_40, hgg_40⟩ : ∃ z : Nat → Int32, z = upd g 3 r_29 := ⟨_, rfl⟩
      rw [← hgg_40] at hP hD
      have hQ9 := pd_mk [(h0, .inr (5, (fX5 h1 h2 h3 h4))), (aI k h1 10 (vv n see tm gg_40)), (x0, .inr (6, (fX6 x1 (nI tz) (nI ta__29) (nI nq_30) 2 (nI pl_30)))), (aB k x1 240 fx)] hP hD
      clear hP hD
      obtain ⟨hP, hD⟩ := hQ9
      refine lv_iload_n hx hb dX5_readClause_20 rfl (lv_at hl 2 rfl) ?_
      refine lv_bipush (v := 7) hx hb dX5_readClause_21 (by decide) ?_
      refine lv_icmp_ne (tgt := 58) hx hb dX5_readClause_23 (by decide) (fun _ => ?_) (fun h => absurd h (by decide))
      refine lv_aload_n hx hb dX5_readClause_58 rfl (lv_at hl 1 rfl) ?_
      refine rw_v (D := D) (wr := [(h0, .inr (5, (fX5 h1 h2 h3 h4))), (aI k h1 10 (vv n see tm gg_40))]) (va_runV (As := []) (rest := []) ⟨hx, hb, hml, hown, hts⟩ ((y_needSemicolon l D k st lo x0 x1 tz ta__29 (nI nq_30) 2 (nI pl_30) fx (by first | assumption | omega) (by first | assumption | omega)) H.size) (cwV 0 hts (gV tw_488 tw_489 tw_490 tw_80 tw_491) rfl rfl rfl (by decide +kernel) ⟨Nat.le_of_ble_eq_true rfl, Nat.le_of_ble_eq_true rfl⟩) (pV hS hAlo hlo hP hK (va_Dlo hD hAlo) hZ [2, 3] (by decide) rfl (ci := 6) (q := (RX6, TX6, 6)) (q0 := 0) rfl rfl) rfl rfl hl.1 rfl (lv_room (Nat.le_of_ble_eq_true rfl)) dX5_readClause_59 ⟨Nat.le_of_ble_eq_true rfl, Nat.le_of_ble_eq_true rfl⟩) hS hA hP hD [2, 3] [0, 1] rfl rfl (by decide) (by decide) (fun u H locs hw_41 hP hD hS => ?_)
      obtain ⟨ta__41, fn__41, fb__41⟩ := u
      have hQ9 := pd_mk [(h0, .inr (5, (fX5 h1 h2 h3 h4))), (aI k h1 10 (vv n see tm gg_40)), (x0, .inr (6, (fX6 x1 (nI tz) (nI ta__41) (nI nq_30) fn__41 fb__41))), (aB k x1 240 fx)] hP hD
      clear hP hD
      obtain ⟨hP, hD⟩ := hQ9
      try dsimp only at hw_41
      obtain ⟨hs0_42, hs1_42⟩ := hw_41.1 (by decide)
      replace hs0_42 := hs0_42.symm
      subst hs0_42
      replace hs1_42 := hs1_42.symm
      subst hs1_42
      obtain ⟨hP9, hD9⟩ := pd_sub [(h0, .inr (5, (fX5 h1 h2 h3 h4))), (aI k h1 10 (vv n see tm gg_40)), (x0, .inr (6, (fX6 x1 (nI tz) (nI ta__41) (nI nq_30) 2 (nI pl_30)))), (aB k x1 240 fx)] [0, 1, 2, 3] hP hD (by decide) rfl
      exact W.vret hx hb hr (fun t ht hW => ⟨⟨(see, tm, gg_40, ta__41, (nI nq_30), 2, (nI pl_30)), rfl, ⟨.inr ⟨2, pl_30, rfl, by decide, by decide, by simp [siC, siF, hq_30, (show zLE 3 = 0 from rfl), (show zMO 3 = 99 from rfl), (show decide ((3 : Nat) = 1) = false from rfl), -List.getD_eq_getElem?_getD], by simp [siC, siF, hq_30, (show zLE 3 = 0 from rfl), (show zMO 3 = 99 from rfl), (show decide ((3 : Nat) = 1) = false from rfl), -List.getD_eq_getElem?_getD], rfl⟩, by omega, by omega, by omega, by omega⟩, by rw [ht]; exact hP9, hD9⟩, hS.F ht⟩) hS.2.2 dX5_readClause_62
  · refine lv_aload_n hx hb dX5_readClause_0 rfl (lv_at hl 0 rfl) ?_
    refine va_get (D := D) (ci := 5) (v := .ref h1) (C := RX5) (T := TX5) (N := 4) hx hb hts inX5 hown hK hP 0 rfl rfl 0 (by decide) (hts _ tw_146) (fun _ h9 => h9) rfl dX5_readClause_1 ?_
    refine lv_iload_n hx hb dX5_readClause_4 rfl (lv_at hl 2 rfl) ?_
    refine lv_aload_n hx hb dX5_readClause_5 rfl (lv_at hl 1 rfl) ?_
    refine va_getsN (A := A) hx hb (hZ.2.2.2.2.1.narrow hAlo) hS hown ((hZ.2.2.2.2.2.2.2.2.1.2.1 (RX5, 106, "LastPlace", "LEAST", "[I", RX7) (List.mem_of_getElem? (i := 1) rfl)).use rfl) (fun _ h9 => h9) dX5_readClause_6 ?_
    refine lv_iload_n hx hb dX5_readClause_9 rfl (lv_at hl 2 rfl) ?_
    refine va_ti (A := A) hx hb (hZ.2.2.2.2.2.1.narrow hAlo) hS (i := 4) (by unfold vp_in; decide) (v := .int 0) rfl dX5_readClause_10 ?_
    refine va_getsN (A := A) hx hb (hZ.2.2.1.narrow hAlo) hS hown ((hZ.2.2.2.2.2.2.2.2.1.2.1 (RX5, 109, "LastPlace", "MOST", "[I", RX7) (List.mem_of_getElem? (i := 2) rfl)).use rfl) (fun _ h9 => h9) dX5_readClause_11 ?_
    refine lv_iload_n hx hb dX5_readClause_14 rfl (lv_at hl 2 rfl) ?_
    refine va_ti (A := A) hx hb (hZ.2.2.2.1.narrow hAlo) hS (i := 4) (by unfold vp_in; decide) (v := .int 99) rfl dX5_readClause_15 ?_
    refine rw_i (D := D) (wr := [(h0, .inr (5, (fX5 h1 h2 h3 h4))), (aI k h1 10 (vv n see tm g))]) (va_runV (As := [.int 0, .int 99]) (rest := [.int 4, .ref h1]) ⟨hx, hb, hml, hown, hts⟩ ((y_needNumber l D k st lo x0 x1 tz ta na 0 fb fx 0 99 (by first | assumption | omega) (by first | assumption | omega) (by decide)) s.heap.size) (cwV 2 hts (gV tw_467 tw_468 tw_469 tw_80 tw_470) rfl rfl rfl (by decide +kernel) ⟨Nat.le_of_ble_eq_true rfl, Nat.le_of_ble_eq_true rfl⟩) (pV hS hAlo hlo hP hK (va_Dlo hD hAlo) hZ [2, 3] (by decide) rfl (ci := 6) (q := (RX6, TX6, 6)) (q0 := 0) rfl rfl) rfl rfl hl.1 rfl (lv_room (Nat.le_of_ble_eq_true rfl)) dX5_readClause_16 ⟨Nat.le_of_ble_eq_true rfl, Nat.le_of_ble_eq_true rfl⟩) hS hA hP hD [2, 3] [0, 1] rfl rfl (by decide) (by decide) (fun r_43 u H locs hw_43 hP hD hS => ?_)
    obtain ⟨ta__43, na__43, fn__43, fb__43⟩ := u
    have hQ9 := pd_mk [(h0, .inr (5, (fX5 h1 h2 h3 h4))), (aI k h1 10 (vv n see tm g)), (x0, .inr (6, (fX6 x1 (nI tz) (nI ta__43) na__43 fn__43 fb__43))), (aB k x1 240 fx)] hP hD
    clear hP hD
    obtain ⟨hP, hD⟩ := hQ9
    try dsimp only at hw_43
    obtain ⟨pl_44, nq_44, rfl, hq_44⟩ := hw_43.2.1 rfl
    rw [show decide ((0 : Int32) < 0) = false from by decide] at hq_44
    rcases hq_44 with ⟨rfl, hq_44⟩ | ⟨rfl, hr_44, rfl, hq_44⟩ | ⟨rfl, hr_44, rfl, hq_44⟩
    · refine va_iast hx hb hK hP hD hS 1 1 rfl rfl (by unfold vp_in; decide) dX5_readClause_19 (fun H locs hP hD hS => ?_)
      have hQ9 := pd_mk [(h0, .inr (5, (fX5 h1 h2 h3 h4))), (aI k h1 10 (upd (vv n see tm g) (Int32.toNatClampNeg 4) r_43)), (x0, .inr (6, (fX6 x1 (nI tz) (nI ta__43) (nI nq_44) 0 fb__43))), (aB k x1 240 fx)] hP hD
      clear hP hD
      obtain ⟨hP, hD⟩ := hQ9
      rw [show upd (vv n see tm g) (Int32.toNatClampNeg 4) r_43 = vv n see tm (upd g 4 r_43) from vv_upd _ _ _ _ _ _ (by decide) (by decide) (by decide)] at hP hD
      obtain ⟨gg_46, hgg_46⟩ : ∃ z : Nat → Int32, z = upd g 4 r_43 := ⟨_, rfl⟩
      rw [← hgg_46] at hP hD
      have hQ9 := pd_mk [(h0, .inr (5, (fX5 h1 h2 h3 h4))), (aI k h1 10 (vv n see tm gg_46)), (x0, .inr (6, (fX6 x1 (nI tz) (nI ta__43) (nI nq_44) 0 fb__43))), (aB k x1 240 fx)] hP hD
      clear hP hD
      obtain ⟨hP, hD⟩ := hQ9
      refine lv_iload_n hx hb dX5_readClause_20 rfl (lv_at hl 2 rfl) ?_
      refine lv_bipush (v := 7) hx hb dX5_readClause_21 (by decide) ?_
      refine lv_icmp_ne (tgt := 58) hx hb dX5_readClause_23 (by decide) (fun _ => ?_) (fun h => absurd h (by decide))
      refine lv_aload_n hx hb dX5_readClause_58 rfl (lv_at hl 1 rfl) ?_
      refine rw_v (D := D) (wr := [(h0, .inr (5, (fX5 h1 h2 h3 h4))), (aI k h1 10 (vv n see tm gg_46))]) (va_runV (As := []) (rest := []) ⟨hx, hb, hml, hown, hts⟩ ((y_needSemicolon l D k st lo x0 x1 tz ta__43 (nI nq_44) 0 fb__43 fx (by first | assumption | omega) (by first | assumption | omega)) H.size) (cwV 0 hts (gV tw_488 tw_489 tw_490 tw_80 tw_491) rfl rfl rfl (by decide +kernel) ⟨Nat.le_of_ble_eq_true rfl, Nat.le_of_ble_eq_true rfl⟩) (pV hS hAlo hlo hP hK (va_Dlo hD hAlo) hZ [2, 3] (by decide) rfl (ci := 6) (q := (RX6, TX6, 6)) (q0 := 0) rfl rfl) rfl rfl hl.1 rfl (lv_room (Nat.le_of_ble_eq_true rfl)) dX5_readClause_59 ⟨Nat.le_of_ble_eq_true rfl, Nat.le_of_ble_eq_true rfl⟩) hS hA hP hD [2, 3] [0, 1] rfl rfl (by decide) (by decide) (fun u H locs hw_47 hP hD hS => ?_)
      obtain ⟨ta__47, fn__47, fb__47⟩ := u
      have hQ9 := pd_mk [(h0, .inr (5, (fX5 h1 h2 h3 h4))), (aI k h1 10 (vv n see tm gg_46)), (x0, .inr (6, (fX6 x1 (nI tz) (nI ta__47) (nI nq_44) fn__47 fb__47))), (aB k x1 240 fx)] hP hD
      clear hP hD
      obtain ⟨hP, hD⟩ := hQ9
      try dsimp only at hw_47
      rcases hw_47.2.1 rfl with ⟨rfl, hq_48⟩ | ⟨rfl, pl_48, hq_48, rfl⟩
      · obtain ⟨hP9, hD9⟩ := pd_sub [(h0, .inr (5, (fX5 h1 h2 h3 h4))), (aI k h1 10 (vv n see tm gg_46)), (x0, .inr (6, (fX6 x1 (nI tz) (nI ta__47) (nI nq_44) 0 fb__47))), (aB k x1 240 fx)] [0, 1, 2, 3] hP hD (by decide) rfl
        exact W.vret hx hb hr (fun t ht hW => ⟨⟨(see, tm, gg_46, ta__47, (nI nq_44), 0, fb__47), rfl, ⟨.inl ⟨rfl, r_43, 0, (by simp [siC, siF, hq_44, hq_48, (show zLE 4 = 0 from rfl), (show zMO 4 = 99 from rfl), (show decide ((4 : Nat) = 1) = false from rfl), -List.getD_eq_getElem?_getD]), by rw [if_neg (by decide), vv_upd _ _ _ _ 4 _ (by decide) (by decide) (by decide), hgg_46]⟩, by omega, by omega, by omega, by omega⟩, by rw [ht]; exact hP9, hD9⟩, hS.F ht⟩) hS.2.2 dX5_readClause_62
      · obtain ⟨hP9, hD9⟩ := pd_sub [(h0, .inr (5, (fX5 h1 h2 h3 h4))), (aI k h1 10 (vv n see tm gg_46)), (x0, .inr (6, (fX6 x1 (nI tz) (nI ta__47) (nI nq_44) 1 (nI pl_48)))), (aB k x1 240 fx)] [0, 1, 2, 3] hP hD (by decide) rfl
        exact W.vret hx hb hr (fun t ht hW => ⟨⟨(see, tm, gg_46, ta__47, (nI nq_44), 1, (nI pl_48)), rfl, ⟨.inr ⟨1, pl_48, rfl, by decide, by decide, by simp [siC, siF, hq_44, hq_48, (show zLE 4 = 0 from rfl), (show zMO 4 = 99 from rfl), (show decide ((4 : Nat) = 1) = false from rfl), -List.getD_eq_getElem?_getD], by simp [siC, siF, hq_44, hq_48, (show zLE 4 = 0 from rfl), (show zMO 4 = 99 from rfl), (show decide ((4 : Nat) = 1) = false from rfl), -List.getD_eq_getElem?_getD], rfl⟩, by omega, by omega, by omega, by omega⟩, by rw [ht]; exact hP9, hD9⟩, hS.F ht⟩) hS.2.2 dX5_readClause_62
    · refine va_iast hx hb hK hP hD hS 1 1 rfl rfl (by unfold vp_in; decide) dX5_readClause_19 (fun H locs hP hD hS => ?_)
      have hQ9 := pd_mk [(h0, .inr (5, (fX5 h1 h2 h3 h4))), (aI k h1 10 (upd (vv n see tm g) (Int32.toNatClampNeg 4) r_43)), (x0, .inr (6, (fX6 x1 (nI tz) (nI ta__43) (nI nq_44) 1 (nI pl_44)))), (aB k x1 240 fx)] hP hD
      clear hP hD
      obtain ⟨hP, hD⟩ := hQ9
      rw [show upd (vv n see tm g) (Int32.toNatClampNeg 4) r_43 = vv n see tm (upd g 4 r_43) from vv_upd _ _ _ _ _ _ (by decide) (by decide) (by decide)] at hP hD
      obtain ⟨gg_50, hgg_50⟩ : ∃ z : Nat → Int32, z = upd g 4 r_43 := ⟨_, rfl⟩
      rw [← hgg_50] at hP hD
      have hQ9 := pd_mk [(h0, .inr (5, (fX5 h1 h2 h3 h4))), (aI k h1 10 (vv n see tm gg_50)), (x0, .inr (6, (fX6 x1 (nI tz) (nI ta__43) (nI nq_44) 1 (nI pl_44)))), (aB k x1 240 fx)] hP hD
      clear hP hD
      obtain ⟨hP, hD⟩ := hQ9
      refine lv_iload_n hx hb dX5_readClause_20 rfl (lv_at hl 2 rfl) ?_
      refine lv_bipush (v := 7) hx hb dX5_readClause_21 (by decide) ?_
      refine lv_icmp_ne (tgt := 58) hx hb dX5_readClause_23 (by decide) (fun _ => ?_) (fun h => absurd h (by decide))
      refine lv_aload_n hx hb dX5_readClause_58 rfl (lv_at hl 1 rfl) ?_
      refine rw_v (D := D) (wr := [(h0, .inr (5, (fX5 h1 h2 h3 h4))), (aI k h1 10 (vv n see tm gg_50))]) (va_runV (As := []) (rest := []) ⟨hx, hb, hml, hown, hts⟩ ((y_needSemicolon l D k st lo x0 x1 tz ta__43 (nI nq_44) 1 (nI pl_44) fx (by first | assumption | omega) (by first | assumption | omega)) H.size) (cwV 0 hts (gV tw_488 tw_489 tw_490 tw_80 tw_491) rfl rfl rfl (by decide +kernel) ⟨Nat.le_of_ble_eq_true rfl, Nat.le_of_ble_eq_true rfl⟩) (pV hS hAlo hlo hP hK (va_Dlo hD hAlo) hZ [2, 3] (by decide) rfl (ci := 6) (q := (RX6, TX6, 6)) (q0 := 0) rfl rfl) rfl rfl hl.1 rfl (lv_room (Nat.le_of_ble_eq_true rfl)) dX5_readClause_59 ⟨Nat.le_of_ble_eq_true rfl, Nat.le_of_ble_eq_true rfl⟩) hS hA hP hD [2, 3] [0, 1] rfl rfl (by decide) (by decide) (fun u H locs hw_51 hP hD hS => ?_)
      obtain ⟨ta__51, fn__51, fb__51⟩ := u
      have hQ9 := pd_mk [(h0, .inr (5, (fX5 h1 h2 h3 h4))), (aI k h1 10 (vv n see tm gg_50)), (x0, .inr (6, (fX6 x1 (nI tz) (nI ta__51) (nI nq_44) fn__51 fb__51))), (aB k x1 240 fx)] hP hD
      clear hP hD
      obtain ⟨hP, hD⟩ := hQ9
      try dsimp only at hw_51
      obtain ⟨hs0_52, hs1_52⟩ := hw_51.1 (by decide)
      replace hs0_52 := hs0_52.symm
      subst hs0_52
      replace hs1_52 := hs1_52.symm
      subst hs1_52
      obtain ⟨hP9, hD9⟩ := pd_sub [(h0, .inr (5, (fX5 h1 h2 h3 h4))), (aI k h1 10 (vv n see tm gg_50)), (x0, .inr (6, (fX6 x1 (nI tz) (nI ta__51) (nI nq_44) 1 (nI pl_44)))), (aB k x1 240 fx)] [0, 1, 2, 3] hP hD (by decide) rfl
      exact W.vret hx hb hr (fun t ht hW => ⟨⟨(see, tm, gg_50, ta__51, (nI nq_44), 1, (nI pl_44)), rfl, ⟨.inr ⟨1, pl_44, rfl, by decide, by decide, by simp [siC, siF, hq_44, (show zLE 4 = 0 from rfl), (show zMO 4 = 99 from rfl), (show decide ((4 : Nat) = 1) = false from rfl), -List.getD_eq_getElem?_getD], by simp [siC, siF, hq_44, (show zLE 4 = 0 from rfl), (show zMO 4 = 99 from rfl), (show decide ((4 : Nat) = 1) = false from rfl), -List.getD_eq_getElem?_getD], rfl⟩, by omega, by omega, by omega, by omega⟩, by rw [ht]; exact hP9, hD9⟩, hS.F ht⟩) hS.2.2 dX5_readClause_62
    · refine va_iast hx hb hK hP hD hS 1 1 rfl rfl (by unfold vp_in; decide) dX5_readClause_19 (fun H locs hP hD hS => ?_)
      have hQ9 := pd_mk [(h0, .inr (5, (fX5 h1 h2 h3 h4))), (aI k h1 10 (upd (vv n see tm g) (Int32.toNatClampNeg 4) r_43)), (x0, .inr (6, (fX6 x1 (nI tz) (nI ta__43) (nI nq_44) 2 (nI pl_44)))), (aB k x1 240 fx)] hP hD
      clear hP hD
      obtain ⟨hP, hD⟩ := hQ9
      rw [show upd (vv n see tm g) (Int32.toNatClampNeg 4) r_43 = vv n see tm (upd g 4 r_43) from vv_upd _ _ _ _ _ _ (by decide) (by decide) (by decide)] at hP hD
      obtain ⟨gg_54, hgg_54⟩ : ∃ z : Nat → Int32, z = upd g 4 r_43 := ⟨_, rfl⟩
      rw [← hgg_54] at hP hD
      have hQ9 := pd_mk [(h0, .inr (5, (fX5 h1 h2 h3 h4))), (aI k h1 10 (vv n see tm gg_54)), (x0, .inr (6, (fX6 x1 (nI tz) (nI ta__43) (nI nq_44) 2 (nI pl_44)))), (aB k x1 240 fx)] hP hD
      clear hP hD
      obtain ⟨hP, hD⟩ := hQ9
      refine lv_iload_n hx hb dX5_readClause_20 rfl (lv_at hl 2 rfl) ?_
      refine lv_bipush (v := 7) hx hb dX5_readClause_21 (by decide) ?_
      refine lv_icmp_ne (tgt := 58) hx hb dX5_readClause_23 (by decide) (fun _ => ?_) (fun h => absurd h (by decide))
      refine lv_aload_n hx hb dX5_readClause_58 rfl (lv_at hl 1 rfl) ?_
      refine rw_v (D := D) (wr := [(h0, .inr (5, (fX5 h1 h2 h3 h4))), (aI k h1 10 (vv n see tm gg_54))]) (va_runV (As := []) (rest := []) ⟨hx, hb, hml, hown, hts⟩ ((y_needSemicolon l D k st lo x0 x1 tz ta__43 (nI nq_44) 2 (nI pl_44) fx (by first | assumption | omega) (by first | assumption | omega)) H.size) (cwV 0 hts (gV tw_488 tw_489 tw_490 tw_80 tw_491) rfl rfl rfl (by decide +kernel) ⟨Nat.le_of_ble_eq_true rfl, Nat.le_of_ble_eq_true rfl⟩) (pV hS hAlo hlo hP hK (va_Dlo hD hAlo) hZ [2, 3] (by decide) rfl (ci := 6) (q := (RX6, TX6, 6)) (q0 := 0) rfl rfl) rfl rfl hl.1 rfl (lv_room (Nat.le_of_ble_eq_true rfl)) dX5_readClause_59 ⟨Nat.le_of_ble_eq_true rfl, Nat.le_of_ble_eq_true rfl⟩) hS hA hP hD [2, 3] [0, 1] rfl rfl (by decide) (by decide) (fun u H locs hw_55 hP hD hS => ?_)
      obtain ⟨ta__55, fn__55, fb__55⟩ := u
      have hQ9 := pd_mk [(h0, .inr (5, (fX5 h1 h2 h3 h4))), (aI k h1 10 (vv n see tm gg_54)), (x0, .inr (6, (fX6 x1 (nI tz) (nI ta__55) (nI nq_44) fn__55 fb__55))), (aB k x1 240 fx)] hP hD
      clear hP hD
      obtain ⟨hP, hD⟩ := hQ9
      try dsimp only at hw_55
      obtain ⟨hs0_56, hs1_56⟩ := hw_55.1 (by decide)
      replace hs0_56 := hs0_56.symm
      subst hs0_56
      replace hs1_56 := hs1_56.symm
      subst hs1_56
      obtain ⟨hP9, hD9⟩ := pd_sub [(h0, .inr (5, (fX5 h1 h2 h3 h4))), (aI k h1 10 (vv n see tm gg_54)), (x0, .inr (6, (fX6 x1 (nI tz) (nI ta__55) (nI nq_44) 2 (nI pl_44)))), (aB k x1 240 fx)] [0, 1, 2, 3] hP hD (by decide) rfl
      exact W.vret hx hb hr (fun t ht hW => ⟨⟨(see, tm, gg_54, ta__55, (nI nq_44), 2, (nI pl_44)), rfl, ⟨.inr ⟨2, pl_44, rfl, by decide, by decide, by simp [siC, siF, hq_44, (show zLE 4 = 0 from rfl), (show zMO 4 = 99 from rfl), (show decide ((4 : Nat) = 1) = false from rfl), -List.getD_eq_getElem?_getD], by simp [siC, siF, hq_44, (show zLE 4 = 0 from rfl), (show zMO 4 = 99 from rfl), (show decide ((4 : Nat) = 1) = false from rfl), -List.getD_eq_getElem?_getD], rfl⟩, by omega, by omega, by omega, by omega⟩, by rw [ht]; exact hP9, hD9⟩, hS.F ht⟩) hS.2.2 dX5_readClause_62
  · refine lv_aload_n hx hb dX5_readClause_0 rfl (lv_at hl 0 rfl) ?_
    refine va_get (D := D) (ci := 5) (v := .ref h1) (C := RX5) (T := TX5) (N := 4) hx hb hts inX5 hown hK hP 0 rfl rfl 0 (by decide) (hts _ tw_146) (fun _ h9 => h9) rfl dX5_readClause_1 ?_
    refine lv_iload_n hx hb dX5_readClause_4 rfl (lv_at hl 2 rfl) ?_
    refine lv_aload_n hx hb dX5_readClause_5 rfl (lv_at hl 1 rfl) ?_
    refine va_getsN (A := A) hx hb (hZ.2.2.2.2.1.narrow hAlo) hS hown ((hZ.2.2.2.2.2.2.2.2.1.2.1 (RX5, 106, "LastPlace", "LEAST", "[I", RX7) (List.mem_of_getElem? (i := 1) rfl)).use rfl) (fun _ h9 => h9) dX5_readClause_6 ?_
    refine lv_iload_n hx hb dX5_readClause_9 rfl (lv_at hl 2 rfl) ?_
    refine va_ti (A := A) hx hb (hZ.2.2.2.2.2.1.narrow hAlo) hS (i := 5) (by unfold vp_in; decide) (v := .int 0) rfl dX5_readClause_10 ?_
    refine va_getsN (A := A) hx hb (hZ.2.2.1.narrow hAlo) hS hown ((hZ.2.2.2.2.2.2.2.2.1.2.1 (RX5, 109, "LastPlace", "MOST", "[I", RX7) (List.mem_of_getElem? (i := 2) rfl)).use rfl) (fun _ h9 => h9) dX5_readClause_11 ?_
    refine lv_iload_n hx hb dX5_readClause_14 rfl (lv_at hl 2 rfl) ?_
    refine va_ti (A := A) hx hb (hZ.2.2.2.1.narrow hAlo) hS (i := 5) (by unfold vp_in; decide) (v := .int 200) rfl dX5_readClause_15 ?_
    refine rw_i (D := D) (wr := [(h0, .inr (5, (fX5 h1 h2 h3 h4))), (aI k h1 10 (vv n see tm g))]) (va_runV (As := [.int 0, .int 200]) (rest := [.int 5, .ref h1]) ⟨hx, hb, hml, hown, hts⟩ ((y_needNumber l D k st lo x0 x1 tz ta na 0 fb fx 0 200 (by first | assumption | omega) (by first | assumption | omega) (by decide)) s.heap.size) (cwV 2 hts (gV tw_467 tw_468 tw_469 tw_80 tw_470) rfl rfl rfl (by decide +kernel) ⟨Nat.le_of_ble_eq_true rfl, Nat.le_of_ble_eq_true rfl⟩) (pV hS hAlo hlo hP hK (va_Dlo hD hAlo) hZ [2, 3] (by decide) rfl (ci := 6) (q := (RX6, TX6, 6)) (q0 := 0) rfl rfl) rfl rfl hl.1 rfl (lv_room (Nat.le_of_ble_eq_true rfl)) dX5_readClause_16 ⟨Nat.le_of_ble_eq_true rfl, Nat.le_of_ble_eq_true rfl⟩) hS hA hP hD [2, 3] [0, 1] rfl rfl (by decide) (by decide) (fun r_57 u H locs hw_57 hP hD hS => ?_)
    obtain ⟨ta__57, na__57, fn__57, fb__57⟩ := u
    have hQ9 := pd_mk [(h0, .inr (5, (fX5 h1 h2 h3 h4))), (aI k h1 10 (vv n see tm g)), (x0, .inr (6, (fX6 x1 (nI tz) (nI ta__57) na__57 fn__57 fb__57))), (aB k x1 240 fx)] hP hD
    clear hP hD
    obtain ⟨hP, hD⟩ := hQ9
    try dsimp only at hw_57
    obtain ⟨pl_58, nq_58, rfl, hq_58⟩ := hw_57.2.1 rfl
    rw [show decide ((0 : Int32) < 0) = false from by decide] at hq_58
    rcases hq_58 with ⟨rfl, hq_58⟩ | ⟨rfl, hr_58, rfl, hq_58⟩ | ⟨rfl, hr_58, rfl, hq_58⟩
    · refine va_iast hx hb hK hP hD hS 1 1 rfl rfl (by unfold vp_in; decide) dX5_readClause_19 (fun H locs hP hD hS => ?_)
      have hQ9 := pd_mk [(h0, .inr (5, (fX5 h1 h2 h3 h4))), (aI k h1 10 (upd (vv n see tm g) (Int32.toNatClampNeg 5) r_57)), (x0, .inr (6, (fX6 x1 (nI tz) (nI ta__57) (nI nq_58) 0 fb__57))), (aB k x1 240 fx)] hP hD
      clear hP hD
      obtain ⟨hP, hD⟩ := hQ9
      rw [show upd (vv n see tm g) (Int32.toNatClampNeg 5) r_57 = vv n see tm (upd g 5 r_57) from vv_upd _ _ _ _ _ _ (by decide) (by decide) (by decide)] at hP hD
      obtain ⟨gg_60, hgg_60⟩ : ∃ z : Nat → Int32, z = upd g 5 r_57 := ⟨_, rfl⟩
      rw [← hgg_60] at hP hD
      have hQ9 := pd_mk [(h0, .inr (5, (fX5 h1 h2 h3 h4))), (aI k h1 10 (vv n see tm gg_60)), (x0, .inr (6, (fX6 x1 (nI tz) (nI ta__57) (nI nq_58) 0 fb__57))), (aB k x1 240 fx)] hP hD
      clear hP hD
      obtain ⟨hP, hD⟩ := hQ9
      refine lv_iload_n hx hb dX5_readClause_20 rfl (lv_at hl 2 rfl) ?_
      refine lv_bipush (v := 7) hx hb dX5_readClause_21 (by decide) ?_
      refine lv_icmp_ne (tgt := 58) hx hb dX5_readClause_23 (by decide) (fun _ => ?_) (fun h => absurd h (by decide))
      refine lv_aload_n hx hb dX5_readClause_58 rfl (lv_at hl 1 rfl) ?_
      refine rw_v (D := D) (wr := [(h0, .inr (5, (fX5 h1 h2 h3 h4))), (aI k h1 10 (vv n see tm gg_60))]) (va_runV (As := []) (rest := []) ⟨hx, hb, hml, hown, hts⟩ ((y_needSemicolon l D k st lo x0 x1 tz ta__57 (nI nq_58) 0 fb__57 fx (by first | assumption | omega) (by first | assumption | omega)) H.size) (cwV 0 hts (gV tw_488 tw_489 tw_490 tw_80 tw_491) rfl rfl rfl (by decide +kernel) ⟨Nat.le_of_ble_eq_true rfl, Nat.le_of_ble_eq_true rfl⟩) (pV hS hAlo hlo hP hK (va_Dlo hD hAlo) hZ [2, 3] (by decide) rfl (ci := 6) (q := (RX6, TX6, 6)) (q0 := 0) rfl rfl) rfl rfl hl.1 rfl (lv_room (Nat.le_of_ble_eq_true rfl)) dX5_readClause_59 ⟨Nat.le_of_ble_eq_true rfl, Nat.le_of_ble_eq_true rfl⟩) hS hA hP hD [2, 3] [0, 1] rfl rfl (by decide) (by decide) (fun u H locs hw_61 hP hD hS => ?_)
      obtain ⟨ta__61, fn__61, fb__61⟩ := u
      have hQ9 := pd_mk [(h0, .inr (5, (fX5 h1 h2 h3 h4))), (aI k h1 10 (vv n see tm gg_60)), (x0, .inr (6, (fX6 x1 (nI tz) (nI ta__61) (nI nq_58) fn__61 fb__61))), (aB k x1 240 fx)] hP hD
      clear hP hD
      obtain ⟨hP, hD⟩ := hQ9
      try dsimp only at hw_61
      rcases hw_61.2.1 rfl with ⟨rfl, hq_62⟩ | ⟨rfl, pl_62, hq_62, rfl⟩
      · obtain ⟨hP9, hD9⟩ := pd_sub [(h0, .inr (5, (fX5 h1 h2 h3 h4))), (aI k h1 10 (vv n see tm gg_60)), (x0, .inr (6, (fX6 x1 (nI tz) (nI ta__61) (nI nq_58) 0 fb__61))), (aB k x1 240 fx)] [0, 1, 2, 3] hP hD (by decide) rfl
        exact W.vret hx hb hr (fun t ht hW => ⟨⟨(see, tm, gg_60, ta__61, (nI nq_58), 0, fb__61), rfl, ⟨.inl ⟨rfl, r_57, 0, (by simp [siC, siF, hq_58, hq_62, (show zLE 5 = 0 from rfl), (show zMO 5 = 200 from rfl), (show decide ((5 : Nat) = 1) = false from rfl), -List.getD_eq_getElem?_getD]), by rw [if_neg (by decide), vv_upd _ _ _ _ 5 _ (by decide) (by decide) (by decide), hgg_60]⟩, by omega, by omega, by omega, by omega⟩, by rw [ht]; exact hP9, hD9⟩, hS.F ht⟩) hS.2.2 dX5_readClause_62
      · obtain ⟨hP9, hD9⟩ := pd_sub [(h0, .inr (5, (fX5 h1 h2 h3 h4))), (aI k h1 10 (vv n see tm gg_60)), (x0, .inr (6, (fX6 x1 (nI tz) (nI ta__61) (nI nq_58) 1 (nI pl_62)))), (aB k x1 240 fx)] [0, 1, 2, 3] hP hD (by decide) rfl
        exact W.vret hx hb hr (fun t ht hW => ⟨⟨(see, tm, gg_60, ta__61, (nI nq_58), 1, (nI pl_62)), rfl, ⟨.inr ⟨1, pl_62, rfl, by decide, by decide, by simp [siC, siF, hq_58, hq_62, (show zLE 5 = 0 from rfl), (show zMO 5 = 200 from rfl), (show decide ((5 : Nat) = 1) = false from rfl), -List.getD_eq_getElem?_getD], by simp [siC, siF, hq_58, hq_62, (show zLE 5 = 0 from rfl), (show zMO 5 = 200 from rfl), (show decide ((5 : Nat) = 1) = false from rfl), -List.getD_eq_getElem?_getD], rfl⟩, by omega, by omega, by omega, by omega⟩, by rw [ht]; exact hP9, hD9⟩, hS.F ht⟩) hS.2.2 dX5_readClause_62
    · refine va_iast hx hb hK hP hD hS 1 1 rfl rfl (by unfold vp_in; decide) dX5_readClause_19 (fun H locs hP hD hS => ?_)
      have hQ9 := pd_mk [(h0, .inr (5, (fX5 h1 h2 h3 h4))), (aI k h1 10 (upd (vv n see tm g) (Int32.toNatClampNeg 5) r_57)), (x0, .inr (6, (fX6 x1 (nI tz) (nI ta__57) (nI nq_58) 1 (nI pl_58)))), (aB k x1 240 fx)] hP hD
      clear hP hD
      obtain ⟨hP, hD⟩ := hQ9
      rw [show upd (vv n see tm g) (Int32.toNatClampNeg 5) r_57 = vv n see tm (upd g 5 r_57) from vv_upd _ _ _ _ _ _ (by decide) (by decide) (by decide)] at hP hD
      obtain ⟨gg_64, hgg_64⟩ : ∃ z : Nat → Int32, z = upd g 5 r_57 := ⟨_, rfl⟩
      rw [← hgg_64] at hP hD
      have hQ9 := pd_mk [(h0, .inr (5, (fX5 h1 h2 h3 h4))), (aI k h1 10 (vv n see tm gg_64)), (x0, .inr (6, (fX6 x1 (nI tz) (nI ta__57) (nI nq_58) 1 (nI pl_58)))), (aB k x1 240 fx)] hP hD
      clear hP hD
      obtain ⟨hP, hD⟩ := hQ9
      refine lv_iload_n hx hb dX5_readClause_20 rfl (lv_at hl 2 rfl) ?_
      refine lv_bipush (v := 7) hx hb dX5_readClause_21 (by decide) ?_
      refine lv_icmp_ne (tgt := 58) hx hb dX5_readClause_23 (by decide) (fun _ => ?_) (fun h => absurd h (by decide))
      refine lv_aload_n hx hb dX5_readClause_58 rfl (lv_at hl 1 rfl) ?_
      refine rw_v (D := D) (wr := [(h0, .inr (5, (fX5 h1 h2 h3 h4))), (aI k h1 10 (vv n see tm gg_64))]) (va_runV (As := []) (rest := []) ⟨hx, hb, hml, hown, hts⟩ ((y_needSemicolon l D k st lo x0 x1 tz ta__57 (nI nq_58) 1 (nI pl_58) fx (by first | assumption | omega) (by first | assumption | omega)) H.size) (cwV 0 hts (gV tw_488 tw_489 tw_490 tw_80 tw_491) rfl rfl rfl (by decide +kernel) ⟨Nat.le_of_ble_eq_true rfl, Nat.le_of_ble_eq_true rfl⟩) (pV hS hAlo hlo hP hK (va_Dlo hD hAlo) hZ [2, 3] (by decide) rfl (ci := 6) (q := (RX6, TX6, 6)) (q0 := 0) rfl rfl) rfl rfl hl.1 rfl (lv_room (Nat.le_of_ble_eq_true rfl)) dX5_readClause_59 ⟨Nat.le_of_ble_eq_true rfl, Nat.le_of_ble_eq_true rfl⟩) hS hA hP hD [2, 3] [0, 1] rfl rfl (by decide) (by decide) (fun u H locs hw_65 hP hD hS => ?_)
      obtain ⟨ta__65, fn__65, fb__65⟩ := u
      have hQ9 := pd_mk [(h0, .inr (5, (fX5 h1 h2 h3 h4))), (aI k h1 10 (vv n see tm gg_64)), (x0, .inr (6, (fX6 x1 (nI tz) (nI ta__65) (nI nq_58) fn__65 fb__65))), (aB k x1 240 fx)] hP hD
      clear hP hD
      obtain ⟨hP, hD⟩ := hQ9
      try dsimp only at hw_65
      obtain ⟨hs0_66, hs1_66⟩ := hw_65.1 (by decide)
      replace hs0_66 := hs0_66.symm
      subst hs0_66
      replace hs1_66 := hs1_66.symm
      subst hs1_66
      obtain ⟨hP9, hD9⟩ := pd_sub [(h0, .inr (5, (fX5 h1 h2 h3 h4))), (aI k h1 10 (vv n see tm gg_64)), (x0, .inr (6, (fX6 x1 (nI tz) (nI ta__65) (nI nq_58) 1 (nI pl_58)))), (aB k x1 240 fx)] [0, 1, 2, 3] hP hD (by decide) rfl
      exact W.vret hx hb hr (fun t ht hW => ⟨⟨(see, tm, gg_64, ta__65, (nI nq_58), 1, (nI pl_58)), rfl, ⟨.inr ⟨1, pl_58, rfl, by decide, by decide, by simp [siC, siF, hq_58, (show zLE 5 = 0 from rfl), (show zMO 5 = 200 from rfl), (show decide ((5 : Nat) = 1) = false from rfl), -List.getD_eq_getElem?_getD], by simp [siC, siF, hq_58, (show zLE 5 = 0 from rfl), (show zMO 5 = 200 from rfl), (show decide ((5 : Nat) = 1) = false from rfl), -List.getD_eq_getElem?_getD], rfl⟩, by omega, by omega, by omega, by omega⟩, by rw [ht]; exact hP9, hD9⟩, hS.F ht⟩) hS.2.2 dX5_readClause_62
    · refine va_iast hx hb hK hP hD hS 1 1 rfl rfl (by unfold vp_in; decide) dX5_readClause_19 (fun H locs hP hD hS => ?_)
      have hQ9 := pd_mk [(h0, .inr (5, (fX5 h1 h2 h3 h4))), (aI k h1 10 (upd (vv n see tm g) (Int32.toNatClampNeg 5) r_57)), (x0, .inr (6, (fX6 x1 (nI tz) (nI ta__57) (nI nq_58) 2 (nI pl_58)))), (aB k x1 240 fx)] hP hD
      clear hP hD
      obtain ⟨hP, hD⟩ := hQ9
      rw [show upd (vv n see tm g) (Int32.toNatClampNeg 5) r_57 = vv n see tm (upd g 5 r_57) from vv_upd _ _ _ _ _ _ (by decide) (by decide) (by decide)] at hP hD
      obtain ⟨gg_68, hgg_68⟩ : ∃ z : Nat → Int32, z = upd g 5 r_57 := ⟨_, rfl⟩
      rw [← hgg_68] at hP hD
      have hQ9 := pd_mk [(h0, .inr (5, (fX5 h1 h2 h3 h4))), (aI k h1 10 (vv n see tm gg_68)), (x0, .inr (6, (fX6 x1 (nI tz) (nI ta__57) (nI nq_58) 2 (nI pl_58)))), (aB k x1 240 fx)] hP hD
      clear hP hD
      obtain ⟨hP, hD⟩ := hQ9
      refine lv_iload_n hx hb dX5_readClause_20 rfl (lv_at hl 2 rfl) ?_
      refine lv_bipush (v := 7) hx hb dX5_readClause_21 (by decide) ?_
      refine lv_icmp_ne (tgt := 58) hx hb dX5_readClause_23 (by decide) (fun _ => ?_) (fun h => absurd h (by decide))
      refine lv_aload_n hx hb dX5_readClause_58 rfl (lv_at hl 1 rfl) ?_
      refine rw_v (D := D) (wr := [(h0, .inr (5, (fX5 h1 h2 h3 h4))), (aI k h1 10 (vv n see tm gg_68))]) (va_runV (As := []) (rest := []) ⟨hx, hb, hml, hown, hts⟩ ((y_needSemicolon l D k st lo x0 x1 tz ta__57 (nI nq_58) 2 (nI pl_58) fx (by first | assumption | omega) (by first | assumption | omega)) H.size) (cwV 0 hts (gV tw_488 tw_489 tw_490 tw_80 tw_491) rfl rfl rfl (by decide +kernel) ⟨Nat.le_of_ble_eq_true rfl, Nat.le_of_ble_eq_true rfl⟩) (pV hS hAlo hlo hP hK (va_Dlo hD hAlo) hZ [2, 3] (by decide) rfl (ci := 6) (q := (RX6, TX6, 6)) (q0 := 0) rfl rfl) rfl rfl hl.1 rfl (lv_room (Nat.le_of_ble_eq_true rfl)) dX5_readClause_59 ⟨Nat.le_of_ble_eq_true rfl, Nat.le_of_ble_eq_true rfl⟩) hS hA hP hD [2, 3] [0, 1] rfl rfl (by decide) (by decide) (fun u H locs hw_69 hP hD hS => ?_)
      obtain ⟨ta__69, fn__69, fb__69⟩ := u
      have hQ9 := pd_mk [(h0, .inr (5, (fX5 h1 h2 h3 h4))), (aI k h1 10 (vv n see tm gg_68)), (x0, .inr (6, (fX6 x1 (nI tz) (nI ta__69) (nI nq_58) fn__69 fb__69))), (aB k x1 240 fx)] hP hD
      clear hP hD
      obtain ⟨hP, hD⟩ := hQ9
      try dsimp only at hw_69
      obtain ⟨hs0_70, hs1_70⟩ := hw_69.1 (by decide)
      replace hs0_70 := hs0_70.symm
      subst hs0_70
      replace hs1_70 := hs1_70.symm
      subst hs1_70
      obtain ⟨hP9, hD9⟩ := pd_sub [(h0, .inr (5, (fX5 h1 h2 h3 h4))), (aI k h1 10 (vv n see tm gg_68)), (x0, .inr (6, (fX6 x1 (nI tz) (nI ta__69) (nI nq_58) 2 (nI pl_58)))), (aB k x1 240 fx)] [0, 1, 2, 3] hP hD (by decide) rfl
      exact W.vret hx hb hr (fun t ht hW => ⟨⟨(see, tm, gg_68, ta__69, (nI nq_58), 2, (nI pl_58)), rfl, ⟨.inr ⟨2, pl_58, rfl, by decide, by decide, by simp [siC, siF, hq_58, (show zLE 5 = 0 from rfl), (show zMO 5 = 200 from rfl), (show decide ((5 : Nat) = 1) = false from rfl), -List.getD_eq_getElem?_getD], by simp [siC, siF, hq_58, (show zLE 5 = 0 from rfl), (show zMO 5 = 200 from rfl), (show decide ((5 : Nat) = 1) = false from rfl), -List.getD_eq_getElem?_getD], rfl⟩, by omega, by omega, by omega, by omega⟩, by rw [ht]; exact hP9, hD9⟩, hS.F ht⟩) hS.2.2 dX5_readClause_62
  · refine lv_aload_n hx hb dX5_readClause_0 rfl (lv_at hl 0 rfl) ?_
    refine va_get (D := D) (ci := 5) (v := .ref h1) (C := RX5) (T := TX5) (N := 4) hx hb hts inX5 hown hK hP 0 rfl rfl 0 (by decide) (hts _ tw_146) (fun _ h9 => h9) rfl dX5_readClause_1 ?_
    refine lv_iload_n hx hb dX5_readClause_4 rfl (lv_at hl 2 rfl) ?_
    refine lv_aload_n hx hb dX5_readClause_5 rfl (lv_at hl 1 rfl) ?_
    refine va_getsN (A := A) hx hb (hZ.2.2.2.2.1.narrow hAlo) hS hown ((hZ.2.2.2.2.2.2.2.2.1.2.1 (RX5, 106, "LastPlace", "LEAST", "[I", RX7) (List.mem_of_getElem? (i := 1) rfl)).use rfl) (fun _ h9 => h9) dX5_readClause_6 ?_
    refine lv_iload_n hx hb dX5_readClause_9 rfl (lv_at hl 2 rfl) ?_
    refine va_ti (A := A) hx hb (hZ.2.2.2.2.2.1.narrow hAlo) hS (i := 6) (by unfold vp_in; decide) (v := .int 0) rfl dX5_readClause_10 ?_
    refine va_getsN (A := A) hx hb (hZ.2.2.1.narrow hAlo) hS hown ((hZ.2.2.2.2.2.2.2.2.1.2.1 (RX5, 109, "LastPlace", "MOST", "[I", RX7) (List.mem_of_getElem? (i := 2) rfl)).use rfl) (fun _ h9 => h9) dX5_readClause_11 ?_
    refine lv_iload_n hx hb dX5_readClause_14 rfl (lv_at hl 2 rfl) ?_
    refine va_ti (A := A) hx hb (hZ.2.2.2.1.narrow hAlo) hS (i := 6) (by unfold vp_in; decide) (v := .int 2) rfl dX5_readClause_15 ?_
    refine rw_i (D := D) (wr := [(h0, .inr (5, (fX5 h1 h2 h3 h4))), (aI k h1 10 (vv n see tm g))]) (va_runV (As := [.int 0, .int 2]) (rest := [.int 6, .ref h1]) ⟨hx, hb, hml, hown, hts⟩ ((y_needNumber l D k st lo x0 x1 tz ta na 0 fb fx 0 2 (by first | assumption | omega) (by first | assumption | omega) (by decide)) s.heap.size) (cwV 2 hts (gV tw_467 tw_468 tw_469 tw_80 tw_470) rfl rfl rfl (by decide +kernel) ⟨Nat.le_of_ble_eq_true rfl, Nat.le_of_ble_eq_true rfl⟩) (pV hS hAlo hlo hP hK (va_Dlo hD hAlo) hZ [2, 3] (by decide) rfl (ci := 6) (q := (RX6, TX6, 6)) (q0 := 0) rfl rfl) rfl rfl hl.1 rfl (lv_room (Nat.le_of_ble_eq_true rfl)) dX5_readClause_16 ⟨Nat.le_of_ble_eq_true rfl, Nat.le_of_ble_eq_true rfl⟩) hS hA hP hD [2, 3] [0, 1] rfl rfl (by decide) (by decide) (fun r_71 u H locs hw_71 hP hD hS => ?_)
    obtain ⟨ta__71, na__71, fn__71, fb__71⟩ := u
    have hQ9 := pd_mk [(h0, .inr (5, (fX5 h1 h2 h3 h4))), (aI k h1 10 (vv n see tm g)), (x0, .inr (6, (fX6 x1 (nI tz) (nI ta__71) na__71 fn__71 fb__71))), (aB k x1 240 fx)] hP hD
    clear hP hD
    obtain ⟨hP, hD⟩ := hQ9
    try dsimp only at hw_71
    obtain ⟨pl_72, nq_72, rfl, hq_72⟩ := hw_71.2.1 rfl
    rw [show decide ((0 : Int32) < 0) = false from by decide] at hq_72
    rcases hq_72 with ⟨rfl, hq_72⟩ | ⟨rfl, hr_72, rfl, hq_72⟩ | ⟨rfl, hr_72, rfl, hq_72⟩
    · obtain ⟨nb_73, hnl_73, hnh_73, rfl⟩ := inB_ofc (a := 0) (b := 2) (by omega) (by omega) hw_71.2.2.2.2
      refine va_iast hx hb hK hP hD hS 1 1 rfl rfl (by unfold vp_in; decide) dX5_readClause_19 (fun H locs hP hD hS => ?_)
      have hQ9 := pd_mk [(h0, .inr (5, (fX5 h1 h2 h3 h4))), (aI k h1 10 (upd (vv n see tm g) (Int32.toNatClampNeg 6) (nI nb_73))), (x0, .inr (6, (fX6 x1 (nI tz) (nI ta__71) (nI nq_72) 0 fb__71))), (aB k x1 240 fx)] hP hD
      clear hP hD
      obtain ⟨hP, hD⟩ := hQ9
      rw [show upd (vv n see tm g) (Int32.toNatClampNeg 6) (nI nb_73) = vv n nb_73 tm g from vv_upd6 _ _ _ _ _] at hP hD
      have hQ9 := pd_mk [(h0, .inr (5, (fX5 h1 h2 h3 h4))), (aI k h1 10 (vv n nb_73 tm g)), (x0, .inr (6, (fX6 x1 (nI tz) (nI ta__71) (nI nq_72) 0 fb__71))), (aB k x1 240 fx)] hP hD
      clear hP hD
      obtain ⟨hP, hD⟩ := hQ9
      refine lv_iload_n hx hb dX5_readClause_20 rfl (lv_at hl 2 rfl) ?_
      refine lv_bipush (v := 7) hx hb dX5_readClause_21 (by decide) ?_
      refine lv_icmp_ne (tgt := 58) hx hb dX5_readClause_23 (by decide) (fun _ => ?_) (fun h => absurd h (by decide))
      refine lv_aload_n hx hb dX5_readClause_58 rfl (lv_at hl 1 rfl) ?_
      refine rw_v (D := D) (wr := [(h0, .inr (5, (fX5 h1 h2 h3 h4))), (aI k h1 10 (vv n nb_73 tm g))]) (va_runV (As := []) (rest := []) ⟨hx, hb, hml, hown, hts⟩ ((y_needSemicolon l D k st lo x0 x1 tz ta__71 (nI nq_72) 0 fb__71 fx (by first | assumption | omega) (by first | assumption | omega)) H.size) (cwV 0 hts (gV tw_488 tw_489 tw_490 tw_80 tw_491) rfl rfl rfl (by decide +kernel) ⟨Nat.le_of_ble_eq_true rfl, Nat.le_of_ble_eq_true rfl⟩) (pV hS hAlo hlo hP hK (va_Dlo hD hAlo) hZ [2, 3] (by decide) rfl (ci := 6) (q := (RX6, TX6, 6)) (q0 := 0) rfl rfl) rfl rfl hl.1 rfl (lv_room (Nat.le_of_ble_eq_true rfl)) dX5_readClause_59 ⟨Nat.le_of_ble_eq_true rfl, Nat.le_of_ble_eq_true rfl⟩) hS hA hP hD [2, 3] [0, 1] rfl rfl (by decide) (by decide) (fun u H locs hw_76 hP hD hS => ?_)
      obtain ⟨ta__76, fn__76, fb__76⟩ := u
      have hQ9 := pd_mk [(h0, .inr (5, (fX5 h1 h2 h3 h4))), (aI k h1 10 (vv n nb_73 tm g)), (x0, .inr (6, (fX6 x1 (nI tz) (nI ta__76) (nI nq_72) fn__76 fb__76))), (aB k x1 240 fx)] hP hD
      clear hP hD
      obtain ⟨hP, hD⟩ := hQ9
      try dsimp only at hw_76
      rcases hw_76.2.1 rfl with ⟨rfl, hq_77⟩ | ⟨rfl, pl_77, hq_77, rfl⟩
      · obtain ⟨hP9, hD9⟩ := pd_sub [(h0, .inr (5, (fX5 h1 h2 h3 h4))), (aI k h1 10 (vv n nb_73 tm g)), (x0, .inr (6, (fX6 x1 (nI tz) (nI ta__76) (nI nq_72) 0 fb__76))), (aB k x1 240 fx)] [0, 1, 2, 3] hP hD (by decide) rfl
        exact W.vret hx hb hr (fun t ht hW => ⟨⟨(nb_73, tm, g, ta__76, (nI nq_72), 0, fb__76), rfl, ⟨.inl ⟨rfl, (nI nb_73), 0, (by simp [siC, siF, hq_72, hq_77, nI_clamp (show nb_73 < 2 ^ 31 by omega), (show zLE 6 = 0 from rfl), (show zMO 6 = 2 from rfl), (show decide ((6 : Nat) = 1) = false from rfl), -List.getD_eq_getElem?_getD]), by rw [if_neg (by decide), vv_upd6]⟩, by omega, by omega, by omega, by omega⟩, by rw [ht]; exact hP9, hD9⟩, hS.F ht⟩) hS.2.2 dX5_readClause_62
      · obtain ⟨hP9, hD9⟩ := pd_sub [(h0, .inr (5, (fX5 h1 h2 h3 h4))), (aI k h1 10 (vv n nb_73 tm g)), (x0, .inr (6, (fX6 x1 (nI tz) (nI ta__76) (nI nq_72) 1 (nI pl_77)))), (aB k x1 240 fx)] [0, 1, 2, 3] hP hD (by decide) rfl
        exact W.vret hx hb hr (fun t ht hW => ⟨⟨(nb_73, tm, g, ta__76, (nI nq_72), 1, (nI pl_77)), rfl, ⟨.inr ⟨1, pl_77, rfl, by decide, by decide, by simp [siC, siF, hq_72, hq_77, nI_clamp (show nb_73 < 2 ^ 31 by omega), (show zLE 6 = 0 from rfl), (show zMO 6 = 2 from rfl), (show decide ((6 : Nat) = 1) = false from rfl), -List.getD_eq_getElem?_getD], by simp [siC, siF, hq_72, hq_77, nI_clamp (show nb_73 < 2 ^ 31 by omega), (show zLE 6 = 0 from rfl), (show zMO 6 = 2 from rfl), (show decide ((6 : Nat) = 1) = false from rfl), -List.getD_eq_getElem?_getD], rfl⟩, by omega, by omega, by omega, by omega⟩, by rw [ht]; exact hP9, hD9⟩, hS.F ht⟩) hS.2.2 dX5_readClause_62
    · obtain ⟨nb_78, hnl_78, hnh_78, rfl⟩ := inB_ofc (a := 0) (b := 2) (by omega) (by omega) hw_71.2.2.2.2
      refine va_iast hx hb hK hP hD hS 1 1 rfl rfl (by unfold vp_in; decide) dX5_readClause_19 (fun H locs hP hD hS => ?_)
      have hQ9 := pd_mk [(h0, .inr (5, (fX5 h1 h2 h3 h4))), (aI k h1 10 (upd (vv n see tm g) (Int32.toNatClampNeg 6) (nI nb_78))), (x0, .inr (6, (fX6 x1 (nI tz) (nI ta__71) (nI nq_72) 1 (nI pl_72)))), (aB k x1 240 fx)] hP hD
      clear hP hD
      obtain ⟨hP, hD⟩ := hQ9
      rw [show upd (vv n see tm g) (Int32.toNatClampNeg 6) (nI nb_78) = vv n nb_78 tm g from vv_upd6 _ _ _ _ _] at hP hD
      have hQ9 := pd_mk [(h0, .inr (5, (fX5 h1 h2 h3 h4))), (aI k h1 10 (vv n nb_78 tm g)), (x0, .inr (6, (fX6 x1 (nI tz) (nI ta__71) (nI nq_72) 1 (nI pl_72)))), (aB k x1 240 fx)] hP hD
      clear hP hD
      obtain ⟨hP, hD⟩ := hQ9
      refine lv_iload_n hx hb dX5_readClause_20 rfl (lv_at hl 2 rfl) ?_
      refine lv_bipush (v := 7) hx hb dX5_readClause_21 (by decide) ?_
      refine lv_icmp_ne (tgt := 58) hx hb dX5_readClause_23 (by decide) (fun _ => ?_) (fun h => absurd h (by decide))
      refine lv_aload_n hx hb dX5_readClause_58 rfl (lv_at hl 1 rfl) ?_
      refine rw_v (D := D) (wr := [(h0, .inr (5, (fX5 h1 h2 h3 h4))), (aI k h1 10 (vv n nb_78 tm g))]) (va_runV (As := []) (rest := []) ⟨hx, hb, hml, hown, hts⟩ ((y_needSemicolon l D k st lo x0 x1 tz ta__71 (nI nq_72) 1 (nI pl_72) fx (by first | assumption | omega) (by first | assumption | omega)) H.size) (cwV 0 hts (gV tw_488 tw_489 tw_490 tw_80 tw_491) rfl rfl rfl (by decide +kernel) ⟨Nat.le_of_ble_eq_true rfl, Nat.le_of_ble_eq_true rfl⟩) (pV hS hAlo hlo hP hK (va_Dlo hD hAlo) hZ [2, 3] (by decide) rfl (ci := 6) (q := (RX6, TX6, 6)) (q0 := 0) rfl rfl) rfl rfl hl.1 rfl (lv_room (Nat.le_of_ble_eq_true rfl)) dX5_readClause_59 ⟨Nat.le_of_ble_eq_true rfl, Nat.le_of_ble_eq_true rfl⟩) hS hA hP hD [2, 3] [0, 1] rfl rfl (by decide) (by decide) (fun u H locs hw_81 hP hD hS => ?_)
      obtain ⟨ta__81, fn__81, fb__81⟩ := u
      have hQ9 := pd_mk [(h0, .inr (5, (fX5 h1 h2 h3 h4))), (aI k h1 10 (vv n nb_78 tm g)), (x0, .inr (6, (fX6 x1 (nI tz) (nI ta__81) (nI nq_72) fn__81 fb__81))), (aB k x1 240 fx)] hP hD
      clear hP hD
      obtain ⟨hP, hD⟩ := hQ9
      try dsimp only at hw_81
      obtain ⟨hs0_82, hs1_82⟩ := hw_81.1 (by decide)
      replace hs0_82 := hs0_82.symm
      subst hs0_82
      replace hs1_82 := hs1_82.symm
      subst hs1_82
      obtain ⟨hP9, hD9⟩ := pd_sub [(h0, .inr (5, (fX5 h1 h2 h3 h4))), (aI k h1 10 (vv n nb_78 tm g)), (x0, .inr (6, (fX6 x1 (nI tz) (nI ta__81) (nI nq_72) 1 (nI pl_72)))), (aB k x1 240 fx)] [0, 1, 2, 3] hP hD (by decide) rfl
      exact W.vret hx hb hr (fun t ht hW => ⟨⟨(nb_78, tm, g, ta__81, (nI nq_72), 1, (nI pl_72)), rfl, ⟨.inr ⟨1, pl_72, rfl, by decide, by decide, by simp [siC, siF, hq_72, nI_clamp (show nb_78 < 2 ^ 31 by omega), (show zLE 6 = 0 from rfl), (show zMO 6 = 2 from rfl), (show decide ((6 : Nat) = 1) = false from rfl), -List.getD_eq_getElem?_getD], by simp [siC, siF, hq_72, nI_clamp (show nb_78 < 2 ^ 31 by omega), (show zLE 6 = 0 from rfl), (show zMO 6 = 2 from rfl), (show decide ((6 : Nat) = 1) = false from rfl), -List.getD_eq_getElem?_getD], rfl⟩, by omega, by omega, by omega, by omega⟩, by rw [ht]; exact hP9, hD9⟩, hS.F ht⟩) hS.2.2 dX5_readClause_62
    · obtain ⟨nb_83, hnl_83, hnh_83, rfl⟩ := inB_ofc (a := 0) (b := 2) (by omega) (by omega) hw_71.2.2.2.2
      refine va_iast hx hb hK hP hD hS 1 1 rfl rfl (by unfold vp_in; decide) dX5_readClause_19 (fun H locs hP hD hS => ?_)
      have hQ9 := pd_mk [(h0, .inr (5, (fX5 h1 h2 h3 h4))), (aI k h1 10 (upd (vv n see tm g) (Int32.toNatClampNeg 6) (nI nb_83))), (x0, .inr (6, (fX6 x1 (nI tz) (nI ta__71) (nI nq_72) 2 (nI pl_72)))), (aB k x1 240 fx)] hP hD
      clear hP hD
      obtain ⟨hP, hD⟩ := hQ9
      rw [show upd (vv n see tm g) (Int32.toNatClampNeg 6) (nI nb_83) = vv n nb_83 tm g from vv_upd6 _ _ _ _ _] at hP hD
      have hQ9 := pd_mk [(h0, .inr (5, (fX5 h1 h2 h3 h4))), (aI k h1 10 (vv n nb_83 tm g)), (x0, .inr (6, (fX6 x1 (nI tz) (nI ta__71) (nI nq_72) 2 (nI pl_72)))), (aB k x1 240 fx)] hP hD
      clear hP hD
      obtain ⟨hP, hD⟩ := hQ9
      refine lv_iload_n hx hb dX5_readClause_20 rfl (lv_at hl 2 rfl) ?_
      refine lv_bipush (v := 7) hx hb dX5_readClause_21 (by decide) ?_
      refine lv_icmp_ne (tgt := 58) hx hb dX5_readClause_23 (by decide) (fun _ => ?_) (fun h => absurd h (by decide))
      refine lv_aload_n hx hb dX5_readClause_58 rfl (lv_at hl 1 rfl) ?_
      refine rw_v (D := D) (wr := [(h0, .inr (5, (fX5 h1 h2 h3 h4))), (aI k h1 10 (vv n nb_83 tm g))]) (va_runV (As := []) (rest := []) ⟨hx, hb, hml, hown, hts⟩ ((y_needSemicolon l D k st lo x0 x1 tz ta__71 (nI nq_72) 2 (nI pl_72) fx (by first | assumption | omega) (by first | assumption | omega)) H.size) (cwV 0 hts (gV tw_488 tw_489 tw_490 tw_80 tw_491) rfl rfl rfl (by decide +kernel) ⟨Nat.le_of_ble_eq_true rfl, Nat.le_of_ble_eq_true rfl⟩) (pV hS hAlo hlo hP hK (va_Dlo hD hAlo) hZ [2, 3] (by decide) rfl (ci := 6) (q := (RX6, TX6, 6)) (q0 := 0) rfl rfl) rfl rfl hl.1 rfl (lv_room (Nat.le_of_ble_eq_true rfl)) dX5_readClause_59 ⟨Nat.le_of_ble_eq_true rfl, Nat.le_of_ble_eq_true rfl⟩) hS hA hP hD [2, 3] [0, 1] rfl rfl (by decide) (by decide) (fun u H locs hw_86 hP hD hS => ?_)
      obtain ⟨ta__86, fn__86, fb__86⟩ := u
      have hQ9 := pd_mk [(h0, .inr (5, (fX5 h1 h2 h3 h4))), (aI k h1 10 (vv n nb_83 tm g)), (x0, .inr (6, (fX6 x1 (nI tz) (nI ta__86) (nI nq_72) fn__86 fb__86))), (aB k x1 240 fx)] hP hD
      clear hP hD
      obtain ⟨hP, hD⟩ := hQ9
      try dsimp only at hw_86
      obtain ⟨hs0_87, hs1_87⟩ := hw_86.1 (by decide)
      replace hs0_87 := hs0_87.symm
      subst hs0_87
      replace hs1_87 := hs1_87.symm
      subst hs1_87
      obtain ⟨hP9, hD9⟩ := pd_sub [(h0, .inr (5, (fX5 h1 h2 h3 h4))), (aI k h1 10 (vv n nb_83 tm g)), (x0, .inr (6, (fX6 x1 (nI tz) (nI ta__86) (nI nq_72) 2 (nI pl_72)))), (aB k x1 240 fx)] [0, 1, 2, 3] hP hD (by decide) rfl
      exact W.vret hx hb hr (fun t ht hW => ⟨⟨(nb_83, tm, g, ta__86, (nI nq_72), 2, (nI pl_72)), rfl, ⟨.inr ⟨2, pl_72, rfl, by decide, by decide, by simp [siC, siF, hq_72, nI_clamp (show nb_83 < 2 ^ 31 by omega), (show zLE 6 = 0 from rfl), (show zMO 6 = 2 from rfl), (show decide ((6 : Nat) = 1) = false from rfl), -List.getD_eq_getElem?_getD], by simp [siC, siF, hq_72, nI_clamp (show nb_83 < 2 ^ 31 by omega), (show zLE 6 = 0 from rfl), (show zMO 6 = 2 from rfl), (show decide ((6 : Nat) = 1) = false from rfl), -List.getD_eq_getElem?_getD], rfl⟩, by omega, by omega, by omega, by omega⟩, by rw [ht]; exact hP9, hD9⟩, hS.F ht⟩) hS.2.2 dX5_readClause_62
  · refine lv_aload_n hx hb dX5_readClause_0 rfl (lv_at hl 0 rfl) ?_
    refine va_get (D := D) (ci := 5) (v := .ref h1) (C := RX5) (T := TX5) (N := 4) hx hb hts inX5 hown hK hP 0 rfl rfl 0 (by decide) (hts _ tw_146) (fun _ h9 => h9) rfl dX5_readClause_1 ?_
    refine lv_iload_n hx hb dX5_readClause_4 rfl (lv_at hl 2 rfl) ?_
    refine lv_aload_n hx hb dX5_readClause_5 rfl (lv_at hl 1 rfl) ?_
    refine va_getsN (A := A) hx hb (hZ.2.2.2.2.1.narrow hAlo) hS hown ((hZ.2.2.2.2.2.2.2.2.1.2.1 (RX5, 106, "LastPlace", "LEAST", "[I", RX7) (List.mem_of_getElem? (i := 1) rfl)).use rfl) (fun _ h9 => h9) dX5_readClause_6 ?_
    refine lv_iload_n hx hb dX5_readClause_9 rfl (lv_at hl 2 rfl) ?_
    refine va_ti (A := A) hx hb (hZ.2.2.2.2.2.1.narrow hAlo) hS (i := 7) (by unfold vp_in; decide) (v := .int 0) rfl dX5_readClause_10 ?_
    refine va_getsN (A := A) hx hb (hZ.2.2.1.narrow hAlo) hS hown ((hZ.2.2.2.2.2.2.2.2.1.2.1 (RX5, 109, "LastPlace", "MOST", "[I", RX7) (List.mem_of_getElem? (i := 2) rfl)).use rfl) (fun _ h9 => h9) dX5_readClause_11 ?_
    refine lv_iload_n hx hb dX5_readClause_14 rfl (lv_at hl 2 rfl) ?_
    refine va_ti (A := A) hx hb (hZ.2.2.2.1.narrow hAlo) hS (i := 7) (by unfold vp_in; decide) (v := .int 60) rfl dX5_readClause_15 ?_
    refine rw_i (D := D) (wr := [(h0, .inr (5, (fX5 h1 h2 h3 h4))), (aI k h1 10 (vv n see tm g))]) (va_runV (As := [.int 0, .int 60]) (rest := [.int 7, .ref h1]) ⟨hx, hb, hml, hown, hts⟩ ((y_needNumber l D k st lo x0 x1 tz ta na 0 fb fx 0 60 (by first | assumption | omega) (by first | assumption | omega) (by decide)) s.heap.size) (cwV 2 hts (gV tw_467 tw_468 tw_469 tw_80 tw_470) rfl rfl rfl (by decide +kernel) ⟨Nat.le_of_ble_eq_true rfl, Nat.le_of_ble_eq_true rfl⟩) (pV hS hAlo hlo hP hK (va_Dlo hD hAlo) hZ [2, 3] (by decide) rfl (ci := 6) (q := (RX6, TX6, 6)) (q0 := 0) rfl rfl) rfl rfl hl.1 rfl (lv_room (Nat.le_of_ble_eq_true rfl)) dX5_readClause_16 ⟨Nat.le_of_ble_eq_true rfl, Nat.le_of_ble_eq_true rfl⟩) hS hA hP hD [2, 3] [0, 1] rfl rfl (by decide) (by decide) (fun r_88 u H locs hw_88 hP hD hS => ?_)
    obtain ⟨ta__88, na__88, fn__88, fb__88⟩ := u
    have hQ9 := pd_mk [(h0, .inr (5, (fX5 h1 h2 h3 h4))), (aI k h1 10 (vv n see tm g)), (x0, .inr (6, (fX6 x1 (nI tz) (nI ta__88) na__88 fn__88 fb__88))), (aB k x1 240 fx)] hP hD
    clear hP hD
    obtain ⟨hP, hD⟩ := hQ9
    try dsimp only at hw_88
    obtain ⟨pl_89, nq_89, rfl, hq_89⟩ := hw_88.2.1 rfl
    rw [show decide ((0 : Int32) < 0) = false from by decide] at hq_89
    rcases hq_89 with ⟨rfl, hq_89⟩ | ⟨rfl, hr_89, rfl, hq_89⟩ | ⟨rfl, hr_89, rfl, hq_89⟩
    · refine va_iast hx hb hK hP hD hS 1 1 rfl rfl (by unfold vp_in; decide) dX5_readClause_19 (fun H locs hP hD hS => ?_)
      have hQ9 := pd_mk [(h0, .inr (5, (fX5 h1 h2 h3 h4))), (aI k h1 10 (upd (vv n see tm g) (Int32.toNatClampNeg 7) r_88)), (x0, .inr (6, (fX6 x1 (nI tz) (nI ta__88) (nI nq_89) 0 fb__88))), (aB k x1 240 fx)] hP hD
      clear hP hD
      obtain ⟨hP, hD⟩ := hQ9
      rw [show upd (vv n see tm g) (Int32.toNatClampNeg 7) r_88 = vv n see tm (upd g 7 r_88) from vv_upd _ _ _ _ _ _ (by decide) (by decide) (by decide)] at hP hD
      obtain ⟨gg_91, hgg_91⟩ : ∃ z : Nat → Int32, z = upd g 7 r_88 := ⟨_, rfl⟩
      rw [← hgg_91] at hP hD
      have hQ9 := pd_mk [(h0, .inr (5, (fX5 h1 h2 h3 h4))), (aI k h1 10 (vv n see tm gg_91)), (x0, .inr (6, (fX6 x1 (nI tz) (nI ta__88) (nI nq_89) 0 fb__88))), (aB k x1 240 fx)] hP hD
      clear hP hD
      obtain ⟨hP, hD⟩ := hQ9
      refine lv_iload_n hx hb dX5_readClause_20 rfl (lv_at hl 2 rfl) ?_
      refine lv_bipush (v := 7) hx hb dX5_readClause_21 (by decide) ?_
      refine lv_icmp_ne (tgt := 58) hx hb dX5_readClause_23 (by decide) (fun h => absurd (by decide) h) (fun _ => ?_)
      refine lv_aload_n hx hb dX5_readClause_26 rfl (lv_at hl 1 rfl) ?_
      refine lv_bipush (v := 8) hx hb dX5_readClause_27 (by decide) ?_
      refine ro_r (D := D) (va_runS (As := [.int 8]) (rest := [.ref x0]) ⟨hx, hb, hml, hown, hts⟩ ((x_wordOf_8 l D k st lo ) H.size) (va_cwS 1 hts (gS tw_386 tw_387 tw_81 tw_388) rfl rfl rfl (by decide +kernel) ⟨Nat.le_of_ble_eq_true rfl, Nat.le_of_ble_eq_true rfl⟩) (pS hS hAlo hlo hP hK (va_Dlo hD hAlo) hZ [] (by decide) rfl) rfl rfl hl.1 rfl (lv_room (Nat.le_of_ble_eq_true rfl)) dX5_readClause_29 ⟨Nat.le_of_ble_eq_true rfl, Nat.le_of_ble_eq_true rfl⟩) hS hA hP (fun H locs hP hS => ?_)
      refine rw_v (D := D) (wr := [(h0, .inr (5, (fX5 h1 h2 h3 h4))), (aI k h1 10 (vv n see tm gg_91))]) (va_runV (As := [.ref (st (100 + 8))]) (rest := []) ⟨hx, hb, hml, hown, hts⟩ ((y_needWord l D k st lo x0 x1 tz ta__88 (nI nq_89) 0 fb__88 fx 8 (by first | assumption | omega) (by first | assumption | omega) (by first | assumption | omega)) H.size) (cwV 1 hts (gV tw_482 tw_483 tw_484 tw_80 tw_485) rfl rfl rfl (by decide +kernel) ⟨Nat.le_of_ble_eq_true rfl, Nat.le_of_ble_eq_true rfl⟩) (pV hS hAlo hlo hP hK (va_Dlo hD hAlo) hZ [2, 3] (by decide) rfl (ci := 6) (q := (RX6, TX6, 6)) (q0 := 0) rfl rfl) rfl rfl hl.1 rfl (lv_room (Nat.le_of_ble_eq_true rfl)) dX5_readClause_32 ⟨Nat.le_of_ble_eq_true rfl, Nat.le_of_ble_eq_true rfl⟩) hS hA hP hD [2, 3] [0, 1] rfl rfl (by decide) (by decide) (fun u H locs hw_93 hP hD hS => ?_)
      obtain ⟨ta__93, fn__93, fb__93⟩ := u
      have hQ9 := pd_mk [(h0, .inr (5, (fX5 h1 h2 h3 h4))), (aI k h1 10 (vv n see tm gg_91)), (x0, .inr (6, (fX6 x1 (nI tz) (nI ta__93) (nI nq_89) fn__93 fb__93))), (aB k x1 240 fx)] hP hD
      clear hP hD
      obtain ⟨hP, hD⟩ := hQ9
      try dsimp only at hw_93
      rcases hw_93.2.1 rfl with ⟨rfl, hq_94⟩ | ⟨rfl, pl_94, hq_94, rfl⟩
      · refine lv_aload_n hx hb dX5_readClause_35 rfl (lv_at hl 0 rfl) ?_
        refine va_get (D := D) (ci := 5) (v := .ref h1) (C := RX5) (T := TX5) (N := 4) hx hb hts inX5 hown hK hP 0 rfl rfl 0 (by decide) (hts _ tw_146) (fun _ h9 => h9) rfl dX5_readClause_36 ?_
        refine lv_bipush (v := 8) hx hb dX5_readClause_39 (by decide) ?_
        refine lv_aload_n hx hb dX5_readClause_41 rfl (lv_at hl 1 rfl) ?_
        refine va_getsN (A := A) hx hb (hZ.2.2.2.2.1.narrow hAlo) hS hown ((hZ.2.2.2.2.2.2.2.2.1.2.1 (RX5, 106, "LastPlace", "LEAST", "[I", RX7) (List.mem_of_getElem? (i := 1) rfl)).use rfl) (fun _ h9 => h9) dX5_readClause_42 ?_
        refine lv_bipush (v := 8) hx hb dX5_readClause_45 (by decide) ?_
        refine va_ti (A := A) hx hb (hZ.2.2.2.2.2.1.narrow hAlo) hS (i := 8) (by unfold vp_in; decide) (v := .int 0) rfl dX5_readClause_47 ?_
        refine va_getsN (A := A) hx hb (hZ.2.2.1.narrow hAlo) hS hown ((hZ.2.2.2.2.2.2.2.2.1.2.1 (RX5, 109, "LastPlace", "MOST", "[I", RX7) (List.mem_of_getElem? (i := 2) rfl)).use rfl) (fun _ h9 => h9) dX5_readClause_48 ?_
        refine lv_bipush (v := 8) hx hb dX5_readClause_51 (by decide) ?_
        refine va_ti (A := A) hx hb (hZ.2.2.2.1.narrow hAlo) hS (i := 8) (by unfold vp_in; decide) (v := .int 3) rfl dX5_readClause_53 ?_
        refine rw_i (D := D) (wr := [(h0, .inr (5, (fX5 h1 h2 h3 h4))), (aI k h1 10 (vv n see tm gg_91))]) (va_runV (As := [.int 0, .int 3]) (rest := [.int 8, .ref h1]) ⟨hx, hb, hml, hown, hts⟩ ((y_needNumber l D k st lo x0 x1 tz ta__93 (nI nq_89) 0 fb__93 fx 0 3 (by first | assumption | omega) (by first | assumption | omega) (by decide)) H.size) (cwV 2 hts (gV tw_467 tw_468 tw_469 tw_80 tw_470) rfl rfl rfl (by decide +kernel) ⟨Nat.le_of_ble_eq_true rfl, Nat.le_of_ble_eq_true rfl⟩) (pV hS hAlo hlo hP hK (va_Dlo hD hAlo) hZ [2, 3] (by decide) rfl (ci := 6) (q := (RX6, TX6, 6)) (q0 := 0) rfl rfl) rfl rfl hl.1 rfl (lv_room (Nat.le_of_ble_eq_true rfl)) dX5_readClause_54 ⟨Nat.le_of_ble_eq_true rfl, Nat.le_of_ble_eq_true rfl⟩) hS hA hP hD [2, 3] [0, 1] rfl rfl (by decide) (by decide) (fun r_95 u H locs hw_95 hP hD hS => ?_)
        obtain ⟨ta__95, na__95, fn__95, fb__95⟩ := u
        have hQ9 := pd_mk [(h0, .inr (5, (fX5 h1 h2 h3 h4))), (aI k h1 10 (vv n see tm gg_91)), (x0, .inr (6, (fX6 x1 (nI tz) (nI ta__95) na__95 fn__95 fb__95))), (aB k x1 240 fx)] hP hD
        clear hP hD
        obtain ⟨hP, hD⟩ := hQ9
        try dsimp only at hw_95
        obtain ⟨pl_96, nq_96, rfl, hq_96⟩ := hw_95.2.1 rfl
        rw [show decide ((0 : Int32) < 0) = false from by decide] at hq_96
        rcases hq_96 with ⟨rfl, hq_96⟩ | ⟨rfl, hr_96, rfl, hq_96⟩ | ⟨rfl, hr_96, rfl, hq_96⟩
        · obtain ⟨nb_97, hnl_97, hnh_97, rfl⟩ := inB_ofc (a := 0) (b := 3) (by omega) (by omega) hw_95.2.2.2.2
          refine va_iast hx hb hK hP hD hS 1 1 rfl rfl (by unfold vp_in; decide) dX5_readClause_57 (fun H locs hP hD hS => ?_)
          have hQ9 := pd_mk [(h0, .inr (5, (fX5 h1 h2 h3 h4))), (aI k h1 10 (upd (vv n see tm gg_91) (Int32.toNatClampNeg 8) (nI nb_97))), (x0, .inr (6, (fX6 x1 (nI tz) (nI ta__95) (nI nq_96) 0 fb__95))), (aB k x1 240 fx)] hP hD
          clear hP hD
          obtain ⟨hP, hD⟩ := hQ9
          rw [show upd (vv n see tm gg_91) (Int32.toNatClampNeg 8) (nI nb_97) = vv n see nb_97 gg_91 from vv_upd8 _ _ _ _ _] at hP hD
          have hQ9 := pd_mk [(h0, .inr (5, (fX5 h1 h2 h3 h4))), (aI k h1 10 (vv n see nb_97 gg_91)), (x0, .inr (6, (fX6 x1 (nI tz) (nI ta__95) (nI nq_96) 0 fb__95))), (aB k x1 240 fx)] hP hD
          clear hP hD
          obtain ⟨hP, hD⟩ := hQ9
          refine lv_aload_n hx hb dX5_readClause_58 rfl (lv_at hl 1 rfl) ?_
          refine rw_v (D := D) (wr := [(h0, .inr (5, (fX5 h1 h2 h3 h4))), (aI k h1 10 (vv n see nb_97 gg_91))]) (va_runV (As := []) (rest := []) ⟨hx, hb, hml, hown, hts⟩ ((y_needSemicolon l D k st lo x0 x1 tz ta__95 (nI nq_96) 0 fb__95 fx (by first | assumption | omega) (by first | assumption | omega)) H.size) (cwV 0 hts (gV tw_488 tw_489 tw_490 tw_80 tw_491) rfl rfl rfl (by decide +kernel) ⟨Nat.le_of_ble_eq_true rfl, Nat.le_of_ble_eq_true rfl⟩) (pV hS hAlo hlo hP hK (va_Dlo hD hAlo) hZ [2, 3] (by decide) rfl (ci := 6) (q := (RX6, TX6, 6)) (q0 := 0) rfl rfl) rfl rfl hl.1 rfl (lv_room (Nat.le_of_ble_eq_true rfl)) dX5_readClause_59 ⟨Nat.le_of_ble_eq_true rfl, Nat.le_of_ble_eq_true rfl⟩) hS hA hP hD [2, 3] [0, 1] rfl rfl (by decide) (by decide) (fun u H locs hw_100 hP hD hS => ?_)
          obtain ⟨ta__100, fn__100, fb__100⟩ := u
          have hQ9 := pd_mk [(h0, .inr (5, (fX5 h1 h2 h3 h4))), (aI k h1 10 (vv n see nb_97 gg_91)), (x0, .inr (6, (fX6 x1 (nI tz) (nI ta__100) (nI nq_96) fn__100 fb__100))), (aB k x1 240 fx)] hP hD
          clear hP hD
          obtain ⟨hP, hD⟩ := hQ9
          try dsimp only at hw_100
          rcases hw_100.2.1 rfl with ⟨rfl, hq_101⟩ | ⟨rfl, pl_101, hq_101, rfl⟩
          · obtain ⟨hP9, hD9⟩ := pd_sub [(h0, .inr (5, (fX5 h1 h2 h3 h4))), (aI k h1 10 (vv n see nb_97 gg_91)), (x0, .inr (6, (fX6 x1 (nI tz) (nI ta__100) (nI nq_96) 0 fb__100))), (aB k x1 240 fx)] [0, 1, 2, 3] hP hD (by decide) rfl
            exact W.vret hx hb hr (fun t ht hW => ⟨⟨(see, nb_97, gg_91, ta__100, (nI nq_96), 0, fb__100), rfl, ⟨.inl ⟨rfl, r_88, (nI nb_97), (by simp [siC, siF, hq_89, hq_94, hq_96, hq_101, nI_clamp (show nb_97 < 2 ^ 31 by omega), (show zLE 7 = 0 from rfl), (show zMO 7 = 60 from rfl), (show decide ((7 : Nat) = 1) = false from rfl), -List.getD_eq_getElem?_getD]), by rw [if_pos rfl, vv_upd _ _ _ _ 7 _ (by decide) (by decide) (by decide), vv_upd8, hgg_91]⟩, by omega, by omega, by omega, by omega⟩, by rw [ht]; exact hP9, hD9⟩, hS.F ht⟩) hS.2.2 dX5_readClause_62
          · obtain ⟨hP9, hD9⟩ := pd_sub [(h0, .inr (5, (fX5 h1 h2 h3 h4))), (aI k h1 10 (vv n see nb_97 gg_91)), (x0, .inr (6, (fX6 x1 (nI tz) (nI ta__100) (nI nq_96) 1 (nI pl_101)))), (aB k x1 240 fx)] [0, 1, 2, 3] hP hD (by decide) rfl
            exact W.vret hx hb hr (fun t ht hW => ⟨⟨(see, nb_97, gg_91, ta__100, (nI nq_96), 1, (nI pl_101)), rfl, ⟨.inr ⟨1, pl_101, rfl, by decide, by decide, by simp [siC, siF, hq_89, hq_94, hq_96, hq_101, nI_clamp (show nb_97 < 2 ^ 31 by omega), (show zLE 7 = 0 from rfl), (show zMO 7 = 60 from rfl), (show decide ((7 : Nat) = 1) = false from rfl), -List.getD_eq_getElem?_getD], by simp [siC, siF, hq_89, hq_94, hq_96, hq_101, nI_clamp (show nb_97 < 2 ^ 31 by omega), (show zLE 7 = 0 from rfl), (show zMO 7 = 60 from rfl), (show decide ((7 : Nat) = 1) = false from rfl), -List.getD_eq_getElem?_getD], rfl⟩, by omega, by omega, by omega, by omega⟩, by rw [ht]; exact hP9, hD9⟩, hS.F ht⟩) hS.2.2 dX5_readClause_62
        · obtain ⟨nb_102, hnl_102, hnh_102, rfl⟩ := inB_ofc (a := 0) (b := 3) (by omega) (by omega) hw_95.2.2.2.2
          refine va_iast hx hb hK hP hD hS 1 1 rfl rfl (by unfold vp_in; decide) dX5_readClause_57 (fun H locs hP hD hS => ?_)
          have hQ9 := pd_mk [(h0, .inr (5, (fX5 h1 h2 h3 h4))), (aI k h1 10 (upd (vv n see tm gg_91) (Int32.toNatClampNeg 8) (nI nb_102))), (x0, .inr (6, (fX6 x1 (nI tz) (nI ta__95) (nI nq_96) 1 (nI pl_96)))), (aB k x1 240 fx)] hP hD
          clear hP hD
          obtain ⟨hP, hD⟩ := hQ9
          rw [show upd (vv n see tm gg_91) (Int32.toNatClampNeg 8) (nI nb_102) = vv n see nb_102 gg_91 from vv_upd8 _ _ _ _ _] at hP hD
          have hQ9 := pd_mk [(h0, .inr (5, (fX5 h1 h2 h3 h4))), (aI k h1 10 (vv n see nb_102 gg_91)), (x0, .inr (6, (fX6 x1 (nI tz) (nI ta__95) (nI nq_96) 1 (nI pl_96)))), (aB k x1 240 fx)] hP hD
          clear hP hD
          obtain ⟨hP, hD⟩ := hQ9
          refine lv_aload_n hx hb dX5_readClause_58 rfl (lv_at hl 1 rfl) ?_
          refine rw_v (D := D) (wr := [(h0, .inr (5, (fX5 h1 h2 h3 h4))), (aI k h1 10 (vv n see nb_102 gg_91))]) (va_runV (As := []) (rest := []) ⟨hx, hb, hml, hown, hts⟩ ((y_needSemicolon l D k st lo x0 x1 tz ta__95 (nI nq_96) 1 (nI pl_96) fx (by first | assumption | omega) (by first | assumption | omega)) H.size) (cwV 0 hts (gV tw_488 tw_489 tw_490 tw_80 tw_491) rfl rfl rfl (by decide +kernel) ⟨Nat.le_of_ble_eq_true rfl, Nat.le_of_ble_eq_true rfl⟩) (pV hS hAlo hlo hP hK (va_Dlo hD hAlo) hZ [2, 3] (by decide) rfl (ci := 6) (q := (RX6, TX6, 6)) (q0 := 0) rfl rfl) rfl rfl hl.1 rfl (lv_room (Nat.le_of_ble_eq_true rfl)) dX5_readClause_59 ⟨Nat.le_of_ble_eq_true rfl, Nat.le_of_ble_eq_true rfl⟩) hS hA hP hD [2, 3] [0, 1] rfl rfl (by decide) (by decide) (fun u H locs hw_105 hP hD hS => ?_)
          obtain ⟨ta__105, fn__105, fb__105⟩ := u
          have hQ9 := pd_mk [(h0, .inr (5, (fX5 h1 h2 h3 h4))), (aI k h1 10 (vv n see nb_102 gg_91)), (x0, .inr (6, (fX6 x1 (nI tz) (nI ta__105) (nI nq_96) fn__105 fb__105))), (aB k x1 240 fx)] hP hD
          clear hP hD
          obtain ⟨hP, hD⟩ := hQ9
          try dsimp only at hw_105
          obtain ⟨hs0_106, hs1_106⟩ := hw_105.1 (by decide)
          replace hs0_106 := hs0_106.symm
          subst hs0_106
          replace hs1_106 := hs1_106.symm
          subst hs1_106
          obtain ⟨hP9, hD9⟩ := pd_sub [(h0, .inr (5, (fX5 h1 h2 h3 h4))), (aI k h1 10 (vv n see nb_102 gg_91)), (x0, .inr (6, (fX6 x1 (nI tz) (nI ta__105) (nI nq_96) 1 (nI pl_96)))), (aB k x1 240 fx)] [0, 1, 2, 3] hP hD (by decide) rfl
          exact W.vret hx hb hr (fun t ht hW => ⟨⟨(see, nb_102, gg_91, ta__105, (nI nq_96), 1, (nI pl_96)), rfl, ⟨.inr ⟨1, pl_96, rfl, by decide, by decide, by simp [siC, siF, hq_89, hq_94, hq_96, nI_clamp (show nb_102 < 2 ^ 31 by omega), (show zLE 7 = 0 from rfl), (show zMO 7 = 60 from rfl), (show decide ((7 : Nat) = 1) = false from rfl), -List.getD_eq_getElem?_getD], by simp [siC, siF, hq_89, hq_94, hq_96, nI_clamp (show nb_102 < 2 ^ 31 by omega), (show zLE 7 = 0 from rfl), (show zMO 7 = 60 from rfl), (show decide ((7 : Nat) = 1) = false from rfl), -List.getD_eq_getElem?_getD], rfl⟩, by omega, by omega, by omega, by omega⟩, by rw [ht]; exact hP9, hD9⟩, hS.F ht⟩) hS.2.2 dX5_readClause_62
        · obtain ⟨nb_107, hnl_107, hnh_107, rfl⟩ := inB_ofc (a := 0) (b := 3) (by omega) (by omega) hw_95.2.2.2.2
          refine va_iast hx hb hK hP hD hS 1 1 rfl rfl (by unfold vp_in; decide) dX5_readClause_57 (fun H locs hP hD hS => ?_)
          have hQ9 := pd_mk [(h0, .inr (5, (fX5 h1 h2 h3 h4))), (aI k h1 10 (upd (vv n see tm gg_91) (Int32.toNatClampNeg 8) (nI nb_107))), (x0, .inr (6, (fX6 x1 (nI tz) (nI ta__95) (nI nq_96) 2 (nI pl_96)))), (aB k x1 240 fx)] hP hD
          clear hP hD
          obtain ⟨hP, hD⟩ := hQ9
          rw [show upd (vv n see tm gg_91) (Int32.toNatClampNeg 8) (nI nb_107) = vv n see nb_107 gg_91 from vv_upd8 _ _ _ _ _] at hP hD
          have hQ9 := pd_mk [(h0, .inr (5, (fX5 h1 h2 h3 h4))), (aI k h1 10 (vv n see nb_107 gg_91)), (x0, .inr (6, (fX6 x1 (nI tz) (nI ta__95) (nI nq_96) 2 (nI pl_96)))), (aB k x1 240 fx)] hP hD
          clear hP hD
          obtain ⟨hP, hD⟩ := hQ9
          refine lv_aload_n hx hb dX5_readClause_58 rfl (lv_at hl 1 rfl) ?_
          refine rw_v (D := D) (wr := [(h0, .inr (5, (fX5 h1 h2 h3 h4))), (aI k h1 10 (vv n see nb_107 gg_91))]) (va_runV (As := []) (rest := []) ⟨hx, hb, hml, hown, hts⟩ ((y_needSemicolon l D k st lo x0 x1 tz ta__95 (nI nq_96) 2 (nI pl_96) fx (by first | assumption | omega) (by first | assumption | omega)) H.size) (cwV 0 hts (gV tw_488 tw_489 tw_490 tw_80 tw_491) rfl rfl rfl (by decide +kernel) ⟨Nat.le_of_ble_eq_true rfl, Nat.le_of_ble_eq_true rfl⟩) (pV hS hAlo hlo hP hK (va_Dlo hD hAlo) hZ [2, 3] (by decide) rfl (ci := 6) (q := (RX6, TX6, 6)) (q0 := 0) rfl rfl) rfl rfl hl.1 rfl (lv_room (Nat.le_of_ble_eq_true rfl)) dX5_readClause_59 ⟨Nat.le_of_ble_eq_true rfl, Nat.le_of_ble_eq_true rfl⟩) hS hA hP hD [2, 3] [0, 1] rfl rfl (by decide) (by decide) (fun u H locs hw_110 hP hD hS => ?_)
          obtain ⟨ta__110, fn__110, fb__110⟩ := u
          have hQ9 := pd_mk [(h0, .inr (5, (fX5 h1 h2 h3 h4))), (aI k h1 10 (vv n see nb_107 gg_91)), (x0, .inr (6, (fX6 x1 (nI tz) (nI ta__110) (nI nq_96) fn__110 fb__110))), (aB k x1 240 fx)] hP hD
          clear hP hD
          obtain ⟨hP, hD⟩ := hQ9
          try dsimp only at hw_110
          obtain ⟨hs0_111, hs1_111⟩ := hw_110.1 (by decide)
          replace hs0_111 := hs0_111.symm
          subst hs0_111
          replace hs1_111 := hs1_111.symm
          subst hs1_111
          obtain ⟨hP9, hD9⟩ := pd_sub [(h0, .inr (5, (fX5 h1 h2 h3 h4))), (aI k h1 10 (vv n see nb_107 gg_91)), (x0, .inr (6, (fX6 x1 (nI tz) (nI ta__110) (nI nq_96) 2 (nI pl_96)))), (aB k x1 240 fx)] [0, 1, 2, 3] hP hD (by decide) rfl
          exact W.vret hx hb hr (fun t ht hW => ⟨⟨(see, nb_107, gg_91, ta__110, (nI nq_96), 2, (nI pl_96)), rfl, ⟨.inr ⟨2, pl_96, rfl, by decide, by decide, by simp [siC, siF, hq_89, hq_94, hq_96, nI_clamp (show nb_107 < 2 ^ 31 by omega), (show zLE 7 = 0 from rfl), (show zMO 7 = 60 from rfl), (show decide ((7 : Nat) = 1) = false from rfl), -List.getD_eq_getElem?_getD], by simp [siC, siF, hq_89, hq_94, hq_96, nI_clamp (show nb_107 < 2 ^ 31 by omega), (show zLE 7 = 0 from rfl), (show zMO 7 = 60 from rfl), (show decide ((7 : Nat) = 1) = false from rfl), -List.getD_eq_getElem?_getD], rfl⟩, by omega, by omega, by omega, by omega⟩, by rw [ht]; exact hP9, hD9⟩, hS.F ht⟩) hS.2.2 dX5_readClause_62
      · refine lv_aload_n hx hb dX5_readClause_35 rfl (lv_at hl 0 rfl) ?_
        refine va_get (D := D) (ci := 5) (v := .ref h1) (C := RX5) (T := TX5) (N := 4) hx hb hts inX5 hown hK hP 0 rfl rfl 0 (by decide) (hts _ tw_146) (fun _ h9 => h9) rfl dX5_readClause_36 ?_
        refine lv_bipush (v := 8) hx hb dX5_readClause_39 (by decide) ?_
        refine lv_aload_n hx hb dX5_readClause_41 rfl (lv_at hl 1 rfl) ?_
        refine va_getsN (A := A) hx hb (hZ.2.2.2.2.1.narrow hAlo) hS hown ((hZ.2.2.2.2.2.2.2.2.1.2.1 (RX5, 106, "LastPlace", "LEAST", "[I", RX7) (List.mem_of_getElem? (i := 1) rfl)).use rfl) (fun _ h9 => h9) dX5_readClause_42 ?_
        refine lv_bipush (v := 8) hx hb dX5_readClause_45 (by decide) ?_
        refine va_ti (A := A) hx hb (hZ.2.2.2.2.2.1.narrow hAlo) hS (i := 8) (by unfold vp_in; decide) (v := .int 0) rfl dX5_readClause_47 ?_
        refine va_getsN (A := A) hx hb (hZ.2.2.1.narrow hAlo) hS hown ((hZ.2.2.2.2.2.2.2.2.1.2.1 (RX5, 109, "LastPlace", "MOST", "[I", RX7) (List.mem_of_getElem? (i := 2) rfl)).use rfl) (fun _ h9 => h9) dX5_readClause_48 ?_
        refine lv_bipush (v := 8) hx hb dX5_readClause_51 (by decide) ?_
        refine va_ti (A := A) hx hb (hZ.2.2.2.1.narrow hAlo) hS (i := 8) (by unfold vp_in; decide) (v := .int 3) rfl dX5_readClause_53 ?_
        refine rw_i (D := D) (wr := [(h0, .inr (5, (fX5 h1 h2 h3 h4))), (aI k h1 10 (vv n see tm gg_91))]) (va_runV (As := [.int 0, .int 3]) (rest := [.int 8, .ref h1]) ⟨hx, hb, hml, hown, hts⟩ ((y_needNumber l D k st lo x0 x1 tz ta__93 (nI nq_89) 1 (nI pl_94) fx 0 3 (by first | assumption | omega) (by first | assumption | omega) (by decide)) H.size) (cwV 2 hts (gV tw_467 tw_468 tw_469 tw_80 tw_470) rfl rfl rfl (by decide +kernel) ⟨Nat.le_of_ble_eq_true rfl, Nat.le_of_ble_eq_true rfl⟩) (pV hS hAlo hlo hP hK (va_Dlo hD hAlo) hZ [2, 3] (by decide) rfl (ci := 6) (q := (RX6, TX6, 6)) (q0 := 0) rfl rfl) rfl rfl hl.1 rfl (lv_room (Nat.le_of_ble_eq_true rfl)) dX5_readClause_54 ⟨Nat.le_of_ble_eq_true rfl, Nat.le_of_ble_eq_true rfl⟩) hS hA hP hD [2, 3] [0, 1] rfl rfl (by decide) (by decide) (fun r_112 u H locs hw_112 hP hD hS => ?_)
        obtain ⟨ta__112, na__112, fn__112, fb__112⟩ := u
        have hQ9 := pd_mk [(h0, .inr (5, (fX5 h1 h2 h3 h4))), (aI k h1 10 (vv n see tm gg_91)), (x0, .inr (6, (fX6 x1 (nI tz) (nI ta__112) na__112 fn__112 fb__112))), (aB k x1 240 fx)] hP hD
        clear hP hD
        obtain ⟨hP, hD⟩ := hQ9
        try dsimp only at hw_112
        have hr_113 := (hw_112.1 (by decide)).1
        obtain ⟨hs0_114, hs1_114, hs2_114, hs3_114⟩ := (hw_112.1 (by decide)).2
        replace hs0_114 := hs0_114.symm
        subst hs0_114
        replace hs1_114 := hs1_114.symm
        subst hs1_114
        replace hs2_114 := hs2_114.symm
        subst hs2_114
        replace hs3_114 := hs3_114.symm
        subst hs3_114
        obtain ⟨nb_115, hnl_115, hnh_115, rfl⟩ := inB_ofc (a := 0) (b := 3) (by omega) (by omega) hw_112.2.2.2.2
        refine va_iast hx hb hK hP hD hS 1 1 rfl rfl (by unfold vp_in; decide) dX5_readClause_57 (fun H locs hP hD hS => ?_)
        have hQ9 := pd_mk [(h0, .inr (5, (fX5 h1 h2 h3 h4))), (aI k h1 10 (upd (vv n see tm gg_91) (Int32.toNatClampNeg 8) (nI nb_115))), (x0, .inr (6, (fX6 x1 (nI tz) (nI ta__93) (nI nq_89) 1 (nI pl_94)))), (aB k x1 240 fx)] hP hD
        clear hP hD
        obtain ⟨hP, hD⟩ := hQ9
        rw [show upd (vv n see tm gg_91) (Int32.toNatClampNeg 8) (nI nb_115) = vv n see nb_115 gg_91 from vv_upd8 _ _ _ _ _] at hP hD
        have hQ9 := pd_mk [(h0, .inr (5, (fX5 h1 h2 h3 h4))), (aI k h1 10 (vv n see nb_115 gg_91)), (x0, .inr (6, (fX6 x1 (nI tz) (nI ta__93) (nI nq_89) 1 (nI pl_94)))), (aB k x1 240 fx)] hP hD
        clear hP hD
        obtain ⟨hP, hD⟩ := hQ9
        refine lv_aload_n hx hb dX5_readClause_58 rfl (lv_at hl 1 rfl) ?_
        refine rw_v (D := D) (wr := [(h0, .inr (5, (fX5 h1 h2 h3 h4))), (aI k h1 10 (vv n see nb_115 gg_91))]) (va_runV (As := []) (rest := []) ⟨hx, hb, hml, hown, hts⟩ ((y_needSemicolon l D k st lo x0 x1 tz ta__93 (nI nq_89) 1 (nI pl_94) fx (by first | assumption | omega) (by first | assumption | omega)) H.size) (cwV 0 hts (gV tw_488 tw_489 tw_490 tw_80 tw_491) rfl rfl rfl (by decide +kernel) ⟨Nat.le_of_ble_eq_true rfl, Nat.le_of_ble_eq_true rfl⟩) (pV hS hAlo hlo hP hK (va_Dlo hD hAlo) hZ [2, 3] (by decide) rfl (ci := 6) (q := (RX6, TX6, 6)) (q0 := 0) rfl rfl) rfl rfl hl.1 rfl (lv_room (Nat.le_of_ble_eq_true rfl)) dX5_readClause_59 ⟨Nat.le_of_ble_eq_true rfl, Nat.le_of_ble_eq_true rfl⟩) hS hA hP hD [2, 3] [0, 1] rfl rfl (by decide) (by decide) (fun u H locs hw_118 hP hD hS => ?_)
        obtain ⟨ta__118, fn__118, fb__118⟩ := u
        have hQ9 := pd_mk [(h0, .inr (5, (fX5 h1 h2 h3 h4))), (aI k h1 10 (vv n see nb_115 gg_91)), (x0, .inr (6, (fX6 x1 (nI tz) (nI ta__118) (nI nq_89) fn__118 fb__118))), (aB k x1 240 fx)] hP hD
        clear hP hD
        obtain ⟨hP, hD⟩ := hQ9
        try dsimp only at hw_118
        obtain ⟨hs0_119, hs1_119⟩ := hw_118.1 (by decide)
        replace hs0_119 := hs0_119.symm
        subst hs0_119
        replace hs1_119 := hs1_119.symm
        subst hs1_119
        obtain ⟨hP9, hD9⟩ := pd_sub [(h0, .inr (5, (fX5 h1 h2 h3 h4))), (aI k h1 10 (vv n see nb_115 gg_91)), (x0, .inr (6, (fX6 x1 (nI tz) (nI ta__118) (nI nq_89) 1 (nI pl_94)))), (aB k x1 240 fx)] [0, 1, 2, 3] hP hD (by decide) rfl
        exact W.vret hx hb hr (fun t ht hW => ⟨⟨(see, nb_115, gg_91, ta__118, (nI nq_89), 1, (nI pl_94)), rfl, ⟨.inr ⟨1, pl_94, rfl, by decide, by decide, by simp [siC, siF, hq_89, hq_94, nI_clamp (show nb_115 < 2 ^ 31 by omega), (show zLE 7 = 0 from rfl), (show zMO 7 = 60 from rfl), (show decide ((7 : Nat) = 1) = false from rfl), -List.getD_eq_getElem?_getD], by simp [siC, siF, hq_89, hq_94, nI_clamp (show nb_115 < 2 ^ 31 by omega), (show zLE 7 = 0 from rfl), (show zMO 7 = 60 from rfl), (show decide ((7 : Nat) = 1) = false from rfl), -List.getD_eq_getElem?_getD], rfl⟩, by omega, by omega, by omega, by omega⟩, by rw [ht]; exact hP9, hD9⟩, hS.F ht⟩) hS.2.2 dX5_readClause_62
    · refine va_iast hx hb hK hP hD hS 1 1 rfl rfl (by unfold vp_in; decide) dX5_readClause_19 (fun H locs hP hD hS => ?_)
      have hQ9 := pd_mk [(h0, .inr (5, (fX5 h1 h2 h3 h4))), (aI k h1 10 (upd (vv n see tm g) (Int32.toNatClampNeg 7) r_88)), (x0, .inr (6, (fX6 x1 (nI tz) (nI ta__88) (nI nq_89) 1 (nI pl_89)))), (aB k x1 240 fx)] hP hD
      clear hP hD
      obtain ⟨hP, hD⟩ := hQ9
      rw [show upd (vv n see tm g) (Int32.toNatClampNeg 7) r_88 = vv n see tm (upd g 7 r_88) from vv_upd _ _ _ _ _ _ (by decide) (by decide) (by decide)] at hP hD
      obtain ⟨gg_121, hgg_121⟩ : ∃ z : Nat → Int32, z = upd g 7 r_88 := ⟨_, rfl⟩
      rw [← hgg_121] at hP hD
      have hQ9 := pd_mk [(h0, .inr (5, (fX5 h1 h2 h3 h4))), (aI k h1 10 (vv n see tm gg_121)), (x0, .inr (6, (fX6 x1 (nI tz) (nI ta__88) (nI nq_89) 1 (nI pl_89)))), (aB k x1 240 fx)] hP hD
      clear hP hD
      obtain ⟨hP, hD⟩ := hQ9
      refine lv_iload_n hx hb dX5_readClause_20 rfl (lv_at hl 2 rfl) ?_
      refine lv_bipush (v := 7) hx hb dX5_readClause_21 (by decide) ?_
      refine lv_icmp_ne (tgt := 58) hx hb dX5_readClause_23 (by decide) (fun h => absurd (by decide) h) (fun _ => ?_)
      refine lv_aload_n hx hb dX5_readClause_26 rfl (lv_at hl 1 rfl) ?_
      refine lv_bipush (v := 8) hx hb dX5_readClause_27 (by decide) ?_
      refine ro_r (D := D) (va_runS (As := [.int 8]) (rest := [.ref x0]) ⟨hx, hb, hml, hown, hts⟩ ((x_wordOf_8 l D k st lo ) H.size) (va_cwS 1 hts (gS tw_386 tw_387 tw_81 tw_388) rfl rfl rfl (by decide +kernel) ⟨Nat.le_of_ble_eq_true rfl, Nat.le_of_ble_eq_true rfl⟩) (pS hS hAlo hlo hP hK (va_Dlo hD hAlo) hZ [] (by decide) rfl) rfl rfl hl.1 rfl (lv_room (Nat.le_of_ble_eq_true rfl)) dX5_readClause_29 ⟨Nat.le_of_ble_eq_true rfl, Nat.le_of_ble_eq_true rfl⟩) hS hA hP (fun H locs hP hS => ?_)
      refine rw_v (D := D) (wr := [(h0, .inr (5, (fX5 h1 h2 h3 h4))), (aI k h1 10 (vv n see tm gg_121))]) (va_runV (As := [.ref (st (100 + 8))]) (rest := []) ⟨hx, hb, hml, hown, hts⟩ ((y_needWord l D k st lo x0 x1 tz ta__88 (nI nq_89) 1 (nI pl_89) fx 8 (by first | assumption | omega) (by first | assumption | omega) (by first | assumption | omega)) H.size) (cwV 1 hts (gV tw_482 tw_483 tw_484 tw_80 tw_485) rfl rfl rfl (by decide +kernel) ⟨Nat.le_of_ble_eq_true rfl, Nat.le_of_ble_eq_true rfl⟩) (pV hS hAlo hlo hP hK (va_Dlo hD hAlo) hZ [2, 3] (by decide) rfl (ci := 6) (q := (RX6, TX6, 6)) (q0 := 0) rfl rfl) rfl rfl hl.1 rfl (lv_room (Nat.le_of_ble_eq_true rfl)) dX5_readClause_32 ⟨Nat.le_of_ble_eq_true rfl, Nat.le_of_ble_eq_true rfl⟩) hS hA hP hD [2, 3] [0, 1] rfl rfl (by decide) (by decide) (fun u H locs hw_123 hP hD hS => ?_)
      obtain ⟨ta__123, fn__123, fb__123⟩ := u
      have hQ9 := pd_mk [(h0, .inr (5, (fX5 h1 h2 h3 h4))), (aI k h1 10 (vv n see tm gg_121)), (x0, .inr (6, (fX6 x1 (nI tz) (nI ta__123) (nI nq_89) fn__123 fb__123))), (aB k x1 240 fx)] hP hD
      clear hP hD
      obtain ⟨hP, hD⟩ := hQ9
      try dsimp only at hw_123
      obtain ⟨hs0_124, hs1_124, hs2_124⟩ := hw_123.1 (by decide)
      replace hs0_124 := hs0_124.symm
      subst hs0_124
      replace hs1_124 := hs1_124.symm
      subst hs1_124
      replace hs2_124 := hs2_124.symm
      subst hs2_124
      refine lv_aload_n hx hb dX5_readClause_35 rfl (lv_at hl 0 rfl) ?_
      refine va_get (D := D) (ci := 5) (v := .ref h1) (C := RX5) (T := TX5) (N := 4) hx hb hts inX5 hown hK hP 0 rfl rfl 0 (by decide) (hts _ tw_146) (fun _ h9 => h9) rfl dX5_readClause_36 ?_
      refine lv_bipush (v := 8) hx hb dX5_readClause_39 (by decide) ?_
      refine lv_aload_n hx hb dX5_readClause_41 rfl (lv_at hl 1 rfl) ?_
      refine va_getsN (A := A) hx hb (hZ.2.2.2.2.1.narrow hAlo) hS hown ((hZ.2.2.2.2.2.2.2.2.1.2.1 (RX5, 106, "LastPlace", "LEAST", "[I", RX7) (List.mem_of_getElem? (i := 1) rfl)).use rfl) (fun _ h9 => h9) dX5_readClause_42 ?_
      refine lv_bipush (v := 8) hx hb dX5_readClause_45 (by decide) ?_
      refine va_ti (A := A) hx hb (hZ.2.2.2.2.2.1.narrow hAlo) hS (i := 8) (by unfold vp_in; decide) (v := .int 0) rfl dX5_readClause_47 ?_
      refine va_getsN (A := A) hx hb (hZ.2.2.1.narrow hAlo) hS hown ((hZ.2.2.2.2.2.2.2.2.1.2.1 (RX5, 109, "LastPlace", "MOST", "[I", RX7) (List.mem_of_getElem? (i := 2) rfl)).use rfl) (fun _ h9 => h9) dX5_readClause_48 ?_
      refine lv_bipush (v := 8) hx hb dX5_readClause_51 (by decide) ?_
      refine va_ti (A := A) hx hb (hZ.2.2.2.1.narrow hAlo) hS (i := 8) (by unfold vp_in; decide) (v := .int 3) rfl dX5_readClause_53 ?_
      refine rw_i (D := D) (wr := [(h0, .inr (5, (fX5 h1 h2 h3 h4))), (aI k h1 10 (vv n see tm gg_121))]) (va_runV (As := [.int 0, .int 3]) (rest := [.int 8, .ref h1]) ⟨hx, hb, hml, hown, hts⟩ ((y_needNumber l D k st lo x0 x1 tz ta__88 (nI nq_89) 1 (nI pl_89) fx 0 3 (by first | assumption | omega) (by first | assumption | omega) (by decide)) H.size) (cwV 2 hts (gV tw_467 tw_468 tw_469 tw_80 tw_470) rfl rfl rfl (by decide +kernel) ⟨Nat.le_of_ble_eq_true rfl, Nat.le_of_ble_eq_true rfl⟩) (pV hS hAlo hlo hP hK (va_Dlo hD hAlo) hZ [2, 3] (by decide) rfl (ci := 6) (q := (RX6, TX6, 6)) (q0 := 0) rfl rfl) rfl rfl hl.1 rfl (lv_room (Nat.le_of_ble_eq_true rfl)) dX5_readClause_54 ⟨Nat.le_of_ble_eq_true rfl, Nat.le_of_ble_eq_true rfl⟩) hS hA hP hD [2, 3] [0, 1] rfl rfl (by decide) (by decide) (fun r_125 u H locs hw_125 hP hD hS => ?_)
      obtain ⟨ta__125, na__125, fn__125, fb__125⟩ := u
      have hQ9 := pd_mk [(h0, .inr (5, (fX5 h1 h2 h3 h4))), (aI k h1 10 (vv n see tm gg_121)), (x0, .inr (6, (fX6 x1 (nI tz) (nI ta__125) na__125 fn__125 fb__125))), (aB k x1 240 fx)] hP hD
      clear hP hD
      obtain ⟨hP, hD⟩ := hQ9
      try dsimp only at hw_125
      have hr_126 := (hw_125.1 (by decide)).1
      obtain ⟨hs0_127, hs1_127, hs2_127, hs3_127⟩ := (hw_125.1 (by decide)).2
      replace hs0_127 := hs0_127.symm
      subst hs0_127
      replace hs1_127 := hs1_127.symm
      subst hs1_127
      replace hs2_127 := hs2_127.symm
      subst hs2_127
      replace hs3_127 := hs3_127.symm
      subst hs3_127
      obtain ⟨nb_128, hnl_128, hnh_128, rfl⟩ := inB_ofc (a := 0) (b := 3) (by omega) (by omega) hw_125.2.2.2.2
      refine va_iast hx hb hK hP hD hS 1 1 rfl rfl (by unfold vp_in; decide) dX5_readClause_57 (fun H locs hP hD hS => ?_)
      have hQ9 := pd_mk [(h0, .inr (5, (fX5 h1 h2 h3 h4))), (aI k h1 10 (upd (vv n see tm gg_121) (Int32.toNatClampNeg 8) (nI nb_128))), (x0, .inr (6, (fX6 x1 (nI tz) (nI ta__88) (nI nq_89) 1 (nI pl_89)))), (aB k x1 240 fx)] hP hD
      clear hP hD
      obtain ⟨hP, hD⟩ := hQ9
      rw [show upd (vv n see tm gg_121) (Int32.toNatClampNeg 8) (nI nb_128) = vv n see nb_128 gg_121 from vv_upd8 _ _ _ _ _] at hP hD
      have hQ9 := pd_mk [(h0, .inr (5, (fX5 h1 h2 h3 h4))), (aI k h1 10 (vv n see nb_128 gg_121)), (x0, .inr (6, (fX6 x1 (nI tz) (nI ta__88) (nI nq_89) 1 (nI pl_89)))), (aB k x1 240 fx)] hP hD
      clear hP hD
      obtain ⟨hP, hD⟩ := hQ9
      refine lv_aload_n hx hb dX5_readClause_58 rfl (lv_at hl 1 rfl) ?_
      refine rw_v (D := D) (wr := [(h0, .inr (5, (fX5 h1 h2 h3 h4))), (aI k h1 10 (vv n see nb_128 gg_121))]) (va_runV (As := []) (rest := []) ⟨hx, hb, hml, hown, hts⟩ ((y_needSemicolon l D k st lo x0 x1 tz ta__88 (nI nq_89) 1 (nI pl_89) fx (by first | assumption | omega) (by first | assumption | omega)) H.size) (cwV 0 hts (gV tw_488 tw_489 tw_490 tw_80 tw_491) rfl rfl rfl (by decide +kernel) ⟨Nat.le_of_ble_eq_true rfl, Nat.le_of_ble_eq_true rfl⟩) (pV hS hAlo hlo hP hK (va_Dlo hD hAlo) hZ [2, 3] (by decide) rfl (ci := 6) (q := (RX6, TX6, 6)) (q0 := 0) rfl rfl) rfl rfl hl.1 rfl (lv_room (Nat.le_of_ble_eq_true rfl)) dX5_readClause_59 ⟨Nat.le_of_ble_eq_true rfl, Nat.le_of_ble_eq_true rfl⟩) hS hA hP hD [2, 3] [0, 1] rfl rfl (by decide) (by decide) (fun u H locs hw_131 hP hD hS => ?_)
      obtain ⟨ta__131, fn__131, fb__131⟩ := u
      have hQ9 := pd_mk [(h0, .inr (5, (fX5 h1 h2 h3 h4))), (aI k h1 10 (vv n see nb_128 gg_121)), (x0, .inr (6, (fX6 x1 (nI tz) (nI ta__131) (nI nq_89) fn__131 fb__131))), (aB k x1 240 fx)] hP hD
      clear hP hD
      obtain ⟨hP, hD⟩ := hQ9
      try dsimp only at hw_131
      obtain ⟨hs0_132, hs1_132⟩ := hw_131.1 (by decide)
      replace hs0_132 := hs0_132.symm
      subst hs0_132
      replace hs1_132 := hs1_132.symm
      subst hs1_132
      obtain ⟨hP9, hD9⟩ := pd_sub [(h0, .inr (5, (fX5 h1 h2 h3 h4))), (aI k h1 10 (vv n see nb_128 gg_121)), (x0, .inr (6, (fX6 x1 (nI tz) (nI ta__131) (nI nq_89) 1 (nI pl_89)))), (aB k x1 240 fx)] [0, 1, 2, 3] hP hD (by decide) rfl
      exact W.vret hx hb hr (fun t ht hW => ⟨⟨(see, nb_128, gg_121, ta__131, (nI nq_89), 1, (nI pl_89)), rfl, ⟨.inr ⟨1, pl_89, rfl, by decide, by decide, by simp [siC, siF, hq_89, nI_clamp (show nb_128 < 2 ^ 31 by omega), (show zLE 7 = 0 from rfl), (show zMO 7 = 60 from rfl), (show decide ((7 : Nat) = 1) = false from rfl), -List.getD_eq_getElem?_getD], by simp [siC, siF, hq_89, nI_clamp (show nb_128 < 2 ^ 31 by omega), (show zLE 7 = 0 from rfl), (show zMO 7 = 60 from rfl), (show decide ((7 : Nat) = 1) = false from rfl), -List.getD_eq_getElem?_getD], rfl⟩, by omega, by omega, by omega, by omega⟩, by rw [ht]; exact hP9, hD9⟩, hS.F ht⟩) hS.2.2 dX5_readClause_62
    · refine va_iast hx hb hK hP hD hS 1 1 rfl rfl (by unfold vp_in; decide) dX5_readClause_19 (fun H locs hP hD hS => ?_)
      have hQ9 := pd_mk [(h0, .inr (5, (fX5 h1 h2 h3 h4))), (aI k h1 10 (upd (vv n see tm g) (Int32.toNatClampNeg 7) r_88)), (x0, .inr (6, (fX6 x1 (nI tz) (nI ta__88) (nI nq_89) 2 (nI pl_89)))), (aB k x1 240 fx)] hP hD
      clear hP hD
      obtain ⟨hP, hD⟩ := hQ9
      rw [show upd (vv n see tm g) (Int32.toNatClampNeg 7) r_88 = vv n see tm (upd g 7 r_88) from vv_upd _ _ _ _ _ _ (by decide) (by decide) (by decide)] at hP hD
      obtain ⟨gg_134, hgg_134⟩ : ∃ z : Nat → Int32, z = upd g 7 r_88 := ⟨_, rfl⟩
      rw [← hgg_134] at hP hD
      have hQ9 := pd_mk [(h0, .inr (5, (fX5 h1 h2 h3 h4))), (aI k h1 10 (vv n see tm gg_134)), (x0, .inr (6, (fX6 x1 (nI tz) (nI ta__88) (nI nq_89) 2 (nI pl_89)))), (aB k x1 240 fx)] hP hD
      clear hP hD
      obtain ⟨hP, hD⟩ := hQ9
      refine lv_iload_n hx hb dX5_readClause_20 rfl (lv_at hl 2 rfl) ?_
      refine lv_bipush (v := 7) hx hb dX5_readClause_21 (by decide) ?_
      refine lv_icmp_ne (tgt := 58) hx hb dX5_readClause_23 (by decide) (fun h => absurd (by decide) h) (fun _ => ?_)
      refine lv_aload_n hx hb dX5_readClause_26 rfl (lv_at hl 1 rfl) ?_
      refine lv_bipush (v := 8) hx hb dX5_readClause_27 (by decide) ?_
      refine ro_r (D := D) (va_runS (As := [.int 8]) (rest := [.ref x0]) ⟨hx, hb, hml, hown, hts⟩ ((x_wordOf_8 l D k st lo ) H.size) (va_cwS 1 hts (gS tw_386 tw_387 tw_81 tw_388) rfl rfl rfl (by decide +kernel) ⟨Nat.le_of_ble_eq_true rfl, Nat.le_of_ble_eq_true rfl⟩) (pS hS hAlo hlo hP hK (va_Dlo hD hAlo) hZ [] (by decide) rfl) rfl rfl hl.1 rfl (lv_room (Nat.le_of_ble_eq_true rfl)) dX5_readClause_29 ⟨Nat.le_of_ble_eq_true rfl, Nat.le_of_ble_eq_true rfl⟩) hS hA hP (fun H locs hP hS => ?_)
      refine rw_v (D := D) (wr := [(h0, .inr (5, (fX5 h1 h2 h3 h4))), (aI k h1 10 (vv n see tm gg_134))]) (va_runV (As := [.ref (st (100 + 8))]) (rest := []) ⟨hx, hb, hml, hown, hts⟩ ((y_needWord l D k st lo x0 x1 tz ta__88 (nI nq_89) 2 (nI pl_89) fx 8 (by first | assumption | omega) (by first | assumption | omega) (by first | assumption | omega)) H.size) (cwV 1 hts (gV tw_482 tw_483 tw_484 tw_80 tw_485) rfl rfl rfl (by decide +kernel) ⟨Nat.le_of_ble_eq_true rfl, Nat.le_of_ble_eq_true rfl⟩) (pV hS hAlo hlo hP hK (va_Dlo hD hAlo) hZ [2, 3] (by decide) rfl (ci := 6) (q := (RX6, TX6, 6)) (q0 := 0) rfl rfl) rfl rfl hl.1 rfl (lv_room (Nat.le_of_ble_eq_true rfl)) dX5_readClause_32 ⟨Nat.le_of_ble_eq_true rfl, Nat.le_of_ble_eq_true rfl⟩) hS hA hP hD [2, 3] [0, 1] rfl rfl (by decide) (by decide) (fun u H locs hw_136 hP hD hS => ?_)
      obtain ⟨ta__136, fn__136, fb__136⟩ := u
      have hQ9 := pd_mk [(h0, .inr (5, (fX5 h1 h2 h3 h4))), (aI k h1 10 (vv n see tm gg_134)), (x0, .inr (6, (fX6 x1 (nI tz) (nI ta__136) (nI nq_89) fn__136 fb__136))), (aB k x1 240 fx)] hP hD
      clear hP hD
      obtain ⟨hP, hD⟩ := hQ9
      try dsimp only at hw_136
      obtain ⟨hs0_137, hs1_137, hs2_137⟩ := hw_136.1 (by decide)
      replace hs0_137 := hs0_137.symm
      subst hs0_137
      replace hs1_137 := hs1_137.symm
      subst hs1_137
      replace hs2_137 := hs2_137.symm
      subst hs2_137
      refine lv_aload_n hx hb dX5_readClause_35 rfl (lv_at hl 0 rfl) ?_
      refine va_get (D := D) (ci := 5) (v := .ref h1) (C := RX5) (T := TX5) (N := 4) hx hb hts inX5 hown hK hP 0 rfl rfl 0 (by decide) (hts _ tw_146) (fun _ h9 => h9) rfl dX5_readClause_36 ?_
      refine lv_bipush (v := 8) hx hb dX5_readClause_39 (by decide) ?_
      refine lv_aload_n hx hb dX5_readClause_41 rfl (lv_at hl 1 rfl) ?_
      refine va_getsN (A := A) hx hb (hZ.2.2.2.2.1.narrow hAlo) hS hown ((hZ.2.2.2.2.2.2.2.2.1.2.1 (RX5, 106, "LastPlace", "LEAST", "[I", RX7) (List.mem_of_getElem? (i := 1) rfl)).use rfl) (fun _ h9 => h9) dX5_readClause_42 ?_
      refine lv_bipush (v := 8) hx hb dX5_readClause_45 (by decide) ?_
      refine va_ti (A := A) hx hb (hZ.2.2.2.2.2.1.narrow hAlo) hS (i := 8) (by unfold vp_in; decide) (v := .int 0) rfl dX5_readClause_47 ?_
      refine va_getsN (A := A) hx hb (hZ.2.2.1.narrow hAlo) hS hown ((hZ.2.2.2.2.2.2.2.2.1.2.1 (RX5, 109, "LastPlace", "MOST", "[I", RX7) (List.mem_of_getElem? (i := 2) rfl)).use rfl) (fun _ h9 => h9) dX5_readClause_48 ?_
      refine lv_bipush (v := 8) hx hb dX5_readClause_51 (by decide) ?_
      refine va_ti (A := A) hx hb (hZ.2.2.2.1.narrow hAlo) hS (i := 8) (by unfold vp_in; decide) (v := .int 3) rfl dX5_readClause_53 ?_
      refine rw_i (D := D) (wr := [(h0, .inr (5, (fX5 h1 h2 h3 h4))), (aI k h1 10 (vv n see tm gg_134))]) (va_runV (As := [.int 0, .int 3]) (rest := [.int 8, .ref h1]) ⟨hx, hb, hml, hown, hts⟩ ((y_needNumber l D k st lo x0 x1 tz ta__88 (nI nq_89) 2 (nI pl_89) fx 0 3 (by first | assumption | omega) (by first | assumption | omega) (by decide)) H.size) (cwV 2 hts (gV tw_467 tw_468 tw_469 tw_80 tw_470) rfl rfl rfl (by decide +kernel) ⟨Nat.le_of_ble_eq_true rfl, Nat.le_of_ble_eq_true rfl⟩) (pV hS hAlo hlo hP hK (va_Dlo hD hAlo) hZ [2, 3] (by decide) rfl (ci := 6) (q := (RX6, TX6, 6)) (q0 := 0) rfl rfl) rfl rfl hl.1 rfl (lv_room (Nat.le_of_ble_eq_true rfl)) dX5_readClause_54 ⟨Nat.le_of_ble_eq_true rfl, Nat.le_of_ble_eq_true rfl⟩) hS hA hP hD [2, 3] [0, 1] rfl rfl (by decide) (by decide) (fun r_138 u H locs hw_138 hP hD hS => ?_)
      obtain ⟨ta__138, na__138, fn__138, fb__138⟩ := u
      have hQ9 := pd_mk [(h0, .inr (5, (fX5 h1 h2 h3 h4))), (aI k h1 10 (vv n see tm gg_134)), (x0, .inr (6, (fX6 x1 (nI tz) (nI ta__138) na__138 fn__138 fb__138))), (aB k x1 240 fx)] hP hD
      clear hP hD
      obtain ⟨hP, hD⟩ := hQ9
      try dsimp only at hw_138
      have hr_139 := (hw_138.1 (by decide)).1
      obtain ⟨hs0_140, hs1_140, hs2_140, hs3_140⟩ := (hw_138.1 (by decide)).2
      replace hs0_140 := hs0_140.symm
      subst hs0_140
      replace hs1_140 := hs1_140.symm
      subst hs1_140
      replace hs2_140 := hs2_140.symm
      subst hs2_140
      replace hs3_140 := hs3_140.symm
      subst hs3_140
      obtain ⟨nb_141, hnl_141, hnh_141, rfl⟩ := inB_ofc (a := 0) (b := 3) (by omega) (by omega) hw_138.2.2.2.2
      refine va_iast hx hb hK hP hD hS 1 1 rfl rfl (by unfold vp_in; decide) dX5_readClause_57 (fun H locs hP hD hS => ?_)
      have hQ9 := pd_mk [(h0, .inr (5, (fX5 h1 h2 h3 h4))), (aI k h1 10 (upd (vv n see tm gg_134) (Int32.toNatClampNeg 8) (nI nb_141))), (x0, .inr (6, (fX6 x1 (nI tz) (nI ta__88) (nI nq_89) 2 (nI pl_89)))), (aB k x1 240 fx)] hP hD
      clear hP hD
      obtain ⟨hP, hD⟩ := hQ9
      rw [show upd (vv n see tm gg_134) (Int32.toNatClampNeg 8) (nI nb_141) = vv n see nb_141 gg_134 from vv_upd8 _ _ _ _ _] at hP hD
      have hQ9 := pd_mk [(h0, .inr (5, (fX5 h1 h2 h3 h4))), (aI k h1 10 (vv n see nb_141 gg_134)), (x0, .inr (6, (fX6 x1 (nI tz) (nI ta__88) (nI nq_89) 2 (nI pl_89)))), (aB k x1 240 fx)] hP hD
      clear hP hD
      obtain ⟨hP, hD⟩ := hQ9
      refine lv_aload_n hx hb dX5_readClause_58 rfl (lv_at hl 1 rfl) ?_
      refine rw_v (D := D) (wr := [(h0, .inr (5, (fX5 h1 h2 h3 h4))), (aI k h1 10 (vv n see nb_141 gg_134))]) (va_runV (As := []) (rest := []) ⟨hx, hb, hml, hown, hts⟩ ((y_needSemicolon l D k st lo x0 x1 tz ta__88 (nI nq_89) 2 (nI pl_89) fx (by first | assumption | omega) (by first | assumption | omega)) H.size) (cwV 0 hts (gV tw_488 tw_489 tw_490 tw_80 tw_491) rfl rfl rfl (by decide +kernel) ⟨Nat.le_of_ble_eq_true rfl, Nat.le_of_ble_eq_true rfl⟩) (pV hS hAlo hlo hP hK (va_Dlo hD hAlo) hZ [2, 3] (by decide) rfl (ci := 6) (q := (RX6, TX6, 6)) (q0 := 0) rfl rfl) rfl rfl hl.1 rfl (lv_room (Nat.le_of_ble_eq_true rfl)) dX5_readClause_59 ⟨Nat.le_of_ble_eq_true rfl, Nat.le_of_ble_eq_true rfl⟩) hS hA hP hD [2, 3] [0, 1] rfl rfl (by decide) (by decide) (fun u H locs hw_144 hP hD hS => ?_)
      obtain ⟨ta__144, fn__144, fb__144⟩ := u
      have hQ9 := pd_mk [(h0, .inr (5, (fX5 h1 h2 h3 h4))), (aI k h1 10 (vv n see nb_141 gg_134)), (x0, .inr (6, (fX6 x1 (nI tz) (nI ta__144) (nI nq_89) fn__144 fb__144))), (aB k x1 240 fx)] hP hD
      clear hP hD
      obtain ⟨hP, hD⟩ := hQ9
      try dsimp only at hw_144
      obtain ⟨hs0_145, hs1_145⟩ := hw_144.1 (by decide)
      replace hs0_145 := hs0_145.symm
      subst hs0_145
      replace hs1_145 := hs1_145.symm
      subst hs1_145
      obtain ⟨hP9, hD9⟩ := pd_sub [(h0, .inr (5, (fX5 h1 h2 h3 h4))), (aI k h1 10 (vv n see nb_141 gg_134)), (x0, .inr (6, (fX6 x1 (nI tz) (nI ta__144) (nI nq_89) 2 (nI pl_89)))), (aB k x1 240 fx)] [0, 1, 2, 3] hP hD (by decide) rfl
      exact W.vret hx hb hr (fun t ht hW => ⟨⟨(see, nb_141, gg_134, ta__144, (nI nq_89), 2, (nI pl_89)), rfl, ⟨.inr ⟨2, pl_89, rfl, by decide, by decide, by simp [siC, siF, hq_89, nI_clamp (show nb_141 < 2 ^ 31 by omega), (show zLE 7 = 0 from rfl), (show zMO 7 = 60 from rfl), (show decide ((7 : Nat) = 1) = false from rfl), -List.getD_eq_getElem?_getD], by simp [siC, siF, hq_89, nI_clamp (show nb_141 < 2 ^ 31 by omega), (show zLE 7 = 0 from rfl), (show zMO 7 = 60 from rfl), (show decide ((7 : Nat) = 1) = false from rfl), -List.getD_eq_getElem?_getD], rfl⟩, by omega, by omega, by omega, by omega⟩, by rw [ht]; exact hP9, hD9⟩, hS.F ht⟩) hS.2.2 dX5_readClause_62
  · refine lv_aload_n hx hb dX5_readClause_0 rfl (lv_at hl 0 rfl) ?_
    refine va_get (D := D) (ci := 5) (v := .ref h1) (C := RX5) (T := TX5) (N := 4) hx hb hts inX5 hown hK hP 0 rfl rfl 0 (by decide) (hts _ tw_146) (fun _ h9 => h9) rfl dX5_readClause_1 ?_
    refine lv_iload_n hx hb dX5_readClause_4 rfl (lv_at hl 2 rfl) ?_
    refine lv_aload_n hx hb dX5_readClause_5 rfl (lv_at hl 1 rfl) ?_
    refine va_getsN (A := A) hx hb (hZ.2.2.2.2.1.narrow hAlo) hS hown ((hZ.2.2.2.2.2.2.2.2.1.2.1 (RX5, 106, "LastPlace", "LEAST", "[I", RX7) (List.mem_of_getElem? (i := 1) rfl)).use rfl) (fun _ h9 => h9) dX5_readClause_6 ?_
    refine lv_iload_n hx hb dX5_readClause_9 rfl (lv_at hl 2 rfl) ?_
    refine va_ti (A := A) hx hb (hZ.2.2.2.2.2.1.narrow hAlo) hS (i := 9) (by unfold vp_in; decide) (v := .int 0) rfl dX5_readClause_10 ?_
    refine va_getsN (A := A) hx hb (hZ.2.2.1.narrow hAlo) hS hown ((hZ.2.2.2.2.2.2.2.2.1.2.1 (RX5, 109, "LastPlace", "MOST", "[I", RX7) (List.mem_of_getElem? (i := 2) rfl)).use rfl) (fun _ h9 => h9) dX5_readClause_11 ?_
    refine lv_iload_n hx hb dX5_readClause_14 rfl (lv_at hl 2 rfl) ?_
    refine va_ti (A := A) hx hb (hZ.2.2.2.1.narrow hAlo) hS (i := 9) (by unfold vp_in; decide) (v := .int 999) rfl dX5_readClause_15 ?_
    refine rw_i (D := D) (wr := [(h0, .inr (5, (fX5 h1 h2 h3 h4))), (aI k h1 10 (vv n see tm g))]) (va_runV (As := [.int 0, .int 999]) (rest := [.int 9, .ref h1]) ⟨hx, hb, hml, hown, hts⟩ ((y_needNumber l D k st lo x0 x1 tz ta na 0 fb fx 0 999 (by first | assumption | omega) (by first | assumption | omega) (by decide)) s.heap.size) (cwV 2 hts (gV tw_467 tw_468 tw_469 tw_80 tw_470) rfl rfl rfl (by decide +kernel) ⟨Nat.le_of_ble_eq_true rfl, Nat.le_of_ble_eq_true rfl⟩) (pV hS hAlo hlo hP hK (va_Dlo hD hAlo) hZ [2, 3] (by decide) rfl (ci := 6) (q := (RX6, TX6, 6)) (q0 := 0) rfl rfl) rfl rfl hl.1 rfl (lv_room (Nat.le_of_ble_eq_true rfl)) dX5_readClause_16 ⟨Nat.le_of_ble_eq_true rfl, Nat.le_of_ble_eq_true rfl⟩) hS hA hP hD [2, 3] [0, 1] rfl rfl (by decide) (by decide) (fun r_146 u H locs hw_146 hP hD hS => ?_)
    obtain ⟨ta__146, na__146, fn__146, fb__146⟩ := u
    have hQ9 := pd_mk [(h0, .inr (5, (fX5 h1 h2 h3 h4))), (aI k h1 10 (vv n see tm g)), (x0, .inr (6, (fX6 x1 (nI tz) (nI ta__146) na__146 fn__146 fb__146))), (aB k x1 240 fx)] hP hD
    clear hP hD
    obtain ⟨hP, hD⟩ := hQ9
    try dsimp only at hw_146
    obtain ⟨pl_147, nq_147, rfl, hq_147⟩ := hw_146.2.1 rfl
    rw [show decide ((0 : Int32) < 0) = false from by decide] at hq_147
    rcases hq_147 with ⟨rfl, hq_147⟩ | ⟨rfl, hr_147, rfl, hq_147⟩ | ⟨rfl, hr_147, rfl, hq_147⟩
    · refine va_iast hx hb hK hP hD hS 1 1 rfl rfl (by unfold vp_in; decide) dX5_readClause_19 (fun H locs hP hD hS => ?_)
      have hQ9 := pd_mk [(h0, .inr (5, (fX5 h1 h2 h3 h4))), (aI k h1 10 (upd (vv n see tm g) (Int32.toNatClampNeg 9) r_146)), (x0, .inr (6, (fX6 x1 (nI tz) (nI ta__146) (nI nq_147) 0 fb__146))), (aB k x1 240 fx)] hP hD
      clear hP hD
      obtain ⟨hP, hD⟩ := hQ9
      rw [show upd (vv n see tm g) (Int32.toNatClampNeg 9) r_146 = vv n see tm (upd g 9 r_146) from vv_upd _ _ _ _ _ _ (by decide) (by decide) (by decide)] at hP hD
      obtain ⟨gg_149, hgg_149⟩ : ∃ z : Nat → Int32, z = upd g 9 r_146 := ⟨_, rfl⟩
      rw [← hgg_149] at hP hD
      have hQ9 := pd_mk [(h0, .inr (5, (fX5 h1 h2 h3 h4))), (aI k h1 10 (vv n see tm gg_149)), (x0, .inr (6, (fX6 x1 (nI tz) (nI ta__146) (nI nq_147) 0 fb__146))), (aB k x1 240 fx)] hP hD
      clear hP hD
      obtain ⟨hP, hD⟩ := hQ9
      refine lv_iload_n hx hb dX5_readClause_20 rfl (lv_at hl 2 rfl) ?_
      refine lv_bipush (v := 7) hx hb dX5_readClause_21 (by decide) ?_
      refine lv_icmp_ne (tgt := 58) hx hb dX5_readClause_23 (by decide) (fun _ => ?_) (fun h => absurd h (by decide))
      refine lv_aload_n hx hb dX5_readClause_58 rfl (lv_at hl 1 rfl) ?_
      refine rw_v (D := D) (wr := [(h0, .inr (5, (fX5 h1 h2 h3 h4))), (aI k h1 10 (vv n see tm gg_149))]) (va_runV (As := []) (rest := []) ⟨hx, hb, hml, hown, hts⟩ ((y_needSemicolon l D k st lo x0 x1 tz ta__146 (nI nq_147) 0 fb__146 fx (by first | assumption | omega) (by first | assumption | omega)) H.size) (cwV 0 hts (gV tw_488 tw_489 tw_490 tw_80 tw_491) rfl rfl rfl (by decide +kernel) ⟨Nat.le_of_ble_eq_true rfl, Nat.le_of_ble_eq_true rfl⟩) (pV hS hAlo hlo hP hK (va_Dlo hD hAlo) hZ [2, 3] (by decide) rfl (ci := 6) (q := (RX6, TX6, 6)) (q0 := 0) rfl rfl) rfl rfl hl.1 rfl (lv_room (Nat.le_of_ble_eq_true rfl)) dX5_readClause_59 ⟨Nat.le_of_ble_eq_true rfl, Nat.le_of_ble_eq_true rfl⟩) hS hA hP hD [2, 3] [0, 1] rfl rfl (by decide) (by decide) (fun u H locs hw_150 hP hD hS => ?_)
      obtain ⟨ta__150, fn__150, fb__150⟩ := u
      have hQ9 := pd_mk [(h0, .inr (5, (fX5 h1 h2 h3 h4))), (aI k h1 10 (vv n see tm gg_149)), (x0, .inr (6, (fX6 x1 (nI tz) (nI ta__150) (nI nq_147) fn__150 fb__150))), (aB k x1 240 fx)] hP hD
      clear hP hD
      obtain ⟨hP, hD⟩ := hQ9
      try dsimp only at hw_150
      rcases hw_150.2.1 rfl with ⟨rfl, hq_151⟩ | ⟨rfl, pl_151, hq_151, rfl⟩
      · obtain ⟨hP9, hD9⟩ := pd_sub [(h0, .inr (5, (fX5 h1 h2 h3 h4))), (aI k h1 10 (vv n see tm gg_149)), (x0, .inr (6, (fX6 x1 (nI tz) (nI ta__150) (nI nq_147) 0 fb__150))), (aB k x1 240 fx)] [0, 1, 2, 3] hP hD (by decide) rfl
        exact W.vret hx hb hr (fun t ht hW => ⟨⟨(see, tm, gg_149, ta__150, (nI nq_147), 0, fb__150), rfl, ⟨.inl ⟨rfl, r_146, 0, (by simp [siC, siF, hq_147, hq_151, (show zLE 9 = 0 from rfl), (show zMO 9 = 999 from rfl), (show decide ((9 : Nat) = 1) = false from rfl), -List.getD_eq_getElem?_getD]), by rw [if_neg (by decide), vv_upd _ _ _ _ 9 _ (by decide) (by decide) (by decide), hgg_149]⟩, by omega, by omega, by omega, by omega⟩, by rw [ht]; exact hP9, hD9⟩, hS.F ht⟩) hS.2.2 dX5_readClause_62
      · obtain ⟨hP9, hD9⟩ := pd_sub [(h0, .inr (5, (fX5 h1 h2 h3 h4))), (aI k h1 10 (vv n see tm gg_149)), (x0, .inr (6, (fX6 x1 (nI tz) (nI ta__150) (nI nq_147) 1 (nI pl_151)))), (aB k x1 240 fx)] [0, 1, 2, 3] hP hD (by decide) rfl
        exact W.vret hx hb hr (fun t ht hW => ⟨⟨(see, tm, gg_149, ta__150, (nI nq_147), 1, (nI pl_151)), rfl, ⟨.inr ⟨1, pl_151, rfl, by decide, by decide, by simp [siC, siF, hq_147, hq_151, (show zLE 9 = 0 from rfl), (show zMO 9 = 999 from rfl), (show decide ((9 : Nat) = 1) = false from rfl), -List.getD_eq_getElem?_getD], by simp [siC, siF, hq_147, hq_151, (show zLE 9 = 0 from rfl), (show zMO 9 = 999 from rfl), (show decide ((9 : Nat) = 1) = false from rfl), -List.getD_eq_getElem?_getD], rfl⟩, by omega, by omega, by omega, by omega⟩, by rw [ht]; exact hP9, hD9⟩, hS.F ht⟩) hS.2.2 dX5_readClause_62
    · refine va_iast hx hb hK hP hD hS 1 1 rfl rfl (by unfold vp_in; decide) dX5_readClause_19 (fun H locs hP hD hS => ?_)
      have hQ9 := pd_mk [(h0, .inr (5, (fX5 h1 h2 h3 h4))), (aI k h1 10 (upd (vv n see tm g) (Int32.toNatClampNeg 9) r_146)), (x0, .inr (6, (fX6 x1 (nI tz) (nI ta__146) (nI nq_147) 1 (nI pl_147)))), (aB k x1 240 fx)] hP hD
      clear hP hD
      obtain ⟨hP, hD⟩ := hQ9
      rw [show upd (vv n see tm g) (Int32.toNatClampNeg 9) r_146 = vv n see tm (upd g 9 r_146) from vv_upd _ _ _ _ _ _ (by decide) (by decide) (by decide)] at hP hD
      obtain ⟨gg_153, hgg_153⟩ : ∃ z : Nat → Int32, z = upd g 9 r_146 := ⟨_, rfl⟩
      rw [← hgg_153] at hP hD
      have hQ9 := pd_mk [(h0, .inr (5, (fX5 h1 h2 h3 h4))), (aI k h1 10 (vv n see tm gg_153)), (x0, .inr (6, (fX6 x1 (nI tz) (nI ta__146) (nI nq_147) 1 (nI pl_147)))), (aB k x1 240 fx)] hP hD
      clear hP hD
      obtain ⟨hP, hD⟩ := hQ9
      refine lv_iload_n hx hb dX5_readClause_20 rfl (lv_at hl 2 rfl) ?_
      refine lv_bipush (v := 7) hx hb dX5_readClause_21 (by decide) ?_
      refine lv_icmp_ne (tgt := 58) hx hb dX5_readClause_23 (by decide) (fun _ => ?_) (fun h => absurd h (by decide))
      refine lv_aload_n hx hb dX5_readClause_58 rfl (lv_at hl 1 rfl) ?_
      refine rw_v (D := D) (wr := [(h0, .inr (5, (fX5 h1 h2 h3 h4))), (aI k h1 10 (vv n see tm gg_153))]) (va_runV (As := []) (rest := []) ⟨hx, hb, hml, hown, hts⟩ ((y_needSemicolon l D k st lo x0 x1 tz ta__146 (nI nq_147) 1 (nI pl_147) fx (by first | assumption | omega) (by first | assumption | omega)) H.size) (cwV 0 hts (gV tw_488 tw_489 tw_490 tw_80 tw_491) rfl rfl rfl (by decide +kernel) ⟨Nat.le_of_ble_eq_true rfl, Nat.le_of_ble_eq_true rfl⟩) (pV hS hAlo hlo hP hK (va_Dlo hD hAlo) hZ [2, 3] (by decide) rfl (ci := 6) (q := (RX6, TX6, 6)) (q0 := 0) rfl rfl) rfl rfl hl.1 rfl (lv_room (Nat.le_of_ble_eq_true rfl)) dX5_readClause_59 ⟨Nat.le_of_ble_eq_true rfl, Nat.le_of_ble_eq_true rfl⟩) hS hA hP hD [2, 3] [0, 1] rfl rfl (by decide) (by decide) (fun u H locs hw_154 hP hD hS => ?_)
      obtain ⟨ta__154, fn__154, fb__154⟩ := u
      have hQ9 := pd_mk [(h0, .inr (5, (fX5 h1 h2 h3 h4))), (aI k h1 10 (vv n see tm gg_153)), (x0, .inr (6, (fX6 x1 (nI tz) (nI ta__154) (nI nq_147) fn__154 fb__154))), (aB k x1 240 fx)] hP hD
      clear hP hD
      obtain ⟨hP, hD⟩ := hQ9
      try dsimp only at hw_154
      obtain ⟨hs0_155, hs1_155⟩ := hw_154.1 (by decide)
      replace hs0_155 := hs0_155.symm
      subst hs0_155
      replace hs1_155 := hs1_155.symm
      subst hs1_155
      obtain ⟨hP9, hD9⟩ := pd_sub [(h0, .inr (5, (fX5 h1 h2 h3 h4))), (aI k h1 10 (vv n see tm gg_153)), (x0, .inr (6, (fX6 x1 (nI tz) (nI ta__154) (nI nq_147) 1 (nI pl_147)))), (aB k x1 240 fx)] [0, 1, 2, 3] hP hD (by decide) rfl
      exact W.vret hx hb hr (fun t ht hW => ⟨⟨(see, tm, gg_153, ta__154, (nI nq_147), 1, (nI pl_147)), rfl, ⟨.inr ⟨1, pl_147, rfl, by decide, by decide, by simp [siC, siF, hq_147, (show zLE 9 = 0 from rfl), (show zMO 9 = 999 from rfl), (show decide ((9 : Nat) = 1) = false from rfl), -List.getD_eq_getElem?_getD], by simp [siC, siF, hq_147, (show zLE 9 = 0 from rfl), (show zMO 9 = 999 from rfl), (show decide ((9 : Nat) = 1) = false from rfl), -List.getD_eq_getElem?_getD], rfl⟩, by omega, by omega, by omega, by omega⟩, by rw [ht]; exact hP9, hD9⟩, hS.F ht⟩) hS.2.2 dX5_readClause_62
    · refine va_iast hx hb hK hP hD hS 1 1 rfl rfl (by unfold vp_in; decide) dX5_readClause_19 (fun H locs hP hD hS => ?_)
      have hQ9 := pd_mk [(h0, .inr (5, (fX5 h1 h2 h3 h4))), (aI k h1 10 (upd (vv n see tm g) (Int32.toNatClampNeg 9) r_146)), (x0, .inr (6, (fX6 x1 (nI tz) (nI ta__146) (nI nq_147) 2 (nI pl_147)))), (aB k x1 240 fx)] hP hD
      clear hP hD
      obtain ⟨hP, hD⟩ := hQ9
      rw [show upd (vv n see tm g) (Int32.toNatClampNeg 9) r_146 = vv n see tm (upd g 9 r_146) from vv_upd _ _ _ _ _ _ (by decide) (by decide) (by decide)] at hP hD
      obtain ⟨gg_157, hgg_157⟩ : ∃ z : Nat → Int32, z = upd g 9 r_146 := ⟨_, rfl⟩
      rw [← hgg_157] at hP hD
      have hQ9 := pd_mk [(h0, .inr (5, (fX5 h1 h2 h3 h4))), (aI k h1 10 (vv n see tm gg_157)), (x0, .inr (6, (fX6 x1 (nI tz) (nI ta__146) (nI nq_147) 2 (nI pl_147)))), (aB k x1 240 fx)] hP hD
      clear hP hD
      obtain ⟨hP, hD⟩ := hQ9
      refine lv_iload_n hx hb dX5_readClause_20 rfl (lv_at hl 2 rfl) ?_
      refine lv_bipush (v := 7) hx hb dX5_readClause_21 (by decide) ?_
      refine lv_icmp_ne (tgt := 58) hx hb dX5_readClause_23 (by decide) (fun _ => ?_) (fun h => absurd h (by decide))
      refine lv_aload_n hx hb dX5_readClause_58 rfl (lv_at hl 1 rfl) ?_
      refine rw_v (D := D) (wr := [(h0, .inr (5, (fX5 h1 h2 h3 h4))), (aI k h1 10 (vv n see tm gg_157))]) (va_runV (As := []) (rest := []) ⟨hx, hb, hml, hown, hts⟩ ((y_needSemicolon l D k st lo x0 x1 tz ta__146 (nI nq_147) 2 (nI pl_147) fx (by first | assumption | omega) (by first | assumption | omega)) H.size) (cwV 0 hts (gV tw_488 tw_489 tw_490 tw_80 tw_491) rfl rfl rfl (by decide +kernel) ⟨Nat.le_of_ble_eq_true rfl, Nat.le_of_ble_eq_true rfl⟩) (pV hS hAlo hlo hP hK (va_Dlo hD hAlo) hZ [2, 3] (by decide) rfl (ci := 6) (q := (RX6, TX6, 6)) (q0 := 0) rfl rfl) rfl rfl hl.1 rfl (lv_room (Nat.le_of_ble_eq_true rfl)) dX5_readClause_59 ⟨Nat.le_of_ble_eq_true rfl, Nat.le_of_ble_eq_true rfl⟩) hS hA hP hD [2, 3] [0, 1] rfl rfl (by decide) (by decide) (fun u H locs hw_158 hP hD hS => ?_)
      obtain ⟨ta__158, fn__158, fb__158⟩ := u
      have hQ9 := pd_mk [(h0, .inr (5, (fX5 h1 h2 h3 h4))), (aI k h1 10 (vv n see tm gg_157)), (x0, .inr (6, (fX6 x1 (nI tz) (nI ta__158) (nI nq_147) fn__158 fb__158))), (aB k x1 240 fx)] hP hD
      clear hP hD
      obtain ⟨hP, hD⟩ := hQ9
      try dsimp only at hw_158
      obtain ⟨hs0_159, hs1_159⟩ := hw_158.1 (by decide)
      replace hs0_159 := hs0_159.symm
      subst hs0_159
      replace hs1_159 := hs1_159.symm
      subst hs1_159
      obtain ⟨hP9, hD9⟩ := pd_sub [(h0, .inr (5, (fX5 h1 h2 h3 h4))), (aI k h1 10 (vv n see tm gg_157)), (x0, .inr (6, (fX6 x1 (nI tz) (nI ta__158) (nI nq_147) 2 (nI pl_147)))), (aB k x1 240 fx)] [0, 1, 2, 3] hP hD (by decide) rfl
      exact W.vret hx hb hr (fun t ht hW => ⟨⟨(see, tm, gg_157, ta__158, (nI nq_147), 2, (nI pl_147)), rfl, ⟨.inr ⟨2, pl_147, rfl, by decide, by decide, by simp [siC, siF, hq_147, (show zLE 9 = 0 from rfl), (show zMO 9 = 999 from rfl), (show decide ((9 : Nat) = 1) = false from rfl), -List.getD_eq_getElem?_getD], by simp [siC, siF, hq_147, (show zLE 9 = 0 from rfl), (show zMO 9 = 999 from rfl), (show decide ((9 : Nat) = 1) = false from rfl), -List.getD_eq_getElem?_getD], rfl⟩, by omega, by omega, by omega, by omega⟩, by rw [ht]; exact hP9, hD9⟩, hS.F ht⟩) hS.2.2 dX5_readClause_62

theorem f_glueP5 : True := trivial
/-- the bit c of an int -/
theorem bitI (m : Int32) {c : Nat} (hc : c < 32) : ((m >>> (nI c &&& 31)) &&& 1 = 0 ↔ m.toBitVec.getLsbD c = false) := by
  have hs : ∀ c, c < 32 → ((nI c &&& 31).toBitVec.smod 32).toNat = c := by decide
  have e : (m >>> (nI c &&& 31)).toBitVec = m.toBitVec.sshiftRight c := by
    show m.toBitVec.sshiftRight ((nI c &&& 31).toBitVec.smod 32).toNat = _
    rw [hs c hc]
  rw [← Int32.toBitVec_inj, Int32.toBitVec_and, e]
  show (m.toBitVec.sshiftRight c &&& 1#32) = 0#32 ↔ _
  rw [BitVec.and_one_eq_setWidth_ofBool_getLsbD, BitVec.getLsbD_sshiftRight]
  simp only [Nat.add_zero]
  rw [if_pos (show c < 32 by omega)]
  cases hb : m.toBitVec.getLsbD c
  · exact ⟨fun _ => rfl, fun _ => by decide⟩
  · exact ⟨fun z => absurd z (by decide), fun z => absurd z (by decide)⟩
/-- an int's bit with k set -/
theorem bit_or (m : Int32) {c k : Nat} (hc : c < 31) (hk : k < 31) : (m ||| ((1 : Int32) <<< (nI k &&& 31))).toBitVec.getLsbD c = (m.toBitVec.getLsbD c || decide (c = k)) := by
  have h : ∀ k, k < 31 → ∀ c, c < 31 → ((1 : Int32) <<< (nI k &&& 31)).toBitVec.getLsbD c = decide (c = k) := by decide +kernel
  rw [Int32.toBitVec_or, BitVec.getLsbD_or, h k hk c hc]
def toX (m : Int32) : Nat → Bool := fun c => if 1 ≤ c ∧ c ≤ 9 then m.toBitVec.getLsbD c else false
theorem toX_0 : toX 0 = fun _ => false := by
  funext c
  unfold toX
  by_cases h : 1 ≤ c ∧ c ≤ 9
  · rw [if_pos h]
    show (0#32).getLsbD c = false
    exact BitVec.getLsbD_zero
  · rw [if_neg h]
theorem toX_or {m : Int32} {k : Nat} (hk : 1 ≤ k ∧ k ≤ 9) : toX (m ||| ((1 : Int32) <<< (nI k &&& 31))) = setB (toX m) k := by
  funext c
  show (if 1 ≤ c ∧ c ≤ 9 then (m ||| ((1 : Int32) <<< (nI k &&& 31))).toBitVec.getLsbD c else false) = (if c = k then true else (if 1 ≤ c ∧ c ≤ 9 then m.toBitVec.getLsbD c else false))
  by_cases h : c = k
  · subst h
    rw [if_pos hk, if_pos rfl, bit_or m (by omega) (by omega)]
    simp
  · rw [if_neg h]
    by_cases h1 : 1 ≤ c ∧ c ≤ 9
    · rw [if_pos h1, if_pos h1, bit_or m (by omega) (by omega)]
      simp [h]
    · rw [if_neg h1, if_neg h1]
theorem toX_t {m : Int32} {k : Nat} (hk : 1 ≤ k ∧ k ≤ 9) (h : ¬ (m >>> (nI k &&& 31)) &&& 1 = 0) : toX m k = true := by
  unfold toX
  rw [if_pos hk]
  rcases hb : m.toBitVec.getLsbD k with _ | _
  · exact absurd ((bitI m (by omega)).mpr hb) h
  · rfl
theorem toX_f {m : Int32} {k : Nat} (h : (m >>> (nI k &&& 31)) &&& 1 = 0) (hk : k ≤ 9) : ¬ toX m k = true := by
  unfold toX
  by_cases h1 : 1 ≤ k ∧ k ≤ 9
  · rw [if_pos h1, (bitI m (by omega)).mp h]
    decide
  · rw [if_neg h1]
    decide
def stX (n see tm : Nat) (g ff fp : Nat → Int32) (m : Int32) : PSt := (n, nG (vv n see tm g), clp n ff, clp n fp, toX m)
theorem stX_0 {g g0 ff fp : Nat → Int32} (h : g = va_cpy zNT g0 0 0 10) : stX 0 1 0 g ff fp 0 = st0 := by
  unfold stX st0
  rw [toX_0]
  have e1 : nG (vv 0 1 0 g) = nG zNT := by
    funext j
    unfold nG
    by_cases hj : 1 ≤ j ∧ j ≤ 9
    · rw [if_pos hj, if_pos hj]
      unfold vv
      rw [if_neg (by omega)]
      by_cases h6 : j = 6
      · subst h6; rfl
      · rw [if_neg h6]
        by_cases h8 : j = 8
        · subst h8; rfl
        · rw [if_neg h8, h, pk_cpy_in (by omega) (by omega)]
          rw [show 0 + (j - 0) = j by omega]
    · rw [if_neg hj, if_neg hj]
  have e2 : ∀ f : Nat → Int32, clp 0 f = fun _ => 0 := by
    intro f
    funext j
    unfold clp
    rw [if_neg (by omega)]
  rw [e1, e2, e2]
theorem sl_end {b : Nat → Int32} {n k t : Nat} {σ : PSt} (h : ¬ skA b n t < n) : stL b n k t σ = (0, 0, σ) := by
  rcases k with _ | k
  · rfl
  · show (if skA b n t < n then _ else (0, 0, σ)) = _
    rw [if_neg h]
theorem sl_err {b : Nat → Int32} {n k t e p : Nat} {σ : PSt} (hk : 0 < k) (h : skA b n t < n) (he : (clF b n t σ).1 = e) (h0 : 1 ≤ e) (hp : (clF b n t σ).2.1 = p) : (stL b n k t σ).1 = e ∧ (stL b n k t σ).2.1 = p := by
  rcases k with _ | k
  · omega
  · have q : stL b n (k + 1) t σ = ((clF b n t σ).1, (clF b n t σ).2.1, σ) := by
      show (if skA b n t < n then (if (clF b n t σ).1 = 0 then _ else _) else _) = _
      rw [if_pos h, if_neg (by omega)]
    rw [q]
    exact ⟨he, hp⟩
theorem sl_ok {b : Nat → Int32} {n k t t2 : Nat} {σ σ2 : PSt} (hk : 0 < k) (h : skA b n t < n) (hc : clF b n t σ = (0, 0, t2, σ2)) : stL b n k t σ = stL b n (k - 1) t2 σ2 := by
  rcases k with _ | k
  · omega
  · show (if skA b n t < n then (if (clF b n t σ).1 = 0 then stL b n k (clF b n t σ).2.2.1 (clF b n t σ).2.2.2 else _) else _) = _
    rw [if_pos h, hc, if_pos rfl]
    rfl
theorem cf_none {b : Nat → Int32} {n t : Nat} {σ : PSt} (h : kwN (letA b n (skA b n t)) = 10) : clF b n t σ = (1, skA b n t, skA b n t, σ) := by
  unfold clF
  rw [if_pos h]
theorem cf_told {b : Nat → Int32} {n t k : Nat} {σ : PSt} (h : kwN (letA b n (skA b n t)) = k) (h0 : 1 ≤ k ∧ k ≤ 9) (ht : σ.2.2.2.2 k = true) : clF b n t σ = (3, skA b n t, skA b n t, σ) := by
  unfold clF
  rw [h, if_neg (by omega), if_neg (by omega), if_pos ht]
theorem cf_do1 {b : Nat → Int32} {n t e p T : Nat} {σ : PSt} (h : kwN (letA b n (skA b n t)) = 0) (hT : T = skA b n t + (letA b n (skA b n t)).length) (he : (doC b n σ.1 T).1 = e) (h1 : 1 ≤ e) (hp : (doC b n σ.1 T).2.1 = p) : (clF b n t σ).1 = e ∧ (clF b n t σ).2.1 = p := by
  unfold clF
  rw [if_neg (by omega), if_pos h, ← hT]
  rcases hd : doC b n σ.1 T with ⟨e2, p2, t2, m, v3, v5⟩
  rw [hd] at he hp
  have he2 : e2 = e := he
  have hp2 : p2 = p := hp
  have h0 : ¬ e2 = 0 := by omega
  simp only [h0, if_false]
  exact ⟨he2, hp2⟩
theorem cf_do0 {b : Nat → Int32} {n t t1 T m : Nat} {v3 v5 : Int32} {σ : PSt} (h : kwN (letA b n (skA b n t)) = 0) (hT : T = skA b n t + (letA b n (skA b n t)).length) (hd : doC b n σ.1 T = (0, 0, t1, m, v3, v5)) : clF b n t σ = (0, 0, t1, (σ.1 + m, σ.2.1, filF σ.2.2.1 σ.1 m v3, filF σ.2.2.2.1 σ.1 m v5, σ.2.2.2.2)) := by
  unfold clF
  rw [if_neg (by omega), if_pos h, ← hT, hd]
  rfl
theorem cf_si1 {b : Nat → Int32} {n t e p k T : Nat} {σ : PSt} (h : kwN (letA b n (skA b n t)) = k) (h0 : 1 ≤ k ∧ k ≤ 9) (ht : ¬ σ.2.2.2.2 k = true) (hT : T = skA b n t + (letA b n (skA b n t)).length) (he : (siC b n k T).1 = e) (h1 : 1 ≤ e) (hp : (siC b n k T).2.1 = p) : (clF b n t σ).1 = e ∧ (clF b n t σ).2.1 = p := by
  unfold clF
  rw [h, if_neg (by omega), if_neg (by omega), if_neg ht, ← hT]
  rcases hd : siC b n k T with ⟨e2, p2, t2, v, v2⟩
  rw [hd] at he hp
  have he2 : e2 = e := he
  have hp2 : p2 = p := hp
  have h0 : ¬ e2 = 0 := by omega
  simp only [h0, if_false]
  exact ⟨he2, hp2⟩
theorem cf_si0 {b : Nat → Int32} {n t t1 k T : Nat} {v v2 : Int32} {σ : PSt} (h : kwN (letA b n (skA b n t)) = k) (h0 : 1 ≤ k ∧ k ≤ 9) (ht : ¬ σ.2.2.2.2 k = true) (hT : T = skA b n t + (letA b n (skA b n t)).length) (hd : siC b n k T = (0, 0, t1, v, v2)) : clF b n t σ = (0, 0, t1, (σ.1, (if k = 7 then upd (upd σ.2.1 7 v) 8 v2 else upd σ.2.1 k v), σ.2.2.1, σ.2.2.2.1, setB σ.2.2.2.2 k)) := by
  unfold clF
  rw [h, if_neg (by omega), if_neg (by omega), if_neg ht, ← hT, hd]
  rfl
/-- the class's state behind a clause -/
theorem stX_do {n see tm m : Nat} {g ff fp ff2 fp2 : Nat → Int32} {to : Int32} {v3 v5 : Int32} (h1 : ∀ j, ff2 j = if n ≤ j ∧ j < n + m then v3 else ff j) (h2 : ∀ j, fp2 j = if n ≤ j ∧ j < n + m then v5 else fp j) : stX (n + m) see tm g ff2 fp2 to = (n + m, nG (vv n see tm g), filF (clp n ff) n m v3, filF (clp n fp) n m v5, toX to) := by
  unfold stX
  rw [clp_fil h1, clp_fil h2, nG_vv (n + m) n]
theorem stX_si {n see tm see2 tm2 k : Nat} {g g2 ff fp : Nat → Int32} {to : Int32} {v v2 : Int32} (hk : 1 ≤ k ∧ k ≤ 9) (h : vv n see2 tm2 g2 = if k = 7 then upd (upd (vv n see tm g) 7 v) 8 v2 else upd (vv n see tm g) k v) : stX n see2 tm2 g2 ff fp (to ||| ((1 : Int32) <<< (nI k &&& 31))) = (n, (if k = 7 then upd (upd (nG (vv n see tm g)) 7 v) 8 v2 else upd (nG (vv n see tm g)) k v), clp n ff, clp n fp, setB (toX to) k) := by
  unfold stX
  rw [toX_or hk, h]
  by_cases h7 : k = 7
  · rw [if_pos h7, if_pos h7, nG_upd (by omega), nG_upd (by omega)]
  · rw [if_neg h7, if_neg h7, nG_upd hk]
theorem bit0 {m : Int32} {k : Nat} (hk : 1 ≤ k ∧ k ≤ 9) (h : (m >>> (nI 0 &&& 31)) &&& 1 = 0) : ((m ||| ((1 : Int32) <<< (nI k &&& 31))) >>> (nI 0 &&& 31)) &&& 1 = 0 := by
  have h2 := (bitI m (c := 0) (by omega)).mp h
  refine (bitI _ (c := 0) (by omega)).mpr ?_
  rw [bit_or m (by omega) (by omega), h2]
  simp
  omega


set_option maxHeartbeats 4000000 in
set_option maxRecDepth 100000 in
theorem y_Street_readFrom (l : Launch) (D : va_G) (k : Nat → ClassId) (st : Nat → Nat) (lo : Nat) (h0 : Nat) (h1 : Nat) (h2 : Nat) (h3 : Nat) (h4 : Nat) (n : Nat) (see : Nat) (tm : Nat) (g : Nat → Int32) (ff : Nat → Int32) (fp : Nat → Int32) (x0 : Nat) (x1 : Nat) (tz : Nat) (ta : Nat) (na : Int32) (fn : Int32) (fb : Int32) (fx : Nat → Int32) (ht : ta ≤ tz) (hz : tz ≤ 240) (hf0 : fn = 0) : CWv l D k st lo yX5_readFrom cX5_readFrom 6 none ({ frames := 7, cells := 0, slots := 0, locals := 155 }) 0 0 [.ref h0, .ref x0] [(h0, .inr (5, (fX5 h1 h2 h3 h4))), (aI k h1 10 (vv n see tm g)), (aI k h2 24 ff), (aI k h3 24 fp), (x0, .inr (6, (fX6 x1 (nI tz) (nI ta) na fn fb))), (aB k x1 240 fx)] (fun (u : Nat × Nat × Nat × (Nat → Int32) × (Nat → Int32) × (Nat → Int32) × Nat × Int32 × Int32 × Int32) => match u with | (n_, see_, tm_, g_, ff_, fp_, ta_, na_, fn_, fb_) => ((fn_ = 0 ∧ ∃ m : Int32, stF (bF fx) tz ta = (0, 0, stX n_ see_ tm_ g_ ff_ fp_ m) ∧ 1 ≤ n_) ∨ (∃ e pl : Nat, fn_ = nI e ∧ 1 ≤ e ∧ e ≤ 4 ∧ (stF (bF fx) tz ta).1 = e ∧ (stF (bF fx) tz ta).2.1 = pl ∧ fb_ = nI pl)) ∧ n_ ≤ 24 ∧ see_ ≤ 2 ∧ tm_ ≤ 3 ∧ ta_ ≤ tz) (fun (u : Nat × Nat × Nat × (Nat → Int32) × (Nat → Int32) × (Nat → Int32) × Nat × Int32 × Int32 × Int32) => match u with | (n_, see_, tm_, g_, ff_, fp_, ta_, na_, fn_, fb_) => [(h0, .inr (5, (fX5 h1 h2 h3 h4))), (aI k h1 10 (vv n_ see_ tm_ g_)), (aI k h2 24 ff_), (aI k h3 24 fp_), (x0, .inr (6, (fX6 x1 (nI tz) (nI ta_) na_ fn_ fb_))), (aB k x1 240 fx)]) := by
  intro sz
  refine Met.ofW (cc := cX5_readFrom) (maxL := 6) (ret := none) (by decide) rfl ?_
  intro p e s m args below meth c s₁ B hml hv
  obtain ⟨rfl, hsz, hlo, hP, hK, hDL, hZ⟩ := hv
  have hx := B.exec
  have hb := B.bytes
  have hr := B.returns
  have hts := WS_ts B.pre
  have hown : s.vm.findClass RX5 = some m.cls := findClass_of_methodNamed B.named
  have hlocks := B.notSynchronized
  subst hsz
  have hD := hDL.self (sz := s.heap.size)
  have hAlo := A_lo hDL hlo
  generalize hAe : va_A [(h0, .inr (5, (fX5 h1 h2 h3 h4))), (aI k h1 10 (vv n see tm g)), (aI k h2 24 ff), (aI k h3 24 fp), (x0, .inr (6, (fX6 x1 (nI tz) (nI ta) na fn fb))), (aB k x1 240 fx)] s.heap.size = A at hD hAlo ⊢
  have hA : ∀ q : Nat, s.heap.size ≤ q → A q := fun q h => by rw [← hAe]; exact Or.inr h
  have hS : va_S A s.heap s.heap [] := va_S.rf
  have hl := lv_entry ([.ref h0, .ref x0]) (n := 6) (Nat.le_of_ble_eq_true rfl)
  rw [lg_entry_eq]
  generalize (lg_sl ([.ref h0, .ref x0]) ++ List.replicate (6 - (lg_sl ([.ref h0, .ref x0])).length) Slot.unset).toArray = ls at hl ⊢
  have hl : lv_has ls 6 [(0, .ref h0), (1, .ref x0)] := hl
  subst hf0
  refine va_getsN (A := A) hx hb (hZ.1.narrow hAlo) hS hown ((hZ.2.2.2.2.2.2.2.2.1.2.1 (RX5, 40, "LastPlace", "NOT_TOLD", "[I", RX7) (List.mem_of_getElem? (i := 0) rfl)).use rfl) (fun _ h9 => h9) dX5_readFrom_0 ?_
  refine lv_iconst (v := 0) hx hb dX5_readFrom_3 (by decide) ?_
  refine lv_aload_n hx hb dX5_readFrom_4 rfl (lv_at hl 0 rfl) ?_
  refine va_get (D := D) (ci := 5) (v := .ref h1) (C := RX5) (T := TX5) (N := 4) hx hb hts inX5 hown hK hP 0 rfl rfl 0 (by decide) (hts _ tw_146) (fun _ h9 => h9) rfl dX5_readFrom_5 ?_
  refine lv_iconst (v := 0) hx hb dX5_readFrom_8 (by decide) ?_
  refine lv_bipush (v := 10) hx hb dX5_readFrom_9 (by decide) ?_
  refine cpT (A := A) hx hb (by rw [hml]; exact hl.1.symm) hown (hts _ tw_364) (hts _ tw_366) (hts _ tw_365) (hts _ tw_88) hK hP hD hS (hZ.2.1.narrow hAlo) 1 1 rfl rfl (by decide) (by decide) (by decide) (by decide) (by decide) (Nat.le_of_ble_eq_true rfl) (Nat.le_of_ble_eq_true rfl) dX5_readFrom_11 (fun H locs hP hD hS => ?_)
  have hQ9 := pd_mk [(h0, .inr (5, (fX5 h1 h2 h3 h4))), (aI k h1 10 (va_cpy zNT (vv n see tm g) 0 0 10)), (aI k h2 24 ff), (aI k h3 24 fp), (x0, .inr (6, (fX6 x1 (nI tz) (nI ta) na 0 fb))), (aB k x1 240 fx)] hP hD
  clear hP hD
  obtain ⟨hP, hD⟩ := hQ9
  rw [show va_cpy zNT (vv n see tm g) 0 0 10 = vv 0 1 0 (va_cpy zNT g 0 0 10) from vv_cpN _ _ _ _] at hP hD
  obtain ⟨gg_1, hgg_1⟩ : ∃ z : Nat → Int32, z = va_cpy zNT g 0 0 10 := ⟨_, rfl⟩
  rw [← hgg_1] at hP hD
  have hQ9 := pd_mk [(h0, .inr (5, (fX5 h1 h2 h3 h4))), (aI k h1 10 (vv 0 1 0 gg_1)), (aI k h2 24 ff), (aI k h3 24 fp), (x0, .inr (6, (fX6 x1 (nI tz) (nI ta) na 0 fb))), (aB k x1 240 fx)] hP hD
  clear hP hD
  obtain ⟨hP, hD⟩ := hQ9
  refine lv_iconst (v := 0) hx hb dX5_readFrom_14 (by decide) ?_
  refine lv_istore_n (lv' := [(2, .int 0), (0, .ref h0), (1, .ref x0)]) hx hb dX5_readFrom_15 rfl hl (by decide) rfl (fun ls hl => ?_)
  refine lv_iconst (v := 0) hx hb dX5_readFrom_16 (by decide) ?_
  refine lv_istore_n (lv' := [(3, .int 0), (2, .int 0), (0, .ref h0), (1, .ref x0)]) hx hb dX5_readFrom_17 rfl hl (by decide) rfl (fun ls hl => ?_)
  refine W_loop (σ := Nat × Int32 × Nat × Nat × Nat × (Nat → Int32) × (Nat → Int32) × (Nat → Int32) × Nat × Int32 × Int32 × Int32) (fun (n_ : Nat) (x_ : Nat × Int32 × Nat × Nat × Nat × (Nat → Int32) × (Nat → Int32) × (Nat → Int32) × Nat × Int32 × Int32 × Int32) (H : Heap) (locs : List Loc) (ls : Array Slot) => match x_ with | (kk_3, to2_3, n2_3, see2_3, tm2_3, g2_3, ff2_3, fp2_3, ta2_3, na2_3, fn2_3, fb2_3) => n_ = 240 - kk_3 ∧ (kk_3 ≤ 240 ∧ n2_3 ≤ 24 ∧ see2_3 ≤ 2 ∧ tm2_3 ≤ 3 ∧ ta2_3 ≤ tz ∧ (to2_3 >>> (nI 0 &&& 31)) &&& 1 = 0 ∧ ((fn2_3 = 0 ∧ stL (bF fx) tz (240 - kk_3) ta2_3 (stX n2_3 see2_3 tm2_3 g2_3 ff2_3 fp2_3 to2_3) = (stL (bF fx) tz 240 ta st0)) ∨ (∃ e pl : Nat, fn2_3 = nI e ∧ 1 ≤ e ∧ e ≤ 4 ∧ (stL (bF fx) tz 240 ta st0).1 = e ∧ (stL (bF fx) tz 240 ta st0).2.1 = pl ∧ fb2_3 = nI pl))) ∧ va_P D classes [(h0, .inr (5, (fX5 h1 h2 h3 h4))), (aI k h1 10 (vv n2_3 see2_3 tm2_3 g2_3)), (aI k h2 24 ff2_3), (aI k h3 24 fp2_3), (x0, .inr (6, (fX6 x1 (nI tz) (nI ta2_3) na2_3 fn2_3 fb2_3))), (aB k x1 240 fx)] H ∧ va_D A [(h0, .inr (5, (fX5 h1 h2 h3 h4))), (aI k h1 10 (vv n2_3 see2_3 tm2_3 g2_3)), (aI k h2 24 ff2_3), (aI k h3 24 fp2_3), (x0, .inr (6, (fX6 x1 (nI tz) (nI ta2_3) na2_3 fn2_3 fb2_3))), (aB k x1 240 fx)] ∧ va_S A s.heap H locs ∧ lv_has ls 6 [(3, .int (nI kk_3)), (2, .int to2_3), (0, .ref h0), (1, .ref x0)]) (fun n_3 x_3 H locs ls hI ih_3 => ?_) _ (0, 0, 0, 1, 0, gg_1, ff, fp, ta, na, 0, fb) ⟨rfl, ⟨by omega, by omega, by omega, by omega, by omega, by decide, .inl ⟨rfl, by rw [stX_0 hgg_1]⟩⟩, hP, hD, hS, (lv_sub hl [0, 1, 2, 3] rfl)⟩
  obtain ⟨kk_3, to2_3, n2_3, see2_3, tm2_3, g2_3, ff2_3, fp2_3, ta2_3, na2_3, fn2_3, fb2_3⟩ := x_3
  obtain ⟨hm_3, hv_3, hP, hD, hS, hl⟩ := hI
  subst hm_3
  refine lv_iload_n hx hb dX5_readFrom_18 rfl (lv_at hl 0 rfl) ?_
  refine lv_sipush (v := 240) hx hb dX5_readFrom_19 (by decide) ?_
  refine lv_icmp_ge (tgt := 119) hx hb dX5_readFrom_22 (by decide) (fun c_4 => ?_) (fun c_4 => ?_)
  · have c_4 := (nI_leI (a := 240) (b := kk_3) (by omega) (by omega)).mp c_4
    refine lv_aload_n hx hb dX5_readFrom_119 rfl (lv_at hl 3 rfl) ?_
    refine ro_i (D := D) (va_runV (As := []) (rest := []) ⟨hx, hb, hml, hown, hts⟩ ((x_failed l D k st lo x0 x1 tz ta2_3 na2_3 fn2_3 fb2_3) H.size) (cwV 0 hts (gV tw_367 tw_368 tw_369 tw_80 tw_370) rfl rfl rfl (by decide +kernel) ⟨Nat.le_of_ble_eq_true rfl, Nat.le_of_ble_eq_true rfl⟩) (pV hS hAlo hlo hP hK (va_Dlo hD hAlo) hZ [4] (by decide) rfl (ci := 6) (q := (RX6, TX6, 6)) (q0 := 0) rfl rfl) rfl rfl hl.1 rfl (lv_room (Nat.le_of_ble_eq_true rfl)) dX5_readFrom_120 ⟨Nat.le_of_ble_eq_true rfl, Nat.le_of_ble_eq_true rfl⟩) hS hA hP (fun r_5 H locs hw_5 hP hS => ?_)
    try dsimp only at hw_5
    rcases hw_5 with ⟨rfl, hw_5⟩ | ⟨rfl, rfl⟩
    · refine lv_if_ne (tgt := 142) hx hb dX5_readFrom_123 (by decide) (fun _ => ?_) (fun h => absurd h (by decide))
      obtain ⟨hP9, hD9⟩ := pd_sub [(h0, .inr (5, (fX5 h1 h2 h3 h4))), (aI k h1 10 (vv n2_3 see2_3 tm2_3 g2_3)), (aI k h2 24 ff2_3), (aI k h3 24 fp2_3), (x0, .inr (6, (fX6 x1 (nI tz) (nI ta2_3) na2_3 fn2_3 fb2_3))), (aB k x1 240 fx)] [0, 1, 2, 3, 4, 5] hP hD (by decide) rfl
      exact W.vret hx hb hr (fun t ht hW => ⟨⟨(n2_3, see2_3, tm2_3, g2_3, ff2_3, fp2_3, ta2_3, na2_3, fn2_3, fb2_3), rfl, ⟨(by rcases hv_3.2.2.2.2.2.2 with ⟨h, -⟩ | ⟨e, pl, h, h1, h2, h3, h4, h5⟩; exact absurd h hw_5; exact .inr ⟨e, pl, h, h1, h2, (sf_er h3 h1 h4).1, (sf_er h3 h1 h4).2, h5⟩), by omega, by omega, by omega, by omega⟩, by rw [ht]; exact hP9, hD9⟩, hS.F ht⟩) hS.2.2 dX5_readFrom_142
    · refine lv_if_ne (tgt := 142) hx hb dX5_readFrom_123 (by decide) (fun h => absurd (by decide) h) (fun _ => ?_)
      have hst_6 : stL (bF fx) tz (240 - kk_3) ta2_3 (stX n2_3 see2_3 tm2_3 g2_3 ff2_3 fp2_3 to2_3) = (stL (bF fx) tz 240 ta st0) := by rcases hv_3.2.2.2.2.2.2 with ⟨-, h⟩ | ⟨e, pl, h, h1, h2, -⟩; exact h; exact absurd h.symm (nI_ne0 (by omega) (by omega))
      have hend_6 : (stL (bF fx) tz 240 ta st0) = (0, 0, stX n2_3 see2_3 tm2_3 g2_3 ff2_3 fp2_3 to2_3) := (((by rw [show 240 - kk_3 = 0 by omega] at hst_6; exact hst_6) : (0, 0, stX n2_3 see2_3 tm2_3 g2_3 ff2_3 fp2_3 to2_3) = (stL (bF fx) tz 240 ta st0))).symm
      refine lv_aload_n hx hb dX5_readFrom_126 rfl (lv_at hl 2 rfl) ?_
      refine ro_i (D := D) (va_runV (As := []) (rest := []) ⟨hx, hb, hml, hown, hts⟩ ((x_doors l D k st lo h0 h1 h2 h3 h4 n2_3 see2_3 tm2_3 g2_3) H.size) (cwV 0 hts (gV tw_477 tw_478 tw_479 tw_81 tw_480) rfl rfl rfl (by decide +kernel) ⟨Nat.le_of_ble_eq_true rfl, Nat.le_of_ble_eq_true rfl⟩) (pV hS hAlo hlo hP hK (va_Dlo hD hAlo) hZ [0, 1] (by decide) rfl (ci := 5) (q := (RX5, TX5, 4)) (q0 := 0) rfl rfl) rfl rfl hl.1 rfl (lv_room (Nat.le_of_ble_eq_true rfl)) dX5_readFrom_127 ⟨Nat.le_of_ble_eq_true rfl, Nat.le_of_ble_eq_true rfl⟩) hS hA hP (fun r_7 H locs hw_7 hP hS => ?_)
      try dsimp only at hw_7
      subst hw_7
      refine lv_if_ne (tgt := 142) hx hb dX5_readFrom_130 (by decide) (fun c_8 => ?_) (fun c_8 => ?_)
      · have c_8 : ¬ (n2_3 = 0) := fun h => c_8 ((nI_eq (a := n2_3) (b := 0) (by omega) (by omega)).mpr h)
        obtain ⟨hP9, hD9⟩ := pd_sub [(h0, .inr (5, (fX5 h1 h2 h3 h4))), (aI k h1 10 (vv n2_3 see2_3 tm2_3 g2_3)), (aI k h2 24 ff2_3), (aI k h3 24 fp2_3), (x0, .inr (6, (fX6 x1 (nI tz) (nI ta2_3) na2_3 0 fb2_3))), (aB k x1 240 fx)] [0, 1, 2, 3, 4, 5] hP hD (by decide) rfl
        exact W.vret hx hb hr (fun t ht hW => ⟨⟨(n2_3, see2_3, tm2_3, g2_3, ff2_3, fp2_3, ta2_3, na2_3, 0, fb2_3), rfl, ⟨.inl ⟨rfl, _, sf_ok hend_6 (show 1 ≤ n2_3 by omega), by omega⟩, by omega, by omega, by omega, by omega⟩, by rw [ht]; exact hP9, hD9⟩, hS.F ht⟩) hS.2.2 dX5_readFrom_142
      · have c_8 := (nI_eq (a := n2_3) (b := 0) (by omega) (by omega)).mp c_8
        refine lv_aload_n hx hb dX5_readFrom_133 rfl (lv_at hl 3 rfl) ?_
        refine lv_iconst (v := 1) hx hb dX5_readFrom_134 (by decide) ?_
        refine lv_aload_n hx hb dX5_readFrom_135 rfl (lv_at hl 3 rfl) ?_
        refine va_get (D := D) (ci := 6) (v := .int (nI tz)) (C := RX6) (T := TX6) (N := 6) hx hb hts inX6 hown hK hP 4 rfl rfl 1 (by decide) (hts _ tw_112) (fun _ h9 => h9) rfl dX5_readFrom_136 ?_
        refine rw_v (D := D) (wr := [(h0, .inr (5, (fX5 h1 h2 h3 h4))), (aI k h1 10 (vv n2_3 see2_3 tm2_3 g2_3)), (aI k h2 24 ff2_3), (aI k h3 24 fp2_3), (aB k x1 240 fx)]) (va_runV (As := [.int 1, .int (nI tz)]) (rest := []) ⟨hx, hb, hml, hown, hts⟩ ((y_fail l D k st lo x0 x1 tz ta2_3 na2_3 0 fb2_3 1 (nI tz) (by decide)) H.size) (cwV 2 hts (gV tw_455 tw_456 tw_457 tw_80 tw_458) rfl rfl rfl (by decide +kernel) ⟨Nat.le_of_ble_eq_true rfl, Nat.le_of_ble_eq_true rfl⟩) (pV hS hAlo hlo hP hK (va_Dlo hD hAlo) hZ [4] (by decide) rfl (ci := 6) (q := (RX6, TX6, 6)) (q0 := 0) rfl rfl) rfl rfl hl.1 rfl (lv_room (Nat.le_of_ble_eq_true rfl)) dX5_readFrom_139 ⟨Nat.le_of_ble_eq_true rfl, Nat.le_of_ble_eq_true rfl⟩) hS hA hP hD [4] [0, 1, 2, 3, 5] rfl rfl (by decide) (by decide) (fun u H locs hw_9 hP hD hS => ?_)
        obtain ⟨fn__9, fb__9⟩ := u
        have hQ9 := pd_mk [(h0, .inr (5, (fX5 h1 h2 h3 h4))), (aI k h1 10 (vv n2_3 see2_3 tm2_3 g2_3)), (aI k h2 24 ff2_3), (aI k h3 24 fp2_3), (aB k x1 240 fx), (x0, .inr (6, (fX6 x1 (nI tz) (nI ta2_3) na2_3 fn__9 fb__9)))] hP hD
        clear hP hD
        obtain ⟨hP, hD⟩ := hQ9
        try dsimp only at hw_9
        obtain ⟨hs0_10, hs1_10⟩ := hw_9.2.1 rfl
        replace hs0_10 := hs0_10.symm
        subst hs0_10
        replace hs1_10 := hs1_10.symm
        subst hs1_10
        obtain ⟨hP9, hD9⟩ := pd_sub [(h0, .inr (5, (fX5 h1 h2 h3 h4))), (aI k h1 10 (vv n2_3 see2_3 tm2_3 g2_3)), (aI k h2 24 ff2_3), (aI k h3 24 fp2_3), (x0, .inr (6, (fX6 x1 (nI tz) (nI ta2_3) na2_3 1 (nI tz)))), (aB k x1 240 fx)] [0, 1, 2, 3, 5, 4] hP hD (by decide) rfl
        exact W.vret hx hb hr (fun t ht hW => ⟨⟨(n2_3, see2_3, tm2_3, g2_3, ff2_3, fp2_3, ta2_3, na2_3, 1, (nI tz)), rfl, ⟨.inr ⟨1, tz, rfl, by decide, by decide, (sf_no hend_6 (show n2_3 = 0 by omega)).1, (sf_no hend_6 (show n2_3 = 0 by omega)).2, rfl⟩, by omega, by omega, by omega, by omega⟩, by rw [ht]; exact hP9, hD9⟩, hS.F ht⟩) hS.2.2 dX5_readFrom_142
  · have c_4 : ¬ (240 ≤ kk_3) := fun h => c_4 ((nI_leI (a := 240) (b := kk_3) (by omega) (by omega)).mpr h)
    refine lv_aload_n hx hb dX5_readFrom_25 rfl (lv_at hl 3 rfl) ?_
    refine ro_i (D := D) (va_runV (As := []) (rest := []) ⟨hx, hb, hml, hown, hts⟩ ((x_failed l D k st lo x0 x1 tz ta2_3 na2_3 fn2_3 fb2_3) H.size) (cwV 0 hts (gV tw_367 tw_368 tw_369 tw_80 tw_370) rfl rfl rfl (by decide +kernel) ⟨Nat.le_of_ble_eq_true rfl, Nat.le_of_ble_eq_true rfl⟩) (pV hS hAlo hlo hP hK (va_Dlo hD hAlo) hZ [4] (by decide) rfl (ci := 6) (q := (RX6, TX6, 6)) (q0 := 0) rfl rfl) rfl rfl hl.1 rfl (lv_room (Nat.le_of_ble_eq_true rfl)) dX5_readFrom_26 ⟨Nat.le_of_ble_eq_true rfl, Nat.le_of_ble_eq_true rfl⟩) hS hA hP (fun r_11 H locs hw_11 hP hS => ?_)
    try dsimp only at hw_11
    rcases hw_11 with ⟨rfl, hw_11⟩ | ⟨rfl, rfl⟩
    · refine lv_if_ne (tgt := 119) hx hb dX5_readFrom_29 (by decide) (fun _ => ?_) (fun h => absurd h (by decide))
      refine lv_aload_n hx hb dX5_readFrom_119 rfl (lv_at hl 3 rfl) ?_
      refine ro_i (D := D) (va_runV (As := []) (rest := []) ⟨hx, hb, hml, hown, hts⟩ ((x_failed l D k st lo x0 x1 tz ta2_3 na2_3 fn2_3 fb2_3) H.size) (cwV 0 hts (gV tw_367 tw_368 tw_369 tw_80 tw_370) rfl rfl rfl (by decide +kernel) ⟨Nat.le_of_ble_eq_true rfl, Nat.le_of_ble_eq_true rfl⟩) (pV hS hAlo hlo hP hK (va_Dlo hD hAlo) hZ [4] (by decide) rfl (ci := 6) (q := (RX6, TX6, 6)) (q0 := 0) rfl rfl) rfl rfl hl.1 rfl (lv_room (Nat.le_of_ble_eq_true rfl)) dX5_readFrom_120 ⟨Nat.le_of_ble_eq_true rfl, Nat.le_of_ble_eq_true rfl⟩) hS hA hP (fun r_12 H locs hw_12 hP hS => ?_)
      try dsimp only at hw_12
      obtain rfl : r_12 = 1 := by rcases hw_12 with ⟨h, h2⟩ | ⟨h, h2⟩ <;> first | exact h | exact absurd h2 hw_11
      refine lv_if_ne (tgt := 142) hx hb dX5_readFrom_123 (by decide) (fun _ => ?_) (fun h => absurd h (by decide))
      obtain ⟨hP9, hD9⟩ := pd_sub [(h0, .inr (5, (fX5 h1 h2 h3 h4))), (aI k h1 10 (vv n2_3 see2_3 tm2_3 g2_3)), (aI k h2 24 ff2_3), (aI k h3 24 fp2_3), (x0, .inr (6, (fX6 x1 (nI tz) (nI ta2_3) na2_3 fn2_3 fb2_3))), (aB k x1 240 fx)] [0, 1, 2, 3, 4, 5] hP hD (by decide) rfl
      exact W.vret hx hb hr (fun t ht hW => ⟨⟨(n2_3, see2_3, tm2_3, g2_3, ff2_3, fp2_3, ta2_3, na2_3, fn2_3, fb2_3), rfl, ⟨(by rcases hv_3.2.2.2.2.2.2 with ⟨h, -⟩ | ⟨e, pl, h, h1, h2, h3, h4, h5⟩; exact absurd h hw_11; exact .inr ⟨e, pl, h, h1, h2, (sf_er h3 h1 h4).1, (sf_er h3 h1 h4).2, h5⟩), by omega, by omega, by omega, by omega⟩, by rw [ht]; exact hP9, hD9⟩, hS.F ht⟩) hS.2.2 dX5_readFrom_142
    · refine lv_if_ne (tgt := 119) hx hb dX5_readFrom_29 (by decide) (fun h => absurd (by decide) h) (fun _ => ?_)
      have hst_13 : stL (bF fx) tz (240 - kk_3) ta2_3 (stX n2_3 see2_3 tm2_3 g2_3 ff2_3 fp2_3 to2_3) = (stL (bF fx) tz 240 ta st0) := by rcases hv_3.2.2.2.2.2.2 with ⟨-, h⟩ | ⟨e, pl, h, h1, h2, -⟩; exact h; exact absurd h.symm (nI_ne0 (by omega) (by omega))
      refine lv_aload_n hx hb dX5_readFrom_32 rfl (lv_at hl 3 rfl) ?_
      refine rw_i (D := D) (wr := [(h0, .inr (5, (fX5 h1 h2 h3 h4))), (aI k h1 10 (vv n2_3 see2_3 tm2_3 g2_3)), (aI k h2 24 ff2_3), (aI k h3 24 fp2_3)]) (va_runV (As := []) (rest := []) ⟨hx, hb, hml, hown, hts⟩ ((y_isAtEnd l D k st lo x0 x1 tz ta2_3 na2_3 0 fb2_3 fx (by first | assumption | omega) (by first | assumption | omega)) H.size) (cwV 0 hts (gV tw_371 tw_372 tw_373 tw_80 tw_374) rfl rfl rfl (by decide +kernel) ⟨Nat.le_of_ble_eq_true rfl, Nat.le_of_ble_eq_true rfl⟩) (pV hS hAlo hlo hP hK (va_Dlo hD hAlo) hZ [4, 5] (by decide) rfl (ci := 6) (q := (RX6, TX6, 6)) (q0 := 0) rfl rfl) rfl rfl hl.1 rfl (lv_room (Nat.le_of_ble_eq_true rfl)) dX5_readFrom_33 ⟨Nat.le_of_ble_eq_true rfl, Nat.le_of_ble_eq_true rfl⟩) hS hA hP hD [4, 5] [0, 1, 2, 3] rfl rfl (by decide) (by decide) (fun r_14 u H locs hw_14 hP hD hS => ?_)
      obtain ⟨ta__14, rfl⟩ : ∃ z, z = u := ⟨_, rfl⟩
      have hQ9 := pd_mk [(h0, .inr (5, (fX5 h1 h2 h3 h4))), (aI k h1 10 (vv n2_3 see2_3 tm2_3 g2_3)), (aI k h2 24 ff2_3), (aI k h3 24 fp2_3), (x0, .inr (6, (fX6 x1 (nI tz) (nI ta__14) na2_3 0 fb2_3))), (aB k x1 240 fx)] hP hD
      clear hP hD
      obtain ⟨hP, hD⟩ := hQ9
      try dsimp only at hw_14
      rcases hw_14 with ⟨⟨rfl, hz_14⟩ | ⟨rfl, hz_14⟩, hw_14⟩
      · refine lv_if_ne (tgt := 119) hx hb dX5_readFrom_36 (by decide) (fun _ => ?_) (fun h => absurd h (by decide))
        refine lv_aload_n hx hb dX5_readFrom_119 rfl (lv_at hl 3 rfl) ?_
        refine ro_i (D := D) (va_runV (As := []) (rest := []) ⟨hx, hb, hml, hown, hts⟩ ((x_failed l D k st lo x0 x1 tz ta__14 na2_3 0 fb2_3) H.size) (cwV 0 hts (gV tw_367 tw_368 tw_369 tw_80 tw_370) rfl rfl rfl (by decide +kernel) ⟨Nat.le_of_ble_eq_true rfl, Nat.le_of_ble_eq_true rfl⟩) (pV hS hAlo hlo hP hK (va_Dlo hD hAlo) hZ [4] (by decide) rfl (ci := 6) (q := (RX6, TX6, 6)) (q0 := 0) rfl rfl) rfl rfl hl.1 rfl (lv_room (Nat.le_of_ble_eq_true rfl)) dX5_readFrom_120 ⟨Nat.le_of_ble_eq_true rfl, Nat.le_of_ble_eq_true rfl⟩) hS hA hP (fun r_15 H locs hw_15 hP hS => ?_)
        try dsimp only at hw_15
        obtain rfl : r_15 = 0 := by rcases hw_15 with ⟨h, h2⟩ | ⟨h, h2⟩ <;> first | exact h | exact absurd rfl h2 | exact absurd h2 (by decide)
        refine lv_if_ne (tgt := 142) hx hb dX5_readFrom_123 (by decide) (fun h => absurd (by decide) h) (fun _ => ?_)
        have hend_16 : (stL (bF fx) tz 240 ta st0) = (0, 0, stX n2_3 see2_3 tm2_3 g2_3 ff2_3 fp2_3 to2_3) := (((sl_end (show ¬ skA (bF fx) tz ta2_3 < tz by rw [← hw_14.1]; omega)).symm.trans hst_13 : (0, 0, stX n2_3 see2_3 tm2_3 g2_3 ff2_3 fp2_3 to2_3) = (stL (bF fx) tz 240 ta st0))).symm
        refine lv_aload_n hx hb dX5_readFrom_126 rfl (lv_at hl 2 rfl) ?_
        refine ro_i (D := D) (va_runV (As := []) (rest := []) ⟨hx, hb, hml, hown, hts⟩ ((x_doors l D k st lo h0 h1 h2 h3 h4 n2_3 see2_3 tm2_3 g2_3) H.size) (cwV 0 hts (gV tw_477 tw_478 tw_479 tw_81 tw_480) rfl rfl rfl (by decide +kernel) ⟨Nat.le_of_ble_eq_true rfl, Nat.le_of_ble_eq_true rfl⟩) (pV hS hAlo hlo hP hK (va_Dlo hD hAlo) hZ [0, 1] (by decide) rfl (ci := 5) (q := (RX5, TX5, 4)) (q0 := 0) rfl rfl) rfl rfl hl.1 rfl (lv_room (Nat.le_of_ble_eq_true rfl)) dX5_readFrom_127 ⟨Nat.le_of_ble_eq_true rfl, Nat.le_of_ble_eq_true rfl⟩) hS hA hP (fun r_17 H locs hw_17 hP hS => ?_)
        try dsimp only at hw_17
        subst hw_17
        refine lv_if_ne (tgt := 142) hx hb dX5_readFrom_130 (by decide) (fun c_18 => ?_) (fun c_18 => ?_)
        · have c_18 : ¬ (n2_3 = 0) := fun h => c_18 ((nI_eq (a := n2_3) (b := 0) (by omega) (by omega)).mpr h)
          obtain ⟨hP9, hD9⟩ := pd_sub [(h0, .inr (5, (fX5 h1 h2 h3 h4))), (aI k h1 10 (vv n2_3 see2_3 tm2_3 g2_3)), (aI k h2 24 ff2_3), (aI k h3 24 fp2_3), (x0, .inr (6, (fX6 x1 (nI tz) (nI ta__14) na2_3 0 fb2_3))), (aB k x1 240 fx)] [0, 1, 2, 3, 4, 5] hP hD (by decide) rfl
          exact W.vret hx hb hr (fun t ht hW => ⟨⟨(n2_3, see2_3, tm2_3, g2_3, ff2_3, fp2_3, ta__14, na2_3, 0, fb2_3), rfl, ⟨.inl ⟨rfl, _, sf_ok hend_16 (show 1 ≤ n2_3 by omega), by omega⟩, by omega, by omega, by omega, by omega⟩, by rw [ht]; exact hP9, hD9⟩, hS.F ht⟩) hS.2.2 dX5_readFrom_142
        · have c_18 := (nI_eq (a := n2_3) (b := 0) (by omega) (by omega)).mp c_18
          refine lv_aload_n hx hb dX5_readFrom_133 rfl (lv_at hl 3 rfl) ?_
          refine lv_iconst (v := 1) hx hb dX5_readFrom_134 (by decide) ?_
          refine lv_aload_n hx hb dX5_readFrom_135 rfl (lv_at hl 3 rfl) ?_
          refine va_get (D := D) (ci := 6) (v := .int (nI tz)) (C := RX6) (T := TX6) (N := 6) hx hb hts inX6 hown hK hP 4 rfl rfl 1 (by decide) (hts _ tw_112) (fun _ h9 => h9) rfl dX5_readFrom_136 ?_
          refine rw_v (D := D) (wr := [(h0, .inr (5, (fX5 h1 h2 h3 h4))), (aI k h1 10 (vv n2_3 see2_3 tm2_3 g2_3)), (aI k h2 24 ff2_3), (aI k h3 24 fp2_3), (aB k x1 240 fx)]) (va_runV (As := [.int 1, .int (nI tz)]) (rest := []) ⟨hx, hb, hml, hown, hts⟩ ((y_fail l D k st lo x0 x1 tz ta__14 na2_3 0 fb2_3 1 (nI tz) (by decide)) H.size) (cwV 2 hts (gV tw_455 tw_456 tw_457 tw_80 tw_458) rfl rfl rfl (by decide +kernel) ⟨Nat.le_of_ble_eq_true rfl, Nat.le_of_ble_eq_true rfl⟩) (pV hS hAlo hlo hP hK (va_Dlo hD hAlo) hZ [4] (by decide) rfl (ci := 6) (q := (RX6, TX6, 6)) (q0 := 0) rfl rfl) rfl rfl hl.1 rfl (lv_room (Nat.le_of_ble_eq_true rfl)) dX5_readFrom_139 ⟨Nat.le_of_ble_eq_true rfl, Nat.le_of_ble_eq_true rfl⟩) hS hA hP hD [4] [0, 1, 2, 3, 5] rfl rfl (by decide) (by decide) (fun u H locs hw_19 hP hD hS => ?_)
          obtain ⟨fn__19, fb__19⟩ := u
          have hQ9 := pd_mk [(h0, .inr (5, (fX5 h1 h2 h3 h4))), (aI k h1 10 (vv n2_3 see2_3 tm2_3 g2_3)), (aI k h2 24 ff2_3), (aI k h3 24 fp2_3), (aB k x1 240 fx), (x0, .inr (6, (fX6 x1 (nI tz) (nI ta__14) na2_3 fn__19 fb__19)))] hP hD
          clear hP hD
          obtain ⟨hP, hD⟩ := hQ9
          try dsimp only at hw_19
          obtain ⟨hs0_20, hs1_20⟩ := hw_19.2.1 rfl
          replace hs0_20 := hs0_20.symm
          subst hs0_20
          replace hs1_20 := hs1_20.symm
          subst hs1_20
          obtain ⟨hP9, hD9⟩ := pd_sub [(h0, .inr (5, (fX5 h1 h2 h3 h4))), (aI k h1 10 (vv n2_3 see2_3 tm2_3 g2_3)), (aI k h2 24 ff2_3), (aI k h3 24 fp2_3), (x0, .inr (6, (fX6 x1 (nI tz) (nI ta__14) na2_3 1 (nI tz)))), (aB k x1 240 fx)] [0, 1, 2, 3, 5, 4] hP hD (by decide) rfl
          exact W.vret hx hb hr (fun t ht hW => ⟨⟨(n2_3, see2_3, tm2_3, g2_3, ff2_3, fp2_3, ta__14, na2_3, 1, (nI tz)), rfl, ⟨.inr ⟨1, tz, rfl, by decide, by decide, (sf_no hend_16 (show n2_3 = 0 by omega)).1, (sf_no hend_16 (show n2_3 = 0 by omega)).2, rfl⟩, by omega, by omega, by omega, by omega⟩, by rw [ht]; exact hP9, hD9⟩, hS.F ht⟩) hS.2.2 dX5_readFrom_142
      · refine lv_if_ne (tgt := 119) hx hb dX5_readFrom_36 (by decide) (fun h => absurd (by decide) h) (fun _ => ?_)
        refine lv_aload_n hx hb dX5_readFrom_39 rfl (lv_at hl 3 rfl) ?_
        refine va_get (D := D) (ci := 6) (v := .int (nI ta__14)) (C := RX6) (T := TX6) (N := 6) hx hb hts inX6 hown hK hP 4 rfl rfl 2 (by decide) (hts _ tw_115) (fun _ h9 => h9) rfl dX5_readFrom_40 ?_
        refine lv_istore (lv' := [(4, .int (nI ta__14)), (3, .int (nI kk_3)), (2, .int to2_3), (0, .ref h0), (1, .ref x0)]) hx hb dX5_readFrom_43 hl (by decide) rfl (fun ls hl => ?_)
        refine lv_aload_n hx hb dX5_readFrom_45 rfl (lv_at hl 4 rfl) ?_
        refine rw_i (D := D) (wr := [(h0, .inr (5, (fX5 h1 h2 h3 h4))), (aI k h1 10 (vv n2_3 see2_3 tm2_3 g2_3)), (aI k h2 24 ff2_3), (aI k h3 24 fp2_3)]) (va_runS (As := [.ref x0]) (rest := []) ⟨hx, hb, hml, hown, hts⟩ ((y_takeClauseWord l D k st lo x0 x1 tz ta__14 na2_3 0 fb2_3 fx (by first | assumption | omega) (by first | assumption | omega)) H.size) (va_cwS 1 hts (gS tw_383 tw_384 tw_81 tw_385) rfl rfl rfl (by decide +kernel) ⟨Nat.le_of_ble_eq_true rfl, Nat.le_of_ble_eq_true rfl⟩) (pS hS hAlo hlo hP hK (va_Dlo hD hAlo) hZ [4, 5] (by decide) rfl) rfl rfl hl.1 rfl (lv_room (Nat.le_of_ble_eq_true rfl)) dX5_readFrom_46 ⟨Nat.le_of_ble_eq_true rfl, Nat.le_of_ble_eq_true rfl⟩) hS hA hP hD [4, 5] [0, 1, 2, 3] rfl rfl (by decide) (by decide) (fun r_21 u H locs hw_21 hP hD hS => ?_)
        obtain ⟨ta__21, rfl⟩ : ∃ z, z = u := ⟨_, rfl⟩
        have hQ9 := pd_mk [(h0, .inr (5, (fX5 h1 h2 h3 h4))), (aI k h1 10 (vv n2_3 see2_3 tm2_3 g2_3)), (aI k h2 24 ff2_3), (aI k h3 24 fp2_3), (x0, .inr (6, (fX6 x1 (nI tz) (nI ta__21) na2_3 0 fb2_3))), (aB k x1 240 fx)] hP hD
        clear hP hD
        obtain ⟨hP, hD⟩ := hQ9
        try dsimp only at hw_21
        rcases hw_21 with ⟨⟨rfl, hkw_22, hT_22⟩ | ⟨cl_22, hkw_22, hc1_22, hc2_22, rfl, hT_22⟩, hw_21⟩
        · refine lv_istore (lv' := [(5, .int (-1)), (4, .int (nI ta__14)), (3, .int (nI kk_3)), (2, .int to2_3), (0, .ref h0), (1, .ref x0)]) hx hb dX5_readFrom_49 hl (by decide) rfl (fun ls hl => ?_)
          rw [hw_14.1, skA_idem] at hkw_22 hT_22
          refine lv_iload hx hb dX5_readFrom_51 (lv_at hl 0 rfl) ?_
          refine lv_iconst (v := (-1)) hx hb dX5_readFrom_53 (by decide) ?_
          refine lv_icmp_ne (tgt := 67) hx hb dX5_readFrom_54 (by decide) (fun h => absurd (by decide) h) (fun _ => ?_)
          refine lv_aload_n hx hb dX5_readFrom_57 rfl (lv_at hl 5 rfl) ?_
          refine lv_iconst (v := 1) hx hb dX5_readFrom_58 (by decide) ?_
          refine lv_iload hx hb dX5_readFrom_59 (lv_at hl 1 rfl) ?_
          refine rw_v (D := D) (wr := [(h0, .inr (5, (fX5 h1 h2 h3 h4))), (aI k h1 10 (vv n2_3 see2_3 tm2_3 g2_3)), (aI k h2 24 ff2_3), (aI k h3 24 fp2_3), (aB k x1 240 fx)]) (va_runV (As := [.int 1, .int (nI ta__14)]) (rest := []) ⟨hx, hb, hml, hown, hts⟩ ((y_fail l D k st lo x0 x1 tz ta__21 na2_3 0 fb2_3 1 (nI ta__14) (by decide)) H.size) (cwV 2 hts (gV tw_455 tw_456 tw_457 tw_80 tw_458) rfl rfl rfl (by decide +kernel) ⟨Nat.le_of_ble_eq_true rfl, Nat.le_of_ble_eq_true rfl⟩) (pV hS hAlo hlo hP hK (va_Dlo hD hAlo) hZ [4] (by decide) rfl (ci := 6) (q := (RX6, TX6, 6)) (q0 := 0) rfl rfl) rfl rfl hl.1 rfl (lv_room (Nat.le_of_ble_eq_true rfl)) dX5_readFrom_61 ⟨Nat.le_of_ble_eq_true rfl, Nat.le_of_ble_eq_true rfl⟩) hS hA hP hD [4] [0, 1, 2, 3, 5] rfl rfl (by decide) (by decide) (fun u H locs hw_23 hP hD hS => ?_)
          obtain ⟨fn__23, fb__23⟩ := u
          have hQ9 := pd_mk [(h0, .inr (5, (fX5 h1 h2 h3 h4))), (aI k h1 10 (vv n2_3 see2_3 tm2_3 g2_3)), (aI k h2 24 ff2_3), (aI k h3 24 fp2_3), (aB k x1 240 fx), (x0, .inr (6, (fX6 x1 (nI tz) (nI ta__21) na2_3 fn__23 fb__23)))] hP hD
          clear hP hD
          obtain ⟨hP, hD⟩ := hQ9
          try dsimp only at hw_23
          obtain ⟨hs0_24, hs1_24⟩ := hw_23.2.1 rfl
          replace hs0_24 := hs0_24.symm
          subst hs0_24
          replace hs1_24 := hs1_24.symm
          subst hs1_24
          refine lv_goto (tgt := 113) hx hb dX5_readFrom_64 (by decide) ?_
          refine lv_iinc (v := (nI (kk_3 + 1))) (lv' := [(3, .int (nI (kk_3 + 1))), (5, .int (-1)), (4, .int (nI ta__14)), (2, .int to2_3), (0, .ref h0), (1, .ref x0)]) hx hb dX5_readFrom_113 hl (k := 2) rfl (nI_add kk_3 1) (by decide) rfl (fun ls hl => ?_)
          refine lv_goto (tgt := 18) hx hb dX5_readFrom_116 (by decide) ?_
          exact ih_3 _ (kk_3 + 1, to2_3, n2_3, see2_3, tm2_3, g2_3, ff2_3, fp2_3, ta__21, na2_3, 1, (nI ta__14)) _ _ _ (by omega) ⟨rfl, ⟨by omega, by omega, by omega, by omega, by omega, hv_3.2.2.2.2.2.1, .inr ⟨1, ta__14, rfl, by decide, by omega, (by rw [← hst_13]; exact (sl_err (e := 1) (p := ta__14) (by omega) (show skA (bF fx) tz ta2_3 < tz by rw [← hw_14.1]; exact hz_14) (by rw [cf_none hkw_22]) (by omega) (by rw [cf_none hkw_22]; exact hw_14.1.symm)).1), (by rw [← hst_13]; exact (sl_err (e := 1) (p := ta__14) (by omega) (show skA (bF fx) tz ta2_3 < tz by rw [← hw_14.1]; exact hz_14) (by rw [cf_none hkw_22]) (by omega) (by rw [cf_none hkw_22]; exact hw_14.1.symm)).2), rfl⟩⟩, (hP.sub [0, 1, 2, 3, 5, 4] rfl), (hD.sub [0, 1, 2, 3, 5, 4] (by decide) rfl), hS, (lv_sub hl [0, 3, 4, 5] rfl)⟩
        · refine lv_istore (lv' := [(5, .int (nI cl_22)), (4, .int (nI ta__14)), (3, .int (nI kk_3)), (2, .int to2_3), (0, .ref h0), (1, .ref x0)]) hx hb dX5_readFrom_49 hl (by decide) rfl (fun ls hl => ?_)
          rw [hw_14.1, skA_idem] at hkw_22 hT_22
          refine lv_iload hx hb dX5_readFrom_51 (lv_at hl 0 rfl) ?_
          refine lv_iconst (v := (-1)) hx hb dX5_readFrom_53 (by decide) ?_
          refine lv_icmp_ne (tgt := 67) hx hb dX5_readFrom_54 (by decide) (fun _ => ?_) (fun h => absurd h (nI_ne' (by omega) (by decide)))
          refine lv_iload_n hx hb dX5_readFrom_67 rfl (lv_at hl 3 rfl) ?_
          refine lv_iload hx hb dX5_readFrom_68 (lv_at hl 0 rfl) ?_
          refine lv_ishr hx hb dX5_readFrom_70 ?_
          refine lv_topi (fun x_25 ex_25 => ?_)
          refine lv_iconst (v := 1) hx hb dX5_readFrom_71 (by decide) ?_
          refine lv_iand hx hb dX5_readFrom_72 ?_
          refine lv_topi (fun x_26 ex_26 => ?_)
          refine lv_if_eq (tgt := 86) hx hb dX5_readFrom_73 (by decide) (fun c_27 => ?_) (fun c_27 => ?_)
          · rw [ex_26, ex_25] at c_27
            refine lv_iload hx hb dX5_readFrom_86 (lv_at hl 0 rfl) ?_
            refine lv_if_ne (tgt := 99) hx hb dX5_readFrom_88 (by decide) (fun c_28 => ?_) (fun c_28 => ?_)
            · have c_28 : ¬ (cl_22 = 0) := fun h => c_28 ((nI_eq (a := cl_22) (b := 0) (by omega) (by omega)).mpr h)
              refine lv_aload_n hx hb dX5_readFrom_99 rfl (lv_at hl 4 rfl) ?_
              refine lv_aload_n hx hb dX5_readFrom_100 rfl (lv_at hl 5 rfl) ?_
              refine lv_iload hx hb dX5_readFrom_101 (lv_at hl 0 rfl) ?_
              refine rw_v (D := D) (wr := [(aI k h2 24 ff2_3), (aI k h3 24 fp2_3)]) (va_runV (As := [.ref x0, .int (nI cl_22)]) (rest := []) ⟨hx, hb, hml, hown, hts⟩ ((y_readClause l D k st lo h0 h1 h2 h3 h4 n2_3 see2_3 tm2_3 g2_3 x0 x1 tz ta__21 na2_3 0 fb2_3 fx cl_22 (by first | assumption | omega) (by first | assumption | omega) (by first | assumption | omega) (by first | assumption | omega) (by first | assumption | omega) rfl) H.size) (cwV 2 hts (gV tw_492 tw_494 tw_1 tw_81 tw_495) rfl rfl rfl (by decide +kernel) ⟨Nat.le_of_ble_eq_true rfl, Nat.le_of_ble_eq_true rfl⟩) (pV hS hAlo hlo hP hK (va_Dlo hD hAlo) hZ [0, 1, 4, 5] (by decide) rfl (ci := 5) (q := (RX5, TX5, 4)) (q0 := 0) rfl rfl) rfl rfl hl.1 rfl (lv_room (Nat.le_of_ble_eq_true rfl)) dX5_readFrom_103 ⟨Nat.le_of_ble_eq_true rfl, Nat.le_of_ble_eq_true rfl⟩) hS hA hP hD [0, 1, 4, 5] [2, 3] rfl rfl (by decide) (by decide) (fun u H locs hw_29 hP hD hS => ?_)
              obtain ⟨see__29, tm__29, g__29, ta__29, na__29, fn__29, fb__29⟩ := u
              have hQ9 := pd_mk [(aI k h2 24 ff2_3), (aI k h3 24 fp2_3), (h0, .inr (5, (fX5 h1 h2 h3 h4))), (aI k h1 10 (vv n2_3 see__29 tm__29 g__29)), (x0, .inr (6, (fX6 x1 (nI tz) (nI ta__29) na__29 fn__29 fb__29))), (aB k x1 240 fx)] hP hD
              clear hP hD
              obtain ⟨hP, hD⟩ := hQ9
              try dsimp only at hw_29
              rcases hw_29 with ⟨⟨rfl, v_30, v2_30, hd_30, hvv_30⟩ | ⟨e_30, pl_30, rfl, he1_30, he2_30, hp1_30, hp2_30, rfl⟩, hw_29⟩
              · refine lv_iload_n hx hb dX5_readFrom_106 rfl (lv_at hl 3 rfl) ?_
                refine lv_iconst (v := 1) hx hb dX5_readFrom_107 (by decide) ?_
                refine lv_iload hx hb dX5_readFrom_108 (lv_at hl 0 rfl) ?_
                refine lv_ishl hx hb dX5_readFrom_110 ?_
                refine lv_topi (fun x_31 ex_31 => ?_)
                refine lv_ior hx hb dX5_readFrom_111 ?_
                refine lv_topi (fun x_32 ex_32 => ?_)
                refine lv_istore_n (lv' := [(2, .int x_32), (5, .int (nI cl_22)), (4, .int (nI ta__14)), (3, .int (nI kk_3)), (0, .ref h0), (1, .ref x0)]) hx hb dX5_readFrom_112 rfl hl (by decide) rfl (fun ls hl => ?_)
                refine lv_iinc (v := (nI (kk_3 + 1))) (lv' := [(3, .int (nI (kk_3 + 1))), (2, .int x_32), (5, .int (nI cl_22)), (4, .int (nI ta__14)), (0, .ref h0), (1, .ref x0)]) hx hb dX5_readFrom_113 hl (k := 3) rfl (nI_add kk_3 1) (by decide) rfl (fun ls hl => ?_)
                refine lv_goto (tgt := 18) hx hb dX5_readFrom_116 (by decide) ?_
                exact ih_3 _ (kk_3 + 1, x_32, n2_3, see__29, tm__29, g__29, ff2_3, fp2_3, ta__29, na__29, 0, fb__29) _ _ _ (by omega) ⟨rfl, ⟨by omega, by omega, by omega, by omega, by omega, (by rw [ex_32, ex_31]; exact bit0 (by omega) hv_3.2.2.2.2.2.1), .inl ⟨rfl, by rw [← hst_13, sl_ok (by omega) (show skA (bF fx) tz ta2_3 < tz by rw [← hw_14.1]; exact hz_14) (cf_si0 hkw_22 (by omega) (toX_f c_27 (by omega)) hT_22 hd_30), show 240 - (kk_3 + 1) = 240 - kk_3 - 1 by omega, ex_32, ex_31, stX_si (by omega) hvv_30]; rfl⟩⟩, (hP.sub [2, 3, 0, 1, 4, 5] rfl), (hD.sub [2, 3, 0, 1, 4, 5] (by decide) rfl), hS, (lv_sub hl [0, 1, 4, 5] rfl)⟩
              · refine lv_iload_n hx hb dX5_readFrom_106 rfl (lv_at hl 3 rfl) ?_
                refine lv_iconst (v := 1) hx hb dX5_readFrom_107 (by decide) ?_
                refine lv_iload hx hb dX5_readFrom_108 (lv_at hl 0 rfl) ?_
                refine lv_ishl hx hb dX5_readFrom_110 ?_
                refine lv_topi (fun x_33 ex_33 => ?_)
                refine lv_ior hx hb dX5_readFrom_111 ?_
                refine lv_topi (fun x_34 ex_34 => ?_)
                refine lv_istore_n (lv' := [(2, .int x_34), (5, .int (nI cl_22)), (4, .int (nI ta__14)), (3, .int (nI kk_3)), (0, .ref h0), (1, .ref x0)]) hx hb dX5_readFrom_112 rfl hl (by decide) rfl (fun ls hl => ?_)
                refine lv_iinc (v := (nI (kk_3 + 1))) (lv' := [(3, .int (nI (kk_3 + 1))), (2, .int x_34), (5, .int (nI cl_22)), (4, .int (nI ta__14)), (0, .ref h0), (1, .ref x0)]) hx hb dX5_readFrom_113 hl (k := 3) rfl (nI_add kk_3 1) (by decide) rfl (fun ls hl => ?_)
                refine lv_goto (tgt := 18) hx hb dX5_readFrom_116 (by decide) ?_
                exact ih_3 _ (kk_3 + 1, x_34, n2_3, see__29, tm__29, g__29, ff2_3, fp2_3, ta__29, na__29, (nI e_30), (nI pl_30)) _ _ _ (by omega) ⟨rfl, ⟨by omega, by omega, by omega, by omega, by omega, (by rw [ex_34, ex_33]; exact bit0 (by omega) hv_3.2.2.2.2.2.1), .inr ⟨e_30, pl_30, rfl, he1_30, by omega, (by rw [← hst_13]; exact (sl_err (e := e_30) (p := pl_30) (by omega) (show skA (bF fx) tz ta2_3 < tz by rw [← hw_14.1]; exact hz_14) (cf_si1 (σ := stX n2_3 see2_3 tm2_3 g2_3 ff2_3 fp2_3 to2_3) hkw_22 (by omega) (toX_f c_27 (by omega)) hT_22 hp1_30 he1_30 hp2_30).1 (by omega) (cf_si1 (σ := stX n2_3 see2_3 tm2_3 g2_3 ff2_3 fp2_3 to2_3) hkw_22 (by omega) (toX_f c_27 (by omega)) hT_22 hp1_30 he1_30 hp2_30).2).1), (by rw [← hst_13]; exact (sl_err (e := e_30) (p := pl_30) (by omega) (show skA (bF fx) tz ta2_3 < tz by rw [← hw_14.1]; exact hz_14) (cf_si1 (σ := stX n2_3 see2_3 tm2_3 g2_3 ff2_3 fp2_3 to2_3) hkw_22 (by omega) (toX_f c_27 (by omega)) hT_22 hp1_30 he1_30 hp2_30).1 (by omega) (cf_si1 (σ := stX n2_3 see2_3 tm2_3 g2_3 ff2_3 fp2_3 to2_3) hkw_22 (by omega) (toX_f c_27 (by omega)) hT_22 hp1_30 he1_30 hp2_30).2).2), rfl⟩⟩, (hP.sub [2, 3, 0, 1, 4, 5] rfl), (hD.sub [2, 3, 0, 1, 4, 5] (by decide) rfl), hS, (lv_sub hl [0, 1, 4, 5] rfl)⟩
            · have c_28 := (nI_eq (a := cl_22) (b := 0) (by omega) (by omega)).mp c_28
              refine lv_aload_n hx hb dX5_readFrom_91 rfl (lv_at hl 4 rfl) ?_
              refine lv_aload_n hx hb dX5_readFrom_92 rfl (lv_at hl 5 rfl) ?_
              refine rw_v (D := D) (wr := []) (va_runV (As := [.ref x0]) (rest := []) ⟨hx, hb, hml, hown, hts⟩ ((y_readDoors l D k st lo h0 h1 h2 h3 h4 n2_3 see2_3 tm2_3 g2_3 ff2_3 fp2_3 x0 x1 tz ta__21 na2_3 0 fb2_3 fx (by first | assumption | omega) (by first | assumption | omega) (by first | assumption | omega) rfl) H.size) (cwV 1 hts (gV tw_459 tw_461 tw_0 tw_81 tw_462) rfl rfl rfl (by decide +kernel) ⟨Nat.le_of_ble_eq_true rfl, Nat.le_of_ble_eq_true rfl⟩) (pV hS hAlo hlo hP hK (va_Dlo hD hAlo) hZ [0, 1, 2, 3, 4, 5] (by decide) rfl (ci := 5) (q := (RX5, TX5, 4)) (q0 := 0) rfl rfl) rfl rfl hl.1 rfl (lv_room (Nat.le_of_ble_eq_true rfl)) dX5_readFrom_93 ⟨Nat.le_of_ble_eq_true rfl, Nat.le_of_ble_eq_true rfl⟩) hS hA hP hD [0, 1, 2, 3, 4, 5] [] rfl rfl (by decide) (by decide) (fun u H locs hw_35 hP hD hS => ?_)
              obtain ⟨n__35, ff__35, fp__35, ta__35, na__35, fn__35, fb__35⟩ := u
              have hQ9 := pd_mk [(h0, .inr (5, (fX5 h1 h2 h3 h4))), (aI k h1 10 (vv n__35 see2_3 tm2_3 g2_3)), (aI k h2 24 ff__35), (aI k h3 24 fp__35), (x0, .inr (6, (fX6 x1 (nI tz) (nI ta__35) na__35 fn__35 fb__35))), (aB k x1 240 fx)] hP hD
              clear hP hD
              obtain ⟨hP, hD⟩ := hQ9
              try dsimp only at hw_35
              rcases hw_35 with ⟨⟨rfl, m_36, v3_36, v5_36, hd_36, hn_36, hf_36, hg_36⟩ | ⟨e_36, pl_36, rfl, he1_36, he2_36, hp1_36, hp2_36, rfl⟩, hw_35⟩
              · refine lv_goto (tgt := 113) hx hb dX5_readFrom_96 (by decide) ?_
                refine lv_iinc (v := (nI (kk_3 + 1))) (lv' := [(3, .int (nI (kk_3 + 1))), (5, .int (nI cl_22)), (4, .int (nI ta__14)), (2, .int to2_3), (0, .ref h0), (1, .ref x0)]) hx hb dX5_readFrom_113 hl (k := 2) rfl (nI_add kk_3 1) (by decide) rfl (fun ls hl => ?_)
                refine lv_goto (tgt := 18) hx hb dX5_readFrom_116 (by decide) ?_
                exact ih_3 _ (kk_3 + 1, to2_3, n__35, see2_3, tm2_3, g2_3, ff__35, fp__35, ta__35, na__35, 0, fb__35) _ _ _ (by omega) ⟨rfl, ⟨by omega, by omega, by omega, by omega, by omega, hv_3.2.2.2.2.2.1, .inl ⟨rfl, by rw [← hst_13, sl_ok (by omega) (show skA (bF fx) tz ta2_3 < tz by rw [← hw_14.1]; exact hz_14) (cf_do0 (hkw_22.trans (by omega)) hT_22 hd_36), show 240 - (kk_3 + 1) = 240 - kk_3 - 1 by omega, hn_36, stX_do hf_36 hg_36]; rfl⟩⟩, hP, hD, hS, (lv_sub hl [0, 3, 4, 5] rfl)⟩
              · refine lv_goto (tgt := 113) hx hb dX5_readFrom_96 (by decide) ?_
                refine lv_iinc (v := (nI (kk_3 + 1))) (lv' := [(3, .int (nI (kk_3 + 1))), (5, .int (nI cl_22)), (4, .int (nI ta__14)), (2, .int to2_3), (0, .ref h0), (1, .ref x0)]) hx hb dX5_readFrom_113 hl (k := 2) rfl (nI_add kk_3 1) (by decide) rfl (fun ls hl => ?_)
                refine lv_goto (tgt := 18) hx hb dX5_readFrom_116 (by decide) ?_
                exact ih_3 _ (kk_3 + 1, to2_3, n__35, see2_3, tm2_3, g2_3, ff__35, fp__35, ta__35, na__35, (nI e_36), (nI pl_36)) _ _ _ (by omega) ⟨rfl, ⟨by omega, by omega, by omega, by omega, by omega, hv_3.2.2.2.2.2.1, .inr ⟨e_36, pl_36, rfl, he1_36, by omega, (by rw [← hst_13]; exact (sl_err (e := e_36) (p := pl_36) (by omega) (show skA (bF fx) tz ta2_3 < tz by rw [← hw_14.1]; exact hz_14) (cf_do1 (σ := stX n2_3 see2_3 tm2_3 g2_3 ff2_3 fp2_3 to2_3) (hkw_22.trans (by omega)) hT_22 hp1_36 he1_36 hp2_36).1 (by omega) (cf_do1 (σ := stX n2_3 see2_3 tm2_3 g2_3 ff2_3 fp2_3 to2_3) (hkw_22.trans (by omega)) hT_22 hp1_36 he1_36 hp2_36).2).1), (by rw [← hst_13]; exact (sl_err (e := e_36) (p := pl_36) (by omega) (show skA (bF fx) tz ta2_3 < tz by rw [← hw_14.1]; exact hz_14) (cf_do1 (σ := stX n2_3 see2_3 tm2_3 g2_3 ff2_3 fp2_3 to2_3) (hkw_22.trans (by omega)) hT_22 hp1_36 he1_36 hp2_36).1 (by omega) (cf_do1 (σ := stX n2_3 see2_3 tm2_3 g2_3 ff2_3 fp2_3 to2_3) (hkw_22.trans (by omega)) hT_22 hp1_36 he1_36 hp2_36).2).2), rfl⟩⟩, hP, hD, hS, (lv_sub hl [0, 3, 4, 5] rfl)⟩
          · rw [ex_26, ex_25] at c_27
            have hcl_22 : 1 ≤ cl_22 := by rcases Nat.eq_zero_or_pos cl_22 with h | h; rw [h] at c_27; exact absurd hv_3.2.2.2.2.2.1 c_27; exact h
            refine lv_aload_n hx hb dX5_readFrom_76 rfl (lv_at hl 5 rfl) ?_
            refine lv_iconst (v := 3) hx hb dX5_readFrom_77 (by decide) ?_
            refine lv_iload hx hb dX5_readFrom_78 (lv_at hl 1 rfl) ?_
            refine rw_v (D := D) (wr := [(h0, .inr (5, (fX5 h1 h2 h3 h4))), (aI k h1 10 (vv n2_3 see2_3 tm2_3 g2_3)), (aI k h2 24 ff2_3), (aI k h3 24 fp2_3), (aB k x1 240 fx)]) (va_runV (As := [.int 3, .int (nI ta__14)]) (rest := []) ⟨hx, hb, hml, hown, hts⟩ ((y_fail l D k st lo x0 x1 tz ta__21 na2_3 0 fb2_3 3 (nI ta__14) (by decide)) H.size) (cwV 2 hts (gV tw_455 tw_456 tw_457 tw_80 tw_458) rfl rfl rfl (by decide +kernel) ⟨Nat.le_of_ble_eq_true rfl, Nat.le_of_ble_eq_true rfl⟩) (pV hS hAlo hlo hP hK (va_Dlo hD hAlo) hZ [4] (by decide) rfl (ci := 6) (q := (RX6, TX6, 6)) (q0 := 0) rfl rfl) rfl rfl hl.1 rfl (lv_room (Nat.le_of_ble_eq_true rfl)) dX5_readFrom_80 ⟨Nat.le_of_ble_eq_true rfl, Nat.le_of_ble_eq_true rfl⟩) hS hA hP hD [4] [0, 1, 2, 3, 5] rfl rfl (by decide) (by decide) (fun u H locs hw_37 hP hD hS => ?_)
            obtain ⟨fn__37, fb__37⟩ := u
            have hQ9 := pd_mk [(h0, .inr (5, (fX5 h1 h2 h3 h4))), (aI k h1 10 (vv n2_3 see2_3 tm2_3 g2_3)), (aI k h2 24 ff2_3), (aI k h3 24 fp2_3), (aB k x1 240 fx), (x0, .inr (6, (fX6 x1 (nI tz) (nI ta__21) na2_3 fn__37 fb__37)))] hP hD
            clear hP hD
            obtain ⟨hP, hD⟩ := hQ9
            try dsimp only at hw_37
            obtain ⟨hs0_38, hs1_38⟩ := hw_37.2.1 rfl
            replace hs0_38 := hs0_38.symm
            subst hs0_38
            replace hs1_38 := hs1_38.symm
            subst hs1_38
            refine lv_goto (tgt := 113) hx hb dX5_readFrom_83 (by decide) ?_
            refine lv_iinc (v := (nI (kk_3 + 1))) (lv' := [(3, .int (nI (kk_3 + 1))), (5, .int (nI cl_22)), (4, .int (nI ta__14)), (2, .int to2_3), (0, .ref h0), (1, .ref x0)]) hx hb dX5_readFrom_113 hl (k := 2) rfl (nI_add kk_3 1) (by decide) rfl (fun ls hl => ?_)
            refine lv_goto (tgt := 18) hx hb dX5_readFrom_116 (by decide) ?_
            exact ih_3 _ (kk_3 + 1, to2_3, n2_3, see2_3, tm2_3, g2_3, ff2_3, fp2_3, ta__21, na2_3, 3, (nI ta__14)) _ _ _ (by omega) ⟨rfl, ⟨by omega, by omega, by omega, by omega, by omega, hv_3.2.2.2.2.2.1, .inr ⟨3, ta__14, rfl, by decide, by omega, (by rw [← hst_13]; exact (sl_err (e := 3) (p := ta__14) (by omega) (show skA (bF fx) tz ta2_3 < tz by rw [← hw_14.1]; exact hz_14) (by rw [cf_told hkw_22 (by omega) (toX_t (by omega) c_27)]) (by omega) (by rw [cf_told hkw_22 (by omega) (toX_t (by omega) c_27)]; exact hw_14.1.symm)).1), (by rw [← hst_13]; exact (sl_err (e := 3) (p := ta__14) (by omega) (show skA (bF fx) tz ta2_3 < tz by rw [← hw_14.1]; exact hz_14) (by rw [cf_told hkw_22 (by omega) (toX_t (by omega) c_27)]) (by omega) (by rw [cf_told hkw_22 (by omega) (toX_t (by omega) c_27)]; exact hw_14.1.symm)).2), rfl⟩⟩, (hP.sub [0, 1, 2, 3, 5, 4] rfl), (hD.sub [0, 1, 2, 3, 5, 4] (by decide) rfl), hS, (lv_sub hl [0, 3, 4, 5] rfl)⟩

theorem f_glueP6 : True := trivial
/-- the reference's number of a clause -/
def clM (k : Nat) : Int32 := if k = 10 then -1 else if k = 0 then 9 else nI (k - 1)
def clQ (w : Int64) : Int32 :=
  if w = 2432449 then 9 else if w = 774500 then 0 else if w = 453773 then 1 else if w = 2487218 then 2 else if w = 237470 then 3 else if w = 1473549098 then 4 else if w = 13991 then 5 else if w = 9876874 then 6 else if w = 101329007 then 8 else -1
theorem kq {L : List Int32} {i : Nat} {c : Int64} (hL : ∀ x ∈ L, inB x 97 122) (hi : i < 14) (hc : c = wval (sByt.getD i [])) : wval L = c ↔ L = sByt.getD i [] := by
  rw [hc]
  exact wval_inj (sKa i hi) hL (sKs i hi)
theorem clQ_kw {L : List Int32} (hL : ∀ x ∈ L, inB x 97 122) : clQ (wval L) = clM (kwN L) := by
  unfold clQ kwN
  simp only [kq hL (i := 0) (c := 2432449) (by decide) (by decide +kernel), kq hL (i := 1) (c := 774500) (by decide) (by decide +kernel), kq hL (i := 2) (c := 453773) (by decide) (by decide +kernel), kq hL (i := 3) (c := 2487218) (by decide) (by decide +kernel), kq hL (i := 4) (c := 237470) (by decide) (by decide +kernel), kq hL (i := 5) (c := 1473549098) (by decide) (by decide +kernel), kq hL (i := 6) (c := 13991) (by decide) (by decide +kernel), kq hL (i := 7) (c := 9876874) (by decide) (by decide +kernel), kq hL (i := 9) (c := 101329007) (by decide) (by decide +kernel)]
  by_cases h0 : L = sByt.getD 0 []
  · rw [if_pos h0, if_pos h0]; rfl
  rw [if_neg h0, if_neg h0]
  by_cases h1 : L = sByt.getD 1 []
  · rw [if_pos h1, if_pos h1]; rfl
  rw [if_neg h1, if_neg h1]
  by_cases h2 : L = sByt.getD 2 []
  · rw [if_pos h2, if_pos h2]; rfl
  rw [if_neg h2, if_neg h2]
  by_cases h3 : L = sByt.getD 3 []
  · rw [if_pos h3, if_pos h3]; rfl
  rw [if_neg h3, if_neg h3]
  by_cases h4 : L = sByt.getD 4 []
  · rw [if_pos h4, if_pos h4]; rfl
  rw [if_neg h4, if_neg h4]
  by_cases h5 : L = sByt.getD 5 []
  · rw [if_pos h5, if_pos h5]; rfl
  rw [if_neg h5, if_neg h5]
  by_cases h6 : L = sByt.getD 6 []
  · rw [if_pos h6, if_pos h6]; rfl
  rw [if_neg h6, if_neg h6]
  by_cases h7 : L = sByt.getD 7 []
  · rw [if_pos h7, if_pos h7]; rfl
  rw [if_neg h7, if_neg h7]
  by_cases h9 : L = sByt.getD 9 []
  · rw [if_pos h9, if_pos h9]; rfl
  rw [if_neg h9, if_neg h9]
  rfl
theorem kwN_le (L : List Int32) : kwN L ≤ 10 ∧ kwN L ≠ 8 := by
  unfold kwN
  repeat' split
  all_goals decide
theorem lgn {x y : Int64} (h : ¬ lg_cmp x y = 0) : ¬ x = y := fun e => h (by rw [e]; unfold lg_cmp; rw [if_neg (fun q => absurd q Int64.lt_irrefl), if_pos rfl])
/-- the reference's told clauses, its state -/
def toM (m : Int32) : Nat → Bool := fun c => if 1 ≤ c ∧ c ≤ 9 then m.toBitVec.getLsbD (c - 1) else false
theorem toM_or {m : Int32} {k : Nat} (hk : k ≤ 8) : toM (m ||| ((1 : Int32) <<< (nI k &&& 31))) = setB (toM m) (k + 1) := by
  funext c
  show (if 1 ≤ c ∧ c ≤ 9 then (m ||| ((1 : Int32) <<< (nI k &&& 31))).toBitVec.getLsbD (c - 1) else false) = (if c = k + 1 then true else (if 1 ≤ c ∧ c ≤ 9 then m.toBitVec.getLsbD (c - 1) else false))
  by_cases h : c = k + 1
  · subst h
    rw [if_pos (by omega), if_pos rfl, bit_or m (by omega) (by omega)]
    simp
  · rw [if_neg h]
    by_cases h1 : 1 ≤ c ∧ c ≤ 9
    · rw [if_pos h1, if_pos h1, bit_or m (by omega) (by omega)]
      have h2 : ¬ c - 1 = k := by omega
      simp [h2]
    · rw [if_neg h1, if_neg h1]
theorem toM_or9 {m : Int32} : toM (m ||| ((1 : Int32) <<< (nI 9 &&& 31))) = toM m := by
  funext c
  show (if 1 ≤ c ∧ c ≤ 9 then (m ||| ((1 : Int32) <<< (nI 9 &&& 31))).toBitVec.getLsbD (c - 1) else false) = (if 1 ≤ c ∧ c ≤ 9 then m.toBitVec.getLsbD (c - 1) else false)
  by_cases h1 : 1 ≤ c ∧ c ≤ 9
  · rw [if_pos h1, if_pos h1, bit_or m (by omega) (by omega)]
    have h2 : ¬ c - 1 = 9 := by omega
    simp [h2]
  · rw [if_neg h1, if_neg h1]
theorem and1_01 (x : Int32) : x &&& 1 = 0 ∨ x &&& 1 = 1 := by
  have h := pk_and x (m := 1) 1 (by decide)
  rw [h]
  rcases (show x.toBitVec.toNat % 2 ^ 1 = 0 ∨ x.toBitVec.toNat % 2 ^ 1 = 1 by omega) with e | e
  · exact .inl (by rw [e]; rfl)
  · exact .inr (by rw [e]; rfl)
theorem toM_t {m : Int32} {k : Nat} (hk : k ≤ 8) (h : (m >>> (nI k &&& 31)) &&& 1 = 1) : toM m (k + 1) = true := by
  unfold toM
  rw [if_pos (by omega), Nat.add_sub_cancel]
  rcases hb : m.toBitVec.getLsbD k with _ | _
  · have h2 := (bitI m (c := k) (by omega)).mpr hb
    rw [h] at h2
    exact absurd h2 (by decide)
  · rfl
theorem toM_f {m : Int32} {k : Nat} (hk : k ≤ 8) (h : ¬ (m >>> (nI k &&& 31)) &&& 1 = 1) : ¬ toM m (k + 1) = true := by
  unfold toM
  rw [if_pos (by omega), Nat.add_sub_cancel, (bitI m (c := k) (by omega)).mp ((and1_01 _).resolve_right h)]
  decide
def gM (f : Nat → Int32) : Nat → Int32 := nG (fun j => f (j - 1))
def stM (rd : Nat) (fs ff fp : Nat → Int32) (m : Int32) : PSt := (rd, gM fs, clp rd ff, clp rd fp, toM m)
theorem gM_upd {f : Nat → Int32} {k : Nat} {v : Int32} (hk : k ≤ 8) : gM (upd f k v) = upd (gM f) (k + 1) v := by
  funext j
  show (if 1 ≤ j ∧ j ≤ 9 then (if j - 1 = k then v else f (j - 1)) else 0) = (if j = k + 1 then v else (if 1 ≤ j ∧ j ≤ 9 then f (j - 1) else 0))
  by_cases h : j = k + 1
  · subst h
    rw [if_pos (by omega), if_pos (by omega), if_pos rfl]
  · rw [if_neg h]
    by_cases h1 : 1 ≤ j ∧ j ≤ 9
    · rw [if_pos h1, if_pos h1, if_neg (by omega)]
    · rw [if_neg h1, if_neg h1]


def fM_clause (wd : Int64) : Int32 := ((if ((if (lg_cmp wd 2432449) = 0 then 9 else (if (lg_cmp wd 774500) = 0 then 0 else (if (lg_cmp wd 453773) = 0 then 1 else (if (lg_cmp wd 2487218) = 0 then 2 else (-1))))) : Int32) < 0 then ((if (lg_cmp wd 237470) = 0 then 3 else (if (lg_cmp wd 1473549098) = 0 then 4 else (if (lg_cmp wd 13991) = 0 then 5 else (if (lg_cmp wd 9876874) = 0 then 6 else (if (lg_cmp wd 101329007) = 0 then 8 else (-1)))))) : Int32) else ((if (lg_cmp wd 2432449) = 0 then 9 else (if (lg_cmp wd 774500) = 0 then 0 else (if (lg_cmp wd 453773) = 0 then 1 else (if (lg_cmp wd 2487218) = 0 then 2 else (-1))))) : Int32)) : Int32)
set_option maxHeartbeats 4000000 in
set_option maxRecDepth 100000 in
theorem n_clauseOf (l : Launch) (D : va_G) (k : Nat → ClassId) (st : Nat → Nat) (lo : Nat) (a : Nat → Nat) (tx : Nat) (t0 : Nat) (we : Nat) (rd : Nat) (ru : Nat) (rw : Nat) (ca : Nat) (fp : Int32) (wd : Int64) (nu : Int32) (na : Int32) (ts : Int32) (df : Int32) (db : Int32) (sd : Int32)  : CRi l D k st lo yX8_clauseOf cX8_clauseOf 7 (some .int) ({ frames := 2, cells := 0, slots := 0, locals := 45 }) [.ref (a 0)] [((a 0), .inr (8, (fX8 a (nI tx) fp (nI t0) wd (nI we) nu na (nI rd) ts (nI ru) (nI rw) (nI ca) df db sd)))] (fun r => r = fM_clause wd) := by
  intro sz
  refine Met.ofW (cc := cX8_clauseOf) (maxL := 7) (ret := (some .int)) (by decide) rfl ?_
  intro p e s m args below meth c s₁ B hml hv
  obtain ⟨rfl, hsz, hlo, hP, hK, hDL, hZ⟩ := hv
  have hx := B.exec
  have hb := B.bytes
  have hr := B.returns
  have hts := WS_ts B.pre
  have hown : s.vm.findClass RX8 = some m.cls := findClass_of_methodNamed B.named
  have hlocks := B.notSynchronized
  subst hsz
  have hA : ∀ q : Nat, s.heap.size ≤ q → (fun q : Nat => s.heap.size ≤ q) q := fun _ h => h
  have hAlo : ∀ q : Nat, (fun q : Nat => s.heap.size ≤ q) q → lo ≤ q := fun q h => Nat.le_trans hlo h
  have hS : va_S (fun q : Nat => s.heap.size ≤ q) s.heap s.heap [] := va_S.rf
  have hl := lv_entry ([.ref (a 0)]) (n := 7) (Nat.le_of_ble_eq_true rfl)
  rw [lg_entry_eq]
  generalize (lg_sl ([.ref (a 0)]) ++ List.replicate (7 - (lg_sl ([.ref (a 0)])).length) Slot.unset).toArray = ls at hl ⊢
  have hl : lv_has ls 7 [(0, .ref (a 0))] := hl
  refine lv_bipush (v := 99) hx hb dX8_clauseOf_0 (by decide) ?_
  refine lv_bipush (v := 117) hx hb dX8_clauseOf_2 (by decide) ?_
  refine lv_bipush (v := 114) hx hb dX8_clauseOf_4 (by decide) ?_
  refine ro_l (D := D) (va_runS (As := [.int 99, .int 117, .int 114]) (rest := []) ⟨hx, hb, hml, hown, hts⟩ ((n_code l D k st lo 99 117 114) s.heap.size) (va_cwS 3 hts (gS tw_1142 tw_1143 tw_87 tw_1144) rfl rfl rfl (by decide +kernel) ⟨Nat.le_of_ble_eq_true rfl, Nat.le_of_ble_eq_true rfl⟩) (pS hS hAlo hlo hP hK hDL hZ [] (by decide) rfl) rfl rfl hl.1 rfl (lv_room (Nat.le_of_ble_eq_true rfl)) dX8_clauseOf_6 ⟨Nat.le_of_ble_eq_true rfl, Nat.le_of_ble_eq_true rfl⟩) hS hA hP (fun r_1 H locs hw_1 hP hS => ?_)
  try dsimp only at hw_1
  obtain rfl : r_1 = 2772 := hw_1.trans (by decide)
  refine lv_bipush (v := 116) hx hb dX8_clauseOf_9 (by decide) ?_
  refine lv_bipush (v := 97) hx hb dX8_clauseOf_11 (by decide) ?_
  refine ro_l (D := D) (va_runS (As := [.long 2772, .int 116, .int 97]) (rest := []) ⟨hx, hb, hml, hown, hts⟩ ((n_longest l D k st lo 2772 116 97) H.size) (va_cwS 3 hts (gS tw_1145 tw_1146 tw_87 tw_1147) rfl rfl rfl (by decide +kernel) ⟨Nat.le_of_ble_eq_true rfl, Nat.le_of_ble_eq_true rfl⟩) (pS hS hAlo hlo hP hK hDL hZ [] (by decide) rfl) rfl rfl hl.1 rfl (lv_room (Nat.le_of_ble_eq_true rfl)) dX8_clauseOf_13 ⟨Nat.le_of_ble_eq_true rfl, Nat.le_of_ble_eq_true rfl⟩) hS hA hP (fun r_2 H locs hw_2 hP hS => ?_)
  try dsimp only at hw_2
  obtain rfl : r_2 = 2021329 := hw_2.trans (by decide)
  refine lv_bipush (v := 105) hx hb dX8_clauseOf_16 (by decide) ?_
  refine lv_bipush (v := 110) hx hb dX8_clauseOf_18 (by decide) ?_
  refine ro_l (D := D) (va_runS (As := [.long 2021329, .int 105, .int 110]) (rest := []) ⟨hx, hb, hml, hown, hts⟩ ((n_longest l D k st lo 2021329 105 110) H.size) (va_cwS 3 hts (gS tw_1145 tw_1146 tw_87 tw_1147) rfl rfl rfl (by decide +kernel) ⟨Nat.le_of_ble_eq_true rfl, Nat.le_of_ble_eq_true rfl⟩) (pS hS hAlo hlo hP hK hDL hZ [] (by decide) rfl) rfl rfl hl.1 rfl (lv_room (Nat.le_of_ble_eq_true rfl)) dX8_clauseOf_20 ⟨Nat.le_of_ble_eq_true rfl, Nat.le_of_ble_eq_true rfl⟩) hS hA hP (fun r_3 H locs hw_3 hP hS => ?_)
  try dsimp only at hw_3
  obtain rfl : r_3 = 1473549098 := hw_3.trans (by decide)
  refine lv_lstore_n (lv' := [(1, .long 1473549098), (0, .ref (a 0))]) hx hb dX8_clauseOf_23 rfl hl (by decide) rfl (fun ls hl => ?_)
  refine lv_bipush (v := 103) hx hb dX8_clauseOf_24 (by decide) ?_
  refine lv_bipush (v := 97) hx hb dX8_clauseOf_26 (by decide) ?_
  refine lv_bipush (v := 114) hx hb dX8_clauseOf_28 (by decide) ?_
  refine ro_l (D := D) (va_runS (As := [.int 103, .int 97, .int 114]) (rest := []) ⟨hx, hb, hml, hown, hts⟩ ((n_code l D k st lo 103 97 114) H.size) (va_cwS 3 hts (gS tw_1142 tw_1143 tw_87 tw_1144) rfl rfl rfl (by decide +kernel) ⟨Nat.le_of_ble_eq_true rfl, Nat.le_of_ble_eq_true rfl⟩) (pS hS hAlo hlo hP hK hDL hZ [] (by decide) rfl) rfl rfl hl.1 rfl (lv_room (Nat.le_of_ble_eq_true rfl)) dX8_clauseOf_30 ⟨Nat.le_of_ble_eq_true rfl, Nat.le_of_ble_eq_true rfl⟩) hS hA hP (fun r_4 H locs hw_4 hP hS => ?_)
  try dsimp only at hw_4
  obtain rfl : r_4 = 5148 := hw_4.trans (by decide)
  refine lv_bipush (v := 97) hx hb dX8_clauseOf_33 (by decide) ?_
  refine lv_bipush (v := 103) hx hb dX8_clauseOf_35 (by decide) ?_
  refine ro_l (D := D) (va_runS (As := [.long 5148, .int 97, .int 103]) (rest := []) ⟨hx, hb, hml, hown, hts⟩ ((n_longest l D k st lo 5148 97 103) H.size) (va_cwS 3 hts (gS tw_1145 tw_1146 tw_87 tw_1147) rfl rfl rfl (by decide +kernel) ⟨Nat.le_of_ble_eq_true rfl, Nat.le_of_ble_eq_true rfl⟩) (pS hS hAlo hlo hP hK hDL hZ [] (by decide) rfl) rfl rfl hl.1 rfl (lv_room (Nat.le_of_ble_eq_true rfl)) dX8_clauseOf_37 ⟨Nat.le_of_ble_eq_true rfl, Nat.le_of_ble_eq_true rfl⟩) hS hA hP (fun r_5 H locs hw_5 hP hS => ?_)
  try dsimp only at hw_5
  obtain rfl : r_5 = 3752926 := hw_5.trans (by decide)
  refine lv_bipush (v := 101) hx hb dX8_clauseOf_40 (by decide) ?_
  refine ro_l (D := D) (va_runS (As := [.long 3752926, .int 101]) (rest := []) ⟨hx, hb, hml, hown, hts⟩ ((n_longer l D k st lo 3752926 101) H.size) (va_cwS 2 hts (gS tw_1148 tw_1149 tw_87 tw_1150) rfl rfl rfl (by decide +kernel) ⟨Nat.le_of_ble_eq_true rfl, Nat.le_of_ble_eq_true rfl⟩) (pS hS hAlo hlo hP hK hDL hZ [] (by decide) rfl) rfl rfl hl.1 rfl (lv_room (Nat.le_of_ble_eq_true rfl)) dX8_clauseOf_42 ⟨Nat.le_of_ble_eq_true rfl, Nat.le_of_ble_eq_true rfl⟩) hS hA hP (fun r_6 H locs hw_6 hP hS => ?_)
  try dsimp only at hw_6
  obtain rfl : r_6 = 101329007 := hw_6.trans (by decide)
  refine lv_lstore_n (lv' := [(3, .long 101329007), (1, .long 1473549098), (0, .ref (a 0))]) hx hb dX8_clauseOf_45 rfl hl (by decide) rfl (fun ls hl => ?_)
  refine lv_aload_n hx hb dX8_clauseOf_46 rfl (lv_at hl 2 rfl) ?_
  refine va_get (D := D) (ci := 8) (v := .long wd) (C := RX8) (T := TX8) (N := 44) hx hb hts inX8 hown hK hP 0 rfl rfl 8 (by decide) (hts _ tw_981) (fun _ h9 => h9) rfl dX8_clauseOf_47 ?_
  refine lv_bipush (v := 100) hx hb dX8_clauseOf_50 (by decide) ?_
  refine lv_bipush (v := 111) hx hb dX8_clauseOf_52 (by decide) ?_
  refine lv_bipush (v := 111) hx hb dX8_clauseOf_54 (by decide) ?_
  refine ro_l (D := D) (va_runS (As := [.int 100, .int 111, .int 111]) (rest := [.long wd]) ⟨hx, hb, hml, hown, hts⟩ ((n_code l D k st lo 100 111 111) H.size) (va_cwS 3 hts (gS tw_1142 tw_1143 tw_87 tw_1144) rfl rfl rfl (by decide +kernel) ⟨Nat.le_of_ble_eq_true rfl, Nat.le_of_ble_eq_true rfl⟩) (pS hS hAlo hlo hP hK hDL hZ [] (by decide) rfl) rfl rfl hl.1 rfl (lv_room (Nat.le_of_ble_eq_true rfl)) dX8_clauseOf_56 ⟨Nat.le_of_ble_eq_true rfl, Nat.le_of_ble_eq_true rfl⟩) hS hA hP (fun r_7 H locs hw_7 hP hS => ?_)
  try dsimp only at hw_7
  obtain rfl : r_7 = 3336 := hw_7.trans (by decide)
  refine lv_bipush (v := 114) hx hb dX8_clauseOf_59 (by decide) ?_
  refine lv_bipush (v := 115) hx hb dX8_clauseOf_61 (by decide) ?_
  refine ro_l (D := D) (va_runS (As := [.long 3336, .int 114, .int 115]) (rest := [.long wd]) ⟨hx, hb, hml, hown, hts⟩ ((n_longest l D k st lo 3336 114 115) H.size) (va_cwS 3 hts (gS tw_1145 tw_1146 tw_87 tw_1147) rfl rfl rfl (by decide +kernel) ⟨Nat.le_of_ble_eq_true rfl, Nat.le_of_ble_eq_true rfl⟩) (pS hS hAlo hlo hP hK hDL hZ [] (by decide) rfl) rfl rfl hl.1 rfl (lv_room (Nat.le_of_ble_eq_true rfl)) dX8_clauseOf_63 ⟨Nat.le_of_ble_eq_true rfl, Nat.le_of_ble_eq_true rfl⟩) hS hA hP (fun r_8 H locs hw_8 hP hS => ?_)
  try dsimp only at hw_8
  obtain rfl : r_8 = 2432449 := hw_8.trans (by decide)
  refine W.lcmp hx hb dX8_clauseOf_66 ?_
  refine W_join (fun (x_19 : Int32) (H : Heap) (locs : List Loc) (ls : Array Slot) => x_19 = ((if (lg_cmp wd 2432449) = 0 then 9 else (if (lg_cmp wd 774500) = 0 then 0 else (if (lg_cmp wd 453773) = 0 then 1 else (if (lg_cmp wd 2487218) = 0 then 2 else (-1))))) : Int32) ∧ va_P D classes [((a 0), .inr (8, (fX8 a (nI tx) fp (nI t0) wd (nI we) nu na (nI rd) ts (nI ru) (nI rw) (nI ca) df db sd)))] H ∧ va_S (fun q : Nat => s.heap.size ≤ q) s.heap H locs ∧ lv_has ls 7 [(3, .long 101329007), (1, .long 1473549098), (0, .ref (a 0))]) (fun (x_19 : Int32) => [.int x_19]) 158 (fun x_19 H locs ls hJ => ?_) (fun J_19 => ?_)
  · obtain ⟨hj_19, hP, hS, hl⟩ := hJ
    show W p l e _ s m _ below meth c H locs _ _ _ (F0 m 158 ls [.int x_19])
    refine lv_istore (lv' := [(5, .int x_19), (3, .long 101329007), (1, .long 1473549098), (0, .ref (a 0))]) hx hb dX8_clauseOf_158 hl (by decide) rfl (fun ls hl => ?_)
    refine lv_aload_n hx hb dX8_clauseOf_160 rfl (lv_at hl 3 rfl) ?_
    refine va_get (D := D) (ci := 8) (v := .long wd) (C := RX8) (T := TX8) (N := 44) hx hb hts inX8 hown hK hP 0 rfl rfl 8 (by decide) (hts _ tw_981) (fun _ h9 => h9) rfl dX8_clauseOf_161 ?_
    refine lv_bipush (v := 108) hx hb dX8_clauseOf_164 (by decide) ?_
    refine lv_bipush (v := 97) hx hb dX8_clauseOf_166 (by decide) ?_
    refine lv_bipush (v := 116) hx hb dX8_clauseOf_168 (by decide) ?_
    refine ro_l (D := D) (va_runS (As := [.int 108, .int 97, .int 116]) (rest := [.long wd]) ⟨hx, hb, hml, hown, hts⟩ ((n_code l D k st lo 108 97 116) H.size) (va_cwS 3 hts (gS tw_1142 tw_1143 tw_87 tw_1144) rfl rfl rfl (by decide +kernel) ⟨Nat.le_of_ble_eq_true rfl, Nat.le_of_ble_eq_true rfl⟩) (pS hS hAlo hlo hP hK hDL hZ [] (by decide) rfl) rfl rfl hl.1 rfl (lv_room (Nat.le_of_ble_eq_true rfl)) dX8_clauseOf_170 ⟨Nat.le_of_ble_eq_true rfl, Nat.le_of_ble_eq_true rfl⟩) hS hA hP (fun r_20 H locs hw_20 hP hS => ?_)
    try dsimp only at hw_20
    obtain rfl : r_20 = 8795 := hw_20.trans (by decide)
    refine lv_bipush (v := 101) hx hb dX8_clauseOf_173 (by decide) ?_
    refine ro_l (D := D) (va_runS (As := [.long 8795, .int 101]) (rest := [.long wd]) ⟨hx, hb, hml, hown, hts⟩ ((n_longer l D k st lo 8795 101) H.size) (va_cwS 2 hts (gS tw_1148 tw_1149 tw_87 tw_1150) rfl rfl rfl (by decide +kernel) ⟨Nat.le_of_ble_eq_true rfl, Nat.le_of_ble_eq_true rfl⟩) (pS hS hAlo hlo hP hK hDL hZ [] (by decide) rfl) rfl rfl hl.1 rfl (lv_room (Nat.le_of_ble_eq_true rfl)) dX8_clauseOf_175 ⟨Nat.le_of_ble_eq_true rfl, Nat.le_of_ble_eq_true rfl⟩) hS hA hP (fun r_21 H locs hw_21 hP hS => ?_)
    try dsimp only at hw_21
    obtain rfl : r_21 = 237470 := hw_21.trans (by decide)
    refine W.lcmp hx hb dX8_clauseOf_178 ?_
    refine W_join (fun (x_30 : Int32) (H : Heap) (locs : List Loc) (ls : Array Slot) => x_30 = ((if (lg_cmp wd 237470) = 0 then 3 else (if (lg_cmp wd 1473549098) = 0 then 4 else (if (lg_cmp wd 13991) = 0 then 5 else (if (lg_cmp wd 9876874) = 0 then 6 else (if (lg_cmp wd 101329007) = 0 then 8 else (-1)))))) : Int32) ∧ va_P D classes [((a 0), .inr (8, (fX8 a (nI tx) fp (nI t0) wd (nI we) nu na (nI rd) ts (nI ru) (nI rw) (nI ca) df db sd)))] H ∧ va_S (fun q : Nat => s.heap.size ≤ q) s.heap H locs ∧ lv_has ls 7 [(5, .int x_19), (3, .long 101329007), (1, .long 1473549098), (0, .ref (a 0))]) (fun (x_30 : Int32) => [.int x_30]) 264 (fun x_30 H locs ls hJ => ?_) (fun J_30 => ?_)
    · obtain ⟨hj_30, hP, hS, hl⟩ := hJ
      show W p l e _ s m _ below meth c H locs _ _ _ (F0 m 264 ls [.int x_30])
      refine lv_istore (lv' := [(6, .int x_30), (5, .int x_19), (3, .long 101329007), (1, .long 1473549098), (0, .ref (a 0))]) hx hb dX8_clauseOf_264 hl (by decide) rfl (fun ls hl => ?_)
      refine lv_iload hx hb dX8_clauseOf_266 (lv_at hl 1 rfl) ?_
      refine W_join (fun (x_32 : Int32) (H : Heap) (locs : List Loc) (ls : Array Slot) => x_32 = ((if x_19 < 0 then x_30 else x_19) : Int32) ∧ va_P D classes [((a 0), .inr (8, (fX8 a (nI tx) fp (nI t0) wd (nI we) nu na (nI rd) ts (nI ru) (nI rw) (nI ca) df db sd)))] H ∧ va_S (fun q : Nat => s.heap.size ≤ q) s.heap H locs ∧ lv_has ls 7 [(6, .int x_30), (5, .int x_19), (3, .long 101329007), (1, .long 1473549098), (0, .ref (a 0))]) (fun (x_32 : Int32) => [.int x_32]) 278 (fun x_32 H locs ls hJ => ?_) (fun J_32 => ?_)
      · obtain ⟨hj_32, hP, hS, hl⟩ := hJ
        show W p l e _ s m _ below meth c H locs _ _ _ (F0 m 278 ls [.int x_32])
        exact W.iret (v := x_32) hx hb hr (fun t ht hW => ⟨⟨x_32, (), rfl, (by show _ = fM_clause wd; unfold fM_clause; first | (rw [hj_32, hj_30, hj_19]; done) | (rw [hj_32, hj_30, hj_19]; rfl) | (simp only [hj_32, hj_30, hj_19]; done)), trivial⟩, hS.F ht⟩) hS.2.2 dX8_clauseOf_278
      · refine lv_if_lt (tgt := 276) hx hb dX8_clauseOf_268 (by decide) (fun c_33 => ?_) (fun c_33 => ?_)
        · refine lv_iload hx hb dX8_clauseOf_276 (lv_at hl 0 rfl) ?_
          exact J_32 x_30 _ _ _ ⟨(by first | (rw [if_pos c_33]; done) | (rw [if_pos c_33]; rfl) | (simp only [if_pos c_33]; done)), hP, hS, lv_sub hl [0, 1, 2, 3, 4] rfl⟩
        · refine lv_iload hx hb dX8_clauseOf_271 (lv_at hl 1 rfl) ?_
          refine lv_goto (tgt := 278) hx hb dX8_clauseOf_273 (by decide) ?_
          exact J_32 x_19 _ _ _ ⟨(by first | (rw [if_neg c_33]; done) | (rw [if_neg c_33]; rfl) | (simp only [if_neg c_33]; done)), hP, hS, lv_sub hl [0, 1, 2, 3, 4] rfl⟩
    · refine lv_if_ne (tgt := 186) hx hb dX8_clauseOf_179 (by decide) (fun c_34 => ?_) (fun c_34 => ?_)
      · refine lv_aload_n hx hb dX8_clauseOf_186 rfl (lv_at hl 3 rfl) ?_
        refine va_get (D := D) (ci := 8) (v := .long wd) (C := RX8) (T := TX8) (N := 44) hx hb hts inX8 hown hK hP 0 rfl rfl 8 (by decide) (hts _ tw_981) (fun _ h9 => h9) rfl dX8_clauseOf_187 ?_
        refine lv_lload_n hx hb dX8_clauseOf_190 rfl (lv_at hl 2 rfl) ?_
        refine W.lcmp hx hb dX8_clauseOf_191 ?_
        refine lv_if_ne (tgt := 199) hx hb dX8_clauseOf_192 (by decide) (fun c_35 => ?_) (fun c_35 => ?_)
        · refine lv_aload_n hx hb dX8_clauseOf_199 rfl (lv_at hl 3 rfl) ?_
          refine va_get (D := D) (ci := 8) (v := .long wd) (C := RX8) (T := TX8) (N := 44) hx hb hts inX8 hown hK hP 0 rfl rfl 8 (by decide) (hts _ tw_981) (fun _ h9 => h9) rfl dX8_clauseOf_200 ?_
          refine lv_bipush (v := 115) hx hb dX8_clauseOf_203 (by decide) ?_
          refine lv_bipush (v := 101) hx hb dX8_clauseOf_205 (by decide) ?_
          refine lv_bipush (v := 101) hx hb dX8_clauseOf_207 (by decide) ?_
          refine ro_l (D := D) (va_runS (As := [.int 115, .int 101, .int 101]) (rest := [.long wd]) ⟨hx, hb, hml, hown, hts⟩ ((n_code l D k st lo 115 101 101) H.size) (va_cwS 3 hts (gS tw_1142 tw_1143 tw_87 tw_1144) rfl rfl rfl (by decide +kernel) ⟨Nat.le_of_ble_eq_true rfl, Nat.le_of_ble_eq_true rfl⟩) (pS hS hAlo hlo hP hK hDL hZ [] (by decide) rfl) rfl rfl hl.1 rfl (lv_room (Nat.le_of_ble_eq_true rfl)) dX8_clauseOf_209 ⟨Nat.le_of_ble_eq_true rfl, Nat.le_of_ble_eq_true rfl⟩) hS hA hP (fun r_36 H locs hw_36 hP hS => ?_)
          try dsimp only at hw_36
          obtain rfl : r_36 = 13991 := hw_36.trans (by decide)
          refine W.lcmp hx hb dX8_clauseOf_212 ?_
          refine lv_if_ne (tgt := 220) hx hb dX8_clauseOf_213 (by decide) (fun c_37 => ?_) (fun c_37 => ?_)
          · refine lv_aload_n hx hb dX8_clauseOf_220 rfl (lv_at hl 3 rfl) ?_
            refine va_get (D := D) (ci := 8) (v := .long wd) (C := RX8) (T := TX8) (N := 44) hx hb hts inX8 hown hK hP 0 rfl rfl 8 (by decide) (hts _ tw_981) (fun _ h9 => h9) rfl dX8_clauseOf_221 ?_
            refine lv_bipush (v := 114) hx hb dX8_clauseOf_224 (by decide) ?_
            refine lv_bipush (v := 111) hx hb dX8_clauseOf_226 (by decide) ?_
            refine lv_bipush (v := 117) hx hb dX8_clauseOf_228 (by decide) ?_
            refine ro_l (D := D) (va_runS (As := [.int 114, .int 111, .int 117]) (rest := [.long wd]) ⟨hx, hb, hml, hown, hts⟩ ((n_code l D k st lo 114 111 117) H.size) (va_cwS 3 hts (gS tw_1142 tw_1143 tw_87 tw_1144) rfl rfl rfl (by decide +kernel) ⟨Nat.le_of_ble_eq_true rfl, Nat.le_of_ble_eq_true rfl⟩) (pS hS hAlo hlo hP hK hDL hZ [] (by decide) rfl) rfl rfl hl.1 rfl (lv_room (Nat.le_of_ble_eq_true rfl)) dX8_clauseOf_230 ⟨Nat.le_of_ble_eq_true rfl, Nat.le_of_ble_eq_true rfl⟩) hS hA hP (fun r_38 H locs hw_38 hP hS => ?_)
            try dsimp only at hw_38
            obtain rfl : r_38 = 13548 := hw_38.trans (by decide)
            refine lv_bipush (v := 110) hx hb dX8_clauseOf_233 (by decide) ?_
            refine lv_bipush (v := 100) hx hb dX8_clauseOf_235 (by decide) ?_
            refine ro_l (D := D) (va_runS (As := [.long 13548, .int 110, .int 100]) (rest := [.long wd]) ⟨hx, hb, hml, hown, hts⟩ ((n_longest l D k st lo 13548 110 100) H.size) (va_cwS 3 hts (gS tw_1145 tw_1146 tw_87 tw_1147) rfl rfl rfl (by decide +kernel) ⟨Nat.le_of_ble_eq_true rfl, Nat.le_of_ble_eq_true rfl⟩) (pS hS hAlo hlo hP hK hDL hZ [] (by decide) rfl) rfl rfl hl.1 rfl (lv_room (Nat.le_of_ble_eq_true rfl)) dX8_clauseOf_237 ⟨Nat.le_of_ble_eq_true rfl, Nat.le_of_ble_eq_true rfl⟩) hS hA hP (fun r_39 H locs hw_39 hP hS => ?_)
            try dsimp only at hw_39
            obtain rfl : r_39 = 9876874 := hw_39.trans (by decide)
            refine W.lcmp hx hb dX8_clauseOf_240 ?_
            refine lv_if_ne (tgt := 249) hx hb dX8_clauseOf_241 (by decide) (fun c_40 => ?_) (fun c_40 => ?_)
            · refine lv_aload_n hx hb dX8_clauseOf_249 rfl (lv_at hl 3 rfl) ?_
              refine va_get (D := D) (ci := 8) (v := .long wd) (C := RX8) (T := TX8) (N := 44) hx hb hts inX8 hown hK hP 0 rfl rfl 8 (by decide) (hts _ tw_981) (fun _ h9 => h9) rfl dX8_clauseOf_250 ?_
              refine lv_lload_n hx hb dX8_clauseOf_253 rfl (lv_at hl 1 rfl) ?_
              refine W.lcmp hx hb dX8_clauseOf_254 ?_
              refine lv_if_ne (tgt := 263) hx hb dX8_clauseOf_255 (by decide) (fun c_41 => ?_) (fun c_41 => ?_)
              · refine lv_iconst (v := (-1)) hx hb dX8_clauseOf_263 (by decide) ?_
                exact J_30 (-1) _ _ _ ⟨(by first | (rw [if_neg c_34, if_neg c_35, if_neg c_37, if_neg c_40, if_neg c_41]; done) | (rw [if_neg c_34, if_neg c_35, if_neg c_37, if_neg c_40, if_neg c_41]; rfl) | (simp only [if_neg c_34, if_neg c_35, if_neg c_37, if_neg c_40, if_neg c_41]; done)), hP, hS, lv_sub hl [0, 1, 2, 3] rfl⟩
              · refine lv_bipush (v := 8) hx hb dX8_clauseOf_258 (by decide) ?_
                refine lv_goto (tgt := 264) hx hb dX8_clauseOf_260 (by decide) ?_
                exact J_30 8 _ _ _ ⟨(by first | (rw [if_neg c_34, if_neg c_35, if_neg c_37, if_neg c_40, if_pos c_41]; done) | (rw [if_neg c_34, if_neg c_35, if_neg c_37, if_neg c_40, if_pos c_41]; rfl) | (simp only [if_neg c_34, if_neg c_35, if_neg c_37, if_neg c_40, if_pos c_41]; done)), hP, hS, lv_sub hl [0, 1, 2, 3] rfl⟩
            · refine lv_bipush (v := 6) hx hb dX8_clauseOf_244 (by decide) ?_
              refine lv_goto (tgt := 264) hx hb dX8_clauseOf_246 (by decide) ?_
              exact J_30 6 _ _ _ ⟨(by first | (rw [if_neg c_34, if_neg c_35, if_neg c_37, if_pos c_40]; done) | (rw [if_neg c_34, if_neg c_35, if_neg c_37, if_pos c_40]; rfl) | (simp only [if_neg c_34, if_neg c_35, if_neg c_37, if_pos c_40]; done)), hP, hS, lv_sub hl [0, 1, 2, 3] rfl⟩
          · refine lv_iconst (v := 5) hx hb dX8_clauseOf_216 (by decide) ?_
            refine lv_goto (tgt := 264) hx hb dX8_clauseOf_217 (by decide) ?_
            exact J_30 5 _ _ _ ⟨(by first | (rw [if_neg c_34, if_neg c_35, if_pos c_37]; done) | (rw [if_neg c_34, if_neg c_35, if_pos c_37]; rfl) | (simp only [if_neg c_34, if_neg c_35, if_pos c_37]; done)), hP, hS, lv_sub hl [0, 1, 2, 3] rfl⟩
        · refine lv_iconst (v := 4) hx hb dX8_clauseOf_195 (by decide) ?_
          refine lv_goto (tgt := 264) hx hb dX8_clauseOf_196 (by decide) ?_
          exact J_30 4 _ _ _ ⟨(by first | (rw [if_neg c_34, if_pos c_35]; done) | (rw [if_neg c_34, if_pos c_35]; rfl) | (simp only [if_neg c_34, if_pos c_35]; done)), hP, hS, lv_sub hl [0, 1, 2, 3] rfl⟩
      · refine lv_iconst (v := 3) hx hb dX8_clauseOf_182 (by decide) ?_
        refine lv_goto (tgt := 264) hx hb dX8_clauseOf_183 (by decide) ?_
        exact J_30 3 _ _ _ ⟨(by first | (rw [if_pos c_34]; done) | (rw [if_pos c_34]; rfl) | (simp only [if_pos c_34]; done)), hP, hS, lv_sub hl [0, 1, 2, 3] rfl⟩
  · refine lv_if_ne (tgt := 75) hx hb dX8_clauseOf_67 (by decide) (fun c_42 => ?_) (fun c_42 => ?_)
    · refine lv_aload_n hx hb dX8_clauseOf_75 rfl (lv_at hl 2 rfl) ?_
      refine va_get (D := D) (ci := 8) (v := .long wd) (C := RX8) (T := TX8) (N := 44) hx hb hts inX8 hown hK hP 0 rfl rfl 8 (by decide) (hts _ tw_981) (fun _ h9 => h9) rfl dX8_clauseOf_76 ?_
      refine lv_bipush (v := 97) hx hb dX8_clauseOf_79 (by decide) ?_
      refine lv_bipush (v := 108) hx hb dX8_clauseOf_81 (by decide) ?_
      refine lv_bipush (v := 105) hx hb dX8_clauseOf_83 (by decide) ?_
      refine ro_l (D := D) (va_runS (As := [.int 97, .int 108, .int 105]) (rest := [.long wd]) ⟨hx, hb, hml, hown, hts⟩ ((n_code l D k st lo 97 108 105) H.size) (va_cwS 3 hts (gS tw_1142 tw_1143 tw_87 tw_1144) rfl rfl rfl (by decide +kernel) ⟨Nat.le_of_ble_eq_true rfl, Nat.le_of_ble_eq_true rfl⟩) (pS hS hAlo hlo hP hK hDL hZ [] (by decide) rfl) rfl rfl hl.1 rfl (lv_room (Nat.le_of_ble_eq_true rfl)) dX8_clauseOf_85 ⟨Nat.le_of_ble_eq_true rfl, Nat.le_of_ble_eq_true rfl⟩) hS hA hP (fun r_43 H locs hw_43 hP hS => ?_)
      try dsimp only at hw_43
      obtain rfl : r_43 = 1062 := hw_43.trans (by decide)
      refine lv_bipush (v := 107) hx hb dX8_clauseOf_88 (by decide) ?_
      refine lv_bipush (v := 101) hx hb dX8_clauseOf_90 (by decide) ?_
      refine ro_l (D := D) (va_runS (As := [.long 1062, .int 107, .int 101]) (rest := [.long wd]) ⟨hx, hb, hml, hown, hts⟩ ((n_longest l D k st lo 1062 107 101) H.size) (va_cwS 3 hts (gS tw_1145 tw_1146 tw_87 tw_1147) rfl rfl rfl (by decide +kernel) ⟨Nat.le_of_ble_eq_true rfl, Nat.le_of_ble_eq_true rfl⟩) (pS hS hAlo hlo hP hK hDL hZ [] (by decide) rfl) rfl rfl hl.1 rfl (lv_room (Nat.le_of_ble_eq_true rfl)) dX8_clauseOf_92 ⟨Nat.le_of_ble_eq_true rfl, Nat.le_of_ble_eq_true rfl⟩) hS hA hP (fun r_44 H locs hw_44 hP hS => ?_)
      try dsimp only at hw_44
      obtain rfl : r_44 = 774500 := hw_44.trans (by decide)
      refine W.lcmp hx hb dX8_clauseOf_95 ?_
      refine lv_if_ne (tgt := 103) hx hb dX8_clauseOf_96 (by decide) (fun c_45 => ?_) (fun c_45 => ?_)
      · refine lv_aload_n hx hb dX8_clauseOf_103 rfl (lv_at hl 2 rfl) ?_
        refine va_get (D := D) (ci := 8) (v := .long wd) (C := RX8) (T := TX8) (N := 44) hx hb hts inX8 hown hK hP 0 rfl rfl 8 (by decide) (hts _ tw_981) (fun _ h9 => h9) rfl dX8_clauseOf_104 ?_
        refine lv_bipush (v := 119) hx hb dX8_clauseOf_107 (by decide) ?_
        refine lv_bipush (v := 97) hx hb dX8_clauseOf_109 (by decide) ?_
        refine lv_bipush (v := 108) hx hb dX8_clauseOf_111 (by decide) ?_
        refine ro_l (D := D) (va_runS (As := [.int 119, .int 97, .int 108]) (rest := [.long wd]) ⟨hx, hb, hml, hown, hts⟩ ((n_code l D k st lo 119 97 108) H.size) (va_cwS 3 hts (gS tw_1142 tw_1143 tw_87 tw_1144) rfl rfl rfl (by decide +kernel) ⟨Nat.le_of_ble_eq_true rfl, Nat.le_of_ble_eq_true rfl⟩) (pS hS hAlo hlo hP hK hDL hZ [] (by decide) rfl) rfl rfl hl.1 rfl (lv_room (Nat.le_of_ble_eq_true rfl)) dX8_clauseOf_113 ⟨Nat.le_of_ble_eq_true rfl, Nat.le_of_ble_eq_true rfl⟩) hS hA hP (fun r_46 H locs hw_46 hP hS => ?_)
        try dsimp only at hw_46
        obtain rfl : r_46 = 16806 := hw_46.trans (by decide)
        refine lv_bipush (v := 107) hx hb dX8_clauseOf_116 (by decide) ?_
        refine ro_l (D := D) (va_runS (As := [.long 16806, .int 107]) (rest := [.long wd]) ⟨hx, hb, hml, hown, hts⟩ ((n_longer l D k st lo 16806 107) H.size) (va_cwS 2 hts (gS tw_1148 tw_1149 tw_87 tw_1150) rfl rfl rfl (by decide +kernel) ⟨Nat.le_of_ble_eq_true rfl, Nat.le_of_ble_eq_true rfl⟩) (pS hS hAlo hlo hP hK hDL hZ [] (by decide) rfl) rfl rfl hl.1 rfl (lv_room (Nat.le_of_ble_eq_true rfl)) dX8_clauseOf_118 ⟨Nat.le_of_ble_eq_true rfl, Nat.le_of_ble_eq_true rfl⟩) hS hA hP (fun r_47 H locs hw_47 hP hS => ?_)
        try dsimp only at hw_47
        obtain rfl : r_47 = 453773 := hw_47.trans (by decide)
        refine W.lcmp hx hb dX8_clauseOf_121 ?_
        refine lv_if_ne (tgt := 129) hx hb dX8_clauseOf_122 (by decide) (fun c_48 => ?_) (fun c_48 => ?_)
        · refine lv_aload_n hx hb dX8_clauseOf_129 rfl (lv_at hl 2 rfl) ?_
          refine va_get (D := D) (ci := 8) (v := .long wd) (C := RX8) (T := TX8) (N := 44) hx hb hts inX8 hown hK hP 0 rfl rfl 8 (by decide) (hts _ tw_981) (fun _ h9 => h9) rfl dX8_clauseOf_130 ?_
          refine lv_bipush (v := 100) hx hb dX8_clauseOf_133 (by decide) ?_
          refine lv_bipush (v := 114) hx hb dX8_clauseOf_135 (by decide) ?_
          refine lv_bipush (v := 105) hx hb dX8_clauseOf_137 (by decide) ?_
          refine ro_l (D := D) (va_runS (As := [.int 100, .int 114, .int 105]) (rest := [.long wd]) ⟨hx, hb, hml, hown, hts⟩ ((n_code l D k st lo 100 114 105) H.size) (va_cwS 3 hts (gS tw_1142 tw_1143 tw_87 tw_1144) rfl rfl rfl (by decide +kernel) ⟨Nat.le_of_ble_eq_true rfl, Nat.le_of_ble_eq_true rfl⟩) (pS hS hAlo hlo hP hK hDL hZ [] (by decide) rfl) rfl rfl hl.1 rfl (lv_room (Nat.le_of_ble_eq_true rfl)) dX8_clauseOf_139 ⟨Nat.le_of_ble_eq_true rfl, Nat.le_of_ble_eq_true rfl⟩) hS hA hP (fun r_49 H locs hw_49 hP hS => ?_)
          try dsimp only at hw_49
          obtain rfl : r_49 = 3411 := hw_49.trans (by decide)
          refine lv_bipush (v := 118) hx hb dX8_clauseOf_142 (by decide) ?_
          refine lv_bipush (v := 101) hx hb dX8_clauseOf_144 (by decide) ?_
          refine ro_l (D := D) (va_runS (As := [.long 3411, .int 118, .int 101]) (rest := [.long wd]) ⟨hx, hb, hml, hown, hts⟩ ((n_longest l D k st lo 3411 118 101) H.size) (va_cwS 3 hts (gS tw_1145 tw_1146 tw_87 tw_1147) rfl rfl rfl (by decide +kernel) ⟨Nat.le_of_ble_eq_true rfl, Nat.le_of_ble_eq_true rfl⟩) (pS hS hAlo hlo hP hK hDL hZ [] (by decide) rfl) rfl rfl hl.1 rfl (lv_room (Nat.le_of_ble_eq_true rfl)) dX8_clauseOf_146 ⟨Nat.le_of_ble_eq_true rfl, Nat.le_of_ble_eq_true rfl⟩) hS hA hP (fun r_50 H locs hw_50 hP hS => ?_)
          try dsimp only at hw_50
          obtain rfl : r_50 = 2487218 := hw_50.trans (by decide)
          refine W.lcmp hx hb dX8_clauseOf_149 ?_
          refine lv_if_ne (tgt := 157) hx hb dX8_clauseOf_150 (by decide) (fun c_51 => ?_) (fun c_51 => ?_)
          · refine lv_iconst (v := (-1)) hx hb dX8_clauseOf_157 (by decide) ?_
            exact J_19 (-1) _ _ _ ⟨(by first | (rw [if_neg c_42, if_neg c_45, if_neg c_48, if_neg c_51]; done) | (rw [if_neg c_42, if_neg c_45, if_neg c_48, if_neg c_51]; rfl) | (simp only [if_neg c_42, if_neg c_45, if_neg c_48, if_neg c_51]; done)), hP, hS, lv_sub hl [0, 1, 2] rfl⟩
          · refine lv_iconst (v := 2) hx hb dX8_clauseOf_153 (by decide) ?_
            refine lv_goto (tgt := 158) hx hb dX8_clauseOf_154 (by decide) ?_
            exact J_19 2 _ _ _ ⟨(by first | (rw [if_neg c_42, if_neg c_45, if_neg c_48, if_pos c_51]; done) | (rw [if_neg c_42, if_neg c_45, if_neg c_48, if_pos c_51]; rfl) | (simp only [if_neg c_42, if_neg c_45, if_neg c_48, if_pos c_51]; done)), hP, hS, lv_sub hl [0, 1, 2] rfl⟩
        · refine lv_iconst (v := 1) hx hb dX8_clauseOf_125 (by decide) ?_
          refine lv_goto (tgt := 158) hx hb dX8_clauseOf_126 (by decide) ?_
          exact J_19 1 _ _ _ ⟨(by first | (rw [if_neg c_42, if_neg c_45, if_pos c_48]; done) | (rw [if_neg c_42, if_neg c_45, if_pos c_48]; rfl) | (simp only [if_neg c_42, if_neg c_45, if_pos c_48]; done)), hP, hS, lv_sub hl [0, 1, 2] rfl⟩
      · refine lv_iconst (v := 0) hx hb dX8_clauseOf_99 (by decide) ?_
        refine lv_goto (tgt := 158) hx hb dX8_clauseOf_100 (by decide) ?_
        exact J_19 0 _ _ _ ⟨(by first | (rw [if_neg c_42, if_pos c_45]; done) | (rw [if_neg c_42, if_pos c_45]; rfl) | (simp only [if_neg c_42, if_pos c_45]; done)), hP, hS, lv_sub hl [0, 1, 2] rfl⟩
    · refine lv_bipush (v := 9) hx hb dX8_clauseOf_70 (by decide) ?_
      refine lv_goto (tgt := 158) hx hb dX8_clauseOf_72 (by decide) ?_
      exact J_19 9 _ _ _ ⟨(by first | (rw [if_pos c_42]; done) | (rw [if_pos c_42]; rfl) | (simp only [if_pos c_42]; done)), hP, hS, lv_sub hl [0, 1, 2] rfl⟩


theorem f_clq : True := trivial
theorem lg0 {x y : Int64} : lg_cmp x y = 0 ↔ x = y := ⟨lgc0, fun h => Classical.not_not.mp (fun q => lgn q h)⟩
theorem fM_clq (w : Int64) : fM_clause w = clQ w := by
  unfold fM_clause clQ
  simp only [lg0]
  by_cases h0 : w = 2432449
  · subst h0
    decide
  by_cases h1 : w = 774500
  · subst h1
    decide
  by_cases h2 : w = 453773
  · subst h2
    decide
  by_cases h3 : w = 2487218
  · subst h3
    decide
  by_cases h4 : w = 237470
  · subst h4
    decide
  by_cases h5 : w = 1473549098
  · subst h5
    decide
  by_cases h6 : w = 13991
  · subst h6
    decide
  by_cases h7 : w = 9876874
  · subst h7
    decide
  by_cases h8 : w = 101329007
  · subst h8
    decide
  simp only [h0, h1, h2, h3, h4, h5, h6, h7, h8, if_false]
  decide

theorem f_glueP7 : True := trivial
theorem nuS_in {b : Nat → Int32} {n a f p t q : Nat} {mi : Bool} {lo hi v : Int32} (h : nuS b n mi lo hi a f = (0, p, t, v, q)) : inB v lo hi ∧ f < t := by
  unfold nuS at h
  by_cases h1 : figA b n f = []
  · rw [if_pos h1] at h
    exact absurd (show (1 : Nat) = 0 from congrArg Prod.fst h) (by decide)
  · rw [if_neg h1] at h
    by_cases h2 : 3 < (figA b n f).length ∨ ¬ (lo ≤ vS mi (figA b n f) ∧ vS mi (figA b n f) ≤ hi)
    · rw [if_pos h2] at h
      exact absurd (show (2 : Nat) = 0 from congrArg Prod.fst h) (by decide)
    · rw [if_neg h2] at h
      have e1 : f + (figA b n f).length = t := congrArg (fun z => z.2.2.1) h
      have e2 : vS mi (figA b n f) = v := congrArg (fun z => z.2.2.2.1) h
      have h3 : (figA b n f).length ≠ 0 := fun q => h1 (List.eq_nil_of_length_eq_zero q)
      refine ⟨?_, by omega⟩
      rw [← e2]
      exact Classical.not_not.mp (fun q => h2 (.inr q))
theorem nuR_in {b : Nat → Int32} {n p t t1 q : Nat} {sg : Bool} {lo hi v : Int32} (h : nuR b n sg lo hi t = (0, p, t1, v, q)) : inB v lo hi ∧ t < t1 := by
  have h0 := skA_ge b n t
  unfold nuR at h
  by_cases h1 : sg = true ∧ byF b n (skA b n t) = 45
  · rw [if_pos h1] at h
    have h2 := nuS_in h
    exact ⟨h2.1, by omega⟩
  · rw [if_neg h1] at h
    have h2 := nuS_in h
    exact ⟨h2.1, by omega⟩
theorem doC_0 {b : Nat → Int32} {n rd t t1 t6 m : Nat} {v3 v5 : Int32} (h : doF b n rd t = (0, 0, t1, m, v3, v5)) (hs : smR b n t1 = (0, 0, t6)) : doC b n rd t = (0, 0, t6, m, v3, v5) := by
  simp [doC, h, hs]
theorem doC_s {b : Nat → Int32} {n rd t t1 t6 m p : Nat} {v3 v5 : Int32} (h : doF b n rd t = (0, 0, t1, m, v3, v5)) (hs : smR b n t1 = (1, p, t6)) : (doC b n rd t).1 = 1 ∧ (doC b n rd t).2.1 = p := by
  simp [doC, h, hs]
theorem doC_e {b : Nat → Int32} {n rd t e p : Nat} (h : (doF b n rd t).1 = e) (h1 : 1 ≤ e) (hp : (doF b n rd t).2.1 = p) : (doC b n rd t).1 = e ∧ (doC b n rd t).2.1 = p := by
  rcases hd : doF b n rd t with ⟨e2, p2, t2, m, v3, v5⟩
  rw [hd] at h hp
  have he2 : e2 = e := h
  have hp2 : p2 = p := hp
  have h0 : ¬ e = 0 := by omega
  simp [doC, hd, h0, he2, hp2]
theorem siC_0 {b : Nat → Int32} {n k t t1 t6 : Nat} {v v2 : Int32} (h : siF b n k t = (0, 0, t1, v, v2)) (hs : smR b n t1 = (0, 0, t6)) : siC b n k t = (0, 0, t6, v, v2) := by
  simp [siC, h, hs]
theorem siC_s {b : Nat → Int32} {n k t t1 t6 p : Nat} {v v2 : Int32} (h : siF b n k t = (0, 0, t1, v, v2)) (hs : smR b n t1 = (1, p, t6)) : (siC b n k t).1 = 1 ∧ (siC b n k t).2.1 = p := by
  simp [siC, h, hs]
theorem siC_e {b : Nat → Int32} {n k t e p : Nat} (h : (siF b n k t).1 = e) (h1 : 1 ≤ e) (hp : (siF b n k t).2.1 = p) : (siC b n k t).1 = e ∧ (siC b n k t).2.1 = p := by
  rcases hd : siF b n k t with ⟨e2, p2, t2, v, v2⟩
  rw [hd] at h hp
  have he2 : e2 = e := h
  have hp2 : p2 = p := hp
  have h0 : ¬ e = 0 := by omega
  simp [siC, hd, h0, he2, hp2]
theorem kwsp {L : List Int32} {r : Int32} (h : r = clM (kwN L)) : (kwN L = 10 ∧ r = -1) ∨ (kwN L = 0 ∧ r = 9) ∨ ∃ c : Nat, c ≤ 8 ∧ c ≠ 7 ∧ kwN L = c + 1 ∧ r = nI c := by
  have hk := kwN_le L
  unfold clM at h
  by_cases h1 : kwN L = 10
  · rw [if_pos h1] at h
    exact .inl ⟨h1, h⟩
  · rw [if_neg h1] at h
    by_cases h2 : kwN L = 0
    · rw [if_pos h2] at h
      exact .inr (.inl ⟨h2, h⟩)
    · rw [if_neg h2] at h
      exact .inr (.inr ⟨kwN L - 1, by omega, by omega, by omega, h⟩)
theorem stM_do {rd m : Nat} {fs ff fp ff2 fp2 : Nat → Int32} {to : Int32} {v3 v5 : Int32} (h1 : ∀ j, ff2 j = if rd ≤ j ∧ j < rd + m then v3 else ff j) (h2 : ∀ j, fp2 j = if rd ≤ j ∧ j < rd + m then v5 else fp j) : stM (rd + m) fs ff2 fp2 (to ||| ((1 : Int32) <<< (nI 9 &&& 31))) = (rd + m, gM fs, filF (clp rd ff) rd m v3, filF (clp rd fp) rd m v5, toM to) := by
  unfold stM
  rw [clp_fil h1, clp_fil h2, toM_or9]
theorem stM_si {rd k : Nat} {fs fs2 ff fp : Nat → Int32} {to : Int32} {v v2 : Int32} (hk : k ≤ 8) (h : fs2 = if k = 6 then upd (upd fs 6 v) 7 v2 else upd fs k v) : stM rd fs2 ff fp (to ||| ((1 : Int32) <<< (nI k &&& 31))) = (rd, (if k + 1 = 7 then upd (upd (gM fs) 7 v) 8 v2 else upd (gM fs) (k + 1) v), clp rd ff, clp rd fp, setB (toM to) (k + 1)) := by
  unfold stM
  rw [toM_or hk, h]
  by_cases h6 : k = 6
  · rw [if_pos h6, if_pos (by omega), gM_upd (by omega), gM_upd (by omega)]
  · rw [if_neg h6, if_neg (by omega), gM_upd hk]


set_option maxHeartbeats 4000000 in
set_option maxRecDepth 100000 in
theorem n_takeDoors (l : Launch) (D : va_G) (k : Nat → ClassId) (st : Nat → Nat) (lo : Nat) (a : Nat → Nat) (tx : Nat) (t0 : Nat) (we : Nat) (rd : Nat) (ru : Nat) (rw : Nat) (ca : Nat) (fp : Int32) (wd : Int64) (nu : Int32) (na : Int32) (ts : Int32) (df : Int32) (db : Int32) (sd : Int32) (ftext : Nat → Int32) (freadFree : Nat → Int32) (freadPrice : Nat → Int32) (ht : t0 ≤ tx) (htx : tx ≤ 240) (hrd : rd ≤ 24) : CWi l D k st lo yX8_takeDoors cX8_takeDoors 5 (some .int) ({ frames := 3, cells := 0, slots := 0, locals := 74 }) 0 0 [.ref (a 0)] [((a 0), .inr (8, (fX8 a (nI tx) fp (nI t0) wd (nI we) nu na (nI rd) ts (nI ru) (nI rw) (nI ca) df db sd))), (aI k (a 5) 240 ftext), (aI k (a 14) 24 freadFree), (aI k (a 15) 24 freadPrice)] (fun (r : Int32) (u : Nat × Int64 × Nat × Int32 × Int32 × Int32 × Nat × (Nat → Int32) × (Nat → Int32)) => match u with | (t0_, wd_, we_, fp_, nu_, na_, rd_, freadFree_, freadPrice_) => ((r = 0 ∧ ∃ (m : Nat) (v3 v5 : Int32), doF ftext tx rd t0 = (0, 0, t0_, m, v3, v5) ∧ rd_ = rd + m ∧ (∀ j, freadFree_ j = if rd ≤ j ∧ j < rd + m then v3 else freadFree j) ∧ (∀ j, freadPrice_ j = if rd ≤ j ∧ j < rd + m then v5 else freadPrice j) ∧ fp_ = fp) ∨ (∃ e pl : Nat, r = nI e ∧ 1 ≤ e ∧ e ≤ 4 ∧ (doF ftext tx rd t0).1 = e ∧ (doF ftext tx rd t0).2.1 = pl ∧ fp_ = nI pl)) ∧ t0 ≤ t0_ ∧ t0_ ≤ tx ∧ rd_ ≤ 24 ∧ (r = 0 → t0 < t0_)) (fun (u : Nat × Int64 × Nat × Int32 × Int32 × Int32 × Nat × (Nat → Int32) × (Nat → Int32)) => match u with | (t0_, wd_, we_, fp_, nu_, na_, rd_, freadFree_, freadPrice_) => [((a 0), .inr (8, (fX8 a (nI tx) fp_ (nI t0_) wd_ (nI we_) nu_ na_ (nI rd_) ts (nI ru) (nI rw) (nI ca) df db sd))), (aI k (a 5) 240 ftext), (aI k (a 14) 24 freadFree_), (aI k (a 15) 24 freadPrice_)]) := by
  intro sz
  refine Met.ofW (cc := cX8_takeDoors) (maxL := 5) (ret := (some .int)) (by decide) rfl ?_
  intro p e s m args below meth c s₁ B hml hv
  obtain ⟨rfl, hsz, hlo, hP, hK, hDL, hZ⟩ := hv
  have hx := B.exec
  have hb := B.bytes
  have hr := B.returns
  have hts := WS_ts B.pre
  have hown : s.vm.findClass RX8 = some m.cls := findClass_of_methodNamed B.named
  have hlocks := B.notSynchronized
  subst hsz
  have hD := hDL.self (sz := s.heap.size)
  have hAlo := A_lo hDL hlo
  generalize hAe : va_A [((a 0), .inr (8, (fX8 a (nI tx) fp (nI t0) wd (nI we) nu na (nI rd) ts (nI ru) (nI rw) (nI ca) df db sd))), (aI k (a 5) 240 ftext), (aI k (a 14) 24 freadFree), (aI k (a 15) 24 freadPrice)] s.heap.size = A at hD hAlo ⊢
  have hA : ∀ q : Nat, s.heap.size ≤ q → A q := fun q h => by rw [← hAe]; exact Or.inr h
  have hS : va_S A s.heap s.heap [] := va_S.rf
  have hl := lv_entry ([.ref (a 0)]) (n := 5) (Nat.le_of_ble_eq_true rfl)
  rw [lg_entry_eq]
  generalize (lg_sl ([.ref (a 0)]) ++ List.replicate (5 - (lg_sl ([.ref (a 0)])).length) Slot.unset).toArray = ls at hl ⊢
  have hl : lv_has ls 5 [(0, .ref (a 0))] := hl
  refine lv_aload_n hx hb dX8_takeDoors_0 rfl (lv_at hl 0 rfl) ?_
  refine lv_iconst (v := 1) hx hb dX8_takeDoors_1 (by decide) ?_
  refine lv_bipush (v := 24) hx hb dX8_takeDoors_2 (by decide) ?_
  refine rw_i (D := D) (wr := [(aI k (a 14) 24 freadFree), (aI k (a 15) 24 freadPrice)]) (va_runV (As := [.int 1, .int 24]) (rest := []) ⟨hx, hb, hml, hown, hts⟩ ((n_takeNumber l D k st lo a tx t0 we rd ru rw ca fp wd nu na ts df db sd ftext 1 24 (by first | assumption | omega) (by first | assumption | omega)) s.heap.size) (cwV 2 hts (gV tw_1159 tw_1161 tw_33 tw_87 tw_1162) rfl rfl rfl (by decide +kernel) ⟨Nat.le_of_ble_eq_true rfl, Nat.le_of_ble_eq_true rfl⟩) (pV hS hAlo hlo hP hK (va_Dlo hD hAlo) hZ [0, 1] (by decide) rfl (ci := 8) (q := (RX8, TX8, 44)) (q0 := 0) rfl rfl) rfl rfl hl.1 rfl (lv_room (Nat.le_of_ble_eq_true rfl)) dX8_takeDoors_4 ⟨Nat.le_of_ble_eq_true rfl, Nat.le_of_ble_eq_true rfl⟩) hS hA hP hD [0, 1] [2, 3] rfl rfl (by decide) (by decide) (fun r_1 u H locs hw_1 hP hD hS => ?_)
  obtain ⟨t0__1, nu__1, na__1, fp__1⟩ := u
  have hQ9 := pd_mk [(aI k (a 14) 24 freadFree), (aI k (a 15) 24 freadPrice), ((a 0), .inr (8, (fX8 a (nI tx) fp__1 (nI t0__1) wd (nI we) nu__1 na__1 (nI rd) ts (nI ru) (nI rw) (nI ca) df db sd))), (aI k (a 5) 240 ftext)] hP hD
  clear hP hD
  obtain ⟨hP, hD⟩ := hQ9
  try dsimp only at hw_1
  obtain ⟨nq_2, rfl, hq_2, hw_1⟩ := hw_1
  rcases hq_2 with ⟨rfl, hq_2, hfp_2⟩ | ⟨rfl, pl_2, hq_2, rfl⟩ | ⟨rfl, pl_2, hq_2, rfl⟩
  · replace hfp_2 := hfp_2.symm
    subst hfp_2
    refine lv_istore_n (lv' := [(1, .int 0), (0, .ref (a 0))]) hx hb dX8_takeDoors_7 rfl hl (by decide) rfl (fun ls hl => ?_)
    refine lv_aload_n hx hb dX8_takeDoors_8 rfl (lv_at hl 1 rfl) ?_
    refine va_get (D := D) (ci := 8) (v := .int nu__1) (C := RX8) (T := TX8) (N := 44) hx hb hts inX8 hown hK hP 2 rfl rfl 10 (by decide) (hts _ tw_983) (fun _ h9 => h9) rfl dX8_takeDoors_9 ?_
    refine lv_istore_n (lv' := [(2, .int nu__1), (1, .int 0), (0, .ref (a 0))]) hx hb dX8_takeDoors_12 rfl hl (by decide) rfl (fun ls hl => ?_)
    refine lv_iload_n hx hb dX8_takeDoors_13 rfl (lv_at hl 1 rfl) ?_
    refine lv_if_ne (tgt := 38) hx hb dX8_takeDoors_14 (by decide) (fun h => absurd (by decide) h) (fun _ => ?_)
    obtain ⟨nb_3, hnl_3, hnh_3, rfl⟩ := inB_ofc (a := 1) (b := 24) (by omega) (by omega) (nuR_in hq_2).1
    refine lv_aload_n hx hb dX8_takeDoors_17 rfl (lv_at hl 2 rfl) ?_
    refine va_get (D := D) (ci := 8) (v := .int (nI rd)) (C := RX8) (T := TX8) (N := 44) hx hb hts inX8 hown hK hP 2 rfl rfl 12 (by decide) (hts _ tw_985) (fun _ h9 => h9) rfl dX8_takeDoors_18 ?_
    refine lv_iload_n hx hb dX8_takeDoors_21 rfl (lv_at hl 0 rfl) ?_
    refine lv_iadd hx hb dX8_takeDoors_22 ?_
    refine lv_ti (y := (nI (rd + nb_3))) (nI_add rd nb_3) ?_
    refine lv_bipush (v := 24) hx hb dX8_takeDoors_23 (by decide) ?_
    refine lv_icmp_le (tgt := 38) hx hb dX8_takeDoors_25 (by decide) (fun c_4 => ?_) (fun c_4 => ?_)
    · have c_4 := (nI_leI (a := (rd + nb_3)) (b := 24) (by omega) (by omega)).mp c_4
      refine lv_iload_n hx hb dX8_takeDoors_38 rfl (lv_at hl 1 rfl) ?_
      refine lv_if_le (tgt := 46) hx hb dX8_takeDoors_39 (by decide) (fun _ => ?_) (fun h => absurd (by decide) h)
      refine lv_aload_n hx hb dX8_takeDoors_46 rfl (lv_at hl 2 rfl) ?_
      refine lv_bipush (v := 102) hx hb dX8_takeDoors_47 (by decide) ?_
      refine lv_bipush (v := 114) hx hb dX8_takeDoors_49 (by decide) ?_
      refine lv_bipush (v := 101) hx hb dX8_takeDoors_51 (by decide) ?_
      refine ro_l (D := D) (va_runS (As := [.int 102, .int 114, .int 101]) (rest := [.ref (a 0)]) ⟨hx, hb, hml, hown, hts⟩ ((n_code l D k st lo 102 114 101) H.size) (va_cwS 3 hts (gS tw_1142 tw_1143 tw_87 tw_1144) rfl rfl rfl (by decide +kernel) ⟨Nat.le_of_ble_eq_true rfl, Nat.le_of_ble_eq_true rfl⟩) (pS hS hAlo hlo hP hK (va_Dlo hD hAlo) hZ [] (by decide) rfl) rfl rfl hl.1 rfl (lv_room (Nat.le_of_ble_eq_true rfl)) dX8_takeDoors_53 ⟨Nat.le_of_ble_eq_true rfl, Nat.le_of_ble_eq_true rfl⟩) hS hA hP (fun r_5 H locs hw_5 hP hS => ?_)
      try dsimp only at hw_5
      obtain rfl : r_5 = 4865 := hw_5.trans (by decide)
      refine lv_bipush (v := 101) hx hb dX8_takeDoors_56 (by decide) ?_
      refine ro_l (D := D) (va_runS (As := [.long 4865, .int 101]) (rest := [.ref (a 0)]) ⟨hx, hb, hml, hown, hts⟩ ((n_longer l D k st lo 4865 101) H.size) (va_cwS 2 hts (gS tw_1148 tw_1149 tw_87 tw_1150) rfl rfl rfl (by decide +kernel) ⟨Nat.le_of_ble_eq_true rfl, Nat.le_of_ble_eq_true rfl⟩) (pS hS hAlo hlo hP hK (va_Dlo hD hAlo) hZ [] (by decide) rfl) rfl rfl hl.1 rfl (lv_room (Nat.le_of_ble_eq_true rfl)) dX8_takeDoors_58 ⟨Nat.le_of_ble_eq_true rfl, Nat.le_of_ble_eq_true rfl⟩) hS hA hP (fun r_6 H locs hw_6 hP hS => ?_)
      try dsimp only at hw_6
      obtain rfl : r_6 = 131360 := hw_6.trans (by decide)
      refine rw_i (D := D) (wr := [(aI k (a 14) 24 freadFree), (aI k (a 15) 24 freadPrice)]) (va_runV (As := [.long 131360]) (rest := []) ⟨hx, hb, hml, hown, hts⟩ ((n_needs l D k st lo a tx t0__1 we rd ru rw ca fp wd (nI nb_3) (nI nq_2) ts df db sd ftext 131360 10 (by first | assumption | omega) (by first | assumption | omega) (by decide) (by decide +kernel)) H.size) (cwV 1 hts (gV tw_1169 tw_1171 tw_35 tw_87 tw_1172) rfl rfl rfl (by decide +kernel) ⟨Nat.le_of_ble_eq_true rfl, Nat.le_of_ble_eq_true rfl⟩) (pV hS hAlo hlo hP hK (va_Dlo hD hAlo) hZ [2, 3] (by decide) rfl (ci := 8) (q := (RX8, TX8, 44)) (q0 := 0) rfl rfl) rfl rfl hl.1 rfl (lv_room (Nat.le_of_ble_eq_true rfl)) dX8_takeDoors_61 ⟨Nat.le_of_ble_eq_true rfl, Nat.le_of_ble_eq_true rfl⟩) hS hA hP hD [2, 3] [0, 1] rfl rfl (by decide) (by decide) (fun r_7 u H locs hw_7 hP hD hS => ?_)
      obtain ⟨t0__7, wd__7, we__7, fp__7⟩ := u
      have hQ9 := pd_mk [(aI k (a 14) 24 freadFree), (aI k (a 15) 24 freadPrice), ((a 0), .inr (8, (fX8 a (nI tx) fp__7 (nI t0__7) wd__7 (nI we__7) (nI nb_3) (nI nq_2) (nI rd) ts (nI ru) (nI rw) (nI ca) df db sd))), (aI k (a 5) 240 ftext)] hP hD
      clear hP hD
      obtain ⟨hP, hD⟩ := hQ9
      try dsimp only at hw_7
      rcases hw_7 with ⟨⟨rfl, hq_8, hfp_8⟩ | ⟨rfl, pl_8, hq_8, rfl⟩, hw_7⟩
      · replace hfp_8 := hfp_8.symm
        subst hfp_8
        refine lv_istore_n (lv' := [(1, .int 0), (2, .int (nI nb_3)), (0, .ref (a 0))]) hx hb dX8_takeDoors_64 rfl hl (by decide) rfl (fun ls hl => ?_)
        refine lv_iload_n hx hb dX8_takeDoors_65 rfl (lv_at hl 0 rfl) ?_
        refine lv_if_le (tgt := 73) hx hb dX8_takeDoors_66 (by decide) (fun _ => ?_) (fun h => absurd (by decide) h)
        refine lv_aload_n hx hb dX8_takeDoors_73 rfl (lv_at hl 2 rfl) ?_
        refine lv_iconst (v := 0) hx hb dX8_takeDoors_74 (by decide) ?_
        refine lv_bipush (v := 100) hx hb dX8_takeDoors_75 (by decide) ?_
        refine rw_i (D := D) (wr := [(aI k (a 14) 24 freadFree), (aI k (a 15) 24 freadPrice)]) (va_runV (As := [.int 0, .int 100]) (rest := []) ⟨hx, hb, hml, hown, hts⟩ ((n_takeNumber l D k st lo a tx t0__7 we__7 rd ru rw ca fp wd__7 (nI nb_3) (nI nq_2) ts df db sd ftext 0 100 (by first | assumption | omega) (by first | assumption | omega)) H.size) (cwV 2 hts (gV tw_1159 tw_1161 tw_33 tw_87 tw_1162) rfl rfl rfl (by decide +kernel) ⟨Nat.le_of_ble_eq_true rfl, Nat.le_of_ble_eq_true rfl⟩) (pV hS hAlo hlo hP hK (va_Dlo hD hAlo) hZ [2, 3] (by decide) rfl (ci := 8) (q := (RX8, TX8, 44)) (q0 := 0) rfl rfl) rfl rfl hl.1 rfl (lv_room (Nat.le_of_ble_eq_true rfl)) dX8_takeDoors_77 ⟨Nat.le_of_ble_eq_true rfl, Nat.le_of_ble_eq_true rfl⟩) hS hA hP hD [2, 3] [0, 1] rfl rfl (by decide) (by decide) (fun r_9 u H locs hw_9 hP hD hS => ?_)
        obtain ⟨t0__9, nu__9, na__9, fp__9⟩ := u
        have hQ9 := pd_mk [(aI k (a 14) 24 freadFree), (aI k (a 15) 24 freadPrice), ((a 0), .inr (8, (fX8 a (nI tx) fp__9 (nI t0__9) wd__7 (nI we__7) nu__9 na__9 (nI rd) ts (nI ru) (nI rw) (nI ca) df db sd))), (aI k (a 5) 240 ftext)] hP hD
        clear hP hD
        obtain ⟨hP, hD⟩ := hQ9
        try dsimp only at hw_9
        obtain ⟨nq_10, rfl, hq_10, hw_9⟩ := hw_9
        rcases hq_10 with ⟨rfl, hq_10, hfp_10⟩ | ⟨rfl, pl_10, hq_10, rfl⟩ | ⟨rfl, pl_10, hq_10, rfl⟩
        · replace hfp_10 := hfp_10.symm
          subst hfp_10
          refine lv_istore_n (lv' := [(1, .int 0), (2, .int (nI nb_3)), (0, .ref (a 0))]) hx hb dX8_takeDoors_80 rfl hl (by decide) rfl (fun ls hl => ?_)
          refine lv_aload_n hx hb dX8_takeDoors_81 rfl (lv_at hl 2 rfl) ?_
          refine va_get (D := D) (ci := 8) (v := .int nu__9) (C := RX8) (T := TX8) (N := 44) hx hb hts inX8 hown hK hP 2 rfl rfl 10 (by decide) (hts _ tw_983) (fun _ h9 => h9) rfl dX8_takeDoors_82 ?_
          refine lv_istore_n (lv' := [(3, .int nu__9), (1, .int 0), (2, .int (nI nb_3)), (0, .ref (a 0))]) hx hb dX8_takeDoors_85 rfl hl (by decide) rfl (fun ls hl => ?_)
          refine lv_iload_n hx hb dX8_takeDoors_86 rfl (lv_at hl 1 rfl) ?_
          refine lv_if_le (tgt := 94) hx hb dX8_takeDoors_87 (by decide) (fun _ => ?_) (fun h => absurd (by decide) h)
          refine lv_aload_n hx hb dX8_takeDoors_94 rfl (lv_at hl 3 rfl) ?_
          refine lv_bipush (v := 112) hx hb dX8_takeDoors_95 (by decide) ?_
          refine lv_bipush (v := 114) hx hb dX8_takeDoors_97 (by decide) ?_
          refine lv_bipush (v := 105) hx hb dX8_takeDoors_99 (by decide) ?_
          refine ro_l (D := D) (va_runS (As := [.int 112, .int 114, .int 105]) (rest := [.ref (a 0)]) ⟨hx, hb, hml, hown, hts⟩ ((n_code l D k st lo 112 114 105) H.size) (va_cwS 3 hts (gS tw_1142 tw_1143 tw_87 tw_1144) rfl rfl rfl (by decide +kernel) ⟨Nat.le_of_ble_eq_true rfl, Nat.le_of_ble_eq_true rfl⟩) (pS hS hAlo hlo hP hK (va_Dlo hD hAlo) hZ [] (by decide) rfl) rfl rfl hl.1 rfl (lv_room (Nat.le_of_ble_eq_true rfl)) dX8_takeDoors_101 ⟨Nat.le_of_ble_eq_true rfl, Nat.le_of_ble_eq_true rfl⟩) hS hA hP (fun r_11 H locs hw_11 hP hS => ?_)
          try dsimp only at hw_11
          obtain rfl : r_11 = 12159 := hw_11.trans (by decide)
          refine lv_bipush (v := 99) hx hb dX8_takeDoors_104 (by decide) ?_
          refine lv_bipush (v := 101) hx hb dX8_takeDoors_106 (by decide) ?_
          refine ro_l (D := D) (va_runS (As := [.long 12159, .int 99, .int 101]) (rest := [.ref (a 0)]) ⟨hx, hb, hml, hown, hts⟩ ((n_longest l D k st lo 12159 99 101) H.size) (va_cwS 3 hts (gS tw_1145 tw_1146 tw_87 tw_1147) rfl rfl rfl (by decide +kernel) ⟨Nat.le_of_ble_eq_true rfl, Nat.le_of_ble_eq_true rfl⟩) (pS hS hAlo hlo hP hK (va_Dlo hD hAlo) hZ [] (by decide) rfl) rfl rfl hl.1 rfl (lv_room (Nat.le_of_ble_eq_true rfl)) dX8_takeDoors_108 ⟨Nat.le_of_ble_eq_true rfl, Nat.le_of_ble_eq_true rfl⟩) hS hA hP (fun r_12 H locs hw_12 hP hS => ?_)
          try dsimp only at hw_12
          obtain rfl : r_12 = 8863997 := hw_12.trans (by decide)
          refine rw_i (D := D) (wr := [(aI k (a 14) 24 freadFree), (aI k (a 15) 24 freadPrice)]) (va_runV (As := [.long 8863997]) (rest := []) ⟨hx, hb, hml, hown, hts⟩ ((n_needs l D k st lo a tx t0__9 we__7 rd ru rw ca fp wd__7 nu__9 (nI nq_10) ts df db sd ftext 8863997 11 (by first | assumption | omega) (by first | assumption | omega) (by decide) (by decide +kernel)) H.size) (cwV 1 hts (gV tw_1169 tw_1171 tw_35 tw_87 tw_1172) rfl rfl rfl (by decide +kernel) ⟨Nat.le_of_ble_eq_true rfl, Nat.le_of_ble_eq_true rfl⟩) (pV hS hAlo hlo hP hK (va_Dlo hD hAlo) hZ [2, 3] (by decide) rfl (ci := 8) (q := (RX8, TX8, 44)) (q0 := 0) rfl rfl) rfl rfl hl.1 rfl (lv_room (Nat.le_of_ble_eq_true rfl)) dX8_takeDoors_111 ⟨Nat.le_of_ble_eq_true rfl, Nat.le_of_ble_eq_true rfl⟩) hS hA hP hD [2, 3] [0, 1] rfl rfl (by decide) (by decide) (fun r_13 u H locs hw_13 hP hD hS => ?_)
          obtain ⟨t0__13, wd__13, we__13, fp__13⟩ := u
          have hQ9 := pd_mk [(aI k (a 14) 24 freadFree), (aI k (a 15) 24 freadPrice), ((a 0), .inr (8, (fX8 a (nI tx) fp__13 (nI t0__13) wd__13 (nI we__13) nu__9 (nI nq_10) (nI rd) ts (nI ru) (nI rw) (nI ca) df db sd))), (aI k (a 5) 240 ftext)] hP hD
          clear hP hD
          obtain ⟨hP, hD⟩ := hQ9
          try dsimp only at hw_13
          rcases hw_13 with ⟨⟨rfl, hq_14, hfp_14⟩ | ⟨rfl, pl_14, hq_14, rfl⟩, hw_13⟩
          · replace hfp_14 := hfp_14.symm
            subst hfp_14
            refine lv_istore_n (lv' := [(1, .int 0), (3, .int nu__9), (2, .int (nI nb_3)), (0, .ref (a 0))]) hx hb dX8_takeDoors_114 rfl hl (by decide) rfl (fun ls hl => ?_)
            refine lv_iload_n hx hb dX8_takeDoors_115 rfl (lv_at hl 0 rfl) ?_
            refine lv_if_le (tgt := 123) hx hb dX8_takeDoors_116 (by decide) (fun _ => ?_) (fun h => absurd (by decide) h)
            refine lv_aload_n hx hb dX8_takeDoors_123 rfl (lv_at hl 3 rfl) ?_
            refine lv_iconst (v := 0) hx hb dX8_takeDoors_124 (by decide) ?_
            refine lv_sipush (v := 999) hx hb dX8_takeDoors_125 (by decide) ?_
            refine rw_i (D := D) (wr := [(aI k (a 14) 24 freadFree), (aI k (a 15) 24 freadPrice)]) (va_runV (As := [.int 0, .int 999]) (rest := []) ⟨hx, hb, hml, hown, hts⟩ ((n_takeNumber l D k st lo a tx t0__13 we__13 rd ru rw ca fp wd__13 nu__9 (nI nq_10) ts df db sd ftext 0 999 (by first | assumption | omega) (by first | assumption | omega)) H.size) (cwV 2 hts (gV tw_1159 tw_1161 tw_33 tw_87 tw_1162) rfl rfl rfl (by decide +kernel) ⟨Nat.le_of_ble_eq_true rfl, Nat.le_of_ble_eq_true rfl⟩) (pV hS hAlo hlo hP hK (va_Dlo hD hAlo) hZ [2, 3] (by decide) rfl (ci := 8) (q := (RX8, TX8, 44)) (q0 := 0) rfl rfl) rfl rfl hl.1 rfl (lv_room (Nat.le_of_ble_eq_true rfl)) dX8_takeDoors_128 ⟨Nat.le_of_ble_eq_true rfl, Nat.le_of_ble_eq_true rfl⟩) hS hA hP hD [2, 3] [0, 1] rfl rfl (by decide) (by decide) (fun r_15 u H locs hw_15 hP hD hS => ?_)
            obtain ⟨t0__15, nu__15, na__15, fp__15⟩ := u
            have hQ9 := pd_mk [(aI k (a 14) 24 freadFree), (aI k (a 15) 24 freadPrice), ((a 0), .inr (8, (fX8 a (nI tx) fp__15 (nI t0__15) wd__13 (nI we__13) nu__15 na__15 (nI rd) ts (nI ru) (nI rw) (nI ca) df db sd))), (aI k (a 5) 240 ftext)] hP hD
            clear hP hD
            obtain ⟨hP, hD⟩ := hQ9
            try dsimp only at hw_15
            obtain ⟨nq_16, rfl, hq_16, hw_15⟩ := hw_15
            rcases hq_16 with ⟨rfl, hq_16, hfp_16⟩ | ⟨rfl, pl_16, hq_16, rfl⟩ | ⟨rfl, pl_16, hq_16, rfl⟩
            · replace hfp_16 := hfp_16.symm
              subst hfp_16
              refine lv_istore_n (lv' := [(1, .int 0), (3, .int nu__9), (2, .int (nI nb_3)), (0, .ref (a 0))]) hx hb dX8_takeDoors_131 rfl hl (by decide) rfl (fun ls hl => ?_)
              refine lv_iconst (v := 0) hx hb dX8_takeDoors_132 (by decide) ?_
              refine lv_istore (lv' := [(4, .int 0), (1, .int 0), (3, .int nu__9), (2, .int (nI nb_3)), (0, .ref (a 0))]) hx hb dX8_takeDoors_133 hl (by decide) rfl (fun ls hl => ?_)
              refine W_loop (σ := Nat × Nat × (Nat → Int32) × (Nat → Int32)) (fun (n_ : Nat) (x_ : Nat × Nat × (Nat → Int32) × (Nat → Int32)) (H : Heap) (locs : List Loc) (ls : Array Slot) => match x_ with | (kk_17, rd2_17, fa_17, fb_17) => n_ = nb_3 - kk_17 ∧ (rd2_17 = rd + kk_17 ∧ kk_17 ≤ nb_3 ∧ (∀ j, fa_17 j = if rd ≤ j ∧ j < rd2_17 then nu__9 else freadFree j) ∧ (∀ j, fb_17 j = if rd ≤ j ∧ j < rd2_17 then nu__15 else freadPrice j)) ∧ va_P D classes [(aI k (a 14) 24 fa_17), (aI k (a 15) 24 fb_17), ((a 0), .inr (8, (fX8 a (nI tx) fp (nI t0__15) wd__13 (nI we__13) nu__15 (nI nq_16) (nI rd2_17) ts (nI ru) (nI rw) (nI ca) df db sd))), (aI k (a 5) 240 ftext)] H ∧ va_D A [(aI k (a 14) 24 fa_17), (aI k (a 15) 24 fb_17), ((a 0), .inr (8, (fX8 a (nI tx) fp (nI t0__15) wd__13 (nI we__13) nu__15 (nI nq_16) (nI rd2_17) ts (nI ru) (nI rw) (nI ca) df db sd))), (aI k (a 5) 240 ftext)] ∧ va_S A s.heap H locs ∧ lv_has ls 5 [(4, .int (nI kk_17)), (1, .int 0), (3, .int nu__9), (2, .int (nI nb_3)), (0, .ref (a 0))]) (fun n_17 x_17 H locs ls hI ih_17 => ?_) _ (0, rd, freadFree, freadPrice) ⟨rfl, ⟨by omega, by omega, fun j => by rw [if_neg (by omega)], fun j => by rw [if_neg (by omega)]⟩, hP, hD, hS, (lv_sub hl [0, 1, 2, 3, 4] rfl)⟩
              obtain ⟨kk_17, rd2_17, fa_17, fb_17⟩ := x_17
              obtain ⟨hm_17, hv_17, hP, hD, hS, hl⟩ := hI
              subst hm_17
              refine lv_iload hx hb dX8_takeDoors_135 (lv_at hl 0 rfl) ?_
              refine lv_iload_n hx hb dX8_takeDoors_137 rfl (lv_at hl 3 rfl) ?_
              refine lv_icmp_ge (tgt := 184) hx hb dX8_takeDoors_138 (by decide) (fun c_18 => ?_) (fun c_18 => ?_)
              · have c_18 := (nI_leI (a := nb_3) (b := kk_17) (by omega) (by omega)).mp c_18
                refine lv_iload_n hx hb dX8_takeDoors_184 rfl (lv_at hl 1 rfl) ?_
                have hg1_17 := (nuR_in hq_2).2
                obtain ⟨hP9, hD9⟩ := pd_sub [((a 0), .inr (8, (fX8 a (nI tx) fp (nI t0__15) wd__13 (nI we__13) nu__15 (nI nq_16) (nI rd2_17) ts (nI ru) (nI rw) (nI ca) df db sd))), (aI k (a 5) 240 ftext), (aI k (a 14) 24 fa_17), (aI k (a 15) 24 fb_17)] [2, 3, 0, 1] hP hD (by decide) rfl
                exact W.iret (v := 0) hx hb hr (fun t ht hW => ⟨⟨0, (t0__15, wd__13, we__13, fp, nu__15, (nI nq_16), rd2_17, fa_17, fb_17), rfl, ⟨.inl ⟨rfl, nb_3, nu__9, nu__15, by simp [doF, hq_2, hq_8, hq_10, hq_14, hq_16, nI_clamp (show nb_3 < 2 ^ 31 by omega), c_4, -List.getD_eq_getElem?_getD], by omega, (fun j => (hv_17.2.2.1 j).trans (by rw [show rd2_17 = rd + nb_3 by omega])), (fun j => (hv_17.2.2.2 j).trans (by rw [show rd2_17 = rd + nb_3 by omega])), rfl⟩, by omega, by omega, by omega, fun _ => by omega⟩, by rw [ht]; exact hP9, hD9⟩, hS.F ht⟩) hS.2.2 dX8_takeDoors_185
              · have c_18 : ¬ (nb_3 ≤ kk_17) := fun h => c_18 ((nI_leI (a := nb_3) (b := kk_17) (by omega) (by omega)).mpr h)
                refine lv_iload_n hx hb dX8_takeDoors_141 rfl (lv_at hl 1 rfl) ?_
                refine lv_if_ne (tgt := 184) hx hb dX8_takeDoors_142 (by decide) (fun h => absurd (by decide) h) (fun _ => ?_)
                refine lv_aload_n hx hb dX8_takeDoors_145 rfl (lv_at hl 4 rfl) ?_
                refine va_get (D := D) (ci := 8) (v := .ref (a 14)) (C := RX8) (T := TX8) (N := 44) hx hb hts inX8 hown hK hP 2 rfl rfl 13 (by decide) (hts _ tw_986) (fun _ h9 => h9) rfl dX8_takeDoors_146 ?_
                refine lv_aload_n hx hb dX8_takeDoors_149 rfl (lv_at hl 4 rfl) ?_
                refine va_get (D := D) (ci := 8) (v := .int (nI rd2_17)) (C := RX8) (T := TX8) (N := 44) hx hb hts inX8 hown hK hP 2 rfl rfl 12 (by decide) (hts _ tw_985) (fun _ h9 => h9) rfl dX8_takeDoors_150 ?_
                refine lv_iload_n hx hb dX8_takeDoors_153 rfl (lv_at hl 2 rfl) ?_
                refine va_iast hx hb hK hP hD hS 0 1 rfl rfl (vp_in_nI (by omega) (by decide)) dX8_takeDoors_154 (fun H locs hP hD hS => ?_)
                have hQ9 := pd_mk [(aI k (a 14) 24 (upd fa_17 (Int32.toNatClampNeg (nI rd2_17)) nu__9)), (aI k (a 15) 24 fb_17), ((a 0), .inr (8, (fX8 a (nI tx) fp (nI t0__15) wd__13 (nI we__13) nu__15 (nI nq_16) (nI rd2_17) ts (nI ru) (nI rw) (nI ca) df db sd))), (aI k (a 5) 240 ftext)] hP hD
                clear hP hD
                obtain ⟨hP, hD⟩ := hQ9
                rw [nI_clamp (n := rd2_17) (by omega)] at hP hD
                have hQ9 := pd_mk [(aI k (a 14) 24 (upd fa_17 rd2_17 nu__9)), (aI k (a 15) 24 fb_17), ((a 0), .inr (8, (fX8 a (nI tx) fp (nI t0__15) wd__13 (nI we__13) nu__15 (nI nq_16) (nI rd2_17) ts (nI ru) (nI rw) (nI ca) df db sd))), (aI k (a 5) 240 ftext)] hP hD
                clear hP hD
                obtain ⟨hP, hD⟩ := hQ9
                refine lv_aload_n hx hb dX8_takeDoors_155 rfl (lv_at hl 4 rfl) ?_
                refine va_get (D := D) (ci := 8) (v := .ref (a 15)) (C := RX8) (T := TX8) (N := 44) hx hb hts inX8 hown hK hP 2 rfl rfl 14 (by decide) (hts _ tw_987) (fun _ h9 => h9) rfl dX8_takeDoors_156 ?_
                refine lv_aload_n hx hb dX8_takeDoors_159 rfl (lv_at hl 4 rfl) ?_
                refine va_get (D := D) (ci := 8) (v := .int (nI rd2_17)) (C := RX8) (T := TX8) (N := 44) hx hb hts inX8 hown hK hP 2 rfl rfl 12 (by decide) (hts _ tw_985) (fun _ h9 => h9) rfl dX8_takeDoors_160 ?_
                refine lv_aload_n hx hb dX8_takeDoors_163 rfl (lv_at hl 4 rfl) ?_
                refine va_get (D := D) (ci := 8) (v := .int nu__15) (C := RX8) (T := TX8) (N := 44) hx hb hts inX8 hown hK hP 2 rfl rfl 10 (by decide) (hts _ tw_983) (fun _ h9 => h9) rfl dX8_takeDoors_164 ?_
                refine va_iast hx hb hK hP hD hS 1 1 rfl rfl (vp_in_nI (by omega) (by decide)) dX8_takeDoors_167 (fun H locs hP hD hS => ?_)
                have hQ9 := pd_mk [(aI k (a 14) 24 (upd fa_17 rd2_17 nu__9)), (aI k (a 15) 24 (upd fb_17 (Int32.toNatClampNeg (nI rd2_17)) nu__15)), ((a 0), .inr (8, (fX8 a (nI tx) fp (nI t0__15) wd__13 (nI we__13) nu__15 (nI nq_16) (nI rd2_17) ts (nI ru) (nI rw) (nI ca) df db sd))), (aI k (a 5) 240 ftext)] hP hD
                clear hP hD
                obtain ⟨hP, hD⟩ := hQ9
                rw [nI_clamp (n := rd2_17) (by omega)] at hP hD
                have hQ9 := pd_mk [(aI k (a 14) 24 (upd fa_17 rd2_17 nu__9)), (aI k (a 15) 24 (upd fb_17 rd2_17 nu__15)), ((a 0), .inr (8, (fX8 a (nI tx) fp (nI t0__15) wd__13 (nI we__13) nu__15 (nI nq_16) (nI rd2_17) ts (nI ru) (nI rw) (nI ca) df db sd))), (aI k (a 5) 240 ftext)] hP hD
                clear hP hD
                obtain ⟨hP, hD⟩ := hQ9
                refine lv_aload_n hx hb dX8_takeDoors_168 rfl (lv_at hl 4 rfl) ?_
                refine lv_dup hx hb dX8_takeDoors_169 rfl ?_
                refine va_get (D := D) (ci := 8) (v := .int (nI rd2_17)) (C := RX8) (T := TX8) (N := 44) hx hb hts inX8 hown hK hP 2 rfl rfl 12 (by decide) (hts _ tw_985) (fun _ h9 => h9) rfl dX8_takeDoors_170 ?_
                refine lv_iconst (v := 1) hx hb dX8_takeDoors_173 (by decide) ?_
                refine lv_iadd hx hb dX8_takeDoors_174 ?_
                refine lv_ti (y := (nI (rd2_17 + 1))) (nI_add rd2_17 1) ?_
                refine va_put (D := D) (ci := 8) (v := .int (nI (rd2_17 + 1))) (ty := .int) (C := RX8) (T := TX8) (N := 44) hx hb hts inX8 tyX8 tyX8_ok nmX8 hown hK hP hD hS 2 rfl rfl 12 (by decide) (hts _ tw_985) (fun _ h9 => h9) rfl (by decide +kernel) rfl rfl (Nat.le_of_ble_eq_true rfl) dX8_takeDoors_175 (fun H locs hP hD hS => ?_)
                have hQ9 := pd_mk [(aI k (a 14) 24 (upd fa_17 rd2_17 nu__9)), (aI k (a 15) 24 (upd fb_17 rd2_17 nu__15)), ((a 0), .inr (8, (fX8 a (nI tx) fp (nI t0__15) wd__13 (nI we__13) nu__15 (nI nq_16) (nI (rd2_17 + 1)) ts (nI ru) (nI rw) (nI ca) df db sd))), (aI k (a 5) 240 ftext)] hP hD
                clear hP hD
                obtain ⟨hP, hD⟩ := hQ9
                refine lv_iinc (v := (nI (kk_17 + 1))) (lv' := [(4, .int (nI (kk_17 + 1))), (1, .int 0), (3, .int nu__9), (2, .int (nI nb_3)), (0, .ref (a 0))]) hx hb dX8_takeDoors_178 hl (k := 0) rfl (nI_add kk_17 1) (by decide) rfl (fun ls hl => ?_)
                refine lv_goto (tgt := 135) hx hb dX8_takeDoors_181 (by decide) ?_
                exact ih_17 _ (kk_17 + 1, rd2_17 + 1, (upd fa_17 rd2_17 nu__9), (upd fb_17 rd2_17 nu__15)) _ _ _ (by omega) ⟨rfl, ⟨by omega, by omega, fill_step (by omega) hv_17.2.2.1, fill_step (by omega) hv_17.2.2.2⟩, hP, hD, hS, (lv_sub hl [0, 1, 2, 3, 4] rfl)⟩
            · refine lv_istore_n (lv' := [(1, .int 1), (3, .int nu__9), (2, .int (nI nb_3)), (0, .ref (a 0))]) hx hb dX8_takeDoors_131 rfl hl (by decide) rfl (fun ls hl => ?_)
              refine lv_iconst (v := 0) hx hb dX8_takeDoors_132 (by decide) ?_
              refine lv_istore (lv' := [(4, .int 0), (1, .int 1), (3, .int nu__9), (2, .int (nI nb_3)), (0, .ref (a 0))]) hx hb dX8_takeDoors_133 hl (by decide) rfl (fun ls hl => ?_)
              refine lv_iload hx hb dX8_takeDoors_135 (lv_at hl 0 rfl) ?_
              refine lv_iload_n hx hb dX8_takeDoors_137 rfl (lv_at hl 3 rfl) ?_
              refine lv_icmp_ge (tgt := 184) hx hb dX8_takeDoors_138 (by decide) (fun c_21 => ?_) (fun c_21 => ?_)
              · have c_21 := (nI_leI (a := nb_3) (b := 0) (by omega) (by omega)).mp c_21
                refine lv_iload_n hx hb dX8_takeDoors_184 rfl (lv_at hl 1 rfl) ?_
                obtain ⟨hP9, hD9⟩ := pd_sub [((a 0), .inr (8, (fX8 a (nI tx) (nI pl_16) (nI t0__15) wd__13 (nI we__13) nu__15 (nI nq_16) (nI rd) ts (nI ru) (nI rw) (nI ca) df db sd))), (aI k (a 5) 240 ftext), (aI k (a 14) 24 freadFree), (aI k (a 15) 24 freadPrice)] [2, 3, 0, 1] hP hD (by decide) rfl
                exact W.iret (v := 1) hx hb hr (fun t ht hW => ⟨⟨1, (t0__15, wd__13, we__13, (nI pl_16), nu__15, (nI nq_16), rd, freadFree, freadPrice), rfl, ⟨.inr ⟨1, pl_16, rfl, by decide, by decide, by simp [doF, hq_2, hq_8, hq_10, hq_14, hq_16, nI_clamp (show nb_3 < 2 ^ 31 by omega), c_4, -List.getD_eq_getElem?_getD], by simp [doF, hq_2, hq_8, hq_10, hq_14, hq_16, nI_clamp (show nb_3 < 2 ^ 31 by omega), c_4, -List.getD_eq_getElem?_getD], rfl⟩, by omega, by omega, by omega, fun h => absurd h (by decide)⟩, by rw [ht]; exact hP9, hD9⟩, hS.F ht⟩) hS.2.2 dX8_takeDoors_185
              · have c_21 : ¬ (nb_3 ≤ 0) := fun h => c_21 ((nI_leI (a := nb_3) (b := 0) (by omega) (by omega)).mpr h)
                refine lv_iload_n hx hb dX8_takeDoors_141 rfl (lv_at hl 1 rfl) ?_
                refine lv_if_ne (tgt := 184) hx hb dX8_takeDoors_142 (by decide) (fun _ => ?_) (fun h => absurd h (by decide))
                refine lv_iload_n hx hb dX8_takeDoors_184 rfl (lv_at hl 1 rfl) ?_
                obtain ⟨hP9, hD9⟩ := pd_sub [((a 0), .inr (8, (fX8 a (nI tx) (nI pl_16) (nI t0__15) wd__13 (nI we__13) nu__15 (nI nq_16) (nI rd) ts (nI ru) (nI rw) (nI ca) df db sd))), (aI k (a 5) 240 ftext), (aI k (a 14) 24 freadFree), (aI k (a 15) 24 freadPrice)] [2, 3, 0, 1] hP hD (by decide) rfl
                exact W.iret (v := 1) hx hb hr (fun t ht hW => ⟨⟨1, (t0__15, wd__13, we__13, (nI pl_16), nu__15, (nI nq_16), rd, freadFree, freadPrice), rfl, ⟨.inr ⟨1, pl_16, rfl, by decide, by decide, by simp [doF, hq_2, hq_8, hq_10, hq_14, hq_16, nI_clamp (show nb_3 < 2 ^ 31 by omega), c_4, -List.getD_eq_getElem?_getD], by simp [doF, hq_2, hq_8, hq_10, hq_14, hq_16, nI_clamp (show nb_3 < 2 ^ 31 by omega), c_4, -List.getD_eq_getElem?_getD], rfl⟩, by omega, by omega, by omega, fun h => absurd h (by decide)⟩, by rw [ht]; exact hP9, hD9⟩, hS.F ht⟩) hS.2.2 dX8_takeDoors_185
            · refine lv_istore_n (lv' := [(1, .int 2), (3, .int nu__9), (2, .int (nI nb_3)), (0, .ref (a 0))]) hx hb dX8_takeDoors_131 rfl hl (by decide) rfl (fun ls hl => ?_)
              refine lv_iconst (v := 0) hx hb dX8_takeDoors_132 (by decide) ?_
              refine lv_istore (lv' := [(4, .int 0), (1, .int 2), (3, .int nu__9), (2, .int (nI nb_3)), (0, .ref (a 0))]) hx hb dX8_takeDoors_133 hl (by decide) rfl (fun ls hl => ?_)
              refine lv_iload hx hb dX8_takeDoors_135 (lv_at hl 0 rfl) ?_
              refine lv_iload_n hx hb dX8_takeDoors_137 rfl (lv_at hl 3 rfl) ?_
              refine lv_icmp_ge (tgt := 184) hx hb dX8_takeDoors_138 (by decide) (fun c_22 => ?_) (fun c_22 => ?_)
              · have c_22 := (nI_leI (a := nb_3) (b := 0) (by omega) (by omega)).mp c_22
                refine lv_iload_n hx hb dX8_takeDoors_184 rfl (lv_at hl 1 rfl) ?_
                obtain ⟨hP9, hD9⟩ := pd_sub [((a 0), .inr (8, (fX8 a (nI tx) (nI pl_16) (nI t0__15) wd__13 (nI we__13) nu__15 (nI nq_16) (nI rd) ts (nI ru) (nI rw) (nI ca) df db sd))), (aI k (a 5) 240 ftext), (aI k (a 14) 24 freadFree), (aI k (a 15) 24 freadPrice)] [2, 3, 0, 1] hP hD (by decide) rfl
                exact W.iret (v := 2) hx hb hr (fun t ht hW => ⟨⟨2, (t0__15, wd__13, we__13, (nI pl_16), nu__15, (nI nq_16), rd, freadFree, freadPrice), rfl, ⟨.inr ⟨2, pl_16, rfl, by decide, by decide, by simp [doF, hq_2, hq_8, hq_10, hq_14, hq_16, nI_clamp (show nb_3 < 2 ^ 31 by omega), c_4, -List.getD_eq_getElem?_getD], by simp [doF, hq_2, hq_8, hq_10, hq_14, hq_16, nI_clamp (show nb_3 < 2 ^ 31 by omega), c_4, -List.getD_eq_getElem?_getD], rfl⟩, by omega, by omega, by omega, fun h => absurd h (by decide)⟩, by rw [ht]; exact hP9, hD9⟩, hS.F ht⟩) hS.2.2 dX8_takeDoors_185
              · have c_22 : ¬ (nb_3 ≤ 0) := fun h => c_22 ((nI_leI (a := nb_3) (b := 0) (by omega) (by omega)).mpr h)
                refine lv_iload_n hx hb dX8_takeDoors_141 rfl (lv_at hl 1 rfl) ?_
                refine lv_if_ne (tgt := 184) hx hb dX8_takeDoors_142 (by decide) (fun _ => ?_) (fun h => absurd h (by decide))
                refine lv_iload_n hx hb dX8_takeDoors_184 rfl (lv_at hl 1 rfl) ?_
                obtain ⟨hP9, hD9⟩ := pd_sub [((a 0), .inr (8, (fX8 a (nI tx) (nI pl_16) (nI t0__15) wd__13 (nI we__13) nu__15 (nI nq_16) (nI rd) ts (nI ru) (nI rw) (nI ca) df db sd))), (aI k (a 5) 240 ftext), (aI k (a 14) 24 freadFree), (aI k (a 15) 24 freadPrice)] [2, 3, 0, 1] hP hD (by decide) rfl
                exact W.iret (v := 2) hx hb hr (fun t ht hW => ⟨⟨2, (t0__15, wd__13, we__13, (nI pl_16), nu__15, (nI nq_16), rd, freadFree, freadPrice), rfl, ⟨.inr ⟨2, pl_16, rfl, by decide, by decide, by simp [doF, hq_2, hq_8, hq_10, hq_14, hq_16, nI_clamp (show nb_3 < 2 ^ 31 by omega), c_4, -List.getD_eq_getElem?_getD], by simp [doF, hq_2, hq_8, hq_10, hq_14, hq_16, nI_clamp (show nb_3 < 2 ^ 31 by omega), c_4, -List.getD_eq_getElem?_getD], rfl⟩, by omega, by omega, by omega, fun h => absurd h (by decide)⟩, by rw [ht]; exact hP9, hD9⟩, hS.F ht⟩) hS.2.2 dX8_takeDoors_185
          · refine lv_istore_n (lv' := [(1, .int 1), (3, .int nu__9), (2, .int (nI nb_3)), (0, .ref (a 0))]) hx hb dX8_takeDoors_114 rfl hl (by decide) rfl (fun ls hl => ?_)
            refine lv_iload_n hx hb dX8_takeDoors_115 rfl (lv_at hl 0 rfl) ?_
            refine lv_if_le (tgt := 123) hx hb dX8_takeDoors_116 (by decide) (fun h => absurd h (by decide)) (fun _ => ?_)
            refine lv_iload_n hx hb dX8_takeDoors_119 rfl (lv_at hl 0 rfl) ?_
            refine lv_goto (tgt := 131) hx hb dX8_takeDoors_120 (by decide) ?_
            refine lv_istore_n (lv' := [(1, .int 1), (3, .int nu__9), (2, .int (nI nb_3)), (0, .ref (a 0))]) hx hb dX8_takeDoors_131 rfl hl (by decide) rfl (fun ls hl => ?_)
            refine lv_iconst (v := 0) hx hb dX8_takeDoors_132 (by decide) ?_
            refine lv_istore (lv' := [(4, .int 0), (1, .int 1), (3, .int nu__9), (2, .int (nI nb_3)), (0, .ref (a 0))]) hx hb dX8_takeDoors_133 hl (by decide) rfl (fun ls hl => ?_)
            refine lv_iload hx hb dX8_takeDoors_135 (lv_at hl 0 rfl) ?_
            refine lv_iload_n hx hb dX8_takeDoors_137 rfl (lv_at hl 3 rfl) ?_
            refine lv_icmp_ge (tgt := 184) hx hb dX8_takeDoors_138 (by decide) (fun c_23 => ?_) (fun c_23 => ?_)
            · have c_23 := (nI_leI (a := nb_3) (b := 0) (by omega) (by omega)).mp c_23
              refine lv_iload_n hx hb dX8_takeDoors_184 rfl (lv_at hl 1 rfl) ?_
              obtain ⟨hP9, hD9⟩ := pd_sub [((a 0), .inr (8, (fX8 a (nI tx) (nI pl_14) (nI t0__13) wd__13 (nI we__13) nu__9 (nI nq_10) (nI rd) ts (nI ru) (nI rw) (nI ca) df db sd))), (aI k (a 5) 240 ftext), (aI k (a 14) 24 freadFree), (aI k (a 15) 24 freadPrice)] [2, 3, 0, 1] hP hD (by decide) rfl
              exact W.iret (v := 1) hx hb hr (fun t ht hW => ⟨⟨1, (t0__13, wd__13, we__13, (nI pl_14), nu__9, (nI nq_10), rd, freadFree, freadPrice), rfl, ⟨.inr ⟨1, pl_14, rfl, by decide, by decide, by simp [doF, hq_2, hq_8, hq_10, hq_14, nI_clamp (show nb_3 < 2 ^ 31 by omega), c_4, -List.getD_eq_getElem?_getD], by simp [doF, hq_2, hq_8, hq_10, hq_14, nI_clamp (show nb_3 < 2 ^ 31 by omega), c_4, -List.getD_eq_getElem?_getD], rfl⟩, by omega, by omega, by omega, fun h => absurd h (by decide)⟩, by rw [ht]; exact hP9, hD9⟩, hS.F ht⟩) hS.2.2 dX8_takeDoors_185
            · have c_23 : ¬ (nb_3 ≤ 0) := fun h => c_23 ((nI_leI (a := nb_3) (b := 0) (by omega) (by omega)).mpr h)
              refine lv_iload_n hx hb dX8_takeDoors_141 rfl (lv_at hl 1 rfl) ?_
              refine lv_if_ne (tgt := 184) hx hb dX8_takeDoors_142 (by decide) (fun _ => ?_) (fun h => absurd h (by decide))
              refine lv_iload_n hx hb dX8_takeDoors_184 rfl (lv_at hl 1 rfl) ?_
              obtain ⟨hP9, hD9⟩ := pd_sub [((a 0), .inr (8, (fX8 a (nI tx) (nI pl_14) (nI t0__13) wd__13 (nI we__13) nu__9 (nI nq_10) (nI rd) ts (nI ru) (nI rw) (nI ca) df db sd))), (aI k (a 5) 240 ftext), (aI k (a 14) 24 freadFree), (aI k (a 15) 24 freadPrice)] [2, 3, 0, 1] hP hD (by decide) rfl
              exact W.iret (v := 1) hx hb hr (fun t ht hW => ⟨⟨1, (t0__13, wd__13, we__13, (nI pl_14), nu__9, (nI nq_10), rd, freadFree, freadPrice), rfl, ⟨.inr ⟨1, pl_14, rfl, by decide, by decide, by simp [doF, hq_2, hq_8, hq_10, hq_14, nI_clamp (show nb_3 < 2 ^ 31 by omega), c_4, -List.getD_eq_getElem?_getD], by simp [doF, hq_2, hq_8, hq_10, hq_14, nI_clamp (show nb_3 < 2 ^ 31 by omega), c_4, -List.getD_eq_getElem?_getD], rfl⟩, by omega, by omega, by omega, fun h => absurd h (by decide)⟩, by rw [ht]; exact hP9, hD9⟩, hS.F ht⟩) hS.2.2 dX8_takeDoors_185
        · refine lv_istore_n (lv' := [(1, .int 1), (2, .int (nI nb_3)), (0, .ref (a 0))]) hx hb dX8_takeDoors_80 rfl hl (by decide) rfl (fun ls hl => ?_)
          refine lv_aload_n hx hb dX8_takeDoors_81 rfl (lv_at hl 2 rfl) ?_
          refine va_get (D := D) (ci := 8) (v := .int nu__9) (C := RX8) (T := TX8) (N := 44) hx hb hts inX8 hown hK hP 2 rfl rfl 10 (by decide) (hts _ tw_983) (fun _ h9 => h9) rfl dX8_takeDoors_82 ?_
          refine lv_istore_n (lv' := [(3, .int nu__9), (1, .int 1), (2, .int (nI nb_3)), (0, .ref (a 0))]) hx hb dX8_takeDoors_85 rfl hl (by decide) rfl (fun ls hl => ?_)
          refine lv_iload_n hx hb dX8_takeDoors_86 rfl (lv_at hl 1 rfl) ?_
          refine lv_if_le (tgt := 94) hx hb dX8_takeDoors_87 (by decide) (fun h => absurd h (by decide)) (fun _ => ?_)
          refine lv_iload_n hx hb dX8_takeDoors_90 rfl (lv_at hl 1 rfl) ?_
          refine lv_goto (tgt := 114) hx hb dX8_takeDoors_91 (by decide) ?_
          refine lv_istore_n (lv' := [(1, .int 1), (3, .int nu__9), (2, .int (nI nb_3)), (0, .ref (a 0))]) hx hb dX8_takeDoors_114 rfl hl (by decide) rfl (fun ls hl => ?_)
          refine lv_iload_n hx hb dX8_takeDoors_115 rfl (lv_at hl 0 rfl) ?_
          refine lv_if_le (tgt := 123) hx hb dX8_takeDoors_116 (by decide) (fun h => absurd h (by decide)) (fun _ => ?_)
          refine lv_iload_n hx hb dX8_takeDoors_119 rfl (lv_at hl 0 rfl) ?_
          refine lv_goto (tgt := 131) hx hb dX8_takeDoors_120 (by decide) ?_
          refine lv_istore_n (lv' := [(1, .int 1), (3, .int nu__9), (2, .int (nI nb_3)), (0, .ref (a 0))]) hx hb dX8_takeDoors_131 rfl hl (by decide) rfl (fun ls hl => ?_)
          refine lv_iconst (v := 0) hx hb dX8_takeDoors_132 (by decide) ?_
          refine lv_istore (lv' := [(4, .int 0), (1, .int 1), (3, .int nu__9), (2, .int (nI nb_3)), (0, .ref (a 0))]) hx hb dX8_takeDoors_133 hl (by decide) rfl (fun ls hl => ?_)
          refine lv_iload hx hb dX8_takeDoors_135 (lv_at hl 0 rfl) ?_
          refine lv_iload_n hx hb dX8_takeDoors_137 rfl (lv_at hl 3 rfl) ?_
          refine lv_icmp_ge (tgt := 184) hx hb dX8_takeDoors_138 (by decide) (fun c_24 => ?_) (fun c_24 => ?_)
          · have c_24 := (nI_leI (a := nb_3) (b := 0) (by omega) (by omega)).mp c_24
            refine lv_iload_n hx hb dX8_takeDoors_184 rfl (lv_at hl 1 rfl) ?_
            obtain ⟨hP9, hD9⟩ := pd_sub [((a 0), .inr (8, (fX8 a (nI tx) (nI pl_10) (nI t0__9) wd__7 (nI we__7) nu__9 (nI nq_10) (nI rd) ts (nI ru) (nI rw) (nI ca) df db sd))), (aI k (a 5) 240 ftext), (aI k (a 14) 24 freadFree), (aI k (a 15) 24 freadPrice)] [2, 3, 0, 1] hP hD (by decide) rfl
            exact W.iret (v := 1) hx hb hr (fun t ht hW => ⟨⟨1, (t0__9, wd__7, we__7, (nI pl_10), nu__9, (nI nq_10), rd, freadFree, freadPrice), rfl, ⟨.inr ⟨1, pl_10, rfl, by decide, by decide, by simp [doF, hq_2, hq_8, hq_10, nI_clamp (show nb_3 < 2 ^ 31 by omega), c_4, -List.getD_eq_getElem?_getD], by simp [doF, hq_2, hq_8, hq_10, nI_clamp (show nb_3 < 2 ^ 31 by omega), c_4, -List.getD_eq_getElem?_getD], rfl⟩, by omega, by omega, by omega, fun h => absurd h (by decide)⟩, by rw [ht]; exact hP9, hD9⟩, hS.F ht⟩) hS.2.2 dX8_takeDoors_185
          · have c_24 : ¬ (nb_3 ≤ 0) := fun h => c_24 ((nI_leI (a := nb_3) (b := 0) (by omega) (by omega)).mpr h)
            refine lv_iload_n hx hb dX8_takeDoors_141 rfl (lv_at hl 1 rfl) ?_
            refine lv_if_ne (tgt := 184) hx hb dX8_takeDoors_142 (by decide) (fun _ => ?_) (fun h => absurd h (by decide))
            refine lv_iload_n hx hb dX8_takeDoors_184 rfl (lv_at hl 1 rfl) ?_
            obtain ⟨hP9, hD9⟩ := pd_sub [((a 0), .inr (8, (fX8 a (nI tx) (nI pl_10) (nI t0__9) wd__7 (nI we__7) nu__9 (nI nq_10) (nI rd) ts (nI ru) (nI rw) (nI ca) df db sd))), (aI k (a 5) 240 ftext), (aI k (a 14) 24 freadFree), (aI k (a 15) 24 freadPrice)] [2, 3, 0, 1] hP hD (by decide) rfl
            exact W.iret (v := 1) hx hb hr (fun t ht hW => ⟨⟨1, (t0__9, wd__7, we__7, (nI pl_10), nu__9, (nI nq_10), rd, freadFree, freadPrice), rfl, ⟨.inr ⟨1, pl_10, rfl, by decide, by decide, by simp [doF, hq_2, hq_8, hq_10, nI_clamp (show nb_3 < 2 ^ 31 by omega), c_4, -List.getD_eq_getElem?_getD], by simp [doF, hq_2, hq_8, hq_10, nI_clamp (show nb_3 < 2 ^ 31 by omega), c_4, -List.getD_eq_getElem?_getD], rfl⟩, by omega, by omega, by omega, fun h => absurd h (by decide)⟩, by rw [ht]; exact hP9, hD9⟩, hS.F ht⟩) hS.2.2 dX8_takeDoors_185
        · refine lv_istore_n (lv' := [(1, .int 2), (2, .int (nI nb_3)), (0, .ref (a 0))]) hx hb dX8_takeDoors_80 rfl hl (by decide) rfl (fun ls hl => ?_)
          refine lv_aload_n hx hb dX8_takeDoors_81 rfl (lv_at hl 2 rfl) ?_
          refine va_get (D := D) (ci := 8) (v := .int nu__9) (C := RX8) (T := TX8) (N := 44) hx hb hts inX8 hown hK hP 2 rfl rfl 10 (by decide) (hts _ tw_983) (fun _ h9 => h9) rfl dX8_takeDoors_82 ?_
          refine lv_istore_n (lv' := [(3, .int nu__9), (1, .int 2), (2, .int (nI nb_3)), (0, .ref (a 0))]) hx hb dX8_takeDoors_85 rfl hl (by decide) rfl (fun ls hl => ?_)
          refine lv_iload_n hx hb dX8_takeDoors_86 rfl (lv_at hl 1 rfl) ?_
          refine lv_if_le (tgt := 94) hx hb dX8_takeDoors_87 (by decide) (fun h => absurd h (by decide)) (fun _ => ?_)
          refine lv_iload_n hx hb dX8_takeDoors_90 rfl (lv_at hl 1 rfl) ?_
          refine lv_goto (tgt := 114) hx hb dX8_takeDoors_91 (by decide) ?_
          refine lv_istore_n (lv' := [(1, .int 2), (3, .int nu__9), (2, .int (nI nb_3)), (0, .ref (a 0))]) hx hb dX8_takeDoors_114 rfl hl (by decide) rfl (fun ls hl => ?_)
          refine lv_iload_n hx hb dX8_takeDoors_115 rfl (lv_at hl 0 rfl) ?_
          refine lv_if_le (tgt := 123) hx hb dX8_takeDoors_116 (by decide) (fun h => absurd h (by decide)) (fun _ => ?_)
          refine lv_iload_n hx hb dX8_takeDoors_119 rfl (lv_at hl 0 rfl) ?_
          refine lv_goto (tgt := 131) hx hb dX8_takeDoors_120 (by decide) ?_
          refine lv_istore_n (lv' := [(1, .int 2), (3, .int nu__9), (2, .int (nI nb_3)), (0, .ref (a 0))]) hx hb dX8_takeDoors_131 rfl hl (by decide) rfl (fun ls hl => ?_)
          refine lv_iconst (v := 0) hx hb dX8_takeDoors_132 (by decide) ?_
          refine lv_istore (lv' := [(4, .int 0), (1, .int 2), (3, .int nu__9), (2, .int (nI nb_3)), (0, .ref (a 0))]) hx hb dX8_takeDoors_133 hl (by decide) rfl (fun ls hl => ?_)
          refine lv_iload hx hb dX8_takeDoors_135 (lv_at hl 0 rfl) ?_
          refine lv_iload_n hx hb dX8_takeDoors_137 rfl (lv_at hl 3 rfl) ?_
          refine lv_icmp_ge (tgt := 184) hx hb dX8_takeDoors_138 (by decide) (fun c_25 => ?_) (fun c_25 => ?_)
          · have c_25 := (nI_leI (a := nb_3) (b := 0) (by omega) (by omega)).mp c_25
            refine lv_iload_n hx hb dX8_takeDoors_184 rfl (lv_at hl 1 rfl) ?_
            obtain ⟨hP9, hD9⟩ := pd_sub [((a 0), .inr (8, (fX8 a (nI tx) (nI pl_10) (nI t0__9) wd__7 (nI we__7) nu__9 (nI nq_10) (nI rd) ts (nI ru) (nI rw) (nI ca) df db sd))), (aI k (a 5) 240 ftext), (aI k (a 14) 24 freadFree), (aI k (a 15) 24 freadPrice)] [2, 3, 0, 1] hP hD (by decide) rfl
            exact W.iret (v := 2) hx hb hr (fun t ht hW => ⟨⟨2, (t0__9, wd__7, we__7, (nI pl_10), nu__9, (nI nq_10), rd, freadFree, freadPrice), rfl, ⟨.inr ⟨2, pl_10, rfl, by decide, by decide, by simp [doF, hq_2, hq_8, hq_10, nI_clamp (show nb_3 < 2 ^ 31 by omega), c_4, -List.getD_eq_getElem?_getD], by simp [doF, hq_2, hq_8, hq_10, nI_clamp (show nb_3 < 2 ^ 31 by omega), c_4, -List.getD_eq_getElem?_getD], rfl⟩, by omega, by omega, by omega, fun h => absurd h (by decide)⟩, by rw [ht]; exact hP9, hD9⟩, hS.F ht⟩) hS.2.2 dX8_takeDoors_185
          · have c_25 : ¬ (nb_3 ≤ 0) := fun h => c_25 ((nI_leI (a := nb_3) (b := 0) (by omega) (by omega)).mpr h)
            refine lv_iload_n hx hb dX8_takeDoors_141 rfl (lv_at hl 1 rfl) ?_
            refine lv_if_ne (tgt := 184) hx hb dX8_takeDoors_142 (by decide) (fun _ => ?_) (fun h => absurd h (by decide))
            refine lv_iload_n hx hb dX8_takeDoors_184 rfl (lv_at hl 1 rfl) ?_
            obtain ⟨hP9, hD9⟩ := pd_sub [((a 0), .inr (8, (fX8 a (nI tx) (nI pl_10) (nI t0__9) wd__7 (nI we__7) nu__9 (nI nq_10) (nI rd) ts (nI ru) (nI rw) (nI ca) df db sd))), (aI k (a 5) 240 ftext), (aI k (a 14) 24 freadFree), (aI k (a 15) 24 freadPrice)] [2, 3, 0, 1] hP hD (by decide) rfl
            exact W.iret (v := 2) hx hb hr (fun t ht hW => ⟨⟨2, (t0__9, wd__7, we__7, (nI pl_10), nu__9, (nI nq_10), rd, freadFree, freadPrice), rfl, ⟨.inr ⟨2, pl_10, rfl, by decide, by decide, by simp [doF, hq_2, hq_8, hq_10, nI_clamp (show nb_3 < 2 ^ 31 by omega), c_4, -List.getD_eq_getElem?_getD], by simp [doF, hq_2, hq_8, hq_10, nI_clamp (show nb_3 < 2 ^ 31 by omega), c_4, -List.getD_eq_getElem?_getD], rfl⟩, by omega, by omega, by omega, fun h => absurd h (by decide)⟩, by rw [ht]; exact hP9, hD9⟩, hS.F ht⟩) hS.2.2 dX8_takeDoors_185
      · refine lv_istore_n (lv' := [(1, .int 1), (2, .int (nI nb_3)), (0, .ref (a 0))]) hx hb dX8_takeDoors_64 rfl hl (by decide) rfl (fun ls hl => ?_)
        refine lv_iload_n hx hb dX8_takeDoors_65 rfl (lv_at hl 0 rfl) ?_
        refine lv_if_le (tgt := 73) hx hb dX8_takeDoors_66 (by decide) (fun h => absurd h (by decide)) (fun _ => ?_)
        refine lv_iload_n hx hb dX8_takeDoors_69 rfl (lv_at hl 0 rfl) ?_
        refine lv_goto (tgt := 80) hx hb dX8_takeDoors_70 (by decide) ?_
        refine lv_istore_n (lv' := [(1, .int 1), (2, .int (nI nb_3)), (0, .ref (a 0))]) hx hb dX8_takeDoors_80 rfl hl (by decide) rfl (fun ls hl => ?_)
        refine lv_aload_n hx hb dX8_takeDoors_81 rfl (lv_at hl 2 rfl) ?_
        refine va_get (D := D) (ci := 8) (v := .int (nI nb_3)) (C := RX8) (T := TX8) (N := 44) hx hb hts inX8 hown hK hP 2 rfl rfl 10 (by decide) (hts _ tw_983) (fun _ h9 => h9) rfl dX8_takeDoors_82 ?_
        refine lv_istore_n (lv' := [(3, .int (nI nb_3)), (1, .int 1), (2, .int (nI nb_3)), (0, .ref (a 0))]) hx hb dX8_takeDoors_85 rfl hl (by decide) rfl (fun ls hl => ?_)
        refine lv_iload_n hx hb dX8_takeDoors_86 rfl (lv_at hl 1 rfl) ?_
        refine lv_if_le (tgt := 94) hx hb dX8_takeDoors_87 (by decide) (fun h => absurd h (by decide)) (fun _ => ?_)
        refine lv_iload_n hx hb dX8_takeDoors_90 rfl (lv_at hl 1 rfl) ?_
        refine lv_goto (tgt := 114) hx hb dX8_takeDoors_91 (by decide) ?_
        refine lv_istore_n (lv' := [(1, .int 1), (3, .int (nI nb_3)), (2, .int (nI nb_3)), (0, .ref (a 0))]) hx hb dX8_takeDoors_114 rfl hl (by decide) rfl (fun ls hl => ?_)
        refine lv_iload_n hx hb dX8_takeDoors_115 rfl (lv_at hl 0 rfl) ?_
        refine lv_if_le (tgt := 123) hx hb dX8_takeDoors_116 (by decide) (fun h => absurd h (by decide)) (fun _ => ?_)
        refine lv_iload_n hx hb dX8_takeDoors_119 rfl (lv_at hl 0 rfl) ?_
        refine lv_goto (tgt := 131) hx hb dX8_takeDoors_120 (by decide) ?_
        refine lv_istore_n (lv' := [(1, .int 1), (3, .int (nI nb_3)), (2, .int (nI nb_3)), (0, .ref (a 0))]) hx hb dX8_takeDoors_131 rfl hl (by decide) rfl (fun ls hl => ?_)
        refine lv_iconst (v := 0) hx hb dX8_takeDoors_132 (by decide) ?_
        refine lv_istore (lv' := [(4, .int 0), (1, .int 1), (3, .int (nI nb_3)), (2, .int (nI nb_3)), (0, .ref (a 0))]) hx hb dX8_takeDoors_133 hl (by decide) rfl (fun ls hl => ?_)
        refine lv_iload hx hb dX8_takeDoors_135 (lv_at hl 0 rfl) ?_
        refine lv_iload_n hx hb dX8_takeDoors_137 rfl (lv_at hl 3 rfl) ?_
        refine lv_icmp_ge (tgt := 184) hx hb dX8_takeDoors_138 (by decide) (fun c_26 => ?_) (fun c_26 => ?_)
        · have c_26 := (nI_leI (a := nb_3) (b := 0) (by omega) (by omega)).mp c_26
          refine lv_iload_n hx hb dX8_takeDoors_184 rfl (lv_at hl 1 rfl) ?_
          obtain ⟨hP9, hD9⟩ := pd_sub [((a 0), .inr (8, (fX8 a (nI tx) (nI pl_8) (nI t0__7) wd__7 (nI we__7) (nI nb_3) (nI nq_2) (nI rd) ts (nI ru) (nI rw) (nI ca) df db sd))), (aI k (a 5) 240 ftext), (aI k (a 14) 24 freadFree), (aI k (a 15) 24 freadPrice)] [2, 3, 0, 1] hP hD (by decide) rfl
          exact W.iret (v := 1) hx hb hr (fun t ht hW => ⟨⟨1, (t0__7, wd__7, we__7, (nI pl_8), (nI nb_3), (nI nq_2), rd, freadFree, freadPrice), rfl, ⟨.inr ⟨1, pl_8, rfl, by decide, by decide, by simp [doF, hq_2, hq_8, nI_clamp (show nb_3 < 2 ^ 31 by omega), c_4, -List.getD_eq_getElem?_getD], by simp [doF, hq_2, hq_8, nI_clamp (show nb_3 < 2 ^ 31 by omega), c_4, -List.getD_eq_getElem?_getD], rfl⟩, by omega, by omega, by omega, fun h => absurd h (by decide)⟩, by rw [ht]; exact hP9, hD9⟩, hS.F ht⟩) hS.2.2 dX8_takeDoors_185
        · have c_26 : ¬ (nb_3 ≤ 0) := fun h => c_26 ((nI_leI (a := nb_3) (b := 0) (by omega) (by omega)).mpr h)
          refine lv_iload_n hx hb dX8_takeDoors_141 rfl (lv_at hl 1 rfl) ?_
          refine lv_if_ne (tgt := 184) hx hb dX8_takeDoors_142 (by decide) (fun _ => ?_) (fun h => absurd h (by decide))
          refine lv_iload_n hx hb dX8_takeDoors_184 rfl (lv_at hl 1 rfl) ?_
          obtain ⟨hP9, hD9⟩ := pd_sub [((a 0), .inr (8, (fX8 a (nI tx) (nI pl_8) (nI t0__7) wd__7 (nI we__7) (nI nb_3) (nI nq_2) (nI rd) ts (nI ru) (nI rw) (nI ca) df db sd))), (aI k (a 5) 240 ftext), (aI k (a 14) 24 freadFree), (aI k (a 15) 24 freadPrice)] [2, 3, 0, 1] hP hD (by decide) rfl
          exact W.iret (v := 1) hx hb hr (fun t ht hW => ⟨⟨1, (t0__7, wd__7, we__7, (nI pl_8), (nI nb_3), (nI nq_2), rd, freadFree, freadPrice), rfl, ⟨.inr ⟨1, pl_8, rfl, by decide, by decide, by simp [doF, hq_2, hq_8, nI_clamp (show nb_3 < 2 ^ 31 by omega), c_4, -List.getD_eq_getElem?_getD], by simp [doF, hq_2, hq_8, nI_clamp (show nb_3 < 2 ^ 31 by omega), c_4, -List.getD_eq_getElem?_getD], rfl⟩, by omega, by omega, by omega, fun h => absurd h (by decide)⟩, by rw [ht]; exact hP9, hD9⟩, hS.F ht⟩) hS.2.2 dX8_takeDoors_185
    · have c_4 : ¬ ((rd + nb_3) ≤ 24) := fun h => c_4 ((nI_leI (a := (rd + nb_3)) (b := 24) (by omega) (by omega)).mpr h)
      refine lv_aload_n hx hb dX8_takeDoors_28 rfl (lv_at hl 2 rfl) ?_
      refine lv_iconst (v := 4) hx hb dX8_takeDoors_29 (by decide) ?_
      refine lv_aload_n hx hb dX8_takeDoors_30 rfl (lv_at hl 2 rfl) ?_
      refine va_get (D := D) (ci := 8) (v := .int (nI nq_2)) (C := RX8) (T := TX8) (N := 44) hx hb hts inX8 hown hK hP 2 rfl rfl 11 (by decide) (hts _ tw_984) (fun _ h9 => h9) rfl dX8_takeDoors_31 ?_
      refine rw_i (D := D) (wr := [(aI k (a 14) 24 freadFree), (aI k (a 15) 24 freadPrice), (aI k (a 5) 240 ftext)]) (va_runV (As := [.int 4, .int (nI nq_2)]) (rest := []) ⟨hx, hb, hml, hown, hts⟩ ((n_fails l D k st lo a tx t0__1 we rd ru rw ca fp wd (nI nb_3) (nI nq_2) ts df db sd 4 (nI nq_2)) H.size) (cwV 2 hts (gV tw_1151 tw_1153 tw_31 tw_87 tw_1154) rfl rfl rfl (by decide +kernel) ⟨Nat.le_of_ble_eq_true rfl, Nat.le_of_ble_eq_true rfl⟩) (pV hS hAlo hlo hP hK (va_Dlo hD hAlo) hZ [2] (by decide) rfl (ci := 8) (q := (RX8, TX8, 44)) (q0 := 0) rfl rfl) rfl rfl hl.1 rfl (lv_room (Nat.le_of_ble_eq_true rfl)) dX8_takeDoors_34 ⟨Nat.le_of_ble_eq_true rfl, Nat.le_of_ble_eq_true rfl⟩) hS hA hP hD [2] [0, 1, 3] rfl rfl (by decide) (by decide) (fun r_27 u H locs hw_27 hP hD hS => ?_)
      obtain ⟨fp__27, rfl⟩ : ∃ z, z = u := ⟨_, rfl⟩
      have hQ9 := pd_mk [(aI k (a 14) 24 freadFree), (aI k (a 15) 24 freadPrice), (aI k (a 5) 240 ftext), ((a 0), .inr (8, (fX8 a (nI tx) fp__27 (nI t0__1) wd (nI we) (nI nb_3) (nI nq_2) (nI rd) ts (nI ru) (nI rw) (nI ca) df db sd)))] hP hD
      clear hP hD
      obtain ⟨hP, hD⟩ := hQ9
      try dsimp only at hw_27
      obtain ⟨hs0_28, hs1_28⟩ := hw_27
      replace hs0_28 := hs0_28.symm
      subst hs0_28
      replace hs1_28 := hs1_28.symm
      subst hs1_28
      refine lv_istore_n (lv' := [(1, .int 4), (2, .int (nI nb_3)), (0, .ref (a 0))]) hx hb dX8_takeDoors_37 rfl hl (by decide) rfl (fun ls hl => ?_)
      refine lv_iload_n hx hb dX8_takeDoors_38 rfl (lv_at hl 0 rfl) ?_
      refine lv_if_le (tgt := 46) hx hb dX8_takeDoors_39 (by decide) (fun h => absurd h (by decide)) (fun _ => ?_)
      refine lv_iload_n hx hb dX8_takeDoors_42 rfl (lv_at hl 0 rfl) ?_
      refine lv_goto (tgt := 64) hx hb dX8_takeDoors_43 (by decide) ?_
      refine lv_istore_n (lv' := [(1, .int 4), (2, .int (nI nb_3)), (0, .ref (a 0))]) hx hb dX8_takeDoors_64 rfl hl (by decide) rfl (fun ls hl => ?_)
      refine lv_iload_n hx hb dX8_takeDoors_65 rfl (lv_at hl 0 rfl) ?_
      refine lv_if_le (tgt := 73) hx hb dX8_takeDoors_66 (by decide) (fun h => absurd h (by decide)) (fun _ => ?_)
      refine lv_iload_n hx hb dX8_takeDoors_69 rfl (lv_at hl 0 rfl) ?_
      refine lv_goto (tgt := 80) hx hb dX8_takeDoors_70 (by decide) ?_
      refine lv_istore_n (lv' := [(1, .int 4), (2, .int (nI nb_3)), (0, .ref (a 0))]) hx hb dX8_takeDoors_80 rfl hl (by decide) rfl (fun ls hl => ?_)
      refine lv_aload_n hx hb dX8_takeDoors_81 rfl (lv_at hl 2 rfl) ?_
      refine va_get (D := D) (ci := 8) (v := .int (nI nb_3)) (C := RX8) (T := TX8) (N := 44) hx hb hts inX8 hown hK hP 3 rfl rfl 10 (by decide) (hts _ tw_983) (fun _ h9 => h9) rfl dX8_takeDoors_82 ?_
      refine lv_istore_n (lv' := [(3, .int (nI nb_3)), (1, .int 4), (2, .int (nI nb_3)), (0, .ref (a 0))]) hx hb dX8_takeDoors_85 rfl hl (by decide) rfl (fun ls hl => ?_)
      refine lv_iload_n hx hb dX8_takeDoors_86 rfl (lv_at hl 1 rfl) ?_
      refine lv_if_le (tgt := 94) hx hb dX8_takeDoors_87 (by decide) (fun h => absurd h (by decide)) (fun _ => ?_)
      refine lv_iload_n hx hb dX8_takeDoors_90 rfl (lv_at hl 1 rfl) ?_
      refine lv_goto (tgt := 114) hx hb dX8_takeDoors_91 (by decide) ?_
      refine lv_istore_n (lv' := [(1, .int 4), (3, .int (nI nb_3)), (2, .int (nI nb_3)), (0, .ref (a 0))]) hx hb dX8_takeDoors_114 rfl hl (by decide) rfl (fun ls hl => ?_)
      refine lv_iload_n hx hb dX8_takeDoors_115 rfl (lv_at hl 0 rfl) ?_
      refine lv_if_le (tgt := 123) hx hb dX8_takeDoors_116 (by decide) (fun h => absurd h (by decide)) (fun _ => ?_)
      refine lv_iload_n hx hb dX8_takeDoors_119 rfl (lv_at hl 0 rfl) ?_
      refine lv_goto (tgt := 131) hx hb dX8_takeDoors_120 (by decide) ?_
      refine lv_istore_n (lv' := [(1, .int 4), (3, .int (nI nb_3)), (2, .int (nI nb_3)), (0, .ref (a 0))]) hx hb dX8_takeDoors_131 rfl hl (by decide) rfl (fun ls hl => ?_)
      refine lv_iconst (v := 0) hx hb dX8_takeDoors_132 (by decide) ?_
      refine lv_istore (lv' := [(4, .int 0), (1, .int 4), (3, .int (nI nb_3)), (2, .int (nI nb_3)), (0, .ref (a 0))]) hx hb dX8_takeDoors_133 hl (by decide) rfl (fun ls hl => ?_)
      refine lv_iload hx hb dX8_takeDoors_135 (lv_at hl 0 rfl) ?_
      refine lv_iload_n hx hb dX8_takeDoors_137 rfl (lv_at hl 3 rfl) ?_
      refine lv_icmp_ge (tgt := 184) hx hb dX8_takeDoors_138 (by decide) (fun c_29 => ?_) (fun c_29 => ?_)
      · have c_29 := (nI_leI (a := nb_3) (b := 0) (by omega) (by omega)).mp c_29
        refine lv_iload_n hx hb dX8_takeDoors_184 rfl (lv_at hl 1 rfl) ?_
        obtain ⟨hP9, hD9⟩ := pd_sub [((a 0), .inr (8, (fX8 a (nI tx) (nI nq_2) (nI t0__1) wd (nI we) (nI nb_3) (nI nq_2) (nI rd) ts (nI ru) (nI rw) (nI ca) df db sd))), (aI k (a 5) 240 ftext), (aI k (a 14) 24 freadFree), (aI k (a 15) 24 freadPrice)] [3, 2, 0, 1] hP hD (by decide) rfl
        exact W.iret (v := 4) hx hb hr (fun t ht hW => ⟨⟨4, (t0__1, wd, we, (nI nq_2), (nI nb_3), (nI nq_2), rd, freadFree, freadPrice), rfl, ⟨.inr ⟨4, nq_2, rfl, by decide, by decide, by simp [doF, hq_2, nI_clamp (show nb_3 < 2 ^ 31 by omega), c_4, -List.getD_eq_getElem?_getD], by simp [doF, hq_2, nI_clamp (show nb_3 < 2 ^ 31 by omega), c_4, -List.getD_eq_getElem?_getD], rfl⟩, by omega, by omega, by omega, fun h => absurd h (by decide)⟩, by rw [ht]; exact hP9, hD9⟩, hS.F ht⟩) hS.2.2 dX8_takeDoors_185
      · have c_29 : ¬ (nb_3 ≤ 0) := fun h => c_29 ((nI_leI (a := nb_3) (b := 0) (by omega) (by omega)).mpr h)
        refine lv_iload_n hx hb dX8_takeDoors_141 rfl (lv_at hl 1 rfl) ?_
        refine lv_if_ne (tgt := 184) hx hb dX8_takeDoors_142 (by decide) (fun _ => ?_) (fun h => absurd h (by decide))
        refine lv_iload_n hx hb dX8_takeDoors_184 rfl (lv_at hl 1 rfl) ?_
        obtain ⟨hP9, hD9⟩ := pd_sub [((a 0), .inr (8, (fX8 a (nI tx) (nI nq_2) (nI t0__1) wd (nI we) (nI nb_3) (nI nq_2) (nI rd) ts (nI ru) (nI rw) (nI ca) df db sd))), (aI k (a 5) 240 ftext), (aI k (a 14) 24 freadFree), (aI k (a 15) 24 freadPrice)] [3, 2, 0, 1] hP hD (by decide) rfl
        exact W.iret (v := 4) hx hb hr (fun t ht hW => ⟨⟨4, (t0__1, wd, we, (nI nq_2), (nI nb_3), (nI nq_2), rd, freadFree, freadPrice), rfl, ⟨.inr ⟨4, nq_2, rfl, by decide, by decide, by simp [doF, hq_2, nI_clamp (show nb_3 < 2 ^ 31 by omega), c_4, -List.getD_eq_getElem?_getD], by simp [doF, hq_2, nI_clamp (show nb_3 < 2 ^ 31 by omega), c_4, -List.getD_eq_getElem?_getD], rfl⟩, by omega, by omega, by omega, fun h => absurd h (by decide)⟩, by rw [ht]; exact hP9, hD9⟩, hS.F ht⟩) hS.2.2 dX8_takeDoors_185
  · refine lv_istore_n (lv' := [(1, .int 1), (0, .ref (a 0))]) hx hb dX8_takeDoors_7 rfl hl (by decide) rfl (fun ls hl => ?_)
    refine lv_aload_n hx hb dX8_takeDoors_8 rfl (lv_at hl 1 rfl) ?_
    refine va_get (D := D) (ci := 8) (v := .int nu__1) (C := RX8) (T := TX8) (N := 44) hx hb hts inX8 hown hK hP 2 rfl rfl 10 (by decide) (hts _ tw_983) (fun _ h9 => h9) rfl dX8_takeDoors_9 ?_
    refine lv_istore_n (lv' := [(2, .int nu__1), (1, .int 1), (0, .ref (a 0))]) hx hb dX8_takeDoors_12 rfl hl (by decide) rfl (fun ls hl => ?_)
    refine lv_iload_n hx hb dX8_takeDoors_13 rfl (lv_at hl 1 rfl) ?_
    refine lv_if_ne (tgt := 38) hx hb dX8_takeDoors_14 (by decide) (fun _ => ?_) (fun h => absurd h (by decide))
    refine lv_iload_n hx hb dX8_takeDoors_38 rfl (lv_at hl 1 rfl) ?_
    refine lv_if_le (tgt := 46) hx hb dX8_takeDoors_39 (by decide) (fun h => absurd h (by decide)) (fun _ => ?_)
    refine lv_iload_n hx hb dX8_takeDoors_42 rfl (lv_at hl 1 rfl) ?_
    refine lv_goto (tgt := 64) hx hb dX8_takeDoors_43 (by decide) ?_
    refine lv_istore_n (lv' := [(1, .int 1), (2, .int nu__1), (0, .ref (a 0))]) hx hb dX8_takeDoors_64 rfl hl (by decide) rfl (fun ls hl => ?_)
    refine lv_iload_n hx hb dX8_takeDoors_65 rfl (lv_at hl 0 rfl) ?_
    refine lv_if_le (tgt := 73) hx hb dX8_takeDoors_66 (by decide) (fun h => absurd h (by decide)) (fun _ => ?_)
    refine lv_iload_n hx hb dX8_takeDoors_69 rfl (lv_at hl 0 rfl) ?_
    refine lv_goto (tgt := 80) hx hb dX8_takeDoors_70 (by decide) ?_
    refine lv_istore_n (lv' := [(1, .int 1), (2, .int nu__1), (0, .ref (a 0))]) hx hb dX8_takeDoors_80 rfl hl (by decide) rfl (fun ls hl => ?_)
    refine lv_aload_n hx hb dX8_takeDoors_81 rfl (lv_at hl 2 rfl) ?_
    refine va_get (D := D) (ci := 8) (v := .int nu__1) (C := RX8) (T := TX8) (N := 44) hx hb hts inX8 hown hK hP 2 rfl rfl 10 (by decide) (hts _ tw_983) (fun _ h9 => h9) rfl dX8_takeDoors_82 ?_
    refine lv_istore_n (lv' := [(3, .int nu__1), (1, .int 1), (2, .int nu__1), (0, .ref (a 0))]) hx hb dX8_takeDoors_85 rfl hl (by decide) rfl (fun ls hl => ?_)
    refine lv_iload_n hx hb dX8_takeDoors_86 rfl (lv_at hl 1 rfl) ?_
    refine lv_if_le (tgt := 94) hx hb dX8_takeDoors_87 (by decide) (fun h => absurd h (by decide)) (fun _ => ?_)
    refine lv_iload_n hx hb dX8_takeDoors_90 rfl (lv_at hl 1 rfl) ?_
    refine lv_goto (tgt := 114) hx hb dX8_takeDoors_91 (by decide) ?_
    refine lv_istore_n (lv' := [(1, .int 1), (3, .int nu__1), (2, .int nu__1), (0, .ref (a 0))]) hx hb dX8_takeDoors_114 rfl hl (by decide) rfl (fun ls hl => ?_)
    refine lv_iload_n hx hb dX8_takeDoors_115 rfl (lv_at hl 0 rfl) ?_
    refine lv_if_le (tgt := 123) hx hb dX8_takeDoors_116 (by decide) (fun h => absurd h (by decide)) (fun _ => ?_)
    refine lv_iload_n hx hb dX8_takeDoors_119 rfl (lv_at hl 0 rfl) ?_
    refine lv_goto (tgt := 131) hx hb dX8_takeDoors_120 (by decide) ?_
    refine lv_istore_n (lv' := [(1, .int 1), (3, .int nu__1), (2, .int nu__1), (0, .ref (a 0))]) hx hb dX8_takeDoors_131 rfl hl (by decide) rfl (fun ls hl => ?_)
    refine lv_iconst (v := 0) hx hb dX8_takeDoors_132 (by decide) ?_
    refine lv_istore (lv' := [(4, .int 0), (1, .int 1), (3, .int nu__1), (2, .int nu__1), (0, .ref (a 0))]) hx hb dX8_takeDoors_133 hl (by decide) rfl (fun ls hl => ?_)
    refine lv_iload hx hb dX8_takeDoors_135 (lv_at hl 0 rfl) ?_
    refine lv_iload_n hx hb dX8_takeDoors_137 rfl (lv_at hl 3 rfl) ?_
    refine lv_icmp_ge (tgt := 184) hx hb dX8_takeDoors_138 (by decide) (fun c_30 => ?_) (fun c_30 => ?_)
    · refine lv_iload_n hx hb dX8_takeDoors_184 rfl (lv_at hl 1 rfl) ?_
      obtain ⟨hP9, hD9⟩ := pd_sub [((a 0), .inr (8, (fX8 a (nI tx) (nI pl_2) (nI t0__1) wd (nI we) nu__1 (nI nq_2) (nI rd) ts (nI ru) (nI rw) (nI ca) df db sd))), (aI k (a 5) 240 ftext), (aI k (a 14) 24 freadFree), (aI k (a 15) 24 freadPrice)] [2, 3, 0, 1] hP hD (by decide) rfl
      exact W.iret (v := 1) hx hb hr (fun t ht hW => ⟨⟨1, (t0__1, wd, we, (nI pl_2), nu__1, (nI nq_2), rd, freadFree, freadPrice), rfl, ⟨.inr ⟨1, pl_2, rfl, by decide, by decide, by simp [doF, hq_2, -List.getD_eq_getElem?_getD], by simp [doF, hq_2, -List.getD_eq_getElem?_getD], rfl⟩, by omega, by omega, by omega, fun h => absurd h (by decide)⟩, by rw [ht]; exact hP9, hD9⟩, hS.F ht⟩) hS.2.2 dX8_takeDoors_185
    · refine lv_iload_n hx hb dX8_takeDoors_141 rfl (lv_at hl 1 rfl) ?_
      refine lv_if_ne (tgt := 184) hx hb dX8_takeDoors_142 (by decide) (fun _ => ?_) (fun h => absurd h (by decide))
      refine lv_iload_n hx hb dX8_takeDoors_184 rfl (lv_at hl 1 rfl) ?_
      obtain ⟨hP9, hD9⟩ := pd_sub [((a 0), .inr (8, (fX8 a (nI tx) (nI pl_2) (nI t0__1) wd (nI we) nu__1 (nI nq_2) (nI rd) ts (nI ru) (nI rw) (nI ca) df db sd))), (aI k (a 5) 240 ftext), (aI k (a 14) 24 freadFree), (aI k (a 15) 24 freadPrice)] [2, 3, 0, 1] hP hD (by decide) rfl
      exact W.iret (v := 1) hx hb hr (fun t ht hW => ⟨⟨1, (t0__1, wd, we, (nI pl_2), nu__1, (nI nq_2), rd, freadFree, freadPrice), rfl, ⟨.inr ⟨1, pl_2, rfl, by decide, by decide, by simp [doF, hq_2, -List.getD_eq_getElem?_getD], by simp [doF, hq_2, -List.getD_eq_getElem?_getD], rfl⟩, by omega, by omega, by omega, fun h => absurd h (by decide)⟩, by rw [ht]; exact hP9, hD9⟩, hS.F ht⟩) hS.2.2 dX8_takeDoors_185
  · refine lv_istore_n (lv' := [(1, .int 2), (0, .ref (a 0))]) hx hb dX8_takeDoors_7 rfl hl (by decide) rfl (fun ls hl => ?_)
    refine lv_aload_n hx hb dX8_takeDoors_8 rfl (lv_at hl 1 rfl) ?_
    refine va_get (D := D) (ci := 8) (v := .int nu__1) (C := RX8) (T := TX8) (N := 44) hx hb hts inX8 hown hK hP 2 rfl rfl 10 (by decide) (hts _ tw_983) (fun _ h9 => h9) rfl dX8_takeDoors_9 ?_
    refine lv_istore_n (lv' := [(2, .int nu__1), (1, .int 2), (0, .ref (a 0))]) hx hb dX8_takeDoors_12 rfl hl (by decide) rfl (fun ls hl => ?_)
    refine lv_iload_n hx hb dX8_takeDoors_13 rfl (lv_at hl 1 rfl) ?_
    refine lv_if_ne (tgt := 38) hx hb dX8_takeDoors_14 (by decide) (fun _ => ?_) (fun h => absurd h (by decide))
    refine lv_iload_n hx hb dX8_takeDoors_38 rfl (lv_at hl 1 rfl) ?_
    refine lv_if_le (tgt := 46) hx hb dX8_takeDoors_39 (by decide) (fun h => absurd h (by decide)) (fun _ => ?_)
    refine lv_iload_n hx hb dX8_takeDoors_42 rfl (lv_at hl 1 rfl) ?_
    refine lv_goto (tgt := 64) hx hb dX8_takeDoors_43 (by decide) ?_
    refine lv_istore_n (lv' := [(1, .int 2), (2, .int nu__1), (0, .ref (a 0))]) hx hb dX8_takeDoors_64 rfl hl (by decide) rfl (fun ls hl => ?_)
    refine lv_iload_n hx hb dX8_takeDoors_65 rfl (lv_at hl 0 rfl) ?_
    refine lv_if_le (tgt := 73) hx hb dX8_takeDoors_66 (by decide) (fun h => absurd h (by decide)) (fun _ => ?_)
    refine lv_iload_n hx hb dX8_takeDoors_69 rfl (lv_at hl 0 rfl) ?_
    refine lv_goto (tgt := 80) hx hb dX8_takeDoors_70 (by decide) ?_
    refine lv_istore_n (lv' := [(1, .int 2), (2, .int nu__1), (0, .ref (a 0))]) hx hb dX8_takeDoors_80 rfl hl (by decide) rfl (fun ls hl => ?_)
    refine lv_aload_n hx hb dX8_takeDoors_81 rfl (lv_at hl 2 rfl) ?_
    refine va_get (D := D) (ci := 8) (v := .int nu__1) (C := RX8) (T := TX8) (N := 44) hx hb hts inX8 hown hK hP 2 rfl rfl 10 (by decide) (hts _ tw_983) (fun _ h9 => h9) rfl dX8_takeDoors_82 ?_
    refine lv_istore_n (lv' := [(3, .int nu__1), (1, .int 2), (2, .int nu__1), (0, .ref (a 0))]) hx hb dX8_takeDoors_85 rfl hl (by decide) rfl (fun ls hl => ?_)
    refine lv_iload_n hx hb dX8_takeDoors_86 rfl (lv_at hl 1 rfl) ?_
    refine lv_if_le (tgt := 94) hx hb dX8_takeDoors_87 (by decide) (fun h => absurd h (by decide)) (fun _ => ?_)
    refine lv_iload_n hx hb dX8_takeDoors_90 rfl (lv_at hl 1 rfl) ?_
    refine lv_goto (tgt := 114) hx hb dX8_takeDoors_91 (by decide) ?_
    refine lv_istore_n (lv' := [(1, .int 2), (3, .int nu__1), (2, .int nu__1), (0, .ref (a 0))]) hx hb dX8_takeDoors_114 rfl hl (by decide) rfl (fun ls hl => ?_)
    refine lv_iload_n hx hb dX8_takeDoors_115 rfl (lv_at hl 0 rfl) ?_
    refine lv_if_le (tgt := 123) hx hb dX8_takeDoors_116 (by decide) (fun h => absurd h (by decide)) (fun _ => ?_)
    refine lv_iload_n hx hb dX8_takeDoors_119 rfl (lv_at hl 0 rfl) ?_
    refine lv_goto (tgt := 131) hx hb dX8_takeDoors_120 (by decide) ?_
    refine lv_istore_n (lv' := [(1, .int 2), (3, .int nu__1), (2, .int nu__1), (0, .ref (a 0))]) hx hb dX8_takeDoors_131 rfl hl (by decide) rfl (fun ls hl => ?_)
    refine lv_iconst (v := 0) hx hb dX8_takeDoors_132 (by decide) ?_
    refine lv_istore (lv' := [(4, .int 0), (1, .int 2), (3, .int nu__1), (2, .int nu__1), (0, .ref (a 0))]) hx hb dX8_takeDoors_133 hl (by decide) rfl (fun ls hl => ?_)
    refine lv_iload hx hb dX8_takeDoors_135 (lv_at hl 0 rfl) ?_
    refine lv_iload_n hx hb dX8_takeDoors_137 rfl (lv_at hl 3 rfl) ?_
    refine lv_icmp_ge (tgt := 184) hx hb dX8_takeDoors_138 (by decide) (fun c_31 => ?_) (fun c_31 => ?_)
    · refine lv_iload_n hx hb dX8_takeDoors_184 rfl (lv_at hl 1 rfl) ?_
      obtain ⟨hP9, hD9⟩ := pd_sub [((a 0), .inr (8, (fX8 a (nI tx) (nI pl_2) (nI t0__1) wd (nI we) nu__1 (nI nq_2) (nI rd) ts (nI ru) (nI rw) (nI ca) df db sd))), (aI k (a 5) 240 ftext), (aI k (a 14) 24 freadFree), (aI k (a 15) 24 freadPrice)] [2, 3, 0, 1] hP hD (by decide) rfl
      exact W.iret (v := 2) hx hb hr (fun t ht hW => ⟨⟨2, (t0__1, wd, we, (nI pl_2), nu__1, (nI nq_2), rd, freadFree, freadPrice), rfl, ⟨.inr ⟨2, pl_2, rfl, by decide, by decide, by simp [doF, hq_2, -List.getD_eq_getElem?_getD], by simp [doF, hq_2, -List.getD_eq_getElem?_getD], rfl⟩, by omega, by omega, by omega, fun h => absurd h (by decide)⟩, by rw [ht]; exact hP9, hD9⟩, hS.F ht⟩) hS.2.2 dX8_takeDoors_185
    · refine lv_iload_n hx hb dX8_takeDoors_141 rfl (lv_at hl 1 rfl) ?_
      refine lv_if_ne (tgt := 184) hx hb dX8_takeDoors_142 (by decide) (fun _ => ?_) (fun h => absurd h (by decide))
      refine lv_iload_n hx hb dX8_takeDoors_184 rfl (lv_at hl 1 rfl) ?_
      obtain ⟨hP9, hD9⟩ := pd_sub [((a 0), .inr (8, (fX8 a (nI tx) (nI pl_2) (nI t0__1) wd (nI we) nu__1 (nI nq_2) (nI rd) ts (nI ru) (nI rw) (nI ca) df db sd))), (aI k (a 5) 240 ftext), (aI k (a 14) 24 freadFree), (aI k (a 15) 24 freadPrice)] [2, 3, 0, 1] hP hD (by decide) rfl
      exact W.iret (v := 2) hx hb hr (fun t ht hW => ⟨⟨2, (t0__1, wd, we, (nI pl_2), nu__1, (nI nq_2), rd, freadFree, freadPrice), rfl, ⟨.inr ⟨2, pl_2, rfl, by decide, by decide, by simp [doF, hq_2, -List.getD_eq_getElem?_getD], by simp [doF, hq_2, -List.getD_eq_getElem?_getD], rfl⟩, by omega, by omega, by omega, fun h => absurd h (by decide)⟩, by rw [ht]; exact hP9, hD9⟩, hS.F ht⟩) hS.2.2 dX8_takeDoors_185


theorem dX5_readClause_0 : decode cX5_readClause 0 = .ok (.aload_n 0, 1) := by decide +kernel
theorem dX5_readClause_1 : decode cX5_readClause 1 = .ok (.getfield 9, 3) := by decide +kernel
theorem dX5_readClause_4 : decode cX5_readClause 4 = .ok (.iload_n 2, 1) := by decide +kernel
theorem dX5_readClause_5 : decode cX5_readClause 5 = .ok (.aload_n 1, 1) := by decide +kernel
theorem dX5_readClause_6 : decode cX5_readClause 6 = .ok (.getstatic 106, 3) := by decide +kernel
theorem dX5_readClause_9 : decode cX5_readClause 9 = .ok (.iload_n 2, 1) := by decide +kernel
theorem dX5_readClause_10 : decode cX5_readClause 10 = .ok (.iaload, 1) := by decide +kernel
theorem dX5_readClause_11 : decode cX5_readClause 11 = .ok (.getstatic 109, 3) := by decide +kernel
theorem dX5_readClause_14 : decode cX5_readClause 14 = .ok (.iload_n 2, 1) := by decide +kernel
theorem dX5_readClause_15 : decode cX5_readClause 15 = .ok (.iaload, 1) := by decide +kernel
theorem dX5_readClause_16 : decode cX5_readClause 16 = .ok (.invokevirtual 112, 3) := by decide +kernel
theorem dX5_readClause_19 : decode cX5_readClause 19 = .ok (.iastore, 1) := by decide +kernel
theorem dX5_readClause_20 : decode cX5_readClause 20 = .ok (.iload_n 2, 1) := by decide +kernel
theorem dX5_readClause_21 : decode cX5_readClause 21 = .ok (.bipush 7, 2) := by decide +kernel
theorem dX5_readClause_23 : decode cX5_readClause 23 = .ok (.if_icmp .ne 35, 3) := by decide +kernel
theorem dX5_readClause_26 : decode cX5_readClause 26 = .ok (.aload_n 1, 1) := by decide +kernel
theorem dX5_readClause_27 : decode cX5_readClause 27 = .ok (.bipush 8, 2) := by decide +kernel
theorem dX5_readClause_29 : decode cX5_readClause 29 = .ok (.invokestatic 79, 3) := by decide +kernel
theorem dX5_readClause_32 : decode cX5_readClause 32 = .ok (.invokevirtual 120, 3) := by decide +kernel
theorem dX5_readClause_35 : decode cX5_readClause 35 = .ok (.aload_n 0, 1) := by decide +kernel
theorem dX5_readClause_36 : decode cX5_readClause 36 = .ok (.getfield 9, 3) := by decide +kernel
theorem dX5_readClause_39 : decode cX5_readClause 39 = .ok (.bipush 8, 2) := by decide +kernel
theorem dX5_readClause_41 : decode cX5_readClause 41 = .ok (.aload_n 1, 1) := by decide +kernel
theorem dX5_readClause_42 : decode cX5_readClause 42 = .ok (.getstatic 106, 3) := by decide +kernel
theorem dX5_readClause_45 : decode cX5_readClause 45 = .ok (.bipush 8, 2) := by decide +kernel
theorem dX5_readClause_47 : decode cX5_readClause 47 = .ok (.iaload, 1) := by decide +kernel
theorem dX5_readClause_48 : decode cX5_readClause 48 = .ok (.getstatic 109, 3) := by decide +kernel
theorem dX5_readClause_51 : decode cX5_readClause 51 = .ok (.bipush 8, 2) := by decide +kernel
theorem dX5_readClause_53 : decode cX5_readClause 53 = .ok (.iaload, 1) := by decide +kernel
theorem dX5_readClause_54 : decode cX5_readClause 54 = .ok (.invokevirtual 112, 3) := by decide +kernel
theorem dX5_readClause_57 : decode cX5_readClause 57 = .ok (.iastore, 1) := by decide +kernel
theorem dX5_readClause_58 : decode cX5_readClause 58 = .ok (.aload_n 1, 1) := by decide +kernel
theorem dX5_readClause_59 : decode cX5_readClause 59 = .ok (.invokevirtual 126, 3) := by decide +kernel
theorem dX5_readClause_62 : decode cX5_readClause 62 = .ok (.return_, 1) := by decide +kernel
set_option maxHeartbeats 4000000 in
set_option maxRecDepth 100000 in
theorem x_readClause (l : Launch) (D : va_G) (k : Nat → ClassId) (st : Nat → Nat) (lo : Nat) (h0 : Nat) (h1 : Nat) (h2 : Nat) (h3 : Nat) (h4 : Nat) (n : Nat) (see : Nat) (tm : Nat) (g : Nat → Int32) (x0 : Nat) (x1 : Nat) (tz : Nat) (ta : Nat) (na : Int32) (fn : Int32) (fb : Int32) (fx : Nat → Int32) (cl : Nat) (ht : ta ≤ tz) (hz : tz ≤ 240) (hsee : see ≤ 2) (htm9 : tm ≤ 3) (hcl : 1 ≤ cl ∧ cl ≤ 9 ∧ cl ≠ 8) : CWv l D k st lo yX5_readClause cX5_readClause 3 none ({ frames := 6, cells := 0, slots := 0, locals := 129 }) 0 0 [.ref h0, .ref x0, .int (nI cl)] [(h0, .inr (5, (fX5 h1 h2 h3 h4))), (aI k h1 10 (vv n see tm g)), (x0, .inr (6, (fX6 x1 (nI tz) (nI ta) na fn fb))), (aB k x1 240 fx)] (fun (u : Nat × Nat × (Nat → Int32) × Nat × Int32 × Int32 × Int32) => match u with | (see_, tm_, g_, ta_, na_, fn_, fb_) => see_ ≤ 2 ∧ tm_ ≤ 3 ∧ ta ≤ ta_ ∧ ta_ ≤ tz) (fun (u : Nat × Nat × (Nat → Int32) × Nat × Int32 × Int32 × Int32) => match u with | (see_, tm_, g_, ta_, na_, fn_, fb_) => [(h0, .inr (5, (fX5 h1 h2 h3 h4))), (aI k h1 10 (vv n see_ tm_ g_)), (x0, .inr (6, (fX6 x1 (nI tz) (nI ta_) na_ fn_ fb_))), (aB k x1 240 fx)]) := by
  intro sz
  refine Met.ofW (cc := cX5_readClause) (maxL := 3) (ret := none) (by decide) rfl ?_
  intro p e s m args below meth c s₁ B hml hv
  obtain ⟨rfl, hsz, hlo, hP, hK, hDL, hZ⟩ := hv
  have hx := B.exec
  have hb := B.bytes
  have hr := B.returns
  have hts := WS_ts B.pre
  have hown : s.vm.findClass RX5 = some m.cls := findClass_of_methodNamed B.named
  have hlocks := B.notSynchronized
  subst hsz
  have hD := hDL.self (sz := s.heap.size)
  have hAlo := A_lo hDL hlo
  generalize hAe : va_A [(h0, .inr (5, (fX5 h1 h2 h3 h4))), (aI k h1 10 (vv n see tm g)), (x0, .inr (6, (fX6 x1 (nI tz) (nI ta) na fn fb))), (aB k x1 240 fx)] s.heap.size = A at hD hAlo ⊢
  have hA : ∀ q : Nat, s.heap.size ≤ q → A q := fun q h => by rw [← hAe]; exact Or.inr h
  have hS : va_S A s.heap s.heap [] := va_S.rf
  have hl := lv_entry ([.ref h0, .ref x0, .int (nI cl)]) (n := 3) (Nat.le_of_ble_eq_true rfl)
  rw [lg_entry_eq]
  generalize (lg_sl ([.ref h0, .ref x0, .int (nI cl)]) ++ List.replicate (3 - (lg_sl ([.ref h0, .ref x0, .int (nI cl)])).length) Slot.unset).toArray = ls at hl ⊢
  have hl : lv_has ls 3 [(0, .ref h0), (1, .ref x0), (2, .int (nI cl))] := hl
  rcases clsplit hcl with rfl | rfl | rfl | rfl | rfl | rfl | rfl | rfl
  · refine lv_aload_n hx hb dX5_readClause_0 rfl (lv_at hl 0 rfl) ?_
    refine va_get (D := D) (ci := 5) (v := .ref h1) (C := RX5) (T := TX5) (N := 4) hx hb hts inX5 hown hK hP 0 rfl rfl 0 (by decide) (hts _ tw_146) (fun _ h9 => h9) rfl dX5_readClause_1 ?_
    refine lv_iload_n hx hb dX5_readClause_4 rfl (lv_at hl 2 rfl) ?_
    refine lv_aload_n hx hb dX5_readClause_5 rfl (lv_at hl 1 rfl) ?_
    refine va_getsN (A := A) hx hb (hZ.2.2.2.2.1.narrow hAlo) hS hown ((hZ.2.2.2.2.2.2.2.2.1.2.1 (RX5, 106, "LastPlace", "LEAST", "[I", RX7) (List.mem_of_getElem? (i := 1) rfl)).use rfl) (fun _ h9 => h9) dX5_readClause_6 ?_
    refine lv_iload_n hx hb dX5_readClause_9 rfl (lv_at hl 2 rfl) ?_
    refine va_ti (A := A) hx hb (hZ.2.2.2.2.2.1.narrow hAlo) hS (i := 1) (by unfold vp_in; decide) (v := .int (-50)) rfl dX5_readClause_10 ?_
    refine va_getsN (A := A) hx hb (hZ.2.2.1.narrow hAlo) hS hown ((hZ.2.2.2.2.2.2.2.2.1.2.1 (RX5, 109, "LastPlace", "MOST", "[I", RX7) (List.mem_of_getElem? (i := 2) rfl)).use rfl) (fun _ h9 => h9) dX5_readClause_11 ?_
    refine lv_iload_n hx hb dX5_readClause_14 rfl (lv_at hl 2 rfl) ?_
    refine va_ti (A := A) hx hb (hZ.2.2.2.1.narrow hAlo) hS (i := 1) (by unfold vp_in; decide) (v := .int 50) rfl dX5_readClause_15 ?_
    refine rw_i (D := D) (wr := [(h0, .inr (5, (fX5 h1 h2 h3 h4))), (aI k h1 10 (vv n see tm g))]) (va_runV (As := [.int (-50), .int 50]) (rest := [.int 1, .ref h1]) ⟨hx, hb, hml, hown, hts⟩ ((x_needNumber l D k st lo x0 x1 tz ta na fn fb fx (-50) 50 (by omega) (by omega) (by decide)) s.heap.size) (cwV 2 hts (gV tw_467 tw_468 tw_469 tw_80 tw_470) rfl rfl rfl (by decide +kernel) ⟨Nat.le_of_ble_eq_true rfl, Nat.le_of_ble_eq_true rfl⟩) (pV hS hAlo hlo hP hK (va_Dlo hD hAlo) hZ [2, 3] (by decide) rfl (ci := 6) (q := (RX6, TX6, 6)) (q0 := 0) rfl rfl) rfl rfl hl.1 rfl (lv_room (Nat.le_of_ble_eq_true rfl)) dX5_readClause_16 ⟨Nat.le_of_ble_eq_true rfl, Nat.le_of_ble_eq_true rfl⟩) hS hA hP hD [2, 3] [0, 1] rfl rfl (by decide) (by decide) (fun r_1 u H locs hw_1 hP hD hS => ?_)
    obtain ⟨ta__1, na__1, fn__1, fb__1⟩ := u
    replace hP : va_P D classes [(h0, .inr (5, (fX5 h1 h2 h3 h4))), (aI k h1 10 (vv n see tm g)), (x0, .inr (6, (fX6 x1 (nI tz) (nI ta__1) na__1 fn__1 fb__1))), (aB k x1 240 fx)] H := hP
    replace hD : va_D A [(h0, .inr (5, (fX5 h1 h2 h3 h4))), (aI k h1 10 (vv n see tm g)), (x0, .inr (6, (fX6 x1 (nI tz) (nI ta__1) na__1 fn__1 fb__1))), (aB k x1 240 fx)] := hD
    try dsimp only at hw_1
    refine va_iast hx hb hK hP hD hS 1 1 rfl rfl (by unfold vp_in; decide) dX5_readClause_19 (fun H locs hP hD hS => ?_)
    replace hP : va_P D classes [(h0, .inr (5, (fX5 h1 h2 h3 h4))), (aI k h1 10 (upd (vv n see tm g) (Int32.toNatClampNeg 1) r_1)), (x0, .inr (6, (fX6 x1 (nI tz) (nI ta__1) na__1 fn__1 fb__1))), (aB k x1 240 fx)] H := hP
    replace hD : va_D A [(h0, .inr (5, (fX5 h1 h2 h3 h4))), (aI k h1 10 (upd (vv n see tm g) (Int32.toNatClampNeg 1) r_1)), (x0, .inr (6, (fX6 x1 (nI tz) (nI ta__1) na__1 fn__1 fb__1))), (aB k x1 240 fx)] := hD
    rw [show upd (vv n see tm g) (Int32.toNatClampNeg 1) r_1 = vv n see tm (upd g 1 r_1) from vv_upd _ _ _ _ _ _ (by decide) (by decide) (by decide)] at hP hD
    generalize upd g 1 r_1 = gg_3 at hP hD
    replace hP : va_P D classes [(h0, .inr (5, (fX5 h1 h2 h3 h4))), (aI k h1 10 (vv n see tm gg_3)), (x0, .inr (6, (fX6 x1 (nI tz) (nI ta__1) na__1 fn__1 fb__1))), (aB k x1 240 fx)] H := hP
    replace hD : va_D A [(h0, .inr (5, (fX5 h1 h2 h3 h4))), (aI k h1 10 (vv n see tm gg_3)), (x0, .inr (6, (fX6 x1 (nI tz) (nI ta__1) na__1 fn__1 fb__1))), (aB k x1 240 fx)] := hD
    refine lv_iload_n hx hb dX5_readClause_20 rfl (lv_at hl 2 rfl) ?_
    refine lv_bipush (v := 7) hx hb dX5_readClause_21 (by decide) ?_
    refine lv_icmp_ne (tgt := 58) hx hb dX5_readClause_23 (by decide) (fun _ => ?_) (fun h => absurd h (by decide))
    refine lv_aload_n hx hb dX5_readClause_58 rfl (lv_at hl 1 rfl) ?_
    refine rw_v (D := D) (wr := [(h0, .inr (5, (fX5 h1 h2 h3 h4))), (aI k h1 10 (vv n see tm gg_3))]) (va_runV (As := []) (rest := []) ⟨hx, hb, hml, hown, hts⟩ ((x_needSemicolon l D k st lo x0 x1 tz ta__1 na__1 fn__1 fb__1 fx (by omega) (by omega)) H.size) (cwV 0 hts (gV tw_488 tw_489 tw_490 tw_80 tw_491) rfl rfl rfl (by decide +kernel) ⟨Nat.le_of_ble_eq_true rfl, Nat.le_of_ble_eq_true rfl⟩) (pV hS hAlo hlo hP hK (va_Dlo hD hAlo) hZ [2, 3] (by decide) rfl (ci := 6) (q := (RX6, TX6, 6)) (q0 := 0) rfl rfl) rfl rfl hl.1 rfl (lv_room (Nat.le_of_ble_eq_true rfl)) dX5_readClause_59 ⟨Nat.le_of_ble_eq_true rfl, Nat.le_of_ble_eq_true rfl⟩) hS hA hP hD [2, 3] [0, 1] rfl rfl (by decide) (by decide) (fun u H locs hw_4 hP hD hS => ?_)
    obtain ⟨ta__4, fn__4, fb__4⟩ := u
    replace hP : va_P D classes [(h0, .inr (5, (fX5 h1 h2 h3 h4))), (aI k h1 10 (vv n see tm gg_3)), (x0, .inr (6, (fX6 x1 (nI tz) (nI ta__4) na__1 fn__4 fb__4))), (aB k x1 240 fx)] H := hP
    replace hD : va_D A [(h0, .inr (5, (fX5 h1 h2 h3 h4))), (aI k h1 10 (vv n see tm gg_3)), (x0, .inr (6, (fX6 x1 (nI tz) (nI ta__4) na__1 fn__4 fb__4))), (aB k x1 240 fx)] := hD
    try dsimp only at hw_4
    have hP9 := hP.sub (ws' := [(h0, .inr (5, (fX5 h1 h2 h3 h4))), (aI k h1 10 (vv n see tm gg_3)), (x0, .inr (6, (fX6 x1 (nI tz) (nI ta__4) na__1 fn__4 fb__4))), (aB k x1 240 fx)]) [0, 1, 2, 3] rfl
    have hD9 := hD.sub (ws' := [(h0, .inr (5, (fX5 h1 h2 h3 h4))), (aI k h1 10 (vv n see tm gg_3)), (x0, .inr (6, (fX6 x1 (nI tz) (nI ta__4) na__1 fn__4 fb__4))), (aB k x1 240 fx)]) [0, 1, 2, 3] (by decide) rfl
    exact W.vret hx hb hr (fun t ht hW => ⟨⟨(see, tm, gg_3, ta__4, na__1, fn__4, fb__4), rfl, ⟨by omega, by omega, by omega, by omega⟩, by rw [ht]; exact hP9, hD9⟩, hS.F ht⟩) hS.2.2 dX5_readClause_62
  · refine lv_aload_n hx hb dX5_readClause_0 rfl (lv_at hl 0 rfl) ?_
    refine va_get (D := D) (ci := 5) (v := .ref h1) (C := RX5) (T := TX5) (N := 4) hx hb hts inX5 hown hK hP 0 rfl rfl 0 (by decide) (hts _ tw_146) (fun _ h9 => h9) rfl dX5_readClause_1 ?_
    refine lv_iload_n hx hb dX5_readClause_4 rfl (lv_at hl 2 rfl) ?_
    refine lv_aload_n hx hb dX5_readClause_5 rfl (lv_at hl 1 rfl) ?_
    refine va_getsN (A := A) hx hb (hZ.2.2.2.2.1.narrow hAlo) hS hown ((hZ.2.2.2.2.2.2.2.2.1.2.1 (RX5, 106, "LastPlace", "LEAST", "[I", RX7) (List.mem_of_getElem? (i := 1) rfl)).use rfl) (fun _ h9 => h9) dX5_readClause_6 ?_
    refine lv_iload_n hx hb dX5_readClause_9 rfl (lv_at hl 2 rfl) ?_
    refine va_ti (A := A) hx hb (hZ.2.2.2.2.2.1.narrow hAlo) hS (i := 2) (by unfold vp_in; decide) (v := .int 0) rfl dX5_readClause_10 ?_
    refine va_getsN (A := A) hx hb (hZ.2.2.1.narrow hAlo) hS hown ((hZ.2.2.2.2.2.2.2.2.1.2.1 (RX5, 109, "LastPlace", "MOST", "[I", RX7) (List.mem_of_getElem? (i := 2) rfl)).use rfl) (fun _ h9 => h9) dX5_readClause_11 ?_
    refine lv_iload_n hx hb dX5_readClause_14 rfl (lv_at hl 2 rfl) ?_
    refine va_ti (A := A) hx hb (hZ.2.2.2.1.narrow hAlo) hS (i := 2) (by unfold vp_in; decide) (v := .int 99) rfl dX5_readClause_15 ?_
    refine rw_i (D := D) (wr := [(h0, .inr (5, (fX5 h1 h2 h3 h4))), (aI k h1 10 (vv n see tm g))]) (va_runV (As := [.int 0, .int 99]) (rest := [.int 2, .ref h1]) ⟨hx, hb, hml, hown, hts⟩ ((x_needNumber l D k st lo x0 x1 tz ta na fn fb fx 0 99 (by omega) (by omega) (by decide)) s.heap.size) (cwV 2 hts (gV tw_467 tw_468 tw_469 tw_80 tw_470) rfl rfl rfl (by decide +kernel) ⟨Nat.le_of_ble_eq_true rfl, Nat.le_of_ble_eq_true rfl⟩) (pV hS hAlo hlo hP hK (va_Dlo hD hAlo) hZ [2, 3] (by decide) rfl (ci := 6) (q := (RX6, TX6, 6)) (q0 := 0) rfl rfl) rfl rfl hl.1 rfl (lv_room (Nat.le_of_ble_eq_true rfl)) dX5_readClause_16 ⟨Nat.le_of_ble_eq_true rfl, Nat.le_of_ble_eq_true rfl⟩) hS hA hP hD [2, 3] [0, 1] rfl rfl (by decide) (by decide) (fun r_5 u H locs hw_5 hP hD hS => ?_)
    obtain ⟨ta__5, na__5, fn__5, fb__5⟩ := u
    replace hP : va_P D classes [(h0, .inr (5, (fX5 h1 h2 h3 h4))), (aI k h1 10 (vv n see tm g)), (x0, .inr (6, (fX6 x1 (nI tz) (nI ta__5) na__5 fn__5 fb__5))), (aB k x1 240 fx)] H := hP
    replace hD : va_D A [(h0, .inr (5, (fX5 h1 h2 h3 h4))), (aI k h1 10 (vv n see tm g)), (x0, .inr (6, (fX6 x1 (nI tz) (nI ta__5) na__5 fn__5 fb__5))), (aB k x1 240 fx)] := hD
    try dsimp only at hw_5
    refine va_iast hx hb hK hP hD hS 1 1 rfl rfl (by unfold vp_in; decide) dX5_readClause_19 (fun H locs hP hD hS => ?_)
    replace hP : va_P D classes [(h0, .inr (5, (fX5 h1 h2 h3 h4))), (aI k h1 10 (upd (vv n see tm g) (Int32.toNatClampNeg 2) r_5)), (x0, .inr (6, (fX6 x1 (nI tz) (nI ta__5) na__5 fn__5 fb__5))), (aB k x1 240 fx)] H := hP
    replace hD : va_D A [(h0, .inr (5, (fX5 h1 h2 h3 h4))), (aI k h1 10 (upd (vv n see tm g) (Int32.toNatClampNeg 2) r_5)), (x0, .inr (6, (fX6 x1 (nI tz) (nI ta__5) na__5 fn__5 fb__5))), (aB k x1 240 fx)] := hD
    rw [show upd (vv n see tm g) (Int32.toNatClampNeg 2) r_5 = vv n see tm (upd g 2 r_5) from vv_upd _ _ _ _ _ _ (by decide) (by decide) (by decide)] at hP hD
    generalize upd g 2 r_5 = gg_7 at hP hD
    replace hP : va_P D classes [(h0, .inr (5, (fX5 h1 h2 h3 h4))), (aI k h1 10 (vv n see tm gg_7)), (x0, .inr (6, (fX6 x1 (nI tz) (nI ta__5) na__5 fn__5 fb__5))), (aB k x1 240 fx)] H := hP
    replace hD : va_D A [(h0, .inr (5, (fX5 h1 h2 h3 h4))), (aI k h1 10 (vv n see tm gg_7)), (x0, .inr (6, (fX6 x1 (nI tz) (nI ta__5) na__5 fn__5 fb__5))), (aB k x1 240 fx)] := hD
    refine lv_iload_n hx hb dX5_readClause_20 rfl (lv_at hl 2 rfl) ?_
    refine lv_bipush (v := 7) hx hb dX5_readClause_21 (by decide) ?_
    refine lv_icmp_ne (tgt := 58) hx hb dX5_readClause_23 (by decide) (fun _ => ?_) (fun h => absurd h (by decide))
    refine lv_aload_n hx hb dX5_readClause_58 rfl (lv_at hl 1 rfl) ?_
    refine rw_v (D := D) (wr := [(h0, .inr (5, (fX5 h1 h2 h3 h4))), (aI k h1 10 (vv n see tm gg_7))]) (va_runV (As := []) (rest := []) ⟨hx, hb, hml, hown, hts⟩ ((x_needSemicolon l D k st lo x0 x1 tz ta__5 na__5 fn__5 fb__5 fx (by omega) (by omega)) H.size) (cwV 0 hts (gV tw_488 tw_489 tw_490 tw_80 tw_491) rfl rfl rfl (by decide +kernel) ⟨Nat.le_of_ble_eq_true rfl, Nat.le_of_ble_eq_true rfl⟩) (pV hS hAlo hlo hP hK (va_Dlo hD hAlo) hZ [2, 3] (by decide) rfl (ci := 6) (q := (RX6, TX6, 6)) (q0 := 0) rfl rfl) rfl rfl hl.1 rfl (lv_room (Nat.le_of_ble_eq_true rfl)) dX5_readClause_59 ⟨Nat.le_of_ble_eq_true rfl, Nat.le_of_ble_eq_true rfl⟩) hS hA hP hD [2, 3] [0, 1] rfl rfl (by decide) (by decide) (fun u H locs hw_8 hP hD hS => ?_)
    obtain ⟨ta__8, fn__8, fb__8⟩ := u
    replace hP : va_P D classes [(h0, .inr (5, (fX5 h1 h2 h3 h4))), (aI k h1 10 (vv n see tm gg_7)), (x0, .inr (6, (fX6 x1 (nI tz) (nI ta__8) na__5 fn__8 fb__8))), (aB k x1 240 fx)] H := hP
    replace hD : va_D A [(h0, .inr (5, (fX5 h1 h2 h3 h4))), (aI k h1 10 (vv n see tm gg_7)), (x0, .inr (6, (fX6 x1 (nI tz) (nI ta__8) na__5 fn__8 fb__8))), (aB k x1 240 fx)] := hD
    try dsimp only at hw_8
    have hP9 := hP.sub (ws' := [(h0, .inr (5, (fX5 h1 h2 h3 h4))), (aI k h1 10 (vv n see tm gg_7)), (x0, .inr (6, (fX6 x1 (nI tz) (nI ta__8) na__5 fn__8 fb__8))), (aB k x1 240 fx)]) [0, 1, 2, 3] rfl
    have hD9 := hD.sub (ws' := [(h0, .inr (5, (fX5 h1 h2 h3 h4))), (aI k h1 10 (vv n see tm gg_7)), (x0, .inr (6, (fX6 x1 (nI tz) (nI ta__8) na__5 fn__8 fb__8))), (aB k x1 240 fx)]) [0, 1, 2, 3] (by decide) rfl
    exact W.vret hx hb hr (fun t ht hW => ⟨⟨(see, tm, gg_7, ta__8, na__5, fn__8, fb__8), rfl, ⟨by omega, by omega, by omega, by omega⟩, by rw [ht]; exact hP9, hD9⟩, hS.F ht⟩) hS.2.2 dX5_readClause_62
  · refine lv_aload_n hx hb dX5_readClause_0 rfl (lv_at hl 0 rfl) ?_
    refine va_get (D := D) (ci := 5) (v := .ref h1) (C := RX5) (T := TX5) (N := 4) hx hb hts inX5 hown hK hP 0 rfl rfl 0 (by decide) (hts _ tw_146) (fun _ h9 => h9) rfl dX5_readClause_1 ?_
    refine lv_iload_n hx hb dX5_readClause_4 rfl (lv_at hl 2 rfl) ?_
    refine lv_aload_n hx hb dX5_readClause_5 rfl (lv_at hl 1 rfl) ?_
    refine va_getsN (A := A) hx hb (hZ.2.2.2.2.1.narrow hAlo) hS hown ((hZ.2.2.2.2.2.2.2.2.1.2.1 (RX5, 106, "LastPlace", "LEAST", "[I", RX7) (List.mem_of_getElem? (i := 1) rfl)).use rfl) (fun _ h9 => h9) dX5_readClause_6 ?_
    refine lv_iload_n hx hb dX5_readClause_9 rfl (lv_at hl 2 rfl) ?_
    refine va_ti (A := A) hx hb (hZ.2.2.2.2.2.1.narrow hAlo) hS (i := 3) (by unfold vp_in; decide) (v := .int 0) rfl dX5_readClause_10 ?_
    refine va_getsN (A := A) hx hb (hZ.2.2.1.narrow hAlo) hS hown ((hZ.2.2.2.2.2.2.2.2.1.2.1 (RX5, 109, "LastPlace", "MOST", "[I", RX7) (List.mem_of_getElem? (i := 2) rfl)).use rfl) (fun _ h9 => h9) dX5_readClause_11 ?_
    refine lv_iload_n hx hb dX5_readClause_14 rfl (lv_at hl 2 rfl) ?_
    refine va_ti (A := A) hx hb (hZ.2.2.2.1.narrow hAlo) hS (i := 3) (by unfold vp_in; decide) (v := .int 99) rfl dX5_readClause_15 ?_
    refine rw_i (D := D) (wr := [(h0, .inr (5, (fX5 h1 h2 h3 h4))), (aI k h1 10 (vv n see tm g))]) (va_runV (As := [.int 0, .int 99]) (rest := [.int 3, .ref h1]) ⟨hx, hb, hml, hown, hts⟩ ((x_needNumber l D k st lo x0 x1 tz ta na fn fb fx 0 99 (by omega) (by omega) (by decide)) s.heap.size) (cwV 2 hts (gV tw_467 tw_468 tw_469 tw_80 tw_470) rfl rfl rfl (by decide +kernel) ⟨Nat.le_of_ble_eq_true rfl, Nat.le_of_ble_eq_true rfl⟩) (pV hS hAlo hlo hP hK (va_Dlo hD hAlo) hZ [2, 3] (by decide) rfl (ci := 6) (q := (RX6, TX6, 6)) (q0 := 0) rfl rfl) rfl rfl hl.1 rfl (lv_room (Nat.le_of_ble_eq_true rfl)) dX5_readClause_16 ⟨Nat.le_of_ble_eq_true rfl, Nat.le_of_ble_eq_true rfl⟩) hS hA hP hD [2, 3] [0, 1] rfl rfl (by decide) (by decide) (fun r_9 u H locs hw_9 hP hD hS => ?_)
    obtain ⟨ta__9, na__9, fn__9, fb__9⟩ := u
    replace hP : va_P D classes [(h0, .inr (5, (fX5 h1 h2 h3 h4))), (aI k h1 10 (vv n see tm g)), (x0, .inr (6, (fX6 x1 (nI tz) (nI ta__9) na__9 fn__9 fb__9))), (aB k x1 240 fx)] H := hP
    replace hD : va_D A [(h0, .inr (5, (fX5 h1 h2 h3 h4))), (aI k h1 10 (vv n see tm g)), (x0, .inr (6, (fX6 x1 (nI tz) (nI ta__9) na__9 fn__9 fb__9))), (aB k x1 240 fx)] := hD
    try dsimp only at hw_9
    refine va_iast hx hb hK hP hD hS 1 1 rfl rfl (by unfold vp_in; decide) dX5_readClause_19 (fun H locs hP hD hS => ?_)
    replace hP : va_P D classes [(h0, .inr (5, (fX5 h1 h2 h3 h4))), (aI k h1 10 (upd (vv n see tm g) (Int32.toNatClampNeg 3) r_9)), (x0, .inr (6, (fX6 x1 (nI tz) (nI ta__9) na__9 fn__9 fb__9))), (aB k x1 240 fx)] H := hP
    replace hD : va_D A [(h0, .inr (5, (fX5 h1 h2 h3 h4))), (aI k h1 10 (upd (vv n see tm g) (Int32.toNatClampNeg 3) r_9)), (x0, .inr (6, (fX6 x1 (nI tz) (nI ta__9) na__9 fn__9 fb__9))), (aB k x1 240 fx)] := hD
    rw [show upd (vv n see tm g) (Int32.toNatClampNeg 3) r_9 = vv n see tm (upd g 3 r_9) from vv_upd _ _ _ _ _ _ (by decide) (by decide) (by decide)] at hP hD
    generalize upd g 3 r_9 = gg_11 at hP hD
    replace hP : va_P D classes [(h0, .inr (5, (fX5 h1 h2 h3 h4))), (aI k h1 10 (vv n see tm gg_11)), (x0, .inr (6, (fX6 x1 (nI tz) (nI ta__9) na__9 fn__9 fb__9))), (aB k x1 240 fx)] H := hP
    replace hD : va_D A [(h0, .inr (5, (fX5 h1 h2 h3 h4))), (aI k h1 10 (vv n see tm gg_11)), (x0, .inr (6, (fX6 x1 (nI tz) (nI ta__9) na__9 fn__9 fb__9))), (aB k x1 240 fx)] := hD
    refine lv_iload_n hx hb dX5_readClause_20 rfl (lv_at hl 2 rfl) ?_
    refine lv_bipush (v := 7) hx hb dX5_readClause_21 (by decide) ?_
    refine lv_icmp_ne (tgt := 58) hx hb dX5_readClause_23 (by decide) (fun _ => ?_) (fun h => absurd h (by decide))
    refine lv_aload_n hx hb dX5_readClause_58 rfl (lv_at hl 1 rfl) ?_
    refine rw_v (D := D) (wr := [(h0, .inr (5, (fX5 h1 h2 h3 h4))), (aI k h1 10 (vv n see tm gg_11))]) (va_runV (As := []) (rest := []) ⟨hx, hb, hml, hown, hts⟩ ((x_needSemicolon l D k st lo x0 x1 tz ta__9 na__9 fn__9 fb__9 fx (by omega) (by omega)) H.size) (cwV 0 hts (gV tw_488 tw_489 tw_490 tw_80 tw_491) rfl rfl rfl (by decide +kernel) ⟨Nat.le_of_ble_eq_true rfl, Nat.le_of_ble_eq_true rfl⟩) (pV hS hAlo hlo hP hK (va_Dlo hD hAlo) hZ [2, 3] (by decide) rfl (ci := 6) (q := (RX6, TX6, 6)) (q0 := 0) rfl rfl) rfl rfl hl.1 rfl (lv_room (Nat.le_of_ble_eq_true rfl)) dX5_readClause_59 ⟨Nat.le_of_ble_eq_true rfl, Nat.le_of_ble_eq_true rfl⟩) hS hA hP hD [2, 3] [0, 1] rfl rfl (by decide) (by decide) (fun u H locs hw_12 hP hD hS => ?_)
    obtain ⟨ta__12, fn__12, fb__12⟩ := u
    replace hP : va_P D classes [(h0, .inr (5, (fX5 h1 h2 h3 h4))), (aI k h1 10 (vv n see tm gg_11)), (x0, .inr (6, (fX6 x1 (nI tz) (nI ta__12) na__9 fn__12 fb__12))), (aB k x1 240 fx)] H := hP
    replace hD : va_D A [(h0, .inr (5, (fX5 h1 h2 h3 h4))), (aI k h1 10 (vv n see tm gg_11)), (x0, .inr (6, (fX6 x1 (nI tz) (nI ta__12) na__9 fn__12 fb__12))), (aB k x1 240 fx)] := hD
    try dsimp only at hw_12
    have hP9 := hP.sub (ws' := [(h0, .inr (5, (fX5 h1 h2 h3 h4))), (aI k h1 10 (vv n see tm gg_11)), (x0, .inr (6, (fX6 x1 (nI tz) (nI ta__12) na__9 fn__12 fb__12))), (aB k x1 240 fx)]) [0, 1, 2, 3] rfl
    have hD9 := hD.sub (ws' := [(h0, .inr (5, (fX5 h1 h2 h3 h4))), (aI k h1 10 (vv n see tm gg_11)), (x0, .inr (6, (fX6 x1 (nI tz) (nI ta__12) na__9 fn__12 fb__12))), (aB k x1 240 fx)]) [0, 1, 2, 3] (by decide) rfl
    exact W.vret hx hb hr (fun t ht hW => ⟨⟨(see, tm, gg_11, ta__12, na__9, fn__12, fb__12), rfl, ⟨by omega, by omega, by omega, by omega⟩, by rw [ht]; exact hP9, hD9⟩, hS.F ht⟩) hS.2.2 dX5_readClause_62
  · refine lv_aload_n hx hb dX5_readClause_0 rfl (lv_at hl 0 rfl) ?_
    refine va_get (D := D) (ci := 5) (v := .ref h1) (C := RX5) (T := TX5) (N := 4) hx hb hts inX5 hown hK hP 0 rfl rfl 0 (by decide) (hts _ tw_146) (fun _ h9 => h9) rfl dX5_readClause_1 ?_
    refine lv_iload_n hx hb dX5_readClause_4 rfl (lv_at hl 2 rfl) ?_
    refine lv_aload_n hx hb dX5_readClause_5 rfl (lv_at hl 1 rfl) ?_
    refine va_getsN (A := A) hx hb (hZ.2.2.2.2.1.narrow hAlo) hS hown ((hZ.2.2.2.2.2.2.2.2.1.2.1 (RX5, 106, "LastPlace", "LEAST", "[I", RX7) (List.mem_of_getElem? (i := 1) rfl)).use rfl) (fun _ h9 => h9) dX5_readClause_6 ?_
    refine lv_iload_n hx hb dX5_readClause_9 rfl (lv_at hl 2 rfl) ?_
    refine va_ti (A := A) hx hb (hZ.2.2.2.2.2.1.narrow hAlo) hS (i := 4) (by unfold vp_in; decide) (v := .int 0) rfl dX5_readClause_10 ?_
    refine va_getsN (A := A) hx hb (hZ.2.2.1.narrow hAlo) hS hown ((hZ.2.2.2.2.2.2.2.2.1.2.1 (RX5, 109, "LastPlace", "MOST", "[I", RX7) (List.mem_of_getElem? (i := 2) rfl)).use rfl) (fun _ h9 => h9) dX5_readClause_11 ?_
    refine lv_iload_n hx hb dX5_readClause_14 rfl (lv_at hl 2 rfl) ?_
    refine va_ti (A := A) hx hb (hZ.2.2.2.1.narrow hAlo) hS (i := 4) (by unfold vp_in; decide) (v := .int 99) rfl dX5_readClause_15 ?_
    refine rw_i (D := D) (wr := [(h0, .inr (5, (fX5 h1 h2 h3 h4))), (aI k h1 10 (vv n see tm g))]) (va_runV (As := [.int 0, .int 99]) (rest := [.int 4, .ref h1]) ⟨hx, hb, hml, hown, hts⟩ ((x_needNumber l D k st lo x0 x1 tz ta na fn fb fx 0 99 (by omega) (by omega) (by decide)) s.heap.size) (cwV 2 hts (gV tw_467 tw_468 tw_469 tw_80 tw_470) rfl rfl rfl (by decide +kernel) ⟨Nat.le_of_ble_eq_true rfl, Nat.le_of_ble_eq_true rfl⟩) (pV hS hAlo hlo hP hK (va_Dlo hD hAlo) hZ [2, 3] (by decide) rfl (ci := 6) (q := (RX6, TX6, 6)) (q0 := 0) rfl rfl) rfl rfl hl.1 rfl (lv_room (Nat.le_of_ble_eq_true rfl)) dX5_readClause_16 ⟨Nat.le_of_ble_eq_true rfl, Nat.le_of_ble_eq_true rfl⟩) hS hA hP hD [2, 3] [0, 1] rfl rfl (by decide) (by decide) (fun r_13 u H locs hw_13 hP hD hS => ?_)
    obtain ⟨ta__13, na__13, fn__13, fb__13⟩ := u
    replace hP : va_P D classes [(h0, .inr (5, (fX5 h1 h2 h3 h4))), (aI k h1 10 (vv n see tm g)), (x0, .inr (6, (fX6 x1 (nI tz) (nI ta__13) na__13 fn__13 fb__13))), (aB k x1 240 fx)] H := hP
    replace hD : va_D A [(h0, .inr (5, (fX5 h1 h2 h3 h4))), (aI k h1 10 (vv n see tm g)), (x0, .inr (6, (fX6 x1 (nI tz) (nI ta__13) na__13 fn__13 fb__13))), (aB k x1 240 fx)] := hD
    try dsimp only at hw_13
    refine va_iast hx hb hK hP hD hS 1 1 rfl rfl (by unfold vp_in; decide) dX5_readClause_19 (fun H locs hP hD hS => ?_)
    replace hP : va_P D classes [(h0, .inr (5, (fX5 h1 h2 h3 h4))), (aI k h1 10 (upd (vv n see tm g) (Int32.toNatClampNeg 4) r_13)), (x0, .inr (6, (fX6 x1 (nI tz) (nI ta__13) na__13 fn__13 fb__13))), (aB k x1 240 fx)] H := hP
    replace hD : va_D A [(h0, .inr (5, (fX5 h1 h2 h3 h4))), (aI k h1 10 (upd (vv n see tm g) (Int32.toNatClampNeg 4) r_13)), (x0, .inr (6, (fX6 x1 (nI tz) (nI ta__13) na__13 fn__13 fb__13))), (aB k x1 240 fx)] := hD
    rw [show upd (vv n see tm g) (Int32.toNatClampNeg 4) r_13 = vv n see tm (upd g 4 r_13) from vv_upd _ _ _ _ _ _ (by decide) (by decide) (by decide)] at hP hD
    generalize upd g 4 r_13 = gg_15 at hP hD
    replace hP : va_P D classes [(h0, .inr (5, (fX5 h1 h2 h3 h4))), (aI k h1 10 (vv n see tm gg_15)), (x0, .inr (6, (fX6 x1 (nI tz) (nI ta__13) na__13 fn__13 fb__13))), (aB k x1 240 fx)] H := hP
    replace hD : va_D A [(h0, .inr (5, (fX5 h1 h2 h3 h4))), (aI k h1 10 (vv n see tm gg_15)), (x0, .inr (6, (fX6 x1 (nI tz) (nI ta__13) na__13 fn__13 fb__13))), (aB k x1 240 fx)] := hD
    refine lv_iload_n hx hb dX5_readClause_20 rfl (lv_at hl 2 rfl) ?_
    refine lv_bipush (v := 7) hx hb dX5_readClause_21 (by decide) ?_
    refine lv_icmp_ne (tgt := 58) hx hb dX5_readClause_23 (by decide) (fun _ => ?_) (fun h => absurd h (by decide))
    refine lv_aload_n hx hb dX5_readClause_58 rfl (lv_at hl 1 rfl) ?_
    refine rw_v (D := D) (wr := [(h0, .inr (5, (fX5 h1 h2 h3 h4))), (aI k h1 10 (vv n see tm gg_15))]) (va_runV (As := []) (rest := []) ⟨hx, hb, hml, hown, hts⟩ ((x_needSemicolon l D k st lo x0 x1 tz ta__13 na__13 fn__13 fb__13 fx (by omega) (by omega)) H.size) (cwV 0 hts (gV tw_488 tw_489 tw_490 tw_80 tw_491) rfl rfl rfl (by decide +kernel) ⟨Nat.le_of_ble_eq_true rfl, Nat.le_of_ble_eq_true rfl⟩) (pV hS hAlo hlo hP hK (va_Dlo hD hAlo) hZ [2, 3] (by decide) rfl (ci := 6) (q := (RX6, TX6, 6)) (q0 := 0) rfl rfl) rfl rfl hl.1 rfl (lv_room (Nat.le_of_ble_eq_true rfl)) dX5_readClause_59 ⟨Nat.le_of_ble_eq_true rfl, Nat.le_of_ble_eq_true rfl⟩) hS hA hP hD [2, 3] [0, 1] rfl rfl (by decide) (by decide) (fun u H locs hw_16 hP hD hS => ?_)
    obtain ⟨ta__16, fn__16, fb__16⟩ := u
    replace hP : va_P D classes [(h0, .inr (5, (fX5 h1 h2 h3 h4))), (aI k h1 10 (vv n see tm gg_15)), (x0, .inr (6, (fX6 x1 (nI tz) (nI ta__16) na__13 fn__16 fb__16))), (aB k x1 240 fx)] H := hP
    replace hD : va_D A [(h0, .inr (5, (fX5 h1 h2 h3 h4))), (aI k h1 10 (vv n see tm gg_15)), (x0, .inr (6, (fX6 x1 (nI tz) (nI ta__16) na__13 fn__16 fb__16))), (aB k x1 240 fx)] := hD
    try dsimp only at hw_16
    have hP9 := hP.sub (ws' := [(h0, .inr (5, (fX5 h1 h2 h3 h4))), (aI k h1 10 (vv n see tm gg_15)), (x0, .inr (6, (fX6 x1 (nI tz) (nI ta__16) na__13 fn__16 fb__16))), (aB k x1 240 fx)]) [0, 1, 2, 3] rfl
    have hD9 := hD.sub (ws' := [(h0, .inr (5, (fX5 h1 h2 h3 h4))), (aI k h1 10 (vv n see tm gg_15)), (x0, .inr (6, (fX6 x1 (nI tz) (nI ta__16) na__13 fn__16 fb__16))), (aB k x1 240 fx)]) [0, 1, 2, 3] (by decide) rfl
    exact W.vret hx hb hr (fun t ht hW => ⟨⟨(see, tm, gg_15, ta__16, na__13, fn__16, fb__16), rfl, ⟨by omega, by omega, by omega, by omega⟩, by rw [ht]; exact hP9, hD9⟩, hS.F ht⟩) hS.2.2 dX5_readClause_62
  · refine lv_aload_n hx hb dX5_readClause_0 rfl (lv_at hl 0 rfl) ?_
    refine va_get (D := D) (ci := 5) (v := .ref h1) (C := RX5) (T := TX5) (N := 4) hx hb hts inX5 hown hK hP 0 rfl rfl 0 (by decide) (hts _ tw_146) (fun _ h9 => h9) rfl dX5_readClause_1 ?_
    refine lv_iload_n hx hb dX5_readClause_4 rfl (lv_at hl 2 rfl) ?_
    refine lv_aload_n hx hb dX5_readClause_5 rfl (lv_at hl 1 rfl) ?_
    refine va_getsN (A := A) hx hb (hZ.2.2.2.2.1.narrow hAlo) hS hown ((hZ.2.2.2.2.2.2.2.2.1.2.1 (RX5, 106, "LastPlace", "LEAST", "[I", RX7) (List.mem_of_getElem? (i := 1) rfl)).use rfl) (fun _ h9 => h9) dX5_readClause_6 ?_
    refine lv_iload_n hx hb dX5_readClause_9 rfl (lv_at hl 2 rfl) ?_
    refine va_ti (A := A) hx hb (hZ.2.2.2.2.2.1.narrow hAlo) hS (i := 5) (by unfold vp_in; decide) (v := .int 0) rfl dX5_readClause_10 ?_
    refine va_getsN (A := A) hx hb (hZ.2.2.1.narrow hAlo) hS hown ((hZ.2.2.2.2.2.2.2.2.1.2.1 (RX5, 109, "LastPlace", "MOST", "[I", RX7) (List.mem_of_getElem? (i := 2) rfl)).use rfl) (fun _ h9 => h9) dX5_readClause_11 ?_
    refine lv_iload_n hx hb dX5_readClause_14 rfl (lv_at hl 2 rfl) ?_
    refine va_ti (A := A) hx hb (hZ.2.2.2.1.narrow hAlo) hS (i := 5) (by unfold vp_in; decide) (v := .int 200) rfl dX5_readClause_15 ?_
    refine rw_i (D := D) (wr := [(h0, .inr (5, (fX5 h1 h2 h3 h4))), (aI k h1 10 (vv n see tm g))]) (va_runV (As := [.int 0, .int 200]) (rest := [.int 5, .ref h1]) ⟨hx, hb, hml, hown, hts⟩ ((x_needNumber l D k st lo x0 x1 tz ta na fn fb fx 0 200 (by omega) (by omega) (by decide)) s.heap.size) (cwV 2 hts (gV tw_467 tw_468 tw_469 tw_80 tw_470) rfl rfl rfl (by decide +kernel) ⟨Nat.le_of_ble_eq_true rfl, Nat.le_of_ble_eq_true rfl⟩) (pV hS hAlo hlo hP hK (va_Dlo hD hAlo) hZ [2, 3] (by decide) rfl (ci := 6) (q := (RX6, TX6, 6)) (q0 := 0) rfl rfl) rfl rfl hl.1 rfl (lv_room (Nat.le_of_ble_eq_true rfl)) dX5_readClause_16 ⟨Nat.le_of_ble_eq_true rfl, Nat.le_of_ble_eq_true rfl⟩) hS hA hP hD [2, 3] [0, 1] rfl rfl (by decide) (by decide) (fun r_17 u H locs hw_17 hP hD hS => ?_)
    obtain ⟨ta__17, na__17, fn__17, fb__17⟩ := u
    replace hP : va_P D classes [(h0, .inr (5, (fX5 h1 h2 h3 h4))), (aI k h1 10 (vv n see tm g)), (x0, .inr (6, (fX6 x1 (nI tz) (nI ta__17) na__17 fn__17 fb__17))), (aB k x1 240 fx)] H := hP
    replace hD : va_D A [(h0, .inr (5, (fX5 h1 h2 h3 h4))), (aI k h1 10 (vv n see tm g)), (x0, .inr (6, (fX6 x1 (nI tz) (nI ta__17) na__17 fn__17 fb__17))), (aB k x1 240 fx)] := hD
    try dsimp only at hw_17
    refine va_iast hx hb hK hP hD hS 1 1 rfl rfl (by unfold vp_in; decide) dX5_readClause_19 (fun H locs hP hD hS => ?_)
    replace hP : va_P D classes [(h0, .inr (5, (fX5 h1 h2 h3 h4))), (aI k h1 10 (upd (vv n see tm g) (Int32.toNatClampNeg 5) r_17)), (x0, .inr (6, (fX6 x1 (nI tz) (nI ta__17) na__17 fn__17 fb__17))), (aB k x1 240 fx)] H := hP
    replace hD : va_D A [(h0, .inr (5, (fX5 h1 h2 h3 h4))), (aI k h1 10 (upd (vv n see tm g) (Int32.toNatClampNeg 5) r_17)), (x0, .inr (6, (fX6 x1 (nI tz) (nI ta__17) na__17 fn__17 fb__17))), (aB k x1 240 fx)] := hD
    rw [show upd (vv n see tm g) (Int32.toNatClampNeg 5) r_17 = vv n see tm (upd g 5 r_17) from vv_upd _ _ _ _ _ _ (by decide) (by decide) (by decide)] at hP hD
    generalize upd g 5 r_17 = gg_19 at hP hD
    replace hP : va_P D classes [(h0, .inr (5, (fX5 h1 h2 h3 h4))), (aI k h1 10 (vv n see tm gg_19)), (x0, .inr (6, (fX6 x1 (nI tz) (nI ta__17) na__17 fn__17 fb__17))), (aB k x1 240 fx)] H := hP
    replace hD : va_D A [(h0, .inr (5, (fX5 h1 h2 h3 h4))), (aI k h1 10 (vv n see tm gg_19)), (x0, .inr (6, (fX6 x1 (nI tz) (nI ta__17) na__17 fn__17 fb__17))), (aB k x1 240 fx)] := hD
    refine lv_iload_n hx hb dX5_readClause_20 rfl (lv_at hl 2 rfl) ?_
    refine lv_bipush (v := 7) hx hb dX5_readClause_21 (by decide) ?_
    refine lv_icmp_ne (tgt := 58) hx hb dX5_readClause_23 (by decide) (fun _ => ?_) (fun h => absurd h (by decide))
    refine lv_aload_n hx hb dX5_readClause_58 rfl (lv_at hl 1 rfl) ?_
    refine rw_v (D := D) (wr := [(h0, .inr (5, (fX5 h1 h2 h3 h4))), (aI k h1 10 (vv n see tm gg_19))]) (va_runV (As := []) (rest := []) ⟨hx, hb, hml, hown, hts⟩ ((x_needSemicolon l D k st lo x0 x1 tz ta__17 na__17 fn__17 fb__17 fx (by omega) (by omega)) H.size) (cwV 0 hts (gV tw_488 tw_489 tw_490 tw_80 tw_491) rfl rfl rfl (by decide +kernel) ⟨Nat.le_of_ble_eq_true rfl, Nat.le_of_ble_eq_true rfl⟩) (pV hS hAlo hlo hP hK (va_Dlo hD hAlo) hZ [2, 3] (by decide) rfl (ci := 6) (q := (RX6, TX6, 6)) (q0 := 0) rfl rfl) rfl rfl hl.1 rfl (lv_room (Nat.le_of_ble_eq_true rfl)) dX5_readClause_59 ⟨Nat.le_of_ble_eq_true rfl, Nat.le_of_ble_eq_true rfl⟩) hS hA hP hD [2, 3] [0, 1] rfl rfl (by decide) (by decide) (fun u H locs hw_20 hP hD hS => ?_)
    obtain ⟨ta__20, fn__20, fb__20⟩ := u
    replace hP : va_P D classes [(h0, .inr (5, (fX5 h1 h2 h3 h4))), (aI k h1 10 (vv n see tm gg_19)), (x0, .inr (6, (fX6 x1 (nI tz) (nI ta__20) na__17 fn__20 fb__20))), (aB k x1 240 fx)] H := hP
    replace hD : va_D A [(h0, .inr (5, (fX5 h1 h2 h3 h4))), (aI k h1 10 (vv n see tm gg_19)), (x0, .inr (6, (fX6 x1 (nI tz) (nI ta__20) na__17 fn__20 fb__20))), (aB k x1 240 fx)] := hD
    try dsimp only at hw_20
    have hP9 := hP.sub (ws' := [(h0, .inr (5, (fX5 h1 h2 h3 h4))), (aI k h1 10 (vv n see tm gg_19)), (x0, .inr (6, (fX6 x1 (nI tz) (nI ta__20) na__17 fn__20 fb__20))), (aB k x1 240 fx)]) [0, 1, 2, 3] rfl
    have hD9 := hD.sub (ws' := [(h0, .inr (5, (fX5 h1 h2 h3 h4))), (aI k h1 10 (vv n see tm gg_19)), (x0, .inr (6, (fX6 x1 (nI tz) (nI ta__20) na__17 fn__20 fb__20))), (aB k x1 240 fx)]) [0, 1, 2, 3] (by decide) rfl
    exact W.vret hx hb hr (fun t ht hW => ⟨⟨(see, tm, gg_19, ta__20, na__17, fn__20, fb__20), rfl, ⟨by omega, by omega, by omega, by omega⟩, by rw [ht]; exact hP9, hD9⟩, hS.F ht⟩) hS.2.2 dX5_readClause_62
  · refine lv_aload_n hx hb dX5_readClause_0 rfl (lv_at hl 0 rfl) ?_
    refine va_get (D := D) (ci := 5) (v := .ref h1) (C := RX5) (T := TX5) (N := 4) hx hb hts inX5 hown hK hP 0 rfl rfl 0 (by decide) (hts _ tw_146) (fun _ h9 => h9) rfl dX5_readClause_1 ?_
    refine lv_iload_n hx hb dX5_readClause_4 rfl (lv_at hl 2 rfl) ?_
    refine lv_aload_n hx hb dX5_readClause_5 rfl (lv_at hl 1 rfl) ?_
    refine va_getsN (A := A) hx hb (hZ.2.2.2.2.1.narrow hAlo) hS hown ((hZ.2.2.2.2.2.2.2.2.1.2.1 (RX5, 106, "LastPlace", "LEAST", "[I", RX7) (List.mem_of_getElem? (i := 1) rfl)).use rfl) (fun _ h9 => h9) dX5_readClause_6 ?_
    refine lv_iload_n hx hb dX5_readClause_9 rfl (lv_at hl 2 rfl) ?_
    refine va_ti (A := A) hx hb (hZ.2.2.2.2.2.1.narrow hAlo) hS (i := 6) (by unfold vp_in; decide) (v := .int 0) rfl dX5_readClause_10 ?_
    refine va_getsN (A := A) hx hb (hZ.2.2.1.narrow hAlo) hS hown ((hZ.2.2.2.2.2.2.2.2.1.2.1 (RX5, 109, "LastPlace", "MOST", "[I", RX7) (List.mem_of_getElem? (i := 2) rfl)).use rfl) (fun _ h9 => h9) dX5_readClause_11 ?_
    refine lv_iload_n hx hb dX5_readClause_14 rfl (lv_at hl 2 rfl) ?_
    refine va_ti (A := A) hx hb (hZ.2.2.2.1.narrow hAlo) hS (i := 6) (by unfold vp_in; decide) (v := .int 2) rfl dX5_readClause_15 ?_
    refine rw_i (D := D) (wr := [(h0, .inr (5, (fX5 h1 h2 h3 h4))), (aI k h1 10 (vv n see tm g))]) (va_runV (As := [.int 0, .int 2]) (rest := [.int 6, .ref h1]) ⟨hx, hb, hml, hown, hts⟩ ((x_needNumber l D k st lo x0 x1 tz ta na fn fb fx 0 2 (by omega) (by omega) (by decide)) s.heap.size) (cwV 2 hts (gV tw_467 tw_468 tw_469 tw_80 tw_470) rfl rfl rfl (by decide +kernel) ⟨Nat.le_of_ble_eq_true rfl, Nat.le_of_ble_eq_true rfl⟩) (pV hS hAlo hlo hP hK (va_Dlo hD hAlo) hZ [2, 3] (by decide) rfl (ci := 6) (q := (RX6, TX6, 6)) (q0 := 0) rfl rfl) rfl rfl hl.1 rfl (lv_room (Nat.le_of_ble_eq_true rfl)) dX5_readClause_16 ⟨Nat.le_of_ble_eq_true rfl, Nat.le_of_ble_eq_true rfl⟩) hS hA hP hD [2, 3] [0, 1] rfl rfl (by decide) (by decide) (fun r_21 u H locs hw_21 hP hD hS => ?_)
    obtain ⟨ta__21, na__21, fn__21, fb__21⟩ := u
    replace hP : va_P D classes [(h0, .inr (5, (fX5 h1 h2 h3 h4))), (aI k h1 10 (vv n see tm g)), (x0, .inr (6, (fX6 x1 (nI tz) (nI ta__21) na__21 fn__21 fb__21))), (aB k x1 240 fx)] H := hP
    replace hD : va_D A [(h0, .inr (5, (fX5 h1 h2 h3 h4))), (aI k h1 10 (vv n see tm g)), (x0, .inr (6, (fX6 x1 (nI tz) (nI ta__21) na__21 fn__21 fb__21))), (aB k x1 240 fx)] := hD
    try dsimp only at hw_21
    obtain ⟨nb_22, hnl_22, hnh_22, rfl⟩ := inB_ofc (a := 0) (b := 2) (by omega) (by omega) hw_21.2.2.1
    refine va_iast hx hb hK hP hD hS 1 1 rfl rfl (by unfold vp_in; decide) dX5_readClause_19 (fun H locs hP hD hS => ?_)
    replace hP : va_P D classes [(h0, .inr (5, (fX5 h1 h2 h3 h4))), (aI k h1 10 (upd (vv n see tm g) (Int32.toNatClampNeg 6) (nI nb_22))), (x0, .inr (6, (fX6 x1 (nI tz) (nI ta__21) na__21 fn__21 fb__21))), (aB k x1 240 fx)] H := hP
    replace hD : va_D A [(h0, .inr (5, (fX5 h1 h2 h3 h4))), (aI k h1 10 (upd (vv n see tm g) (Int32.toNatClampNeg 6) (nI nb_22))), (x0, .inr (6, (fX6 x1 (nI tz) (nI ta__21) na__21 fn__21 fb__21))), (aB k x1 240 fx)] := hD
    rw [show upd (vv n see tm g) (Int32.toNatClampNeg 6) (nI nb_22) = vv n nb_22 tm g from vv_upd6 _ _ _ _ _] at hP hD
    replace hP : va_P D classes [(h0, .inr (5, (fX5 h1 h2 h3 h4))), (aI k h1 10 (vv n nb_22 tm g)), (x0, .inr (6, (fX6 x1 (nI tz) (nI ta__21) na__21 fn__21 fb__21))), (aB k x1 240 fx)] H := hP
    replace hD : va_D A [(h0, .inr (5, (fX5 h1 h2 h3 h4))), (aI k h1 10 (vv n nb_22 tm g)), (x0, .inr (6, (fX6 x1 (nI tz) (nI ta__21) na__21 fn__21 fb__21))), (aB k x1 240 fx)] := hD
    refine lv_iload_n hx hb dX5_readClause_20 rfl (lv_at hl 2 rfl) ?_
    refine lv_bipush (v := 7) hx hb dX5_readClause_21 (by decide) ?_
    refine lv_icmp_ne (tgt := 58) hx hb dX5_readClause_23 (by decide) (fun _ => ?_) (fun h => absurd h (by decide))
    refine lv_aload_n hx hb dX5_readClause_58 rfl (lv_at hl 1 rfl) ?_
    refine rw_v (D := D) (wr := [(h0, .inr (5, (fX5 h1 h2 h3 h4))), (aI k h1 10 (vv n nb_22 tm g))]) (va_runV (As := []) (rest := []) ⟨hx, hb, hml, hown, hts⟩ ((x_needSemicolon l D k st lo x0 x1 tz ta__21 na__21 fn__21 fb__21 fx (by omega) (by omega)) H.size) (cwV 0 hts (gV tw_488 tw_489 tw_490 tw_80 tw_491) rfl rfl rfl (by decide +kernel) ⟨Nat.le_of_ble_eq_true rfl, Nat.le_of_ble_eq_true rfl⟩) (pV hS hAlo hlo hP hK (va_Dlo hD hAlo) hZ [2, 3] (by decide) rfl (ci := 6) (q := (RX6, TX6, 6)) (q0 := 0) rfl rfl) rfl rfl hl.1 rfl (lv_room (Nat.le_of_ble_eq_true rfl)) dX5_readClause_59 ⟨Nat.le_of_ble_eq_true rfl, Nat.le_of_ble_eq_true rfl⟩) hS hA hP hD [2, 3] [0, 1] rfl rfl (by decide) (by decide) (fun u H locs hw_25 hP hD hS => ?_)
    obtain ⟨ta__25, fn__25, fb__25⟩ := u
    replace hP : va_P D classes [(h0, .inr (5, (fX5 h1 h2 h3 h4))), (aI k h1 10 (vv n nb_22 tm g)), (x0, .inr (6, (fX6 x1 (nI tz) (nI ta__25) na__21 fn__25 fb__25))), (aB k x1 240 fx)] H := hP
    replace hD : va_D A [(h0, .inr (5, (fX5 h1 h2 h3 h4))), (aI k h1 10 (vv n nb_22 tm g)), (x0, .inr (6, (fX6 x1 (nI tz) (nI ta__25) na__21 fn__25 fb__25))), (aB k x1 240 fx)] := hD
    try dsimp only at hw_25
    have hP9 := hP.sub (ws' := [(h0, .inr (5, (fX5 h1 h2 h3 h4))), (aI k h1 10 (vv n nb_22 tm g)), (x0, .inr (6, (fX6 x1 (nI tz) (nI ta__25) na__21 fn__25 fb__25))), (aB k x1 240 fx)]) [0, 1, 2, 3] rfl
    have hD9 := hD.sub (ws' := [(h0, .inr (5, (fX5 h1 h2 h3 h4))), (aI k h1 10 (vv n nb_22 tm g)), (x0, .inr (6, (fX6 x1 (nI tz) (nI ta__25) na__21 fn__25 fb__25))), (aB k x1 240 fx)]) [0, 1, 2, 3] (by decide) rfl
    exact W.vret hx hb hr (fun t ht hW => ⟨⟨(nb_22, tm, g, ta__25, na__21, fn__25, fb__25), rfl, ⟨by omega, by omega, by omega, by omega⟩, by rw [ht]; exact hP9, hD9⟩, hS.F ht⟩) hS.2.2 dX5_readClause_62
  · refine lv_aload_n hx hb dX5_readClause_0 rfl (lv_at hl 0 rfl) ?_
    refine va_get (D := D) (ci := 5) (v := .ref h1) (C := RX5) (T := TX5) (N := 4) hx hb hts inX5 hown hK hP 0 rfl rfl 0 (by decide) (hts _ tw_146) (fun _ h9 => h9) rfl dX5_readClause_1 ?_
    refine lv_iload_n hx hb dX5_readClause_4 rfl (lv_at hl 2 rfl) ?_
    refine lv_aload_n hx hb dX5_readClause_5 rfl (lv_at hl 1 rfl) ?_
    refine va_getsN (A := A) hx hb (hZ.2.2.2.2.1.narrow hAlo) hS hown ((hZ.2.2.2.2.2.2.2.2.1.2.1 (RX5, 106, "LastPlace", "LEAST", "[I", RX7) (List.mem_of_getElem? (i := 1) rfl)).use rfl) (fun _ h9 => h9) dX5_readClause_6 ?_
    refine lv_iload_n hx hb dX5_readClause_9 rfl (lv_at hl 2 rfl) ?_
    refine va_ti (A := A) hx hb (hZ.2.2.2.2.2.1.narrow hAlo) hS (i := 7) (by unfold vp_in; decide) (v := .int 0) rfl dX5_readClause_10 ?_
    refine va_getsN (A := A) hx hb (hZ.2.2.1.narrow hAlo) hS hown ((hZ.2.2.2.2.2.2.2.2.1.2.1 (RX5, 109, "LastPlace", "MOST", "[I", RX7) (List.mem_of_getElem? (i := 2) rfl)).use rfl) (fun _ h9 => h9) dX5_readClause_11 ?_
    refine lv_iload_n hx hb dX5_readClause_14 rfl (lv_at hl 2 rfl) ?_
    refine va_ti (A := A) hx hb (hZ.2.2.2.1.narrow hAlo) hS (i := 7) (by unfold vp_in; decide) (v := .int 60) rfl dX5_readClause_15 ?_
    refine rw_i (D := D) (wr := [(h0, .inr (5, (fX5 h1 h2 h3 h4))), (aI k h1 10 (vv n see tm g))]) (va_runV (As := [.int 0, .int 60]) (rest := [.int 7, .ref h1]) ⟨hx, hb, hml, hown, hts⟩ ((x_needNumber l D k st lo x0 x1 tz ta na fn fb fx 0 60 (by omega) (by omega) (by decide)) s.heap.size) (cwV 2 hts (gV tw_467 tw_468 tw_469 tw_80 tw_470) rfl rfl rfl (by decide +kernel) ⟨Nat.le_of_ble_eq_true rfl, Nat.le_of_ble_eq_true rfl⟩) (pV hS hAlo hlo hP hK (va_Dlo hD hAlo) hZ [2, 3] (by decide) rfl (ci := 6) (q := (RX6, TX6, 6)) (q0 := 0) rfl rfl) rfl rfl hl.1 rfl (lv_room (Nat.le_of_ble_eq_true rfl)) dX5_readClause_16 ⟨Nat.le_of_ble_eq_true rfl, Nat.le_of_ble_eq_true rfl⟩) hS hA hP hD [2, 3] [0, 1] rfl rfl (by decide) (by decide) (fun r_26 u H locs hw_26 hP hD hS => ?_)
    obtain ⟨ta__26, na__26, fn__26, fb__26⟩ := u
    replace hP : va_P D classes [(h0, .inr (5, (fX5 h1 h2 h3 h4))), (aI k h1 10 (vv n see tm g)), (x0, .inr (6, (fX6 x1 (nI tz) (nI ta__26) na__26 fn__26 fb__26))), (aB k x1 240 fx)] H := hP
    replace hD : va_D A [(h0, .inr (5, (fX5 h1 h2 h3 h4))), (aI k h1 10 (vv n see tm g)), (x0, .inr (6, (fX6 x1 (nI tz) (nI ta__26) na__26 fn__26 fb__26))), (aB k x1 240 fx)] := hD
    try dsimp only at hw_26
    refine va_iast hx hb hK hP hD hS 1 1 rfl rfl (by unfold vp_in; decide) dX5_readClause_19 (fun H locs hP hD hS => ?_)
    replace hP : va_P D classes [(h0, .inr (5, (fX5 h1 h2 h3 h4))), (aI k h1 10 (upd (vv n see tm g) (Int32.toNatClampNeg 7) r_26)), (x0, .inr (6, (fX6 x1 (nI tz) (nI ta__26) na__26 fn__26 fb__26))), (aB k x1 240 fx)] H := hP
    replace hD : va_D A [(h0, .inr (5, (fX5 h1 h2 h3 h4))), (aI k h1 10 (upd (vv n see tm g) (Int32.toNatClampNeg 7) r_26)), (x0, .inr (6, (fX6 x1 (nI tz) (nI ta__26) na__26 fn__26 fb__26))), (aB k x1 240 fx)] := hD
    rw [show upd (vv n see tm g) (Int32.toNatClampNeg 7) r_26 = vv n see tm (upd g 7 r_26) from vv_upd _ _ _ _ _ _ (by decide) (by decide) (by decide)] at hP hD
    generalize upd g 7 r_26 = gg_28 at hP hD
    replace hP : va_P D classes [(h0, .inr (5, (fX5 h1 h2 h3 h4))), (aI k h1 10 (vv n see tm gg_28)), (x0, .inr (6, (fX6 x1 (nI tz) (nI ta__26) na__26 fn__26 fb__26))), (aB k x1 240 fx)] H := hP
    replace hD : va_D A [(h0, .inr (5, (fX5 h1 h2 h3 h4))), (aI k h1 10 (vv n see tm gg_28)), (x0, .inr (6, (fX6 x1 (nI tz) (nI ta__26) na__26 fn__26 fb__26))), (aB k x1 240 fx)] := hD
    refine lv_iload_n hx hb dX5_readClause_20 rfl (lv_at hl 2 rfl) ?_
    refine lv_bipush (v := 7) hx hb dX5_readClause_21 (by decide) ?_
    refine lv_icmp_ne (tgt := 58) hx hb dX5_readClause_23 (by decide) (fun h => absurd (by decide) h) (fun _ => ?_)
    refine lv_aload_n hx hb dX5_readClause_26 rfl (lv_at hl 1 rfl) ?_
    refine lv_bipush (v := 8) hx hb dX5_readClause_27 (by decide) ?_
    refine ro_r (D := D) (va_runS (As := [.int 8]) (rest := [.ref x0]) ⟨hx, hb, hml, hown, hts⟩ ((x_wordOf_8 l D k st lo ) H.size) (va_cwS 1 hts (gS tw_386 tw_387 tw_81 tw_388) rfl rfl rfl (by decide +kernel) ⟨Nat.le_of_ble_eq_true rfl, Nat.le_of_ble_eq_true rfl⟩) (pS hS hAlo hlo hP hK (va_Dlo hD hAlo) hZ [] (by decide) rfl) rfl rfl hl.1 rfl (lv_room (Nat.le_of_ble_eq_true rfl)) dX5_readClause_29 ⟨Nat.le_of_ble_eq_true rfl, Nat.le_of_ble_eq_true rfl⟩) hS hA hP (fun H locs hP hS => ?_)
    refine rw_v (D := D) (wr := [(h0, .inr (5, (fX5 h1 h2 h3 h4))), (aI k h1 10 (vv n see tm gg_28))]) (va_runV (As := [.ref (st (100 + 8))]) (rest := []) ⟨hx, hb, hml, hown, hts⟩ ((x_needWord l D k st lo x0 x1 tz ta__26 na__26 fn__26 fb__26 fx 8 (by omega) (by omega) (by omega)) H.size) (cwV 1 hts (gV tw_482 tw_483 tw_484 tw_80 tw_485) rfl rfl rfl (by decide +kernel) ⟨Nat.le_of_ble_eq_true rfl, Nat.le_of_ble_eq_true rfl⟩) (pV hS hAlo hlo hP hK (va_Dlo hD hAlo) hZ [2, 3] (by decide) rfl (ci := 6) (q := (RX6, TX6, 6)) (q0 := 0) rfl rfl) rfl rfl hl.1 rfl (lv_room (Nat.le_of_ble_eq_true rfl)) dX5_readClause_32 ⟨Nat.le_of_ble_eq_true rfl, Nat.le_of_ble_eq_true rfl⟩) hS hA hP hD [2, 3] [0, 1] rfl rfl (by decide) (by decide) (fun u H locs hw_30 hP hD hS => ?_)
    obtain ⟨ta__30, fn__30, fb__30⟩ := u
    replace hP : va_P D classes [(h0, .inr (5, (fX5 h1 h2 h3 h4))), (aI k h1 10 (vv n see tm gg_28)), (x0, .inr (6, (fX6 x1 (nI tz) (nI ta__30) na__26 fn__30 fb__30))), (aB k x1 240 fx)] H := hP
    replace hD : va_D A [(h0, .inr (5, (fX5 h1 h2 h3 h4))), (aI k h1 10 (vv n see tm gg_28)), (x0, .inr (6, (fX6 x1 (nI tz) (nI ta__30) na__26 fn__30 fb__30))), (aB k x1 240 fx)] := hD
    try dsimp only at hw_30
    refine lv_aload_n hx hb dX5_readClause_35 rfl (lv_at hl 0 rfl) ?_
    refine va_get (D := D) (ci := 5) (v := .ref h1) (C := RX5) (T := TX5) (N := 4) hx hb hts inX5 hown hK hP 0 rfl rfl 0 (by decide) (hts _ tw_146) (fun _ h9 => h9) rfl dX5_readClause_36 ?_
    refine lv_bipush (v := 8) hx hb dX5_readClause_39 (by decide) ?_
    refine lv_aload_n hx hb dX5_readClause_41 rfl (lv_at hl 1 rfl) ?_
    refine va_getsN (A := A) hx hb (hZ.2.2.2.2.1.narrow hAlo) hS hown ((hZ.2.2.2.2.2.2.2.2.1.2.1 (RX5, 106, "LastPlace", "LEAST", "[I", RX7) (List.mem_of_getElem? (i := 1) rfl)).use rfl) (fun _ h9 => h9) dX5_readClause_42 ?_
    refine lv_bipush (v := 8) hx hb dX5_readClause_45 (by decide) ?_
    refine va_ti (A := A) hx hb (hZ.2.2.2.2.2.1.narrow hAlo) hS (i := 8) (by unfold vp_in; decide) (v := .int 0) rfl dX5_readClause_47 ?_
    refine va_getsN (A := A) hx hb (hZ.2.2.1.narrow hAlo) hS hown ((hZ.2.2.2.2.2.2.2.2.1.2.1 (RX5, 109, "LastPlace", "MOST", "[I", RX7) (List.mem_of_getElem? (i := 2) rfl)).use rfl) (fun _ h9 => h9) dX5_readClause_48 ?_
    refine lv_bipush (v := 8) hx hb dX5_readClause_51 (by decide) ?_
    refine va_ti (A := A) hx hb (hZ.2.2.2.1.narrow hAlo) hS (i := 8) (by unfold vp_in; decide) (v := .int 3) rfl dX5_readClause_53 ?_
    refine rw_i (D := D) (wr := [(h0, .inr (5, (fX5 h1 h2 h3 h4))), (aI k h1 10 (vv n see tm gg_28))]) (va_runV (As := [.int 0, .int 3]) (rest := [.int 8, .ref h1]) ⟨hx, hb, hml, hown, hts⟩ ((x_needNumber l D k st lo x0 x1 tz ta__30 na__26 fn__30 fb__30 fx 0 3 (by omega) (by omega) (by decide)) H.size) (cwV 2 hts (gV tw_467 tw_468 tw_469 tw_80 tw_470) rfl rfl rfl (by decide +kernel) ⟨Nat.le_of_ble_eq_true rfl, Nat.le_of_ble_eq_true rfl⟩) (pV hS hAlo hlo hP hK (va_Dlo hD hAlo) hZ [2, 3] (by decide) rfl (ci := 6) (q := (RX6, TX6, 6)) (q0 := 0) rfl rfl) rfl rfl hl.1 rfl (lv_room (Nat.le_of_ble_eq_true rfl)) dX5_readClause_54 ⟨Nat.le_of_ble_eq_true rfl, Nat.le_of_ble_eq_true rfl⟩) hS hA hP hD [2, 3] [0, 1] rfl rfl (by decide) (by decide) (fun r_31 u H locs hw_31 hP hD hS => ?_)
    obtain ⟨ta__31, na__31, fn__31, fb__31⟩ := u
    replace hP : va_P D classes [(h0, .inr (5, (fX5 h1 h2 h3 h4))), (aI k h1 10 (vv n see tm gg_28)), (x0, .inr (6, (fX6 x1 (nI tz) (nI ta__31) na__31 fn__31 fb__31))), (aB k x1 240 fx)] H := hP
    replace hD : va_D A [(h0, .inr (5, (fX5 h1 h2 h3 h4))), (aI k h1 10 (vv n see tm gg_28)), (x0, .inr (6, (fX6 x1 (nI tz) (nI ta__31) na__31 fn__31 fb__31))), (aB k x1 240 fx)] := hD
    try dsimp only at hw_31
    obtain ⟨nb_32, hnl_32, hnh_32, rfl⟩ := inB_ofc (a := 0) (b := 3) (by omega) (by omega) hw_31.2.2.1
    refine va_iast hx hb hK hP hD hS 1 1 rfl rfl (by unfold vp_in; decide) dX5_readClause_57 (fun H locs hP hD hS => ?_)
    replace hP : va_P D classes [(h0, .inr (5, (fX5 h1 h2 h3 h4))), (aI k h1 10 (upd (vv n see tm gg_28) (Int32.toNatClampNeg 8) (nI nb_32))), (x0, .inr (6, (fX6 x1 (nI tz) (nI ta__31) na__31 fn__31 fb__31))), (aB k x1 240 fx)] H := hP
    replace hD : va_D A [(h0, .inr (5, (fX5 h1 h2 h3 h4))), (aI k h1 10 (upd (vv n see tm gg_28) (Int32.toNatClampNeg 8) (nI nb_32))), (x0, .inr (6, (fX6 x1 (nI tz) (nI ta__31) na__31 fn__31 fb__31))), (aB k x1 240 fx)] := hD
    rw [show upd (vv n see tm gg_28) (Int32.toNatClampNeg 8) (nI nb_32) = vv n see nb_32 gg_28 from vv_upd8 _ _ _ _ _] at hP hD
    replace hP : va_P D classes [(h0, .inr (5, (fX5 h1 h2 h3 h4))), (aI k h1 10 (vv n see nb_32 gg_28)), (x0, .inr (6, (fX6 x1 (nI tz) (nI ta__31) na__31 fn__31 fb__31))), (aB k x1 240 fx)] H := hP
    replace hD : va_D A [(h0, .inr (5, (fX5 h1 h2 h3 h4))), (aI k h1 10 (vv n see nb_32 gg_28)), (x0, .inr (6, (fX6 x1 (nI tz) (nI ta__31) na__31 fn__31 fb__31))), (aB k x1 240 fx)] := hD
    refine lv_aload_n hx hb dX5_readClause_58 rfl (lv_at hl 1 rfl) ?_
    refine rw_v (D := D) (wr := [(h0, .inr (5, (fX5 h1 h2 h3 h4))), (aI k h1 10 (vv n see nb_32 gg_28))]) (va_runV (As := []) (rest := []) ⟨hx, hb, hml, hown, hts⟩ ((x_needSemicolon l D k st lo x0 x1 tz ta__31 na__31 fn__31 fb__31 fx (by omega) (by omega)) H.size) (cwV 0 hts (gV tw_488 tw_489 tw_490 tw_80 tw_491) rfl rfl rfl (by decide +kernel) ⟨Nat.le_of_ble_eq_true rfl, Nat.le_of_ble_eq_true rfl⟩) (pV hS hAlo hlo hP hK (va_Dlo hD hAlo) hZ [2, 3] (by decide) rfl (ci := 6) (q := (RX6, TX6, 6)) (q0 := 0) rfl rfl) rfl rfl hl.1 rfl (lv_room (Nat.le_of_ble_eq_true rfl)) dX5_readClause_59 ⟨Nat.le_of_ble_eq_true rfl, Nat.le_of_ble_eq_true rfl⟩) hS hA hP hD [2, 3] [0, 1] rfl rfl (by decide) (by decide) (fun u H locs hw_35 hP hD hS => ?_)
    obtain ⟨ta__35, fn__35, fb__35⟩ := u
    replace hP : va_P D classes [(h0, .inr (5, (fX5 h1 h2 h3 h4))), (aI k h1 10 (vv n see nb_32 gg_28)), (x0, .inr (6, (fX6 x1 (nI tz) (nI ta__35) na__31 fn__35 fb__35))), (aB k x1 240 fx)] H := hP
    replace hD : va_D A [(h0, .inr (5, (fX5 h1 h2 h3 h4))), (aI k h1 10 (vv n see nb_32 gg_28)), (x0, .inr (6, (fX6 x1 (nI tz) (nI ta__35) na__31 fn__35 fb__35))), (aB k x1 240 fx)] := hD
    try dsimp only at hw_35
    have hP9 := hP.sub (ws' := [(h0, .inr (5, (fX5 h1 h2 h3 h4))), (aI k h1 10 (vv n see nb_32 gg_28)), (x0, .inr (6, (fX6 x1 (nI tz) (nI ta__35) na__31 fn__35 fb__35))), (aB k x1 240 fx)]) [0, 1, 2, 3] rfl
    have hD9 := hD.sub (ws' := [(h0, .inr (5, (fX5 h1 h2 h3 h4))), (aI k h1 10 (vv n see nb_32 gg_28)), (x0, .inr (6, (fX6 x1 (nI tz) (nI ta__35) na__31 fn__35 fb__35))), (aB k x1 240 fx)]) [0, 1, 2, 3] (by decide) rfl
    exact W.vret hx hb hr (fun t ht hW => ⟨⟨(see, nb_32, gg_28, ta__35, na__31, fn__35, fb__35), rfl, ⟨by omega, by omega, by omega, by omega⟩, by rw [ht]; exact hP9, hD9⟩, hS.F ht⟩) hS.2.2 dX5_readClause_62
  · refine lv_aload_n hx hb dX5_readClause_0 rfl (lv_at hl 0 rfl) ?_
    refine va_get (D := D) (ci := 5) (v := .ref h1) (C := RX5) (T := TX5) (N := 4) hx hb hts inX5 hown hK hP 0 rfl rfl 0 (by decide) (hts _ tw_146) (fun _ h9 => h9) rfl dX5_readClause_1 ?_
    refine lv_iload_n hx hb dX5_readClause_4 rfl (lv_at hl 2 rfl) ?_
    refine lv_aload_n hx hb dX5_readClause_5 rfl (lv_at hl 1 rfl) ?_
    refine va_getsN (A := A) hx hb (hZ.2.2.2.2.1.narrow hAlo) hS hown ((hZ.2.2.2.2.2.2.2.2.1.2.1 (RX5, 106, "LastPlace", "LEAST", "[I", RX7) (List.mem_of_getElem? (i := 1) rfl)).use rfl) (fun _ h9 => h9) dX5_readClause_6 ?_
    refine lv_iload_n hx hb dX5_readClause_9 rfl (lv_at hl 2 rfl) ?_
    refine va_ti (A := A) hx hb (hZ.2.2.2.2.2.1.narrow hAlo) hS (i := 9) (by unfold vp_in; decide) (v := .int 0) rfl dX5_readClause_10 ?_
    refine va_getsN (A := A) hx hb (hZ.2.2.1.narrow hAlo) hS hown ((hZ.2.2.2.2.2.2.2.2.1.2.1 (RX5, 109, "LastPlace", "MOST", "[I", RX7) (List.mem_of_getElem? (i := 2) rfl)).use rfl) (fun _ h9 => h9) dX5_readClause_11 ?_
    refine lv_iload_n hx hb dX5_readClause_14 rfl (lv_at hl 2 rfl) ?_
    refine va_ti (A := A) hx hb (hZ.2.2.2.1.narrow hAlo) hS (i := 9) (by unfold vp_in; decide) (v := .int 999) rfl dX5_readClause_15 ?_
    refine rw_i (D := D) (wr := [(h0, .inr (5, (fX5 h1 h2 h3 h4))), (aI k h1 10 (vv n see tm g))]) (va_runV (As := [.int 0, .int 999]) (rest := [.int 9, .ref h1]) ⟨hx, hb, hml, hown, hts⟩ ((x_needNumber l D k st lo x0 x1 tz ta na fn fb fx 0 999 (by omega) (by omega) (by decide)) s.heap.size) (cwV 2 hts (gV tw_467 tw_468 tw_469 tw_80 tw_470) rfl rfl rfl (by decide +kernel) ⟨Nat.le_of_ble_eq_true rfl, Nat.le_of_ble_eq_true rfl⟩) (pV hS hAlo hlo hP hK (va_Dlo hD hAlo) hZ [2, 3] (by decide) rfl (ci := 6) (q := (RX6, TX6, 6)) (q0 := 0) rfl rfl) rfl rfl hl.1 rfl (lv_room (Nat.le_of_ble_eq_true rfl)) dX5_readClause_16 ⟨Nat.le_of_ble_eq_true rfl, Nat.le_of_ble_eq_true rfl⟩) hS hA hP hD [2, 3] [0, 1] rfl rfl (by decide) (by decide) (fun r_36 u H locs hw_36 hP hD hS => ?_)
    obtain ⟨ta__36, na__36, fn__36, fb__36⟩ := u
    replace hP : va_P D classes [(h0, .inr (5, (fX5 h1 h2 h3 h4))), (aI k h1 10 (vv n see tm g)), (x0, .inr (6, (fX6 x1 (nI tz) (nI ta__36) na__36 fn__36 fb__36))), (aB k x1 240 fx)] H := hP
    replace hD : va_D A [(h0, .inr (5, (fX5 h1 h2 h3 h4))), (aI k h1 10 (vv n see tm g)), (x0, .inr (6, (fX6 x1 (nI tz) (nI ta__36) na__36 fn__36 fb__36))), (aB k x1 240 fx)] := hD
    try dsimp only at hw_36
    refine va_iast hx hb hK hP hD hS 1 1 rfl rfl (by unfold vp_in; decide) dX5_readClause_19 (fun H locs hP hD hS => ?_)
    replace hP : va_P D classes [(h0, .inr (5, (fX5 h1 h2 h3 h4))), (aI k h1 10 (upd (vv n see tm g) (Int32.toNatClampNeg 9) r_36)), (x0, .inr (6, (fX6 x1 (nI tz) (nI ta__36) na__36 fn__36 fb__36))), (aB k x1 240 fx)] H := hP
    replace hD : va_D A [(h0, .inr (5, (fX5 h1 h2 h3 h4))), (aI k h1 10 (upd (vv n see tm g) (Int32.toNatClampNeg 9) r_36)), (x0, .inr (6, (fX6 x1 (nI tz) (nI ta__36) na__36 fn__36 fb__36))), (aB k x1 240 fx)] := hD
    rw [show upd (vv n see tm g) (Int32.toNatClampNeg 9) r_36 = vv n see tm (upd g 9 r_36) from vv_upd _ _ _ _ _ _ (by decide) (by decide) (by decide)] at hP hD
    generalize upd g 9 r_36 = gg_38 at hP hD
    replace hP : va_P D classes [(h0, .inr (5, (fX5 h1 h2 h3 h4))), (aI k h1 10 (vv n see tm gg_38)), (x0, .inr (6, (fX6 x1 (nI tz) (nI ta__36) na__36 fn__36 fb__36))), (aB k x1 240 fx)] H := hP
    replace hD : va_D A [(h0, .inr (5, (fX5 h1 h2 h3 h4))), (aI k h1 10 (vv n see tm gg_38)), (x0, .inr (6, (fX6 x1 (nI tz) (nI ta__36) na__36 fn__36 fb__36))), (aB k x1 240 fx)] := hD
    refine lv_iload_n hx hb dX5_readClause_20 rfl (lv_at hl 2 rfl) ?_
    refine lv_bipush (v := 7) hx hb dX5_readClause_21 (by decide) ?_
    refine lv_icmp_ne (tgt := 58) hx hb dX5_readClause_23 (by decide) (fun _ => ?_) (fun h => absurd h (by decide))
    refine lv_aload_n hx hb dX5_readClause_58 rfl (lv_at hl 1 rfl) ?_
    refine rw_v (D := D) (wr := [(h0, .inr (5, (fX5 h1 h2 h3 h4))), (aI k h1 10 (vv n see tm gg_38))]) (va_runV (As := []) (rest := []) ⟨hx, hb, hml, hown, hts⟩ ((x_needSemicolon l D k st lo x0 x1 tz ta__36 na__36 fn__36 fb__36 fx (by omega) (by omega)) H.size) (cwV 0 hts (gV tw_488 tw_489 tw_490 tw_80 tw_491) rfl rfl rfl (by decide +kernel) ⟨Nat.le_of_ble_eq_true rfl, Nat.le_of_ble_eq_true rfl⟩) (pV hS hAlo hlo hP hK (va_Dlo hD hAlo) hZ [2, 3] (by decide) rfl (ci := 6) (q := (RX6, TX6, 6)) (q0 := 0) rfl rfl) rfl rfl hl.1 rfl (lv_room (Nat.le_of_ble_eq_true rfl)) dX5_readClause_59 ⟨Nat.le_of_ble_eq_true rfl, Nat.le_of_ble_eq_true rfl⟩) hS hA hP hD [2, 3] [0, 1] rfl rfl (by decide) (by decide) (fun u H locs hw_39 hP hD hS => ?_)
    obtain ⟨ta__39, fn__39, fb__39⟩ := u
    replace hP : va_P D classes [(h0, .inr (5, (fX5 h1 h2 h3 h4))), (aI k h1 10 (vv n see tm gg_38)), (x0, .inr (6, (fX6 x1 (nI tz) (nI ta__39) na__36 fn__39 fb__39))), (aB k x1 240 fx)] H := hP
    replace hD : va_D A [(h0, .inr (5, (fX5 h1 h2 h3 h4))), (aI k h1 10 (vv n see tm gg_38)), (x0, .inr (6, (fX6 x1 (nI tz) (nI ta__39) na__36 fn__39 fb__39))), (aB k x1 240 fx)] := hD
    try dsimp only at hw_39
    have hP9 := hP.sub (ws' := [(h0, .inr (5, (fX5 h1 h2 h3 h4))), (aI k h1 10 (vv n see tm gg_38)), (x0, .inr (6, (fX6 x1 (nI tz) (nI ta__39) na__36 fn__39 fb__39))), (aB k x1 240 fx)]) [0, 1, 2, 3] rfl
    have hD9 := hD.sub (ws' := [(h0, .inr (5, (fX5 h1 h2 h3 h4))), (aI k h1 10 (vv n see tm gg_38)), (x0, .inr (6, (fX6 x1 (nI tz) (nI ta__39) na__36 fn__39 fb__39))), (aB k x1 240 fx)]) [0, 1, 2, 3] (by decide) rfl
    exact W.vret hx hb hr (fun t ht hW => ⟨⟨(see, tm, gg_38, ta__39, na__36, fn__39, fb__39), rfl, ⟨by omega, by omega, by omega, by omega⟩, by rw [ht]; exact hP9, hD9⟩, hS.F ht⟩) hS.2.2 dX5_readClause_62

theorem dX5_readFrom_0 : decode cX5_readFrom 0 = .ok (.getstatic 40, 3) := by decide +kernel
theorem dX5_readFrom_3 : decode cX5_readFrom 3 = .ok (.iconst 0, 1) := by decide +kernel
theorem dX5_readFrom_4 : decode cX5_readFrom 4 = .ok (.aload_n 0, 1) := by decide +kernel
theorem dX5_readFrom_5 : decode cX5_readFrom 5 = .ok (.getfield 9, 3) := by decide +kernel
theorem dX5_readFrom_8 : decode cX5_readFrom 8 = .ok (.iconst 0, 1) := by decide +kernel
theorem dX5_readFrom_9 : decode cX5_readFrom 9 = .ok (.bipush 10, 2) := by decide +kernel
theorem dX5_readFrom_11 : decode cX5_readFrom 11 = .ok (.invokestatic 24, 3) := by decide +kernel
theorem dX5_readFrom_14 : decode cX5_readFrom 14 = .ok (.iconst 0, 1) := by decide +kernel
theorem dX5_readFrom_15 : decode cX5_readFrom 15 = .ok (.istore_n 2, 1) := by decide +kernel
theorem dX5_readFrom_16 : decode cX5_readFrom 16 = .ok (.iconst 0, 1) := by decide +kernel
theorem dX5_readFrom_17 : decode cX5_readFrom 17 = .ok (.istore_n 3, 1) := by decide +kernel
theorem dX5_readFrom_18 : decode cX5_readFrom 18 = .ok (.iload_n 3, 1) := by decide +kernel
theorem dX5_readFrom_19 : decode cX5_readFrom 19 = .ok (.sipush 240, 3) := by decide +kernel
theorem dX5_readFrom_22 : decode cX5_readFrom 22 = .ok (.if_icmp .ge 97, 3) := by decide +kernel
theorem dX5_readFrom_25 : decode cX5_readFrom 25 = .ok (.aload_n 1, 1) := by decide +kernel
theorem dX5_readFrom_26 : decode cX5_readFrom 26 = .ok (.invokevirtual 43, 3) := by decide +kernel
theorem dX5_readFrom_29 : decode cX5_readFrom 29 = .ok (.ifCond .ne 90, 3) := by decide +kernel
theorem dX5_readFrom_32 : decode cX5_readFrom 32 = .ok (.aload_n 1, 1) := by decide +kernel
theorem dX5_readFrom_33 : decode cX5_readFrom 33 = .ok (.invokevirtual 49, 3) := by decide +kernel
theorem dX5_readFrom_36 : decode cX5_readFrom 36 = .ok (.ifCond .ne 83, 3) := by decide +kernel
theorem dX5_readFrom_39 : decode cX5_readFrom 39 = .ok (.aload_n 1, 1) := by decide +kernel
theorem dX5_readFrom_40 : decode cX5_readFrom 40 = .ok (.getfield 52, 3) := by decide +kernel
theorem dX5_readFrom_43 : decode cX5_readFrom 43 = .ok (.istore 4, 2) := by decide +kernel
theorem dX5_readFrom_45 : decode cX5_readFrom 45 = .ok (.aload_n 1, 1) := by decide +kernel
theorem dX5_readFrom_46 : decode cX5_readFrom 46 = .ok (.invokestatic 56, 3) := by decide +kernel
theorem dX5_readFrom_49 : decode cX5_readFrom 49 = .ok (.istore 5, 2) := by decide +kernel
theorem dX5_readFrom_51 : decode cX5_readFrom 51 = .ok (.iload 5, 2) := by decide +kernel
theorem dX5_readFrom_53 : decode cX5_readFrom 53 = .ok (.iconst (-1), 1) := by decide +kernel
theorem dX5_readFrom_54 : decode cX5_readFrom 54 = .ok (.if_icmp .ne 13, 3) := by decide +kernel
theorem dX5_readFrom_57 : decode cX5_readFrom 57 = .ok (.aload_n 1, 1) := by decide +kernel
theorem dX5_readFrom_58 : decode cX5_readFrom 58 = .ok (.iconst 1, 1) := by decide +kernel
theorem dX5_readFrom_59 : decode cX5_readFrom 59 = .ok (.iload 4, 2) := by decide +kernel
theorem dX5_readFrom_61 : decode cX5_readFrom 61 = .ok (.invokevirtual 60, 3) := by decide +kernel
theorem dX5_readFrom_64 : decode cX5_readFrom 64 = .ok (.goto 49, 3) := by decide +kernel
theorem dX5_readFrom_67 : decode cX5_readFrom 67 = .ok (.iload_n 2, 1) := by decide +kernel
theorem dX5_readFrom_68 : decode cX5_readFrom 68 = .ok (.iload 5, 2) := by decide +kernel
theorem dX5_readFrom_70 : decode cX5_readFrom 70 = .ok (.ishr, 1) := by decide +kernel
theorem dX5_readFrom_71 : decode cX5_readFrom 71 = .ok (.iconst 1, 1) := by decide +kernel
theorem dX5_readFrom_72 : decode cX5_readFrom 72 = .ok (.iand, 1) := by decide +kernel
theorem dX5_readFrom_73 : decode cX5_readFrom 73 = .ok (.ifCond .eq 13, 3) := by decide +kernel
theorem dX5_readFrom_76 : decode cX5_readFrom 76 = .ok (.aload_n 1, 1) := by decide +kernel
theorem dX5_readFrom_77 : decode cX5_readFrom 77 = .ok (.iconst 3, 1) := by decide +kernel
theorem dX5_readFrom_78 : decode cX5_readFrom 78 = .ok (.iload 4, 2) := by decide +kernel
theorem dX5_readFrom_80 : decode cX5_readFrom 80 = .ok (.invokevirtual 60, 3) := by decide +kernel
theorem dX5_readFrom_83 : decode cX5_readFrom 83 = .ok (.goto 30, 3) := by decide +kernel
theorem dX5_readFrom_86 : decode cX5_readFrom 86 = .ok (.iload 5, 2) := by decide +kernel
theorem dX5_readFrom_88 : decode cX5_readFrom 88 = .ok (.ifCond .ne 11, 3) := by decide +kernel
theorem dX5_readFrom_91 : decode cX5_readFrom 91 = .ok (.aload_n 0, 1) := by decide +kernel
theorem dX5_readFrom_92 : decode cX5_readFrom 92 = .ok (.aload_n 1, 1) := by decide +kernel
theorem dX5_readFrom_93 : decode cX5_readFrom 93 = .ok (.invokevirtual 64, 3) := by decide +kernel
theorem dX5_readFrom_96 : decode cX5_readFrom 96 = .ok (.goto 17, 3) := by decide +kernel
theorem dX5_readFrom_99 : decode cX5_readFrom 99 = .ok (.aload_n 0, 1) := by decide +kernel
theorem dX5_readFrom_100 : decode cX5_readFrom 100 = .ok (.aload_n 1, 1) := by decide +kernel
theorem dX5_readFrom_101 : decode cX5_readFrom 101 = .ok (.iload 5, 2) := by decide +kernel
theorem dX5_readFrom_103 : decode cX5_readFrom 103 = .ok (.invokevirtual 68, 3) := by decide +kernel
theorem dX5_readFrom_106 : decode cX5_readFrom 106 = .ok (.iload_n 2, 1) := by decide +kernel
theorem dX5_readFrom_107 : decode cX5_readFrom 107 = .ok (.iconst 1, 1) := by decide +kernel
theorem dX5_readFrom_108 : decode cX5_readFrom 108 = .ok (.iload 5, 2) := by decide +kernel
theorem dX5_readFrom_110 : decode cX5_readFrom 110 = .ok (.ishl, 1) := by decide +kernel
theorem dX5_readFrom_111 : decode cX5_readFrom 111 = .ok (.ior, 1) := by decide +kernel
theorem dX5_readFrom_112 : decode cX5_readFrom 112 = .ok (.istore_n 2, 1) := by decide +kernel
theorem dX5_readFrom_113 : decode cX5_readFrom 113 = .ok (.iinc 3 1, 3) := by decide +kernel
theorem dX5_readFrom_116 : decode cX5_readFrom 116 = .ok (.goto (-98), 3) := by decide +kernel
theorem dX5_readFrom_119 : decode cX5_readFrom 119 = .ok (.aload_n 1, 1) := by decide +kernel
theorem dX5_readFrom_120 : decode cX5_readFrom 120 = .ok (.invokevirtual 43, 3) := by decide +kernel
theorem dX5_readFrom_123 : decode cX5_readFrom 123 = .ok (.ifCond .ne 19, 3) := by decide +kernel
theorem dX5_readFrom_126 : decode cX5_readFrom 126 = .ok (.aload_n 0, 1) := by decide +kernel
theorem dX5_readFrom_127 : decode cX5_readFrom 127 = .ok (.invokevirtual 72, 3) := by decide +kernel
theorem dX5_readFrom_130 : decode cX5_readFrom 130 = .ok (.ifCond .ne 12, 3) := by decide +kernel
theorem dX5_readFrom_133 : decode cX5_readFrom 133 = .ok (.aload_n 1, 1) := by decide +kernel
theorem dX5_readFrom_134 : decode cX5_readFrom 134 = .ok (.iconst 1, 1) := by decide +kernel
theorem dX5_readFrom_135 : decode cX5_readFrom 135 = .ok (.aload_n 1, 1) := by decide +kernel
theorem dX5_readFrom_136 : decode cX5_readFrom 136 = .ok (.getfield 76, 3) := by decide +kernel
theorem dX5_readFrom_139 : decode cX5_readFrom 139 = .ok (.invokevirtual 60, 3) := by decide +kernel
theorem dX5_readFrom_142 : decode cX5_readFrom 142 = .ok (.return_, 1) := by decide +kernel
set_option maxHeartbeats 4000000 in
set_option maxRecDepth 100000 in
theorem x_Street_readFrom (l : Launch) (D : va_G) (k : Nat → ClassId) (st : Nat → Nat) (lo : Nat) (h0 : Nat) (h1 : Nat) (h2 : Nat) (h3 : Nat) (h4 : Nat) (n : Nat) (see : Nat) (tm : Nat) (g : Nat → Int32) (ff : Nat → Int32) (fp : Nat → Int32) (x0 : Nat) (x1 : Nat) (tz : Nat) (ta : Nat) (na : Int32) (fn : Int32) (fb : Int32) (fx : Nat → Int32) (ht : ta ≤ tz) (hz : tz ≤ 240) : CWv l D k st lo yX5_readFrom cX5_readFrom 6 none ({ frames := 7, cells := 0, slots := 0, locals := 155 }) 0 0 [.ref h0, .ref x0] [(h0, .inr (5, (fX5 h1 h2 h3 h4))), (aI k h1 10 (vv n see tm g)), (aI k h2 24 ff), (aI k h3 24 fp), (x0, .inr (6, (fX6 x1 (nI tz) (nI ta) na fn fb))), (aB k x1 240 fx)] (fun (u : Nat × Nat × Nat × (Nat → Int32) × (Nat → Int32) × (Nat → Int32) × Nat × Int32 × Int32 × Int32) => match u with | (n_, see_, tm_, g_, ff_, fp_, ta_, na_, fn_, fb_) => n_ ≤ 24 ∧ see_ ≤ 2 ∧ tm_ ≤ 3 ∧ ta_ ≤ tz) (fun (u : Nat × Nat × Nat × (Nat → Int32) × (Nat → Int32) × (Nat → Int32) × Nat × Int32 × Int32 × Int32) => match u with | (n_, see_, tm_, g_, ff_, fp_, ta_, na_, fn_, fb_) => [(h0, .inr (5, (fX5 h1 h2 h3 h4))), (aI k h1 10 (vv n_ see_ tm_ g_)), (aI k h2 24 ff_), (aI k h3 24 fp_), (x0, .inr (6, (fX6 x1 (nI tz) (nI ta_) na_ fn_ fb_))), (aB k x1 240 fx)]) := by
  intro sz
  refine Met.ofW (cc := cX5_readFrom) (maxL := 6) (ret := none) (by decide) rfl ?_
  intro p e s m args below meth c s₁ B hml hv
  obtain ⟨rfl, hsz, hlo, hP, hK, hDL, hZ⟩ := hv
  have hx := B.exec
  have hb := B.bytes
  have hr := B.returns
  have hts := WS_ts B.pre
  have hown : s.vm.findClass RX5 = some m.cls := findClass_of_methodNamed B.named
  have hlocks := B.notSynchronized
  subst hsz
  have hD := hDL.self (sz := s.heap.size)
  have hAlo := A_lo hDL hlo
  generalize hAe : va_A [(h0, .inr (5, (fX5 h1 h2 h3 h4))), (aI k h1 10 (vv n see tm g)), (aI k h2 24 ff), (aI k h3 24 fp), (x0, .inr (6, (fX6 x1 (nI tz) (nI ta) na fn fb))), (aB k x1 240 fx)] s.heap.size = A at hD hAlo ⊢
  have hA : ∀ q : Nat, s.heap.size ≤ q → A q := fun q h => by rw [← hAe]; exact Or.inr h
  have hS : va_S A s.heap s.heap [] := va_S.rf
  have hl := lv_entry ([.ref h0, .ref x0]) (n := 6) (Nat.le_of_ble_eq_true rfl)
  rw [lg_entry_eq]
  generalize (lg_sl ([.ref h0, .ref x0]) ++ List.replicate (6 - (lg_sl ([.ref h0, .ref x0])).length) Slot.unset).toArray = ls at hl ⊢
  have hl : lv_has ls 6 [(0, .ref h0), (1, .ref x0)] := hl
  refine va_getsN (A := A) hx hb (hZ.1.narrow hAlo) hS hown ((hZ.2.2.2.2.2.2.2.2.1.2.1 (RX5, 40, "LastPlace", "NOT_TOLD", "[I", RX7) (List.mem_of_getElem? (i := 0) rfl)).use rfl) (fun _ h9 => h9) dX5_readFrom_0 ?_
  refine lv_iconst (v := 0) hx hb dX5_readFrom_3 (by decide) ?_
  refine lv_aload_n hx hb dX5_readFrom_4 rfl (lv_at hl 0 rfl) ?_
  refine va_get (D := D) (ci := 5) (v := .ref h1) (C := RX5) (T := TX5) (N := 4) hx hb hts inX5 hown hK hP 0 rfl rfl 0 (by decide) (hts _ tw_146) (fun _ h9 => h9) rfl dX5_readFrom_5 ?_
  refine lv_iconst (v := 0) hx hb dX5_readFrom_8 (by decide) ?_
  refine lv_bipush (v := 10) hx hb dX5_readFrom_9 (by decide) ?_
  refine cpT (A := A) hx hb (by rw [hml]; exact hl.1.symm) hown (hts _ tw_364) (hts _ tw_366) (hts _ tw_365) (hts _ tw_88) hK hP hD hS (hZ.2.1.narrow hAlo) 1 1 rfl rfl (by decide) (by decide) (by decide) (by decide) (by decide) (Nat.le_of_ble_eq_true rfl) (Nat.le_of_ble_eq_true rfl) dX5_readFrom_11 (fun H locs hP hD hS => ?_)
  replace hP : va_P D classes [(h0, .inr (5, (fX5 h1 h2 h3 h4))), (aI k h1 10 (va_cpy zNT (vv n see tm g) 0 0 10)), (aI k h2 24 ff), (aI k h3 24 fp), (x0, .inr (6, (fX6 x1 (nI tz) (nI ta) na fn fb))), (aB k x1 240 fx)] H := hP
  replace hD : va_D A [(h0, .inr (5, (fX5 h1 h2 h3 h4))), (aI k h1 10 (va_cpy zNT (vv n see tm g) 0 0 10)), (aI k h2 24 ff), (aI k h3 24 fp), (x0, .inr (6, (fX6 x1 (nI tz) (nI ta) na fn fb))), (aB k x1 240 fx)] := hD
  rw [show va_cpy zNT (vv n see tm g) 0 0 10 = vv 0 1 0 (va_cpy zNT g 0 0 10) from vv_cpN _ _ _ _] at hP hD
  generalize va_cpy zNT g 0 0 10 = gg_1 at hP hD
  replace hP : va_P D classes [(h0, .inr (5, (fX5 h1 h2 h3 h4))), (aI k h1 10 (vv 0 1 0 gg_1)), (aI k h2 24 ff), (aI k h3 24 fp), (x0, .inr (6, (fX6 x1 (nI tz) (nI ta) na fn fb))), (aB k x1 240 fx)] H := hP
  replace hD : va_D A [(h0, .inr (5, (fX5 h1 h2 h3 h4))), (aI k h1 10 (vv 0 1 0 gg_1)), (aI k h2 24 ff), (aI k h3 24 fp), (x0, .inr (6, (fX6 x1 (nI tz) (nI ta) na fn fb))), (aB k x1 240 fx)] := hD
  refine lv_iconst (v := 0) hx hb dX5_readFrom_14 (by decide) ?_
  refine lv_istore_n (lv' := [(2, .int 0), (0, .ref h0), (1, .ref x0)]) hx hb dX5_readFrom_15 rfl hl (by decide) rfl (fun ls hl => ?_)
  refine lv_iconst (v := 0) hx hb dX5_readFrom_16 (by decide) ?_
  refine lv_istore_n (lv' := [(3, .int 0), (2, .int 0), (0, .ref h0), (1, .ref x0)]) hx hb dX5_readFrom_17 rfl hl (by decide) rfl (fun ls hl => ?_)
  refine W_loop (σ := Nat × Int32 × Nat × Nat × Nat × (Nat → Int32) × (Nat → Int32) × (Nat → Int32) × Nat × Int32 × Int32 × Int32) (fun (n_ : Nat) (x_ : Nat × Int32 × Nat × Nat × Nat × (Nat → Int32) × (Nat → Int32) × (Nat → Int32) × Nat × Int32 × Int32 × Int32) (H : Heap) (locs : List Loc) (ls : Array Slot) => match x_ with | (kk_3, to2_3, n2_3, see2_3, tm2_3, g2_3, ff2_3, fp2_3, ta2_3, na2_3, fn2_3, fb2_3) => n_ = 240 - kk_3 ∧ (kk_3 ≤ 240 ∧ n2_3 ≤ 24 ∧ see2_3 ≤ 2 ∧ tm2_3 ≤ 3 ∧ ta2_3 ≤ tz) ∧ va_P D classes [(h0, .inr (5, (fX5 h1 h2 h3 h4))), (aI k h1 10 (vv n2_3 see2_3 tm2_3 g2_3)), (aI k h2 24 ff2_3), (aI k h3 24 fp2_3), (x0, .inr (6, (fX6 x1 (nI tz) (nI ta2_3) na2_3 fn2_3 fb2_3))), (aB k x1 240 fx)] H ∧ va_D A [(h0, .inr (5, (fX5 h1 h2 h3 h4))), (aI k h1 10 (vv n2_3 see2_3 tm2_3 g2_3)), (aI k h2 24 ff2_3), (aI k h3 24 fp2_3), (x0, .inr (6, (fX6 x1 (nI tz) (nI ta2_3) na2_3 fn2_3 fb2_3))), (aB k x1 240 fx)] ∧ va_S A s.heap H locs ∧ lv_has ls 6 [(3, .int (nI kk_3)), (2, .int to2_3), (0, .ref h0), (1, .ref x0)]) (fun n_3 x_3 H locs ls hI ih_3 => ?_) _ (0, 0, 0, 1, 0, gg_1, ff, fp, ta, na, fn, fb) ⟨rfl, ⟨by omega, by omega, by omega, by omega, by omega⟩, hP, hD, hS, (lv_sub hl [0, 1, 2, 3] rfl)⟩
  obtain ⟨kk_3, to2_3, n2_3, see2_3, tm2_3, g2_3, ff2_3, fp2_3, ta2_3, na2_3, fn2_3, fb2_3⟩ := x_3
  obtain ⟨hm_3, hv_3, hP, hD, hS, hl⟩ := hI
  subst hm_3
  refine lv_iload_n hx hb dX5_readFrom_18 rfl (lv_at hl 0 rfl) ?_
  refine lv_sipush (v := 240) hx hb dX5_readFrom_19 (by decide) ?_
  refine lv_icmp_ge (tgt := 119) hx hb dX5_readFrom_22 (by decide) (fun c_4 => ?_) (fun c_4 => ?_)
  · have c_4 := (nI_leI (a := 240) (b := kk_3) (by omega) (by omega)).mp c_4
    refine lv_aload_n hx hb dX5_readFrom_119 rfl (lv_at hl 3 rfl) ?_
    refine ro_i (D := D) (va_runV (As := []) (rest := []) ⟨hx, hb, hml, hown, hts⟩ ((x_failed l D k st lo x0 x1 tz ta2_3 na2_3 fn2_3 fb2_3) H.size) (cwV 0 hts (gV tw_367 tw_368 tw_369 tw_80 tw_370) rfl rfl rfl (by decide +kernel) ⟨Nat.le_of_ble_eq_true rfl, Nat.le_of_ble_eq_true rfl⟩) (pV hS hAlo hlo hP hK (va_Dlo hD hAlo) hZ [4] (by decide) rfl (ci := 6) (q := (RX6, TX6, 6)) (q0 := 0) rfl rfl) rfl rfl hl.1 rfl (lv_room (Nat.le_of_ble_eq_true rfl)) dX5_readFrom_120 ⟨Nat.le_of_ble_eq_true rfl, Nat.le_of_ble_eq_true rfl⟩) hS hA hP (fun r_5 H locs hw_5 hP hS => ?_)
    try dsimp only at hw_5
    rcases hw_5 with ⟨rfl, hw_5⟩ | ⟨rfl, rfl⟩
    · refine lv_if_ne (tgt := 142) hx hb dX5_readFrom_123 (by decide) (fun _ => ?_) (fun h => absurd h (by decide))
      have hP9 := hP.sub (ws' := [(h0, .inr (5, (fX5 h1 h2 h3 h4))), (aI k h1 10 (vv n2_3 see2_3 tm2_3 g2_3)), (aI k h2 24 ff2_3), (aI k h3 24 fp2_3), (x0, .inr (6, (fX6 x1 (nI tz) (nI ta2_3) na2_3 fn2_3 fb2_3))), (aB k x1 240 fx)]) [0, 1, 2, 3, 4, 5] rfl
      have hD9 := hD.sub (ws' := [(h0, .inr (5, (fX5 h1 h2 h3 h4))), (aI k h1 10 (vv n2_3 see2_3 tm2_3 g2_3)), (aI k h2 24 ff2_3), (aI k h3 24 fp2_3), (x0, .inr (6, (fX6 x1 (nI tz) (nI ta2_3) na2_3 fn2_3 fb2_3))), (aB k x1 240 fx)]) [0, 1, 2, 3, 4, 5] (by decide) rfl
      exact W.vret hx hb hr (fun t ht hW => ⟨⟨(n2_3, see2_3, tm2_3, g2_3, ff2_3, fp2_3, ta2_3, na2_3, fn2_3, fb2_3), rfl, ⟨by omega, by omega, by omega, by omega⟩, by rw [ht]; exact hP9, hD9⟩, hS.F ht⟩) hS.2.2 dX5_readFrom_142
    · refine lv_if_ne (tgt := 142) hx hb dX5_readFrom_123 (by decide) (fun h => absurd (by decide) h) (fun _ => ?_)
      refine lv_aload_n hx hb dX5_readFrom_126 rfl (lv_at hl 2 rfl) ?_
      refine ro_i (D := D) (va_runV (As := []) (rest := []) ⟨hx, hb, hml, hown, hts⟩ ((x_doors l D k st lo h0 h1 h2 h3 h4 n2_3 see2_3 tm2_3 g2_3) H.size) (cwV 0 hts (gV tw_477 tw_478 tw_479 tw_81 tw_480) rfl rfl rfl (by decide +kernel) ⟨Nat.le_of_ble_eq_true rfl, Nat.le_of_ble_eq_true rfl⟩) (pV hS hAlo hlo hP hK (va_Dlo hD hAlo) hZ [0, 1] (by decide) rfl (ci := 5) (q := (RX5, TX5, 4)) (q0 := 0) rfl rfl) rfl rfl hl.1 rfl (lv_room (Nat.le_of_ble_eq_true rfl)) dX5_readFrom_127 ⟨Nat.le_of_ble_eq_true rfl, Nat.le_of_ble_eq_true rfl⟩) hS hA hP (fun r_6 H locs hw_6 hP hS => ?_)
      try dsimp only at hw_6
      subst hw_6
      refine lv_if_ne (tgt := 142) hx hb dX5_readFrom_130 (by decide) (fun c_7 => ?_) (fun c_7 => ?_)
      · have c_7 : ¬ (n2_3 = 0) := fun h => c_7 ((nI_eq (a := n2_3) (b := 0) (by omega) (by omega)).mpr h)
        have hP9 := hP.sub (ws' := [(h0, .inr (5, (fX5 h1 h2 h3 h4))), (aI k h1 10 (vv n2_3 see2_3 tm2_3 g2_3)), (aI k h2 24 ff2_3), (aI k h3 24 fp2_3), (x0, .inr (6, (fX6 x1 (nI tz) (nI ta2_3) na2_3 0 fb2_3))), (aB k x1 240 fx)]) [0, 1, 2, 3, 4, 5] rfl
        have hD9 := hD.sub (ws' := [(h0, .inr (5, (fX5 h1 h2 h3 h4))), (aI k h1 10 (vv n2_3 see2_3 tm2_3 g2_3)), (aI k h2 24 ff2_3), (aI k h3 24 fp2_3), (x0, .inr (6, (fX6 x1 (nI tz) (nI ta2_3) na2_3 0 fb2_3))), (aB k x1 240 fx)]) [0, 1, 2, 3, 4, 5] (by decide) rfl
        exact W.vret hx hb hr (fun t ht hW => ⟨⟨(n2_3, see2_3, tm2_3, g2_3, ff2_3, fp2_3, ta2_3, na2_3, 0, fb2_3), rfl, ⟨by omega, by omega, by omega, by omega⟩, by rw [ht]; exact hP9, hD9⟩, hS.F ht⟩) hS.2.2 dX5_readFrom_142
      · have c_7 := (nI_eq (a := n2_3) (b := 0) (by omega) (by omega)).mp c_7
        refine lv_aload_n hx hb dX5_readFrom_133 rfl (lv_at hl 3 rfl) ?_
        refine lv_iconst (v := 1) hx hb dX5_readFrom_134 (by decide) ?_
        refine lv_aload_n hx hb dX5_readFrom_135 rfl (lv_at hl 3 rfl) ?_
        refine va_get (D := D) (ci := 6) (v := .int (nI tz)) (C := RX6) (T := TX6) (N := 6) hx hb hts inX6 hown hK hP 4 rfl rfl 1 (by decide) (hts _ tw_112) (fun _ h9 => h9) rfl dX5_readFrom_136 ?_
        refine rw_v (D := D) (wr := [(h0, .inr (5, (fX5 h1 h2 h3 h4))), (aI k h1 10 (vv n2_3 see2_3 tm2_3 g2_3)), (aI k h2 24 ff2_3), (aI k h3 24 fp2_3), (aB k x1 240 fx)]) (va_runV (As := [.int 1, .int (nI tz)]) (rest := []) ⟨hx, hb, hml, hown, hts⟩ ((x_fail l D k st lo x0 x1 tz ta2_3 na2_3 0 fb2_3 1 (nI tz) (by decide)) H.size) (cwV 2 hts (gV tw_455 tw_456 tw_457 tw_80 tw_458) rfl rfl rfl (by decide +kernel) ⟨Nat.le_of_ble_eq_true rfl, Nat.le_of_ble_eq_true rfl⟩) (pV hS hAlo hlo hP hK (va_Dlo hD hAlo) hZ [4] (by decide) rfl (ci := 6) (q := (RX6, TX6, 6)) (q0 := 0) rfl rfl) rfl rfl hl.1 rfl (lv_room (Nat.le_of_ble_eq_true rfl)) dX5_readFrom_139 ⟨Nat.le_of_ble_eq_true rfl, Nat.le_of_ble_eq_true rfl⟩) hS hA hP hD [4] [0, 1, 2, 3, 5] rfl rfl (by decide) (by decide) (fun u H locs hw_8 hP hD hS => ?_)
        obtain ⟨fn__8, fb__8⟩ := u
        replace hP : va_P D classes [(h0, .inr (5, (fX5 h1 h2 h3 h4))), (aI k h1 10 (vv n2_3 see2_3 tm2_3 g2_3)), (aI k h2 24 ff2_3), (aI k h3 24 fp2_3), (aB k x1 240 fx), (x0, .inr (6, (fX6 x1 (nI tz) (nI ta2_3) na2_3 fn__8 fb__8)))] H := hP
        replace hD : va_D A [(h0, .inr (5, (fX5 h1 h2 h3 h4))), (aI k h1 10 (vv n2_3 see2_3 tm2_3 g2_3)), (aI k h2 24 ff2_3), (aI k h3 24 fp2_3), (aB k x1 240 fx), (x0, .inr (6, (fX6 x1 (nI tz) (nI ta2_3) na2_3 fn__8 fb__8)))] := hD
        try dsimp only at hw_8
        have hP9 := hP.sub (ws' := [(h0, .inr (5, (fX5 h1 h2 h3 h4))), (aI k h1 10 (vv n2_3 see2_3 tm2_3 g2_3)), (aI k h2 24 ff2_3), (aI k h3 24 fp2_3), (x0, .inr (6, (fX6 x1 (nI tz) (nI ta2_3) na2_3 fn__8 fb__8))), (aB k x1 240 fx)]) [0, 1, 2, 3, 5, 4] rfl
        have hD9 := hD.sub (ws' := [(h0, .inr (5, (fX5 h1 h2 h3 h4))), (aI k h1 10 (vv n2_3 see2_3 tm2_3 g2_3)), (aI k h2 24 ff2_3), (aI k h3 24 fp2_3), (x0, .inr (6, (fX6 x1 (nI tz) (nI ta2_3) na2_3 fn__8 fb__8))), (aB k x1 240 fx)]) [0, 1, 2, 3, 5, 4] (by decide) rfl
        exact W.vret hx hb hr (fun t ht hW => ⟨⟨(n2_3, see2_3, tm2_3, g2_3, ff2_3, fp2_3, ta2_3, na2_3, fn__8, fb__8), rfl, ⟨by omega, by omega, by omega, by omega⟩, by rw [ht]; exact hP9, hD9⟩, hS.F ht⟩) hS.2.2 dX5_readFrom_142
  · have c_4 : ¬ (240 ≤ kk_3) := fun h => c_4 ((nI_leI (a := 240) (b := kk_3) (by omega) (by omega)).mpr h)
    refine lv_aload_n hx hb dX5_readFrom_25 rfl (lv_at hl 3 rfl) ?_
    refine ro_i (D := D) (va_runV (As := []) (rest := []) ⟨hx, hb, hml, hown, hts⟩ ((x_failed l D k st lo x0 x1 tz ta2_3 na2_3 fn2_3 fb2_3) H.size) (cwV 0 hts (gV tw_367 tw_368 tw_369 tw_80 tw_370) rfl rfl rfl (by decide +kernel) ⟨Nat.le_of_ble_eq_true rfl, Nat.le_of_ble_eq_true rfl⟩) (pV hS hAlo hlo hP hK (va_Dlo hD hAlo) hZ [4] (by decide) rfl (ci := 6) (q := (RX6, TX6, 6)) (q0 := 0) rfl rfl) rfl rfl hl.1 rfl (lv_room (Nat.le_of_ble_eq_true rfl)) dX5_readFrom_26 ⟨Nat.le_of_ble_eq_true rfl, Nat.le_of_ble_eq_true rfl⟩) hS hA hP (fun r_9 H locs hw_9 hP hS => ?_)
    try dsimp only at hw_9
    rcases hw_9 with ⟨rfl, hw_9⟩ | ⟨rfl, rfl⟩
    · refine lv_if_ne (tgt := 119) hx hb dX5_readFrom_29 (by decide) (fun _ => ?_) (fun h => absurd h (by decide))
      refine lv_aload_n hx hb dX5_readFrom_119 rfl (lv_at hl 3 rfl) ?_
      refine ro_i (D := D) (va_runV (As := []) (rest := []) ⟨hx, hb, hml, hown, hts⟩ ((x_failed l D k st lo x0 x1 tz ta2_3 na2_3 fn2_3 fb2_3) H.size) (cwV 0 hts (gV tw_367 tw_368 tw_369 tw_80 tw_370) rfl rfl rfl (by decide +kernel) ⟨Nat.le_of_ble_eq_true rfl, Nat.le_of_ble_eq_true rfl⟩) (pV hS hAlo hlo hP hK (va_Dlo hD hAlo) hZ [4] (by decide) rfl (ci := 6) (q := (RX6, TX6, 6)) (q0 := 0) rfl rfl) rfl rfl hl.1 rfl (lv_room (Nat.le_of_ble_eq_true rfl)) dX5_readFrom_120 ⟨Nat.le_of_ble_eq_true rfl, Nat.le_of_ble_eq_true rfl⟩) hS hA hP (fun r_10 H locs hw_10 hP hS => ?_)
      try dsimp only at hw_10
      obtain rfl : r_10 = 1 := by rcases hw_10 with ⟨h, h2⟩ | ⟨h, h2⟩ <;> first | exact h | exact absurd h2 hw_9
      refine lv_if_ne (tgt := 142) hx hb dX5_readFrom_123 (by decide) (fun _ => ?_) (fun h => absurd h (by decide))
      have hP9 := hP.sub (ws' := [(h0, .inr (5, (fX5 h1 h2 h3 h4))), (aI k h1 10 (vv n2_3 see2_3 tm2_3 g2_3)), (aI k h2 24 ff2_3), (aI k h3 24 fp2_3), (x0, .inr (6, (fX6 x1 (nI tz) (nI ta2_3) na2_3 fn2_3 fb2_3))), (aB k x1 240 fx)]) [0, 1, 2, 3, 4, 5] rfl
      have hD9 := hD.sub (ws' := [(h0, .inr (5, (fX5 h1 h2 h3 h4))), (aI k h1 10 (vv n2_3 see2_3 tm2_3 g2_3)), (aI k h2 24 ff2_3), (aI k h3 24 fp2_3), (x0, .inr (6, (fX6 x1 (nI tz) (nI ta2_3) na2_3 fn2_3 fb2_3))), (aB k x1 240 fx)]) [0, 1, 2, 3, 4, 5] (by decide) rfl
      exact W.vret hx hb hr (fun t ht hW => ⟨⟨(n2_3, see2_3, tm2_3, g2_3, ff2_3, fp2_3, ta2_3, na2_3, fn2_3, fb2_3), rfl, ⟨by omega, by omega, by omega, by omega⟩, by rw [ht]; exact hP9, hD9⟩, hS.F ht⟩) hS.2.2 dX5_readFrom_142
    · refine lv_if_ne (tgt := 119) hx hb dX5_readFrom_29 (by decide) (fun h => absurd (by decide) h) (fun _ => ?_)
      refine lv_aload_n hx hb dX5_readFrom_32 rfl (lv_at hl 3 rfl) ?_
      refine rw_i (D := D) (wr := [(h0, .inr (5, (fX5 h1 h2 h3 h4))), (aI k h1 10 (vv n2_3 see2_3 tm2_3 g2_3)), (aI k h2 24 ff2_3), (aI k h3 24 fp2_3)]) (va_runV (As := []) (rest := []) ⟨hx, hb, hml, hown, hts⟩ ((x_isAtEnd l D k st lo x0 x1 tz ta2_3 na2_3 0 fb2_3 fx (by omega) (by omega)) H.size) (cwV 0 hts (gV tw_371 tw_372 tw_373 tw_80 tw_374) rfl rfl rfl (by decide +kernel) ⟨Nat.le_of_ble_eq_true rfl, Nat.le_of_ble_eq_true rfl⟩) (pV hS hAlo hlo hP hK (va_Dlo hD hAlo) hZ [4, 5] (by decide) rfl (ci := 6) (q := (RX6, TX6, 6)) (q0 := 0) rfl rfl) rfl rfl hl.1 rfl (lv_room (Nat.le_of_ble_eq_true rfl)) dX5_readFrom_33 ⟨Nat.le_of_ble_eq_true rfl, Nat.le_of_ble_eq_true rfl⟩) hS hA hP hD [4, 5] [0, 1, 2, 3] rfl rfl (by decide) (by decide) (fun r_11 u H locs hw_11 hP hD hS => ?_)
      obtain ⟨ta__11, rfl⟩ : ∃ z, z = u := ⟨_, rfl⟩
      replace hP : va_P D classes [(h0, .inr (5, (fX5 h1 h2 h3 h4))), (aI k h1 10 (vv n2_3 see2_3 tm2_3 g2_3)), (aI k h2 24 ff2_3), (aI k h3 24 fp2_3), (x0, .inr (6, (fX6 x1 (nI tz) (nI ta__11) na2_3 0 fb2_3))), (aB k x1 240 fx)] H := hP
      replace hD : va_D A [(h0, .inr (5, (fX5 h1 h2 h3 h4))), (aI k h1 10 (vv n2_3 see2_3 tm2_3 g2_3)), (aI k h2 24 ff2_3), (aI k h3 24 fp2_3), (x0, .inr (6, (fX6 x1 (nI tz) (nI ta__11) na2_3 0 fb2_3))), (aB k x1 240 fx)] := hD
      try dsimp only at hw_11
      rcases hw_11 with ⟨rfl | rfl, hw_11⟩
      · refine lv_if_ne (tgt := 119) hx hb dX5_readFrom_36 (by decide) (fun _ => ?_) (fun h => absurd h (by decide))
        refine lv_aload_n hx hb dX5_readFrom_119 rfl (lv_at hl 3 rfl) ?_
        refine ro_i (D := D) (va_runV (As := []) (rest := []) ⟨hx, hb, hml, hown, hts⟩ ((x_failed l D k st lo x0 x1 tz ta__11 na2_3 0 fb2_3) H.size) (cwV 0 hts (gV tw_367 tw_368 tw_369 tw_80 tw_370) rfl rfl rfl (by decide +kernel) ⟨Nat.le_of_ble_eq_true rfl, Nat.le_of_ble_eq_true rfl⟩) (pV hS hAlo hlo hP hK (va_Dlo hD hAlo) hZ [4] (by decide) rfl (ci := 6) (q := (RX6, TX6, 6)) (q0 := 0) rfl rfl) rfl rfl hl.1 rfl (lv_room (Nat.le_of_ble_eq_true rfl)) dX5_readFrom_120 ⟨Nat.le_of_ble_eq_true rfl, Nat.le_of_ble_eq_true rfl⟩) hS hA hP (fun r_12 H locs hw_12 hP hS => ?_)
        try dsimp only at hw_12
        obtain rfl : r_12 = 0 := by rcases hw_12 with ⟨h, h2⟩ | ⟨h, h2⟩ <;> first | exact h | exact absurd rfl h2 | exact absurd h2 (by decide)
        refine lv_if_ne (tgt := 142) hx hb dX5_readFrom_123 (by decide) (fun h => absurd (by decide) h) (fun _ => ?_)
        refine lv_aload_n hx hb dX5_readFrom_126 rfl (lv_at hl 2 rfl) ?_
        refine ro_i (D := D) (va_runV (As := []) (rest := []) ⟨hx, hb, hml, hown, hts⟩ ((x_doors l D k st lo h0 h1 h2 h3 h4 n2_3 see2_3 tm2_3 g2_3) H.size) (cwV 0 hts (gV tw_477 tw_478 tw_479 tw_81 tw_480) rfl rfl rfl (by decide +kernel) ⟨Nat.le_of_ble_eq_true rfl, Nat.le_of_ble_eq_true rfl⟩) (pV hS hAlo hlo hP hK (va_Dlo hD hAlo) hZ [0, 1] (by decide) rfl (ci := 5) (q := (RX5, TX5, 4)) (q0 := 0) rfl rfl) rfl rfl hl.1 rfl (lv_room (Nat.le_of_ble_eq_true rfl)) dX5_readFrom_127 ⟨Nat.le_of_ble_eq_true rfl, Nat.le_of_ble_eq_true rfl⟩) hS hA hP (fun r_13 H locs hw_13 hP hS => ?_)
        try dsimp only at hw_13
        subst hw_13
        refine lv_if_ne (tgt := 142) hx hb dX5_readFrom_130 (by decide) (fun c_14 => ?_) (fun c_14 => ?_)
        · have c_14 : ¬ (n2_3 = 0) := fun h => c_14 ((nI_eq (a := n2_3) (b := 0) (by omega) (by omega)).mpr h)
          have hP9 := hP.sub (ws' := [(h0, .inr (5, (fX5 h1 h2 h3 h4))), (aI k h1 10 (vv n2_3 see2_3 tm2_3 g2_3)), (aI k h2 24 ff2_3), (aI k h3 24 fp2_3), (x0, .inr (6, (fX6 x1 (nI tz) (nI ta__11) na2_3 0 fb2_3))), (aB k x1 240 fx)]) [0, 1, 2, 3, 4, 5] rfl
          have hD9 := hD.sub (ws' := [(h0, .inr (5, (fX5 h1 h2 h3 h4))), (aI k h1 10 (vv n2_3 see2_3 tm2_3 g2_3)), (aI k h2 24 ff2_3), (aI k h3 24 fp2_3), (x0, .inr (6, (fX6 x1 (nI tz) (nI ta__11) na2_3 0 fb2_3))), (aB k x1 240 fx)]) [0, 1, 2, 3, 4, 5] (by decide) rfl
          exact W.vret hx hb hr (fun t ht hW => ⟨⟨(n2_3, see2_3, tm2_3, g2_3, ff2_3, fp2_3, ta__11, na2_3, 0, fb2_3), rfl, ⟨by omega, by omega, by omega, by omega⟩, by rw [ht]; exact hP9, hD9⟩, hS.F ht⟩) hS.2.2 dX5_readFrom_142
        · have c_14 := (nI_eq (a := n2_3) (b := 0) (by omega) (by omega)).mp c_14
          refine lv_aload_n hx hb dX5_readFrom_133 rfl (lv_at hl 3 rfl) ?_
          refine lv_iconst (v := 1) hx hb dX5_readFrom_134 (by decide) ?_
          refine lv_aload_n hx hb dX5_readFrom_135 rfl (lv_at hl 3 rfl) ?_
          refine va_get (D := D) (ci := 6) (v := .int (nI tz)) (C := RX6) (T := TX6) (N := 6) hx hb hts inX6 hown hK hP 4 rfl rfl 1 (by decide) (hts _ tw_112) (fun _ h9 => h9) rfl dX5_readFrom_136 ?_
          refine rw_v (D := D) (wr := [(h0, .inr (5, (fX5 h1 h2 h3 h4))), (aI k h1 10 (vv n2_3 see2_3 tm2_3 g2_3)), (aI k h2 24 ff2_3), (aI k h3 24 fp2_3), (aB k x1 240 fx)]) (va_runV (As := [.int 1, .int (nI tz)]) (rest := []) ⟨hx, hb, hml, hown, hts⟩ ((x_fail l D k st lo x0 x1 tz ta__11 na2_3 0 fb2_3 1 (nI tz) (by decide)) H.size) (cwV 2 hts (gV tw_455 tw_456 tw_457 tw_80 tw_458) rfl rfl rfl (by decide +kernel) ⟨Nat.le_of_ble_eq_true rfl, Nat.le_of_ble_eq_true rfl⟩) (pV hS hAlo hlo hP hK (va_Dlo hD hAlo) hZ [4] (by decide) rfl (ci := 6) (q := (RX6, TX6, 6)) (q0 := 0) rfl rfl) rfl rfl hl.1 rfl (lv_room (Nat.le_of_ble_eq_true rfl)) dX5_readFrom_139 ⟨Nat.le_of_ble_eq_true rfl, Nat.le_of_ble_eq_true rfl⟩) hS hA hP hD [4] [0, 1, 2, 3, 5] rfl rfl (by decide) (by decide) (fun u H locs hw_15 hP hD hS => ?_)
          obtain ⟨fn__15, fb__15⟩ := u
          replace hP : va_P D classes [(h0, .inr (5, (fX5 h1 h2 h3 h4))), (aI k h1 10 (vv n2_3 see2_3 tm2_3 g2_3)), (aI k h2 24 ff2_3), (aI k h3 24 fp2_3), (aB k x1 240 fx), (x0, .inr (6, (fX6 x1 (nI tz) (nI ta__11) na2_3 fn__15 fb__15)))] H := hP
          replace hD : va_D A [(h0, .inr (5, (fX5 h1 h2 h3 h4))), (aI k h1 10 (vv n2_3 see2_3 tm2_3 g2_3)), (aI k h2 24 ff2_3), (aI k h3 24 fp2_3), (aB k x1 240 fx), (x0, .inr (6, (fX6 x1 (nI tz) (nI ta__11) na2_3 fn__15 fb__15)))] := hD
          try dsimp only at hw_15
          have hP9 := hP.sub (ws' := [(h0, .inr (5, (fX5 h1 h2 h3 h4))), (aI k h1 10 (vv n2_3 see2_3 tm2_3 g2_3)), (aI k h2 24 ff2_3), (aI k h3 24 fp2_3), (x0, .inr (6, (fX6 x1 (nI tz) (nI ta__11) na2_3 fn__15 fb__15))), (aB k x1 240 fx)]) [0, 1, 2, 3, 5, 4] rfl
          have hD9 := hD.sub (ws' := [(h0, .inr (5, (fX5 h1 h2 h3 h4))), (aI k h1 10 (vv n2_3 see2_3 tm2_3 g2_3)), (aI k h2 24 ff2_3), (aI k h3 24 fp2_3), (x0, .inr (6, (fX6 x1 (nI tz) (nI ta__11) na2_3 fn__15 fb__15))), (aB k x1 240 fx)]) [0, 1, 2, 3, 5, 4] (by decide) rfl
          exact W.vret hx hb hr (fun t ht hW => ⟨⟨(n2_3, see2_3, tm2_3, g2_3, ff2_3, fp2_3, ta__11, na2_3, fn__15, fb__15), rfl, ⟨by omega, by omega, by omega, by omega⟩, by rw [ht]; exact hP9, hD9⟩, hS.F ht⟩) hS.2.2 dX5_readFrom_142
      · refine lv_if_ne (tgt := 119) hx hb dX5_readFrom_36 (by decide) (fun h => absurd (by decide) h) (fun _ => ?_)
        refine lv_aload_n hx hb dX5_readFrom_39 rfl (lv_at hl 3 rfl) ?_
        refine va_get (D := D) (ci := 6) (v := .int (nI ta__11)) (C := RX6) (T := TX6) (N := 6) hx hb hts inX6 hown hK hP 4 rfl rfl 2 (by decide) (hts _ tw_115) (fun _ h9 => h9) rfl dX5_readFrom_40 ?_
        refine lv_istore (lv' := [(4, .int (nI ta__11)), (3, .int (nI kk_3)), (2, .int to2_3), (0, .ref h0), (1, .ref x0)]) hx hb dX5_readFrom_43 hl (by decide) rfl (fun ls hl => ?_)
        refine lv_aload_n hx hb dX5_readFrom_45 rfl (lv_at hl 4 rfl) ?_
        refine rw_i (D := D) (wr := [(h0, .inr (5, (fX5 h1 h2 h3 h4))), (aI k h1 10 (vv n2_3 see2_3 tm2_3 g2_3)), (aI k h2 24 ff2_3), (aI k h3 24 fp2_3)]) (va_runS (As := [.ref x0]) (rest := []) ⟨hx, hb, hml, hown, hts⟩ ((x_takeClauseWord l D k st lo x0 x1 tz ta__11 na2_3 0 fb2_3 fx (by omega) (by omega)) H.size) (va_cwS 1 hts (gS tw_383 tw_384 tw_81 tw_385) rfl rfl rfl (by decide +kernel) ⟨Nat.le_of_ble_eq_true rfl, Nat.le_of_ble_eq_true rfl⟩) (pS hS hAlo hlo hP hK (va_Dlo hD hAlo) hZ [4, 5] (by decide) rfl) rfl rfl hl.1 rfl (lv_room (Nat.le_of_ble_eq_true rfl)) dX5_readFrom_46 ⟨Nat.le_of_ble_eq_true rfl, Nat.le_of_ble_eq_true rfl⟩) hS hA hP hD [4, 5] [0, 1, 2, 3] rfl rfl (by decide) (by decide) (fun r_16 u H locs hw_16 hP hD hS => ?_)
        obtain ⟨ta__16, rfl⟩ : ∃ z, z = u := ⟨_, rfl⟩
        replace hP : va_P D classes [(h0, .inr (5, (fX5 h1 h2 h3 h4))), (aI k h1 10 (vv n2_3 see2_3 tm2_3 g2_3)), (aI k h2 24 ff2_3), (aI k h3 24 fp2_3), (x0, .inr (6, (fX6 x1 (nI tz) (nI ta__16) na2_3 0 fb2_3))), (aB k x1 240 fx)] H := hP
        replace hD : va_D A [(h0, .inr (5, (fX5 h1 h2 h3 h4))), (aI k h1 10 (vv n2_3 see2_3 tm2_3 g2_3)), (aI k h2 24 ff2_3), (aI k h3 24 fp2_3), (x0, .inr (6, (fX6 x1 (nI tz) (nI ta__16) na2_3 0 fb2_3))), (aB k x1 240 fx)] := hD
        try dsimp only at hw_16
        rcases hw_16 with ⟨rfl | ⟨cl_17, hc_17, rfl⟩, hw_16⟩
        · refine lv_istore (lv' := [(5, .int (-1)), (4, .int (nI ta__11)), (3, .int (nI kk_3)), (2, .int to2_3), (0, .ref h0), (1, .ref x0)]) hx hb dX5_readFrom_49 hl (by decide) rfl (fun ls hl => ?_)
          refine lv_iload hx hb dX5_readFrom_51 (lv_at hl 0 rfl) ?_
          refine lv_iconst (v := (-1)) hx hb dX5_readFrom_53 (by decide) ?_
          refine lv_icmp_ne (tgt := 67) hx hb dX5_readFrom_54 (by decide) (fun h => absurd (by decide) h) (fun _ => ?_)
          refine lv_aload_n hx hb dX5_readFrom_57 rfl (lv_at hl 5 rfl) ?_
          refine lv_iconst (v := 1) hx hb dX5_readFrom_58 (by decide) ?_
          refine lv_iload hx hb dX5_readFrom_59 (lv_at hl 1 rfl) ?_
          refine rw_v (D := D) (wr := [(h0, .inr (5, (fX5 h1 h2 h3 h4))), (aI k h1 10 (vv n2_3 see2_3 tm2_3 g2_3)), (aI k h2 24 ff2_3), (aI k h3 24 fp2_3), (aB k x1 240 fx)]) (va_runV (As := [.int 1, .int (nI ta__11)]) (rest := []) ⟨hx, hb, hml, hown, hts⟩ ((x_fail l D k st lo x0 x1 tz ta__16 na2_3 0 fb2_3 1 (nI ta__11) (by decide)) H.size) (cwV 2 hts (gV tw_455 tw_456 tw_457 tw_80 tw_458) rfl rfl rfl (by decide +kernel) ⟨Nat.le_of_ble_eq_true rfl, Nat.le_of_ble_eq_true rfl⟩) (pV hS hAlo hlo hP hK (va_Dlo hD hAlo) hZ [4] (by decide) rfl (ci := 6) (q := (RX6, TX6, 6)) (q0 := 0) rfl rfl) rfl rfl hl.1 rfl (lv_room (Nat.le_of_ble_eq_true rfl)) dX5_readFrom_61 ⟨Nat.le_of_ble_eq_true rfl, Nat.le_of_ble_eq_true rfl⟩) hS hA hP hD [4] [0, 1, 2, 3, 5] rfl rfl (by decide) (by decide) (fun u H locs hw_18 hP hD hS => ?_)
          obtain ⟨fn__18, fb__18⟩ := u
          replace hP : va_P D classes [(h0, .inr (5, (fX5 h1 h2 h3 h4))), (aI k h1 10 (vv n2_3 see2_3 tm2_3 g2_3)), (aI k h2 24 ff2_3), (aI k h3 24 fp2_3), (aB k x1 240 fx), (x0, .inr (6, (fX6 x1 (nI tz) (nI ta__16) na2_3 fn__18 fb__18)))] H := hP
          replace hD : va_D A [(h0, .inr (5, (fX5 h1 h2 h3 h4))), (aI k h1 10 (vv n2_3 see2_3 tm2_3 g2_3)), (aI k h2 24 ff2_3), (aI k h3 24 fp2_3), (aB k x1 240 fx), (x0, .inr (6, (fX6 x1 (nI tz) (nI ta__16) na2_3 fn__18 fb__18)))] := hD
          try dsimp only at hw_18
          refine lv_goto (tgt := 113) hx hb dX5_readFrom_64 (by decide) ?_
          refine lv_iinc (v := (nI (kk_3 + 1))) (lv' := [(3, .int (nI (kk_3 + 1))), (5, .int (-1)), (4, .int (nI ta__11)), (2, .int to2_3), (0, .ref h0), (1, .ref x0)]) hx hb dX5_readFrom_113 hl (k := 2) rfl (nI_add kk_3 1) (by decide) rfl (fun ls hl => ?_)
          refine lv_goto (tgt := 18) hx hb dX5_readFrom_116 (by decide) ?_
          exact ih_3 _ (kk_3 + 1, to2_3, n2_3, see2_3, tm2_3, g2_3, ff2_3, fp2_3, ta__16, na2_3, fn__18, fb__18) _ _ _ (by omega) ⟨rfl, ⟨by omega, by omega, by omega, by omega, by omega⟩, (hP.sub [0, 1, 2, 3, 5, 4] rfl), (hD.sub [0, 1, 2, 3, 5, 4] (by decide) rfl), hS, (lv_sub hl [0, 3, 4, 5] rfl)⟩
        · refine lv_istore (lv' := [(5, .int (nI cl_17)), (4, .int (nI ta__11)), (3, .int (nI kk_3)), (2, .int to2_3), (0, .ref h0), (1, .ref x0)]) hx hb dX5_readFrom_49 hl (by decide) rfl (fun ls hl => ?_)
          refine lv_iload hx hb dX5_readFrom_51 (lv_at hl 0 rfl) ?_
          refine lv_iconst (v := (-1)) hx hb dX5_readFrom_53 (by decide) ?_
          refine lv_icmp_ne (tgt := 67) hx hb dX5_readFrom_54 (by decide) (fun _ => ?_) (fun h => absurd h (nI_ne' (by omega) (by decide)))
          refine lv_iload_n hx hb dX5_readFrom_67 rfl (lv_at hl 3 rfl) ?_
          refine lv_iload hx hb dX5_readFrom_68 (lv_at hl 0 rfl) ?_
          refine lv_ishr hx hb dX5_readFrom_70 ?_
          refine lv_topi (fun x_19 ex_19 => ?_)
          refine lv_iconst (v := 1) hx hb dX5_readFrom_71 (by decide) ?_
          refine lv_iand hx hb dX5_readFrom_72 ?_
          refine lv_topi (fun x_20 ex_20 => ?_)
          refine lv_if_eq (tgt := 86) hx hb dX5_readFrom_73 (by decide) (fun c_21 => ?_) (fun c_21 => ?_)
          · refine lv_iload hx hb dX5_readFrom_86 (lv_at hl 0 rfl) ?_
            refine lv_if_ne (tgt := 99) hx hb dX5_readFrom_88 (by decide) (fun c_22 => ?_) (fun c_22 => ?_)
            · have c_22 : ¬ (cl_17 = 0) := fun h => c_22 ((nI_eq (a := cl_17) (b := 0) (by omega) (by omega)).mpr h)
              refine lv_aload_n hx hb dX5_readFrom_99 rfl (lv_at hl 4 rfl) ?_
              refine lv_aload_n hx hb dX5_readFrom_100 rfl (lv_at hl 5 rfl) ?_
              refine lv_iload hx hb dX5_readFrom_101 (lv_at hl 0 rfl) ?_
              refine rw_v (D := D) (wr := [(aI k h2 24 ff2_3), (aI k h3 24 fp2_3)]) (va_runV (As := [.ref x0, .int (nI cl_17)]) (rest := []) ⟨hx, hb, hml, hown, hts⟩ ((x_readClause l D k st lo h0 h1 h2 h3 h4 n2_3 see2_3 tm2_3 g2_3 x0 x1 tz ta__16 na2_3 0 fb2_3 fx cl_17 (by omega) (by omega) (by omega) (by omega) (by omega)) H.size) (cwV 2 hts (gV tw_492 tw_494 tw_1 tw_81 tw_495) rfl rfl rfl (by decide +kernel) ⟨Nat.le_of_ble_eq_true rfl, Nat.le_of_ble_eq_true rfl⟩) (pV hS hAlo hlo hP hK (va_Dlo hD hAlo) hZ [0, 1, 4, 5] (by decide) rfl (ci := 5) (q := (RX5, TX5, 4)) (q0 := 0) rfl rfl) rfl rfl hl.1 rfl (lv_room (Nat.le_of_ble_eq_true rfl)) dX5_readFrom_103 ⟨Nat.le_of_ble_eq_true rfl, Nat.le_of_ble_eq_true rfl⟩) hS hA hP hD [0, 1, 4, 5] [2, 3] rfl rfl (by decide) (by decide) (fun u H locs hw_23 hP hD hS => ?_)
              obtain ⟨see__23, tm__23, g__23, ta__23, na__23, fn__23, fb__23⟩ := u
              replace hP : va_P D classes [(aI k h2 24 ff2_3), (aI k h3 24 fp2_3), (h0, .inr (5, (fX5 h1 h2 h3 h4))), (aI k h1 10 (vv n2_3 see__23 tm__23 g__23)), (x0, .inr (6, (fX6 x1 (nI tz) (nI ta__23) na__23 fn__23 fb__23))), (aB k x1 240 fx)] H := hP
              replace hD : va_D A [(aI k h2 24 ff2_3), (aI k h3 24 fp2_3), (h0, .inr (5, (fX5 h1 h2 h3 h4))), (aI k h1 10 (vv n2_3 see__23 tm__23 g__23)), (x0, .inr (6, (fX6 x1 (nI tz) (nI ta__23) na__23 fn__23 fb__23))), (aB k x1 240 fx)] := hD
              try dsimp only at hw_23
              refine lv_iload_n hx hb dX5_readFrom_106 rfl (lv_at hl 3 rfl) ?_
              refine lv_iconst (v := 1) hx hb dX5_readFrom_107 (by decide) ?_
              refine lv_iload hx hb dX5_readFrom_108 (lv_at hl 0 rfl) ?_
              refine lv_ishl hx hb dX5_readFrom_110 ?_
              refine lv_topi (fun x_24 ex_24 => ?_)
              refine lv_ior hx hb dX5_readFrom_111 ?_
              refine lv_topi (fun x_25 ex_25 => ?_)
              refine lv_istore_n (lv' := [(2, .int x_25), (5, .int (nI cl_17)), (4, .int (nI ta__11)), (3, .int (nI kk_3)), (0, .ref h0), (1, .ref x0)]) hx hb dX5_readFrom_112 rfl hl (by decide) rfl (fun ls hl => ?_)
              refine lv_iinc (v := (nI (kk_3 + 1))) (lv' := [(3, .int (nI (kk_3 + 1))), (2, .int x_25), (5, .int (nI cl_17)), (4, .int (nI ta__11)), (0, .ref h0), (1, .ref x0)]) hx hb dX5_readFrom_113 hl (k := 3) rfl (nI_add kk_3 1) (by decide) rfl (fun ls hl => ?_)
              refine lv_goto (tgt := 18) hx hb dX5_readFrom_116 (by decide) ?_
              exact ih_3 _ (kk_3 + 1, x_25, n2_3, see__23, tm__23, g__23, ff2_3, fp2_3, ta__23, na__23, fn__23, fb__23) _ _ _ (by omega) ⟨rfl, ⟨by omega, by omega, by omega, by omega, by omega⟩, (hP.sub [2, 3, 0, 1, 4, 5] rfl), (hD.sub [2, 3, 0, 1, 4, 5] (by decide) rfl), hS, (lv_sub hl [0, 1, 4, 5] rfl)⟩
            · have c_22 := (nI_eq (a := cl_17) (b := 0) (by omega) (by omega)).mp c_22
              refine lv_aload_n hx hb dX5_readFrom_91 rfl (lv_at hl 4 rfl) ?_
              refine lv_aload_n hx hb dX5_readFrom_92 rfl (lv_at hl 5 rfl) ?_
              refine rw_v (D := D) (wr := []) (va_runV (As := [.ref x0]) (rest := []) ⟨hx, hb, hml, hown, hts⟩ ((x_readDoors l D k st lo h0 h1 h2 h3 h4 n2_3 see2_3 tm2_3 g2_3 ff2_3 fp2_3 x0 x1 tz ta__16 na2_3 0 fb2_3 fx (by omega) (by omega) (by omega)) H.size) (cwV 1 hts (gV tw_459 tw_461 tw_0 tw_81 tw_462) rfl rfl rfl (by decide +kernel) ⟨Nat.le_of_ble_eq_true rfl, Nat.le_of_ble_eq_true rfl⟩) (pV hS hAlo hlo hP hK (va_Dlo hD hAlo) hZ [0, 1, 2, 3, 4, 5] (by decide) rfl (ci := 5) (q := (RX5, TX5, 4)) (q0 := 0) rfl rfl) rfl rfl hl.1 rfl (lv_room (Nat.le_of_ble_eq_true rfl)) dX5_readFrom_93 ⟨Nat.le_of_ble_eq_true rfl, Nat.le_of_ble_eq_true rfl⟩) hS hA hP hD [0, 1, 2, 3, 4, 5] [] rfl rfl (by decide) (by decide) (fun u H locs hw_26 hP hD hS => ?_)
              obtain ⟨n__26, ff__26, fp__26, ta__26, na__26, fn__26, fb__26⟩ := u
              replace hP : va_P D classes [(h0, .inr (5, (fX5 h1 h2 h3 h4))), (aI k h1 10 (vv n__26 see2_3 tm2_3 g2_3)), (aI k h2 24 ff__26), (aI k h3 24 fp__26), (x0, .inr (6, (fX6 x1 (nI tz) (nI ta__26) na__26 fn__26 fb__26))), (aB k x1 240 fx)] H := hP
              replace hD : va_D A [(h0, .inr (5, (fX5 h1 h2 h3 h4))), (aI k h1 10 (vv n__26 see2_3 tm2_3 g2_3)), (aI k h2 24 ff__26), (aI k h3 24 fp__26), (x0, .inr (6, (fX6 x1 (nI tz) (nI ta__26) na__26 fn__26 fb__26))), (aB k x1 240 fx)] := hD
              try dsimp only at hw_26
              refine lv_goto (tgt := 113) hx hb dX5_readFrom_96 (by decide) ?_
              refine lv_iinc (v := (nI (kk_3 + 1))) (lv' := [(3, .int (nI (kk_3 + 1))), (5, .int (nI cl_17)), (4, .int (nI ta__11)), (2, .int to2_3), (0, .ref h0), (1, .ref x0)]) hx hb dX5_readFrom_113 hl (k := 2) rfl (nI_add kk_3 1) (by decide) rfl (fun ls hl => ?_)
              refine lv_goto (tgt := 18) hx hb dX5_readFrom_116 (by decide) ?_
              exact ih_3 _ (kk_3 + 1, to2_3, n__26, see2_3, tm2_3, g2_3, ff__26, fp__26, ta__26, na__26, fn__26, fb__26) _ _ _ (by omega) ⟨rfl, ⟨by omega, by omega, by omega, by omega, by omega⟩, hP, hD, hS, (lv_sub hl [0, 3, 4, 5] rfl)⟩
          · refine lv_aload_n hx hb dX5_readFrom_76 rfl (lv_at hl 5 rfl) ?_
            refine lv_iconst (v := 3) hx hb dX5_readFrom_77 (by decide) ?_
            refine lv_iload hx hb dX5_readFrom_78 (lv_at hl 1 rfl) ?_
            refine rw_v (D := D) (wr := [(h0, .inr (5, (fX5 h1 h2 h3 h4))), (aI k h1 10 (vv n2_3 see2_3 tm2_3 g2_3)), (aI k h2 24 ff2_3), (aI k h3 24 fp2_3), (aB k x1 240 fx)]) (va_runV (As := [.int 3, .int (nI ta__11)]) (rest := []) ⟨hx, hb, hml, hown, hts⟩ ((x_fail l D k st lo x0 x1 tz ta__16 na2_3 0 fb2_3 3 (nI ta__11) (by decide)) H.size) (cwV 2 hts (gV tw_455 tw_456 tw_457 tw_80 tw_458) rfl rfl rfl (by decide +kernel) ⟨Nat.le_of_ble_eq_true rfl, Nat.le_of_ble_eq_true rfl⟩) (pV hS hAlo hlo hP hK (va_Dlo hD hAlo) hZ [4] (by decide) rfl (ci := 6) (q := (RX6, TX6, 6)) (q0 := 0) rfl rfl) rfl rfl hl.1 rfl (lv_room (Nat.le_of_ble_eq_true rfl)) dX5_readFrom_80 ⟨Nat.le_of_ble_eq_true rfl, Nat.le_of_ble_eq_true rfl⟩) hS hA hP hD [4] [0, 1, 2, 3, 5] rfl rfl (by decide) (by decide) (fun u H locs hw_27 hP hD hS => ?_)
            obtain ⟨fn__27, fb__27⟩ := u
            replace hP : va_P D classes [(h0, .inr (5, (fX5 h1 h2 h3 h4))), (aI k h1 10 (vv n2_3 see2_3 tm2_3 g2_3)), (aI k h2 24 ff2_3), (aI k h3 24 fp2_3), (aB k x1 240 fx), (x0, .inr (6, (fX6 x1 (nI tz) (nI ta__16) na2_3 fn__27 fb__27)))] H := hP
            replace hD : va_D A [(h0, .inr (5, (fX5 h1 h2 h3 h4))), (aI k h1 10 (vv n2_3 see2_3 tm2_3 g2_3)), (aI k h2 24 ff2_3), (aI k h3 24 fp2_3), (aB k x1 240 fx), (x0, .inr (6, (fX6 x1 (nI tz) (nI ta__16) na2_3 fn__27 fb__27)))] := hD
            try dsimp only at hw_27
            refine lv_goto (tgt := 113) hx hb dX5_readFrom_83 (by decide) ?_
            refine lv_iinc (v := (nI (kk_3 + 1))) (lv' := [(3, .int (nI (kk_3 + 1))), (5, .int (nI cl_17)), (4, .int (nI ta__11)), (2, .int to2_3), (0, .ref h0), (1, .ref x0)]) hx hb dX5_readFrom_113 hl (k := 2) rfl (nI_add kk_3 1) (by decide) rfl (fun ls hl => ?_)
            refine lv_goto (tgt := 18) hx hb dX5_readFrom_116 (by decide) ?_
            exact ih_3 _ (kk_3 + 1, to2_3, n2_3, see2_3, tm2_3, g2_3, ff2_3, fp2_3, ta__16, na2_3, fn__27, fb__27) _ _ _ (by omega) ⟨rfl, ⟨by omega, by omega, by omega, by omega, by omega⟩, (hP.sub [0, 1, 2, 3, 5, 4] rfl), (hD.sub [0, 1, 2, 3, 5, 4] (by decide) rfl), hS, (lv_sub hl [0, 3, 4, 5] rfl)⟩

theorem dX5_chanceOf_0 : decode cX5_chanceOf 0 = .ok (.iload_n 1, 1) := by decide +kernel
theorem dX5_chanceOf_1 : decode cX5_chanceOf 1 = .ok (.ifCond .ne 10, 3) := by decide +kernel
theorem dX5_chanceOf_4 : decode cX5_chanceOf 4 = .ok (.aload_n 0, 1) := by decide +kernel
theorem dX5_chanceOf_5 : decode cX5_chanceOf 5 = .ok (.getfield 15, 3) := by decide +kernel
theorem dX5_chanceOf_8 : decode cX5_chanceOf 8 = .ok (.iload_n 1, 1) := by decide +kernel
theorem dX5_chanceOf_9 : decode cX5_chanceOf 9 = .ok (.iaload, 1) := by decide +kernel
theorem dX5_chanceOf_10 : decode cX5_chanceOf 10 = .ok (.ireturn, 1) := by decide +kernel
theorem dX5_chanceOf_11 : decode cX5_chanceOf 11 = .ok (.iload_n 2, 1) := by decide +kernel
theorem dX5_chanceOf_12 : decode cX5_chanceOf 12 = .ok (.ifCond .eq 19, 3) := by decide +kernel
theorem dX5_chanceOf_15 : decode cX5_chanceOf 15 = .ok (.aload_n 0, 1) := by decide +kernel
theorem dX5_chanceOf_16 : decode cX5_chanceOf 16 = .ok (.getfield 15, 3) := by decide +kernel
theorem dX5_chanceOf_19 : decode cX5_chanceOf 19 = .ok (.iload_n 1, 1) := by decide +kernel
theorem dX5_chanceOf_20 : decode cX5_chanceOf 20 = .ok (.iaload, 1) := by decide +kernel
theorem dX5_chanceOf_21 : decode cX5_chanceOf 21 = .ok (.aload_n 0, 1) := by decide +kernel
theorem dX5_chanceOf_22 : decode cX5_chanceOf 22 = .ok (.getfield 9, 3) := by decide +kernel
theorem dX5_chanceOf_25 : decode cX5_chanceOf 25 = .ok (.iconst 1, 1) := by decide +kernel
theorem dX5_chanceOf_26 : decode cX5_chanceOf 26 = .ok (.iaload, 1) := by decide +kernel
theorem dX5_chanceOf_27 : decode cX5_chanceOf 27 = .ok (.iadd, 1) := by decide +kernel
theorem dX5_chanceOf_28 : decode cX5_chanceOf 28 = .ok (.goto 16, 3) := by decide +kernel
theorem dX5_chanceOf_31 : decode cX5_chanceOf 31 = .ok (.aload_n 0, 1) := by decide +kernel
theorem dX5_chanceOf_32 : decode cX5_chanceOf 32 = .ok (.getfield 15, 3) := by decide +kernel
theorem dX5_chanceOf_35 : decode cX5_chanceOf 35 = .ok (.iload_n 1, 1) := by decide +kernel
theorem dX5_chanceOf_36 : decode cX5_chanceOf 36 = .ok (.iaload, 1) := by decide +kernel
theorem dX5_chanceOf_37 : decode cX5_chanceOf 37 = .ok (.aload_n 0, 1) := by decide +kernel
theorem dX5_chanceOf_38 : decode cX5_chanceOf 38 = .ok (.getfield 9, 3) := by decide +kernel
theorem dX5_chanceOf_41 : decode cX5_chanceOf 41 = .ok (.iconst 1, 1) := by decide +kernel
theorem dX5_chanceOf_42 : decode cX5_chanceOf 42 = .ok (.iaload, 1) := by decide +kernel
theorem dX5_chanceOf_43 : decode cX5_chanceOf 43 = .ok (.isub, 1) := by decide +kernel
theorem dX5_chanceOf_44 : decode cX5_chanceOf 44 = .ok (.istore_n 3, 1) := by decide +kernel
theorem dX5_chanceOf_45 : decode cX5_chanceOf 45 = .ok (.iconst 0, 1) := by decide +kernel
theorem dX5_chanceOf_46 : decode cX5_chanceOf 46 = .ok (.bipush 100, 2) := by decide +kernel
theorem dX5_chanceOf_48 : decode cX5_chanceOf 48 = .ok (.iload_n 3, 1) := by decide +kernel
theorem dX5_chanceOf_49 : decode cX5_chanceOf 49 = .ok (.invokestatic 129, 3) := by decide +kernel
theorem dX5_chanceOf_52 : decode cX5_chanceOf 52 = .ok (.invokestatic 34, 3) := by decide +kernel
theorem dX5_chanceOf_55 : decode cX5_chanceOf 55 = .ok (.ireturn, 1) := by decide +kernel
set_option maxHeartbeats 4000000 in
set_option maxRecDepth 100000 in
theorem x_chanceOf (l : Launch) (D : va_G) (k : Nat → ClassId) (st : Nat → Nat) (lo : Nat) (h0 : Nat) (h1 : Nat) (h2 : Nat) (h3 : Nat) (h4 : Nat) (n : Nat) (see : Nat) (tm : Nat) (g : Nat → Int32) (ff : Nat → Int32) (i : Nat) (p1 : Int32) (hi : i < 24) : CRi l D k st lo yX5_chanceOf cX5_chanceOf 4 (some .int) ({ frames := 1, cells := 0, slots := 0, locals := 60 }) [.ref h0, .int (nI i), .int p1] [(h0, .inr (5, (fX5 h1 h2 h3 h4))), (aI k h1 10 (vv n see tm g)), (aI k h2 24 ff)] (fun _ => True) := by
  intro sz
  refine Met.ofW (cc := cX5_chanceOf) (maxL := 4) (ret := (some .int)) (by decide) rfl ?_
  intro p e s m args below meth c s₁ B hml hv
  obtain ⟨rfl, hsz, hlo, hP, hK, hDL, hZ⟩ := hv
  have hx := B.exec
  have hb := B.bytes
  have hr := B.returns
  have hts := WS_ts B.pre
  have hown : s.vm.findClass RX5 = some m.cls := findClass_of_methodNamed B.named
  have hlocks := B.notSynchronized
  subst hsz
  have hA : ∀ q : Nat, s.heap.size ≤ q → (fun q : Nat => s.heap.size ≤ q) q := fun _ h => h
  have hAlo : ∀ q : Nat, (fun q : Nat => s.heap.size ≤ q) q → lo ≤ q := fun q h => Nat.le_trans hlo h
  have hS : va_S (fun q : Nat => s.heap.size ≤ q) s.heap s.heap [] := va_S.rf
  have hl := lv_entry ([.ref h0, .int (nI i), .int p1]) (n := 4) (Nat.le_of_ble_eq_true rfl)
  rw [lg_entry_eq]
  generalize (lg_sl ([.ref h0, .int (nI i), .int p1]) ++ List.replicate (4 - (lg_sl ([.ref h0, .int (nI i), .int p1])).length) Slot.unset).toArray = ls at hl ⊢
  have hl : lv_has ls 4 [(0, .ref h0), (1, .int (nI i)), (2, .int p1)] := hl
  refine lv_iload_n hx hb dX5_chanceOf_0 rfl (lv_at hl 1 rfl) ?_
  refine lv_if_ne (tgt := 11) hx hb dX5_chanceOf_1 (by decide) (fun c_1 => ?_) (fun c_1 => ?_)
  · have c_1 : ¬ (i = 0) := fun h => c_1 ((nI_eq (a := i) (b := 0) (by omega) (by omega)).mpr h)
    refine lv_iload_n hx hb dX5_chanceOf_11 rfl (lv_at hl 2 rfl) ?_
    refine lv_if_eq (tgt := 31) hx hb dX5_chanceOf_12 (by decide) (fun c_2 => ?_) (fun c_2 => ?_)
    · refine lv_aload_n hx hb dX5_chanceOf_31 rfl (lv_at hl 0 rfl) ?_
      refine va_get (D := D) (ci := 5) (v := .ref h2) (C := RX5) (T := TX5) (N := 4) hx hb hts inX5 hown hK hP 0 rfl rfl 1 (by decide) (hts _ tw_150) (fun _ h9 => h9) rfl dX5_chanceOf_32 ?_
      refine lv_iload_n hx hb dX5_chanceOf_35 rfl (lv_at hl 1 rfl) ?_
      refine va_iald hx hb hK hP 2 1 rfl rfl (vp_in_nI (by omega) (by decide)) dX5_chanceOf_36 ?_
      refine lv_ti (y := (ff i)) (by rw [nI_clamp (by omega)]) ?_
      refine lv_aload_n hx hb dX5_chanceOf_37 rfl (lv_at hl 0 rfl) ?_
      refine va_get (D := D) (ci := 5) (v := .ref h1) (C := RX5) (T := TX5) (N := 4) hx hb hts inX5 hown hK hP 0 rfl rfl 0 (by decide) (hts _ tw_146) (fun _ h9 => h9) rfl dX5_chanceOf_38 ?_
      refine lv_iconst (v := 1) hx hb dX5_chanceOf_41 (by decide) ?_
      refine va_iald hx hb hK hP 1 1 rfl rfl (by unfold vp_in; decide) dX5_chanceOf_42 ?_
      refine lv_ti (y := (g 1)) (by rfl) ?_
      refine lv_isub hx hb dX5_chanceOf_43 ?_
      refine lv_topi (fun x_3 ex_3 => ?_)
      refine lv_istore_n (lv' := [(3, .int x_3), (0, .ref h0), (1, .int (nI i)), (2, .int p1)]) hx hb dX5_chanceOf_44 rfl hl (by decide) rfl (fun ls hl => ?_)
      refine lv_iconst (v := 0) hx hb dX5_chanceOf_45 (by decide) ?_
      refine lv_bipush (v := 100) hx hb dX5_chanceOf_46 (by decide) ?_
      refine lv_iload_n hx hb dX5_chanceOf_48 rfl (lv_at hl 0 rfl) ?_
      refine va_mmin hx hb (by rw [hml]; exact hl.1.symm) hown (hts _ tw_540) (hts _ tw_529) (hts _ tw_93) (hts _ tw_530) (Nat.le_of_ble_eq_true rfl) (Nat.le_of_ble_eq_true rfl) (Nat.le_of_ble_eq_true rfl) (Nat.le_of_ble_eq_true rfl) dX5_chanceOf_49 ?_
      refine lv_topi (fun x_4 ex_4 => ?_)
      refine va_mmax hx hb (by rw [hml]; exact hl.1.symm) hown (hts _ tw_509) (hts _ tw_510) (hts _ tw_93) (hts _ tw_511) (Nat.le_of_ble_eq_true rfl) (Nat.le_of_ble_eq_true rfl) (Nat.le_of_ble_eq_true rfl) (Nat.le_of_ble_eq_true rfl) dX5_chanceOf_52 ?_
      refine lv_topi (fun x_5 ex_5 => ?_)
      exact W.iret (v := x_5) hx hb hr (fun t ht hW => ⟨⟨x_5, (), rfl, trivial, trivial⟩, hS.F ht⟩) hS.2.2 dX5_chanceOf_55
    · refine lv_aload_n hx hb dX5_chanceOf_15 rfl (lv_at hl 0 rfl) ?_
      refine va_get (D := D) (ci := 5) (v := .ref h2) (C := RX5) (T := TX5) (N := 4) hx hb hts inX5 hown hK hP 0 rfl rfl 1 (by decide) (hts _ tw_150) (fun _ h9 => h9) rfl dX5_chanceOf_16 ?_
      refine lv_iload_n hx hb dX5_chanceOf_19 rfl (lv_at hl 1 rfl) ?_
      refine va_iald hx hb hK hP 2 1 rfl rfl (vp_in_nI (by omega) (by decide)) dX5_chanceOf_20 ?_
      refine lv_ti (y := (ff i)) (by rw [nI_clamp (by omega)]) ?_
      refine lv_aload_n hx hb dX5_chanceOf_21 rfl (lv_at hl 0 rfl) ?_
      refine va_get (D := D) (ci := 5) (v := .ref h1) (C := RX5) (T := TX5) (N := 4) hx hb hts inX5 hown hK hP 0 rfl rfl 0 (by decide) (hts _ tw_146) (fun _ h9 => h9) rfl dX5_chanceOf_22 ?_
      refine lv_iconst (v := 1) hx hb dX5_chanceOf_25 (by decide) ?_
      refine va_iald hx hb hK hP 1 1 rfl rfl (by unfold vp_in; decide) dX5_chanceOf_26 ?_
      refine lv_ti (y := (g 1)) (by rfl) ?_
      refine lv_iadd hx hb dX5_chanceOf_27 ?_
      refine lv_topi (fun x_6 ex_6 => ?_)
      refine lv_goto (tgt := 44) hx hb dX5_chanceOf_28 (by decide) ?_
      refine lv_istore_n (lv' := [(3, .int x_6), (0, .ref h0), (1, .int (nI i)), (2, .int p1)]) hx hb dX5_chanceOf_44 rfl hl (by decide) rfl (fun ls hl => ?_)
      refine lv_iconst (v := 0) hx hb dX5_chanceOf_45 (by decide) ?_
      refine lv_bipush (v := 100) hx hb dX5_chanceOf_46 (by decide) ?_
      refine lv_iload_n hx hb dX5_chanceOf_48 rfl (lv_at hl 0 rfl) ?_
      refine va_mmin hx hb (by rw [hml]; exact hl.1.symm) hown (hts _ tw_540) (hts _ tw_529) (hts _ tw_93) (hts _ tw_530) (Nat.le_of_ble_eq_true rfl) (Nat.le_of_ble_eq_true rfl) (Nat.le_of_ble_eq_true rfl) (Nat.le_of_ble_eq_true rfl) dX5_chanceOf_49 ?_
      refine lv_topi (fun x_7 ex_7 => ?_)
      refine va_mmax hx hb (by rw [hml]; exact hl.1.symm) hown (hts _ tw_509) (hts _ tw_510) (hts _ tw_93) (hts _ tw_511) (Nat.le_of_ble_eq_true rfl) (Nat.le_of_ble_eq_true rfl) (Nat.le_of_ble_eq_true rfl) (Nat.le_of_ble_eq_true rfl) dX5_chanceOf_52 ?_
      refine lv_topi (fun x_8 ex_8 => ?_)
      exact W.iret (v := x_8) hx hb hr (fun t ht hW => ⟨⟨x_8, (), rfl, trivial, trivial⟩, hS.F ht⟩) hS.2.2 dX5_chanceOf_55
  · have c_1 := (nI_eq (a := i) (b := 0) (by omega) (by omega)).mp c_1
    refine lv_aload_n hx hb dX5_chanceOf_4 rfl (lv_at hl 0 rfl) ?_
    refine va_get (D := D) (ci := 5) (v := .ref h2) (C := RX5) (T := TX5) (N := 4) hx hb hts inX5 hown hK hP 0 rfl rfl 1 (by decide) (hts _ tw_150) (fun _ h9 => h9) rfl dX5_chanceOf_5 ?_
    refine lv_iload_n hx hb dX5_chanceOf_8 rfl (lv_at hl 1 rfl) ?_
    refine va_iald hx hb hK hP 2 1 rfl rfl (vp_in_nI (by omega) (by decide)) dX5_chanceOf_9 ?_
    refine lv_ti (y := (ff i)) (by rw [nI_clamp (by omega)]) ?_
    exact W.iret (v := (ff i)) hx hb hr (fun t ht hW => ⟨⟨(ff i), (), rfl, trivial, trivial⟩, hS.F ht⟩) hS.2.2 dX5_chanceOf_10

theorem dX5_isLateIn_0 : decode cX5_isLateIn 0 = .ok (.aload_n 0, 1) := by decide +kernel
theorem dX5_isLateIn_1 : decode cX5_isLateIn 1 = .ok (.iload_n 1, 1) := by decide +kernel
theorem dX5_isLateIn_2 : decode cX5_isLateIn 2 = .ok (.invokevirtual 30, 3) := by decide +kernel
theorem dX5_isLateIn_5 : decode cX5_isLateIn 5 = .ok (.aload_n 0, 1) := by decide +kernel
theorem dX5_isLateIn_6 : decode cX5_isLateIn 6 = .ok (.getfield 9, 3) := by decide +kernel
theorem dX5_isLateIn_9 : decode cX5_isLateIn 9 = .ok (.iconst 5, 1) := by decide +kernel
theorem dX5_isLateIn_10 : decode cX5_isLateIn 10 = .ok (.iaload, 1) := by decide +kernel
theorem dX5_isLateIn_11 : decode cX5_isLateIn 11 = .ok (.if_icmp .le 7, 3) := by decide +kernel
theorem dX5_isLateIn_14 : decode cX5_isLateIn 14 = .ok (.iconst 1, 1) := by decide +kernel
theorem dX5_isLateIn_15 : decode cX5_isLateIn 15 = .ok (.goto 4, 3) := by decide +kernel
theorem dX5_isLateIn_18 : decode cX5_isLateIn 18 = .ok (.iconst 0, 1) := by decide +kernel
theorem dX5_isLateIn_19 : decode cX5_isLateIn 19 = .ok (.ireturn, 1) := by decide +kernel
set_option maxHeartbeats 4000000 in
set_option maxRecDepth 100000 in
theorem x_isLateIn (l : Launch) (D : va_G) (k : Nat → ClassId) (st : Nat → Nat) (lo : Nat) (h0 : Nat) (h1 : Nat) (h2 : Nat) (h3 : Nat) (h4 : Nat) (n : Nat) (see : Nat) (tm : Nat) (g : Nat → Int32) (rn : Nat)  : CRi l D k st lo yX5_isLateIn cX5_isLateIn 2 (some .boolean) ({ frames := 1, cells := 0, slots := 0, locals := 21 }) [.ref h0, .int (nI rn)] [(h0, .inr (5, (fX5 h1 h2 h3 h4))), (aI k h1 10 (vv n see tm g))] (fun _ => True) := by
  intro sz
  refine Met.ofW (cc := cX5_isLateIn) (maxL := 2) (ret := (some .boolean)) (by decide) rfl ?_
  intro p e s m args below meth c s₁ B hml hv
  obtain ⟨rfl, hsz, hlo, hP, hK, hDL, hZ⟩ := hv
  have hx := B.exec
  have hb := B.bytes
  have hr := B.returns
  have hts := WS_ts B.pre
  have hown : s.vm.findClass RX5 = some m.cls := findClass_of_methodNamed B.named
  have hlocks := B.notSynchronized
  subst hsz
  have hA : ∀ q : Nat, s.heap.size ≤ q → (fun q : Nat => s.heap.size ≤ q) q := fun _ h => h
  have hAlo : ∀ q : Nat, (fun q : Nat => s.heap.size ≤ q) q → lo ≤ q := fun q h => Nat.le_trans hlo h
  have hS : va_S (fun q : Nat => s.heap.size ≤ q) s.heap s.heap [] := va_S.rf
  have hl := lv_entry ([.ref h0, .int (nI rn)]) (n := 2) (Nat.le_of_ble_eq_true rfl)
  rw [lg_entry_eq]
  generalize (lg_sl ([.ref h0, .int (nI rn)]) ++ List.replicate (2 - (lg_sl ([.ref h0, .int (nI rn)])).length) Slot.unset).toArray = ls at hl ⊢
  have hl : lv_has ls 2 [(0, .ref h0), (1, .int (nI rn))] := hl
  refine lv_aload_n hx hb dX5_isLateIn_0 rfl (lv_at hl 0 rfl) ?_
  refine lv_iload_n hx hb dX5_isLateIn_1 rfl (lv_at hl 1 rfl) ?_
  refine ro_i (D := D) (va_runV (As := [.int (nI rn)]) (rest := []) ⟨hx, hb, hml, hown, hts⟩ ((x_arrivalOf l D k st lo h0 h1 h2 h3 h4 n see tm g rn) s.heap.size) (cwV 1 hts (gV tw_505 tw_507 tw_3 tw_81 tw_508) rfl rfl rfl (by decide +kernel) ⟨Nat.le_of_ble_eq_true rfl, Nat.le_of_ble_eq_true rfl⟩) (pV hS hAlo hlo hP hK hDL hZ [0, 1] (by decide) rfl (ci := 5) (q := (RX5, TX5, 4)) (q0 := 0) rfl rfl) rfl rfl hl.1 rfl (lv_room (Nat.le_of_ble_eq_true rfl)) dX5_isLateIn_2 ⟨Nat.le_of_ble_eq_true rfl, Nat.le_of_ble_eq_true rfl⟩) hS hA hP (fun r_1 H locs hw_1 hP hS => ?_)
  try dsimp only at hw_1
  refine lv_aload_n hx hb dX5_isLateIn_5 rfl (lv_at hl 0 rfl) ?_
  refine va_get (D := D) (ci := 5) (v := .ref h1) (C := RX5) (T := TX5) (N := 4) hx hb hts inX5 hown hK hP 0 rfl rfl 0 (by decide) (hts _ tw_146) (fun _ h9 => h9) rfl dX5_isLateIn_6 ?_
  refine lv_iconst (v := 5) hx hb dX5_isLateIn_9 (by decide) ?_
  refine va_iald hx hb hK hP 1 1 rfl rfl (by unfold vp_in; decide) dX5_isLateIn_10 ?_
  refine lv_ti (y := (g 5)) (by rfl) ?_
  refine lv_icmp_le (tgt := 18) hx hb dX5_isLateIn_11 (by decide) (fun c_2 => ?_) (fun c_2 => ?_)
  · refine lv_iconst (v := 0) hx hb dX5_isLateIn_18 (by decide) ?_
    exact W.zret (v := 0) (ty := .boolean) hx hb hr rfl (fun t ht hW => ⟨⟨0, (), rfl, trivial, trivial⟩, hS.F ht⟩) hS.2.2 dX5_isLateIn_19
  · refine lv_iconst (v := 1) hx hb dX5_isLateIn_14 (by decide) ?_
    refine lv_goto (tgt := 19) hx hb dX5_isLateIn_15 (by decide) ?_
    exact W.zret (v := 1) (ty := .boolean) hx hb hr rfl (fun t ht hW => ⟨⟨1, (), rfl, trivial, trivial⟩, hS.F ht⟩) hS.2.2 dX5_isLateIn_19

theorem dX5_takingBy_0 : decode cX5_takingBy 0 = .ok (.aload_n 0, 1) := by decide +kernel
theorem dX5_takingBy_1 : decode cX5_takingBy 1 = .ok (.getfield 18, 3) := by decide +kernel
theorem dX5_takingBy_4 : decode cX5_takingBy 4 = .ok (.iload_n 3, 1) := by decide +kernel
theorem dX5_takingBy_5 : decode cX5_takingBy 5 = .ok (.iaload, 1) := by decide +kernel
theorem dX5_takingBy_6 : decode cX5_takingBy 6 = .ok (.iload_n 1, 1) := by decide +kernel
theorem dX5_takingBy_7 : decode cX5_takingBy 7 = .ok (.aload_n 0, 1) := by decide +kernel
theorem dX5_takingBy_8 : decode cX5_takingBy 8 = .ok (.getfield 9, 3) := by decide +kernel
theorem dX5_takingBy_11 : decode cX5_takingBy 11 = .ok (.iconst 0, 1) := by decide +kernel
theorem dX5_takingBy_12 : decode cX5_takingBy 12 = .ok (.iaload, 1) := by decide +kernel
theorem dX5_takingBy_13 : decode cX5_takingBy 13 = .ok (.iload_n 3, 1) := by decide +kernel
theorem dX5_takingBy_14 : decode cX5_takingBy 14 = .ok (.isub, 1) := by decide +kernel
theorem dX5_takingBy_15 : decode cX5_takingBy 15 = .ok (.imul, 1) := by decide +kernel
theorem dX5_takingBy_16 : decode cX5_takingBy 16 = .ok (.iadd, 1) := by decide +kernel
theorem dX5_takingBy_17 : decode cX5_takingBy 17 = .ok (.aload_n 0, 1) := by decide +kernel
theorem dX5_takingBy_18 : decode cX5_takingBy 18 = .ok (.getfield 21, 3) := by decide +kernel
theorem dX5_takingBy_21 : decode cX5_takingBy 21 = .ok (.iload_n 2, 1) := by decide +kernel
theorem dX5_takingBy_22 : decode cX5_takingBy 22 = .ok (.iaload, 1) := by decide +kernel
theorem dX5_takingBy_23 : decode cX5_takingBy 23 = .ok (.iadd, 1) := by decide +kernel
theorem dX5_takingBy_24 : decode cX5_takingBy 24 = .ok (.sipush 1000, 3) := by decide +kernel
theorem dX5_takingBy_27 : decode cX5_takingBy 27 = .ok (.imul, 1) := by decide +kernel
theorem dX5_takingBy_28 : decode cX5_takingBy 28 = .ok (.ireturn, 1) := by decide +kernel
set_option maxHeartbeats 4000000 in
set_option maxRecDepth 100000 in
theorem x_takingBy (l : Launch) (D : va_G) (k : Nat → ClassId) (st : Nat → Nat) (lo : Nat) (h0 : Nat) (h1 : Nat) (h2 : Nat) (h3 : Nat) (h4 : Nat) (n : Nat) (see : Nat) (tm : Nat) (g : Nat → Int32) (fp : Nat → Int32) (fl : Nat → Int32) (p0 : Int32) (rn : Nat) (i : Nat) (hrn : rn ≤ 3) (hi : i < 24) : CRi l D k st lo yX5_takingBy cX5_takingBy 4 (some .int) ({ frames := 0, cells := 0, slots := 0, locals := 0 }) [.ref h0, .int p0, .int (nI rn), .int (nI i)] [(h0, .inr (5, (fX5 h1 h2 h3 h4))), (aI k h1 10 (vv n see tm g)), (aI k h3 24 fp), (aI k h4 4 fl)] (fun _ => True) := by
  intro sz
  refine Met.ofW (cc := cX5_takingBy) (maxL := 4) (ret := (some .int)) (by decide) rfl ?_
  intro p e s m args below meth c s₁ B hml hv
  obtain ⟨rfl, hsz, hlo, hP, hK, hDL, hZ⟩ := hv
  have hx := B.exec
  have hb := B.bytes
  have hr := B.returns
  have hts := WS_ts B.pre
  have hown : s.vm.findClass RX5 = some m.cls := findClass_of_methodNamed B.named
  have hlocks := B.notSynchronized
  subst hsz
  have hA : ∀ q : Nat, s.heap.size ≤ q → (fun q : Nat => s.heap.size ≤ q) q := fun _ h => h
  have hAlo : ∀ q : Nat, (fun q : Nat => s.heap.size ≤ q) q → lo ≤ q := fun q h => Nat.le_trans hlo h
  have hS : va_S (fun q : Nat => s.heap.size ≤ q) s.heap s.heap [] := va_S.rf
  have hl := lv_entry ([.ref h0, .int p0, .int (nI rn), .int (nI i)]) (n := 4) (Nat.le_of_ble_eq_true rfl)
  rw [lg_entry_eq]
  generalize (lg_sl ([.ref h0, .int p0, .int (nI rn), .int (nI i)]) ++ List.replicate (4 - (lg_sl ([.ref h0, .int p0, .int (nI rn), .int (nI i)])).length) Slot.unset).toArray = ls at hl ⊢
  have hl : lv_has ls 4 [(0, .ref h0), (1, .int p0), (2, .int (nI rn)), (3, .int (nI i))] := hl
  refine lv_aload_n hx hb dX5_takingBy_0 rfl (lv_at hl 0 rfl) ?_
  refine va_get (D := D) (ci := 5) (v := .ref h3) (C := RX5) (T := TX5) (N := 4) hx hb hts inX5 hown hK hP 0 rfl rfl 2 (by decide) (hts _ tw_152) (fun _ h9 => h9) rfl dX5_takingBy_1 ?_
  refine lv_iload_n hx hb dX5_takingBy_4 rfl (lv_at hl 3 rfl) ?_
  refine va_iald hx hb hK hP 2 1 rfl rfl (vp_in_nI (by omega) (by decide)) dX5_takingBy_5 ?_
  refine lv_ti (y := (fp i)) (by rw [nI_clamp (by omega)]) ?_
  refine lv_iload_n hx hb dX5_takingBy_6 rfl (lv_at hl 1 rfl) ?_
  refine lv_aload_n hx hb dX5_takingBy_7 rfl (lv_at hl 0 rfl) ?_
  refine va_get (D := D) (ci := 5) (v := .ref h1) (C := RX5) (T := TX5) (N := 4) hx hb hts inX5 hown hK hP 0 rfl rfl 0 (by decide) (hts _ tw_146) (fun _ h9 => h9) rfl dX5_takingBy_8 ?_
  refine lv_iconst (v := 0) hx hb dX5_takingBy_11 (by decide) ?_
  refine va_iald hx hb hK hP 1 1 rfl rfl (by unfold vp_in; decide) dX5_takingBy_12 ?_
  refine lv_ti (y := (nI n)) (by rfl) ?_
  refine lv_iload_n hx hb dX5_takingBy_13 rfl (lv_at hl 3 rfl) ?_
  refine lv_isub hx hb dX5_takingBy_14 ?_
  refine lv_topi (fun x_1 ex_1 => ?_)
  refine lv_imul hx hb dX5_takingBy_15 ?_
  refine lv_topi (fun x_2 ex_2 => ?_)
  refine lv_iadd hx hb dX5_takingBy_16 ?_
  refine lv_topi (fun x_3 ex_3 => ?_)
  refine lv_aload_n hx hb dX5_takingBy_17 rfl (lv_at hl 0 rfl) ?_
  refine va_get (D := D) (ci := 5) (v := .ref h4) (C := RX5) (T := TX5) (N := 4) hx hb hts inX5 hown hK hP 0 rfl rfl 3 (by decide) (hts _ tw_154) (fun _ h9 => h9) rfl dX5_takingBy_18 ?_
  refine lv_iload_n hx hb dX5_takingBy_21 rfl (lv_at hl 2 rfl) ?_
  refine va_iald hx hb hK hP 3 1 rfl rfl (vp_in_nI (by omega) (by decide)) dX5_takingBy_22 ?_
  refine lv_ti (y := (fl rn)) (by rw [nI_clamp (by omega)]) ?_
  refine lv_iadd hx hb dX5_takingBy_23 ?_
  refine lv_topi (fun x_4 ex_4 => ?_)
  refine lv_sipush (v := 1000) hx hb dX5_takingBy_24 (by decide) ?_
  refine lv_imul hx hb dX5_takingBy_27 ?_
  refine lv_topi (fun x_5 ex_5 => ?_)
  exact W.iret (v := x_5) hx hb hr (fun t ht hW => ⟨⟨x_5, (), rfl, trivial, trivial⟩, hS.F ht⟩) hS.2.2 dX5_takingBy_28

theorem dX5_takingOf_0 : decode cX5_takingOf 0 = .ok (.aload_n 0, 1) := by decide +kernel
theorem dX5_takingOf_1 : decode cX5_takingOf 1 = .ok (.aload_n 0, 1) := by decide +kernel
theorem dX5_takingOf_2 : decode cX5_takingOf 2 = .ok (.getfield 9, 3) := by decide +kernel
theorem dX5_takingOf_5 : decode cX5_takingOf 5 = .ok (.iconst 2, 1) := by decide +kernel
theorem dX5_takingOf_6 : decode cX5_takingOf 6 = .ok (.iaload, 1) := by decide +kernel
theorem dX5_takingOf_7 : decode cX5_takingOf 7 = .ok (.iload_n 1, 1) := by decide +kernel
theorem dX5_takingOf_8 : decode cX5_takingOf 8 = .ok (.iload_n 2, 1) := by decide +kernel
theorem dX5_takingOf_9 : decode cX5_takingOf 9 = .ok (.invokevirtual 132, 3) := by decide +kernel
theorem dX5_takingOf_12 : decode cX5_takingOf 12 = .ok (.ireturn, 1) := by decide +kernel
set_option maxHeartbeats 4000000 in
set_option maxRecDepth 100000 in
theorem x_takingOf (l : Launch) (D : va_G) (k : Nat → ClassId) (st : Nat → Nat) (lo : Nat) (h0 : Nat) (h1 : Nat) (h2 : Nat) (h3 : Nat) (h4 : Nat) (n : Nat) (see : Nat) (tm : Nat) (g : Nat → Int32) (fp : Nat → Int32) (fl : Nat → Int32) (rn : Nat) (i : Nat) (hrn : rn ≤ 3) (hi : i < 24) : CRi l D k st lo yX5_takingOf cX5_takingOf 3 (some .int) ({ frames := 1, cells := 0, slots := 0, locals := 23 }) [.ref h0, .int (nI rn), .int (nI i)] [(h0, .inr (5, (fX5 h1 h2 h3 h4))), (aI k h1 10 (vv n see tm g)), (aI k h3 24 fp), (aI k h4 4 fl)] (fun _ => True) := by
  intro sz
  refine Met.ofW (cc := cX5_takingOf) (maxL := 3) (ret := (some .int)) (by decide) rfl ?_
  intro p e s m args below meth c s₁ B hml hv
  obtain ⟨rfl, hsz, hlo, hP, hK, hDL, hZ⟩ := hv
  have hx := B.exec
  have hb := B.bytes
  have hr := B.returns
  have hts := WS_ts B.pre
  have hown : s.vm.findClass RX5 = some m.cls := findClass_of_methodNamed B.named
  have hlocks := B.notSynchronized
  subst hsz
  have hA : ∀ q : Nat, s.heap.size ≤ q → (fun q : Nat => s.heap.size ≤ q) q := fun _ h => h
  have hAlo : ∀ q : Nat, (fun q : Nat => s.heap.size ≤ q) q → lo ≤ q := fun q h => Nat.le_trans hlo h
  have hS : va_S (fun q : Nat => s.heap.size ≤ q) s.heap s.heap [] := va_S.rf
  have hl := lv_entry ([.ref h0, .int (nI rn), .int (nI i)]) (n := 3) (Nat.le_of_ble_eq_true rfl)
  rw [lg_entry_eq]
  generalize (lg_sl ([.ref h0, .int (nI rn), .int (nI i)]) ++ List.replicate (3 - (lg_sl ([.ref h0, .int (nI rn), .int (nI i)])).length) Slot.unset).toArray = ls at hl ⊢
  have hl : lv_has ls 3 [(0, .ref h0), (1, .int (nI rn)), (2, .int (nI i))] := hl
  refine lv_aload_n hx hb dX5_takingOf_0 rfl (lv_at hl 0 rfl) ?_
  refine lv_aload_n hx hb dX5_takingOf_1 rfl (lv_at hl 0 rfl) ?_
  refine va_get (D := D) (ci := 5) (v := .ref h1) (C := RX5) (T := TX5) (N := 4) hx hb hts inX5 hown hK hP 0 rfl rfl 0 (by decide) (hts _ tw_146) (fun _ h9 => h9) rfl dX5_takingOf_2 ?_
  refine lv_iconst (v := 2) hx hb dX5_takingOf_5 (by decide) ?_
  refine va_iald hx hb hK hP 1 1 rfl rfl (by unfold vp_in; decide) dX5_takingOf_6 ?_
  refine lv_ti (y := (g 2)) (by rfl) ?_
  refine lv_iload_n hx hb dX5_takingOf_7 rfl (lv_at hl 1 rfl) ?_
  refine lv_iload_n hx hb dX5_takingOf_8 rfl (lv_at hl 2 rfl) ?_
  refine ro_i (D := D) (va_runV (As := [.int (g 2), .int (nI rn), .int (nI i)]) (rest := []) ⟨hx, hb, hml, hown, hts⟩ ((x_takingBy l D k st lo h0 h1 h2 h3 h4 n see tm g fp fl (g 2) rn i (by omega) (by omega)) s.heap.size) (cwV 3 hts (gV tw_560 tw_561 tw_562 tw_81 tw_563) rfl rfl rfl (by decide +kernel) ⟨Nat.le_of_ble_eq_true rfl, Nat.le_of_ble_eq_true rfl⟩) (pV hS hAlo hlo hP hK hDL hZ [0, 1, 2, 3] (by decide) rfl (ci := 5) (q := (RX5, TX5, 4)) (q0 := 0) rfl rfl) rfl rfl hl.1 rfl (lv_room (Nat.le_of_ble_eq_true rfl)) dX5_takingOf_9 ⟨Nat.le_of_ble_eq_true rfl, Nat.le_of_ble_eq_true rfl⟩) hS hA hP (fun r_1 H locs hw_1 hP hS => ?_)
  try dsimp only at hw_1
  exact W.iret (v := r_1) hx hb hr (fun t ht hW => ⟨⟨r_1, (), rfl, trivial, trivial⟩, hS.F ht⟩) hS.2.2 dX5_takingOf_12

theorem dX5_garageOf_0 : decode cX5_garageOf 0 = .ok (.aload_n 0, 1) := by decide +kernel
theorem dX5_garageOf_1 : decode cX5_garageOf 1 = .ok (.getfield 9, 3) := by decide +kernel
theorem dX5_garageOf_4 : decode cX5_garageOf 4 = .ok (.bipush 9, 2) := by decide +kernel
theorem dX5_garageOf_6 : decode cX5_garageOf 6 = .ok (.iaload, 1) := by decide +kernel
theorem dX5_garageOf_7 : decode cX5_garageOf 7 = .ok (.aload_n 0, 1) := by decide +kernel
theorem dX5_garageOf_8 : decode cX5_garageOf 8 = .ok (.getfield 21, 3) := by decide +kernel
theorem dX5_garageOf_11 : decode cX5_garageOf 11 = .ok (.iload_n 1, 1) := by decide +kernel
theorem dX5_garageOf_12 : decode cX5_garageOf 12 = .ok (.iaload, 1) := by decide +kernel
theorem dX5_garageOf_13 : decode cX5_garageOf 13 = .ok (.iadd, 1) := by decide +kernel
theorem dX5_garageOf_14 : decode cX5_garageOf 14 = .ok (.sipush 1000, 3) := by decide +kernel
theorem dX5_garageOf_17 : decode cX5_garageOf 17 = .ok (.imul, 1) := by decide +kernel
theorem dX5_garageOf_18 : decode cX5_garageOf 18 = .ok (.ireturn, 1) := by decide +kernel
set_option maxHeartbeats 4000000 in
set_option maxRecDepth 100000 in
theorem x_garageOf (l : Launch) (D : va_G) (k : Nat → ClassId) (st : Nat → Nat) (lo : Nat) (h0 : Nat) (h1 : Nat) (h2 : Nat) (h3 : Nat) (h4 : Nat) (n : Nat) (see : Nat) (tm : Nat) (g : Nat → Int32) (fl : Nat → Int32) (rn : Nat) (hrn : rn ≤ 3) : CRi l D k st lo yX5_garageOf cX5_garageOf 2 (some .int) ({ frames := 0, cells := 0, slots := 0, locals := 0 }) [.ref h0, .int (nI rn)] [(h0, .inr (5, (fX5 h1 h2 h3 h4))), (aI k h1 10 (vv n see tm g)), (aI k h4 4 fl)] (fun _ => True) := by
  intro sz
  refine Met.ofW (cc := cX5_garageOf) (maxL := 2) (ret := (some .int)) (by decide) rfl ?_
  intro p e s m args below meth c s₁ B hml hv
  obtain ⟨rfl, hsz, hlo, hP, hK, hDL, hZ⟩ := hv
  have hx := B.exec
  have hb := B.bytes
  have hr := B.returns
  have hts := WS_ts B.pre
  have hown : s.vm.findClass RX5 = some m.cls := findClass_of_methodNamed B.named
  have hlocks := B.notSynchronized
  subst hsz
  have hA : ∀ q : Nat, s.heap.size ≤ q → (fun q : Nat => s.heap.size ≤ q) q := fun _ h => h
  have hAlo : ∀ q : Nat, (fun q : Nat => s.heap.size ≤ q) q → lo ≤ q := fun q h => Nat.le_trans hlo h
  have hS : va_S (fun q : Nat => s.heap.size ≤ q) s.heap s.heap [] := va_S.rf
  have hl := lv_entry ([.ref h0, .int (nI rn)]) (n := 2) (Nat.le_of_ble_eq_true rfl)
  rw [lg_entry_eq]
  generalize (lg_sl ([.ref h0, .int (nI rn)]) ++ List.replicate (2 - (lg_sl ([.ref h0, .int (nI rn)])).length) Slot.unset).toArray = ls at hl ⊢
  have hl : lv_has ls 2 [(0, .ref h0), (1, .int (nI rn))] := hl
  refine lv_aload_n hx hb dX5_garageOf_0 rfl (lv_at hl 0 rfl) ?_
  refine va_get (D := D) (ci := 5) (v := .ref h1) (C := RX5) (T := TX5) (N := 4) hx hb hts inX5 hown hK hP 0 rfl rfl 0 (by decide) (hts _ tw_146) (fun _ h9 => h9) rfl dX5_garageOf_1 ?_
  refine lv_bipush (v := 9) hx hb dX5_garageOf_4 (by decide) ?_
  refine va_iald hx hb hK hP 1 1 rfl rfl (by unfold vp_in; decide) dX5_garageOf_6 ?_
  refine lv_ti (y := (g 9)) (by rfl) ?_
  refine lv_aload_n hx hb dX5_garageOf_7 rfl (lv_at hl 0 rfl) ?_
  refine va_get (D := D) (ci := 5) (v := .ref h4) (C := RX5) (T := TX5) (N := 4) hx hb hts inX5 hown hK hP 0 rfl rfl 3 (by decide) (hts _ tw_154) (fun _ h9 => h9) rfl dX5_garageOf_8 ?_
  refine lv_iload_n hx hb dX5_garageOf_11 rfl (lv_at hl 1 rfl) ?_
  refine va_iald hx hb hK hP 2 1 rfl rfl (vp_in_nI (by omega) (by decide)) dX5_garageOf_12 ?_
  refine lv_ti (y := (fl rn)) (by rw [nI_clamp (by omega)]) ?_
  refine lv_iadd hx hb dX5_garageOf_13 ?_
  refine lv_topi (fun x_1 ex_1 => ?_)
  refine lv_sipush (v := 1000) hx hb dX5_garageOf_14 (by decide) ?_
  refine lv_imul hx hb dX5_garageOf_17 ?_
  refine lv_topi (fun x_2 ex_2 => ?_)
  exact W.iret (v := x_2) hx hb hr (fun t ht hW => ⟨⟨x_2, (), rfl, trivial, trivial⟩, hS.F ht⟩) hS.2.2 dX5_garageOf_18

theorem dX5_passing_0 : decode cX5_passing 0 = .ok (.aload_n 0, 1) := by decide +kernel
theorem dX5_passing_1 : decode cX5_passing 1 = .ok (.getfield 9, 3) := by decide +kernel
theorem dX5_passing_4 : decode cX5_passing 4 = .ok (.iconst 3, 1) := by decide +kernel
theorem dX5_passing_5 : decode cX5_passing 5 = .ok (.iaload, 1) := by decide +kernel
theorem dX5_passing_6 : decode cX5_passing 6 = .ok (.sipush 1000, 3) := by decide +kernel
theorem dX5_passing_9 : decode cX5_passing 9 = .ok (.imul, 1) := by decide +kernel
theorem dX5_passing_10 : decode cX5_passing 10 = .ok (.ireturn, 1) := by decide +kernel
set_option maxHeartbeats 4000000 in
set_option maxRecDepth 100000 in
theorem x_passing (l : Launch) (D : va_G) (k : Nat → ClassId) (st : Nat → Nat) (lo : Nat) (h0 : Nat) (h1 : Nat) (h2 : Nat) (h3 : Nat) (h4 : Nat) (n : Nat) (see : Nat) (tm : Nat) (g : Nat → Int32)  : CRi l D k st lo yX5_passing cX5_passing 1 (some .int) ({ frames := 0, cells := 0, slots := 0, locals := 0 }) [.ref h0] [(h0, .inr (5, (fX5 h1 h2 h3 h4))), (aI k h1 10 (vv n see tm g))] (fun _ => True) := by
  intro sz
  refine Met.ofW (cc := cX5_passing) (maxL := 1) (ret := (some .int)) (by decide) rfl ?_
  intro p e s m args below meth c s₁ B hml hv
  obtain ⟨rfl, hsz, hlo, hP, hK, hDL, hZ⟩ := hv
  have hx := B.exec
  have hb := B.bytes
  have hr := B.returns
  have hts := WS_ts B.pre
  have hown : s.vm.findClass RX5 = some m.cls := findClass_of_methodNamed B.named
  have hlocks := B.notSynchronized
  subst hsz
  have hA : ∀ q : Nat, s.heap.size ≤ q → (fun q : Nat => s.heap.size ≤ q) q := fun _ h => h
  have hAlo : ∀ q : Nat, (fun q : Nat => s.heap.size ≤ q) q → lo ≤ q := fun q h => Nat.le_trans hlo h
  have hS : va_S (fun q : Nat => s.heap.size ≤ q) s.heap s.heap [] := va_S.rf
  have hl := lv_entry ([.ref h0]) (n := 1) (Nat.le_of_ble_eq_true rfl)
  rw [lg_entry_eq]
  generalize (lg_sl ([.ref h0]) ++ List.replicate (1 - (lg_sl ([.ref h0])).length) Slot.unset).toArray = ls at hl ⊢
  have hl : lv_has ls 1 [(0, .ref h0)] := hl
  refine lv_aload_n hx hb dX5_passing_0 rfl (lv_at hl 0 rfl) ?_
  refine va_get (D := D) (ci := 5) (v := .ref h1) (C := RX5) (T := TX5) (N := 4) hx hb hts inX5 hown hK hP 0 rfl rfl 0 (by decide) (hts _ tw_146) (fun _ h9 => h9) rfl dX5_passing_1 ?_
  refine lv_iconst (v := 3) hx hb dX5_passing_4 (by decide) ?_
  refine va_iald hx hb hK hP 1 1 rfl rfl (by unfold vp_in; decide) dX5_passing_5 ?_
  refine lv_ti (y := (g 3)) (by rfl) ?_
  refine lv_sipush (v := 1000) hx hb dX5_passing_6 (by decide) ?_
  refine lv_imul hx hb dX5_passing_9 ?_
  refine lv_topi (fun x_1 ex_1 => ?_)
  exact W.iret (v := x_1) hx hb hr (fun t ht hW => ⟨⟨x_1, (), rfl, trivial, trivial⟩, hS.F ht⟩) hS.2.2 dX5_passing_10

theorem dX5_roundDrive_0 : decode cX5_roundDrive 0 = .ok (.aload_n 0, 1) := by decide +kernel
theorem dX5_roundDrive_1 : decode cX5_roundDrive 1 = .ok (.getfield 9, 3) := by decide +kernel
theorem dX5_roundDrive_4 : decode cX5_roundDrive 4 = .ok (.iconst 3, 1) := by decide +kernel
theorem dX5_roundDrive_5 : decode cX5_roundDrive 5 = .ok (.iaload, 1) := by decide +kernel
theorem dX5_roundDrive_6 : decode cX5_roundDrive 6 = .ok (.aload_n 0, 1) := by decide +kernel
theorem dX5_roundDrive_7 : decode cX5_roundDrive 7 = .ok (.getfield 9, 3) := by decide +kernel
theorem dX5_roundDrive_10 : decode cX5_roundDrive 10 = .ok (.bipush 7, 2) := by decide +kernel
theorem dX5_roundDrive_12 : decode cX5_roundDrive 12 = .ok (.iaload, 1) := by decide +kernel
theorem dX5_roundDrive_13 : decode cX5_roundDrive 13 = .ok (.imul, 1) := by decide +kernel
theorem dX5_roundDrive_14 : decode cX5_roundDrive 14 = .ok (.sipush 1000, 3) := by decide +kernel
theorem dX5_roundDrive_17 : decode cX5_roundDrive 17 = .ok (.imul, 1) := by decide +kernel
theorem dX5_roundDrive_18 : decode cX5_roundDrive 18 = .ok (.ireturn, 1) := by decide +kernel
set_option maxHeartbeats 4000000 in
set_option maxRecDepth 100000 in
theorem x_roundDrive (l : Launch) (D : va_G) (k : Nat → ClassId) (st : Nat → Nat) (lo : Nat) (h0 : Nat) (h1 : Nat) (h2 : Nat) (h3 : Nat) (h4 : Nat) (n : Nat) (see : Nat) (tm : Nat) (g : Nat → Int32)  : CRi l D k st lo yX5_roundDrive cX5_roundDrive 1 (some .int) ({ frames := 0, cells := 0, slots := 0, locals := 0 }) [.ref h0] [(h0, .inr (5, (fX5 h1 h2 h3 h4))), (aI k h1 10 (vv n see tm g))] (fun _ => True) := by
  intro sz
  refine Met.ofW (cc := cX5_roundDrive) (maxL := 1) (ret := (some .int)) (by decide) rfl ?_
  intro p e s m args below meth c s₁ B hml hv
  obtain ⟨rfl, hsz, hlo, hP, hK, hDL, hZ⟩ := hv
  have hx := B.exec
  have hb := B.bytes
  have hr := B.returns
  have hts := WS_ts B.pre
  have hown : s.vm.findClass RX5 = some m.cls := findClass_of_methodNamed B.named
  have hlocks := B.notSynchronized
  subst hsz
  have hA : ∀ q : Nat, s.heap.size ≤ q → (fun q : Nat => s.heap.size ≤ q) q := fun _ h => h
  have hAlo : ∀ q : Nat, (fun q : Nat => s.heap.size ≤ q) q → lo ≤ q := fun q h => Nat.le_trans hlo h
  have hS : va_S (fun q : Nat => s.heap.size ≤ q) s.heap s.heap [] := va_S.rf
  have hl := lv_entry ([.ref h0]) (n := 1) (Nat.le_of_ble_eq_true rfl)
  rw [lg_entry_eq]
  generalize (lg_sl ([.ref h0]) ++ List.replicate (1 - (lg_sl ([.ref h0])).length) Slot.unset).toArray = ls at hl ⊢
  have hl : lv_has ls 1 [(0, .ref h0)] := hl
  refine lv_aload_n hx hb dX5_roundDrive_0 rfl (lv_at hl 0 rfl) ?_
  refine va_get (D := D) (ci := 5) (v := .ref h1) (C := RX5) (T := TX5) (N := 4) hx hb hts inX5 hown hK hP 0 rfl rfl 0 (by decide) (hts _ tw_146) (fun _ h9 => h9) rfl dX5_roundDrive_1 ?_
  refine lv_iconst (v := 3) hx hb dX5_roundDrive_4 (by decide) ?_
  refine va_iald hx hb hK hP 1 1 rfl rfl (by unfold vp_in; decide) dX5_roundDrive_5 ?_
  refine lv_ti (y := (g 3)) (by rfl) ?_
  refine lv_aload_n hx hb dX5_roundDrive_6 rfl (lv_at hl 0 rfl) ?_
  refine va_get (D := D) (ci := 5) (v := .ref h1) (C := RX5) (T := TX5) (N := 4) hx hb hts inX5 hown hK hP 0 rfl rfl 0 (by decide) (hts _ tw_146) (fun _ h9 => h9) rfl dX5_roundDrive_7 ?_
  refine lv_bipush (v := 7) hx hb dX5_roundDrive_10 (by decide) ?_
  refine va_iald hx hb hK hP 1 1 rfl rfl (by unfold vp_in; decide) dX5_roundDrive_12 ?_
  refine lv_ti (y := (g 7)) (by rfl) ?_
  refine lv_imul hx hb dX5_roundDrive_13 ?_
  refine lv_topi (fun x_1 ex_1 => ?_)
  refine lv_sipush (v := 1000) hx hb dX5_roundDrive_14 (by decide) ?_
  refine lv_imul hx hb dX5_roundDrive_17 ?_
  refine lv_topi (fun x_2 ex_2 => ?_)
  exact W.iret (v := x_2) hx hb hr (fun t ht hW => ⟨⟨x_2, (), rfl, trivial, trivial⟩, hS.F ht⟩) hS.2.2 dX5_roundDrive_18

theorem dX5_sightsAt_0 : decode cX5_sightsAt 0 = .ok (.iconst 1, 1) := by decide +kernel
theorem dX5_sightsAt_1 : decode cX5_sightsAt 1 = .ok (.aload_n 0, 1) := by decide +kernel
theorem dX5_sightsAt_2 : decode cX5_sightsAt 2 = .ok (.getfield 9, 3) := by decide +kernel
theorem dX5_sightsAt_5 : decode cX5_sightsAt 5 = .ok (.bipush 6, 2) := by decide +kernel
theorem dX5_sightsAt_7 : decode cX5_sightsAt 7 = .ok (.iaload, 1) := by decide +kernel
theorem dX5_sightsAt_8 : decode cX5_sightsAt 8 = .ok (.iconst 1, 1) := by decide +kernel
theorem dX5_sightsAt_9 : decode cX5_sightsAt 9 = .ok (.iadd, 1) := by decide +kernel
theorem dX5_sightsAt_10 : decode cX5_sightsAt 10 = .ok (.aload_n 0, 1) := by decide +kernel
theorem dX5_sightsAt_11 : decode cX5_sightsAt 11 = .ok (.getfield 9, 3) := by decide +kernel
theorem dX5_sightsAt_14 : decode cX5_sightsAt 14 = .ok (.iconst 0, 1) := by decide +kernel
theorem dX5_sightsAt_15 : decode cX5_sightsAt 15 = .ok (.iaload, 1) := by decide +kernel
theorem dX5_sightsAt_16 : decode cX5_sightsAt 16 = .ok (.iload_n 1, 1) := by decide +kernel
theorem dX5_sightsAt_17 : decode cX5_sightsAt 17 = .ok (.isub, 1) := by decide +kernel
theorem dX5_sightsAt_18 : decode cX5_sightsAt 18 = .ok (.invokestatic 129, 3) := by decide +kernel
theorem dX5_sightsAt_21 : decode cX5_sightsAt 21 = .ok (.ishl, 1) := by decide +kernel
theorem dX5_sightsAt_22 : decode cX5_sightsAt 22 = .ok (.ireturn, 1) := by decide +kernel
set_option maxHeartbeats 4000000 in
set_option maxRecDepth 100000 in
theorem x_sightsAt (l : Launch) (D : va_G) (k : Nat → ClassId) (st : Nat → Nat) (lo : Nat) (h0 : Nat) (h1 : Nat) (h2 : Nat) (h3 : Nat) (h4 : Nat) (n : Nat) (see : Nat) (tm : Nat) (g : Nat → Int32) (i : Nat) (hn : n ≤ 24) (hsee : see ≤ 2) (hi : i ≤ n) : CRi l D k st lo yX5_sightsAt cX5_sightsAt 2 (some .int) ({ frames := 1, cells := 0, slots := 0, locals := 60 }) [.ref h0, .int (nI i)] [(h0, .inr (5, (fX5 h1 h2 h3 h4))), (aI k h1 10 (vv n see tm g))] (fun r => ∃ z : Nat, r = nI z ∧ 1 ≤ z ∧ z ≤ 8 ∧ ∃ q : Nat, q ≤ 3 ∧ z = 2 ^ q) := by
  intro sz
  refine Met.ofW (cc := cX5_sightsAt) (maxL := 2) (ret := (some .int)) (by decide) rfl ?_
  intro p e s m args below meth c s₁ B hml hv
  obtain ⟨rfl, hsz, hlo, hP, hK, hDL, hZ⟩ := hv
  have hx := B.exec
  have hb := B.bytes
  have hr := B.returns
  have hts := WS_ts B.pre
  have hown : s.vm.findClass RX5 = some m.cls := findClass_of_methodNamed B.named
  have hlocks := B.notSynchronized
  subst hsz
  have hA : ∀ q : Nat, s.heap.size ≤ q → (fun q : Nat => s.heap.size ≤ q) q := fun _ h => h
  have hAlo : ∀ q : Nat, (fun q : Nat => s.heap.size ≤ q) q → lo ≤ q := fun q h => Nat.le_trans hlo h
  have hS : va_S (fun q : Nat => s.heap.size ≤ q) s.heap s.heap [] := va_S.rf
  have hl := lv_entry ([.ref h0, .int (nI i)]) (n := 2) (Nat.le_of_ble_eq_true rfl)
  rw [lg_entry_eq]
  generalize (lg_sl ([.ref h0, .int (nI i)]) ++ List.replicate (2 - (lg_sl ([.ref h0, .int (nI i)])).length) Slot.unset).toArray = ls at hl ⊢
  have hl : lv_has ls 2 [(0, .ref h0), (1, .int (nI i))] := hl
  refine lv_iconst (v := 1) hx hb dX5_sightsAt_0 (by decide) ?_
  refine lv_aload_n hx hb dX5_sightsAt_1 rfl (lv_at hl 0 rfl) ?_
  refine va_get (D := D) (ci := 5) (v := .ref h1) (C := RX5) (T := TX5) (N := 4) hx hb hts inX5 hown hK hP 0 rfl rfl 0 (by decide) (hts _ tw_146) (fun _ h9 => h9) rfl dX5_sightsAt_2 ?_
  refine lv_bipush (v := 6) hx hb dX5_sightsAt_5 (by decide) ?_
  refine va_iald hx hb hK hP 1 1 rfl rfl (by unfold vp_in; decide) dX5_sightsAt_7 ?_
  refine lv_ti (y := (nI see)) (by rfl) ?_
  refine lv_iconst (v := 1) hx hb dX5_sightsAt_8 (by decide) ?_
  refine lv_iadd hx hb dX5_sightsAt_9 ?_
  refine lv_ti (y := (nI (see + 1))) (nI_add see 1) ?_
  refine lv_aload_n hx hb dX5_sightsAt_10 rfl (lv_at hl 0 rfl) ?_
  refine va_get (D := D) (ci := 5) (v := .ref h1) (C := RX5) (T := TX5) (N := 4) hx hb hts inX5 hown hK hP 0 rfl rfl 0 (by decide) (hts _ tw_146) (fun _ h9 => h9) rfl dX5_sightsAt_11 ?_
  refine lv_iconst (v := 0) hx hb dX5_sightsAt_14 (by decide) ?_
  refine va_iald hx hb hK hP 1 1 rfl rfl (by unfold vp_in; decide) dX5_sightsAt_15 ?_
  refine lv_ti (y := (nI n)) (by rfl) ?_
  refine lv_iload_n hx hb dX5_sightsAt_16 rfl (lv_at hl 1 rfl) ?_
  refine lv_isub hx hb dX5_sightsAt_17 ?_
  refine lv_ti (y := (nI (n - i))) (pk_sub (a := n) (b := i) (by omega)) ?_
  refine va_mmin hx hb (by rw [hml]; exact hl.1.symm) hown (hts _ tw_540) (hts _ tw_529) (hts _ tw_93) (hts _ tw_530) (Nat.le_of_ble_eq_true rfl) (Nat.le_of_ble_eq_true rfl) (Nat.le_of_ble_eq_true rfl) (Nat.le_of_ble_eq_true rfl) dX5_sightsAt_18 ?_
  refine lv_ti (y := (nI (min (see + 1) (n - i)))) (mminN (by omega) (by omega)) ?_
  obtain ⟨pw_2, epw_2⟩ : ∃ z : Nat, z = 2 ^ (min (see + 1) (n - i)) := ⟨_, rfl⟩
  have hpw_2 : 1 ≤ pw_2 ∧ pw_2 ≤ 8 := by rw [epw_2]; exact pw8 (by omega)
  refine lv_ishl hx hb dX5_sightsAt_21 ?_
  refine lv_ti (y := (nI pw_2)) (by rw [epw_2]; exact shl1 (min (see + 1) (n - i)) (by omega)) ?_
  exact W.iret (v := (nI pw_2)) hx hb hr (fun t ht hW => ⟨⟨(nI pw_2), (), rfl, ⟨_, rfl, by omega, by omega, min (see + 1) (n - i), by omega, epw_2⟩, trivial⟩, hS.F ht⟩) hS.2.2 dX5_sightsAt_22


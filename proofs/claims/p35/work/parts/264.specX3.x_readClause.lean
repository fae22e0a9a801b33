theorem dX5_readClause_0 : decode cX5_readClause 0 = .ok (.aload_n 0, 1) := by decide +kernel
theorem dX5_readClause_1 : decode cX5_readClause 1 = .ok (.getfield 9, 3) := by decide +kernel
theorem dX5_readClause_4 : decode cX5_readClause 4 = .ok (.iload_n 2, 1) := by decide +kernel
theorem dX5_readClause_5 : decode cX5_readClause 5 = .ok (.aload_n 1, 1) := by decide +kernel
theorem dX5_readClause_6 : decode cX5_readClause 6 = .ok (.getstatic 106, 3) := by decide +kernel
theorem dX5_readClause_9 : decode cX5_readClause 9 = .ok (.iload_n 2, 1) := by decide +kernel
theorem dX5_readClause_10 : decode cX5_readClause 10 = .ok (.iaload, 1) := by decide +kernel
theorem dX5_readClause_11 : decode cX5_readClause 11 = .ok (.getstatic 109, 3) := by decide +kernel
theorem dX5_readClause_14 : decode cX5_readClause 14 = .ok (.iload_n 2, 1) := by decide +kernel
theorem dX5_readClause_15 : decode cX5_readClause 15 = .ok (.iaload, 1) := by decide +kernel
theorem dX5_readClause_16 : decode cX5_readClause 16 = .ok (.invokevirtual 112, 3) := by decide +kernel
theorem dX5_readClause_19 : decode cX5_readClause 19 = .ok (.iastore, 1) := by decide +kernel
theorem dX5_readClause_20 : decode cX5_readClause 20 = .ok (.iload_n 2, 1) := by decide +kernel
theorem dX5_readClause_21 : decode cX5_readClause 21 = .ok (.bipush 7, 2) := by decide +kernel
theorem dX5_readClause_23 : decode cX5_readClause 23 = .ok (.if_icmp .ne 35, 3) := by decide +kernel
theorem dX5_readClause_26 : decode cX5_readClause 26 = .ok (.aload_n 1, 1) := by decide +kernel
theorem dX5_readClause_27 : decode cX5_readClause 27 = .ok (.bipush 8, 2) := by decide +kernel
theorem dX5_readClause_29 : decode cX5_readClause 29 = .ok (.invokestatic 79, 3) := by decide +kernel
theorem dX5_readClause_32 : decode cX5_readClause 32 = .ok (.invokevirtual 120, 3) := by decide +kernel
theorem dX5_readClause_35 : decode cX5_readClause 35 = .ok (.aload_n 0, 1) := by decide +kernel
theorem dX5_readClause_36 : decode cX5_readClause 36 = .ok (.getfield 9, 3) := by decide +kernel
theorem dX5_readClause_39 : decode cX5_readClause 39 = .ok (.bipush 8, 2) := by decide +kernel
theorem dX5_readClause_41 : decode cX5_readClause 41 = .ok (.aload_n 1, 1) := by decide +kernel
theorem dX5_readClause_42 : decode cX5_readClause 42 = .ok (.getstatic 106, 3) := by decide +kernel
theorem dX5_readClause_45 : decode cX5_readClause 45 = .ok (.bipush 8, 2) := by decide +kernel
theorem dX5_readClause_47 : decode cX5_readClause 47 = .ok (.iaload, 1) := by decide +kernel
theorem dX5_readClause_48 : decode cX5_readClause 48 = .ok (.getstatic 109, 3) := by decide +kernel
theorem dX5_readClause_51 : decode cX5_readClause 51 = .ok (.bipush 8, 2) := by decide +kernel
theorem dX5_readClause_53 : decode cX5_readClause 53 = .ok (.iaload, 1) := by decide +kernel
theorem dX5_readClause_54 : decode cX5_readClause 54 = .ok (.invokevirtual 112, 3) := by decide +kernel
theorem dX5_readClause_57 : decode cX5_readClause 57 = .ok (.iastore, 1) := by decide +kernel
theorem dX5_readClause_58 : decode cX5_readClause 58 = .ok (.aload_n 1, 1) := by decide +kernel
theorem dX5_readClause_59 : decode cX5_readClause 59 = .ok (.invokevirtual 126, 3) := by decide +kernel
theorem dX5_readClause_62 : decode cX5_readClause 62 = .ok (.return_, 1) := by decide +kernel
set_option maxHeartbeats 4000000 in
set_option maxRecDepth 100000 in
theorem x_readClause (l : Launch) (D : va_G) (k : Nat → ClassId) (st : Nat → Nat) (lo : Nat) (h0 : Nat) (h1 : Nat) (h2 : Nat) (h3 : Nat) (h4 : Nat) (n : Nat) (see : Nat) (tm : Nat) (g : Nat → Int32) (x0 : Nat) (x1 : Nat) (tz : Nat) (ta : Nat) (na : Int32) (fn : Int32) (fb : Int32) (fx : Nat → Int32) (cl : Nat) (ht : ta ≤ tz) (hz : tz ≤ 240) (hsee : see ≤ 2) (htm9 : tm ≤ 3) (hcl : 1 ≤ cl ∧ cl ≤ 9 ∧ cl ≠ 8) : CWv l D k st lo yX5_readClause cX5_readClause 3 none ({ frames := 6, cells := 0, slots := 0, locals := 129 }) 0 0 [.ref h0, .ref x0, .int (nI cl)] [(h0, .inr (5, [.ref h1, .ref h2, .ref h3, .ref h4])), (h1, .inl (k 1, 10, .inl (vv n see tm g))), (x0, .inr (6, [.ref x1, .int (nI tz), .int (nI ta), .int na, .int fn, .int fb])), (x1, .inl (k 0, 240, .inl fx))] (fun (u : Nat × Nat × (Nat → Int32) × Nat × Int32 × Int32 × Int32) => match u with | (see_, tm_, g_, ta_, na_, fn_, fb_) => see_ ≤ 2 ∧ tm_ ≤ 3 ∧ ta ≤ ta_ ∧ ta_ ≤ tz) (fun (u : Nat × Nat × (Nat → Int32) × Nat × Int32 × Int32 × Int32) => match u with | (see_, tm_, g_, ta_, na_, fn_, fb_) => [(h0, .inr (5, [.ref h1, .ref h2, .ref h3, .ref h4])), (h1, .inl (k 1, 10, .inl (vv n see_ tm_ g_))), (x0, .inr (6, [.ref x1, .int (nI tz), .int (nI ta_), .int na_, .int fn_, .int fb_])), (x1, .inl (k 0, 240, .inl fx))]) := by
  intro sz
  refine Met.ofW (cc := cX5_readClause) (maxL := 3) (ret := none) (by decide) rfl ?_
  intro p e s m args below meth c s₁ B hml hv
  obtain ⟨rfl, hsz, hlo, hP, hK, hDL, hZ⟩ := hv
  have hx := B.exec
  have hb := B.bytes
  have hr := B.returns
  have hts := WS_ts B.pre
  have hown : s.vm.findClass RX5 = some m.cls := findClass_of_methodNamed B.named
  have hlocks := B.notSynchronized
  subst hsz
  have hD := hDL.self (sz := s.heap.size)
  have hAlo := A_lo hDL hlo
  generalize hAe : va_A [(h0, .inr (5, [.ref h1, .ref h2, .ref h3, .ref h4])), (h1, .inl (k 1, 10, .inl (vv n see tm g))), (x0, .inr (6, [.ref x1, .int (nI tz), .int (nI ta), .int na, .int fn, .int fb])), (x1, .inl (k 0, 240, .inl fx))] s.heap.size = A at hD hAlo ⊢
  have hA : ∀ q : Nat, s.heap.size ≤ q → A q := fun q h => by rw [← hAe]; exact Or.inr h
  have hS : va_S A s.heap s.heap [] := va_S.rf
  have hl := lv_entry ([.ref h0, .ref x0, .int (nI cl)]) (n := 3) (Nat.le_of_ble_eq_true rfl)
  rw [lg_entry_eq]
  generalize (lg_sl ([.ref h0, .ref x0, .int (nI cl)]) ++ List.replicate (3 - (lg_sl ([.ref h0, .ref x0, .int (nI cl)])).length) Slot.unset).toArray = ls at hl ⊢
  have hl : lv_has ls 3 [(0, .ref h0), (1, .ref x0), (2, .int (nI cl))] := hl
  rcases clsplit hcl with rfl | rfl | rfl | rfl | rfl | rfl | rfl | rfl
  · refine lv_aload_n hx hb dX5_readClause_0 rfl (lv_at hl 0 rfl) ?_
    refine va_get (D := D) (ci := 5) (v := .ref h1) (C := RX5) (T := TX5) (N := 4) hx hb hts inX5 hown hK hP 0 rfl rfl 0 (by decide) (hts _ tw_146) (fun _ h9 => h9) rfl dX5_readClause_1 ?_
    refine lv_iload_n hx hb dX5_readClause_4 rfl (lv_at hl 2 rfl) ?_
    refine lv_aload_n hx hb dX5_readClause_5 rfl (lv_at hl 1 rfl) ?_
    refine va_getsN (A := A) hx hb (hZ.2.2.2.2.1.narrow hAlo) hS hown ((hZ.2.2.2.2.2.2.2.2.1.2.1 (RX5, 106, "LastPlace", "LEAST", "[I", RX7) (List.mem_of_getElem? (i := 1) rfl)).use rfl) (fun _ h9 => h9) dX5_readClause_6 ?_
    refine lv_iload_n hx hb dX5_readClause_9 rfl (lv_at hl 2 rfl) ?_
    refine va_ti (A := A) hx hb (hZ.2.2.2.2.2.1.narrow hAlo) hS (i := 1) (by unfold vp_in; decide) (v := .int (-50)) rfl dX5_readClause_10 ?_
    refine va_getsN (A := A) hx hb (hZ.2.2.1.narrow hAlo) hS hown ((hZ.2.2.2.2.2.2.2.2.1.2.1 (RX5, 109, "LastPlace", "MOST", "[I", RX7) (List.mem_of_getElem? (i := 2) rfl)).use rfl) (fun _ h9 => h9) dX5_readClause_11 ?_
    refine lv_iload_n hx hb dX5_readClause_14 rfl (lv_at hl 2 rfl) ?_
    refine va_ti (A := A) hx hb (hZ.2.2.2.1.narrow hAlo) hS (i := 1) (by unfold vp_in; decide) (v := .int 50) rfl dX5_readClause_15 ?_
    refine rw_i (D := D) (wr := [(h0, .inr (5, [.ref h1, .ref h2, .ref h3, .ref h4])), (h1, .inl (k 1, 10, .inl (vv n see tm g)))]) (va_runV (As := [.int (-50), .int 50]) (rest := [.int 1, .ref h1]) ⟨hx, hb, hml, hown, hts⟩ ((x_needNumber l D k st lo x0 x1 tz ta na fn fb fx (-50) 50 (by omega) (by omega) (by decide)) s.heap.size) (cwV 2 hts (gV tw_467 tw_468 tw_469 tw_80 tw_470) rfl rfl rfl (by decide +kernel) ⟨Nat.le_of_ble_eq_true rfl, Nat.le_of_ble_eq_true rfl⟩) (pV hS hAlo hlo hP hK (va_Dlo hD hAlo) hZ [2, 3] (by decide) rfl (ci := 6) (q0 := 0) rfl rfl) rfl rfl hl.1 rfl (lv_room (Nat.le_of_ble_eq_true rfl)) dX5_readClause_16 ⟨Nat.le_of_ble_eq_true rfl, Nat.le_of_ble_eq_true rfl⟩) hS hA hP hD [2, 3] [0, 1] rfl rfl (by decide) (by decide) (fun r_1 u H locs hw_1 hP hD hS => ?_)
    obtain ⟨ta__1, na__1, fn__1, fb__1⟩ := u
    replace hP : va_P D classes [(h0, .inr (5, [.ref h1, .ref h2, .ref h3, .ref h4])), (h1, .inl (k 1, 10, .inl (vv n see tm g))), (x0, .inr (6, [.ref x1, .int (nI tz), .int (nI ta__1), .int na__1, .int fn__1, .int fb__1])), (x1, .inl (k 0, 240, .inl fx))] H := hP
    replace hD : va_D A [(h0, .inr (5, [.ref h1, .ref h2, .ref h3, .ref h4])), (h1, .inl (k 1, 10, .inl (vv n see tm g))), (x0, .inr (6, [.ref x1, .int (nI tz), .int (nI ta__1), .int na__1, .int fn__1, .int fb__1])), (x1, .inl (k 0, 240, .inl fx))] := hD
    try dsimp only at hw_1
    refine va_iast hx hb hK hP hD hS 1 1 rfl rfl (by unfold vp_in; decide) dX5_readClause_19 (fun H locs hP hD hS => ?_)
    replace hP : va_P D classes [(h0, .inr (5, [.ref h1, .ref h2, .ref h3, .ref h4])), (h1, .inl (k 1, 10, .inl (upd (vv n see tm g) (Int32.toNatClampNeg 1) r_1))), (x0, .inr (6, [.ref x1, .int (nI tz), .int (nI ta__1), .int na__1, .int fn__1, .int fb__1])), (x1, .inl (k 0, 240, .inl fx))] H := hP
    replace hD : va_D A [(h0, .inr (5, [.ref h1, .ref h2, .ref h3, .ref h4])), (h1, .inl (k 1, 10, .inl (upd (vv n see tm g) (Int32.toNatClampNeg 1) r_1))), (x0, .inr (6, [.ref x1, .int (nI tz), .int (nI ta__1), .int na__1, .int fn__1, .int fb__1])), (x1, .inl (k 0, 240, .inl fx))] := hD
    rw [show upd (vv n see tm g) (Int32.toNatClampNeg 1) r_1 = vv n see tm (upd g 1 r_1) from vv_upd _ _ _ _ _ _ (by decide) (by decide) (by decide)] at hP hD
    generalize upd g 1 r_1 = gg_3 at hP hD
    replace hP : va_P D classes [(h0, .inr (5, [.ref h1, .ref h2, .ref h3, .ref h4])), (h1, .inl (k 1, 10, .inl (vv n see tm gg_3))), (x0, .inr (6, [.ref x1, .int (nI tz), .int (nI ta__1), .int na__1, .int fn__1, .int fb__1])), (x1, .inl (k 0, 240, .inl fx))] H := hP
    replace hD : va_D A [(h0, .inr (5, [.ref h1, .ref h2, .ref h3, .ref h4])), (h1, .inl (k 1, 10, .inl (vv n see tm gg_3))), (x0, .inr (6, [.ref x1, .int (nI tz), .int (nI ta__1), .int na__1, .int fn__1, .int fb__1])), (x1, .inl (k 0, 240, .inl fx))] := hD
    refine lv_iload_n hx hb dX5_readClause_20 rfl (lv_at hl 2 rfl) ?_
    refine lv_bipush (v := 7) hx hb dX5_readClause_21 (by decide) ?_
    refine lv_icmp_ne (tgt := 58) hx hb dX5_readClause_23 (by decide) (fun _ => ?_) (fun h => absurd h (by decide))
    refine lv_aload_n hx hb dX5_readClause_58 rfl (lv_at hl 1 rfl) ?_
    refine rw_v (D := D) (wr := [(h0, .inr (5, [.ref h1, .ref h2, .ref h3, .ref h4])), (h1, .inl (k 1, 10, .inl (vv n see tm gg_3)))]) (va_runV (As := []) (rest := []) ⟨hx, hb, hml, hown, hts⟩ ((x_needSemicolon l D k st lo x0 x1 tz ta__1 na__1 fn__1 fb__1 fx (by omega) (by omega)) H.size) (cwV 0 hts (gV tw_488 tw_489 tw_490 tw_80 tw_491) rfl rfl rfl (by decide +kernel) ⟨Nat.le_of_ble_eq_true rfl, Nat.le_of_ble_eq_true rfl⟩) (pV hS hAlo hlo hP hK (va_Dlo hD hAlo) hZ [2, 3] (by decide) rfl (ci := 6) (q0 := 0) rfl rfl) rfl rfl hl.1 rfl (lv_room (Nat.le_of_ble_eq_true rfl)) dX5_readClause_59 ⟨Nat.le_of_ble_eq_true rfl, Nat.le_of_ble_eq_true rfl⟩) hS hA hP hD [2, 3] [0, 1] rfl rfl (by decide) (by decide) (fun u H locs hw_4 hP hD hS => ?_)
    obtain ⟨ta__4, fn__4, fb__4⟩ := u
    replace hP : va_P D classes [(h0, .inr (5, [.ref h1, .ref h2, .ref h3, .ref h4])), (h1, .inl (k 1, 10, .inl (vv n see tm gg_3))), (x0, .inr (6, [.ref x1, .int (nI tz), .int (nI ta__4), .int na__1, .int fn__4, .int fb__4])), (x1, .inl (k 0, 240, .inl fx))] H := hP
    replace hD : va_D A [(h0, .inr (5, [.ref h1, .ref h2, .ref h3, .ref h4])), (h1, .inl (k 1, 10, .inl (vv n see tm gg_3))), (x0, .inr (6, [.ref x1, .int (nI tz), .int (nI ta__4), .int na__1, .int fn__4, .int fb__4])), (x1, .inl (k 0, 240, .inl fx))] := hD
    try dsimp only at hw_4
    have hP9 := hP.sub (ws' := [(h0, .inr (5, [.ref h1, .ref h2, .ref h3, .ref h4])), (h1, .inl (k 1, 10, .inl (vv n see tm gg_3))), (x0, .inr (6, [.ref x1, .int (nI tz), .int (nI ta__4), .int na__1, .int fn__4, .int fb__4])), (x1, .inl (k 0, 240, .inl fx))]) [0, 1, 2, 3] rfl
    have hD9 := hD.sub (ws' := [(h0, .inr (5, [.ref h1, .ref h2, .ref h3, .ref h4])), (h1, .inl (k 1, 10, .inl (vv n see tm gg_3))), (x0, .inr (6, [.ref x1, .int (nI tz), .int (nI ta__4), .int na__1, .int fn__4, .int fb__4])), (x1, .inl (k 0, 240, .inl fx))]) [0, 1, 2, 3] (by decide) rfl
    exact W.vret hx hb hr (fun t ht hW => ⟨⟨(see, tm, gg_3, ta__4, na__1, fn__4, fb__4), rfl, ⟨by omega, by omega, by omega, by omega⟩, by rw [ht]; exact hP9, hD9⟩, hS.F ht⟩) hS.2.2 dX5_readClause_62
  · refine lv_aload_n hx hb dX5_readClause_0 rfl (lv_at hl 0 rfl) ?_
    refine va_get (D := D) (ci := 5) (v := .ref h1) (C := RX5) (T := TX5) (N := 4) hx hb hts inX5 hown hK hP 0 rfl rfl 0 (by decide) (hts _ tw_146) (fun _ h9 => h9) rfl dX5_readClause_1 ?_
    refine lv_iload_n hx hb dX5_readClause_4 rfl (lv_at hl 2 rfl) ?_
    refine lv_aload_n hx hb dX5_readClause_5 rfl (lv_at hl 1 rfl) ?_
    refine va_getsN (A := A) hx hb (hZ.2.2.2.2.1.narrow hAlo) hS hown ((hZ.2.2.2.2.2.2.2.2.1.2.1 (RX5, 106, "LastPlace", "LEAST", "[I", RX7) (List.mem_of_getElem? (i := 1) rfl)).use rfl) (fun _ h9 => h9) dX5_readClause_6 ?_
    refine lv_iload_n hx hb dX5_readClause_9 rfl (lv_at hl 2 rfl) ?_
    refine va_ti (A := A) hx hb (hZ.2.2.2.2.2.1.narrow hAlo) hS (i := 2) (by unfold vp_in; decide) (v := .int 0) rfl dX5_readClause_10 ?_
    refine va_getsN (A := A) hx hb (hZ.2.2.1.narrow hAlo) hS hown ((hZ.2.2.2.2.2.2.2.2.1.2.1 (RX5, 109, "LastPlace", "MOST", "[I", RX7) (List.mem_of_getElem? (i := 2) rfl)).use rfl) (fun _ h9 => h9) dX5_readClause_11 ?_
    refine lv_iload_n hx hb dX5_readClause_14 rfl (lv_at hl 2 rfl) ?_
    refine va_ti (A := A) hx hb (hZ.2.2.2.1.narrow hAlo) hS (i := 2) (by unfold vp_in; decide) (v := .int 99) rfl dX5_readClause_15 ?_
    refine rw_i (D := D) (wr := [(h0, .inr (5, [.ref h1, .ref h2, .ref h3, .ref h4])), (h1, .inl (k 1, 10, .inl (vv n see tm g)))]) (va_runV (As := [.int 0, .int 99]) (rest := [.int 2, .ref h1]) ⟨hx, hb, hml, hown, hts⟩ ((x_needNumber l D k st lo x0 x1 tz ta na fn fb fx 0 99 (by omega) (by omega) (by decide)) s.heap.size) (cwV 2 hts (gV tw_467 tw_468 tw_469 tw_80 tw_470) rfl rfl rfl (by decide +kernel) ⟨Nat.le_of_ble_eq_true rfl, Nat.le_of_ble_eq_true rfl⟩) (pV hS hAlo hlo hP hK (va_Dlo hD hAlo) hZ [2, 3] (by decide) rfl (ci := 6) (q0 := 0) rfl rfl) rfl rfl hl.1 rfl (lv_room (Nat.le_of_ble_eq_true rfl)) dX5_readClause_16 ⟨Nat.le_of_ble_eq_true rfl, Nat.le_of_ble_eq_true rfl⟩) hS hA hP hD [2, 3] [0, 1] rfl rfl (by decide) (by decide) (fun r_5 u H locs hw_5 hP hD hS => ?_)
    obtain ⟨ta__5, na__5, fn__5, fb__5⟩ := u
    replace hP : va_P D classes [(h0, .inr (5, [.ref h1, .ref h2, .ref h3, .ref h4])), (h1, .inl (k 1, 10, .inl (vv n see tm g))), (x0, .inr (6, [.ref x1, .int (nI tz), .int (nI ta__5), .int na__5, .int fn__5, .int fb__5])), (x1, .inl (k 0, 240, .inl fx))] H := hP
    replace hD : va_D A [(h0, .inr (5, [.ref h1, .ref h2, .ref h3, .ref h4])), (h1, .inl (k 1, 10, .inl (vv n see tm g))), (x0, .inr (6, [.ref x1, .int (nI tz), .int (nI ta__5), .int na__5, .int fn__5, .int fb__5])), (x1, .inl (k 0, 240, .inl fx))] := hD
    try dsimp only at hw_5
    refine va_iast hx hb hK hP hD hS 1 1 rfl rfl (by unfold vp_in; decide) dX5_readClause_19 (fun H locs hP hD hS => ?_)
    replace hP : va_P D classes [(h0, .inr (5, [.ref h1, .ref h2, .ref h3, .ref h4])), (h1, .inl (k 1, 10, .inl (upd (vv n see tm g) (Int32.toNatClampNeg 2) r_5))), (x0, .inr (6, [.ref x1, .int (nI tz), .int (nI ta__5), .int na__5, .int fn__5, .int fb__5])), (x1, .inl (k 0, 240, .inl fx))] H := hP
    replace hD : va_D A [(h0, .inr (5, [.ref h1, .ref h2, .ref h3, .ref h4])), (h1, .inl (k 1, 10, .inl (upd (vv n see tm g) (Int32.toNatClampNeg 2) r_5))), (x0, .inr (6, [.ref x1, .int (nI tz), .int (nI ta__5), .int na__5, .int fn__5, .int fb__5])), (x1, .inl (k 0, 240, .inl fx))] := hD
    rw [show upd (vv n see tm g) (Int32.toNatClampNeg 2) r_5 = vv n see tm (upd g 2 r_5) from vv_upd _ _ _ _ _ _ (by decide) (by decide) (by decide)] at hP hD
    generalize upd g 2 r_5 = gg_7 at hP hD
    replace hP : va_P D classes [(h0, .inr (5, [.ref h1, .ref h2, .ref h3, .ref h4])), (h1, .inl (k 1, 10, .inl (vv n see tm gg_7))), (x0, .inr (6, [.ref x1, .int (nI tz), .int (nI ta__5), .int na__5, .int fn__5, .int fb__5])), (x1, .inl (k 0, 240, .inl fx))] H := hP
    replace hD : va_D A [(h0, .inr (5, [.ref h1, .ref h2, .ref h3, .ref h4])), (h1, .inl (k 1, 10, .inl (vv n see tm gg_7))), (x0, .inr (6, [.ref x1, .int (nI tz), .int (nI ta__5), .int na__5, .int fn__5, .int fb__5])), (x1, .inl (k 0, 240, .inl fx))] := hD
    refine lv_iload_n hx hb dX5_readClause_20 rfl (lv_at hl 2 rfl) ?_
    refine lv_bipush (v := 7) hx hb dX5_readClause_21 (by decide) ?_
    refine lv_icmp_ne (tgt := 58) hx hb dX5_readClause_23 (by decide) (fun _ => ?_) (fun h => absurd h (by decide))
    refine lv_aload_n hx hb dX5_readClause_58 rfl (lv_at hl 1 rfl) ?_
    refine rw_v (D := D) (wr := [(h0, .inr (5, [.ref h1, .ref h2, .ref h3, .ref h4])), (h1, .inl (k 1, 10, .inl (vv n see tm gg_7)))]) (va_runV (As := []) (rest := []) ⟨hx, hb, hml, hown, hts⟩ ((x_needSemicolon l D k st lo x0 x1 tz ta__5 na__5 fn__5 fb__5 fx (by omega) (by omega)) H.size) (cwV 0 hts (gV tw_488 tw_489 tw_490 tw_80 tw_491) rfl rfl rfl (by decide +kernel) ⟨Nat.le_of_ble_eq_true rfl, Nat.le_of_ble_eq_true rfl⟩) (pV hS hAlo hlo hP hK (va_Dlo hD hAlo) hZ [2, 3] (by decide) rfl (ci := 6) (q0 := 0) rfl rfl) rfl rfl hl.1 rfl (lv_room (Nat.le_of_ble_eq_true rfl)) dX5_readClause_59 ⟨Nat.le_of_ble_eq_true rfl, Nat.le_of_ble_eq_true rfl⟩) hS hA hP hD [2, 3] [0, 1] rfl rfl (by decide) (by decide) (fun u H locs hw_8 hP hD hS => ?_)
    obtain ⟨ta__8, fn__8, fb__8⟩ := u
    replace hP : va_P D classes [(h0, .inr (5, [.ref h1, .ref h2, .ref h3, .ref h4])), (h1, .inl (k 1, 10, .inl (vv n see tm gg_7))), (x0, .inr (6, [.ref x1, .int (nI tz), .int (nI ta__8), .int na__5, .int fn__8, .int fb__8])), (x1, .inl (k 0, 240, .inl fx))] H := hP
    replace hD : va_D A [(h0, .inr (5, [.ref h1, .ref h2, .ref h3, .ref h4])), (h1, .inl (k 1, 10, .inl (vv n see tm gg_7))), (x0, .inr (6, [.ref x1, .int (nI tz), .int (nI ta__8), .int na__5, .int fn__8, .int fb__8])), (x1, .inl (k 0, 240, .inl fx))] := hD
    try dsimp only at hw_8
    have hP9 := hP.sub (ws' := [(h0, .inr (5, [.ref h1, .ref h2, .ref h3, .ref h4])), (h1, .inl (k 1, 10, .inl (vv n see tm gg_7))), (x0, .inr (6, [.ref x1, .int (nI tz), .int (nI ta__8), .int na__5, .int fn__8, .int fb__8])), (x1, .inl (k 0, 240, .inl fx))]) [0, 1, 2, 3] rfl
    have hD9 := hD.sub (ws' := [(h0, .inr (5, [.ref h1, .ref h2, .ref h3, .ref h4])), (h1, .inl (k 1, 10, .inl (vv n see tm gg_7))), (x0, .inr (6, [.ref x1, .int (nI tz), .int (nI ta__8), .int na__5, .int fn__8, .int fb__8])), (x1, .inl (k 0, 240, .inl fx))]) [0, 1, 2, 3] (by decide) rfl
    exact W.vret hx hb hr (fun t ht hW => ⟨⟨(see, tm, gg_7, ta__8, na__5, fn__8, fb__8), rfl, ⟨by omega, by omega, by omega, by omega⟩, by rw [ht]; exact hP9, hD9⟩, hS.F ht⟩) hS.2.2 dX5_readClause_62
  · refine lv_aload_n hx hb dX5_readClause_0 rfl (lv_at hl 0 rfl) ?_
    refine va_get (D := D) (ci := 5) (v := .ref h1) (C := RX5) (T := TX5) (N := 4) hx hb hts inX5 hown hK hP 0 rfl rfl 0 (by decide) (hts _ tw_146) (fun _ h9 => h9) rfl dX5_readClause_1 ?_
    refine lv_iload_n hx hb dX5_readClause_4 rfl (lv_at hl 2 rfl) ?_
    refine lv_aload_n hx hb dX5_readClause_5 rfl (lv_at hl 1 rfl) ?_
    refine va_getsN (A := A) hx hb (hZ.2.2.2.2.1.narrow hAlo) hS hown ((hZ.2.2.2.2.2.2.2.2.1.2.1 (RX5, 106, "LastPlace", "LEAST", "[I", RX7) (List.mem_of_getElem? (i := 1) rfl)).use rfl) (fun _ h9 => h9) dX5_readClause_6 ?_
    refine lv_iload_n hx hb dX5_readClause_9 rfl (lv_at hl 2 rfl) ?_
    refine va_ti (A := A) hx hb (hZ.2.2.2.2.2.1.narrow hAlo) hS (i := 3) (by unfold vp_in; decide) (v := .int 0) rfl dX5_readClause_10 ?_
    refine va_getsN (A := A) hx hb (hZ.2.2.1.narrow hAlo) hS hown ((hZ.2.2.2.2.2.2.2.2.1.2.1 (RX5, 109, "LastPlace", "MOST", "[I", RX7) (List.mem_of_getElem? (i := 2) rfl)).use rfl) (fun _ h9 => h9) dX5_readClause_11 ?_
    refine lv_iload_n hx hb dX5_readClause_14 rfl (lv_at hl 2 rfl) ?_
    refine va_ti (A := A) hx hb (hZ.2.2.2.1.narrow hAlo) hS (i := 3) (by unfold vp_in; decide) (v := .int 99) rfl dX5_readClause_15 ?_
    refine rw_i (D := D) (wr := [(h0, .inr (5, [.ref h1, .ref h2, .ref h3, .ref h4])), (h1, .inl (k 1, 10, .inl (vv n see tm g)))]) (va_runV (As := [.int 0, .int 99]) (rest := [.int 3, .ref h1]) ⟨hx, hb, hml, hown, hts⟩ ((x_needNumber l D k st lo x0 x1 tz ta na fn fb fx 0 99 (by omega) (by omega) (by decide)) s.heap.size) (cwV 2 hts (gV tw_467 tw_468 tw_469 tw_80 tw_470) rfl rfl rfl (by decide +kernel) ⟨Nat.le_of_ble_eq_true rfl, Nat.le_of_ble_eq_true rfl⟩) (pV hS hAlo hlo hP hK (va_Dlo hD hAlo) hZ [2, 3] (by decide) rfl (ci := 6) (q0 := 0) rfl rfl) rfl rfl hl.1 rfl (lv_room (Nat.le_of_ble_eq_true rfl)) dX5_readClause_16 ⟨Nat.le_of_ble_eq_true rfl, Nat.le_of_ble_eq_true rfl⟩) hS hA hP hD [2, 3] [0, 1] rfl rfl (by decide) (by decide) (fun r_9 u H locs hw_9 hP hD hS => ?_)
    obtain ⟨ta__9, na__9, fn__9, fb__9⟩ := u
    replace hP : va_P D classes [(h0, .inr (5, [.ref h1, .ref h2, .ref h3, .ref h4])), (h1, .inl (k 1, 10, .inl (vv n see tm g))), (x0, .inr (6, [.ref x1, .int (nI tz), .int (nI ta__9), .int na__9, .int fn__9, .int fb__9])), (x1, .inl (k 0, 240, .inl fx))] H := hP
    replace hD : va_D A [(h0, .inr (5, [.ref h1, .ref h2, .ref h3, .ref h4])), (h1, .inl (k 1, 10, .inl (vv n see tm g))), (x0, .inr (6, [.ref x1, .int (nI tz), .int (nI ta__9), .int na__9, .int fn__9, .int fb__9])), (x1, .inl (k 0, 240, .inl fx))] := hD
    try dsimp only at hw_9
    refine va_iast hx hb hK hP hD hS 1 1 rfl rfl (by unfold vp_in; decide) dX5_readClause_19 (fun H locs hP hD hS => ?_)
    replace hP : va_P D classes [(h0, .inr (5, [.ref h1, .ref h2, .ref h3, .ref h4])), (h1, .inl (k 1, 10, .inl (upd (vv n see tm g) (Int32.toNatClampNeg 3) r_9))), (x0, .inr (6, [.ref x1, .int (nI tz), .int (nI ta__9), .int na__9, .int fn__9, .int fb__9])), (x1, .inl (k 0, 240, .inl fx))] H := hP
    replace hD : va_D A [(h0, .inr (5, [.ref h1, .ref h2, .ref h3, .ref h4])), (h1, .inl (k 1, 10, .inl (upd (vv n see tm g) (Int32.toNatClampNeg 3) r_9))), (x0, .inr (6, [.ref x1, .int (nI tz), .int (nI ta__9), .int na__9, .int fn__9, .int fb__9])), (x1, .inl (k 0, 240, .inl fx))] := hD
    rw [show upd (vv n see tm g) (Int32.toNatClampNeg 3) r_9 = vv n see tm (upd g 3 r_9) from vv_upd _ _ _ _ _ _ (by decide) (by decide) (by decide)] at hP hD
    generalize upd g 3 r_9 = gg_11 at hP hD
    replace hP : va_P D classes [(h0, .inr (5, [.ref h1, .ref h2, .ref h3, .ref h4])), (h1, .inl (k 1, 10, .inl (vv n see tm gg_11))), (x0, .inr (6, [.ref x1, .int (nI tz), .int (nI ta__9), .int na__9, .int fn__9, .int fb__9])), (x1, .inl (k 0, 240, .inl fx))] H := hP
    replace hD : va_D A [(h0, .inr (5, [.ref h1, .ref h2, .ref h3, .ref h4])), (h1, .inl (k 1, 10, .inl (vv n see tm gg_11))), (x0, .inr (6, [.ref x1, .int (nI tz), .int (nI ta__9), .int na__9, .int fn__9, .int fb__9])), (x1, .inl (k 0, 240, .inl fx))] := hD
    refine lv_iload_n hx hb dX5_readClause_20 rfl (lv_at hl 2 rfl) ?_
    refine lv_bipush (v := 7) hx hb dX5_readClause_21 (by decide) ?_
    refine lv_icmp_ne (tgt := 58) hx hb dX5_readClause_23 (by decide) (fun _ => ?_) (fun h => absurd h (by decide))
    refine lv_aload_n hx hb dX5_readClause_58 rfl (lv_at hl 1 rfl) ?_
    refine rw_v (D := D) (wr := [(h0, .inr (5, [.ref h1, .ref h2, .ref h3, .ref h4])), (h1, .inl (k 1, 10, .inl (vv n see tm gg_11)))]) (va_runV (As := []) (rest := []) ⟨hx, hb, hml, hown, hts⟩ ((x_needSemicolon l D k st lo x0 x1 tz ta__9 na__9 fn__9 fb__9 fx (by omega) (by omega)) H.size) (cwV 0 hts (gV tw_488 tw_489 tw_490 tw_80 tw_491) rfl rfl rfl (by decide +kernel) ⟨Nat.le_of_ble_eq_true rfl, Nat.le_of_ble_eq_true rfl⟩) (pV hS hAlo hlo hP hK (va_Dlo hD hAlo) hZ [2, 3] (by decide) rfl (ci := 6) (q0 := 0) rfl rfl) rfl rfl hl.1 rfl (lv_room (Nat.le_of_ble_eq_true rfl)) dX5_readClause_59 ⟨Nat.le_of_ble_eq_true rfl, Nat.le_of_ble_eq_true rfl⟩) hS hA hP hD [2, 3] [0, 1] rfl rfl (by decide) (by decide) (fun u H locs hw_12 hP hD hS => ?_)
    obtain ⟨ta__12, fn__12, fb__12⟩ := u
    replace hP : va_P D classes [(h0, .inr (5, [.ref h1, .ref h2, .ref h3, .ref h4])), (h1, .inl (k 1, 10, .inl (vv n see tm gg_11))), (x0, .inr (6, [.ref x1, .int (nI tz), .int (nI ta__12), .int na__9, .int fn__12, .int fb__12])), (x1, .inl (k 0, 240, .inl fx))] H := hP
    replace hD : va_D A [(h0, .inr (5, [.ref h1, .ref h2, .ref h3, .ref h4])), (h1, .inl (k 1, 10, .inl (vv n see tm gg_11))), (x0, .inr (6, [.ref x1, .int (nI tz), .int (nI ta__12), .int na__9, .int fn__12, .int fb__12])), (x1, .inl (k 0, 240, .inl fx))] := hD
    try dsimp only at hw_12
    have hP9 := hP.sub (ws' := [(h0, .inr (5, [.ref h1, .ref h2, .ref h3, .ref h4])), (h1, .inl (k 1, 10, .inl (vv n see tm gg_11))), (x0, .inr (6, [.ref x1, .int (nI tz), .int (nI ta__12), .int na__9, .int fn__12, .int fb__12])), (x1, .inl (k 0, 240, .inl fx))]) [0, 1, 2, 3] rfl
    have hD9 := hD.sub (ws' := [(h0, .inr (5, [.ref h1, .ref h2, .ref h3, .ref h4])), (h1, .inl (k 1, 10, .inl (vv n see tm gg_11))), (x0, .inr (6, [.ref x1, .int (nI tz), .int (nI ta__12), .int na__9, .int fn__12, .int fb__12])), (x1, .inl (k 0, 240, .inl fx))]) [0, 1, 2, 3] (by decide) rfl
    exact W.vret hx hb hr (fun t ht hW => ⟨⟨(see, tm, gg_11, ta__12, na__9, fn__12, fb__12), rfl, ⟨by omega, by omega, by omega, by omega⟩, by rw [ht]; exact hP9, hD9⟩, hS.F ht⟩) hS.2.2 dX5_readClause_62
  · refine lv_aload_n hx hb dX5_readClause_0 rfl (lv_at hl 0 rfl) ?_
    refine va_get (D := D) (ci := 5) (v := .ref h1) (C := RX5) (T := TX5) (N := 4) hx hb hts inX5 hown hK hP 0 rfl rfl 0 (by decide) (hts _ tw_146) (fun _ h9 => h9) rfl dX5_readClause_1 ?_
    refine lv_iload_n hx hb dX5_readClause_4 rfl (lv_at hl 2 rfl) ?_
    refine lv_aload_n hx hb dX5_readClause_5 rfl (lv_at hl 1 rfl) ?_
    refine va_getsN (A := A) hx hb (hZ.2.2.2.2.1.narrow hAlo) hS hown ((hZ.2.2.2.2.2.2.2.2.1.2.1 (RX5, 106, "LastPlace", "LEAST", "[I", RX7) (List.mem_of_getElem? (i := 1) rfl)).use rfl) (fun _ h9 => h9) dX5_readClause_6 ?_
    refine lv_iload_n hx hb dX5_readClause_9 rfl (lv_at hl 2 rfl) ?_
    refine va_ti (A := A) hx hb (hZ.2.2.2.2.2.1.narrow hAlo) hS (i := 4) (by unfold vp_in; decide) (v := .int 0) rfl dX5_readClause_10 ?_
    refine va_getsN (A := A) hx hb (hZ.2.2.1.narrow hAlo) hS hown ((hZ.2.2.2.2.2.2.2.2.1.2.1 (RX5, 109, "LastPlace", "MOST", "[I", RX7) (List.mem_of_getElem? (i := 2) rfl)).use rfl) (fun _ h9 => h9) dX5_readClause_11 ?_
    refine lv_iload_n hx hb dX5_readClause_14 rfl (lv_at hl 2 rfl) ?_
    refine va_ti (A := A) hx hb (hZ.2.2.2.1.narrow hAlo) hS (i := 4) (by unfold vp_in; decide) (v := .int 99) rfl dX5_readClause_15 ?_
    refine rw_i (D := D) (wr := [(h0, .inr (5, [.ref h1, .ref h2, .ref h3, .ref h4])), (h1, .inl (k 1, 10, .inl (vv n see tm g)))]) (va_runV (As := [.int 0, .int 99]) (rest := [.int 4, .ref h1]) ⟨hx, hb, hml, hown, hts⟩ ((x_needNumber l D k st lo x0 x1 tz ta na fn fb fx 0 99 (by omega) (by omega) (by decide)) s.heap.size) (cwV 2 hts (gV tw_467 tw_468 tw_469 tw_80 tw_470) rfl rfl rfl (by decide +kernel) ⟨Nat.le_of_ble_eq_true rfl, Nat.le_of_ble_eq_true rfl⟩) (pV hS hAlo hlo hP hK (va_Dlo hD hAlo) hZ [2, 3] (by decide) rfl (ci := 6) (q0 := 0) rfl rfl) rfl rfl hl.1 rfl (lv_room (Nat.le_of_ble_eq_true rfl)) dX5_readClause_16 ⟨Nat.le_of_ble_eq_true rfl, Nat.le_of_ble_eq_true rfl⟩) hS hA hP hD [2, 3] [0, 1] rfl rfl (by decide) (by decide) (fun r_13 u H locs hw_13 hP hD hS => ?_)
    obtain ⟨ta__13, na__13, fn__13, fb__13⟩ := u
    replace hP : va_P D classes [(h0, .inr (5, [.ref h1, .ref h2, .ref h3, .ref h4])), (h1, .inl (k 1, 10, .inl (vv n see tm g))), (x0, .inr (6, [.ref x1, .int (nI tz), .int (nI ta__13), .int na__13, .int fn__13, .int fb__13])), (x1, .inl (k 0, 240, .inl fx))] H := hP
    replace hD : va_D A [(h0, .inr (5, [.ref h1, .ref h2, .ref h3, .ref h4])), (h1, .inl (k 1, 10, .inl (vv n see tm g))), (x0, .inr (6, [.ref x1, .int (nI tz), .int (nI ta__13), .int na__13, .int fn__13, .int fb__13])), (x1, .inl (k 0, 240, .inl fx))] := hD
    try dsimp only at hw_13
    refine va_iast hx hb hK hP hD hS 1 1 rfl rfl (by unfold vp_in; decide) dX5_readClause_19 (fun H locs hP hD hS => ?_)
    replace hP : va_P D classes [(h0, .inr (5, [.ref h1, .ref h2, .ref h3, .ref h4])), (h1, .inl (k 1, 10, .inl (upd (vv n see tm g) (Int32.toNatClampNeg 4) r_13))), (x0, .inr (6, [.ref x1, .int (nI tz), .int (nI ta__13), .int na__13, .int fn__13, .int fb__13])), (x1, .inl (k 0, 240, .inl fx))] H := hP
    replace hD : va_D A [(h0, .inr (5, [.ref h1, .ref h2, .ref h3, .ref h4])), (h1, .inl (k 1, 10, .inl (upd (vv n see tm g) (Int32.toNatClampNeg 4) r_13))), (x0, .inr (6, [.ref x1, .int (nI tz), .int (nI ta__13), .int na__13, .int fn__13, .int fb__13])), (x1, .inl (k 0, 240, .inl fx))] := hD
    rw [show upd (vv n see tm g) (Int32.toNatClampNeg 4) r_13 = vv n see tm (upd g 4 r_13) from vv_upd _ _ _ _ _ _ (by decide) (by decide) (by decide)] at hP hD
    generalize upd g 4 r_13 = gg_15 at hP hD
    replace hP : va_P D classes [(h0, .inr (5, [.ref h1, .ref h2, .ref h3, .ref h4])), (h1, .inl (k 1, 10, .inl (vv n see tm gg_15))), (x0, .inr (6, [.ref x1, .int (nI tz), .int (nI ta__13), .int na__13, .int fn__13, .int fb__13])), (x1, .inl (k 0, 240, .inl fx))] H := hP
    replace hD : va_D A [(h0, .inr (5, [.ref h1, .ref h2, .ref h3, .ref h4])), (h1, .inl (k 1, 10, .inl (vv n see tm gg_15))), (x0, .inr (6, [.ref x1, .int (nI tz), .int (nI ta__13), .int na__13, .int fn__13, .int fb__13])), (x1, .inl (k 0, 240, .inl fx))] := hD
    refine lv_iload_n hx hb dX5_readClause_20 rfl (lv_at hl 2 rfl) ?_
    refine lv_bipush (v := 7) hx hb dX5_readClause_21 (by decide) ?_
    refine lv_icmp_ne (tgt := 58) hx hb dX5_readClause_23 (by decide) (fun _ => ?_) (fun h => absurd h (by decide))
    refine lv_aload_n hx hb dX5_readClause_58 rfl (lv_at hl 1 rfl) ?_
    refine rw_v (D := D) (wr := [(h0, .inr (5, [.ref h1, .ref h2, .ref h3, .ref h4])), (h1, .inl (k 1, 10, .inl (vv n see tm gg_15)))]) (va_runV (As := []) (rest := []) ⟨hx, hb, hml, hown, hts⟩ ((x_needSemicolon l D k st lo x0 x1 tz ta__13 na__13 fn__13 fb__13 fx (by omega) (by omega)) H.size) (cwV 0 hts (gV tw_488 tw_489 tw_490 tw_80 tw_491) rfl rfl rfl (by decide +kernel) ⟨Nat.le_of_ble_eq_true rfl, Nat.le_of_ble_eq_true rfl⟩) (pV hS hAlo hlo hP hK (va_Dlo hD hAlo) hZ [2, 3] (by decide) rfl (ci := 6) (q0 := 0) rfl rfl) rfl rfl hl.1 rfl (lv_room (Nat.le_of_ble_eq_true rfl)) dX5_readClause_59 ⟨Nat.le_of_ble_eq_true rfl, Nat.le_of_ble_eq_true rfl⟩) hS hA hP hD [2, 3] [0, 1] rfl rfl (by decide) (by decide) (fun u H locs hw_16 hP hD hS => ?_)
    obtain ⟨ta__16, fn__16, fb__16⟩ := u
    replace hP : va_P D classes [(h0, .inr (5, [.ref h1, .ref h2, .ref h3, .ref h4])), (h1, .inl (k 1, 10, .inl (vv n see tm gg_15))), (x0, .inr (6, [.ref x1, .int (nI tz), .int (nI ta__16), .int na__13, .int fn__16, .int fb__16])), (x1, .inl (k 0, 240, .inl fx))] H := hP
    replace hD : va_D A [(h0, .inr (5, [.ref h1, .ref h2, .ref h3, .ref h4])), (h1, .inl (k 1, 10, .inl (vv n see tm gg_15))), (x0, .inr (6, [.ref x1, .int (nI tz), .int (nI ta__16), .int na__13, .int fn__16, .int fb__16])), (x1, .inl (k 0, 240, .inl fx))] := hD
    try dsimp only at hw_16
    have hP9 := hP.sub (ws' := [(h0, .inr (5, [.ref h1, .ref h2, .ref h3, .ref h4])), (h1, .inl (k 1, 10, .inl (vv n see tm gg_15))), (x0, .inr (6, [.ref x1, .int (nI tz), .int (nI ta__16), .int na__13, .int fn__16, .int fb__16])), (x1, .inl (k 0, 240, .inl fx))]) [0, 1, 2, 3] rfl
    have hD9 := hD.sub (ws' := [(h0, .inr (5, [.ref h1, .ref h2, .ref h3, .ref h4])), (h1, .inl (k 1, 10, .inl (vv n see tm gg_15))), (x0, .inr (6, [.ref x1, .int (nI tz), .int (nI ta__16), .int na__13, .int fn__16, .int fb__16])), (x1, .inl (k 0, 240, .inl fx))]) [0, 1, 2, 3] (by decide) rfl
    exact W.vret hx hb hr (fun t ht hW => ⟨⟨(see, tm, gg_15, ta__16, na__13, fn__16, fb__16), rfl, ⟨by omega, by omega, by omega, by omega⟩, by rw [ht]; exact hP9, hD9⟩, hS.F ht⟩) hS.2.2 dX5_readClause_62
  · refine lv_aload_n hx hb dX5_readClause_0 rfl (lv_at hl 0 rfl) ?_
    refine va_get (D := D) (ci := 5) (v := .ref h1) (C := RX5) (T := TX5) (N := 4) hx hb hts inX5 hown hK hP 0 rfl rfl 0 (by decide) (hts _ tw_146) (fun _ h9 => h9) rfl dX5_readClause_1 ?_
    refine lv_iload_n hx hb dX5_readClause_4 rfl (lv_at hl 2 rfl) ?_
    refine lv_aload_n hx hb dX5_readClause_5 rfl (lv_at hl 1 rfl) ?_
    refine va_getsN (A := A) hx hb (hZ.2.2.2.2.1.narrow hAlo) hS hown ((hZ.2.2.2.2.2.2.2.2.1.2.1 (RX5, 106, "LastPlace", "LEAST", "[I", RX7) (List.mem_of_getElem? (i := 1) rfl)).use rfl) (fun _ h9 => h9) dX5_readClause_6 ?_
    refine lv_iload_n hx hb dX5_readClause_9 rfl (lv_at hl 2 rfl) ?_
    refine va_ti (A := A) hx hb (hZ.2.2.2.2.2.1.narrow hAlo) hS (i := 5) (by unfold vp_in; decide) (v := .int 0) rfl dX5_readClause_10 ?_
    refine va_getsN (A := A) hx hb (hZ.2.2.1.narrow hAlo) hS hown ((hZ.2.2.2.2.2.2.2.2.1.2.1 (RX5, 109, "LastPlace", "MOST", "[I", RX7) (List.mem_of_getElem? (i := 2) rfl)).use rfl) (fun _ h9 => h9) dX5_readClause_11 ?_
    refine lv_iload_n hx hb dX5_readClause_14 rfl (lv_at hl 2 rfl) ?_
    refine va_ti (A := A) hx hb (hZ.2.2.2.1.narrow hAlo) hS (i := 5) (by unfold vp_in; decide) (v := .int 200) rfl dX5_readClause_15 ?_
    refine rw_i (D := D) (wr := [(h0, .inr (5, [.ref h1, .ref h2, .ref h3, .ref h4])), (h1, .inl (k 1, 10, .inl (vv n see tm g)))]) (va_runV (As := [.int 0, .int 200]) (rest := [.int 5, .ref h1]) ⟨hx, hb, hml, hown, hts⟩ ((x_needNumber l D k st lo x0 x1 tz ta na fn fb fx 0 200 (by omega) (by omega) (by decide)) s.heap.size) (cwV 2 hts (gV tw_467 tw_468 tw_469 tw_80 tw_470) rfl rfl rfl (by decide +kernel) ⟨Nat.le_of_ble_eq_true rfl, Nat.le_of_ble_eq_true rfl⟩) (pV hS hAlo hlo hP hK (va_Dlo hD hAlo) hZ [2, 3] (by decide) rfl (ci := 6) (q0 := 0) rfl rfl) rfl rfl hl.1 rfl (lv_room (Nat.le_of_ble_eq_true rfl)) dX5_readClause_16 ⟨Nat.le_of_ble_eq_true rfl, Nat.le_of_ble_eq_true rfl⟩) hS hA hP hD [2, 3] [0, 1] rfl rfl (by decide) (by decide) (fun r_17 u H locs hw_17 hP hD hS => ?_)
    obtain ⟨ta__17, na__17, fn__17, fb__17⟩ := u
    replace hP : va_P D classes [(h0, .inr (5, [.ref h1, .ref h2, .ref h3, .ref h4])), (h1, .inl (k 1, 10, .inl (vv n see tm g))), (x0, .inr (6, [.ref x1, .int (nI tz), .int (nI ta__17), .int na__17, .int fn__17, .int fb__17])), (x1, .inl (k 0, 240, .inl fx))] H := hP
    replace hD : va_D A [(h0, .inr (5, [.ref h1, .ref h2, .ref h3, .ref h4])), (h1, .inl (k 1, 10, .inl (vv n see tm g))), (x0, .inr (6, [.ref x1, .int (nI tz), .int (nI ta__17), .int na__17, .int fn__17, .int fb__17])), (x1, .inl (k 0, 240, .inl fx))] := hD
    try dsimp only at hw_17
    refine va_iast hx hb hK hP hD hS 1 1 rfl rfl (by unfold vp_in; decide) dX5_readClause_19 (fun H locs hP hD hS => ?_)
    replace hP : va_P D classes [(h0, .inr (5, [.ref h1, .ref h2, .ref h3, .ref h4])), (h1, .inl (k 1, 10, .inl (upd (vv n see tm g) (Int32.toNatClampNeg 5) r_17))), (x0, .inr (6, [.ref x1, .int (nI tz), .int (nI ta__17), .int na__17, .int fn__17, .int fb__17])), (x1, .inl (k 0, 240, .inl fx))] H := hP
    replace hD : va_D A [(h0, .inr (5, [.ref h1, .ref h2, .ref h3, .ref h4])), (h1, .inl (k 1, 10, .inl (upd (vv n see tm g) (Int32.toNatClampNeg 5) r_17))), (x0, .inr (6, [.ref x1, .int (nI tz), .int (nI ta__17), .int na__17, .int fn__17, .int fb__17])), (x1, .inl (k 0, 240, .inl fx))] := hD
    rw [show upd (vv n see tm g) (Int32.toNatClampNeg 5) r_17 = vv n see tm (upd g 5 r_17) from vv_upd _ _ _ _ _ _ (by decide) (by decide) (by decide)] at hP hD
    generalize upd g 5 r_17 = gg_19 at hP hD
    replace hP : va_P D classes [(h0, .inr (5, [.ref h1, .ref h2, .ref h3, .ref h4])), (h1, .inl (k 1, 10, .inl (vv n see tm gg_19))), (x0, .inr (6, [.ref x1, .int (nI tz), .int (nI ta__17), .int na__17, .int fn__17, .int fb__17])), (x1, .inl (k 0, 240, .inl fx))] H := hP
    replace hD : va_D A [(h0, .inr (5, [.ref h1, .ref h2, .ref h3, .ref h4])), (h1, .inl (k 1, 10, .inl (vv n see tm gg_19))), (x0, .inr (6, [.ref x1, .int (nI tz), .int (nI ta__17), .int na__17, .int fn__17, .int fb__17])), (x1, .inl (k 0, 240, .inl fx))] := hD
    refine lv_iload_n hx hb dX5_readClause_20 rfl (lv_at hl 2 rfl) ?_
    refine lv_bipush (v := 7) hx hb dX5_readClause_21 (by decide) ?_
    refine lv_icmp_ne (tgt := 58) hx hb dX5_readClause_23 (by decide) (fun _ => ?_) (fun h => absurd h (by decide))
    refine lv_aload_n hx hb dX5_readClause_58 rfl (lv_at hl 1 rfl) ?_
    refine rw_v (D := D) (wr := [(h0, .inr (5, [.ref h1, .ref h2, .ref h3, .ref h4])), (h1, .inl (k 1, 10, .inl (vv n see tm gg_19)))]) (va_runV (As := []) (rest := []) ⟨hx, hb, hml, hown, hts⟩ ((x_needSemicolon l D k st lo x0 x1 tz ta__17 na__17 fn__17 fb__17 fx (by omega) (by omega)) H.size) (cwV 0 hts (gV tw_488 tw_489 tw_490 tw_80 tw_491) rfl rfl rfl (by decide +kernel) ⟨Nat.le_of_ble_eq_true rfl, Nat.le_of_ble_eq_true rfl⟩) (pV hS hAlo hlo hP hK (va_Dlo hD hAlo) hZ [2, 3] (by decide) rfl (ci := 6) (q0 := 0) rfl rfl) rfl rfl hl.1 rfl (lv_room (Nat.le_of_ble_eq_true rfl)) dX5_readClause_59 ⟨Nat.le_of_ble_eq_true rfl, Nat.le_of_ble_eq_true rfl⟩) hS hA hP hD [2, 3] [0, 1] rfl rfl (by decide) (by decide) (fun u H locs hw_20 hP hD hS => ?_)
    obtain ⟨ta__20, fn__20, fb__20⟩ := u
    replace hP : va_P D classes [(h0, .inr (5, [.ref h1, .ref h2, .ref h3, .ref h4])), (h1, .inl (k 1, 10, .inl (vv n see tm gg_19))), (x0, .inr (6, [.ref x1, .int (nI tz), .int (nI ta__20), .int na__17, .int fn__20, .int fb__20])), (x1, .inl (k 0, 240, .inl fx))] H := hP
    replace hD : va_D A [(h0, .inr (5, [.ref h1, .ref h2, .ref h3, .ref h4])), (h1, .inl (k 1, 10, .inl (vv n see tm gg_19))), (x0, .inr (6, [.ref x1, .int (nI tz), .int (nI ta__20), .int na__17, .int fn__20, .int fb__20])), (x1, .inl (k 0, 240, .inl fx))] := hD
    try dsimp only at hw_20
    have hP9 := hP.sub (ws' := [(h0, .inr (5, [.ref h1, .ref h2, .ref h3, .ref h4])), (h1, .inl (k 1, 10, .inl (vv n see tm gg_19))), (x0, .inr (6, [.ref x1, .int (nI tz), .int (nI ta__20), .int na__17, .int fn__20, .int fb__20])), (x1, .inl (k 0, 240, .inl fx))]) [0, 1, 2, 3] rfl
    have hD9 := hD.sub (ws' := [(h0, .inr (5, [.ref h1, .ref h2, .ref h3, .ref h4])), (h1, .inl (k 1, 10, .inl (vv n see tm gg_19))), (x0, .inr (6, [.ref x1, .int (nI tz), .int (nI ta__20), .int na__17, .int fn__20, .int fb__20])), (x1, .inl (k 0, 240, .inl fx))]) [0, 1, 2, 3] (by decide) rfl
    exact W.vret hx hb hr (fun t ht hW => ⟨⟨(see, tm, gg_19, ta__20, na__17, fn__20, fb__20), rfl, ⟨by omega, by omega, by omega, by omega⟩, by rw [ht]; exact hP9, hD9⟩, hS.F ht⟩) hS.2.2 dX5_readClause_62
  · refine lv_aload_n hx hb dX5_readClause_0 rfl (lv_at hl 0 rfl) ?_
    refine va_get (D := D) (ci := 5) (v := .ref h1) (C := RX5) (T := TX5) (N := 4) hx hb hts inX5 hown hK hP 0 rfl rfl 0 (by decide) (hts _ tw_146) (fun _ h9 => h9) rfl dX5_readClause_1 ?_
    refine lv_iload_n hx hb dX5_readClause_4 rfl (lv_at hl 2 rfl) ?_
    refine lv_aload_n hx hb dX5_readClause_5 rfl (lv_at hl 1 rfl) ?_
    refine va_getsN (A := A) hx hb (hZ.2.2.2.2.1.narrow hAlo) hS hown ((hZ.2.2.2.2.2.2.2.2.1.2.1 (RX5, 106, "LastPlace", "LEAST", "[I", RX7) (List.mem_of_getElem? (i := 1) rfl)).use rfl) (fun _ h9 => h9) dX5_readClause_6 ?_
    refine lv_iload_n hx hb dX5_readClause_9 rfl (lv_at hl 2 rfl) ?_
    refine va_ti (A := A) hx hb (hZ.2.2.2.2.2.1.narrow hAlo) hS (i := 6) (by unfold vp_in; decide) (v := .int 0) rfl dX5_readClause_10 ?_
    refine va_getsN (A := A) hx hb (hZ.2.2.1.narrow hAlo) hS hown ((hZ.2.2.2.2.2.2.2.2.1.2.1 (RX5, 109, "LastPlace", "MOST", "[I", RX7) (List.mem_of_getElem? (i := 2) rfl)).use rfl) (fun _ h9 => h9) dX5_readClause_11 ?_
    refine lv_iload_n hx hb dX5_readClause_14 rfl (lv_at hl 2 rfl) ?_
    refine va_ti (A := A) hx hb (hZ.2.2.2.1.narrow hAlo) hS (i := 6) (by unfold vp_in; decide) (v := .int 2) rfl dX5_readClause_15 ?_
    refine rw_i (D := D) (wr := [(h0, .inr (5, [.ref h1, .ref h2, .ref h3, .ref h4])), (h1, .inl (k 1, 10, .inl (vv n see tm g)))]) (va_runV (As := [.int 0, .int 2]) (rest := [.int 6, .ref h1]) ⟨hx, hb, hml, hown, hts⟩ ((x_needNumber l D k st lo x0 x1 tz ta na fn fb fx 0 2 (by omega) (by omega) (by decide)) s.heap.size) (cwV 2 hts (gV tw_467 tw_468 tw_469 tw_80 tw_470) rfl rfl rfl (by decide +kernel) ⟨Nat.le_of_ble_eq_true rfl, Nat.le_of_ble_eq_true rfl⟩) (pV hS hAlo hlo hP hK (va_Dlo hD hAlo) hZ [2, 3] (by decide) rfl (ci := 6) (q0 := 0) rfl rfl) rfl rfl hl.1 rfl (lv_room (Nat.le_of_ble_eq_true rfl)) dX5_readClause_16 ⟨Nat.le_of_ble_eq_true rfl, Nat.le_of_ble_eq_true rfl⟩) hS hA hP hD [2, 3] [0, 1] rfl rfl (by decide) (by decide) (fun r_21 u H locs hw_21 hP hD hS => ?_)
    obtain ⟨ta__21, na__21, fn__21, fb__21⟩ := u
    replace hP : va_P D classes [(h0, .inr (5, [.ref h1, .ref h2, .ref h3, .ref h4])), (h1, .inl (k 1, 10, .inl (vv n see tm g))), (x0, .inr (6, [.ref x1, .int (nI tz), .int (nI ta__21), .int na__21, .int fn__21, .int fb__21])), (x1, .inl (k 0, 240, .inl fx))] H := hP
    replace hD : va_D A [(h0, .inr (5, [.ref h1, .ref h2, .ref h3, .ref h4])), (h1, .inl (k 1, 10, .inl (vv n see tm g))), (x0, .inr (6, [.ref x1, .int (nI tz), .int (nI ta__21), .int na__21, .int fn__21, .int fb__21])), (x1, .inl (k 0, 240, .inl fx))] := hD
    try dsimp only at hw_21
    obtain ⟨nb_22, hnl_22, hnh_22, rfl⟩ := inB_ofc (a := 0) (b := 2) (by omega) (by omega) hw_21.2.2.1
    refine va_iast hx hb hK hP hD hS 1 1 rfl rfl (by unfold vp_in; decide) dX5_readClause_19 (fun H locs hP hD hS => ?_)
    replace hP : va_P D classes [(h0, .inr (5, [.ref h1, .ref h2, .ref h3, .ref h4])), (h1, .inl (k 1, 10, .inl (upd (vv n see tm g) (Int32.toNatClampNeg 6) (nI nb_22)))), (x0, .inr (6, [.ref x1, .int (nI tz), .int (nI ta__21), .int na__21, .int fn__21, .int fb__21])), (x1, .inl (k 0, 240, .inl fx))] H := hP
    replace hD : va_D A [(h0, .inr (5, [.ref h1, .ref h2, .ref h3, .ref h4])), (h1, .inl (k 1, 10, .inl (upd (vv n see tm g) (Int32.toNatClampNeg 6) (nI nb_22)))), (x0, .inr (6, [.ref x1, .int (nI tz), .int (nI ta__21), .int na__21, .int fn__21, .int fb__21])), (x1, .inl (k 0, 240, .inl fx))] := hD
    rw [show upd (vv n see tm g) (Int32.toNatClampNeg 6) (nI nb_22) = vv n nb_22 tm g from vv_upd6 _ _ _ _ _] at hP hD
    replace hP : va_P D classes [(h0, .inr (5, [.ref h1, .ref h2, .ref h3, .ref h4])), (h1, .inl (k 1, 10, .inl (vv n nb_22 tm g))), (x0, .inr (6, [.ref x1, .int (nI tz), .int (nI ta__21), .int na__21, .int fn__21, .int fb__21])), (x1, .inl (k 0, 240, .inl fx))] H := hP
    replace hD : va_D A [(h0, .inr (5, [.ref h1, .ref h2, .ref h3, .ref h4])), (h1, .inl (k 1, 10, .inl (vv n nb_22 tm g))), (x0, .inr (6, [.ref x1, .int (nI tz), .int (nI ta__21), .int na__21, .int fn__21, .int fb__21])), (x1, .inl (k 0, 240, .inl fx))] := hD
    refine lv_iload_n hx hb dX5_readClause_20 rfl (lv_at hl 2 rfl) ?_
    refine lv_bipush (v := 7) hx hb dX5_readClause_21 (by decide) ?_
    refine lv_icmp_ne (tgt := 58) hx hb dX5_readClause_23 (by decide) (fun _ => ?_) (fun h => absurd h (by decide))
    refine lv_aload_n hx hb dX5_readClause_58 rfl (lv_at hl 1 rfl) ?_
    refine rw_v (D := D) (wr := [(h0, .inr (5, [.ref h1, .ref h2, .ref h3, .ref h4])), (h1, .inl (k 1, 10, .inl (vv n nb_22 tm g)))]) (va_runV (As := []) (rest := []) ⟨hx, hb, hml, hown, hts⟩ ((x_needSemicolon l D k st lo x0 x1 tz ta__21 na__21 fn__21 fb__21 fx (by omega) (by omega)) H.size) (cwV 0 hts (gV tw_488 tw_489 tw_490 tw_80 tw_491) rfl rfl rfl (by decide +kernel) ⟨Nat.le_of_ble_eq_true rfl, Nat.le_of_ble_eq_true rfl⟩) (pV hS hAlo hlo hP hK (va_Dlo hD hAlo) hZ [2, 3] (by decide) rfl (ci := 6) (q0 := 0) rfl rfl) rfl rfl hl.1 rfl (lv_room (Nat.le_of_ble_eq_true rfl)) dX5_readClause_59 ⟨Nat.le_of_ble_eq_true rfl, Nat.le_of_ble_eq_true rfl⟩) hS hA hP hD [2, 3] [0, 1] rfl rfl (by decide) (by decide) (fun u H locs hw_25 hP hD hS => ?_)
    obtain ⟨ta__25, fn__25, fb__25⟩ := u
    replace hP : va_P D classes [(h0, .inr (5, [.ref h1, .ref h2, .ref h3, .ref h4])), (h1, .inl (k 1, 10, .inl (vv n nb_22 tm g))), (x0, .inr (6, [.ref x1, .int (nI tz), .int (nI ta__25), .int na__21, .int fn__25, .int fb__25])), (x1, .inl (k 0, 240, .inl fx))] H := hP
    replace hD : va_D A [(h0, .inr (5, [.ref h1, .ref h2, .ref h3, .ref h4])), (h1, .inl (k 1, 10, .inl (vv n nb_22 tm g))), (x0, .inr (6, [.ref x1, .int (nI tz), .int (nI ta__25), .int na__21, .int fn__25, .int fb__25])), (x1, .inl (k 0, 240, .inl fx))] := hD
    try dsimp only at hw_25
    have hP9 := hP.sub (ws' := [(h0, .inr (5, [.ref h1, .ref h2, .ref h3, .ref h4])), (h1, .inl (k 1, 10, .inl (vv n nb_22 tm g))), (x0, .inr (6, [.ref x1, .int (nI tz), .int (nI ta__25), .int na__21, .int fn__25, .int fb__25])), (x1, .inl (k 0, 240, .inl fx))]) [0, 1, 2, 3] rfl
    have hD9 := hD.sub (ws' := [(h0, .inr (5, [.ref h1, .ref h2, .ref h3, .ref h4])), (h1, .inl (k 1, 10, .inl (vv n nb_22 tm g))), (x0, .inr (6, [.ref x1, .int (nI tz), .int (nI ta__25), .int na__21, .int fn__25, .int fb__25])), (x1, .inl (k 0, 240, .inl fx))]) [0, 1, 2, 3] (by decide) rfl
    exact W.vret hx hb hr (fun t ht hW => ⟨⟨(nb_22, tm, g, ta__25, na__21, fn__25, fb__25), rfl, ⟨by omega, by omega, by omega, by omega⟩, by rw [ht]; exact hP9, hD9⟩, hS.F ht⟩) hS.2.2 dX5_readClause_62
  · refine lv_aload_n hx hb dX5_readClause_0 rfl (lv_at hl 0 rfl) ?_
    refine va_get (D := D) (ci := 5) (v := .ref h1) (C := RX5) (T := TX5) (N := 4) hx hb hts inX5 hown hK hP 0 rfl rfl 0 (by decide) (hts _ tw_146) (fun _ h9 => h9) rfl dX5_readClause_1 ?_
    refine lv_iload_n hx hb dX5_readClause_4 rfl (lv_at hl 2 rfl) ?_
    refine lv_aload_n hx hb dX5_readClause_5 rfl (lv_at hl 1 rfl) ?_
    refine va_getsN (A := A) hx hb (hZ.2.2.2.2.1.narrow hAlo) hS hown ((hZ.2.2.2.2.2.2.2.2.1.2.1 (RX5, 106, "LastPlace", "LEAST", "[I", RX7) (List.mem_of_getElem? (i := 1) rfl)).use rfl) (fun _ h9 => h9) dX5_readClause_6 ?_
    refine lv_iload_n hx hb dX5_readClause_9 rfl (lv_at hl 2 rfl) ?_
    refine va_ti (A := A) hx hb (hZ.2.2.2.2.2.1.narrow hAlo) hS (i := 7) (by unfold vp_in; decide) (v := .int 0) rfl dX5_readClause_10 ?_
    refine va_getsN (A := A) hx hb (hZ.2.2.1.narrow hAlo) hS hown ((hZ.2.2.2.2.2.2.2.2.1.2.1 (RX5, 109, "LastPlace", "MOST", "[I", RX7) (List.mem_of_getElem? (i := 2) rfl)).use rfl) (fun _ h9 => h9) dX5_readClause_11 ?_
    refine lv_iload_n hx hb dX5_readClause_14 rfl (lv_at hl 2 rfl) ?_
    refine va_ti (A := A) hx hb (hZ.2.2.2.1.narrow hAlo) hS (i := 7) (by unfold vp_in; decide) (v := .int 60) rfl dX5_readClause_15 ?_
    refine rw_i (D := D) (wr := [(h0, .inr (5, [.ref h1, .ref h2, .ref h3, .ref h4])), (h1, .inl (k 1, 10, .inl (vv n see tm g)))]) (va_runV (As := [.int 0, .int 60]) (rest := [.int 7, .ref h1]) ⟨hx, hb, hml, hown, hts⟩ ((x_needNumber l D k st lo x0 x1 tz ta na fn fb fx 0 60 (by omega) (by omega) (by decide)) s.heap.size) (cwV 2 hts (gV tw_467 tw_468 tw_469 tw_80 tw_470) rfl rfl rfl (by decide +kernel) ⟨Nat.le_of_ble_eq_true rfl, Nat.le_of_ble_eq_true rfl⟩) (pV hS hAlo hlo hP hK (va_Dlo hD hAlo) hZ [2, 3] (by decide) rfl (ci := 6) (q0 := 0) rfl rfl) rfl rfl hl.1 rfl (lv_room (Nat.le_of_ble_eq_true rfl)) dX5_readClause_16 ⟨Nat.le_of_ble_eq_true rfl, Nat.le_of_ble_eq_true rfl⟩) hS hA hP hD [2, 3] [0, 1] rfl rfl (by decide) (by decide) (fun r_26 u H locs hw_26 hP hD hS => ?_)
    obtain ⟨ta__26, na__26, fn__26, fb__26⟩ := u
    replace hP : va_P D classes [(h0, .inr (5, [.ref h1, .ref h2, .ref h3, .ref h4])), (h1, .inl (k 1, 10, .inl (vv n see tm g))), (x0, .inr (6, [.ref x1, .int (nI tz), .int (nI ta__26), .int na__26, .int fn__26, .int fb__26])), (x1, .inl (k 0, 240, .inl fx))] H := hP
    replace hD : va_D A [(h0, .inr (5, [.ref h1, .ref h2, .ref h3, .ref h4])), (h1, .inl (k 1, 10, .inl (vv n see tm g))), (x0, .inr (6, [.ref x1, .int (nI tz), .int (nI ta__26), .int na__26, .int fn__26, .int fb__26])), (x1, .inl (k 0, 240, .inl fx))] := hD
    try dsimp only at hw_26
    refine va_iast hx hb hK hP hD hS 1 1 rfl rfl (by unfold vp_in; decide) dX5_readClause_19 (fun H locs hP hD hS => ?_)
    replace hP : va_P D classes [(h0, .inr (5, [.ref h1, .ref h2, .ref h3, .ref h4])), (h1, .inl (k 1, 10, .inl (upd (vv n see tm g) (Int32.toNatClampNeg 7) r_26))), (x0, .inr (6, [.ref x1, .int (nI tz), .int (nI ta__26), .int na__26, .int fn__26, .int fb__26])), (x1, .inl (k 0, 240, .inl fx))] H := hP
    replace hD : va_D A [(h0, .inr (5, [.ref h1, .ref h2, .ref h3, .ref h4])), (h1, .inl (k 1, 10, .inl (upd (vv n see tm g) (Int32.toNatClampNeg 7) r_26))), (x0, .inr (6, [.ref x1, .int (nI tz), .int (nI ta__26), .int na__26, .int fn__26, .int fb__26])), (x1, .inl (k 0, 240, .inl fx))] := hD
    rw [show upd (vv n see tm g) (Int32.toNatClampNeg 7) r_26 = vv n see tm (upd g 7 r_26) from vv_upd _ _ _ _ _ _ (by decide) (by decide) (by decide)] at hP hD
    generalize upd g 7 r_26 = gg_28 at hP hD
    replace hP : va_P D classes [(h0, .inr (5, [.ref h1, .ref h2, .ref h3, .ref h4])), (h1, .inl (k 1, 10, .inl (vv n see tm gg_28))), (x0, .inr (6, [.ref x1, .int (nI tz), .int (nI ta__26), .int na__26, .int fn__26, .int fb__26])), (x1, .inl (k 0, 240, .inl fx))] H := hP
    replace hD : va_D A [(h0, .inr (5, [.ref h1, .ref h2, .ref h3, .ref h4])), (h1, .inl (k 1, 10, .inl (vv n see tm gg_28))), (x0, .inr (6, [.ref x1, .int (nI tz), .int (nI ta__26), .int na__26, .int fn__26, .int fb__26])), (x1, .inl (k 0, 240, .inl fx))] := hD
    refine lv_iload_n hx hb dX5_readClause_20 rfl (lv_at hl 2 rfl) ?_
    refine lv_bipush (v := 7) hx hb dX5_readClause_21 (by decide) ?_
    refine lv_icmp_ne (tgt := 58) hx hb dX5_readClause_23 (by decide) (fun h => absurd (by decide) h) (fun _ => ?_)
    refine lv_aload_n hx hb dX5_readClause_26 rfl (lv_at hl 1 rfl) ?_
    refine lv_bipush (v := 8) hx hb dX5_readClause_27 (by decide) ?_
    refine ro_r (D := D) (va_runS (As := [.int 8]) (rest := [.ref x0]) ⟨hx, hb, hml, hown, hts⟩ ((x_wordOf_8 l D k st lo ) H.size) (va_cwS 1 hts (gS tw_386 tw_387 tw_81 tw_388) rfl rfl rfl (by decide +kernel) ⟨Nat.le_of_ble_eq_true rfl, Nat.le_of_ble_eq_true rfl⟩) (pS hS hAlo hlo hP hK (va_Dlo hD hAlo) hZ [] (by decide) rfl) rfl rfl hl.1 rfl (lv_room (Nat.le_of_ble_eq_true rfl)) dX5_readClause_29 ⟨Nat.le_of_ble_eq_true rfl, Nat.le_of_ble_eq_true rfl⟩) hS hA hP (fun H locs hP hS => ?_)
    refine rw_v (D := D) (wr := [(h0, .inr (5, [.ref h1, .ref h2, .ref h3, .ref h4])), (h1, .inl (k 1, 10, .inl (vv n see tm gg_28)))]) (va_runV (As := [.ref (st (100 + 8))]) (rest := []) ⟨hx, hb, hml, hown, hts⟩ ((x_needWord l D k st lo x0 x1 tz ta__26 na__26 fn__26 fb__26 fx 8 (by omega) (by omega) (by omega)) H.size) (cwV 1 hts (gV tw_482 tw_483 tw_484 tw_80 tw_485) rfl rfl rfl (by decide +kernel) ⟨Nat.le_of_ble_eq_true rfl, Nat.le_of_ble_eq_true rfl⟩) (pV hS hAlo hlo hP hK (va_Dlo hD hAlo) hZ [2, 3] (by decide) rfl (ci := 6) (q0 := 0) rfl rfl) rfl rfl hl.1 rfl (lv_room (Nat.le_of_ble_eq_true rfl)) dX5_readClause_32 ⟨Nat.le_of_ble_eq_true rfl, Nat.le_of_ble_eq_true rfl⟩) hS hA hP hD [2, 3] [0, 1] rfl rfl (by decide) (by decide) (fun u H locs hw_30 hP hD hS => ?_)
    obtain ⟨ta__30, fn__30, fb__30⟩ := u
    replace hP : va_P D classes [(h0, .inr (5, [.ref h1, .ref h2, .ref h3, .ref h4])), (h1, .inl (k 1, 10, .inl (vv n see tm gg_28))), (x0, .inr (6, [.ref x1, .int (nI tz), .int (nI ta__30), .int na__26, .int fn__30, .int fb__30])), (x1, .inl (k 0, 240, .inl fx))] H := hP
    replace hD : va_D A [(h0, .inr (5, [.ref h1, .ref h2, .ref h3, .ref h4])), (h1, .inl (k 1, 10, .inl (vv n see tm gg_28))), (x0, .inr (6, [.ref x1, .int (nI tz), .int (nI ta__30), .int na__26, .int fn__30, .int fb__30])), (x1, .inl (k 0, 240, .inl fx))] := hD
    try dsimp only at hw_30
    refine lv_aload_n hx hb dX5_readClause_35 rfl (lv_at hl 0 rfl) ?_
    refine va_get (D := D) (ci := 5) (v := .ref h1) (C := RX5) (T := TX5) (N := 4) hx hb hts inX5 hown hK hP 0 rfl rfl 0 (by decide) (hts _ tw_146) (fun _ h9 => h9) rfl dX5_readClause_36 ?_
    refine lv_bipush (v := 8) hx hb dX5_readClause_39 (by decide) ?_
    refine lv_aload_n hx hb dX5_readClause_41 rfl (lv_at hl 1 rfl) ?_
    refine va_getsN (A := A) hx hb (hZ.2.2.2.2.1.narrow hAlo) hS hown ((hZ.2.2.2.2.2.2.2.2.1.2.1 (RX5, 106, "LastPlace", "LEAST", "[I", RX7) (List.mem_of_getElem? (i := 1) rfl)).use rfl) (fun _ h9 => h9) dX5_readClause_42 ?_
    refine lv_bipush (v := 8) hx hb dX5_readClause_45 (by decide) ?_
    refine va_ti (A := A) hx hb (hZ.2.2.2.2.2.1.narrow hAlo) hS (i := 8) (by unfold vp_in; decide) (v := .int 0) rfl dX5_readClause_47 ?_
    refine va_getsN (A := A) hx hb (hZ.2.2.1.narrow hAlo) hS hown ((hZ.2.2.2.2.2.2.2.2.1.2.1 (RX5, 109, "LastPlace", "MOST", "[I", RX7) (List.mem_of_getElem? (i := 2) rfl)).use rfl) (fun _ h9 => h9) dX5_readClause_48 ?_
    refine lv_bipush (v := 8) hx hb dX5_readClause_51 (by decide) ?_
    refine va_ti (A := A) hx hb (hZ.2.2.2.1.narrow hAlo) hS (i := 8) (by unfold vp_in; decide) (v := .int 3) rfl dX5_readClause_53 ?_
    refine rw_i (D := D) (wr := [(h0, .inr (5, [.ref h1, .ref h2, .ref h3, .ref h4])), (h1, .inl (k 1, 10, .inl (vv n see tm gg_28)))]) (va_runV (As := [.int 0, .int 3]) (rest := [.int 8, .ref h1]) ⟨hx, hb, hml, hown, hts⟩ ((x_needNumber l D k st lo x0 x1 tz ta__30 na__26 fn__30 fb__30 fx 0 3 (by omega) (by omega) (by decide)) H.size) (cwV 2 hts (gV tw_467 tw_468 tw_469 tw_80 tw_470) rfl rfl rfl (by decide +kernel) ⟨Nat.le_of_ble_eq_true rfl, Nat.le_of_ble_eq_true rfl⟩) (pV hS hAlo hlo hP hK (va_Dlo hD hAlo) hZ [2, 3] (by decide) rfl (ci := 6) (q0 := 0) rfl rfl) rfl rfl hl.1 rfl (lv_room (Nat.le_of_ble_eq_true rfl)) dX5_readClause_54 ⟨Nat.le_of_ble_eq_true rfl, Nat.le_of_ble_eq_true rfl⟩) hS hA hP hD [2, 3] [0, 1] rfl rfl (by decide) (by decide) (fun r_31 u H locs hw_31 hP hD hS => ?_)
    obtain ⟨ta__31, na__31, fn__31, fb__31⟩ := u
    replace hP : va_P D classes [(h0, .inr (5, [.ref h1, .ref h2, .ref h3, .ref h4])), (h1, .inl (k 1, 10, .inl (vv n see tm gg_28))), (x0, .inr (6, [.ref x1, .int (nI tz), .int (nI ta__31), .int na__31, .int fn__31, .int fb__31])), (x1, .inl (k 0, 240, .inl fx))] H := hP
    replace hD : va_D A [(h0, .inr (5, [.ref h1, .ref h2, .ref h3, .ref h4])), (h1, .inl (k 1, 10, .inl (vv n see tm gg_28))), (x0, .inr (6, [.ref x1, .int (nI tz), .int (nI ta__31), .int na__31, .int fn__31, .int fb__31])), (x1, .inl (k 0, 240, .inl fx))] := hD
    try dsimp only at hw_31
    obtain ⟨nb_32, hnl_32, hnh_32, rfl⟩ := inB_ofc (a := 0) (b := 3) (by omega) (by omega) hw_31.2.2.1
    refine va_iast hx hb hK hP hD hS 1 1 rfl rfl (by unfold vp_in; decide) dX5_readClause_57 (fun H locs hP hD hS => ?_)
    replace hP : va_P D classes [(h0, .inr (5, [.ref h1, .ref h2, .ref h3, .ref h4])), (h1, .inl (k 1, 10, .inl (upd (vv n see tm gg_28) (Int32.toNatClampNeg 8) (nI nb_32)))), (x0, .inr (6, [.ref x1, .int (nI tz), .int (nI ta__31), .int na__31, .int fn__31, .int fb__31])), (x1, .inl (k 0, 240, .inl fx))] H := hP
    replace hD : va_D A [(h0, .inr (5, [.ref h1, .ref h2, .ref h3, .ref h4])), (h1, .inl (k 1, 10, .inl (upd (vv n see tm gg_28) (Int32.toNatClampNeg 8) (nI nb_32)))), (x0, .inr (6, [.ref x1, .int (nI tz), .int (nI ta__31), .int na__31, .int fn__31, .int fb__31])), (x1, .inl (k 0, 240, .inl fx))] := hD
    rw [show upd (vv n see tm gg_28) (Int32.toNatClampNeg 8) (nI nb_32) = vv n see nb_32 gg_28 from vv_upd8 _ _ _ _ _] at hP hD
    replace hP : va_P D classes [(h0, .inr (5, [.ref h1, .ref h2, .ref h3, .ref h4])), (h1, .inl (k 1, 10, .inl (vv n see nb_32 gg_28))), (x0, .inr (6, [.ref x1, .int (nI tz), .int (nI ta__31), .int na__31, .int fn__31, .int fb__31])), (x1, .inl (k 0, 240, .inl fx))] H := hP
    replace hD : va_D A [(h0, .inr (5, [.ref h1, .ref h2, .ref h3, .ref h4])), (h1, .inl (k 1, 10, .inl (vv n see nb_32 gg_28))), (x0, .inr (6, [.ref x1, .int (nI tz), .int (nI ta__31), .int na__31, .int fn__31, .int fb__31])), (x1, .inl (k 0, 240, .inl fx))] := hD
    refine lv_aload_n hx hb dX5_readClause_58 rfl (lv_at hl 1 rfl) ?_
    refine rw_v (D := D) (wr := [(h0, .inr (5, [.ref h1, .ref h2, .ref h3, .ref h4])), (h1, .inl (k 1, 10, .inl (vv n see nb_32 gg_28)))]) (va_runV (As := []) (rest := []) ⟨hx, hb, hml, hown, hts⟩ ((x_needSemicolon l D k st lo x0 x1 tz ta__31 na__31 fn__31 fb__31 fx (by omega) (by omega)) H.size) (cwV 0 hts (gV tw_488 tw_489 tw_490 tw_80 tw_491) rfl rfl rfl (by decide +kernel) ⟨Nat.le_of_ble_eq_true rfl, Nat.le_of_ble_eq_true rfl⟩) (pV hS hAlo hlo hP hK (va_Dlo hD hAlo) hZ [2, 3] (by decide) rfl (ci := 6) (q0 := 0) rfl rfl) rfl rfl hl.1 rfl (lv_room (Nat.le_of_ble_eq_true rfl)) dX5_readClause_59 ⟨Nat.le_of_ble_eq_true rfl, Nat.le_of_ble_eq_true rfl⟩) hS hA hP hD [2, 3] [0, 1] rfl rfl (by decide) (by decide) (fun u H locs hw_35 hP hD hS => ?_)
    obtain ⟨ta__35, fn__35, fb__35⟩ := u
    replace hP : va_P D classes [(h0, .inr (5, [.ref h1, .ref h2, .ref h3, .ref h4])), (h1, .inl (k 1, 10, .inl (vv n see nb_32 gg_28))), (x0, .inr (6, [.ref x1, .int (nI tz), .int (nI ta__35), .int na__31, .int fn__35, .int fb__35])), (x1, .inl (k 0, 240, .inl fx))] H := hP
    replace hD : va_D A [(h0, .inr (5, [.ref h1, .ref h2, .ref h3, .ref h4])), (h1, .inl (k 1, 10, .inl (vv n see nb_32 gg_28))), (x0, .inr (6, [.ref x1, .int (nI tz), .int (nI ta__35), .int na__31, .int fn__35, .int fb__35])), (x1, .inl (k 0, 240, .inl fx))] := hD
    try dsimp only at hw_35
    have hP9 := hP.sub (ws' := [(h0, .inr (5, [.ref h1, .ref h2, .ref h3, .ref h4])), (h1, .inl (k 1, 10, .inl (vv n see nb_32 gg_28))), (x0, .inr (6, [.ref x1, .int (nI tz), .int (nI ta__35), .int na__31, .int fn__35, .int fb__35])), (x1, .inl (k 0, 240, .inl fx))]) [0, 1, 2, 3] rfl
    have hD9 := hD.sub (ws' := [(h0, .inr (5, [.ref h1, .ref h2, .ref h3, .ref h4])), (h1, .inl (k 1, 10, .inl (vv n see nb_32 gg_28))), (x0, .inr (6, [.ref x1, .int (nI tz), .int (nI ta__35), .int na__31, .int fn__35, .int fb__35])), (x1, .inl (k 0, 240, .inl fx))]) [0, 1, 2, 3] (by decide) rfl
    exact W.vret hx hb hr (fun t ht hW => ⟨⟨(see, nb_32, gg_28, ta__35, na__31, fn__35, fb__35), rfl, ⟨by omega, by omega, by omega, by omega⟩, by rw [ht]; exact hP9, hD9⟩, hS.F ht⟩) hS.2.2 dX5_readClause_62
  · refine lv_aload_n hx hb dX5_readClause_0 rfl (lv_at hl 0 rfl) ?_
    refine va_get (D := D) (ci := 5) (v := .ref h1) (C := RX5) (T := TX5) (N := 4) hx hb hts inX5 hown hK hP 0 rfl rfl 0 (by decide) (hts _ tw_146) (fun _ h9 => h9) rfl dX5_readClause_1 ?_
    refine lv_iload_n hx hb dX5_readClause_4 rfl (lv_at hl 2 rfl) ?_
    refine lv_aload_n hx hb dX5_readClause_5 rfl (lv_at hl 1 rfl) ?_
    refine va_getsN (A := A) hx hb (hZ.2.2.2.2.1.narrow hAlo) hS hown ((hZ.2.2.2.2.2.2.2.2.1.2.1 (RX5, 106, "LastPlace", "LEAST", "[I", RX7) (List.mem_of_getElem? (i := 1) rfl)).use rfl) (fun _ h9 => h9) dX5_readClause_6 ?_
    refine lv_iload_n hx hb dX5_readClause_9 rfl (lv_at hl 2 rfl) ?_
    refine va_ti (A := A) hx hb (hZ.2.2.2.2.2.1.narrow hAlo) hS (i := 9) (by unfold vp_in; decide) (v := .int 0) rfl dX5_readClause_10 ?_
    refine va_getsN (A := A) hx hb (hZ.2.2.1.narrow hAlo) hS hown ((hZ.2.2.2.2.2.2.2.2.1.2.1 (RX5, 109, "LastPlace", "MOST", "[I", RX7) (List.mem_of_getElem? (i := 2) rfl)).use rfl) (fun _ h9 => h9) dX5_readClause_11 ?_
    refine lv_iload_n hx hb dX5_readClause_14 rfl (lv_at hl 2 rfl) ?_
    refine va_ti (A := A) hx hb (hZ.2.2.2.1.narrow hAlo) hS (i := 9) (by unfold vp_in; decide) (v := .int 999) rfl dX5_readClause_15 ?_
    refine rw_i (D := D) (wr := [(h0, .inr (5, [.ref h1, .ref h2, .ref h3, .ref h4])), (h1, .inl (k 1, 10, .inl (vv n see tm g)))]) (va_runV (As := [.int 0, .int 999]) (rest := [.int 9, .ref h1]) ⟨hx, hb, hml, hown, hts⟩ ((x_needNumber l D k st lo x0 x1 tz ta na fn fb fx 0 999 (by omega) (by omega) (by decide)) s.heap.size) (cwV 2 hts (gV tw_467 tw_468 tw_469 tw_80 tw_470) rfl rfl rfl (by decide +kernel) ⟨Nat.le_of_ble_eq_true rfl, Nat.le_of_ble_eq_true rfl⟩) (pV hS hAlo hlo hP hK (va_Dlo hD hAlo) hZ [2, 3] (by decide) rfl (ci := 6) (q0 := 0) rfl rfl) rfl rfl hl.1 rfl (lv_room (Nat.le_of_ble_eq_true rfl)) dX5_readClause_16 ⟨Nat.le_of_ble_eq_true rfl, Nat.le_of_ble_eq_true rfl⟩) hS hA hP hD [2, 3] [0, 1] rfl rfl (by decide) (by decide) (fun r_36 u H locs hw_36 hP hD hS => ?_)
    obtain ⟨ta__36, na__36, fn__36, fb__36⟩ := u
    replace hP : va_P D classes [(h0, .inr (5, [.ref h1, .ref h2, .ref h3, .ref h4])), (h1, .inl (k 1, 10, .inl (vv n see tm g))), (x0, .inr (6, [.ref x1, .int (nI tz), .int (nI ta__36), .int na__36, .int fn__36, .int fb__36])), (x1, .inl (k 0, 240, .inl fx))] H := hP
    replace hD : va_D A [(h0, .inr (5, [.ref h1, .ref h2, .ref h3, .ref h4])), (h1, .inl (k 1, 10, .inl (vv n see tm g))), (x0, .inr (6, [.ref x1, .int (nI tz), .int (nI ta__36), .int na__36, .int fn__36, .int fb__36])), (x1, .inl (k 0, 240, .inl fx))] := hD
    try dsimp only at hw_36
    refine va_iast hx hb hK hP hD hS 1 1 rfl rfl (by unfold vp_in; decide) dX5_readClause_19 (fun H locs hP hD hS => ?_)
    replace hP : va_P D classes [(h0, .inr (5, [.ref h1, .ref h2, .ref h3, .ref h4])), (h1, .inl (k 1, 10, .inl (upd (vv n see tm g) (Int32.toNatClampNeg 9) r_36))), (x0, .inr (6, [.ref x1, .int (nI tz), .int (nI ta__36), .int na__36, .int fn__36, .int fb__36])), (x1, .inl (k 0, 240, .inl fx))] H := hP
    replace hD : va_D A [(h0, .inr (5, [.ref h1, .ref h2, .ref h3, .ref h4])), (h1, .inl (k 1, 10, .inl (upd (vv n see tm g) (Int32.toNatClampNeg 9) r_36))), (x0, .inr (6, [.ref x1, .int (nI tz), .int (nI ta__36), .int na__36, .int fn__36, .int fb__36])), (x1, .inl (k 0, 240, .inl fx))] := hD
    rw [show upd (vv n see tm g) (Int32.toNatClampNeg 9) r_36 = vv n see tm (upd g 9 r_36) from vv_upd _ _ _ _ _ _ (by decide) (by decide) (by decide)] at hP hD
    generalize upd g 9 r_36 = gg_38 at hP hD
    replace hP : va_P D classes [(h0, .inr (5, [.ref h1, .ref h2, .ref h3, .ref h4])), (h1, .inl (k 1, 10, .inl (vv n see tm gg_38))), (x0, .inr (6, [.ref x1, .int (nI tz), .int (nI ta__36), .int na__36, .int fn__36, .int fb__36])), (x1, .inl (k 0, 240, .inl fx))] H := hP
    replace hD : va_D A [(h0, .inr (5, [.ref h1, .ref h2, .ref h3, .ref h4])), (h1, .inl (k 1, 10, .inl (vv n see tm gg_38))), (x0, .inr (6, [.ref x1, .int (nI tz), .int (nI ta__36), .int na__36, .int fn__36, .int fb__36])), (x1, .inl (k 0, 240, .inl fx))] := hD
    refine lv_iload_n hx hb dX5_readClause_20 rfl (lv_at hl 2 rfl) ?_
    refine lv_bipush (v := 7) hx hb dX5_readClause_21 (by decide) ?_
    refine lv_icmp_ne (tgt := 58) hx hb dX5_readClause_23 (by decide) (fun _ => ?_) (fun h => absurd h (by decide))
    refine lv_aload_n hx hb dX5_readClause_58 rfl (lv_at hl 1 rfl) ?_
    refine rw_v (D := D) (wr := [(h0, .inr (5, [.ref h1, .ref h2, .ref h3, .ref h4])), (h1, .inl (k 1, 10, .inl (vv n see tm gg_38)))]) (va_runV (As := []) (rest := []) ⟨hx, hb, hml, hown, hts⟩ ((x_needSemicolon l D k st lo x0 x1 tz ta__36 na__36 fn__36 fb__36 fx (by omega) (by omega)) H.size) (cwV 0 hts (gV tw_488 tw_489 tw_490 tw_80 tw_491) rfl rfl rfl (by decide +kernel) ⟨Nat.le_of_ble_eq_true rfl, Nat.le_of_ble_eq_true rfl⟩) (pV hS hAlo hlo hP hK (va_Dlo hD hAlo) hZ [2, 3] (by decide) rfl (ci := 6) (q0 := 0) rfl rfl) rfl rfl hl.1 rfl (lv_room (Nat.le_of_ble_eq_true rfl)) dX5_readClause_59 ⟨Nat.le_of_ble_eq_true rfl, Nat.le_of_ble_eq_true rfl⟩) hS hA hP hD [2, 3] [0, 1] rfl rfl (by decide) (by decide) (fun u H locs hw_39 hP hD hS => ?_)
    obtain ⟨ta__39, fn__39, fb__39⟩ := u
    replace hP : va_P D classes [(h0, .inr (5, [.ref h1, .ref h2, .ref h3, .ref h4])), (h1, .inl (k 1, 10, .inl (vv n see tm gg_38))), (x0, .inr (6, [.ref x1, .int (nI tz), .int (nI ta__39), .int na__36, .int fn__39, .int fb__39])), (x1, .inl (k 0, 240, .inl fx))] H := hP
    replace hD : va_D A [(h0, .inr (5, [.ref h1, .ref h2, .ref h3, .ref h4])), (h1, .inl (k 1, 10, .inl (vv n see tm gg_38))), (x0, .inr (6, [.ref x1, .int (nI tz), .int (nI ta__39), .int na__36, .int fn__39, .int fb__39])), (x1, .inl (k 0, 240, .inl fx))] := hD
    try dsimp only at hw_39
    have hP9 := hP.sub (ws' := [(h0, .inr (5, [.ref h1, .ref h2, .ref h3, .ref h4])), (h1, .inl (k 1, 10, .inl (vv n see tm gg_38))), (x0, .inr (6, [.ref x1, .int (nI tz), .int (nI ta__39), .int na__36, .int fn__39, .int fb__39])), (x1, .inl (k 0, 240, .inl fx))]) [0, 1, 2, 3] rfl
    have hD9 := hD.sub (ws' := [(h0, .inr (5, [.ref h1, .ref h2, .ref h3, .ref h4])), (h1, .inl (k 1, 10, .inl (vv n see tm gg_38))), (x0, .inr (6, [.ref x1, .int (nI tz), .int (nI ta__39), .int na__36, .int fn__39, .int fb__39])), (x1, .inl (k 0, 240, .inl fx))]) [0, 1, 2, 3] (by decide) rfl
    exact W.vret hx hb hr (fun t ht hW => ⟨⟨(see, tm, gg_38, ta__39, na__36, fn__39, fb__39), rfl, ⟨by omega, by omega, by omega, by omega⟩, by rw [ht]; exact hP9, hD9⟩, hS.F ht⟩) hS.2.2 dX5_readClause_62


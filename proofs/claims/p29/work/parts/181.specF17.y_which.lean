
set_option maxHeartbeats 4000000 in
set_option maxRecDepth 100000 in
theorem y_which (l : Launch) (D : va_G) (k : Nat → ClassId) (st : Nat → Nat) (lo : Nat) (a : Nat → Nat) (rk : Nat) (lfa : Int32) (n0 : Nat) (see0 : Nat) (tm0 : Nat) (g0 : Nat → Int32) (ff0 : Nat → Int32) (fp0 : Nat → Int32) (fl0 : Nat → Int32) (n1 : Nat) (see1 : Nat) (tm1 : Nat) (g1 : Nat → Int32) (ff1 : Nat → Int32) (fp1 : Nat → Int32) (fl1 : Nat → Int32) (n2 : Nat) (see2 : Nat) (tm2 : Nat) (g2 : Nat → Int32) (ff2 : Nat → Int32) (fp2 : Nat → Int32) (fl2 : Nat → Int32) (on0 : Nat → Int32) (sr0 : Nat → Int32) (en0 : Nat → Int32) (on1 : Nat → Int32) (sr1 : Nat → Int32) (en1 : Nat → Int32) (on2 : Nat → Int32) (sr2 : Nat → Int32) (en2 : Nat → Int32) (p0 : Int32) (p1 : Int32) (hn0 : n0 ≤ 24) (hse0 : see0 ≤ 2) (htm0 : tm0 ≤ 3) (hn1 : n1 ≤ 24) (hse1 : see1 ≤ 2) (htm1 : tm1 ≤ 3) (hn2 : n2 ≤ 24) (hse2 : see2 ≤ 2) (htm2 : tm2 ≤ 3) (hwy : wy3 (d3 (sdX n0 see0 tm0 g0 ff0 fp0) (sdX n1 see1 tm1 g1 ff1 fp1) (sdX n2 see2 tm2 g2 ff2 fp2)) (d3 on0 on1 on2) (d3 sr0 sr1 sr2) (d3 en0 en1 en2)) : CRi l D k st lo yX7_which cX7_which 3 (some .int) ({ frames := 2, cells := 0, slots := 0, locals := 41 }) [.ref (a 0), .int p0, .int p1] [((a 0), .inr (7, (fX7 (a 1) (a 3) (a 19) (a 35) (a 40) (nI rk) lfa (a 53) (a 56) (a 63) (a 64) (a 68)))), ((a 3), .inl (k 3, 3, .inr (.inr (.inr (.inr (a3 (a 4) (a 9) (a 14))))))), ((a 19), .inl (k 4, 3, .inr (.inr (.inr (.inr (a3 (a 20) (a 25) (a 30))))))), ((a 4), .inr (5, (fX5 (a 5) (a 6) (a 7) (a 8)))), (aI k (a 5) 10 (vv n0 see0 tm0 g0)), (aI k (a 6) 24 ff0), (aI k (a 7) 24 fp0), (aI k (a 8) 4 fl0), ((a 9), .inr (5, (fX5 (a 10) (a 11) (a 12) (a 13)))), (aI k (a 10) 10 (vv n1 see1 tm1 g1)), (aI k (a 11) 24 ff1), (aI k (a 12) 24 fp1), (aI k (a 13) 4 fl1), ((a 14), .inr (5, (fX5 (a 15) (a 16) (a 17) (a 18)))), (aI k (a 15) 10 (vv n2 see2 tm2 g2)), (aI k (a 16) 24 ff2), (aI k (a 17) 24 fp2), (aI k (a 18) 4 fl2), ((a 20), .inr (0, (fX0 (a 4) (a 21) (a 22) (a 23) (a 24)))), (aI k (a 21) 768 on0), (aI k (a 22) 4 sr0), (aI k (a 23) 4 en0), ((a 25), .inr (0, (fX0 (a 9) (a 26) (a 27) (a 28) (a 29)))), (aI k (a 26) 768 on1), (aI k (a 27) 4 sr1), (aI k (a 28) 4 en1), ((a 30), .inr (0, (fX0 (a 14) (a 31) (a 32) (a 33) (a 34)))), (aI k (a 31) 768 on2), (aI k (a 32) 4 sr2), (aI k (a 33) 4 en2)] (fun r => wcP (d3 (sdX n0 see0 tm0 g0 ff0 fp0) (sdX n1 see1 tm1 g1 ff1 fp1) (sdX n2 see2 tm2 g2 ff2 fp2)) p0 p1 r) := by
  intro sz
  refine Met.ofW (cc := cX7_which) (maxL := 3) (ret := (some .int)) (by decide) rfl ?_
  intro p e s m args below meth c s₁ B hml hv
  obtain ⟨rfl, hsz, hlo, hP, hK, hDL, hZ⟩ := hv
  have hx := B.exec
  have hb := B.bytes
  have hr := B.returns
  have hts := WS_ts B.pre
  have hown : s.vm.findClass RX7 = some m.cls := findClass_of_methodNamed B.named
  have hlocks := B.notSynchronized
  subst hsz
  have hA : ∀ q : Nat, s.heap.size ≤ q → (fun q : Nat => s.heap.size ≤ q) q := fun _ h => h
  have hAlo : ∀ q : Nat, (fun q : Nat => s.heap.size ≤ q) q → lo ≤ q := fun q h => Nat.le_trans hlo h
  have hS : va_S (fun q : Nat => s.heap.size ≤ q) s.heap s.heap [] := va_S.rf
  have hl := lv_entry ([.ref (a 0), .int p0, .int p1]) (n := 3) (Nat.le_of_ble_eq_true rfl)
  rw [lg_entry_eq]
  generalize (lg_sl ([.ref (a 0), .int p0, .int p1]) ++ List.replicate (3 - (lg_sl ([.ref (a 0), .int p0, .int p1])).length) Slot.unset).toArray = ls at hl ⊢
  have hl : lv_has ls 3 [(0, .ref (a 0)), (1, .int p0), (2, .int p1)] := hl
  refine lv_aload_n hx hb dX7_which_0 rfl (lv_at hl 0 rfl) ?_
  refine lv_iload_n hx hb dX7_which_1 rfl (lv_at hl 1 rfl) ?_
  refine ro_i (D := D) (va_runV (As := [.int p0]) (rest := []) ⟨hx, hb, hml, hown, hts⟩ ((y_isStreet l D k st lo a rk lfa n0 see0 tm0 g0 n1 see1 tm1 g1 n2 see2 tm2 g2 p0 (by first | assumption | omega) (by first | assumption | omega) (by first | assumption | omega)) s.heap.size) (cwV 1 hts (gV tw_589 tw_591 tw_8 tw_79 tw_592) rfl rfl rfl (by decide +kernel) ⟨Nat.le_of_ble_eq_true rfl, Nat.le_of_ble_eq_true rfl⟩) (pV hS hAlo hlo hP hK hDL hZ [0, 1, 3, 4, 8, 9, 13, 14] (by decide) rfl (ci := 7) (q := (RX7, TX7, 12)) (q0 := 0) rfl rfl) rfl rfl hl.1 rfl (lv_room (Nat.le_of_ble_eq_true rfl)) dX7_which_2 ⟨Nat.le_of_ble_eq_true rfl, Nat.le_of_ble_eq_true rfl⟩) hS hA hP (fun r_1 H locs hw_1 hP hS => ?_)
  try dsimp only at hw_1
  rcases hw_1 with ⟨rfl, ⟨rfl, hw_1⟩ | ⟨rfl, hw_1⟩ | ⟨rfl, hw_1⟩⟩ | ⟨rfl, hw_1⟩
  · refine lv_if_eq (tgt := 16) hx hb dX7_which_5 (by decide) (fun h => absurd h (by decide)) (fun _ => ?_)
    refine lv_aload_n hx hb dX7_which_8 rfl (lv_at hl 0 rfl) ?_
    refine lv_iload_n hx hb dX7_which_9 rfl (lv_at hl 2 rfl) ?_
    refine ro_i (D := D) (va_runV (As := [.int p1]) (rest := []) ⟨hx, hb, hml, hown, hts⟩ ((y_isStreet l D k st lo a rk lfa n0 see0 tm0 g0 n1 see1 tm1 g1 n2 see2 tm2 g2 p1 (by first | assumption | omega) (by first | assumption | omega) (by first | assumption | omega)) H.size) (cwV 1 hts (gV tw_589 tw_591 tw_8 tw_79 tw_592) rfl rfl rfl (by decide +kernel) ⟨Nat.le_of_ble_eq_true rfl, Nat.le_of_ble_eq_true rfl⟩) (pV hS hAlo hlo hP hK hDL hZ [0, 1, 3, 4, 8, 9, 13, 14] (by decide) rfl (ci := 7) (q := (RX7, TX7, 12)) (q0 := 0) rfl rfl) rfl rfl hl.1 rfl (lv_room (Nat.le_of_ble_eq_true rfl)) dX7_which_10 ⟨Nat.le_of_ble_eq_true rfl, Nat.le_of_ble_eq_true rfl⟩) hS hA hP (fun r_2 H locs hw_2 hP hS => ?_)
    try dsimp only at hw_2
    rcases hw_2 with ⟨rfl, ⟨rfl, hw_2⟩ | ⟨rfl, hw_2⟩ | ⟨rfl, hw_2⟩⟩ | ⟨rfl, hw_2⟩
    · refine lv_if_ne (tgt := 20) hx hb dX7_which_13 (by decide) (fun _ => ?_) (fun h => absurd h (by decide))
      refine lv_aload_n hx hb dX7_which_20 rfl (lv_at hl 0 rfl) ?_
      refine va_get (D := D) (ci := 7) (v := .ref (a 19)) (C := RX7) (T := TX7) (N := 12) hx hb hts inX7 hown hK hP 0 rfl rfl 2 (by decide) (hts _ tw_307) (fun _ h9 => h9) rfl dX7_which_21 ?_
      refine lv_iload_n hx hb dX7_which_24 rfl (lv_at hl 2 rfl) ?_
      refine va_aldq hx hb hK hP 2 4 rfl rfl (by unfold vp_in; decide) dX7_which_25 ?_
      refine lv_tr (y := .ref (a 20)) rfl ?_
      refine va_get (D := D) (ci := 0) (v := .ref (a 22)) (C := RX0) (T := TX0) (N := 5) hx hb hts inX0 hown hK hP 18 rfl rfl 2 (by decide) (hts _ tw_269) (fun _ h9 => h9) rfl dX7_which_26 ?_
      refine lv_iconst (v := 0) hx hb dX7_which_29 (by decide) ?_
      refine va_iald hx hb hK hP 20 1 rfl rfl (by unfold vp_in; decide) dX7_which_30 ?_
      refine lv_ti (y := (sr0 0)) (by rfl) ?_
      refine lv_aload_n hx hb dX7_which_31 rfl (lv_at hl 0 rfl) ?_
      refine va_get (D := D) (ci := 7) (v := .ref (a 19)) (C := RX7) (T := TX7) (N := 12) hx hb hts inX7 hown hK hP 0 rfl rfl 2 (by decide) (hts _ tw_307) (fun _ h9 => h9) rfl dX7_which_32 ?_
      refine lv_iload_n hx hb dX7_which_35 rfl (lv_at hl 1 rfl) ?_
      refine va_aldq hx hb hK hP 2 4 rfl rfl (by unfold vp_in; decide) dX7_which_36 ?_
      refine lv_tr (y := .ref (a 20)) rfl ?_
      refine va_get (D := D) (ci := 0) (v := .ref (a 22)) (C := RX0) (T := TX0) (N := 5) hx hb hts inX0 hown hK hP 18 rfl rfl 2 (by decide) (hts _ tw_269) (fun _ h9 => h9) rfl dX7_which_37 ?_
      refine lv_iconst (v := 0) hx hb dX7_which_40 (by decide) ?_
      refine va_iald hx hb hK hP 20 1 rfl rfl (by unfold vp_in; decide) dX7_which_41 ?_
      refine lv_ti (y := (sr0 0)) (by rfl) ?_
      refine lv_icmp_ge (tgt := 49) hx hb dX7_which_42 (by decide) (fun c_3 => ?_) (fun c_3 => ?_)
      · refine lv_iload_n hx hb dX7_which_49 rfl (lv_at hl 1 rfl) ?_
        exact W.iret (v := 0) hx hb hr (fun t ht hW => ⟨⟨0, (), rfl, wc_at (s := 0) (t := 0) (by omega) (by omega) (show 0 < n0 by omega) (show 0 < n0 by omega) (by show _ = if wayS (sdX n0 see0 tm0 g0 ff0 fp0) 0 < wayS (sdX n0 see0 tm0 g0 ff0 fp0) 0 then nI 0 else nI 0; rw [if_neg (show ¬ wayS (sdX n0 see0 tm0 g0 ff0 fp0) 0 < wayS (sdX n0 see0 tm0 g0 ff0 fp0) 0 by rw [← (show sr0 0 = wayS (sdX n0 see0 tm0 g0 ff0 fp0) 0 from ((hwy 0 (by omega) (show 0 < n0 by omega)) 0 (Nat.zero_le _) (Nat.zero_le _)).2.1)]; exact Int32.not_lt.mpr c_3)]; rfl), trivial⟩, hS.F ht⟩) hS.2.2 dX7_which_50
      · refine lv_iload_n hx hb dX7_which_45 rfl (lv_at hl 2 rfl) ?_
        refine lv_goto (tgt := 50) hx hb dX7_which_46 (by decide) ?_
        exact W.iret (v := 0) hx hb hr (fun t ht hW => ⟨⟨0, (), rfl, wc_at (s := 0) (t := 0) (by omega) (by omega) (show 0 < n0 by omega) (show 0 < n0 by omega) (by show _ = if wayS (sdX n0 see0 tm0 g0 ff0 fp0) 0 < wayS (sdX n0 see0 tm0 g0 ff0 fp0) 0 then nI 0 else nI 0; rw [if_pos (show wayS (sdX n0 see0 tm0 g0 ff0 fp0) 0 < wayS (sdX n0 see0 tm0 g0 ff0 fp0) 0 by rw [← (show sr0 0 = wayS (sdX n0 see0 tm0 g0 ff0 fp0) 0 from ((hwy 0 (by omega) (show 0 < n0 by omega)) 0 (Nat.zero_le _) (Nat.zero_le _)).2.1)]; exact Int32.not_le.mp c_3)]; rfl), trivial⟩, hS.F ht⟩) hS.2.2 dX7_which_50
    · refine lv_if_ne (tgt := 20) hx hb dX7_which_13 (by decide) (fun _ => ?_) (fun h => absurd h (by decide))
      refine lv_aload_n hx hb dX7_which_20 rfl (lv_at hl 0 rfl) ?_
      refine va_get (D := D) (ci := 7) (v := .ref (a 19)) (C := RX7) (T := TX7) (N := 12) hx hb hts inX7 hown hK hP 0 rfl rfl 2 (by decide) (hts _ tw_307) (fun _ h9 => h9) rfl dX7_which_21 ?_
      refine lv_iload_n hx hb dX7_which_24 rfl (lv_at hl 2 rfl) ?_
      refine va_aldq hx hb hK hP 2 4 rfl rfl (by unfold vp_in; decide) dX7_which_25 ?_
      refine lv_tr (y := .ref (a 25)) rfl ?_
      refine va_get (D := D) (ci := 0) (v := .ref (a 27)) (C := RX0) (T := TX0) (N := 5) hx hb hts inX0 hown hK hP 22 rfl rfl 2 (by decide) (hts _ tw_269) (fun _ h9 => h9) rfl dX7_which_26 ?_
      refine lv_iconst (v := 0) hx hb dX7_which_29 (by decide) ?_
      refine va_iald hx hb hK hP 24 1 rfl rfl (by unfold vp_in; decide) dX7_which_30 ?_
      refine lv_ti (y := (sr1 0)) (by rfl) ?_
      refine lv_aload_n hx hb dX7_which_31 rfl (lv_at hl 0 rfl) ?_
      refine va_get (D := D) (ci := 7) (v := .ref (a 19)) (C := RX7) (T := TX7) (N := 12) hx hb hts inX7 hown hK hP 0 rfl rfl 2 (by decide) (hts _ tw_307) (fun _ h9 => h9) rfl dX7_which_32 ?_
      refine lv_iload_n hx hb dX7_which_35 rfl (lv_at hl 1 rfl) ?_
      refine va_aldq hx hb hK hP 2 4 rfl rfl (by unfold vp_in; decide) dX7_which_36 ?_
      refine lv_tr (y := .ref (a 20)) rfl ?_
      refine va_get (D := D) (ci := 0) (v := .ref (a 22)) (C := RX0) (T := TX0) (N := 5) hx hb hts inX0 hown hK hP 18 rfl rfl 2 (by decide) (hts _ tw_269) (fun _ h9 => h9) rfl dX7_which_37 ?_
      refine lv_iconst (v := 0) hx hb dX7_which_40 (by decide) ?_
      refine va_iald hx hb hK hP 20 1 rfl rfl (by unfold vp_in; decide) dX7_which_41 ?_
      refine lv_ti (y := (sr0 0)) (by rfl) ?_
      refine lv_icmp_ge (tgt := 49) hx hb dX7_which_42 (by decide) (fun c_4 => ?_) (fun c_4 => ?_)
      · refine lv_iload_n hx hb dX7_which_49 rfl (lv_at hl 1 rfl) ?_
        exact W.iret (v := 0) hx hb hr (fun t ht hW => ⟨⟨0, (), rfl, wc_at (s := 0) (t := 1) (by omega) (by omega) (show 0 < n0 by omega) (show 0 < n1 by omega) (by show _ = if wayS (sdX n1 see1 tm1 g1 ff1 fp1) 0 < wayS (sdX n0 see0 tm0 g0 ff0 fp0) 0 then nI 1 else nI 0; rw [if_neg (show ¬ wayS (sdX n1 see1 tm1 g1 ff1 fp1) 0 < wayS (sdX n0 see0 tm0 g0 ff0 fp0) 0 by rw [← (show sr1 0 = wayS (sdX n1 see1 tm1 g1 ff1 fp1) 0 from ((hwy 1 (by omega) (show 0 < n1 by omega)) 0 (Nat.zero_le _) (Nat.zero_le _)).2.1), ← (show sr0 0 = wayS (sdX n0 see0 tm0 g0 ff0 fp0) 0 from ((hwy 0 (by omega) (show 0 < n0 by omega)) 0 (Nat.zero_le _) (Nat.zero_le _)).2.1)]; exact Int32.not_lt.mpr c_4)]; rfl), trivial⟩, hS.F ht⟩) hS.2.2 dX7_which_50
      · refine lv_iload_n hx hb dX7_which_45 rfl (lv_at hl 2 rfl) ?_
        refine lv_goto (tgt := 50) hx hb dX7_which_46 (by decide) ?_
        exact W.iret (v := 1) hx hb hr (fun t ht hW => ⟨⟨1, (), rfl, wc_at (s := 0) (t := 1) (by omega) (by omega) (show 0 < n0 by omega) (show 0 < n1 by omega) (by show _ = if wayS (sdX n1 see1 tm1 g1 ff1 fp1) 0 < wayS (sdX n0 see0 tm0 g0 ff0 fp0) 0 then nI 1 else nI 0; rw [if_pos (show wayS (sdX n1 see1 tm1 g1 ff1 fp1) 0 < wayS (sdX n0 see0 tm0 g0 ff0 fp0) 0 by rw [← (show sr1 0 = wayS (sdX n1 see1 tm1 g1 ff1 fp1) 0 from ((hwy 1 (by omega) (show 0 < n1 by omega)) 0 (Nat.zero_le _) (Nat.zero_le _)).2.1), ← (show sr0 0 = wayS (sdX n0 see0 tm0 g0 ff0 fp0) 0 from ((hwy 0 (by omega) (show 0 < n0 by omega)) 0 (Nat.zero_le _) (Nat.zero_le _)).2.1)]; exact Int32.not_le.mp c_4)]; rfl), trivial⟩, hS.F ht⟩) hS.2.2 dX7_which_50
    · refine lv_if_ne (tgt := 20) hx hb dX7_which_13 (by decide) (fun _ => ?_) (fun h => absurd h (by decide))
      refine lv_aload_n hx hb dX7_which_20 rfl (lv_at hl 0 rfl) ?_
      refine va_get (D := D) (ci := 7) (v := .ref (a 19)) (C := RX7) (T := TX7) (N := 12) hx hb hts inX7 hown hK hP 0 rfl rfl 2 (by decide) (hts _ tw_307) (fun _ h9 => h9) rfl dX7_which_21 ?_
      refine lv_iload_n hx hb dX7_which_24 rfl (lv_at hl 2 rfl) ?_
      refine va_aldq hx hb hK hP 2 4 rfl rfl (by unfold vp_in; decide) dX7_which_25 ?_
      refine lv_tr (y := .ref (a 30)) rfl ?_
      refine va_get (D := D) (ci := 0) (v := .ref (a 32)) (C := RX0) (T := TX0) (N := 5) hx hb hts inX0 hown hK hP 26 rfl rfl 2 (by decide) (hts _ tw_269) (fun _ h9 => h9) rfl dX7_which_26 ?_
      refine lv_iconst (v := 0) hx hb dX7_which_29 (by decide) ?_
      refine va_iald hx hb hK hP 28 1 rfl rfl (by unfold vp_in; decide) dX7_which_30 ?_
      refine lv_ti (y := (sr2 0)) (by rfl) ?_
      refine lv_aload_n hx hb dX7_which_31 rfl (lv_at hl 0 rfl) ?_
      refine va_get (D := D) (ci := 7) (v := .ref (a 19)) (C := RX7) (T := TX7) (N := 12) hx hb hts inX7 hown hK hP 0 rfl rfl 2 (by decide) (hts _ tw_307) (fun _ h9 => h9) rfl dX7_which_32 ?_
      refine lv_iload_n hx hb dX7_which_35 rfl (lv_at hl 1 rfl) ?_
      refine va_aldq hx hb hK hP 2 4 rfl rfl (by unfold vp_in; decide) dX7_which_36 ?_
      refine lv_tr (y := .ref (a 20)) rfl ?_
      refine va_get (D := D) (ci := 0) (v := .ref (a 22)) (C := RX0) (T := TX0) (N := 5) hx hb hts inX0 hown hK hP 18 rfl rfl 2 (by decide) (hts _ tw_269) (fun _ h9 => h9) rfl dX7_which_37 ?_
      refine lv_iconst (v := 0) hx hb dX7_which_40 (by decide) ?_
      refine va_iald hx hb hK hP 20 1 rfl rfl (by unfold vp_in; decide) dX7_which_41 ?_
      refine lv_ti (y := (sr0 0)) (by rfl) ?_
      refine lv_icmp_ge (tgt := 49) hx hb dX7_which_42 (by decide) (fun c_5 => ?_) (fun c_5 => ?_)
      · refine lv_iload_n hx hb dX7_which_49 rfl (lv_at hl 1 rfl) ?_
        exact W.iret (v := 0) hx hb hr (fun t ht hW => ⟨⟨0, (), rfl, wc_at (s := 0) (t := 2) (by omega) (by omega) (show 0 < n0 by omega) (show 0 < n2 by omega) (by show _ = if wayS (sdX n2 see2 tm2 g2 ff2 fp2) 0 < wayS (sdX n0 see0 tm0 g0 ff0 fp0) 0 then nI 2 else nI 0; rw [if_neg (show ¬ wayS (sdX n2 see2 tm2 g2 ff2 fp2) 0 < wayS (sdX n0 see0 tm0 g0 ff0 fp0) 0 by rw [← (show sr2 0 = wayS (sdX n2 see2 tm2 g2 ff2 fp2) 0 from ((hwy 2 (by omega) (show 0 < n2 by omega)) 0 (Nat.zero_le _) (Nat.zero_le _)).2.1), ← (show sr0 0 = wayS (sdX n0 see0 tm0 g0 ff0 fp0) 0 from ((hwy 0 (by omega) (show 0 < n0 by omega)) 0 (Nat.zero_le _) (Nat.zero_le _)).2.1)]; exact Int32.not_lt.mpr c_5)]; rfl), trivial⟩, hS.F ht⟩) hS.2.2 dX7_which_50
      · refine lv_iload_n hx hb dX7_which_45 rfl (lv_at hl 2 rfl) ?_
        refine lv_goto (tgt := 50) hx hb dX7_which_46 (by decide) ?_
        exact W.iret (v := 2) hx hb hr (fun t ht hW => ⟨⟨2, (), rfl, wc_at (s := 0) (t := 2) (by omega) (by omega) (show 0 < n0 by omega) (show 0 < n2 by omega) (by show _ = if wayS (sdX n2 see2 tm2 g2 ff2 fp2) 0 < wayS (sdX n0 see0 tm0 g0 ff0 fp0) 0 then nI 2 else nI 0; rw [if_pos (show wayS (sdX n2 see2 tm2 g2 ff2 fp2) 0 < wayS (sdX n0 see0 tm0 g0 ff0 fp0) 0 by rw [← (show sr2 0 = wayS (sdX n2 see2 tm2 g2 ff2 fp2) 0 from ((hwy 2 (by omega) (show 0 < n2 by omega)) 0 (Nat.zero_le _) (Nat.zero_le _)).2.1), ← (show sr0 0 = wayS (sdX n0 see0 tm0 g0 ff0 fp0) 0 from ((hwy 0 (by omega) (show 0 < n0 by omega)) 0 (Nat.zero_le _) (Nat.zero_le _)).2.1)]; exact Int32.not_le.mp c_5)]; rfl), trivial⟩, hS.F ht⟩) hS.2.2 dX7_which_50
    · refine lv_if_ne (tgt := 20) hx hb dX7_which_13 (by decide) (fun h => absurd (by decide) h) (fun _ => ?_)
      refine lv_sipush (v := (-1001)) hx hb dX7_which_16 (by decide) ?_
      exact W.iret (v := (-1001)) hx hb hr (fun t ht hW => ⟨⟨(-1001), (), rfl, wc_no1 (fun s h1 h2 h3 => hw_2 s h1 h2 (by rw [d3_n] at h3; exact h3)), trivial⟩, hS.F ht⟩) hS.2.2 dX7_which_19
  · refine lv_if_eq (tgt := 16) hx hb dX7_which_5 (by decide) (fun h => absurd h (by decide)) (fun _ => ?_)
    refine lv_aload_n hx hb dX7_which_8 rfl (lv_at hl 0 rfl) ?_
    refine lv_iload_n hx hb dX7_which_9 rfl (lv_at hl 2 rfl) ?_
    refine ro_i (D := D) (va_runV (As := [.int p1]) (rest := []) ⟨hx, hb, hml, hown, hts⟩ ((y_isStreet l D k st lo a rk lfa n0 see0 tm0 g0 n1 see1 tm1 g1 n2 see2 tm2 g2 p1 (by first | assumption | omega) (by first | assumption | omega) (by first | assumption | omega)) H.size) (cwV 1 hts (gV tw_589 tw_591 tw_8 tw_79 tw_592) rfl rfl rfl (by decide +kernel) ⟨Nat.le_of_ble_eq_true rfl, Nat.le_of_ble_eq_true rfl⟩) (pV hS hAlo hlo hP hK hDL hZ [0, 1, 3, 4, 8, 9, 13, 14] (by decide) rfl (ci := 7) (q := (RX7, TX7, 12)) (q0 := 0) rfl rfl) rfl rfl hl.1 rfl (lv_room (Nat.le_of_ble_eq_true rfl)) dX7_which_10 ⟨Nat.le_of_ble_eq_true rfl, Nat.le_of_ble_eq_true rfl⟩) hS hA hP (fun r_6 H locs hw_6 hP hS => ?_)
    try dsimp only at hw_6
    rcases hw_6 with ⟨rfl, ⟨rfl, hw_6⟩ | ⟨rfl, hw_6⟩ | ⟨rfl, hw_6⟩⟩ | ⟨rfl, hw_6⟩
    · refine lv_if_ne (tgt := 20) hx hb dX7_which_13 (by decide) (fun _ => ?_) (fun h => absurd h (by decide))
      refine lv_aload_n hx hb dX7_which_20 rfl (lv_at hl 0 rfl) ?_
      refine va_get (D := D) (ci := 7) (v := .ref (a 19)) (C := RX7) (T := TX7) (N := 12) hx hb hts inX7 hown hK hP 0 rfl rfl 2 (by decide) (hts _ tw_307) (fun _ h9 => h9) rfl dX7_which_21 ?_
      refine lv_iload_n hx hb dX7_which_24 rfl (lv_at hl 2 rfl) ?_
      refine va_aldq hx hb hK hP 2 4 rfl rfl (by unfold vp_in; decide) dX7_which_25 ?_
      refine lv_tr (y := .ref (a 20)) rfl ?_
      refine va_get (D := D) (ci := 0) (v := .ref (a 22)) (C := RX0) (T := TX0) (N := 5) hx hb hts inX0 hown hK hP 18 rfl rfl 2 (by decide) (hts _ tw_269) (fun _ h9 => h9) rfl dX7_which_26 ?_
      refine lv_iconst (v := 0) hx hb dX7_which_29 (by decide) ?_
      refine va_iald hx hb hK hP 20 1 rfl rfl (by unfold vp_in; decide) dX7_which_30 ?_
      refine lv_ti (y := (sr0 0)) (by rfl) ?_
      refine lv_aload_n hx hb dX7_which_31 rfl (lv_at hl 0 rfl) ?_
      refine va_get (D := D) (ci := 7) (v := .ref (a 19)) (C := RX7) (T := TX7) (N := 12) hx hb hts inX7 hown hK hP 0 rfl rfl 2 (by decide) (hts _ tw_307) (fun _ h9 => h9) rfl dX7_which_32 ?_
      refine lv_iload_n hx hb dX7_which_35 rfl (lv_at hl 1 rfl) ?_
      refine va_aldq hx hb hK hP 2 4 rfl rfl (by unfold vp_in; decide) dX7_which_36 ?_
      refine lv_tr (y := .ref (a 25)) rfl ?_
      refine va_get (D := D) (ci := 0) (v := .ref (a 27)) (C := RX0) (T := TX0) (N := 5) hx hb hts inX0 hown hK hP 22 rfl rfl 2 (by decide) (hts _ tw_269) (fun _ h9 => h9) rfl dX7_which_37 ?_
      refine lv_iconst (v := 0) hx hb dX7_which_40 (by decide) ?_
      refine va_iald hx hb hK hP 24 1 rfl rfl (by unfold vp_in; decide) dX7_which_41 ?_
      refine lv_ti (y := (sr1 0)) (by rfl) ?_
      refine lv_icmp_ge (tgt := 49) hx hb dX7_which_42 (by decide) (fun c_7 => ?_) (fun c_7 => ?_)
      · refine lv_iload_n hx hb dX7_which_49 rfl (lv_at hl 1 rfl) ?_
        exact W.iret (v := 1) hx hb hr (fun t ht hW => ⟨⟨1, (), rfl, wc_at (s := 1) (t := 0) (by omega) (by omega) (show 0 < n1 by omega) (show 0 < n0 by omega) (by show _ = if wayS (sdX n0 see0 tm0 g0 ff0 fp0) 0 < wayS (sdX n1 see1 tm1 g1 ff1 fp1) 0 then nI 0 else nI 1; rw [if_neg (show ¬ wayS (sdX n0 see0 tm0 g0 ff0 fp0) 0 < wayS (sdX n1 see1 tm1 g1 ff1 fp1) 0 by rw [← (show sr0 0 = wayS (sdX n0 see0 tm0 g0 ff0 fp0) 0 from ((hwy 0 (by omega) (show 0 < n0 by omega)) 0 (Nat.zero_le _) (Nat.zero_le _)).2.1), ← (show sr1 0 = wayS (sdX n1 see1 tm1 g1 ff1 fp1) 0 from ((hwy 1 (by omega) (show 0 < n1 by omega)) 0 (Nat.zero_le _) (Nat.zero_le _)).2.1)]; exact Int32.not_lt.mpr c_7)]; rfl), trivial⟩, hS.F ht⟩) hS.2.2 dX7_which_50
      · refine lv_iload_n hx hb dX7_which_45 rfl (lv_at hl 2 rfl) ?_
        refine lv_goto (tgt := 50) hx hb dX7_which_46 (by decide) ?_
        exact W.iret (v := 0) hx hb hr (fun t ht hW => ⟨⟨0, (), rfl, wc_at (s := 1) (t := 0) (by omega) (by omega) (show 0 < n1 by omega) (show 0 < n0 by omega) (by show _ = if wayS (sdX n0 see0 tm0 g0 ff0 fp0) 0 < wayS (sdX n1 see1 tm1 g1 ff1 fp1) 0 then nI 0 else nI 1; rw [if_pos (show wayS (sdX n0 see0 tm0 g0 ff0 fp0) 0 < wayS (sdX n1 see1 tm1 g1 ff1 fp1) 0 by rw [← (show sr0 0 = wayS (sdX n0 see0 tm0 g0 ff0 fp0) 0 from ((hwy 0 (by omega) (show 0 < n0 by omega)) 0 (Nat.zero_le _) (Nat.zero_le _)).2.1), ← (show sr1 0 = wayS (sdX n1 see1 tm1 g1 ff1 fp1) 0 from ((hwy 1 (by omega) (show 0 < n1 by omega)) 0 (Nat.zero_le _) (Nat.zero_le _)).2.1)]; exact Int32.not_le.mp c_7)]; rfl), trivial⟩, hS.F ht⟩) hS.2.2 dX7_which_50
    · refine lv_if_ne (tgt := 20) hx hb dX7_which_13 (by decide) (fun _ => ?_) (fun h => absurd h (by decide))
      refine lv_aload_n hx hb dX7_which_20 rfl (lv_at hl 0 rfl) ?_
      refine va_get (D := D) (ci := 7) (v := .ref (a 19)) (C := RX7) (T := TX7) (N := 12) hx hb hts inX7 hown hK hP 0 rfl rfl 2 (by decide) (hts _ tw_307) (fun _ h9 => h9) rfl dX7_which_21 ?_
      refine lv_iload_n hx hb dX7_which_24 rfl (lv_at hl 2 rfl) ?_
      refine va_aldq hx hb hK hP 2 4 rfl rfl (by unfold vp_in; decide) dX7_which_25 ?_
      refine lv_tr (y := .ref (a 25)) rfl ?_
      refine va_get (D := D) (ci := 0) (v := .ref (a 27)) (C := RX0) (T := TX0) (N := 5) hx hb hts inX0 hown hK hP 22 rfl rfl 2 (by decide) (hts _ tw_269) (fun _ h9 => h9) rfl dX7_which_26 ?_
      refine lv_iconst (v := 0) hx hb dX7_which_29 (by decide) ?_
      refine va_iald hx hb hK hP 24 1 rfl rfl (by unfold vp_in; decide) dX7_which_30 ?_
      refine lv_ti (y := (sr1 0)) (by rfl) ?_
      refine lv_aload_n hx hb dX7_which_31 rfl (lv_at hl 0 rfl) ?_
      refine va_get (D := D) (ci := 7) (v := .ref (a 19)) (C := RX7) (T := TX7) (N := 12) hx hb hts inX7 hown hK hP 0 rfl rfl 2 (by decide) (hts _ tw_307) (fun _ h9 => h9) rfl dX7_which_32 ?_
      refine lv_iload_n hx hb dX7_which_35 rfl (lv_at hl 1 rfl) ?_
      refine va_aldq hx hb hK hP 2 4 rfl rfl (by unfold vp_in; decide) dX7_which_36 ?_
      refine lv_tr (y := .ref (a 25)) rfl ?_
      refine va_get (D := D) (ci := 0) (v := .ref (a 27)) (C := RX0) (T := TX0) (N := 5) hx hb hts inX0 hown hK hP 22 rfl rfl 2 (by decide) (hts _ tw_269) (fun _ h9 => h9) rfl dX7_which_37 ?_
      refine lv_iconst (v := 0) hx hb dX7_which_40 (by decide) ?_
      refine va_iald hx hb hK hP 24 1 rfl rfl (by unfold vp_in; decide) dX7_which_41 ?_
      refine lv_ti (y := (sr1 0)) (by rfl) ?_
      refine lv_icmp_ge (tgt := 49) hx hb dX7_which_42 (by decide) (fun c_8 => ?_) (fun c_8 => ?_)
      · refine lv_iload_n hx hb dX7_which_49 rfl (lv_at hl 1 rfl) ?_
        exact W.iret (v := 1) hx hb hr (fun t ht hW => ⟨⟨1, (), rfl, wc_at (s := 1) (t := 1) (by omega) (by omega) (show 0 < n1 by omega) (show 0 < n1 by omega) (by show _ = if wayS (sdX n1 see1 tm1 g1 ff1 fp1) 0 < wayS (sdX n1 see1 tm1 g1 ff1 fp1) 0 then nI 1 else nI 1; rw [if_neg (show ¬ wayS (sdX n1 see1 tm1 g1 ff1 fp1) 0 < wayS (sdX n1 see1 tm1 g1 ff1 fp1) 0 by rw [← (show sr1 0 = wayS (sdX n1 see1 tm1 g1 ff1 fp1) 0 from ((hwy 1 (by omega) (show 0 < n1 by omega)) 0 (Nat.zero_le _) (Nat.zero_le _)).2.1)]; exact Int32.not_lt.mpr c_8)]; rfl), trivial⟩, hS.F ht⟩) hS.2.2 dX7_which_50
      · refine lv_iload_n hx hb dX7_which_45 rfl (lv_at hl 2 rfl) ?_
        refine lv_goto (tgt := 50) hx hb dX7_which_46 (by decide) ?_
        exact W.iret (v := 1) hx hb hr (fun t ht hW => ⟨⟨1, (), rfl, wc_at (s := 1) (t := 1) (by omega) (by omega) (show 0 < n1 by omega) (show 0 < n1 by omega) (by show _ = if wayS (sdX n1 see1 tm1 g1 ff1 fp1) 0 < wayS (sdX n1 see1 tm1 g1 ff1 fp1) 0 then nI 1 else nI 1; rw [if_pos (show wayS (sdX n1 see1 tm1 g1 ff1 fp1) 0 < wayS (sdX n1 see1 tm1 g1 ff1 fp1) 0 by rw [← (show sr1 0 = wayS (sdX n1 see1 tm1 g1 ff1 fp1) 0 from ((hwy 1 (by omega) (show 0 < n1 by omega)) 0 (Nat.zero_le _) (Nat.zero_le _)).2.1)]; exact Int32.not_le.mp c_8)]; rfl), trivial⟩, hS.F ht⟩) hS.2.2 dX7_which_50
    · refine lv_if_ne (tgt := 20) hx hb dX7_which_13 (by decide) (fun _ => ?_) (fun h => absurd h (by decide))
      refine lv_aload_n hx hb dX7_which_20 rfl (lv_at hl 0 rfl) ?_
      refine va_get (D := D) (ci := 7) (v := .ref (a 19)) (C := RX7) (T := TX7) (N := 12) hx hb hts inX7 hown hK hP 0 rfl rfl 2 (by decide) (hts _ tw_307) (fun _ h9 => h9) rfl dX7_which_21 ?_
      refine lv_iload_n hx hb dX7_which_24 rfl (lv_at hl 2 rfl) ?_
      refine va_aldq hx hb hK hP 2 4 rfl rfl (by unfold vp_in; decide) dX7_which_25 ?_
      refine lv_tr (y := .ref (a 30)) rfl ?_
      refine va_get (D := D) (ci := 0) (v := .ref (a 32)) (C := RX0) (T := TX0) (N := 5) hx hb hts inX0 hown hK hP 26 rfl rfl 2 (by decide) (hts _ tw_269) (fun _ h9 => h9) rfl dX7_which_26 ?_
      refine lv_iconst (v := 0) hx hb dX7_which_29 (by decide) ?_
      refine va_iald hx hb hK hP 28 1 rfl rfl (by unfold vp_in; decide) dX7_which_30 ?_
      refine lv_ti (y := (sr2 0)) (by rfl) ?_
      refine lv_aload_n hx hb dX7_which_31 rfl (lv_at hl 0 rfl) ?_
      refine va_get (D := D) (ci := 7) (v := .ref (a 19)) (C := RX7) (T := TX7) (N := 12) hx hb hts inX7 hown hK hP 0 rfl rfl 2 (by decide) (hts _ tw_307) (fun _ h9 => h9) rfl dX7_which_32 ?_
      refine lv_iload_n hx hb dX7_which_35 rfl (lv_at hl 1 rfl) ?_
      refine va_aldq hx hb hK hP 2 4 rfl rfl (by unfold vp_in; decide) dX7_which_36 ?_
      refine lv_tr (y := .ref (a 25)) rfl ?_
      refine va_get (D := D) (ci := 0) (v := .ref (a 27)) (C := RX0) (T := TX0) (N := 5) hx hb hts inX0 hown hK hP 22 rfl rfl 2 (by decide) (hts _ tw_269) (fun _ h9 => h9) rfl dX7_which_37 ?_
      refine lv_iconst (v := 0) hx hb dX7_which_40 (by decide) ?_
      refine va_iald hx hb hK hP 24 1 rfl rfl (by unfold vp_in; decide) dX7_which_41 ?_
      refine lv_ti (y := (sr1 0)) (by rfl) ?_
      refine lv_icmp_ge (tgt := 49) hx hb dX7_which_42 (by decide) (fun c_9 => ?_) (fun c_9 => ?_)
      · refine lv_iload_n hx hb dX7_which_49 rfl (lv_at hl 1 rfl) ?_
        exact W.iret (v := 1) hx hb hr (fun t ht hW => ⟨⟨1, (), rfl, wc_at (s := 1) (t := 2) (by omega) (by omega) (show 0 < n1 by omega) (show 0 < n2 by omega) (by show _ = if wayS (sdX n2 see2 tm2 g2 ff2 fp2) 0 < wayS (sdX n1 see1 tm1 g1 ff1 fp1) 0 then nI 2 else nI 1; rw [if_neg (show ¬ wayS (sdX n2 see2 tm2 g2 ff2 fp2) 0 < wayS (sdX n1 see1 tm1 g1 ff1 fp1) 0 by rw [← (show sr2 0 = wayS (sdX n2 see2 tm2 g2 ff2 fp2) 0 from ((hwy 2 (by omega) (show 0 < n2 by omega)) 0 (Nat.zero_le _) (Nat.zero_le _)).2.1), ← (show sr1 0 = wayS (sdX n1 see1 tm1 g1 ff1 fp1) 0 from ((hwy 1 (by omega) (show 0 < n1 by omega)) 0 (Nat.zero_le _) (Nat.zero_le _)).2.1)]; exact Int32.not_lt.mpr c_9)]; rfl), trivial⟩, hS.F ht⟩) hS.2.2 dX7_which_50
      · refine lv_iload_n hx hb dX7_which_45 rfl (lv_at hl 2 rfl) ?_
        refine lv_goto (tgt := 50) hx hb dX7_which_46 (by decide) ?_
        exact W.iret (v := 2) hx hb hr (fun t ht hW => ⟨⟨2, (), rfl, wc_at (s := 1) (t := 2) (by omega) (by omega) (show 0 < n1 by omega) (show 0 < n2 by omega) (by show _ = if wayS (sdX n2 see2 tm2 g2 ff2 fp2) 0 < wayS (sdX n1 see1 tm1 g1 ff1 fp1) 0 then nI 2 else nI 1; rw [if_pos (show wayS (sdX n2 see2 tm2 g2 ff2 fp2) 0 < wayS (sdX n1 see1 tm1 g1 ff1 fp1) 0 by rw [← (show sr2 0 = wayS (sdX n2 see2 tm2 g2 ff2 fp2) 0 from ((hwy 2 (by omega) (show 0 < n2 by omega)) 0 (Nat.zero_le _) (Nat.zero_le _)).2.1), ← (show sr1 0 = wayS (sdX n1 see1 tm1 g1 ff1 fp1) 0 from ((hwy 1 (by omega) (show 0 < n1 by omega)) 0 (Nat.zero_le _) (Nat.zero_le _)).2.1)]; exact Int32.not_le.mp c_9)]; rfl), trivial⟩, hS.F ht⟩) hS.2.2 dX7_which_50
    · refine lv_if_ne (tgt := 20) hx hb dX7_which_13 (by decide) (fun h => absurd (by decide) h) (fun _ => ?_)
      refine lv_sipush (v := (-1001)) hx hb dX7_which_16 (by decide) ?_
      exact W.iret (v := (-1001)) hx hb hr (fun t ht hW => ⟨⟨(-1001), (), rfl, wc_no1 (fun s h1 h2 h3 => hw_6 s h1 h2 (by rw [d3_n] at h3; exact h3)), trivial⟩, hS.F ht⟩) hS.2.2 dX7_which_19
  · refine lv_if_eq (tgt := 16) hx hb dX7_which_5 (by decide) (fun h => absurd h (by decide)) (fun _ => ?_)
    refine lv_aload_n hx hb dX7_which_8 rfl (lv_at hl 0 rfl) ?_
    refine lv_iload_n hx hb dX7_which_9 rfl (lv_at hl 2 rfl) ?_
    refine ro_i (D := D) (va_runV (As := [.int p1]) (rest := []) ⟨hx, hb, hml, hown, hts⟩ ((y_isStreet l D k st lo a rk lfa n0 see0 tm0 g0 n1 see1 tm1 g1 n2 see2 tm2 g2 p1 (by first | assumption | omega) (by first | assumption | omega) (by first | assumption | omega)) H.size) (cwV 1 hts (gV tw_589 tw_591 tw_8 tw_79 tw_592) rfl rfl rfl (by decide +kernel) ⟨Nat.le_of_ble_eq_true rfl, Nat.le_of_ble_eq_true rfl⟩) (pV hS hAlo hlo hP hK hDL hZ [0, 1, 3, 4, 8, 9, 13, 14] (by decide) rfl (ci := 7) (q := (RX7, TX7, 12)) (q0 := 0) rfl rfl) rfl rfl hl.1 rfl (lv_room (Nat.le_of_ble_eq_true rfl)) dX7_which_10 ⟨Nat.le_of_ble_eq_true rfl, Nat.le_of_ble_eq_true rfl⟩) hS hA hP (fun r_10 H locs hw_10 hP hS => ?_)
    try dsimp only at hw_10
    rcases hw_10 with ⟨rfl, ⟨rfl, hw_10⟩ | ⟨rfl, hw_10⟩ | ⟨rfl, hw_10⟩⟩ | ⟨rfl, hw_10⟩
    · refine lv_if_ne (tgt := 20) hx hb dX7_which_13 (by decide) (fun _ => ?_) (fun h => absurd h (by decide))
      refine lv_aload_n hx hb dX7_which_20 rfl (lv_at hl 0 rfl) ?_
      refine va_get (D := D) (ci := 7) (v := .ref (a 19)) (C := RX7) (T := TX7) (N := 12) hx hb hts inX7 hown hK hP 0 rfl rfl 2 (by decide) (hts _ tw_307) (fun _ h9 => h9) rfl dX7_which_21 ?_
      refine lv_iload_n hx hb dX7_which_24 rfl (lv_at hl 2 rfl) ?_
      refine va_aldq hx hb hK hP 2 4 rfl rfl (by unfold vp_in; decide) dX7_which_25 ?_
      refine lv_tr (y := .ref (a 20)) rfl ?_
      refine va_get (D := D) (ci := 0) (v := .ref (a 22)) (C := RX0) (T := TX0) (N := 5) hx hb hts inX0 hown hK hP 18 rfl rfl 2 (by decide) (hts _ tw_269) (fun _ h9 => h9) rfl dX7_which_26 ?_
      refine lv_iconst (v := 0) hx hb dX7_which_29 (by decide) ?_
      refine va_iald hx hb hK hP 20 1 rfl rfl (by unfold vp_in; decide) dX7_which_30 ?_
      refine lv_ti (y := (sr0 0)) (by rfl) ?_
      refine lv_aload_n hx hb dX7_which_31 rfl (lv_at hl 0 rfl) ?_
      refine va_get (D := D) (ci := 7) (v := .ref (a 19)) (C := RX7) (T := TX7) (N := 12) hx hb hts inX7 hown hK hP 0 rfl rfl 2 (by decide) (hts _ tw_307) (fun _ h9 => h9) rfl dX7_which_32 ?_
      refine lv_iload_n hx hb dX7_which_35 rfl (lv_at hl 1 rfl) ?_
      refine va_aldq hx hb hK hP 2 4 rfl rfl (by unfold vp_in; decide) dX7_which_36 ?_
      refine lv_tr (y := .ref (a 30)) rfl ?_
      refine va_get (D := D) (ci := 0) (v := .ref (a 32)) (C := RX0) (T := TX0) (N := 5) hx hb hts inX0 hown hK hP 26 rfl rfl 2 (by decide) (hts _ tw_269) (fun _ h9 => h9) rfl dX7_which_37 ?_
      refine lv_iconst (v := 0) hx hb dX7_which_40 (by decide) ?_
      refine va_iald hx hb hK hP 28 1 rfl rfl (by unfold vp_in; decide) dX7_which_41 ?_
      refine lv_ti (y := (sr2 0)) (by rfl) ?_
      refine lv_icmp_ge (tgt := 49) hx hb dX7_which_42 (by decide) (fun c_11 => ?_) (fun c_11 => ?_)
      · refine lv_iload_n hx hb dX7_which_49 rfl (lv_at hl 1 rfl) ?_
        exact W.iret (v := 2) hx hb hr (fun t ht hW => ⟨⟨2, (), rfl, wc_at (s := 2) (t := 0) (by omega) (by omega) (show 0 < n2 by omega) (show 0 < n0 by omega) (by show _ = if wayS (sdX n0 see0 tm0 g0 ff0 fp0) 0 < wayS (sdX n2 see2 tm2 g2 ff2 fp2) 0 then nI 0 else nI 2; rw [if_neg (show ¬ wayS (sdX n0 see0 tm0 g0 ff0 fp0) 0 < wayS (sdX n2 see2 tm2 g2 ff2 fp2) 0 by rw [← (show sr0 0 = wayS (sdX n0 see0 tm0 g0 ff0 fp0) 0 from ((hwy 0 (by omega) (show 0 < n0 by omega)) 0 (Nat.zero_le _) (Nat.zero_le _)).2.1), ← (show sr2 0 = wayS (sdX n2 see2 tm2 g2 ff2 fp2) 0 from ((hwy 2 (by omega) (show 0 < n2 by omega)) 0 (Nat.zero_le _) (Nat.zero_le _)).2.1)]; exact Int32.not_lt.mpr c_11)]; rfl), trivial⟩, hS.F ht⟩) hS.2.2 dX7_which_50
      · refine lv_iload_n hx hb dX7_which_45 rfl (lv_at hl 2 rfl) ?_
        refine lv_goto (tgt := 50) hx hb dX7_which_46 (by decide) ?_
        exact W.iret (v := 0) hx hb hr (fun t ht hW => ⟨⟨0, (), rfl, wc_at (s := 2) (t := 0) (by omega) (by omega) (show 0 < n2 by omega) (show 0 < n0 by omega) (by show _ = if wayS (sdX n0 see0 tm0 g0 ff0 fp0) 0 < wayS (sdX n2 see2 tm2 g2 ff2 fp2) 0 then nI 0 else nI 2; rw [if_pos (show wayS (sdX n0 see0 tm0 g0 ff0 fp0) 0 < wayS (sdX n2 see2 tm2 g2 ff2 fp2) 0 by rw [← (show sr0 0 = wayS (sdX n0 see0 tm0 g0 ff0 fp0) 0 from ((hwy 0 (by omega) (show 0 < n0 by omega)) 0 (Nat.zero_le _) (Nat.zero_le _)).2.1), ← (show sr2 0 = wayS (sdX n2 see2 tm2 g2 ff2 fp2) 0 from ((hwy 2 (by omega) (show 0 < n2 by omega)) 0 (Nat.zero_le _) (Nat.zero_le _)).2.1)]; exact Int32.not_le.mp c_11)]; rfl), trivial⟩, hS.F ht⟩) hS.2.2 dX7_which_50
    · refine lv_if_ne (tgt := 20) hx hb dX7_which_13 (by decide) (fun _ => ?_) (fun h => absurd h (by decide))
      refine lv_aload_n hx hb dX7_which_20 rfl (lv_at hl 0 rfl) ?_
      refine va_get (D := D) (ci := 7) (v := .ref (a 19)) (C := RX7) (T := TX7) (N := 12) hx hb hts inX7 hown hK hP 0 rfl rfl 2 (by decide) (hts _ tw_307) (fun _ h9 => h9) rfl dX7_which_21 ?_
      refine lv_iload_n hx hb dX7_which_24 rfl (lv_at hl 2 rfl) ?_
      refine va_aldq hx hb hK hP 2 4 rfl rfl (by unfold vp_in; decide) dX7_which_25 ?_
      refine lv_tr (y := .ref (a 25)) rfl ?_
      refine va_get (D := D) (ci := 0) (v := .ref (a 27)) (C := RX0) (T := TX0) (N := 5) hx hb hts inX0 hown hK hP 22 rfl rfl 2 (by decide) (hts _ tw_269) (fun _ h9 => h9) rfl dX7_which_26 ?_
      refine lv_iconst (v := 0) hx hb dX7_which_29 (by decide) ?_
      refine va_iald hx hb hK hP 24 1 rfl rfl (by unfold vp_in; decide) dX7_which_30 ?_
      refine lv_ti (y := (sr1 0)) (by rfl) ?_
      refine lv_aload_n hx hb dX7_which_31 rfl (lv_at hl 0 rfl) ?_
      refine va_get (D := D) (ci := 7) (v := .ref (a 19)) (C := RX7) (T := TX7) (N := 12) hx hb hts inX7 hown hK hP 0 rfl rfl 2 (by decide) (hts _ tw_307) (fun _ h9 => h9) rfl dX7_which_32 ?_
      refine lv_iload_n hx hb dX7_which_35 rfl (lv_at hl 1 rfl) ?_
      refine va_aldq hx hb hK hP 2 4 rfl rfl (by unfold vp_in; decide) dX7_which_36 ?_
      refine lv_tr (y := .ref (a 30)) rfl ?_
      refine va_get (D := D) (ci := 0) (v := .ref (a 32)) (C := RX0) (T := TX0) (N := 5) hx hb hts inX0 hown hK hP 26 rfl rfl 2 (by decide) (hts _ tw_269) (fun _ h9 => h9) rfl dX7_which_37 ?_
      refine lv_iconst (v := 0) hx hb dX7_which_40 (by decide) ?_
      refine va_iald hx hb hK hP 28 1 rfl rfl (by unfold vp_in; decide) dX7_which_41 ?_
      refine lv_ti (y := (sr2 0)) (by rfl) ?_
      refine lv_icmp_ge (tgt := 49) hx hb dX7_which_42 (by decide) (fun c_12 => ?_) (fun c_12 => ?_)
      · refine lv_iload_n hx hb dX7_which_49 rfl (lv_at hl 1 rfl) ?_
        exact W.iret (v := 2) hx hb hr (fun t ht hW => ⟨⟨2, (), rfl, wc_at (s := 2) (t := 1) (by omega) (by omega) (show 0 < n2 by omega) (show 0 < n1 by omega) (by show _ = if wayS (sdX n1 see1 tm1 g1 ff1 fp1) 0 < wayS (sdX n2 see2 tm2 g2 ff2 fp2) 0 then nI 1 else nI 2; rw [if_neg (show ¬ wayS (sdX n1 see1 tm1 g1 ff1 fp1) 0 < wayS (sdX n2 see2 tm2 g2 ff2 fp2) 0 by rw [← (show sr1 0 = wayS (sdX n1 see1 tm1 g1 ff1 fp1) 0 from ((hwy 1 (by omega) (show 0 < n1 by omega)) 0 (Nat.zero_le _) (Nat.zero_le _)).2.1), ← (show sr2 0 = wayS (sdX n2 see2 tm2 g2 ff2 fp2) 0 from ((hwy 2 (by omega) (show 0 < n2 by omega)) 0 (Nat.zero_le _) (Nat.zero_le _)).2.1)]; exact Int32.not_lt.mpr c_12)]; rfl), trivial⟩, hS.F ht⟩) hS.2.2 dX7_which_50
      · refine lv_iload_n hx hb dX7_which_45 rfl (lv_at hl 2 rfl) ?_
        refine lv_goto (tgt := 50) hx hb dX7_which_46 (by decide) ?_
        exact W.iret (v := 1) hx hb hr (fun t ht hW => ⟨⟨1, (), rfl, wc_at (s := 2) (t := 1) (by omega) (by omega) (show 0 < n2 by omega) (show 0 < n1 by omega) (by show _ = if wayS (sdX n1 see1 tm1 g1 ff1 fp1) 0 < wayS (sdX n2 see2 tm2 g2 ff2 fp2) 0 then nI 1 else nI 2; rw [if_pos (show wayS (sdX n1 see1 tm1 g1 ff1 fp1) 0 < wayS (sdX n2 see2 tm2 g2 ff2 fp2) 0 by rw [← (show sr1 0 = wayS (sdX n1 see1 tm1 g1 ff1 fp1) 0 from ((hwy 1 (by omega) (show 0 < n1 by omega)) 0 (Nat.zero_le _) (Nat.zero_le _)).2.1), ← (show sr2 0 = wayS (sdX n2 see2 tm2 g2 ff2 fp2) 0 from ((hwy 2 (by omega) (show 0 < n2 by omega)) 0 (Nat.zero_le _) (Nat.zero_le _)).2.1)]; exact Int32.not_le.mp c_12)]; rfl), trivial⟩, hS.F ht⟩) hS.2.2 dX7_which_50
    · refine lv_if_ne (tgt := 20) hx hb dX7_which_13 (by decide) (fun _ => ?_) (fun h => absurd h (by decide))
      refine lv_aload_n hx hb dX7_which_20 rfl (lv_at hl 0 rfl) ?_
      refine va_get (D := D) (ci := 7) (v := .ref (a 19)) (C := RX7) (T := TX7) (N := 12) hx hb hts inX7 hown hK hP 0 rfl rfl 2 (by decide) (hts _ tw_307) (fun _ h9 => h9) rfl dX7_which_21 ?_
      refine lv_iload_n hx hb dX7_which_24 rfl (lv_at hl 2 rfl) ?_
      refine va_aldq hx hb hK hP 2 4 rfl rfl (by unfold vp_in; decide) dX7_which_25 ?_
      refine lv_tr (y := .ref (a 30)) rfl ?_
      refine va_get (D := D) (ci := 0) (v := .ref (a 32)) (C := RX0) (T := TX0) (N := 5) hx hb hts inX0 hown hK hP 26 rfl rfl 2 (by decide) (hts _ tw_269) (fun _ h9 => h9) rfl dX7_which_26 ?_
      refine lv_iconst (v := 0) hx hb dX7_which_29 (by decide) ?_
      refine va_iald hx hb hK hP 28 1 rfl rfl (by unfold vp_in; decide) dX7_which_30 ?_
      refine lv_ti (y := (sr2 0)) (by rfl) ?_
      refine lv_aload_n hx hb dX7_which_31 rfl (lv_at hl 0 rfl) ?_
      refine va_get (D := D) (ci := 7) (v := .ref (a 19)) (C := RX7) (T := TX7) (N := 12) hx hb hts inX7 hown hK hP 0 rfl rfl 2 (by decide) (hts _ tw_307) (fun _ h9 => h9) rfl dX7_which_32 ?_
      refine lv_iload_n hx hb dX7_which_35 rfl (lv_at hl 1 rfl) ?_
      refine va_aldq hx hb hK hP 2 4 rfl rfl (by unfold vp_in; decide) dX7_which_36 ?_
      refine lv_tr (y := .ref (a 30)) rfl ?_
      refine va_get (D := D) (ci := 0) (v := .ref (a 32)) (C := RX0) (T := TX0) (N := 5) hx hb hts inX0 hown hK hP 26 rfl rfl 2 (by decide) (hts _ tw_269) (fun _ h9 => h9) rfl dX7_which_37 ?_
      refine lv_iconst (v := 0) hx hb dX7_which_40 (by decide) ?_
      refine va_iald hx hb hK hP 28 1 rfl rfl (by unfold vp_in; decide) dX7_which_41 ?_
      refine lv_ti (y := (sr2 0)) (by rfl) ?_
      refine lv_icmp_ge (tgt := 49) hx hb dX7_which_42 (by decide) (fun c_13 => ?_) (fun c_13 => ?_)
      · refine lv_iload_n hx hb dX7_which_49 rfl (lv_at hl 1 rfl) ?_
        exact W.iret (v := 2) hx hb hr (fun t ht hW => ⟨⟨2, (), rfl, wc_at (s := 2) (t := 2) (by omega) (by omega) (show 0 < n2 by omega) (show 0 < n2 by omega) (by show _ = if wayS (sdX n2 see2 tm2 g2 ff2 fp2) 0 < wayS (sdX n2 see2 tm2 g2 ff2 fp2) 0 then nI 2 else nI 2; rw [if_neg (show ¬ wayS (sdX n2 see2 tm2 g2 ff2 fp2) 0 < wayS (sdX n2 see2 tm2 g2 ff2 fp2) 0 by rw [← (show sr2 0 = wayS (sdX n2 see2 tm2 g2 ff2 fp2) 0 from ((hwy 2 (by omega) (show 0 < n2 by omega)) 0 (Nat.zero_le _) (Nat.zero_le _)).2.1)]; exact Int32.not_lt.mpr c_13)]; rfl), trivial⟩, hS.F ht⟩) hS.2.2 dX7_which_50
      · refine lv_iload_n hx hb dX7_which_45 rfl (lv_at hl 2 rfl) ?_
        refine lv_goto (tgt := 50) hx hb dX7_which_46 (by decide) ?_
        exact W.iret (v := 2) hx hb hr (fun t ht hW => ⟨⟨2, (), rfl, wc_at (s := 2) (t := 2) (by omega) (by omega) (show 0 < n2 by omega) (show 0 < n2 by omega) (by show _ = if wayS (sdX n2 see2 tm2 g2 ff2 fp2) 0 < wayS (sdX n2 see2 tm2 g2 ff2 fp2) 0 then nI 2 else nI 2; rw [if_pos (show wayS (sdX n2 see2 tm2 g2 ff2 fp2) 0 < wayS (sdX n2 see2 tm2 g2 ff2 fp2) 0 by rw [← (show sr2 0 = wayS (sdX n2 see2 tm2 g2 ff2 fp2) 0 from ((hwy 2 (by omega) (show 0 < n2 by omega)) 0 (Nat.zero_le _) (Nat.zero_le _)).2.1)]; exact Int32.not_le.mp c_13)]; rfl), trivial⟩, hS.F ht⟩) hS.2.2 dX7_which_50
    · refine lv_if_ne (tgt := 20) hx hb dX7_which_13 (by decide) (fun h => absurd (by decide) h) (fun _ => ?_)
      refine lv_sipush (v := (-1001)) hx hb dX7_which_16 (by decide) ?_
      exact W.iret (v := (-1001)) hx hb hr (fun t ht hW => ⟨⟨(-1001), (), rfl, wc_no1 (fun s h1 h2 h3 => hw_10 s h1 h2 (by rw [d3_n] at h3; exact h3)), trivial⟩, hS.F ht⟩) hS.2.2 dX7_which_19
  · refine lv_if_eq (tgt := 16) hx hb dX7_which_5 (by decide) (fun _ => ?_) (fun h => absurd (by decide) h)
    refine lv_sipush (v := (-1001)) hx hb dX7_which_16 (by decide) ?_
    exact W.iret (v := (-1001)) hx hb hr (fun t ht hW => ⟨⟨(-1001), (), rfl, wc_no0 (fun s h1 h2 h3 => hw_1 s h1 h2 (by rw [d3_n] at h3; exact h3)), trivial⟩, hS.F ht⟩) hS.2.2 dX7_which_19


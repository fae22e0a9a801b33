
set_option maxHeartbeats 4000000 in
set_option maxRecDepth 100000 in
theorem y_evening (l : Launch) (D : va_G) (k : Nat → ClassId) (st : Nat → Nat) (lo : Nat) (a : Nat → Nat) (rk : Nat) (lfa : Int32) (n0 : Nat) (see0 : Nat) (tm0 : Nat) (g0 : Nat → Int32) (ff0 : Nat → Int32) (fp0 : Nat → Int32) (fl0 : Nat → Int32) (n1 : Nat) (see1 : Nat) (tm1 : Nat) (g1 : Nat → Int32) (ff1 : Nat → Int32) (fp1 : Nat → Int32) (fl1 : Nat → Int32) (n2 : Nat) (see2 : Nat) (tm2 : Nat) (g2 : Nat → Int32) (ff2 : Nat → Int32) (fp2 : Nat → Int32) (fl2 : Nat → Int32) (rf0 : Int32) (rc0 : Nat) (rr0 : Nat) (rs0 : Nat → Int32) (rb0 : Nat → Int32) (rf1 : Int32) (rc1 : Nat) (rr1 : Nat) (rs1 : Nat → Int32) (rb1 : Nat → Int32) (rf2 : Int32) (rc2 : Nat) (rr2 : Nat) (rs2 : Nat → Int32) (rb2 : Nat → Int32) (rf3 : Int32) (rc3 : Nat) (rr3 : Nat) (rs3 : Nat → Int32) (rb3 : Nat → Int32) (cc : Nat) (rz : Nat) (ro : Int32) (sd : Int32) (wt : Int32) (wc : Int32) (p0 : Int32) (p1 : Int32) (p2 : Int32) (hn0 : n0 ≤ 24) (hse0 : see0 ≤ 2) (htm0 : tm0 ≤ 3) (hn1 : n1 ≤ 24) (hse1 : see1 ≤ 2) (htm1 : tm1 ≤ 3) (hn2 : n2 ≤ 24) (hse2 : see2 ≤ 2) (htm2 : tm2 ≤ 3) (hrk : rk ≤ 4) (hrc0 : rc0 ≤ 24) (hrr0 : rr0 ≤ 3) (hrc1 : rc1 ≤ 24) (hrr1 : rr1 ≤ 3) (hrc2 : rc2 ≤ 24) (hrr2 : rr2 ≤ 3) (hrc3 : rc3 ≤ 24) (hrr3 : rr3 ≤ 3) (hlt : ltP (d3 fl0 fl1 fl2) (d3 (sdX n0 see0 tm0 g0 ff0 fp0) (sdX n1 see1 tm1 g1 ff1 fp1) (sdX n2 see2 tm2 g2 ff2 fp2))) (hok : ∀ i, i < 3 → okD ((d3 (sdX n0 see0 tm0 g0 ff0 fp0) (sdX n1 see1 tm1 g1 ff1 fp1) (sdX n2 see2 tm2 g2 ff2 fp2)) i)) (hsd : ¬ sd < 0) : CWi l D k st lo yX7_evening cX7_evening 7 (some .int) ({ frames := 3, cells := 0, slots := 0, locals := 113 }) 0 0 [.ref (a 0), .int p0, .int p1, .int p2] [((a 0), .inr (7, (fX7 (a 1) (a 3) (a 19) (a 35) (a 40) (nI rk) lfa (a 53) (a 56) (a 63) (a 64) (a 68)))), ((a 3), .inl (k 3, 3, .inr (.inr (.inr (.inr (a3 (a 4) (a 9) (a 14))))))), ((a 40), .inl (k 5, 4, .inr (.inr (.inr (.inr (a4 (a 41) (a 44) (a 47) (a 50))))))), ((a 4), .inr (5, (fX5 (a 5) (a 6) (a 7) (a 8)))), (aI k (a 5) 10 (vv n0 see0 tm0 g0)), (aI k (a 6) 24 ff0), (aI k (a 7) 24 fp0), (aI k (a 8) 4 fl0), ((a 9), .inr (5, (fX5 (a 10) (a 11) (a 12) (a 13)))), (aI k (a 10) 10 (vv n1 see1 tm1 g1)), (aI k (a 11) 24 ff1), (aI k (a 12) 24 fp1), (aI k (a 13) 4 fl1), ((a 14), .inr (5, (fX5 (a 15) (a 16) (a 17) (a 18)))), (aI k (a 15) 10 (vv n2 see2 tm2 g2)), (aI k (a 16) 24 ff2), (aI k (a 17) 24 fp2), (aI k (a 18) 4 fl2), ((a 41), .inr (3, (fX3 (a 42) (a 43) rf0 (nI rc0) (nI rr0)))), (aI k (a 42) 24 rs0), (aI k (a 43) 24 rb0), ((a 44), .inr (3, (fX3 (a 45) (a 46) rf1 (nI rc1) (nI rr1)))), (aI k (a 45) 24 rs1), (aI k (a 46) 24 rb1), ((a 47), .inr (3, (fX3 (a 48) (a 49) rf2 (nI rc2) (nI rr2)))), (aI k (a 48) 24 rs2), (aI k (a 49) 24 rb2), ((a 50), .inr (3, (fX3 (a 51) (a 52) rf3 (nI rc3) (nI rr3)))), (aI k (a 51) 24 rs3), (aI k (a 52) 24 rb3), ((a 53), .inr (4, (fX4 (a 54) (a 55) (nI cc) (nI rz) ro sd))), ((a 64), .inr (2, (fX2 (a 65) (a 66) (a 67) wt wc)))] (fun (r : Int32) (sd_ : Int32) => evP (d3 (sdX n0 see0 tm0 g0 ff0 fp0) (sdX n1 see1 tm1 g1 ff1 fp1) (sdX n2 see2 tm2 g2 ff2 fp2)) rk (d4 (ruX rf0 rc0 rr0 rs0 rb0) (ruX rf1 rc1 rr1 rs1 rb1) (ruX rf2 rc2 rr2 rs2 rb2) (ruX rf3 rc3 rr3 rs3 rb3)) p0 p1 p2 sd r sd_) (fun (sd_ : Int32) => [((a 0), .inr (7, (fX7 (a 1) (a 3) (a 19) (a 35) (a 40) (nI rk) lfa (a 53) (a 56) (a 63) (a 64) (a 68)))), ((a 3), .inl (k 3, 3, .inr (.inr (.inr (.inr (a3 (a 4) (a 9) (a 14))))))), ((a 40), .inl (k 5, 4, .inr (.inr (.inr (.inr (a4 (a 41) (a 44) (a 47) (a 50))))))), ((a 4), .inr (5, (fX5 (a 5) (a 6) (a 7) (a 8)))), (aI k (a 5) 10 (vv n0 see0 tm0 g0)), (aI k (a 6) 24 ff0), (aI k (a 7) 24 fp0), (aI k (a 8) 4 fl0), ((a 9), .inr (5, (fX5 (a 10) (a 11) (a 12) (a 13)))), (aI k (a 10) 10 (vv n1 see1 tm1 g1)), (aI k (a 11) 24 ff1), (aI k (a 12) 24 fp1), (aI k (a 13) 4 fl1), ((a 14), .inr (5, (fX5 (a 15) (a 16) (a 17) (a 18)))), (aI k (a 15) 10 (vv n2 see2 tm2 g2)), (aI k (a 16) 24 ff2), (aI k (a 17) 24 fp2), (aI k (a 18) 4 fl2), ((a 41), .inr (3, (fX3 (a 42) (a 43) rf0 (nI rc0) (nI rr0)))), (aI k (a 42) 24 rs0), (aI k (a 43) 24 rb0), ((a 44), .inr (3, (fX3 (a 45) (a 46) rf1 (nI rc1) (nI rr1)))), (aI k (a 45) 24 rs1), (aI k (a 46) 24 rb1), ((a 47), .inr (3, (fX3 (a 48) (a 49) rf2 (nI rc2) (nI rr2)))), (aI k (a 48) 24 rs2), (aI k (a 49) 24 rb2), ((a 50), .inr (3, (fX3 (a 51) (a 52) rf3 (nI rc3) (nI rr3)))), (aI k (a 51) 24 rs3), (aI k (a 52) 24 rb3), ((a 53), .inr (4, (fX4 (a 54) (a 55) (nI cc) (nI rz) ro sd_))), ((a 64), .inr (2, (fX2 (a 65) (a 66) (a 67) wt wc)))]) := by
  intro sz
  refine Met.ofW (cc := cX7_evening) (maxL := 7) (ret := (some .int)) (by decide) rfl ?_
  intro p e s m args below meth c s₁ B hml hv
  obtain ⟨rfl, hsz, hlo, hP, hK, hDL, hZ⟩ := hv
  have hx := B.exec
  have hb := B.bytes
  have hr := B.returns
  have hts := WS_ts B.pre
  have hown : s.vm.findClass RX7 = some m.cls := findClass_of_methodNamed B.named
  have hlocks := B.notSynchronized
  subst hsz
  have hD := hDL.self (sz := s.heap.size)
  have hAlo := A_lo hDL hlo
  generalize hAe : va_A [((a 0), .inr (7, (fX7 (a 1) (a 3) (a 19) (a 35) (a 40) (nI rk) lfa (a 53) (a 56) (a 63) (a 64) (a 68)))), ((a 3), .inl (k 3, 3, .inr (.inr (.inr (.inr (a3 (a 4) (a 9) (a 14))))))), ((a 40), .inl (k 5, 4, .inr (.inr (.inr (.inr (a4 (a 41) (a 44) (a 47) (a 50))))))), ((a 4), .inr (5, (fX5 (a 5) (a 6) (a 7) (a 8)))), (aI k (a 5) 10 (vv n0 see0 tm0 g0)), (aI k (a 6) 24 ff0), (aI k (a 7) 24 fp0), (aI k (a 8) 4 fl0), ((a 9), .inr (5, (fX5 (a 10) (a 11) (a 12) (a 13)))), (aI k (a 10) 10 (vv n1 see1 tm1 g1)), (aI k (a 11) 24 ff1), (aI k (a 12) 24 fp1), (aI k (a 13) 4 fl1), ((a 14), .inr (5, (fX5 (a 15) (a 16) (a 17) (a 18)))), (aI k (a 15) 10 (vv n2 see2 tm2 g2)), (aI k (a 16) 24 ff2), (aI k (a 17) 24 fp2), (aI k (a 18) 4 fl2), ((a 41), .inr (3, (fX3 (a 42) (a 43) rf0 (nI rc0) (nI rr0)))), (aI k (a 42) 24 rs0), (aI k (a 43) 24 rb0), ((a 44), .inr (3, (fX3 (a 45) (a 46) rf1 (nI rc1) (nI rr1)))), (aI k (a 45) 24 rs1), (aI k (a 46) 24 rb1), ((a 47), .inr (3, (fX3 (a 48) (a 49) rf2 (nI rc2) (nI rr2)))), (aI k (a 48) 24 rs2), (aI k (a 49) 24 rb2), ((a 50), .inr (3, (fX3 (a 51) (a 52) rf3 (nI rc3) (nI rr3)))), (aI k (a 51) 24 rs3), (aI k (a 52) 24 rb3), ((a 53), .inr (4, (fX4 (a 54) (a 55) (nI cc) (nI rz) ro sd))), ((a 64), .inr (2, (fX2 (a 65) (a 66) (a 67) wt wc)))] s.heap.size = A at hD hAlo ⊢
  have hA : ∀ q : Nat, s.heap.size ≤ q → A q := fun q h => by rw [← hAe]; exact Or.inr h
  have hS : va_S A s.heap s.heap [] := va_S.rf
  have hl := lv_entry ([.ref (a 0), .int p0, .int p1, .int p2]) (n := 7) (Nat.le_of_ble_eq_true rfl)
  rw [lg_entry_eq]
  generalize (lg_sl ([.ref (a 0), .int p0, .int p1, .int p2]) ++ List.replicate (7 - (lg_sl ([.ref (a 0), .int p0, .int p1, .int p2])).length) Slot.unset).toArray = ls at hl ⊢
  have hl : lv_has ls 7 [(0, .ref (a 0)), (1, .int p0), (2, .int p1), (3, .int p2)] := hl
  obtain ⟨v9, hv9, rfl⟩ := nI_of hsd
  refine lv_aload_n hx hb dX7_evening_0 rfl (lv_at hl 0 rfl) ?_
  refine lv_iload_n hx hb dX7_evening_1 rfl (lv_at hl 1 rfl) ?_
  refine ro_i (D := D) (va_runV (As := [.int p0]) (rest := []) ⟨hx, hb, hml, hown, hts⟩ ((y_isStreet l D k st lo a rk lfa n0 see0 tm0 g0 n1 see1 tm1 g1 n2 see2 tm2 g2 p0 (by first | assumption | omega) (by first | assumption | omega) (by first | assumption | omega)) s.heap.size) (cwV 1 hts (gV tw_589 tw_591 tw_8 tw_79 tw_592) rfl rfl rfl (by decide +kernel) ⟨Nat.le_of_ble_eq_true rfl, Nat.le_of_ble_eq_true rfl⟩) (pV hS hAlo hlo hP hK (va_Dlo hD hAlo) hZ [0, 1, 3, 4, 8, 9, 13, 14] (by decide) rfl (ci := 7) (q := (RX7, TX7, 12)) (q0 := 0) rfl rfl) rfl rfl hl.1 rfl (lv_room (Nat.le_of_ble_eq_true rfl)) dX7_evening_2 ⟨Nat.le_of_ble_eq_true rfl, Nat.le_of_ble_eq_true rfl⟩) hS hA hP (fun r_1 H locs hw_1 hP hS => ?_)
  try dsimp only at hw_1
  rcases hw_1 with ⟨rfl, ⟨rfl, hw_1⟩ | ⟨rfl, hw_1⟩ | ⟨rfl, hw_1⟩⟩ | ⟨rfl, hw_1⟩
  · refine lv_if_eq (tgt := 16) hx hb dX7_evening_5 (by decide) (fun h => absurd h (by decide)) (fun _ => ?_)
    refine lv_aload_n hx hb dX7_evening_8 rfl (lv_at hl 0 rfl) ?_
    refine lv_iload_n hx hb dX7_evening_9 rfl (lv_at hl 2 rfl) ?_
    refine ro_i (D := D) (va_runV (As := [.int p1]) (rest := []) ⟨hx, hb, hml, hown, hts⟩ ((y_isRule l D k st lo a rk lfa p1 (by first | assumption | omega)) H.size) (cwV 1 hts (gV tw_697 tw_699 tw_15 tw_79 tw_700) rfl rfl rfl (by decide +kernel) ⟨Nat.le_of_ble_eq_true rfl, Nat.le_of_ble_eq_true rfl⟩) (pV hS hAlo hlo hP hK (va_Dlo hD hAlo) hZ [0] (by decide) rfl (ci := 7) (q := (RX7, TX7, 12)) (q0 := 0) rfl rfl) rfl rfl hl.1 rfl (lv_room (Nat.le_of_ble_eq_true rfl)) dX7_evening_10 ⟨Nat.le_of_ble_eq_true rfl, Nat.le_of_ble_eq_true rfl⟩) hS hA hP (fun r_2 H locs hw_2 hP hS => ?_)
    try dsimp only at hw_2
    rcases hw_2 with ⟨rfl, ⟨rfl, hw_2⟩ | ⟨rfl, hw_2⟩ | ⟨rfl, hw_2⟩ | ⟨rfl, hw_2⟩⟩ | ⟨rfl, hw_2⟩
    · refine lv_if_ne (tgt := 20) hx hb dX7_evening_13 (by decide) (fun _ => ?_) (fun h => absurd h (by decide))
      refine lv_iload_n hx hb dX7_evening_20 rfl (lv_at hl 3 rfl) ?_
      refine lv_iconst (v := 1) hx hb dX7_evening_21 (by decide) ?_
      refine lv_bipush (v := 50) hx hb dX7_evening_22 (by decide) ?_
      refine ro_i (D := D) (va_runS (As := [.int p2, .int 1, .int 50]) (rest := []) ⟨hx, hb, hml, hown, hts⟩ ((k_isIn l D k st lo p2 1 50) H.size) (va_cwS 3 hts (gS tw_593 tw_594 tw_79 tw_595) rfl rfl rfl (by decide +kernel) ⟨Nat.le_of_ble_eq_true rfl, Nat.le_of_ble_eq_true rfl⟩) (pS hS hAlo hlo hP hK (va_Dlo hD hAlo) hZ [] (by decide) rfl) rfl rfl hl.1 rfl (lv_room (Nat.le_of_ble_eq_true rfl)) dX7_evening_24 ⟨Nat.le_of_ble_eq_true rfl, Nat.le_of_ble_eq_true rfl⟩) hS hA hP (fun r_3 H locs hw_3 hP hS => ?_)
      try dsimp only at hw_3
      rcases hw_3 with ⟨rfl, hw_3⟩ | ⟨rfl, hw_3⟩
      · refine lv_if_ne (tgt := 34) hx hb dX7_evening_27 (by decide) (fun _ => ?_) (fun h => absurd h (by decide))
        have hin_4 := hw_3
        obtain ⟨nn_4, hnl_4, hnh_4, rfl⟩ := inB_ofc (a := 1) (b := 50) (by omega) (by omega) hw_3
        refine lv_lconst (v := 0) hx hb dX7_evening_34 (by decide) ?_
        refine lv_lstore (lv' := [(4, .long 0), (0, .ref (a 0)), (1, .int 0), (2, .int 0), (3, .int (nI nn_4))]) hx hb dX7_evening_35 hl (by decide) rfl (fun ls hl => ?_)
        refine lv_iconst (v := 0) hx hb dX7_evening_37 (by decide) ?_
        refine lv_istore (lv' := [(6, .int 0), (4, .long 0), (0, .ref (a 0)), (1, .int 0), (2, .int 0), (3, .int (nI nn_4))]) hx hb dX7_evening_38 hl (by decide) rfl (fun ls hl => ?_)
        refine W_loop (σ := Nat × Int64 × Nat) (fun (n_ : Nat) (x_ : Nat × Int64 × Nat) (H : Heap) (locs : List Loc) (ls : Array Slot) => match x_ with | (kk_5, al_5, sd2_5) => n_ = 51 - kk_5 ∧ (kk_5 ≤ nn_4 ∧ sd2_5 < 2147483648 ∧ al_5 = (evN (sdX n0 see0 tm0 g0 ff0 fp0) (ruX rf0 rc0 rr0 rs0 rb0) (min rr0 tm0) v9 kk_5).1 ∧ sd2_5 = (evN (sdX n0 see0 tm0 g0 ff0 fp0) (ruX rf0 rc0 rr0 rs0 rb0) (min rr0 tm0) v9 kk_5).2) ∧ va_P D classes [((a 0), .inr (7, (fX7 (a 1) (a 3) (a 19) (a 35) (a 40) (nI rk) lfa (a 53) (a 56) (a 63) (a 64) (a 68)))), ((a 3), .inl (k 3, 3, .inr (.inr (.inr (.inr (a3 (a 4) (a 9) (a 14))))))), ((a 40), .inl (k 5, 4, .inr (.inr (.inr (.inr (a4 (a 41) (a 44) (a 47) (a 50))))))), ((a 4), .inr (5, (fX5 (a 5) (a 6) (a 7) (a 8)))), (aI k (a 5) 10 (vv n0 see0 tm0 g0)), (aI k (a 6) 24 ff0), (aI k (a 7) 24 fp0), (aI k (a 8) 4 fl0), ((a 9), .inr (5, (fX5 (a 10) (a 11) (a 12) (a 13)))), (aI k (a 10) 10 (vv n1 see1 tm1 g1)), (aI k (a 11) 24 ff1), (aI k (a 12) 24 fp1), (aI k (a 13) 4 fl1), ((a 14), .inr (5, (fX5 (a 15) (a 16) (a 17) (a 18)))), (aI k (a 15) 10 (vv n2 see2 tm2 g2)), (aI k (a 16) 24 ff2), (aI k (a 17) 24 fp2), (aI k (a 18) 4 fl2), ((a 41), .inr (3, (fX3 (a 42) (a 43) rf0 (nI rc0) (nI rr0)))), (aI k (a 42) 24 rs0), (aI k (a 43) 24 rb0), ((a 44), .inr (3, (fX3 (a 45) (a 46) rf1 (nI rc1) (nI rr1)))), (aI k (a 45) 24 rs1), (aI k (a 46) 24 rb1), ((a 47), .inr (3, (fX3 (a 48) (a 49) rf2 (nI rc2) (nI rr2)))), (aI k (a 48) 24 rs2), (aI k (a 49) 24 rb2), ((a 50), .inr (3, (fX3 (a 51) (a 52) rf3 (nI rc3) (nI rr3)))), (aI k (a 51) 24 rs3), (aI k (a 52) 24 rb3), ((a 53), .inr (4, (fX4 (a 54) (a 55) (nI cc) (nI rz) ro (nI sd2_5)))), ((a 64), .inr (2, (fX2 (a 65) (a 66) (a 67) wt wc)))] H ∧ va_D A [((a 0), .inr (7, (fX7 (a 1) (a 3) (a 19) (a 35) (a 40) (nI rk) lfa (a 53) (a 56) (a 63) (a 64) (a 68)))), ((a 3), .inl (k 3, 3, .inr (.inr (.inr (.inr (a3 (a 4) (a 9) (a 14))))))), ((a 40), .inl (k 5, 4, .inr (.inr (.inr (.inr (a4 (a 41) (a 44) (a 47) (a 50))))))), ((a 4), .inr (5, (fX5 (a 5) (a 6) (a 7) (a 8)))), (aI k (a 5) 10 (vv n0 see0 tm0 g0)), (aI k (a 6) 24 ff0), (aI k (a 7) 24 fp0), (aI k (a 8) 4 fl0), ((a 9), .inr (5, (fX5 (a 10) (a 11) (a 12) (a 13)))), (aI k (a 10) 10 (vv n1 see1 tm1 g1)), (aI k (a 11) 24 ff1), (aI k (a 12) 24 fp1), (aI k (a 13) 4 fl1), ((a 14), .inr (5, (fX5 (a 15) (a 16) (a 17) (a 18)))), (aI k (a 15) 10 (vv n2 see2 tm2 g2)), (aI k (a 16) 24 ff2), (aI k (a 17) 24 fp2), (aI k (a 18) 4 fl2), ((a 41), .inr (3, (fX3 (a 42) (a 43) rf0 (nI rc0) (nI rr0)))), (aI k (a 42) 24 rs0), (aI k (a 43) 24 rb0), ((a 44), .inr (3, (fX3 (a 45) (a 46) rf1 (nI rc1) (nI rr1)))), (aI k (a 45) 24 rs1), (aI k (a 46) 24 rb1), ((a 47), .inr (3, (fX3 (a 48) (a 49) rf2 (nI rc2) (nI rr2)))), (aI k (a 48) 24 rs2), (aI k (a 49) 24 rb2), ((a 50), .inr (3, (fX3 (a 51) (a 52) rf3 (nI rc3) (nI rr3)))), (aI k (a 51) 24 rs3), (aI k (a 52) 24 rb3), ((a 53), .inr (4, (fX4 (a 54) (a 55) (nI cc) (nI rz) ro (nI sd2_5)))), ((a 64), .inr (2, (fX2 (a 65) (a 66) (a 67) wt wc)))] ∧ va_S A s.heap H locs ∧ lv_has ls 7 [(6, .int (nI kk_5)), (4, .long al_5), (0, .ref (a 0)), (1, .int 0), (2, .int 0), (3, .int (nI nn_4))]) (fun n_5 x_5 H locs ls hI ih_5 => ?_) _ (0, 0, v9) ⟨rfl, ⟨by omega, by omega, rfl, rfl⟩, hP, hD, hS, (lv_sub hl [0, 1, 2, 3, 4, 5] rfl)⟩
        obtain ⟨kk_5, al_5, sd2_5⟩ := x_5
        obtain ⟨hm_5, hv_5, hP, hD, hS, hl⟩ := hI
        subst hm_5
        refine lv_iload hx hb dX7_evening_40 (lv_at hl 0 rfl) ?_
        refine lv_iload_n hx hb dX7_evening_42 rfl (lv_at hl 5 rfl) ?_
        refine lv_icmp_ge (tgt := 81) hx hb dX7_evening_43 (by decide) (fun c_6 => ?_) (fun c_6 => ?_)
        · have c_6 := (nI_leI (a := nn_4) (b := kk_5) (by omega) (by omega)).mp c_6
          refine lv_lload hx hb dX7_evening_81 (lv_at hl 1 rfl) ?_
          refine lv_ldc2 hx hb hown (hts _ tw_940) dX7_evening_83 ?_
          refine lv_ldiv hx hb dX7_evening_86 (by decide) ?_
          refine lv_topl (fun x_7 ex_7 => ?_)
          refine lv_l2i hx hb dX7_evening_87 rfl ?_
          refine lv_topi (fun x_8 ex_8 => ?_)
          obtain ⟨hP9, hD9⟩ := pd_sub [((a 0), .inr (7, (fX7 (a 1) (a 3) (a 19) (a 35) (a 40) (nI rk) lfa (a 53) (a 56) (a 63) (a 64) (a 68)))), ((a 3), .inl (k 3, 3, .inr (.inr (.inr (.inr (a3 (a 4) (a 9) (a 14))))))), ((a 40), .inl (k 5, 4, .inr (.inr (.inr (.inr (a4 (a 41) (a 44) (a 47) (a 50))))))), ((a 4), .inr (5, (fX5 (a 5) (a 6) (a 7) (a 8)))), (aI k (a 5) 10 (vv n0 see0 tm0 g0)), (aI k (a 6) 24 ff0), (aI k (a 7) 24 fp0), (aI k (a 8) 4 fl0), ((a 9), .inr (5, (fX5 (a 10) (a 11) (a 12) (a 13)))), (aI k (a 10) 10 (vv n1 see1 tm1 g1)), (aI k (a 11) 24 ff1), (aI k (a 12) 24 fp1), (aI k (a 13) 4 fl1), ((a 14), .inr (5, (fX5 (a 15) (a 16) (a 17) (a 18)))), (aI k (a 15) 10 (vv n2 see2 tm2 g2)), (aI k (a 16) 24 ff2), (aI k (a 17) 24 fp2), (aI k (a 18) 4 fl2), ((a 41), .inr (3, (fX3 (a 42) (a 43) rf0 (nI rc0) (nI rr0)))), (aI k (a 42) 24 rs0), (aI k (a 43) 24 rb0), ((a 44), .inr (3, (fX3 (a 45) (a 46) rf1 (nI rc1) (nI rr1)))), (aI k (a 45) 24 rs1), (aI k (a 46) 24 rb1), ((a 47), .inr (3, (fX3 (a 48) (a 49) rf2 (nI rc2) (nI rr2)))), (aI k (a 48) 24 rs2), (aI k (a 49) 24 rb2), ((a 50), .inr (3, (fX3 (a 51) (a 52) rf3 (nI rc3) (nI rr3)))), (aI k (a 51) 24 rs3), (aI k (a 52) 24 rb3), ((a 53), .inr (4, (fX4 (a 54) (a 55) (nI cc) (nI rz) ro (nI sd2_5)))), ((a 64), .inr (2, (fX2 (a 65) (a 66) (a 67) wt wc)))] [0, 1, 2, 3, 4, 5, 6, 7, 8, 9, 10, 11, 12, 13, 14, 15, 16, 17, 18, 19, 20, 21, 22, 23, 24, 25, 26, 27, 28, 29, 30, 31] hP hD (by decide +kernel) rfl
          exact W.iret (v := x_8) hx hb hr (fun t ht hW => ⟨⟨x_8, (nI sd2_5), rfl, ev_at (s := 0) (t := 0) (by omega) (by omega) (by omega) (show 0 < n0 by omega) (show evA (nI nn_4) (nI v9) (sdX n0 see0 tm0 g0 ff0 fp0) (ruX rf0 rc0 rr0 rs0 rb0) _ _ from ev_i (a := al_5) (w := sd2_5) (by omega) hin_4 (by omega) (by rw [(show muD (sdX n0 see0 tm0 g0 ff0 fp0) (ruX rf0 rc0 rr0 rs0 rb0) = min rr0 tm0 by unfold muD; rw [tmX (by omega)]; exact congrArg (fun z => min z tm0) (nI_clamp (by omega))), show nn_4 = kk_5 by omega]; exact hv_5.2.2.1) (by rw [(show muD (sdX n0 see0 tm0 g0 ff0 fp0) (ruX rf0 rc0 rr0 rs0 rb0) = min rr0 tm0 by unfold muD; rw [tmX (by omega)]; exact congrArg (fun z => min z tm0) (nI_clamp (by omega))), show nn_4 = kk_5 by omega]; exact hv_5.2.2.2) (by rw [ex_8, ex_7])), by rw [ht]; exact hP9, hD9⟩, hS.F ht⟩) hS.2.2 dX7_evening_88
        · have c_6 : ¬ (nn_4 ≤ kk_5) := fun h => c_6 ((nI_leI (a := nn_4) (b := kk_5) (by omega) (by omega)).mpr h)
          refine lv_lload hx hb dX7_evening_46 (lv_at hl 1 rfl) ?_
          refine lv_aload_n hx hb dX7_evening_48 rfl (lv_at hl 2 rfl) ?_
          refine va_get (D := D) (ci := 7) (v := .ref (a 64)) (C := RX7) (T := TX7) (N := 12) hx hb hts inX7 hown hK hP 0 rfl rfl 10 (by decide) (hts _ tw_315) (fun _ h9 => h9) rfl dX7_evening_49 ?_
          refine lv_aload_n hx hb dX7_evening_52 rfl (lv_at hl 2 rfl) ?_
          refine va_get (D := D) (ci := 7) (v := .ref (a 3)) (C := RX7) (T := TX7) (N := 12) hx hb hts inX7 hown hK hP 0 rfl rfl 1 (by decide) (hts _ tw_306) (fun _ h9 => h9) rfl dX7_evening_53 ?_
          refine lv_iload_n hx hb dX7_evening_56 rfl (lv_at hl 3 rfl) ?_
          refine va_aldq hx hb hK hP 1 3 rfl rfl (by unfold vp_in; decide) dX7_evening_57 ?_
          refine lv_tr (y := .ref (a 4)) rfl ?_
          refine lv_aload_n hx hb dX7_evening_58 rfl (lv_at hl 2 rfl) ?_
          refine va_get (D := D) (ci := 7) (v := .ref (a 40)) (C := RX7) (T := TX7) (N := 12) hx hb hts inX7 hown hK hP 0 rfl rfl 4 (by decide) (hts _ tw_309) (fun _ h9 => h9) rfl dX7_evening_59 ?_
          refine lv_iload_n hx hb dX7_evening_62 rfl (lv_at hl 4 rfl) ?_
          refine va_aldq hx hb hK hP 2 5 rfl rfl (by unfold vp_in; decide) dX7_evening_63 ?_
          refine lv_tr (y := .ref (a 41)) rfl ?_
          refine lv_aload_n hx hb dX7_evening_64 rfl (lv_at hl 2 rfl) ?_
          refine va_get (D := D) (ci := 7) (v := .ref (a 53)) (C := RX7) (T := TX7) (N := 12) hx hb hts inX7 hown hK hP 0 rfl rfl 7 (by decide) (hts _ tw_312) (fun _ h9 => h9) rfl dX7_evening_65 ?_
          refine rw_i (D := D) (wr := [((a 0), .inr (7, (fX7 (a 1) (a 3) (a 19) (a 35) (a 40) (nI rk) lfa (a 53) (a 56) (a 63) (a 64) (a 68)))), ((a 3), .inl (k 3, 3, .inr (.inr (.inr (.inr (a3 (a 4) (a 9) (a 14))))))), ((a 40), .inl (k 5, 4, .inr (.inr (.inr (.inr (a4 (a 41) (a 44) (a 47) (a 50))))))), ((a 9), .inr (5, (fX5 (a 10) (a 11) (a 12) (a 13)))), (aI k (a 10) 10 (vv n1 see1 tm1 g1)), (aI k (a 11) 24 ff1), (aI k (a 12) 24 fp1), (aI k (a 13) 4 fl1), ((a 14), .inr (5, (fX5 (a 15) (a 16) (a 17) (a 18)))), (aI k (a 15) 10 (vv n2 see2 tm2 g2)), (aI k (a 16) 24 ff2), (aI k (a 17) 24 fp2), (aI k (a 18) 4 fl2), ((a 44), .inr (3, (fX3 (a 45) (a 46) rf1 (nI rc1) (nI rr1)))), (aI k (a 45) 24 rs1), (aI k (a 46) 24 rb1), ((a 47), .inr (3, (fX3 (a 48) (a 49) rf2 (nI rc2) (nI rr2)))), (aI k (a 48) 24 rs2), (aI k (a 49) 24 rb2), ((a 50), .inr (3, (fX3 (a 51) (a 52) rf3 (nI rc3) (nI rr3)))), (aI k (a 51) 24 rs3), (aI k (a 52) 24 rb3)]) (va_runV (As := [.ref (a 4), .ref (a 41), .ref (a 53)]) (rest := [.long al_5]) ⟨hx, hb, hml, hown, hts⟩ ((y_eveningOf l D k st lo (a 64) (a 65) (a 66) (a 67) wt wc (a 4) (a 5) (a 6) (a 7) (a 8) n0 see0 tm0 g0 ff0 fp0 fl0 (a 41) (a 42) (a 43) rf0 rc0 rr0 rs0 rb0 (a 53) (a 54) (a 55) cc rz ro sd2_5 (by first | assumption | omega) (by first | assumption | omega) (by first | assumption | omega) (by first | assumption | omega) (hlt 0 (by omega)) (hok 0 (by omega)) (by first | assumption | omega)) H.size) (cwV 3 hts (gV tw_928 tw_929 tw_930 tw_83 tw_931) rfl rfl rfl (by decide +kernel) ⟨Nat.le_of_ble_eq_true rfl, Nat.le_of_ble_eq_true rfl⟩) (pV hS hAlo hlo hP hK (va_Dlo hD hAlo) hZ [31, 3, 4, 5, 6, 7, 18, 19, 20, 30] (by decide +kernel) rfl (ci := 2) (q := (RX2, TX2, 5)) (q0 := 0) rfl rfl) rfl rfl hl.1 rfl (lv_room (Nat.le_of_ble_eq_true rfl)) dX7_evening_68 ⟨Nat.le_of_ble_eq_true rfl, Nat.le_of_ble_eq_true rfl⟩) hS hA hP hD [31, 3, 4, 5, 6, 7, 18, 19, 20, 30] [0, 1, 2, 8, 9, 10, 11, 12, 13, 14, 15, 16, 17, 21, 22, 23, 24, 25, 26, 27, 28, 29] rfl rfl (by decide +kernel) (by decide +kernel) (fun r_9 u H locs hw_9 hP hD hS => ?_)
          obtain ⟨sd__9, rfl⟩ : ∃ z, z = u := ⟨_, rfl⟩
          have hQ9 := pd_mk [((a 0), .inr (7, (fX7 (a 1) (a 3) (a 19) (a 35) (a 40) (nI rk) lfa (a 53) (a 56) (a 63) (a 64) (a 68)))), ((a 3), .inl (k 3, 3, .inr (.inr (.inr (.inr (a3 (a 4) (a 9) (a 14))))))), ((a 40), .inl (k 5, 4, .inr (.inr (.inr (.inr (a4 (a 41) (a 44) (a 47) (a 50))))))), ((a 9), .inr (5, (fX5 (a 10) (a 11) (a 12) (a 13)))), (aI k (a 10) 10 (vv n1 see1 tm1 g1)), (aI k (a 11) 24 ff1), (aI k (a 12) 24 fp1), (aI k (a 13) 4 fl1), ((a 14), .inr (5, (fX5 (a 15) (a 16) (a 17) (a 18)))), (aI k (a 15) 10 (vv n2 see2 tm2 g2)), (aI k (a 16) 24 ff2), (aI k (a 17) 24 fp2), (aI k (a 18) 4 fl2), ((a 44), .inr (3, (fX3 (a 45) (a 46) rf1 (nI rc1) (nI rr1)))), (aI k (a 45) 24 rs1), (aI k (a 46) 24 rb1), ((a 47), .inr (3, (fX3 (a 48) (a 49) rf2 (nI rc2) (nI rr2)))), (aI k (a 48) 24 rs2), (aI k (a 49) 24 rb2), ((a 50), .inr (3, (fX3 (a 51) (a 52) rf3 (nI rc3) (nI rr3)))), (aI k (a 51) 24 rs3), (aI k (a 52) 24 rb3), ((a 64), .inr (2, (fX2 (a 65) (a 66) (a 67) wt wc))), ((a 4), .inr (5, (fX5 (a 5) (a 6) (a 7) (a 8)))), (aI k (a 5) 10 (vv n0 see0 tm0 g0)), (aI k (a 6) 24 ff0), (aI k (a 7) 24 fp0), (aI k (a 8) 4 fl0), ((a 41), .inr (3, (fX3 (a 42) (a 43) rf0 (nI rc0) (nI rr0)))), (aI k (a 42) 24 rs0), (aI k (a 43) 24 rb0), ((a 53), .inr (4, (fX4 (a 54) (a 55) (nI cc) (nI rz) ro (nI sd__9))))] hP hD
          clear hP hD
          obtain ⟨hP, hD⟩ := hQ9
          try dsimp only at hw_9
          refine lv_i2l (v := r_9.toInt64) hx hb dX7_evening_71 rfl ?_
          refine lv_ladd hx hb dX7_evening_72 ?_
          refine lv_topl (fun x_10 ex_10 => ?_)
          refine lv_lstore (lv' := [(4, .long x_10), (6, .int (nI kk_5)), (0, .ref (a 0)), (1, .int 0), (2, .int 0), (3, .int (nI nn_4))]) hx hb dX7_evening_73 hl (by decide) rfl (fun ls hl => ?_)
          refine lv_iinc (v := (nI (kk_5 + 1))) (lv' := [(6, .int (nI (kk_5 + 1))), (4, .long x_10), (0, .ref (a 0)), (1, .int 0), (2, .int 0), (3, .int (nI nn_4))]) hx hb dX7_evening_75 hl (k := 1) rfl (nI_add kk_5 1) (by decide) rfl (fun ls hl => ?_)
          refine lv_goto (tgt := 40) hx hb dX7_evening_78 (by decide) ?_
          have hes_11 := evN_s hv_5.2.2.1 hv_5.2.2.2 hw_9.1 ex_10
          exact ih_5 _ (kk_5 + 1, x_10, sd__9) _ _ _ (by omega) ⟨rfl, ⟨by omega, hw_9.2, hes_11.1, hes_11.2⟩, (hP.sub [0, 1, 2, 23, 24, 25, 26, 27, 3, 4, 5, 6, 7, 8, 9, 10, 11, 12, 28, 29, 30, 13, 14, 15, 16, 17, 18, 19, 20, 21, 31, 22] rfl), (hD.sub [0, 1, 2, 23, 24, 25, 26, 27, 3, 4, 5, 6, 7, 8, 9, 10, 11, 12, 28, 29, 30, 13, 14, 15, 16, 17, 18, 19, 20, 21, 31, 22] (by decide +kernel) rfl), hS, (lv_sub hl [0, 1, 2, 3, 4, 5] rfl)⟩
      · refine lv_if_ne (tgt := 34) hx hb dX7_evening_27 (by decide) (fun h => absurd (by decide) h) (fun _ => ?_)
        refine lv_sipush (v := (-1002)) hx hb dX7_evening_30 (by decide) ?_
        obtain ⟨hP9, hD9⟩ := pd_sub [((a 0), .inr (7, (fX7 (a 1) (a 3) (a 19) (a 35) (a 40) (nI rk) lfa (a 53) (a 56) (a 63) (a 64) (a 68)))), ((a 3), .inl (k 3, 3, .inr (.inr (.inr (.inr (a3 (a 4) (a 9) (a 14))))))), ((a 40), .inl (k 5, 4, .inr (.inr (.inr (.inr (a4 (a 41) (a 44) (a 47) (a 50))))))), ((a 4), .inr (5, (fX5 (a 5) (a 6) (a 7) (a 8)))), (aI k (a 5) 10 (vv n0 see0 tm0 g0)), (aI k (a 6) 24 ff0), (aI k (a 7) 24 fp0), (aI k (a 8) 4 fl0), ((a 9), .inr (5, (fX5 (a 10) (a 11) (a 12) (a 13)))), (aI k (a 10) 10 (vv n1 see1 tm1 g1)), (aI k (a 11) 24 ff1), (aI k (a 12) 24 fp1), (aI k (a 13) 4 fl1), ((a 14), .inr (5, (fX5 (a 15) (a 16) (a 17) (a 18)))), (aI k (a 15) 10 (vv n2 see2 tm2 g2)), (aI k (a 16) 24 ff2), (aI k (a 17) 24 fp2), (aI k (a 18) 4 fl2), ((a 41), .inr (3, (fX3 (a 42) (a 43) rf0 (nI rc0) (nI rr0)))), (aI k (a 42) 24 rs0), (aI k (a 43) 24 rb0), ((a 44), .inr (3, (fX3 (a 45) (a 46) rf1 (nI rc1) (nI rr1)))), (aI k (a 45) 24 rs1), (aI k (a 46) 24 rb1), ((a 47), .inr (3, (fX3 (a 48) (a 49) rf2 (nI rc2) (nI rr2)))), (aI k (a 48) 24 rs2), (aI k (a 49) 24 rb2), ((a 50), .inr (3, (fX3 (a 51) (a 52) rf3 (nI rc3) (nI rr3)))), (aI k (a 51) 24 rs3), (aI k (a 52) 24 rb3), ((a 53), .inr (4, (fX4 (a 54) (a 55) (nI cc) (nI rz) ro (nI v9)))), ((a 64), .inr (2, (fX2 (a 65) (a 66) (a 67) wt wc)))] [0, 1, 2, 3, 4, 5, 6, 7, 8, 9, 10, 11, 12, 13, 14, 15, 16, 17, 18, 19, 20, 21, 22, 23, 24, 25, 26, 27, 28, 29, 30, 31] hP hD (by decide +kernel) rfl
        exact W.iret (v := (-1002)) hx hb hr (fun t ht hW => ⟨⟨(-1002), (nI v9), rfl, ev_at (s := 0) (t := 0) (by omega) (by omega) (by omega) (show 0 < n0 by omega) (show evA p2 (nI v9) (sdX n0 see0 tm0 g0 ff0 fp0) (ruX rf0 rc0 rr0 rs0 rb0) _ _ from ev_o hw_3), by rw [ht]; exact hP9, hD9⟩, hS.F ht⟩) hS.2.2 dX7_evening_33
    · refine lv_if_ne (tgt := 20) hx hb dX7_evening_13 (by decide) (fun _ => ?_) (fun h => absurd h (by decide))
      refine lv_iload_n hx hb dX7_evening_20 rfl (lv_at hl 3 rfl) ?_
      refine lv_iconst (v := 1) hx hb dX7_evening_21 (by decide) ?_
      refine lv_bipush (v := 50) hx hb dX7_evening_22 (by decide) ?_
      refine ro_i (D := D) (va_runS (As := [.int p2, .int 1, .int 50]) (rest := []) ⟨hx, hb, hml, hown, hts⟩ ((k_isIn l D k st lo p2 1 50) H.size) (va_cwS 3 hts (gS tw_593 tw_594 tw_79 tw_595) rfl rfl rfl (by decide +kernel) ⟨Nat.le_of_ble_eq_true rfl, Nat.le_of_ble_eq_true rfl⟩) (pS hS hAlo hlo hP hK (va_Dlo hD hAlo) hZ [] (by decide) rfl) rfl rfl hl.1 rfl (lv_room (Nat.le_of_ble_eq_true rfl)) dX7_evening_24 ⟨Nat.le_of_ble_eq_true rfl, Nat.le_of_ble_eq_true rfl⟩) hS hA hP (fun r_12 H locs hw_12 hP hS => ?_)
      try dsimp only at hw_12
      rcases hw_12 with ⟨rfl, hw_12⟩ | ⟨rfl, hw_12⟩
      · refine lv_if_ne (tgt := 34) hx hb dX7_evening_27 (by decide) (fun _ => ?_) (fun h => absurd h (by decide))
        have hin_13 := hw_12
        obtain ⟨nn_13, hnl_13, hnh_13, rfl⟩ := inB_ofc (a := 1) (b := 50) (by omega) (by omega) hw_12
        refine lv_lconst (v := 0) hx hb dX7_evening_34 (by decide) ?_
        refine lv_lstore (lv' := [(4, .long 0), (0, .ref (a 0)), (1, .int 0), (2, .int 1), (3, .int (nI nn_13))]) hx hb dX7_evening_35 hl (by decide) rfl (fun ls hl => ?_)
        refine lv_iconst (v := 0) hx hb dX7_evening_37 (by decide) ?_
        refine lv_istore (lv' := [(6, .int 0), (4, .long 0), (0, .ref (a 0)), (1, .int 0), (2, .int 1), (3, .int (nI nn_13))]) hx hb dX7_evening_38 hl (by decide) rfl (fun ls hl => ?_)
        refine W_loop (σ := Nat × Int64 × Nat) (fun (n_ : Nat) (x_ : Nat × Int64 × Nat) (H : Heap) (locs : List Loc) (ls : Array Slot) => match x_ with | (kk_14, al_14, sd2_14) => n_ = 51 - kk_14 ∧ (kk_14 ≤ nn_13 ∧ sd2_14 < 2147483648 ∧ al_14 = (evN (sdX n0 see0 tm0 g0 ff0 fp0) (ruX rf1 rc1 rr1 rs1 rb1) (min rr1 tm0) v9 kk_14).1 ∧ sd2_14 = (evN (sdX n0 see0 tm0 g0 ff0 fp0) (ruX rf1 rc1 rr1 rs1 rb1) (min rr1 tm0) v9 kk_14).2) ∧ va_P D classes [((a 0), .inr (7, (fX7 (a 1) (a 3) (a 19) (a 35) (a 40) (nI rk) lfa (a 53) (a 56) (a 63) (a 64) (a 68)))), ((a 3), .inl (k 3, 3, .inr (.inr (.inr (.inr (a3 (a 4) (a 9) (a 14))))))), ((a 40), .inl (k 5, 4, .inr (.inr (.inr (.inr (a4 (a 41) (a 44) (a 47) (a 50))))))), ((a 4), .inr (5, (fX5 (a 5) (a 6) (a 7) (a 8)))), (aI k (a 5) 10 (vv n0 see0 tm0 g0)), (aI k (a 6) 24 ff0), (aI k (a 7) 24 fp0), (aI k (a 8) 4 fl0), ((a 9), .inr (5, (fX5 (a 10) (a 11) (a 12) (a 13)))), (aI k (a 10) 10 (vv n1 see1 tm1 g1)), (aI k (a 11) 24 ff1), (aI k (a 12) 24 fp1), (aI k (a 13) 4 fl1), ((a 14), .inr (5, (fX5 (a 15) (a 16) (a 17) (a 18)))), (aI k (a 15) 10 (vv n2 see2 tm2 g2)), (aI k (a 16) 24 ff2), (aI k (a 17) 24 fp2), (aI k (a 18) 4 fl2), ((a 41), .inr (3, (fX3 (a 42) (a 43) rf0 (nI rc0) (nI rr0)))), (aI k (a 42) 24 rs0), (aI k (a 43) 24 rb0), ((a 44), .inr (3, (fX3 (a 45) (a 46) rf1 (nI rc1) (nI rr1)))), (aI k (a 45) 24 rs1), (aI k (a 46) 24 rb1), ((a 47), .inr (3, (fX3 (a 48) (a 49) rf2 (nI rc2) (nI rr2)))), (aI k (a 48) 24 rs2), (aI k (a 49) 24 rb2), ((a 50), .inr (3, (fX3 (a 51) (a 52) rf3 (nI rc3) (nI rr3)))), (aI k (a 51) 24 rs3), (aI k (a 52) 24 rb3), ((a 53), .inr (4, (fX4 (a 54) (a 55) (nI cc) (nI rz) ro (nI sd2_14)))), ((a 64), .inr (2, (fX2 (a 65) (a 66) (a 67) wt wc)))] H ∧ va_D A [((a 0), .inr (7, (fX7 (a 1) (a 3) (a 19) (a 35) (a 40) (nI rk) lfa (a 53) (a 56) (a 63) (a 64) (a 68)))), ((a 3), .inl (k 3, 3, .inr (.inr (.inr (.inr (a3 (a 4) (a 9) (a 14))))))), ((a 40), .inl (k 5, 4, .inr (.inr (.inr (.inr (a4 (a 41) (a 44) (a 47) (a 50))))))), ((a 4), .inr (5, (fX5 (a 5) (a 6) (a 7) (a 8)))), (aI k (a 5) 10 (vv n0 see0 tm0 g0)), (aI k (a 6) 24 ff0), (aI k (a 7) 24 fp0), (aI k (a 8) 4 fl0), ((a 9), .inr (5, (fX5 (a 10) (a 11) (a 12) (a 13)))), (aI k (a 10) 10 (vv n1 see1 tm1 g1)), (aI k (a 11) 24 ff1), (aI k (a 12) 24 fp1), (aI k (a 13) 4 fl1), ((a 14), .inr (5, (fX5 (a 15) (a 16) (a 17) (a 18)))), (aI k (a 15) 10 (vv n2 see2 tm2 g2)), (aI k (a 16) 24 ff2), (aI k (a 17) 24 fp2), (aI k (a 18) 4 fl2), ((a 41), .inr (3, (fX3 (a 42) (a 43) rf0 (nI rc0) (nI rr0)))), (aI k (a 42) 24 rs0), (aI k (a 43) 24 rb0), ((a 44), .inr (3, (fX3 (a 45) (a 46) rf1 (nI rc1) (nI rr1)))), (aI k (a 45) 24 rs1), (aI k (a 46) 24 rb1), ((a 47), .inr (3, (fX3 (a 48) (a 49) rf2 (nI rc2) (nI rr2)))), (aI k (a 48) 24 rs2), (aI k (a 49) 24 rb2), ((a 50), .inr (3, (fX3 (a 51) (a 52) rf3 (nI rc3) (nI rr3)))), (aI k (a 51) 24 rs3), (aI k (a 52) 24 rb3), ((a 53), .inr (4, (fX4 (a 54) (a 55) (nI cc) (nI rz) ro (nI sd2_14)))), ((a 64), .inr (2, (fX2 (a 65) (a 66) (a 67) wt wc)))] ∧ va_S A s.heap H locs ∧ lv_has ls 7 [(6, .int (nI kk_14)), (4, .long al_14), (0, .ref (a 0)), (1, .int 0), (2, .int 1), (3, .int (nI nn_13))]) (fun n_14 x_14 H locs ls hI ih_14 => ?_) _ (0, 0, v9) ⟨rfl, ⟨by omega, by omega, rfl, rfl⟩, hP, hD, hS, (lv_sub hl [0, 1, 2, 3, 4, 5] rfl)⟩
        obtain ⟨kk_14, al_14, sd2_14⟩ := x_14
        obtain ⟨hm_14, hv_14, hP, hD, hS, hl⟩ := hI
        subst hm_14
        refine lv_iload hx hb dX7_evening_40 (lv_at hl 0 rfl) ?_
        refine lv_iload_n hx hb dX7_evening_42 rfl (lv_at hl 5 rfl) ?_
        refine lv_icmp_ge (tgt := 81) hx hb dX7_evening_43 (by decide) (fun c_15 => ?_) (fun c_15 => ?_)
        · have c_15 := (nI_leI (a := nn_13) (b := kk_14) (by omega) (by omega)).mp c_15
          refine lv_lload hx hb dX7_evening_81 (lv_at hl 1 rfl) ?_
          refine lv_ldc2 hx hb hown (hts _ tw_940) dX7_evening_83 ?_
          refine lv_ldiv hx hb dX7_evening_86 (by decide) ?_
          refine lv_topl (fun x_16 ex_16 => ?_)
          refine lv_l2i hx hb dX7_evening_87 rfl ?_
          refine lv_topi (fun x_17 ex_17 => ?_)
          obtain ⟨hP9, hD9⟩ := pd_sub [((a 0), .inr (7, (fX7 (a 1) (a 3) (a 19) (a 35) (a 40) (nI rk) lfa (a 53) (a 56) (a 63) (a 64) (a 68)))), ((a 3), .inl (k 3, 3, .inr (.inr (.inr (.inr (a3 (a 4) (a 9) (a 14))))))), ((a 40), .inl (k 5, 4, .inr (.inr (.inr (.inr (a4 (a 41) (a 44) (a 47) (a 50))))))), ((a 4), .inr (5, (fX5 (a 5) (a 6) (a 7) (a 8)))), (aI k (a 5) 10 (vv n0 see0 tm0 g0)), (aI k (a 6) 24 ff0), (aI k (a 7) 24 fp0), (aI k (a 8) 4 fl0), ((a 9), .inr (5, (fX5 (a 10) (a 11) (a 12) (a 13)))), (aI k (a 10) 10 (vv n1 see1 tm1 g1)), (aI k (a 11) 24 ff1), (aI k (a 12) 24 fp1), (aI k (a 13) 4 fl1), ((a 14), .inr (5, (fX5 (a 15) (a 16) (a 17) (a 18)))), (aI k (a 15) 10 (vv n2 see2 tm2 g2)), (aI k (a 16) 24 ff2), (aI k (a 17) 24 fp2), (aI k (a 18) 4 fl2), ((a 41), .inr (3, (fX3 (a 42) (a 43) rf0 (nI rc0) (nI rr0)))), (aI k (a 42) 24 rs0), (aI k (a 43) 24 rb0), ((a 44), .inr (3, (fX3 (a 45) (a 46) rf1 (nI rc1) (nI rr1)))), (aI k (a 45) 24 rs1), (aI k (a 46) 24 rb1), ((a 47), .inr (3, (fX3 (a 48) (a 49) rf2 (nI rc2) (nI rr2)))), (aI k (a 48) 24 rs2), (aI k (a 49) 24 rb2), ((a 50), .inr (3, (fX3 (a 51) (a 52) rf3 (nI rc3) (nI rr3)))), (aI k (a 51) 24 rs3), (aI k (a 52) 24 rb3), ((a 53), .inr (4, (fX4 (a 54) (a 55) (nI cc) (nI rz) ro (nI sd2_14)))), ((a 64), .inr (2, (fX2 (a 65) (a 66) (a 67) wt wc)))] [0, 1, 2, 3, 4, 5, 6, 7, 8, 9, 10, 11, 12, 13, 14, 15, 16, 17, 18, 19, 20, 21, 22, 23, 24, 25, 26, 27, 28, 29, 30, 31] hP hD (by decide +kernel) rfl
          exact W.iret (v := x_17) hx hb hr (fun t ht hW => ⟨⟨x_17, (nI sd2_14), rfl, ev_at (s := 0) (t := 1) (by omega) (by omega) (by omega) (show 0 < n0 by omega) (show evA (nI nn_13) (nI v9) (sdX n0 see0 tm0 g0 ff0 fp0) (ruX rf1 rc1 rr1 rs1 rb1) _ _ from ev_i (a := al_14) (w := sd2_14) (by omega) hin_13 (by omega) (by rw [(show muD (sdX n0 see0 tm0 g0 ff0 fp0) (ruX rf1 rc1 rr1 rs1 rb1) = min rr1 tm0 by unfold muD; rw [tmX (by omega)]; exact congrArg (fun z => min z tm0) (nI_clamp (by omega))), show nn_13 = kk_14 by omega]; exact hv_14.2.2.1) (by rw [(show muD (sdX n0 see0 tm0 g0 ff0 fp0) (ruX rf1 rc1 rr1 rs1 rb1) = min rr1 tm0 by unfold muD; rw [tmX (by omega)]; exact congrArg (fun z => min z tm0) (nI_clamp (by omega))), show nn_13 = kk_14 by omega]; exact hv_14.2.2.2) (by rw [ex_17, ex_16])), by rw [ht]; exact hP9, hD9⟩, hS.F ht⟩) hS.2.2 dX7_evening_88
        · have c_15 : ¬ (nn_13 ≤ kk_14) := fun h => c_15 ((nI_leI (a := nn_13) (b := kk_14) (by omega) (by omega)).mpr h)
          refine lv_lload hx hb dX7_evening_46 (lv_at hl 1 rfl) ?_
          refine lv_aload_n hx hb dX7_evening_48 rfl (lv_at hl 2 rfl) ?_
          refine va_get (D := D) (ci := 7) (v := .ref (a 64)) (C := RX7) (T := TX7) (N := 12) hx hb hts inX7 hown hK hP 0 rfl rfl 10 (by decide) (hts _ tw_315) (fun _ h9 => h9) rfl dX7_evening_49 ?_
          refine lv_aload_n hx hb dX7_evening_52 rfl (lv_at hl 2 rfl) ?_
          refine va_get (D := D) (ci := 7) (v := .ref (a 3)) (C := RX7) (T := TX7) (N := 12) hx hb hts inX7 hown hK hP 0 rfl rfl 1 (by decide) (hts _ tw_306) (fun _ h9 => h9) rfl dX7_evening_53 ?_
          refine lv_iload_n hx hb dX7_evening_56 rfl (lv_at hl 3 rfl) ?_
          refine va_aldq hx hb hK hP 1 3 rfl rfl (by unfold vp_in; decide) dX7_evening_57 ?_
          refine lv_tr (y := .ref (a 4)) rfl ?_
          refine lv_aload_n hx hb dX7_evening_58 rfl (lv_at hl 2 rfl) ?_
          refine va_get (D := D) (ci := 7) (v := .ref (a 40)) (C := RX7) (T := TX7) (N := 12) hx hb hts inX7 hown hK hP 0 rfl rfl 4 (by decide) (hts _ tw_309) (fun _ h9 => h9) rfl dX7_evening_59 ?_
          refine lv_iload_n hx hb dX7_evening_62 rfl (lv_at hl 4 rfl) ?_
          refine va_aldq hx hb hK hP 2 5 rfl rfl (by unfold vp_in; decide) dX7_evening_63 ?_
          refine lv_tr (y := .ref (a 44)) rfl ?_
          refine lv_aload_n hx hb dX7_evening_64 rfl (lv_at hl 2 rfl) ?_
          refine va_get (D := D) (ci := 7) (v := .ref (a 53)) (C := RX7) (T := TX7) (N := 12) hx hb hts inX7 hown hK hP 0 rfl rfl 7 (by decide) (hts _ tw_312) (fun _ h9 => h9) rfl dX7_evening_65 ?_
          refine rw_i (D := D) (wr := [((a 0), .inr (7, (fX7 (a 1) (a 3) (a 19) (a 35) (a 40) (nI rk) lfa (a 53) (a 56) (a 63) (a 64) (a 68)))), ((a 3), .inl (k 3, 3, .inr (.inr (.inr (.inr (a3 (a 4) (a 9) (a 14))))))), ((a 40), .inl (k 5, 4, .inr (.inr (.inr (.inr (a4 (a 41) (a 44) (a 47) (a 50))))))), ((a 9), .inr (5, (fX5 (a 10) (a 11) (a 12) (a 13)))), (aI k (a 10) 10 (vv n1 see1 tm1 g1)), (aI k (a 11) 24 ff1), (aI k (a 12) 24 fp1), (aI k (a 13) 4 fl1), ((a 14), .inr (5, (fX5 (a 15) (a 16) (a 17) (a 18)))), (aI k (a 15) 10 (vv n2 see2 tm2 g2)), (aI k (a 16) 24 ff2), (aI k (a 17) 24 fp2), (aI k (a 18) 4 fl2), ((a 41), .inr (3, (fX3 (a 42) (a 43) rf0 (nI rc0) (nI rr0)))), (aI k (a 42) 24 rs0), (aI k (a 43) 24 rb0), ((a 47), .inr (3, (fX3 (a 48) (a 49) rf2 (nI rc2) (nI rr2)))), (aI k (a 48) 24 rs2), (aI k (a 49) 24 rb2), ((a 50), .inr (3, (fX3 (a 51) (a 52) rf3 (nI rc3) (nI rr3)))), (aI k (a 51) 24 rs3), (aI k (a 52) 24 rb3)]) (va_runV (As := [.ref (a 4), .ref (a 44), .ref (a 53)]) (rest := [.long al_14]) ⟨hx, hb, hml, hown, hts⟩ ((y_eveningOf l D k st lo (a 64) (a 65) (a 66) (a 67) wt wc (a 4) (a 5) (a 6) (a 7) (a 8) n0 see0 tm0 g0 ff0 fp0 fl0 (a 44) (a 45) (a 46) rf1 rc1 rr1 rs1 rb1 (a 53) (a 54) (a 55) cc rz ro sd2_14 (by first | assumption | omega) (by first | assumption | omega) (by first | assumption | omega) (by first | assumption | omega) (hlt 0 (by omega)) (hok 0 (by omega)) (by first | assumption | omega)) H.size) (cwV 3 hts (gV tw_928 tw_929 tw_930 tw_83 tw_931) rfl rfl rfl (by decide +kernel) ⟨Nat.le_of_ble_eq_true rfl, Nat.le_of_ble_eq_true rfl⟩) (pV hS hAlo hlo hP hK (va_Dlo hD hAlo) hZ [31, 3, 4, 5, 6, 7, 21, 22, 23, 30] (by decide +kernel) rfl (ci := 2) (q := (RX2, TX2, 5)) (q0 := 0) rfl rfl) rfl rfl hl.1 rfl (lv_room (Nat.le_of_ble_eq_true rfl)) dX7_evening_68 ⟨Nat.le_of_ble_eq_true rfl, Nat.le_of_ble_eq_true rfl⟩) hS hA hP hD [31, 3, 4, 5, 6, 7, 21, 22, 23, 30] [0, 1, 2, 8, 9, 10, 11, 12, 13, 14, 15, 16, 17, 18, 19, 20, 24, 25, 26, 27, 28, 29] rfl rfl (by decide +kernel) (by decide +kernel) (fun r_18 u H locs hw_18 hP hD hS => ?_)
          obtain ⟨sd__18, rfl⟩ : ∃ z, z = u := ⟨_, rfl⟩
          have hQ9 := pd_mk [((a 0), .inr (7, (fX7 (a 1) (a 3) (a 19) (a 35) (a 40) (nI rk) lfa (a 53) (a 56) (a 63) (a 64) (a 68)))), ((a 3), .inl (k 3, 3, .inr (.inr (.inr (.inr (a3 (a 4) (a 9) (a 14))))))), ((a 40), .inl (k 5, 4, .inr (.inr (.inr (.inr (a4 (a 41) (a 44) (a 47) (a 50))))))), ((a 9), .inr (5, (fX5 (a 10) (a 11) (a 12) (a 13)))), (aI k (a 10) 10 (vv n1 see1 tm1 g1)), (aI k (a 11) 24 ff1), (aI k (a 12) 24 fp1), (aI k (a 13) 4 fl1), ((a 14), .inr (5, (fX5 (a 15) (a 16) (a 17) (a 18)))), (aI k (a 15) 10 (vv n2 see2 tm2 g2)), (aI k (a 16) 24 ff2), (aI k (a 17) 24 fp2), (aI k (a 18) 4 fl2), ((a 41), .inr (3, (fX3 (a 42) (a 43) rf0 (nI rc0) (nI rr0)))), (aI k (a 42) 24 rs0), (aI k (a 43) 24 rb0), ((a 47), .inr (3, (fX3 (a 48) (a 49) rf2 (nI rc2) (nI rr2)))), (aI k (a 48) 24 rs2), (aI k (a 49) 24 rb2), ((a 50), .inr (3, (fX3 (a 51) (a 52) rf3 (nI rc3) (nI rr3)))), (aI k (a 51) 24 rs3), (aI k (a 52) 24 rb3), ((a 64), .inr (2, (fX2 (a 65) (a 66) (a 67) wt wc))), ((a 4), .inr (5, (fX5 (a 5) (a 6) (a 7) (a 8)))), (aI k (a 5) 10 (vv n0 see0 tm0 g0)), (aI k (a 6) 24 ff0), (aI k (a 7) 24 fp0), (aI k (a 8) 4 fl0), ((a 44), .inr (3, (fX3 (a 45) (a 46) rf1 (nI rc1) (nI rr1)))), (aI k (a 45) 24 rs1), (aI k (a 46) 24 rb1), ((a 53), .inr (4, (fX4 (a 54) (a 55) (nI cc) (nI rz) ro (nI sd__18))))] hP hD
          clear hP hD
          obtain ⟨hP, hD⟩ := hQ9
          try dsimp only at hw_18
          refine lv_i2l (v := r_18.toInt64) hx hb dX7_evening_71 rfl ?_
          refine lv_ladd hx hb dX7_evening_72 ?_
          refine lv_topl (fun x_19 ex_19 => ?_)
          refine lv_lstore (lv' := [(4, .long x_19), (6, .int (nI kk_14)), (0, .ref (a 0)), (1, .int 0), (2, .int 1), (3, .int (nI nn_13))]) hx hb dX7_evening_73 hl (by decide) rfl (fun ls hl => ?_)
          refine lv_iinc (v := (nI (kk_14 + 1))) (lv' := [(6, .int (nI (kk_14 + 1))), (4, .long x_19), (0, .ref (a 0)), (1, .int 0), (2, .int 1), (3, .int (nI nn_13))]) hx hb dX7_evening_75 hl (k := 1) rfl (nI_add kk_14 1) (by decide) rfl (fun ls hl => ?_)
          refine lv_goto (tgt := 40) hx hb dX7_evening_78 (by decide) ?_
          have hes_20 := evN_s hv_14.2.2.1 hv_14.2.2.2 hw_18.1 ex_19
          exact ih_14 _ (kk_14 + 1, x_19, sd__18) _ _ _ (by omega) ⟨rfl, ⟨by omega, hw_18.2, hes_20.1, hes_20.2⟩, (hP.sub [0, 1, 2, 23, 24, 25, 26, 27, 3, 4, 5, 6, 7, 8, 9, 10, 11, 12, 13, 14, 15, 28, 29, 30, 16, 17, 18, 19, 20, 21, 31, 22] rfl), (hD.sub [0, 1, 2, 23, 24, 25, 26, 27, 3, 4, 5, 6, 7, 8, 9, 10, 11, 12, 13, 14, 15, 28, 29, 30, 16, 17, 18, 19, 20, 21, 31, 22] (by decide +kernel) rfl), hS, (lv_sub hl [0, 1, 2, 3, 4, 5] rfl)⟩
      · refine lv_if_ne (tgt := 34) hx hb dX7_evening_27 (by decide) (fun h => absurd (by decide) h) (fun _ => ?_)
        refine lv_sipush (v := (-1002)) hx hb dX7_evening_30 (by decide) ?_
        obtain ⟨hP9, hD9⟩ := pd_sub [((a 0), .inr (7, (fX7 (a 1) (a 3) (a 19) (a 35) (a 40) (nI rk) lfa (a 53) (a 56) (a 63) (a 64) (a 68)))), ((a 3), .inl (k 3, 3, .inr (.inr (.inr (.inr (a3 (a 4) (a 9) (a 14))))))), ((a 40), .inl (k 5, 4, .inr (.inr (.inr (.inr (a4 (a 41) (a 44) (a 47) (a 50))))))), ((a 4), .inr (5, (fX5 (a 5) (a 6) (a 7) (a 8)))), (aI k (a 5) 10 (vv n0 see0 tm0 g0)), (aI k (a 6) 24 ff0), (aI k (a 7) 24 fp0), (aI k (a 8) 4 fl0), ((a 9), .inr (5, (fX5 (a 10) (a 11) (a 12) (a 13)))), (aI k (a 10) 10 (vv n1 see1 tm1 g1)), (aI k (a 11) 24 ff1), (aI k (a 12) 24 fp1), (aI k (a 13) 4 fl1), ((a 14), .inr (5, (fX5 (a 15) (a 16) (a 17) (a 18)))), (aI k (a 15) 10 (vv n2 see2 tm2 g2)), (aI k (a 16) 24 ff2), (aI k (a 17) 24 fp2), (aI k (a 18) 4 fl2), ((a 41), .inr (3, (fX3 (a 42) (a 43) rf0 (nI rc0) (nI rr0)))), (aI k (a 42) 24 rs0), (aI k (a 43) 24 rb0), ((a 44), .inr (3, (fX3 (a 45) (a 46) rf1 (nI rc1) (nI rr1)))), (aI k (a 45) 24 rs1), (aI k (a 46) 24 rb1), ((a 47), .inr (3, (fX3 (a 48) (a 49) rf2 (nI rc2) (nI rr2)))), (aI k (a 48) 24 rs2), (aI k (a 49) 24 rb2), ((a 50), .inr (3, (fX3 (a 51) (a 52) rf3 (nI rc3) (nI rr3)))), (aI k (a 51) 24 rs3), (aI k (a 52) 24 rb3), ((a 53), .inr (4, (fX4 (a 54) (a 55) (nI cc) (nI rz) ro (nI v9)))), ((a 64), .inr (2, (fX2 (a 65) (a 66) (a 67) wt wc)))] [0, 1, 2, 3, 4, 5, 6, 7, 8, 9, 10, 11, 12, 13, 14, 15, 16, 17, 18, 19, 20, 21, 22, 23, 24, 25, 26, 27, 28, 29, 30, 31] hP hD (by decide +kernel) rfl
        exact W.iret (v := (-1002)) hx hb hr (fun t ht hW => ⟨⟨(-1002), (nI v9), rfl, ev_at (s := 0) (t := 1) (by omega) (by omega) (by omega) (show 0 < n0 by omega) (show evA p2 (nI v9) (sdX n0 see0 tm0 g0 ff0 fp0) (ruX rf1 rc1 rr1 rs1 rb1) _ _ from ev_o hw_12), by rw [ht]; exact hP9, hD9⟩, hS.F ht⟩) hS.2.2 dX7_evening_33
    · refine lv_if_ne (tgt := 20) hx hb dX7_evening_13 (by decide) (fun _ => ?_) (fun h => absurd h (by decide))
      refine lv_iload_n hx hb dX7_evening_20 rfl (lv_at hl 3 rfl) ?_
      refine lv_iconst (v := 1) hx hb dX7_evening_21 (by decide) ?_
      refine lv_bipush (v := 50) hx hb dX7_evening_22 (by decide) ?_
      refine ro_i (D := D) (va_runS (As := [.int p2, .int 1, .int 50]) (rest := []) ⟨hx, hb, hml, hown, hts⟩ ((k_isIn l D k st lo p2 1 50) H.size) (va_cwS 3 hts (gS tw_593 tw_594 tw_79 tw_595) rfl rfl rfl (by decide +kernel) ⟨Nat.le_of_ble_eq_true rfl, Nat.le_of_ble_eq_true rfl⟩) (pS hS hAlo hlo hP hK (va_Dlo hD hAlo) hZ [] (by decide) rfl) rfl rfl hl.1 rfl (lv_room (Nat.le_of_ble_eq_true rfl)) dX7_evening_24 ⟨Nat.le_of_ble_eq_true rfl, Nat.le_of_ble_eq_true rfl⟩) hS hA hP (fun r_21 H locs hw_21 hP hS => ?_)
      try dsimp only at hw_21
      rcases hw_21 with ⟨rfl, hw_21⟩ | ⟨rfl, hw_21⟩
      · refine lv_if_ne (tgt := 34) hx hb dX7_evening_27 (by decide) (fun _ => ?_) (fun h => absurd h (by decide))
        have hin_22 := hw_21
        obtain ⟨nn_22, hnl_22, hnh_22, rfl⟩ := inB_ofc (a := 1) (b := 50) (by omega) (by omega) hw_21
        refine lv_lconst (v := 0) hx hb dX7_evening_34 (by decide) ?_
        refine lv_lstore (lv' := [(4, .long 0), (0, .ref (a 0)), (1, .int 0), (2, .int 2), (3, .int (nI nn_22))]) hx hb dX7_evening_35 hl (by decide) rfl (fun ls hl => ?_)
        refine lv_iconst (v := 0) hx hb dX7_evening_37 (by decide) ?_
        refine lv_istore (lv' := [(6, .int 0), (4, .long 0), (0, .ref (a 0)), (1, .int 0), (2, .int 2), (3, .int (nI nn_22))]) hx hb dX7_evening_38 hl (by decide) rfl (fun ls hl => ?_)
        refine W_loop (σ := Nat × Int64 × Nat) (fun (n_ : Nat) (x_ : Nat × Int64 × Nat) (H : Heap) (locs : List Loc) (ls : Array Slot) => match x_ with | (kk_23, al_23, sd2_23) => n_ = 51 - kk_23 ∧ (kk_23 ≤ nn_22 ∧ sd2_23 < 2147483648 ∧ al_23 = (evN (sdX n0 see0 tm0 g0 ff0 fp0) (ruX rf2 rc2 rr2 rs2 rb2) (min rr2 tm0) v9 kk_23).1 ∧ sd2_23 = (evN (sdX n0 see0 tm0 g0 ff0 fp0) (ruX rf2 rc2 rr2 rs2 rb2) (min rr2 tm0) v9 kk_23).2) ∧ va_P D classes [((a 0), .inr (7, (fX7 (a 1) (a 3) (a 19) (a 35) (a 40) (nI rk) lfa (a 53) (a 56) (a 63) (a 64) (a 68)))), ((a 3), .inl (k 3, 3, .inr (.inr (.inr (.inr (a3 (a 4) (a 9) (a 14))))))), ((a 40), .inl (k 5, 4, .inr (.inr (.inr (.inr (a4 (a 41) (a 44) (a 47) (a 50))))))), ((a 4), .inr (5, (fX5 (a 5) (a 6) (a 7) (a 8)))), (aI k (a 5) 10 (vv n0 see0 tm0 g0)), (aI k (a 6) 24 ff0), (aI k (a 7) 24 fp0), (aI k (a 8) 4 fl0), ((a 9), .inr (5, (fX5 (a 10) (a 11) (a 12) (a 13)))), (aI k (a 10) 10 (vv n1 see1 tm1 g1)), (aI k (a 11) 24 ff1), (aI k (a 12) 24 fp1), (aI k (a 13) 4 fl1), ((a 14), .inr (5, (fX5 (a 15) (a 16) (a 17) (a 18)))), (aI k (a 15) 10 (vv n2 see2 tm2 g2)), (aI k (a 16) 24 ff2), (aI k (a 17) 24 fp2), (aI k (a 18) 4 fl2), ((a 41), .inr (3, (fX3 (a 42) (a 43) rf0 (nI rc0) (nI rr0)))), (aI k (a 42) 24 rs0), (aI k (a 43) 24 rb0), ((a 44), .inr (3, (fX3 (a 45) (a 46) rf1 (nI rc1) (nI rr1)))), (aI k (a 45) 24 rs1), (aI k (a 46) 24 rb1), ((a 47), .inr (3, (fX3 (a 48) (a 49) rf2 (nI rc2) (nI rr2)))), (aI k (a 48) 24 rs2), (aI k (a 49) 24 rb2), ((a 50), .inr (3, (fX3 (a 51) (a 52) rf3 (nI rc3) (nI rr3)))), (aI k (a 51) 24 rs3), (aI k (a 52) 24 rb3), ((a 53), .inr (4, (fX4 (a 54) (a 55) (nI cc) (nI rz) ro (nI sd2_23)))), ((a 64), .inr (2, (fX2 (a 65) (a 66) (a 67) wt wc)))] H ∧ va_D A [((a 0), .inr (7, (fX7 (a 1) (a 3) (a 19) (a 35) (a 40) (nI rk) lfa (a 53) (a 56) (a 63) (a 64) (a 68)))), ((a 3), .inl (k 3, 3, .inr (.inr (.inr (.inr (a3 (a 4) (a 9) (a 14))))))), ((a 40), .inl (k 5, 4, .inr (.inr (.inr (.inr (a4 (a 41) (a 44) (a 47) (a 50))))))), ((a 4), .inr (5, (fX5 (a 5) (a 6) (a 7) (a 8)))), (aI k (a 5) 10 (vv n0 see0 tm0 g0)), (aI k (a 6) 24 ff0), (aI k (a 7) 24 fp0), (aI k (a 8) 4 fl0), ((a 9), .inr (5, (fX5 (a 10) (a 11) (a 12) (a 13)))), (aI k (a 10) 10 (vv n1 see1 tm1 g1)), (aI k (a 11) 24 ff1), (aI k (a 12) 24 fp1), (aI k (a 13) 4 fl1), ((a 14), .inr (5, (fX5 (a 15) (a 16) (a 17) (a 18)))), (aI k (a 15) 10 (vv n2 see2 tm2 g2)), (aI k (a 16) 24 ff2), (aI k (a 17) 24 fp2), (aI k (a 18) 4 fl2), ((a 41), .inr (3, (fX3 (a 42) (a 43) rf0 (nI rc0) (nI rr0)))), (aI k (a 42) 24 rs0), (aI k (a 43) 24 rb0), ((a 44), .inr (3, (fX3 (a 45) (a 46) rf1 (nI rc1) (nI rr1)))), (aI k (a 45) 24 rs1), (aI k (a 46) 24 rb1), ((a 47), .inr (3, (fX3 (a 48) (a 49) rf2 (nI rc2) (nI rr2)))), (aI k (a 48) 24 rs2), (aI k (a 49) 24 rb2), ((a 50), .inr (3, (fX3 (a 51) (a 52) rf3 (nI rc3) (nI rr3)))), (aI k (a 51) 24 rs3), (aI k (a 52) 24 rb3), ((a 53), .inr (4, (fX4 (a 54) (a 55) (nI cc) (nI rz) ro (nI sd2_23)))), ((a 64), .inr (2, (fX2 (a 65) (a 66) (a 67) wt wc)))] ∧ va_S A s.heap H locs ∧ lv_has ls 7 [(6, .int (nI kk_23)), (4, .long al_23), (0, .ref (a 0)), (1, .int 0), (2, .int 2), (3, .int (nI nn_22))]) (fun n_23 x_23 H locs ls hI ih_23 => ?_) _ (0, 0, v9) ⟨rfl, ⟨by omega, by omega, rfl, rfl⟩, hP, hD, hS, (lv_sub hl [0, 1, 2, 3, 4, 5] rfl)⟩
        obtain ⟨kk_23, al_23, sd2_23⟩ := x_23
        obtain ⟨hm_23, hv_23, hP, hD, hS, hl⟩ := hI
        subst hm_23
        refine lv_iload hx hb dX7_evening_40 (lv_at hl 0 rfl) ?_
        refine lv_iload_n hx hb dX7_evening_42 rfl (lv_at hl 5 rfl) ?_
        refine lv_icmp_ge (tgt := 81) hx hb dX7_evening_43 (by decide) (fun c_24 => ?_) (fun c_24 => ?_)
        · have c_24 := (nI_leI (a := nn_22) (b := kk_23) (by omega) (by omega)).mp c_24
          refine lv_lload hx hb dX7_evening_81 (lv_at hl 1 rfl) ?_
          refine lv_ldc2 hx hb hown (hts _ tw_940) dX7_evening_83 ?_
          refine lv_ldiv hx hb dX7_evening_86 (by decide) ?_
          refine lv_topl (fun x_25 ex_25 => ?_)
          refine lv_l2i hx hb dX7_evening_87 rfl ?_
          refine lv_topi (fun x_26 ex_26 => ?_)
          obtain ⟨hP9, hD9⟩ := pd_sub [((a 0), .inr (7, (fX7 (a 1) (a 3) (a 19) (a 35) (a 40) (nI rk) lfa (a 53) (a 56) (a 63) (a 64) (a 68)))), ((a 3), .inl (k 3, 3, .inr (.inr (.inr (.inr (a3 (a 4) (a 9) (a 14))))))), ((a 40), .inl (k 5, 4, .inr (.inr (.inr (.inr (a4 (a 41) (a 44) (a 47) (a 50))))))), ((a 4), .inr (5, (fX5 (a 5) (a 6) (a 7) (a 8)))), (aI k (a 5) 10 (vv n0 see0 tm0 g0)), (aI k (a 6) 24 ff0), (aI k (a 7) 24 fp0), (aI k (a 8) 4 fl0), ((a 9), .inr (5, (fX5 (a 10) (a 11) (a 12) (a 13)))), (aI k (a 10) 10 (vv n1 see1 tm1 g1)), (aI k (a 11) 24 ff1), (aI k (a 12) 24 fp1), (aI k (a 13) 4 fl1), ((a 14), .inr (5, (fX5 (a 15) (a 16) (a 17) (a 18)))), (aI k (a 15) 10 (vv n2 see2 tm2 g2)), (aI k (a 16) 24 ff2), (aI k (a 17) 24 fp2), (aI k (a 18) 4 fl2), ((a 41), .inr (3, (fX3 (a 42) (a 43) rf0 (nI rc0) (nI rr0)))), (aI k (a 42) 24 rs0), (aI k (a 43) 24 rb0), ((a 44), .inr (3, (fX3 (a 45) (a 46) rf1 (nI rc1) (nI rr1)))), (aI k (a 45) 24 rs1), (aI k (a 46) 24 rb1), ((a 47), .inr (3, (fX3 (a 48) (a 49) rf2 (nI rc2) (nI rr2)))), (aI k (a 48) 24 rs2), (aI k (a 49) 24 rb2), ((a 50), .inr (3, (fX3 (a 51) (a 52) rf3 (nI rc3) (nI rr3)))), (aI k (a 51) 24 rs3), (aI k (a 52) 24 rb3), ((a 53), .inr (4, (fX4 (a 54) (a 55) (nI cc) (nI rz) ro (nI sd2_23)))), ((a 64), .inr (2, (fX2 (a 65) (a 66) (a 67) wt wc)))] [0, 1, 2, 3, 4, 5, 6, 7, 8, 9, 10, 11, 12, 13, 14, 15, 16, 17, 18, 19, 20, 21, 22, 23, 24, 25, 26, 27, 28, 29, 30, 31] hP hD (by decide +kernel) rfl
          exact W.iret (v := x_26) hx hb hr (fun t ht hW => ⟨⟨x_26, (nI sd2_23), rfl, ev_at (s := 0) (t := 2) (by omega) (by omega) (by omega) (show 0 < n0 by omega) (show evA (nI nn_22) (nI v9) (sdX n0 see0 tm0 g0 ff0 fp0) (ruX rf2 rc2 rr2 rs2 rb2) _ _ from ev_i (a := al_23) (w := sd2_23) (by omega) hin_22 (by omega) (by rw [(show muD (sdX n0 see0 tm0 g0 ff0 fp0) (ruX rf2 rc2 rr2 rs2 rb2) = min rr2 tm0 by unfold muD; rw [tmX (by omega)]; exact congrArg (fun z => min z tm0) (nI_clamp (by omega))), show nn_22 = kk_23 by omega]; exact hv_23.2.2.1) (by rw [(show muD (sdX n0 see0 tm0 g0 ff0 fp0) (ruX rf2 rc2 rr2 rs2 rb2) = min rr2 tm0 by unfold muD; rw [tmX (by omega)]; exact congrArg (fun z => min z tm0) (nI_clamp (by omega))), show nn_22 = kk_23 by omega]; exact hv_23.2.2.2) (by rw [ex_26, ex_25])), by rw [ht]; exact hP9, hD9⟩, hS.F ht⟩) hS.2.2 dX7_evening_88
        · have c_24 : ¬ (nn_22 ≤ kk_23) := fun h => c_24 ((nI_leI (a := nn_22) (b := kk_23) (by omega) (by omega)).mpr h)
          refine lv_lload hx hb dX7_evening_46 (lv_at hl 1 rfl) ?_
          refine lv_aload_n hx hb dX7_evening_48 rfl (lv_at hl 2 rfl) ?_
          refine va_get (D := D) (ci := 7) (v := .ref (a 64)) (C := RX7) (T := TX7) (N := 12) hx hb hts inX7 hown hK hP 0 rfl rfl 10 (by decide) (hts _ tw_315) (fun _ h9 => h9) rfl dX7_evening_49 ?_
          refine lv_aload_n hx hb dX7_evening_52 rfl (lv_at hl 2 rfl) ?_
          refine va_get (D := D) (ci := 7) (v := .ref (a 3)) (C := RX7) (T := TX7) (N := 12) hx hb hts inX7 hown hK hP 0 rfl rfl 1 (by decide) (hts _ tw_306) (fun _ h9 => h9) rfl dX7_evening_53 ?_
          refine lv_iload_n hx hb dX7_evening_56 rfl (lv_at hl 3 rfl) ?_
          refine va_aldq hx hb hK hP 1 3 rfl rfl (by unfold vp_in; decide) dX7_evening_57 ?_
          refine lv_tr (y := .ref (a 4)) rfl ?_
          refine lv_aload_n hx hb dX7_evening_58 rfl (lv_at hl 2 rfl) ?_
          refine va_get (D := D) (ci := 7) (v := .ref (a 40)) (C := RX7) (T := TX7) (N := 12) hx hb hts inX7 hown hK hP 0 rfl rfl 4 (by decide) (hts _ tw_309) (fun _ h9 => h9) rfl dX7_evening_59 ?_
          refine lv_iload_n hx hb dX7_evening_62 rfl (lv_at hl 4 rfl) ?_
          refine va_aldq hx hb hK hP 2 5 rfl rfl (by unfold vp_in; decide) dX7_evening_63 ?_
          refine lv_tr (y := .ref (a 47)) rfl ?_
          refine lv_aload_n hx hb dX7_evening_64 rfl (lv_at hl 2 rfl) ?_
          refine va_get (D := D) (ci := 7) (v := .ref (a 53)) (C := RX7) (T := TX7) (N := 12) hx hb hts inX7 hown hK hP 0 rfl rfl 7 (by decide) (hts _ tw_312) (fun _ h9 => h9) rfl dX7_evening_65 ?_
          refine rw_i (D := D) (wr := [((a 0), .inr (7, (fX7 (a 1) (a 3) (a 19) (a 35) (a 40) (nI rk) lfa (a 53) (a 56) (a 63) (a 64) (a 68)))), ((a 3), .inl (k 3, 3, .inr (.inr (.inr (.inr (a3 (a 4) (a 9) (a 14))))))), ((a 40), .inl (k 5, 4, .inr (.inr (.inr (.inr (a4 (a 41) (a 44) (a 47) (a 50))))))), ((a 9), .inr (5, (fX5 (a 10) (a 11) (a 12) (a 13)))), (aI k (a 10) 10 (vv n1 see1 tm1 g1)), (aI k (a 11) 24 ff1), (aI k (a 12) 24 fp1), (aI k (a 13) 4 fl1), ((a 14), .inr (5, (fX5 (a 15) (a 16) (a 17) (a 18)))), (aI k (a 15) 10 (vv n2 see2 tm2 g2)), (aI k (a 16) 24 ff2), (aI k (a 17) 24 fp2), (aI k (a 18) 4 fl2), ((a 41), .inr (3, (fX3 (a 42) (a 43) rf0 (nI rc0) (nI rr0)))), (aI k (a 42) 24 rs0), (aI k (a 43) 24 rb0), ((a 44), .inr (3, (fX3 (a 45) (a 46) rf1 (nI rc1) (nI rr1)))), (aI k (a 45) 24 rs1), (aI k (a 46) 24 rb1), ((a 50), .inr (3, (fX3 (a 51) (a 52) rf3 (nI rc3) (nI rr3)))), (aI k (a 51) 24 rs3), (aI k (a 52) 24 rb3)]) (va_runV (As := [.ref (a 4), .ref (a 47), .ref (a 53)]) (rest := [.long al_23]) ⟨hx, hb, hml, hown, hts⟩ ((y_eveningOf l D k st lo (a 64) (a 65) (a 66) (a 67) wt wc (a 4) (a 5) (a 6) (a 7) (a 8) n0 see0 tm0 g0 ff0 fp0 fl0 (a 47) (a 48) (a 49) rf2 rc2 rr2 rs2 rb2 (a 53) (a 54) (a 55) cc rz ro sd2_23 (by first | assumption | omega) (by first | assumption | omega) (by first | assumption | omega) (by first | assumption | omega) (hlt 0 (by omega)) (hok 0 (by omega)) (by first | assumption | omega)) H.size) (cwV 3 hts (gV tw_928 tw_929 tw_930 tw_83 tw_931) rfl rfl rfl (by decide +kernel) ⟨Nat.le_of_ble_eq_true rfl, Nat.le_of_ble_eq_true rfl⟩) (pV hS hAlo hlo hP hK (va_Dlo hD hAlo) hZ [31, 3, 4, 5, 6, 7, 24, 25, 26, 30] (by decide +kernel) rfl (ci := 2) (q := (RX2, TX2, 5)) (q0 := 0) rfl rfl) rfl rfl hl.1 rfl (lv_room (Nat.le_of_ble_eq_true rfl)) dX7_evening_68 ⟨Nat.le_of_ble_eq_true rfl, Nat.le_of_ble_eq_true rfl⟩) hS hA hP hD [31, 3, 4, 5, 6, 7, 24, 25, 26, 30] [0, 1, 2, 8, 9, 10, 11, 12, 13, 14, 15, 16, 17, 18, 19, 20, 21, 22, 23, 27, 28, 29] rfl rfl (by decide +kernel) (by decide +kernel) (fun r_27 u H locs hw_27 hP hD hS => ?_)
          obtain ⟨sd__27, rfl⟩ : ∃ z, z = u := ⟨_, rfl⟩
          have hQ9 := pd_mk [((a 0), .inr (7, (fX7 (a 1) (a 3) (a 19) (a 35) (a 40) (nI rk) lfa (a 53) (a 56) (a 63) (a 64) (a 68)))), ((a 3), .inl (k 3, 3, .inr (.inr (.inr (.inr (a3 (a 4) (a 9) (a 14))))))), ((a 40), .inl (k 5, 4, .inr (.inr (.inr (.inr (a4 (a 41) (a 44) (a 47) (a 50))))))), ((a 9), .inr (5, (fX5 (a 10) (a 11) (a 12) (a 13)))), (aI k (a 10) 10 (vv n1 see1 tm1 g1)), (aI k (a 11) 24 ff1), (aI k (a 12) 24 fp1), (aI k (a 13) 4 fl1), ((a 14), .inr (5, (fX5 (a 15) (a 16) (a 17) (a 18)))), (aI k (a 15) 10 (vv n2 see2 tm2 g2)), (aI k (a 16) 24 ff2), (aI k (a 17) 24 fp2), (aI k (a 18) 4 fl2), ((a 41), .inr (3, (fX3 (a 42) (a 43) rf0 (nI rc0) (nI rr0)))), (aI k (a 42) 24 rs0), (aI k (a 43) 24 rb0), ((a 44), .inr (3, (fX3 (a 45) (a 46) rf1 (nI rc1) (nI rr1)))), (aI k (a 45) 24 rs1), (aI k (a 46) 24 rb1), ((a 50), .inr (3, (fX3 (a 51) (a 52) rf3 (nI rc3) (nI rr3)))), (aI k (a 51) 24 rs3), (aI k (a 52) 24 rb3), ((a 64), .inr (2, (fX2 (a 65) (a 66) (a 67) wt wc))), ((a 4), .inr (5, (fX5 (a 5) (a 6) (a 7) (a 8)))), (aI k (a 5) 10 (vv n0 see0 tm0 g0)), (aI k (a 6) 24 ff0), (aI k (a 7) 24 fp0), (aI k (a 8) 4 fl0), ((a 47), .inr (3, (fX3 (a 48) (a 49) rf2 (nI rc2) (nI rr2)))), (aI k (a 48) 24 rs2), (aI k (a 49) 24 rb2), ((a 53), .inr (4, (fX4 (a 54) (a 55) (nI cc) (nI rz) ro (nI sd__27))))] hP hD
          clear hP hD
          obtain ⟨hP, hD⟩ := hQ9
          try dsimp only at hw_27
          refine lv_i2l (v := r_27.toInt64) hx hb dX7_evening_71 rfl ?_
          refine lv_ladd hx hb dX7_evening_72 ?_
          refine lv_topl (fun x_28 ex_28 => ?_)
          refine lv_lstore (lv' := [(4, .long x_28), (6, .int (nI kk_23)), (0, .ref (a 0)), (1, .int 0), (2, .int 2), (3, .int (nI nn_22))]) hx hb dX7_evening_73 hl (by decide) rfl (fun ls hl => ?_)
          refine lv_iinc (v := (nI (kk_23 + 1))) (lv' := [(6, .int (nI (kk_23 + 1))), (4, .long x_28), (0, .ref (a 0)), (1, .int 0), (2, .int 2), (3, .int (nI nn_22))]) hx hb dX7_evening_75 hl (k := 1) rfl (nI_add kk_23 1) (by decide) rfl (fun ls hl => ?_)
          refine lv_goto (tgt := 40) hx hb dX7_evening_78 (by decide) ?_
          have hes_29 := evN_s hv_23.2.2.1 hv_23.2.2.2 hw_27.1 ex_28
          exact ih_23 _ (kk_23 + 1, x_28, sd__27) _ _ _ (by omega) ⟨rfl, ⟨by omega, hw_27.2, hes_29.1, hes_29.2⟩, (hP.sub [0, 1, 2, 23, 24, 25, 26, 27, 3, 4, 5, 6, 7, 8, 9, 10, 11, 12, 13, 14, 15, 16, 17, 18, 28, 29, 30, 19, 20, 21, 31, 22] rfl), (hD.sub [0, 1, 2, 23, 24, 25, 26, 27, 3, 4, 5, 6, 7, 8, 9, 10, 11, 12, 13, 14, 15, 16, 17, 18, 28, 29, 30, 19, 20, 21, 31, 22] (by decide +kernel) rfl), hS, (lv_sub hl [0, 1, 2, 3, 4, 5] rfl)⟩
      · refine lv_if_ne (tgt := 34) hx hb dX7_evening_27 (by decide) (fun h => absurd (by decide) h) (fun _ => ?_)
        refine lv_sipush (v := (-1002)) hx hb dX7_evening_30 (by decide) ?_
        obtain ⟨hP9, hD9⟩ := pd_sub [((a 0), .inr (7, (fX7 (a 1) (a 3) (a 19) (a 35) (a 40) (nI rk) lfa (a 53) (a 56) (a 63) (a 64) (a 68)))), ((a 3), .inl (k 3, 3, .inr (.inr (.inr (.inr (a3 (a 4) (a 9) (a 14))))))), ((a 40), .inl (k 5, 4, .inr (.inr (.inr (.inr (a4 (a 41) (a 44) (a 47) (a 50))))))), ((a 4), .inr (5, (fX5 (a 5) (a 6) (a 7) (a 8)))), (aI k (a 5) 10 (vv n0 see0 tm0 g0)), (aI k (a 6) 24 ff0), (aI k (a 7) 24 fp0), (aI k (a 8) 4 fl0), ((a 9), .inr (5, (fX5 (a 10) (a 11) (a 12) (a 13)))), (aI k (a 10) 10 (vv n1 see1 tm1 g1)), (aI k (a 11) 24 ff1), (aI k (a 12) 24 fp1), (aI k (a 13) 4 fl1), ((a 14), .inr (5, (fX5 (a 15) (a 16) (a 17) (a 18)))), (aI k (a 15) 10 (vv n2 see2 tm2 g2)), (aI k (a 16) 24 ff2), (aI k (a 17) 24 fp2), (aI k (a 18) 4 fl2), ((a 41), .inr (3, (fX3 (a 42) (a 43) rf0 (nI rc0) (nI rr0)))), (aI k (a 42) 24 rs0), (aI k (a 43) 24 rb0), ((a 44), .inr (3, (fX3 (a 45) (a 46) rf1 (nI rc1) (nI rr1)))), (aI k (a 45) 24 rs1), (aI k (a 46) 24 rb1), ((a 47), .inr (3, (fX3 (a 48) (a 49) rf2 (nI rc2) (nI rr2)))), (aI k (a 48) 24 rs2), (aI k (a 49) 24 rb2), ((a 50), .inr (3, (fX3 (a 51) (a 52) rf3 (nI rc3) (nI rr3)))), (aI k (a 51) 24 rs3), (aI k (a 52) 24 rb3), ((a 53), .inr (4, (fX4 (a 54) (a 55) (nI cc) (nI rz) ro (nI v9)))), ((a 64), .inr (2, (fX2 (a 65) (a 66) (a 67) wt wc)))] [0, 1, 2, 3, 4, 5, 6, 7, 8, 9, 10, 11, 12, 13, 14, 15, 16, 17, 18, 19, 20, 21, 22, 23, 24, 25, 26, 27, 28, 29, 30, 31] hP hD (by decide +kernel) rfl
        exact W.iret (v := (-1002)) hx hb hr (fun t ht hW => ⟨⟨(-1002), (nI v9), rfl, ev_at (s := 0) (t := 2) (by omega) (by omega) (by omega) (show 0 < n0 by omega) (show evA p2 (nI v9) (sdX n0 see0 tm0 g0 ff0 fp0) (ruX rf2 rc2 rr2 rs2 rb2) _ _ from ev_o hw_21), by rw [ht]; exact hP9, hD9⟩, hS.F ht⟩) hS.2.2 dX7_evening_33
    · refine lv_if_ne (tgt := 20) hx hb dX7_evening_13 (by decide) (fun _ => ?_) (fun h => absurd h (by decide))
      refine lv_iload_n hx hb dX7_evening_20 rfl (lv_at hl 3 rfl) ?_
      refine lv_iconst (v := 1) hx hb dX7_evening_21 (by decide) ?_
      refine lv_bipush (v := 50) hx hb dX7_evening_22 (by decide) ?_
      refine ro_i (D := D) (va_runS (As := [.int p2, .int 1, .int 50]) (rest := []) ⟨hx, hb, hml, hown, hts⟩ ((k_isIn l D k st lo p2 1 50) H.size) (va_cwS 3 hts (gS tw_593 tw_594 tw_79 tw_595) rfl rfl rfl (by decide +kernel) ⟨Nat.le_of_ble_eq_true rfl, Nat.le_of_ble_eq_true rfl⟩) (pS hS hAlo hlo hP hK (va_Dlo hD hAlo) hZ [] (by decide) rfl) rfl rfl hl.1 rfl (lv_room (Nat.le_of_ble_eq_true rfl)) dX7_evening_24 ⟨Nat.le_of_ble_eq_true rfl, Nat.le_of_ble_eq_true rfl⟩) hS hA hP (fun r_30 H locs hw_30 hP hS => ?_)
      try dsimp only at hw_30
      rcases hw_30 with ⟨rfl, hw_30⟩ | ⟨rfl, hw_30⟩
      · refine lv_if_ne (tgt := 34) hx hb dX7_evening_27 (by decide) (fun _ => ?_) (fun h => absurd h (by decide))
        have hin_31 := hw_30
        obtain ⟨nn_31, hnl_31, hnh_31, rfl⟩ := inB_ofc (a := 1) (b := 50) (by omega) (by omega) hw_30
        refine lv_lconst (v := 0) hx hb dX7_evening_34 (by decide) ?_
        refine lv_lstore (lv' := [(4, .long 0), (0, .ref (a 0)), (1, .int 0), (2, .int 3), (3, .int (nI nn_31))]) hx hb dX7_evening_35 hl (by decide) rfl (fun ls hl => ?_)
        refine lv_iconst (v := 0) hx hb dX7_evening_37 (by decide) ?_
        refine lv_istore (lv' := [(6, .int 0), (4, .long 0), (0, .ref (a 0)), (1, .int 0), (2, .int 3), (3, .int (nI nn_31))]) hx hb dX7_evening_38 hl (by decide) rfl (fun ls hl => ?_)
        refine W_loop (σ := Nat × Int64 × Nat) (fun (n_ : Nat) (x_ : Nat × Int64 × Nat) (H : Heap) (locs : List Loc) (ls : Array Slot) => match x_ with | (kk_32, al_32, sd2_32) => n_ = 51 - kk_32 ∧ (kk_32 ≤ nn_31 ∧ sd2_32 < 2147483648 ∧ al_32 = (evN (sdX n0 see0 tm0 g0 ff0 fp0) (ruX rf3 rc3 rr3 rs3 rb3) (min rr3 tm0) v9 kk_32).1 ∧ sd2_32 = (evN (sdX n0 see0 tm0 g0 ff0 fp0) (ruX rf3 rc3 rr3 rs3 rb3) (min rr3 tm0) v9 kk_32).2) ∧ va_P D classes [((a 0), .inr (7, (fX7 (a 1) (a 3) (a 19) (a 35) (a 40) (nI rk) lfa (a 53) (a 56) (a 63) (a 64) (a 68)))), ((a 3), .inl (k 3, 3, .inr (.inr (.inr (.inr (a3 (a 4) (a 9) (a 14))))))), ((a 40), .inl (k 5, 4, .inr (.inr (.inr (.inr (a4 (a 41) (a 44) (a 47) (a 50))))))), ((a 4), .inr (5, (fX5 (a 5) (a 6) (a 7) (a 8)))), (aI k (a 5) 10 (vv n0 see0 tm0 g0)), (aI k (a 6) 24 ff0), (aI k (a 7) 24 fp0), (aI k (a 8) 4 fl0), ((a 9), .inr (5, (fX5 (a 10) (a 11) (a 12) (a 13)))), (aI k (a 10) 10 (vv n1 see1 tm1 g1)), (aI k (a 11) 24 ff1), (aI k (a 12) 24 fp1), (aI k (a 13) 4 fl1), ((a 14), .inr (5, (fX5 (a 15) (a 16) (a 17) (a 18)))), (aI k (a 15) 10 (vv n2 see2 tm2 g2)), (aI k (a 16) 24 ff2), (aI k (a 17) 24 fp2), (aI k (a 18) 4 fl2), ((a 41), .inr (3, (fX3 (a 42) (a 43) rf0 (nI rc0) (nI rr0)))), (aI k (a 42) 24 rs0), (aI k (a 43) 24 rb0), ((a 44), .inr (3, (fX3 (a 45) (a 46) rf1 (nI rc1) (nI rr1)))), (aI k (a 45) 24 rs1), (aI k (a 46) 24 rb1), ((a 47), .inr (3, (fX3 (a 48) (a 49) rf2 (nI rc2) (nI rr2)))), (aI k (a 48) 24 rs2), (aI k (a 49) 24 rb2), ((a 50), .inr (3, (fX3 (a 51) (a 52) rf3 (nI rc3) (nI rr3)))), (aI k (a 51) 24 rs3), (aI k (a 52) 24 rb3), ((a 53), .inr (4, (fX4 (a 54) (a 55) (nI cc) (nI rz) ro (nI sd2_32)))), ((a 64), .inr (2, (fX2 (a 65) (a 66) (a 67) wt wc)))] H ∧ va_D A [((a 0), .inr (7, (fX7 (a 1) (a 3) (a 19) (a 35) (a 40) (nI rk) lfa (a 53) (a 56) (a 63) (a 64) (a 68)))), ((a 3), .inl (k 3, 3, .inr (.inr (.inr (.inr (a3 (a 4) (a 9) (a 14))))))), ((a 40), .inl (k 5, 4, .inr (.inr (.inr (.inr (a4 (a 41) (a 44) (a 47) (a 50))))))), ((a 4), .inr (5, (fX5 (a 5) (a 6) (a 7) (a 8)))), (aI k (a 5) 10 (vv n0 see0 tm0 g0)), (aI k (a 6) 24 ff0), (aI k (a 7) 24 fp0), (aI k (a 8) 4 fl0), ((a 9), .inr (5, (fX5 (a 10) (a 11) (a 12) (a 13)))), (aI k (a 10) 10 (vv n1 see1 tm1 g1)), (aI k (a 11) 24 ff1), (aI k (a 12) 24 fp1), (aI k (a 13) 4 fl1), ((a 14), .inr (5, (fX5 (a 15) (a 16) (a 17) (a 18)))), (aI k (a 15) 10 (vv n2 see2 tm2 g2)), (aI k (a 16) 24 ff2), (aI k (a 17) 24 fp2), (aI k (a 18) 4 fl2), ((a 41), .inr (3, (fX3 (a 42) (a 43) rf0 (nI rc0) (nI rr0)))), (aI k (a 42) 24 rs0), (aI k (a 43) 24 rb0), ((a 44), .inr (3, (fX3 (a 45) (a 46) rf1 (nI rc1) (nI rr1)))), (aI k (a 45) 24 rs1), (aI k (a 46) 24 rb1), ((a 47), .inr (3, (fX3 (a 48) (a 49) rf2 (nI rc2) (nI rr2)))), (aI k (a 48) 24 rs2), (aI k (a 49) 24 rb2), ((a 50), .inr (3, (fX3 (a 51) (a 52) rf3 (nI rc3) (nI rr3)))), (aI k (a 51) 24 rs3), (aI k (a 52) 24 rb3), ((a 53), .inr (4, (fX4 (a 54) (a 55) (nI cc) (nI rz) ro (nI sd2_32)))), ((a 64), .inr (2, (fX2 (a 65) (a 66) (a 67) wt wc)))] ∧ va_S A s.heap H locs ∧ lv_has ls 7 [(6, .int (nI kk_32)), (4, .long al_32), (0, .ref (a 0)), (1, .int 0), (2, .int 3), (3, .int (nI nn_31))]) (fun n_32 x_32 H locs ls hI ih_32 => ?_) _ (0, 0, v9) ⟨rfl, ⟨by omega, by omega, rfl, rfl⟩, hP, hD, hS, (lv_sub hl [0, 1, 2, 3, 4, 5] rfl)⟩
        obtain ⟨kk_32, al_32, sd2_32⟩ := x_32
        obtain ⟨hm_32, hv_32, hP, hD, hS, hl⟩ := hI
        subst hm_32
        refine lv_iload hx hb dX7_evening_40 (lv_at hl 0 rfl) ?_
        refine lv_iload_n hx hb dX7_evening_42 rfl (lv_at hl 5 rfl) ?_
        refine lv_icmp_ge (tgt := 81) hx hb dX7_evening_43 (by decide) (fun c_33 => ?_) (fun c_33 => ?_)
        · have c_33 := (nI_leI (a := nn_31) (b := kk_32) (by omega) (by omega)).mp c_33
          refine lv_lload hx hb dX7_evening_81 (lv_at hl 1 rfl) ?_
          refine lv_ldc2 hx hb hown (hts _ tw_940) dX7_evening_83 ?_
          refine lv_ldiv hx hb dX7_evening_86 (by decide) ?_
          refine lv_topl (fun x_34 ex_34 => ?_)
          refine lv_l2i hx hb dX7_evening_87 rfl ?_
          refine lv_topi (fun x_35 ex_35 => ?_)
          obtain ⟨hP9, hD9⟩ := pd_sub [((a 0), .inr (7, (fX7 (a 1) (a 3) (a 19) (a 35) (a 40) (nI rk) lfa (a 53) (a 56) (a 63) (a 64) (a 68)))), ((a 3), .inl (k 3, 3, .inr (.inr (.inr (.inr (a3 (a 4) (a 9) (a 14))))))), ((a 40), .inl (k 5, 4, .inr (.inr (.inr (.inr (a4 (a 41) (a 44) (a 47) (a 50))))))), ((a 4), .inr (5, (fX5 (a 5) (a 6) (a 7) (a 8)))), (aI k (a 5) 10 (vv n0 see0 tm0 g0)), (aI k (a 6) 24 ff0), (aI k (a 7) 24 fp0), (aI k (a 8) 4 fl0), ((a 9), .inr (5, (fX5 (a 10) (a 11) (a 12) (a 13)))), (aI k (a 10) 10 (vv n1 see1 tm1 g1)), (aI k (a 11) 24 ff1), (aI k (a 12) 24 fp1), (aI k (a 13) 4 fl1), ((a 14), .inr (5, (fX5 (a 15) (a 16) (a 17) (a 18)))), (aI k (a 15) 10 (vv n2 see2 tm2 g2)), (aI k (a 16) 24 ff2), (aI k (a 17) 24 fp2), (aI k (a 18) 4 fl2), ((a 41), .inr (3, (fX3 (a 42) (a 43) rf0 (nI rc0) (nI rr0)))), (aI k (a 42) 24 rs0), (aI k (a 43) 24 rb0), ((a 44), .inr (3, (fX3 (a 45) (a 46) rf1 (nI rc1) (nI rr1)))), (aI k (a 45) 24 rs1), (aI k (a 46) 24 rb1), ((a 47), .inr (3, (fX3 (a 48) (a 49) rf2 (nI rc2) (nI rr2)))), (aI k (a 48) 24 rs2), (aI k (a 49) 24 rb2), ((a 50), .inr (3, (fX3 (a 51) (a 52) rf3 (nI rc3) (nI rr3)))), (aI k (a 51) 24 rs3), (aI k (a 52) 24 rb3), ((a 53), .inr (4, (fX4 (a 54) (a 55) (nI cc) (nI rz) ro (nI sd2_32)))), ((a 64), .inr (2, (fX2 (a 65) (a 66) (a 67) wt wc)))] [0, 1, 2, 3, 4, 5, 6, 7, 8, 9, 10, 11, 12, 13, 14, 15, 16, 17, 18, 19, 20, 21, 22, 23, 24, 25, 26, 27, 28, 29, 30, 31] hP hD (by decide +kernel) rfl
          exact W.iret (v := x_35) hx hb hr (fun t ht hW => ⟨⟨x_35, (nI sd2_32), rfl, ev_at (s := 0) (t := 3) (by omega) (by omega) (by omega) (show 0 < n0 by omega) (show evA (nI nn_31) (nI v9) (sdX n0 see0 tm0 g0 ff0 fp0) (ruX rf3 rc3 rr3 rs3 rb3) _ _ from ev_i (a := al_32) (w := sd2_32) (by omega) hin_31 (by omega) (by rw [(show muD (sdX n0 see0 tm0 g0 ff0 fp0) (ruX rf3 rc3 rr3 rs3 rb3) = min rr3 tm0 by unfold muD; rw [tmX (by omega)]; exact congrArg (fun z => min z tm0) (nI_clamp (by omega))), show nn_31 = kk_32 by omega]; exact hv_32.2.2.1) (by rw [(show muD (sdX n0 see0 tm0 g0 ff0 fp0) (ruX rf3 rc3 rr3 rs3 rb3) = min rr3 tm0 by unfold muD; rw [tmX (by omega)]; exact congrArg (fun z => min z tm0) (nI_clamp (by omega))), show nn_31 = kk_32 by omega]; exact hv_32.2.2.2) (by rw [ex_35, ex_34])), by rw [ht]; exact hP9, hD9⟩, hS.F ht⟩) hS.2.2 dX7_evening_88
        · have c_33 : ¬ (nn_31 ≤ kk_32) := fun h => c_33 ((nI_leI (a := nn_31) (b := kk_32) (by omega) (by omega)).mpr h)
          refine lv_lload hx hb dX7_evening_46 (lv_at hl 1 rfl) ?_
          refine lv_aload_n hx hb dX7_evening_48 rfl (lv_at hl 2 rfl) ?_
          refine va_get (D := D) (ci := 7) (v := .ref (a 64)) (C := RX7) (T := TX7) (N := 12) hx hb hts inX7 hown hK hP 0 rfl rfl 10 (by decide) (hts _ tw_315) (fun _ h9 => h9) rfl dX7_evening_49 ?_
          refine lv_aload_n hx hb dX7_evening_52 rfl (lv_at hl 2 rfl) ?_
          refine va_get (D := D) (ci := 7) (v := .ref (a 3)) (C := RX7) (T := TX7) (N := 12) hx hb hts inX7 hown hK hP 0 rfl rfl 1 (by decide) (hts _ tw_306) (fun _ h9 => h9) rfl dX7_evening_53 ?_
          refine lv_iload_n hx hb dX7_evening_56 rfl (lv_at hl 3 rfl) ?_
          refine va_aldq hx hb hK hP 1 3 rfl rfl (by unfold vp_in; decide) dX7_evening_57 ?_
          refine lv_tr (y := .ref (a 4)) rfl ?_
          refine lv_aload_n hx hb dX7_evening_58 rfl (lv_at hl 2 rfl) ?_
          refine va_get (D := D) (ci := 7) (v := .ref (a 40)) (C := RX7) (T := TX7) (N := 12) hx hb hts inX7 hown hK hP 0 rfl rfl 4 (by decide) (hts _ tw_309) (fun _ h9 => h9) rfl dX7_evening_59 ?_
          refine lv_iload_n hx hb dX7_evening_62 rfl (lv_at hl 4 rfl) ?_
          refine va_aldq hx hb hK hP 2 5 rfl rfl (by unfold vp_in; decide) dX7_evening_63 ?_
          refine lv_tr (y := .ref (a 50)) rfl ?_
          refine lv_aload_n hx hb dX7_evening_64 rfl (lv_at hl 2 rfl) ?_
          refine va_get (D := D) (ci := 7) (v := .ref (a 53)) (C := RX7) (T := TX7) (N := 12) hx hb hts inX7 hown hK hP 0 rfl rfl 7 (by decide) (hts _ tw_312) (fun _ h9 => h9) rfl dX7_evening_65 ?_
          refine rw_i (D := D) (wr := [((a 0), .inr (7, (fX7 (a 1) (a 3) (a 19) (a 35) (a 40) (nI rk) lfa (a 53) (a 56) (a 63) (a 64) (a 68)))), ((a 3), .inl (k 3, 3, .inr (.inr (.inr (.inr (a3 (a 4) (a 9) (a 14))))))), ((a 40), .inl (k 5, 4, .inr (.inr (.inr (.inr (a4 (a 41) (a 44) (a 47) (a 50))))))), ((a 9), .inr (5, (fX5 (a 10) (a 11) (a 12) (a 13)))), (aI k (a 10) 10 (vv n1 see1 tm1 g1)), (aI k (a 11) 24 ff1), (aI k (a 12) 24 fp1), (aI k (a 13) 4 fl1), ((a 14), .inr (5, (fX5 (a 15) (a 16) (a 17) (a 18)))), (aI k (a 15) 10 (vv n2 see2 tm2 g2)), (aI k (a 16) 24 ff2), (aI k (a 17) 24 fp2), (aI k (a 18) 4 fl2), ((a 41), .inr (3, (fX3 (a 42) (a 43) rf0 (nI rc0) (nI rr0)))), (aI k (a 42) 24 rs0), (aI k (a 43) 24 rb0), ((a 44), .inr (3, (fX3 (a 45) (a 46) rf1 (nI rc1) (nI rr1)))), (aI k (a 45) 24 rs1), (aI k (a 46) 24 rb1), ((a 47), .inr (3, (fX3 (a 48) (a 49) rf2 (nI rc2) (nI rr2)))), (aI k (a 48) 24 rs2), (aI k (a 49) 24 rb2)]) (va_runV (As := [.ref (a 4), .ref (a 50), .ref (a 53)]) (rest := [.long al_32]) ⟨hx, hb, hml, hown, hts⟩ ((y_eveningOf l D k st lo (a 64) (a 65) (a 66) (a 67) wt wc (a 4) (a 5) (a 6) (a 7) (a 8) n0 see0 tm0 g0 ff0 fp0 fl0 (a 50) (a 51) (a 52) rf3 rc3 rr3 rs3 rb3 (a 53) (a 54) (a 55) cc rz ro sd2_32 (by first | assumption | omega) (by first | assumption | omega) (by first | assumption | omega) (by first | assumption | omega) (hlt 0 (by omega)) (hok 0 (by omega)) (by first | assumption | omega)) H.size) (cwV 3 hts (gV tw_928 tw_929 tw_930 tw_83 tw_931) rfl rfl rfl (by decide +kernel) ⟨Nat.le_of_ble_eq_true rfl, Nat.le_of_ble_eq_true rfl⟩) (pV hS hAlo hlo hP hK (va_Dlo hD hAlo) hZ [31, 3, 4, 5, 6, 7, 27, 28, 29, 30] (by decide +kernel) rfl (ci := 2) (q := (RX2, TX2, 5)) (q0 := 0) rfl rfl) rfl rfl hl.1 rfl (lv_room (Nat.le_of_ble_eq_true rfl)) dX7_evening_68 ⟨Nat.le_of_ble_eq_true rfl, Nat.le_of_ble_eq_true rfl⟩) hS hA hP hD [31, 3, 4, 5, 6, 7, 27, 28, 29, 30] [0, 1, 2, 8, 9, 10, 11, 12, 13, 14, 15, 16, 17, 18, 19, 20, 21, 22, 23, 24, 25, 26] rfl rfl (by decide +kernel) (by decide +kernel) (fun r_36 u H locs hw_36 hP hD hS => ?_)
          obtain ⟨sd__36, rfl⟩ : ∃ z, z = u := ⟨_, rfl⟩
          have hQ9 := pd_mk [((a 0), .inr (7, (fX7 (a 1) (a 3) (a 19) (a 35) (a 40) (nI rk) lfa (a 53) (a 56) (a 63) (a 64) (a 68)))), ((a 3), .inl (k 3, 3, .inr (.inr (.inr (.inr (a3 (a 4) (a 9) (a 14))))))), ((a 40), .inl (k 5, 4, .inr (.inr (.inr (.inr (a4 (a 41) (a 44) (a 47) (a 50))))))), ((a 9), .inr (5, (fX5 (a 10) (a 11) (a 12) (a 13)))), (aI k (a 10) 10 (vv n1 see1 tm1 g1)), (aI k (a 11) 24 ff1), (aI k (a 12) 24 fp1), (aI k (a 13) 4 fl1), ((a 14), .inr (5, (fX5 (a 15) (a 16) (a 17) (a 18)))), (aI k (a 15) 10 (vv n2 see2 tm2 g2)), (aI k (a 16) 24 ff2), (aI k (a 17) 24 fp2), (aI k (a 18) 4 fl2), ((a 41), .inr (3, (fX3 (a 42) (a 43) rf0 (nI rc0) (nI rr0)))), (aI k (a 42) 24 rs0), (aI k (a 43) 24 rb0), ((a 44), .inr (3, (fX3 (a 45) (a 46) rf1 (nI rc1) (nI rr1)))), (aI k (a 45) 24 rs1), (aI k (a 46) 24 rb1), ((a 47), .inr (3, (fX3 (a 48) (a 49) rf2 (nI rc2) (nI rr2)))), (aI k (a 48) 24 rs2), (aI k (a 49) 24 rb2), ((a 64), .inr (2, (fX2 (a 65) (a 66) (a 67) wt wc))), ((a 4), .inr (5, (fX5 (a 5) (a 6) (a 7) (a 8)))), (aI k (a 5) 10 (vv n0 see0 tm0 g0)), (aI k (a 6) 24 ff0), (aI k (a 7) 24 fp0), (aI k (a 8) 4 fl0), ((a 50), .inr (3, (fX3 (a 51) (a 52) rf3 (nI rc3) (nI rr3)))), (aI k (a 51) 24 rs3), (aI k (a 52) 24 rb3), ((a 53), .inr (4, (fX4 (a 54) (a 55) (nI cc) (nI rz) ro (nI sd__36))))] hP hD
          clear hP hD
          obtain ⟨hP, hD⟩ := hQ9
          try dsimp only at hw_36
          refine lv_i2l (v := r_36.toInt64) hx hb dX7_evening_71 rfl ?_
          refine lv_ladd hx hb dX7_evening_72 ?_
          refine lv_topl (fun x_37 ex_37 => ?_)
          refine lv_lstore (lv' := [(4, .long x_37), (6, .int (nI kk_32)), (0, .ref (a 0)), (1, .int 0), (2, .int 3), (3, .int (nI nn_31))]) hx hb dX7_evening_73 hl (by decide) rfl (fun ls hl => ?_)
          refine lv_iinc (v := (nI (kk_32 + 1))) (lv' := [(6, .int (nI (kk_32 + 1))), (4, .long x_37), (0, .ref (a 0)), (1, .int 0), (2, .int 3), (3, .int (nI nn_31))]) hx hb dX7_evening_75 hl (k := 1) rfl (nI_add kk_32 1) (by decide) rfl (fun ls hl => ?_)
          refine lv_goto (tgt := 40) hx hb dX7_evening_78 (by decide) ?_
          have hes_38 := evN_s hv_32.2.2.1 hv_32.2.2.2 hw_36.1 ex_37
          exact ih_32 _ (kk_32 + 1, x_37, sd__36) _ _ _ (by omega) ⟨rfl, ⟨by omega, hw_36.2, hes_38.1, hes_38.2⟩, (hP.sub [0, 1, 2, 23, 24, 25, 26, 27, 3, 4, 5, 6, 7, 8, 9, 10, 11, 12, 13, 14, 15, 16, 17, 18, 19, 20, 21, 28, 29, 30, 31, 22] rfl), (hD.sub [0, 1, 2, 23, 24, 25, 26, 27, 3, 4, 5, 6, 7, 8, 9, 10, 11, 12, 13, 14, 15, 16, 17, 18, 19, 20, 21, 28, 29, 30, 31, 22] (by decide +kernel) rfl), hS, (lv_sub hl [0, 1, 2, 3, 4, 5] rfl)⟩
      · refine lv_if_ne (tgt := 34) hx hb dX7_evening_27 (by decide) (fun h => absurd (by decide) h) (fun _ => ?_)
        refine lv_sipush (v := (-1002)) hx hb dX7_evening_30 (by decide) ?_
        obtain ⟨hP9, hD9⟩ := pd_sub [((a 0), .inr (7, (fX7 (a 1) (a 3) (a 19) (a 35) (a 40) (nI rk) lfa (a 53) (a 56) (a 63) (a 64) (a 68)))), ((a 3), .inl (k 3, 3, .inr (.inr (.inr (.inr (a3 (a 4) (a 9) (a 14))))))), ((a 40), .inl (k 5, 4, .inr (.inr (.inr (.inr (a4 (a 41) (a 44) (a 47) (a 50))))))), ((a 4), .inr (5, (fX5 (a 5) (a 6) (a 7) (a 8)))), (aI k (a 5) 10 (vv n0 see0 tm0 g0)), (aI k (a 6) 24 ff0), (aI k (a 7) 24 fp0), (aI k (a 8) 4 fl0), ((a 9), .inr (5, (fX5 (a 10) (a 11) (a 12) (a 13)))), (aI k (a 10) 10 (vv n1 see1 tm1 g1)), (aI k (a 11) 24 ff1), (aI k (a 12) 24 fp1), (aI k (a 13) 4 fl1), ((a 14), .inr (5, (fX5 (a 15) (a 16) (a 17) (a 18)))), (aI k (a 15) 10 (vv n2 see2 tm2 g2)), (aI k (a 16) 24 ff2), (aI k (a 17) 24 fp2), (aI k (a 18) 4 fl2), ((a 41), .inr (3, (fX3 (a 42) (a 43) rf0 (nI rc0) (nI rr0)))), (aI k (a 42) 24 rs0), (aI k (a 43) 24 rb0), ((a 44), .inr (3, (fX3 (a 45) (a 46) rf1 (nI rc1) (nI rr1)))), (aI k (a 45) 24 rs1), (aI k (a 46) 24 rb1), ((a 47), .inr (3, (fX3 (a 48) (a 49) rf2 (nI rc2) (nI rr2)))), (aI k (a 48) 24 rs2), (aI k (a 49) 24 rb2), ((a 50), .inr (3, (fX3 (a 51) (a 52) rf3 (nI rc3) (nI rr3)))), (aI k (a 51) 24 rs3), (aI k (a 52) 24 rb3), ((a 53), .inr (4, (fX4 (a 54) (a 55) (nI cc) (nI rz) ro (nI v9)))), ((a 64), .inr (2, (fX2 (a 65) (a 66) (a 67) wt wc)))] [0, 1, 2, 3, 4, 5, 6, 7, 8, 9, 10, 11, 12, 13, 14, 15, 16, 17, 18, 19, 20, 21, 22, 23, 24, 25, 26, 27, 28, 29, 30, 31] hP hD (by decide +kernel) rfl
        exact W.iret (v := (-1002)) hx hb hr (fun t ht hW => ⟨⟨(-1002), (nI v9), rfl, ev_at (s := 0) (t := 3) (by omega) (by omega) (by omega) (show 0 < n0 by omega) (show evA p2 (nI v9) (sdX n0 see0 tm0 g0 ff0 fp0) (ruX rf3 rc3 rr3 rs3 rb3) _ _ from ev_o hw_30), by rw [ht]; exact hP9, hD9⟩, hS.F ht⟩) hS.2.2 dX7_evening_33
    · refine lv_if_ne (tgt := 20) hx hb dX7_evening_13 (by decide) (fun h => absurd (by decide) h) (fun _ => ?_)
      refine lv_sipush (v := (-1001)) hx hb dX7_evening_16 (by decide) ?_
      obtain ⟨hP9, hD9⟩ := pd_sub [((a 0), .inr (7, (fX7 (a 1) (a 3) (a 19) (a 35) (a 40) (nI rk) lfa (a 53) (a 56) (a 63) (a 64) (a 68)))), ((a 3), .inl (k 3, 3, .inr (.inr (.inr (.inr (a3 (a 4) (a 9) (a 14))))))), ((a 40), .inl (k 5, 4, .inr (.inr (.inr (.inr (a4 (a 41) (a 44) (a 47) (a 50))))))), ((a 4), .inr (5, (fX5 (a 5) (a 6) (a 7) (a 8)))), (aI k (a 5) 10 (vv n0 see0 tm0 g0)), (aI k (a 6) 24 ff0), (aI k (a 7) 24 fp0), (aI k (a 8) 4 fl0), ((a 9), .inr (5, (fX5 (a 10) (a 11) (a 12) (a 13)))), (aI k (a 10) 10 (vv n1 see1 tm1 g1)), (aI k (a 11) 24 ff1), (aI k (a 12) 24 fp1), (aI k (a 13) 4 fl1), ((a 14), .inr (5, (fX5 (a 15) (a 16) (a 17) (a 18)))), (aI k (a 15) 10 (vv n2 see2 tm2 g2)), (aI k (a 16) 24 ff2), (aI k (a 17) 24 fp2), (aI k (a 18) 4 fl2), ((a 41), .inr (3, (fX3 (a 42) (a 43) rf0 (nI rc0) (nI rr0)))), (aI k (a 42) 24 rs0), (aI k (a 43) 24 rb0), ((a 44), .inr (3, (fX3 (a 45) (a 46) rf1 (nI rc1) (nI rr1)))), (aI k (a 45) 24 rs1), (aI k (a 46) 24 rb1), ((a 47), .inr (3, (fX3 (a 48) (a 49) rf2 (nI rc2) (nI rr2)))), (aI k (a 48) 24 rs2), (aI k (a 49) 24 rb2), ((a 50), .inr (3, (fX3 (a 51) (a 52) rf3 (nI rc3) (nI rr3)))), (aI k (a 51) 24 rs3), (aI k (a 52) 24 rb3), ((a 53), .inr (4, (fX4 (a 54) (a 55) (nI cc) (nI rz) ro (nI v9)))), ((a 64), .inr (2, (fX2 (a 65) (a 66) (a 67) wt wc)))] [0, 1, 2, 3, 4, 5, 6, 7, 8, 9, 10, 11, 12, 13, 14, 15, 16, 17, 18, 19, 20, 21, 22, 23, 24, 25, 26, 27, 28, 29, 30, 31] hP hD (by decide +kernel) rfl
      exact W.iret (v := (-1001)) hx hb hr (fun t ht hW => ⟨⟨(-1001), (nI v9), rfl, ev_no1 hw_2, by rw [ht]; exact hP9, hD9⟩, hS.F ht⟩) hS.2.2 dX7_evening_19
  · refine lv_if_eq (tgt := 16) hx hb dX7_evening_5 (by decide) (fun h => absurd h (by decide)) (fun _ => ?_)
    refine lv_aload_n hx hb dX7_evening_8 rfl (lv_at hl 0 rfl) ?_
    refine lv_iload_n hx hb dX7_evening_9 rfl (lv_at hl 2 rfl) ?_
    refine ro_i (D := D) (va_runV (As := [.int p1]) (rest := []) ⟨hx, hb, hml, hown, hts⟩ ((y_isRule l D k st lo a rk lfa p1 (by first | assumption | omega)) H.size) (cwV 1 hts (gV tw_697 tw_699 tw_15 tw_79 tw_700) rfl rfl rfl (by decide +kernel) ⟨Nat.le_of_ble_eq_true rfl, Nat.le_of_ble_eq_true rfl⟩) (pV hS hAlo hlo hP hK (va_Dlo hD hAlo) hZ [0] (by decide) rfl (ci := 7) (q := (RX7, TX7, 12)) (q0 := 0) rfl rfl) rfl rfl hl.1 rfl (lv_room (Nat.le_of_ble_eq_true rfl)) dX7_evening_10 ⟨Nat.le_of_ble_eq_true rfl, Nat.le_of_ble_eq_true rfl⟩) hS hA hP (fun r_39 H locs hw_39 hP hS => ?_)
    try dsimp only at hw_39
    rcases hw_39 with ⟨rfl, ⟨rfl, hw_39⟩ | ⟨rfl, hw_39⟩ | ⟨rfl, hw_39⟩ | ⟨rfl, hw_39⟩⟩ | ⟨rfl, hw_39⟩
    · refine lv_if_ne (tgt := 20) hx hb dX7_evening_13 (by decide) (fun _ => ?_) (fun h => absurd h (by decide))
      refine lv_iload_n hx hb dX7_evening_20 rfl (lv_at hl 3 rfl) ?_
      refine lv_iconst (v := 1) hx hb dX7_evening_21 (by decide) ?_
      refine lv_bipush (v := 50) hx hb dX7_evening_22 (by decide) ?_
      refine ro_i (D := D) (va_runS (As := [.int p2, .int 1, .int 50]) (rest := []) ⟨hx, hb, hml, hown, hts⟩ ((k_isIn l D k st lo p2 1 50) H.size) (va_cwS 3 hts (gS tw_593 tw_594 tw_79 tw_595) rfl rfl rfl (by decide +kernel) ⟨Nat.le_of_ble_eq_true rfl, Nat.le_of_ble_eq_true rfl⟩) (pS hS hAlo hlo hP hK (va_Dlo hD hAlo) hZ [] (by decide) rfl) rfl rfl hl.1 rfl (lv_room (Nat.le_of_ble_eq_true rfl)) dX7_evening_24 ⟨Nat.le_of_ble_eq_true rfl, Nat.le_of_ble_eq_true rfl⟩) hS hA hP (fun r_40 H locs hw_40 hP hS => ?_)
      try dsimp only at hw_40
      rcases hw_40 with ⟨rfl, hw_40⟩ | ⟨rfl, hw_40⟩
      · refine lv_if_ne (tgt := 34) hx hb dX7_evening_27 (by decide) (fun _ => ?_) (fun h => absurd h (by decide))
        have hin_41 := hw_40
        obtain ⟨nn_41, hnl_41, hnh_41, rfl⟩ := inB_ofc (a := 1) (b := 50) (by omega) (by omega) hw_40
        refine lv_lconst (v := 0) hx hb dX7_evening_34 (by decide) ?_
        refine lv_lstore (lv' := [(4, .long 0), (0, .ref (a 0)), (1, .int 1), (2, .int 0), (3, .int (nI nn_41))]) hx hb dX7_evening_35 hl (by decide) rfl (fun ls hl => ?_)
        refine lv_iconst (v := 0) hx hb dX7_evening_37 (by decide) ?_
        refine lv_istore (lv' := [(6, .int 0), (4, .long 0), (0, .ref (a 0)), (1, .int 1), (2, .int 0), (3, .int (nI nn_41))]) hx hb dX7_evening_38 hl (by decide) rfl (fun ls hl => ?_)
        refine W_loop (σ := Nat × Int64 × Nat) (fun (n_ : Nat) (x_ : Nat × Int64 × Nat) (H : Heap) (locs : List Loc) (ls : Array Slot) => match x_ with | (kk_42, al_42, sd2_42) => n_ = 51 - kk_42 ∧ (kk_42 ≤ nn_41 ∧ sd2_42 < 2147483648 ∧ al_42 = (evN (sdX n1 see1 tm1 g1 ff1 fp1) (ruX rf0 rc0 rr0 rs0 rb0) (min rr0 tm1) v9 kk_42).1 ∧ sd2_42 = (evN (sdX n1 see1 tm1 g1 ff1 fp1) (ruX rf0 rc0 rr0 rs0 rb0) (min rr0 tm1) v9 kk_42).2) ∧ va_P D classes [((a 0), .inr (7, (fX7 (a 1) (a 3) (a 19) (a 35) (a 40) (nI rk) lfa (a 53) (a 56) (a 63) (a 64) (a 68)))), ((a 3), .inl (k 3, 3, .inr (.inr (.inr (.inr (a3 (a 4) (a 9) (a 14))))))), ((a 40), .inl (k 5, 4, .inr (.inr (.inr (.inr (a4 (a 41) (a 44) (a 47) (a 50))))))), ((a 4), .inr (5, (fX5 (a 5) (a 6) (a 7) (a 8)))), (aI k (a 5) 10 (vv n0 see0 tm0 g0)), (aI k (a 6) 24 ff0), (aI k (a 7) 24 fp0), (aI k (a 8) 4 fl0), ((a 9), .inr (5, (fX5 (a 10) (a 11) (a 12) (a 13)))), (aI k (a 10) 10 (vv n1 see1 tm1 g1)), (aI k (a 11) 24 ff1), (aI k (a 12) 24 fp1), (aI k (a 13) 4 fl1), ((a 14), .inr (5, (fX5 (a 15) (a 16) (a 17) (a 18)))), (aI k (a 15) 10 (vv n2 see2 tm2 g2)), (aI k (a 16) 24 ff2), (aI k (a 17) 24 fp2), (aI k (a 18) 4 fl2), ((a 41), .inr (3, (fX3 (a 42) (a 43) rf0 (nI rc0) (nI rr0)))), (aI k (a 42) 24 rs0), (aI k (a 43) 24 rb0), ((a 44), .inr (3, (fX3 (a 45) (a 46) rf1 (nI rc1) (nI rr1)))), (aI k (a 45) 24 rs1), (aI k (a 46) 24 rb1), ((a 47), .inr (3, (fX3 (a 48) (a 49) rf2 (nI rc2) (nI rr2)))), (aI k (a 48) 24 rs2), (aI k (a 49) 24 rb2), ((a 50), .inr (3, (fX3 (a 51) (a 52) rf3 (nI rc3) (nI rr3)))), (aI k (a 51) 24 rs3), (aI k (a 52) 24 rb3), ((a 53), .inr (4, (fX4 (a 54) (a 55) (nI cc) (nI rz) ro (nI sd2_42)))), ((a 64), .inr (2, (fX2 (a 65) (a 66) (a 67) wt wc)))] H ∧ va_D A [((a 0), .inr (7, (fX7 (a 1) (a 3) (a 19) (a 35) (a 40) (nI rk) lfa (a 53) (a 56) (a 63) (a 64) (a 68)))), ((a 3), .inl (k 3, 3, .inr (.inr (.inr (.inr (a3 (a 4) (a 9) (a 14))))))), ((a 40), .inl (k 5, 4, .inr (.inr (.inr (.inr (a4 (a 41) (a 44) (a 47) (a 50))))))), ((a 4), .inr (5, (fX5 (a 5) (a 6) (a 7) (a 8)))), (aI k (a 5) 10 (vv n0 see0 tm0 g0)), (aI k (a 6) 24 ff0), (aI k (a 7) 24 fp0), (aI k (a 8) 4 fl0), ((a 9), .inr (5, (fX5 (a 10) (a 11) (a 12) (a 13)))), (aI k (a 10) 10 (vv n1 see1 tm1 g1)), (aI k (a 11) 24 ff1), (aI k (a 12) 24 fp1), (aI k (a 13) 4 fl1), ((a 14), .inr (5, (fX5 (a 15) (a 16) (a 17) (a 18)))), (aI k (a 15) 10 (vv n2 see2 tm2 g2)), (aI k (a 16) 24 ff2), (aI k (a 17) 24 fp2), (aI k (a 18) 4 fl2), ((a 41), .inr (3, (fX3 (a 42) (a 43) rf0 (nI rc0) (nI rr0)))), (aI k (a 42) 24 rs0), (aI k (a 43) 24 rb0), ((a 44), .inr (3, (fX3 (a 45) (a 46) rf1 (nI rc1) (nI rr1)))), (aI k (a 45) 24 rs1), (aI k (a 46) 24 rb1), ((a 47), .inr (3, (fX3 (a 48) (a 49) rf2 (nI rc2) (nI rr2)))), (aI k (a 48) 24 rs2), (aI k (a 49) 24 rb2), ((a 50), .inr (3, (fX3 (a 51) (a 52) rf3 (nI rc3) (nI rr3)))), (aI k (a 51) 24 rs3), (aI k (a 52) 24 rb3), ((a 53), .inr (4, (fX4 (a 54) (a 55) (nI cc) (nI rz) ro (nI sd2_42)))), ((a 64), .inr (2, (fX2 (a 65) (a 66) (a 67) wt wc)))] ∧ va_S A s.heap H locs ∧ lv_has ls 7 [(6, .int (nI kk_42)), (4, .long al_42), (0, .ref (a 0)), (1, .int 1), (2, .int 0), (3, .int (nI nn_41))]) (fun n_42 x_42 H locs ls hI ih_42 => ?_) _ (0, 0, v9) ⟨rfl, ⟨by omega, by omega, rfl, rfl⟩, hP, hD, hS, (lv_sub hl [0, 1, 2, 3, 4, 5] rfl)⟩
        obtain ⟨kk_42, al_42, sd2_42⟩ := x_42
        obtain ⟨hm_42, hv_42, hP, hD, hS, hl⟩ := hI
        subst hm_42
        refine lv_iload hx hb dX7_evening_40 (lv_at hl 0 rfl) ?_
        refine lv_iload_n hx hb dX7_evening_42 rfl (lv_at hl 5 rfl) ?_
        refine lv_icmp_ge (tgt := 81) hx hb dX7_evening_43 (by decide) (fun c_43 => ?_) (fun c_43 => ?_)
        · have c_43 := (nI_leI (a := nn_41) (b := kk_42) (by omega) (by omega)).mp c_43
          refine lv_lload hx hb dX7_evening_81 (lv_at hl 1 rfl) ?_
          refine lv_ldc2 hx hb hown (hts _ tw_940) dX7_evening_83 ?_
          refine lv_ldiv hx hb dX7_evening_86 (by decide) ?_
          refine lv_topl (fun x_44 ex_44 => ?_)
          refine lv_l2i hx hb dX7_evening_87 rfl ?_
          refine lv_topi (fun x_45 ex_45 => ?_)
          obtain ⟨hP9, hD9⟩ := pd_sub [((a 0), .inr (7, (fX7 (a 1) (a 3) (a 19) (a 35) (a 40) (nI rk) lfa (a 53) (a 56) (a 63) (a 64) (a 68)))), ((a 3), .inl (k 3, 3, .inr (.inr (.inr (.inr (a3 (a 4) (a 9) (a 14))))))), ((a 40), .inl (k 5, 4, .inr (.inr (.inr (.inr (a4 (a 41) (a 44) (a 47) (a 50))))))), ((a 4), .inr (5, (fX5 (a 5) (a 6) (a 7) (a 8)))), (aI k (a 5) 10 (vv n0 see0 tm0 g0)), (aI k (a 6) 24 ff0), (aI k (a 7) 24 fp0), (aI k (a 8) 4 fl0), ((a 9), .inr (5, (fX5 (a 10) (a 11) (a 12) (a 13)))), (aI k (a 10) 10 (vv n1 see1 tm1 g1)), (aI k (a 11) 24 ff1), (aI k (a 12) 24 fp1), (aI k (a 13) 4 fl1), ((a 14), .inr (5, (fX5 (a 15) (a 16) (a 17) (a 18)))), (aI k (a 15) 10 (vv n2 see2 tm2 g2)), (aI k (a 16) 24 ff2), (aI k (a 17) 24 fp2), (aI k (a 18) 4 fl2), ((a 41), .inr (3, (fX3 (a 42) (a 43) rf0 (nI rc0) (nI rr0)))), (aI k (a 42) 24 rs0), (aI k (a 43) 24 rb0), ((a 44), .inr (3, (fX3 (a 45) (a 46) rf1 (nI rc1) (nI rr1)))), (aI k (a 45) 24 rs1), (aI k (a 46) 24 rb1), ((a 47), .inr (3, (fX3 (a 48) (a 49) rf2 (nI rc2) (nI rr2)))), (aI k (a 48) 24 rs2), (aI k (a 49) 24 rb2), ((a 50), .inr (3, (fX3 (a 51) (a 52) rf3 (nI rc3) (nI rr3)))), (aI k (a 51) 24 rs3), (aI k (a 52) 24 rb3), ((a 53), .inr (4, (fX4 (a 54) (a 55) (nI cc) (nI rz) ro (nI sd2_42)))), ((a 64), .inr (2, (fX2 (a 65) (a 66) (a 67) wt wc)))] [0, 1, 2, 3, 4, 5, 6, 7, 8, 9, 10, 11, 12, 13, 14, 15, 16, 17, 18, 19, 20, 21, 22, 23, 24, 25, 26, 27, 28, 29, 30, 31] hP hD (by decide +kernel) rfl
          exact W.iret (v := x_45) hx hb hr (fun t ht hW => ⟨⟨x_45, (nI sd2_42), rfl, ev_at (s := 1) (t := 0) (by omega) (by omega) (by omega) (show 0 < n1 by omega) (show evA (nI nn_41) (nI v9) (sdX n1 see1 tm1 g1 ff1 fp1) (ruX rf0 rc0 rr0 rs0 rb0) _ _ from ev_i (a := al_42) (w := sd2_42) (by omega) hin_41 (by omega) (by rw [(show muD (sdX n1 see1 tm1 g1 ff1 fp1) (ruX rf0 rc0 rr0 rs0 rb0) = min rr0 tm1 by unfold muD; rw [tmX (by omega)]; exact congrArg (fun z => min z tm1) (nI_clamp (by omega))), show nn_41 = kk_42 by omega]; exact hv_42.2.2.1) (by rw [(show muD (sdX n1 see1 tm1 g1 ff1 fp1) (ruX rf0 rc0 rr0 rs0 rb0) = min rr0 tm1 by unfold muD; rw [tmX (by omega)]; exact congrArg (fun z => min z tm1) (nI_clamp (by omega))), show nn_41 = kk_42 by omega]; exact hv_42.2.2.2) (by rw [ex_45, ex_44])), by rw [ht]; exact hP9, hD9⟩, hS.F ht⟩) hS.2.2 dX7_evening_88
        · have c_43 : ¬ (nn_41 ≤ kk_42) := fun h => c_43 ((nI_leI (a := nn_41) (b := kk_42) (by omega) (by omega)).mpr h)
          refine lv_lload hx hb dX7_evening_46 (lv_at hl 1 rfl) ?_
          refine lv_aload_n hx hb dX7_evening_48 rfl (lv_at hl 2 rfl) ?_
          refine va_get (D := D) (ci := 7) (v := .ref (a 64)) (C := RX7) (T := TX7) (N := 12) hx hb hts inX7 hown hK hP 0 rfl rfl 10 (by decide) (hts _ tw_315) (fun _ h9 => h9) rfl dX7_evening_49 ?_
          refine lv_aload_n hx hb dX7_evening_52 rfl (lv_at hl 2 rfl) ?_
          refine va_get (D := D) (ci := 7) (v := .ref (a 3)) (C := RX7) (T := TX7) (N := 12) hx hb hts inX7 hown hK hP 0 rfl rfl 1 (by decide) (hts _ tw_306) (fun _ h9 => h9) rfl dX7_evening_53 ?_
          refine lv_iload_n hx hb dX7_evening_56 rfl (lv_at hl 3 rfl) ?_
          refine va_aldq hx hb hK hP 1 3 rfl rfl (by unfold vp_in; decide) dX7_evening_57 ?_
          refine lv_tr (y := .ref (a 9)) rfl ?_
          refine lv_aload_n hx hb dX7_evening_58 rfl (lv_at hl 2 rfl) ?_
          refine va_get (D := D) (ci := 7) (v := .ref (a 40)) (C := RX7) (T := TX7) (N := 12) hx hb hts inX7 hown hK hP 0 rfl rfl 4 (by decide) (hts _ tw_309) (fun _ h9 => h9) rfl dX7_evening_59 ?_
          refine lv_iload_n hx hb dX7_evening_62 rfl (lv_at hl 4 rfl) ?_
          refine va_aldq hx hb hK hP 2 5 rfl rfl (by unfold vp_in; decide) dX7_evening_63 ?_
          refine lv_tr (y := .ref (a 41)) rfl ?_
          refine lv_aload_n hx hb dX7_evening_64 rfl (lv_at hl 2 rfl) ?_
          refine va_get (D := D) (ci := 7) (v := .ref (a 53)) (C := RX7) (T := TX7) (N := 12) hx hb hts inX7 hown hK hP 0 rfl rfl 7 (by decide) (hts _ tw_312) (fun _ h9 => h9) rfl dX7_evening_65 ?_
          refine rw_i (D := D) (wr := [((a 0), .inr (7, (fX7 (a 1) (a 3) (a 19) (a 35) (a 40) (nI rk) lfa (a 53) (a 56) (a 63) (a 64) (a 68)))), ((a 3), .inl (k 3, 3, .inr (.inr (.inr (.inr (a3 (a 4) (a 9) (a 14))))))), ((a 40), .inl (k 5, 4, .inr (.inr (.inr (.inr (a4 (a 41) (a 44) (a 47) (a 50))))))), ((a 4), .inr (5, (fX5 (a 5) (a 6) (a 7) (a 8)))), (aI k (a 5) 10 (vv n0 see0 tm0 g0)), (aI k (a 6) 24 ff0), (aI k (a 7) 24 fp0), (aI k (a 8) 4 fl0), ((a 14), .inr (5, (fX5 (a 15) (a 16) (a 17) (a 18)))), (aI k (a 15) 10 (vv n2 see2 tm2 g2)), (aI k (a 16) 24 ff2), (aI k (a 17) 24 fp2), (aI k (a 18) 4 fl2), ((a 44), .inr (3, (fX3 (a 45) (a 46) rf1 (nI rc1) (nI rr1)))), (aI k (a 45) 24 rs1), (aI k (a 46) 24 rb1), ((a 47), .inr (3, (fX3 (a 48) (a 49) rf2 (nI rc2) (nI rr2)))), (aI k (a 48) 24 rs2), (aI k (a 49) 24 rb2), ((a 50), .inr (3, (fX3 (a 51) (a 52) rf3 (nI rc3) (nI rr3)))), (aI k (a 51) 24 rs3), (aI k (a 52) 24 rb3)]) (va_runV (As := [.ref (a 9), .ref (a 41), .ref (a 53)]) (rest := [.long al_42]) ⟨hx, hb, hml, hown, hts⟩ ((y_eveningOf l D k st lo (a 64) (a 65) (a 66) (a 67) wt wc (a 9) (a 10) (a 11) (a 12) (a 13) n1 see1 tm1 g1 ff1 fp1 fl1 (a 41) (a 42) (a 43) rf0 rc0 rr0 rs0 rb0 (a 53) (a 54) (a 55) cc rz ro sd2_42 (by first | assumption | omega) (by first | assumption | omega) (by first | assumption | omega) (by first | assumption | omega) (hlt 1 (by omega)) (hok 1 (by omega)) (by first | assumption | omega)) H.size) (cwV 3 hts (gV tw_928 tw_929 tw_930 tw_83 tw_931) rfl rfl rfl (by decide +kernel) ⟨Nat.le_of_ble_eq_true rfl, Nat.le_of_ble_eq_true rfl⟩) (pV hS hAlo hlo hP hK (va_Dlo hD hAlo) hZ [31, 8, 9, 10, 11, 12, 18, 19, 20, 30] (by decide +kernel) rfl (ci := 2) (q := (RX2, TX2, 5)) (q0 := 0) rfl rfl) rfl rfl hl.1 rfl (lv_room (Nat.le_of_ble_eq_true rfl)) dX7_evening_68 ⟨Nat.le_of_ble_eq_true rfl, Nat.le_of_ble_eq_true rfl⟩) hS hA hP hD [31, 8, 9, 10, 11, 12, 18, 19, 20, 30] [0, 1, 2, 3, 4, 5, 6, 7, 13, 14, 15, 16, 17, 21, 22, 23, 24, 25, 26, 27, 28, 29] rfl rfl (by decide +kernel) (by decide +kernel) (fun r_46 u H locs hw_46 hP hD hS => ?_)
          obtain ⟨sd__46, rfl⟩ : ∃ z, z = u := ⟨_, rfl⟩
          have hQ9 := pd_mk [((a 0), .inr (7, (fX7 (a 1) (a 3) (a 19) (a 35) (a 40) (nI rk) lfa (a 53) (a 56) (a 63) (a 64) (a 68)))), ((a 3), .inl (k 3, 3, .inr (.inr (.inr (.inr (a3 (a 4) (a 9) (a 14))))))), ((a 40), .inl (k 5, 4, .inr (.inr (.inr (.inr (a4 (a 41) (a 44) (a 47) (a 50))))))), ((a 4), .inr (5, (fX5 (a 5) (a 6) (a 7) (a 8)))), (aI k (a 5) 10 (vv n0 see0 tm0 g0)), (aI k (a 6) 24 ff0), (aI k (a 7) 24 fp0), (aI k (a 8) 4 fl0), ((a 14), .inr (5, (fX5 (a 15) (a 16) (a 17) (a 18)))), (aI k (a 15) 10 (vv n2 see2 tm2 g2)), (aI k (a 16) 24 ff2), (aI k (a 17) 24 fp2), (aI k (a 18) 4 fl2), ((a 44), .inr (3, (fX3 (a 45) (a 46) rf1 (nI rc1) (nI rr1)))), (aI k (a 45) 24 rs1), (aI k (a 46) 24 rb1), ((a 47), .inr (3, (fX3 (a 48) (a 49) rf2 (nI rc2) (nI rr2)))), (aI k (a 48) 24 rs2), (aI k (a 49) 24 rb2), ((a 50), .inr (3, (fX3 (a 51) (a 52) rf3 (nI rc3) (nI rr3)))), (aI k (a 51) 24 rs3), (aI k (a 52) 24 rb3), ((a 64), .inr (2, (fX2 (a 65) (a 66) (a 67) wt wc))), ((a 9), .inr (5, (fX5 (a 10) (a 11) (a 12) (a 13)))), (aI k (a 10) 10 (vv n1 see1 tm1 g1)), (aI k (a 11) 24 ff1), (aI k (a 12) 24 fp1), (aI k (a 13) 4 fl1), ((a 41), .inr (3, (fX3 (a 42) (a 43) rf0 (nI rc0) (nI rr0)))), (aI k (a 42) 24 rs0), (aI k (a 43) 24 rb0), ((a 53), .inr (4, (fX4 (a 54) (a 55) (nI cc) (nI rz) ro (nI sd__46))))] hP hD
          clear hP hD
          obtain ⟨hP, hD⟩ := hQ9
          try dsimp only at hw_46
          refine lv_i2l (v := r_46.toInt64) hx hb dX7_evening_71 rfl ?_
          refine lv_ladd hx hb dX7_evening_72 ?_
          refine lv_topl (fun x_47 ex_47 => ?_)
          refine lv_lstore (lv' := [(4, .long x_47), (6, .int (nI kk_42)), (0, .ref (a 0)), (1, .int 1), (2, .int 0), (3, .int (nI nn_41))]) hx hb dX7_evening_73 hl (by decide) rfl (fun ls hl => ?_)
          refine lv_iinc (v := (nI (kk_42 + 1))) (lv' := [(6, .int (nI (kk_42 + 1))), (4, .long x_47), (0, .ref (a 0)), (1, .int 1), (2, .int 0), (3, .int (nI nn_41))]) hx hb dX7_evening_75 hl (k := 1) rfl (nI_add kk_42 1) (by decide) rfl (fun ls hl => ?_)
          refine lv_goto (tgt := 40) hx hb dX7_evening_78 (by decide) ?_
          have hes_48 := evN_s hv_42.2.2.1 hv_42.2.2.2 hw_46.1 ex_47
          exact ih_42 _ (kk_42 + 1, x_47, sd__46) _ _ _ (by omega) ⟨rfl, ⟨by omega, hw_46.2, hes_48.1, hes_48.2⟩, (hP.sub [0, 1, 2, 3, 4, 5, 6, 7, 23, 24, 25, 26, 27, 8, 9, 10, 11, 12, 28, 29, 30, 13, 14, 15, 16, 17, 18, 19, 20, 21, 31, 22] rfl), (hD.sub [0, 1, 2, 3, 4, 5, 6, 7, 23, 24, 25, 26, 27, 8, 9, 10, 11, 12, 28, 29, 30, 13, 14, 15, 16, 17, 18, 19, 20, 21, 31, 22] (by decide +kernel) rfl), hS, (lv_sub hl [0, 1, 2, 3, 4, 5] rfl)⟩
      · refine lv_if_ne (tgt := 34) hx hb dX7_evening_27 (by decide) (fun h => absurd (by decide) h) (fun _ => ?_)
        refine lv_sipush (v := (-1002)) hx hb dX7_evening_30 (by decide) ?_
        obtain ⟨hP9, hD9⟩ := pd_sub [((a 0), .inr (7, (fX7 (a 1) (a 3) (a 19) (a 35) (a 40) (nI rk) lfa (a 53) (a 56) (a 63) (a 64) (a 68)))), ((a 3), .inl (k 3, 3, .inr (.inr (.inr (.inr (a3 (a 4) (a 9) (a 14))))))), ((a 40), .inl (k 5, 4, .inr (.inr (.inr (.inr (a4 (a 41) (a 44) (a 47) (a 50))))))), ((a 4), .inr (5, (fX5 (a 5) (a 6) (a 7) (a 8)))), (aI k (a 5) 10 (vv n0 see0 tm0 g0)), (aI k (a 6) 24 ff0), (aI k (a 7) 24 fp0), (aI k (a 8) 4 fl0), ((a 9), .inr (5, (fX5 (a 10) (a 11) (a 12) (a 13)))), (aI k (a 10) 10 (vv n1 see1 tm1 g1)), (aI k (a 11) 24 ff1), (aI k (a 12) 24 fp1), (aI k (a 13) 4 fl1), ((a 14), .inr (5, (fX5 (a 15) (a 16) (a 17) (a 18)))), (aI k (a 15) 10 (vv n2 see2 tm2 g2)), (aI k (a 16) 24 ff2), (aI k (a 17) 24 fp2), (aI k (a 18) 4 fl2), ((a 41), .inr (3, (fX3 (a 42) (a 43) rf0 (nI rc0) (nI rr0)))), (aI k (a 42) 24 rs0), (aI k (a 43) 24 rb0), ((a 44), .inr (3, (fX3 (a 45) (a 46) rf1 (nI rc1) (nI rr1)))), (aI k (a 45) 24 rs1), (aI k (a 46) 24 rb1), ((a 47), .inr (3, (fX3 (a 48) (a 49) rf2 (nI rc2) (nI rr2)))), (aI k (a 48) 24 rs2), (aI k (a 49) 24 rb2), ((a 50), .inr (3, (fX3 (a 51) (a 52) rf3 (nI rc3) (nI rr3)))), (aI k (a 51) 24 rs3), (aI k (a 52) 24 rb3), ((a 53), .inr (4, (fX4 (a 54) (a 55) (nI cc) (nI rz) ro (nI v9)))), ((a 64), .inr (2, (fX2 (a 65) (a 66) (a 67) wt wc)))] [0, 1, 2, 3, 4, 5, 6, 7, 8, 9, 10, 11, 12, 13, 14, 15, 16, 17, 18, 19, 20, 21, 22, 23, 24, 25, 26, 27, 28, 29, 30, 31] hP hD (by decide +kernel) rfl
        exact W.iret (v := (-1002)) hx hb hr (fun t ht hW => ⟨⟨(-1002), (nI v9), rfl, ev_at (s := 1) (t := 0) (by omega) (by omega) (by omega) (show 0 < n1 by omega) (show evA p2 (nI v9) (sdX n1 see1 tm1 g1 ff1 fp1) (ruX rf0 rc0 rr0 rs0 rb0) _ _ from ev_o hw_40), by rw [ht]; exact hP9, hD9⟩, hS.F ht⟩) hS.2.2 dX7_evening_33
    · refine lv_if_ne (tgt := 20) hx hb dX7_evening_13 (by decide) (fun _ => ?_) (fun h => absurd h (by decide))
      refine lv_iload_n hx hb dX7_evening_20 rfl (lv_at hl 3 rfl) ?_
      refine lv_iconst (v := 1) hx hb dX7_evening_21 (by decide) ?_
      refine lv_bipush (v := 50) hx hb dX7_evening_22 (by decide) ?_
      refine ro_i (D := D) (va_runS (As := [.int p2, .int 1, .int 50]) (rest := []) ⟨hx, hb, hml, hown, hts⟩ ((k_isIn l D k st lo p2 1 50) H.size) (va_cwS 3 hts (gS tw_593 tw_594 tw_79 tw_595) rfl rfl rfl (by decide +kernel) ⟨Nat.le_of_ble_eq_true rfl, Nat.le_of_ble_eq_true rfl⟩) (pS hS hAlo hlo hP hK (va_Dlo hD hAlo) hZ [] (by decide) rfl) rfl rfl hl.1 rfl (lv_room (Nat.le_of_ble_eq_true rfl)) dX7_evening_24 ⟨Nat.le_of_ble_eq_true rfl, Nat.le_of_ble_eq_true rfl⟩) hS hA hP (fun r_49 H locs hw_49 hP hS => ?_)
      try dsimp only at hw_49
      rcases hw_49 with ⟨rfl, hw_49⟩ | ⟨rfl, hw_49⟩
      · refine lv_if_ne (tgt := 34) hx hb dX7_evening_27 (by decide) (fun _ => ?_) (fun h => absurd h (by decide))
        have hin_50 := hw_49
        obtain ⟨nn_50, hnl_50, hnh_50, rfl⟩ := inB_ofc (a := 1) (b := 50) (by omega) (by omega) hw_49
        refine lv_lconst (v := 0) hx hb dX7_evening_34 (by decide) ?_
        refine lv_lstore (lv' := [(4, .long 0), (0, .ref (a 0)), (1, .int 1), (2, .int 1), (3, .int (nI nn_50))]) hx hb dX7_evening_35 hl (by decide) rfl (fun ls hl => ?_)
        refine lv_iconst (v := 0) hx hb dX7_evening_37 (by decide) ?_
        refine lv_istore (lv' := [(6, .int 0), (4, .long 0), (0, .ref (a 0)), (1, .int 1), (2, .int 1), (3, .int (nI nn_50))]) hx hb dX7_evening_38 hl (by decide) rfl (fun ls hl => ?_)
        refine W_loop (σ := Nat × Int64 × Nat) (fun (n_ : Nat) (x_ : Nat × Int64 × Nat) (H : Heap) (locs : List Loc) (ls : Array Slot) => match x_ with | (kk_51, al_51, sd2_51) => n_ = 51 - kk_51 ∧ (kk_51 ≤ nn_50 ∧ sd2_51 < 2147483648 ∧ al_51 = (evN (sdX n1 see1 tm1 g1 ff1 fp1) (ruX rf1 rc1 rr1 rs1 rb1) (min rr1 tm1) v9 kk_51).1 ∧ sd2_51 = (evN (sdX n1 see1 tm1 g1 ff1 fp1) (ruX rf1 rc1 rr1 rs1 rb1) (min rr1 tm1) v9 kk_51).2) ∧ va_P D classes [((a 0), .inr (7, (fX7 (a 1) (a 3) (a 19) (a 35) (a 40) (nI rk) lfa (a 53) (a 56) (a 63) (a 64) (a 68)))), ((a 3), .inl (k 3, 3, .inr (.inr (.inr (.inr (a3 (a 4) (a 9) (a 14))))))), ((a 40), .inl (k 5, 4, .inr (.inr (.inr (.inr (a4 (a 41) (a 44) (a 47) (a 50))))))), ((a 4), .inr (5, (fX5 (a 5) (a 6) (a 7) (a 8)))), (aI k (a 5) 10 (vv n0 see0 tm0 g0)), (aI k (a 6) 24 ff0), (aI k (a 7) 24 fp0), (aI k (a 8) 4 fl0), ((a 9), .inr (5, (fX5 (a 10) (a 11) (a 12) (a 13)))), (aI k (a 10) 10 (vv n1 see1 tm1 g1)), (aI k (a 11) 24 ff1), (aI k (a 12) 24 fp1), (aI k (a 13) 4 fl1), ((a 14), .inr (5, (fX5 (a 15) (a 16) (a 17) (a 18)))), (aI k (a 15) 10 (vv n2 see2 tm2 g2)), (aI k (a 16) 24 ff2), (aI k (a 17) 24 fp2), (aI k (a 18) 4 fl2), ((a 41), .inr (3, (fX3 (a 42) (a 43) rf0 (nI rc0) (nI rr0)))), (aI k (a 42) 24 rs0), (aI k (a 43) 24 rb0), ((a 44), .inr (3, (fX3 (a 45) (a 46) rf1 (nI rc1) (nI rr1)))), (aI k (a 45) 24 rs1), (aI k (a 46) 24 rb1), ((a 47), .inr (3, (fX3 (a 48) (a 49) rf2 (nI rc2) (nI rr2)))), (aI k (a 48) 24 rs2), (aI k (a 49) 24 rb2), ((a 50), .inr (3, (fX3 (a 51) (a 52) rf3 (nI rc3) (nI rr3)))), (aI k (a 51) 24 rs3), (aI k (a 52) 24 rb3), ((a 53), .inr (4, (fX4 (a 54) (a 55) (nI cc) (nI rz) ro (nI sd2_51)))), ((a 64), .inr (2, (fX2 (a 65) (a 66) (a 67) wt wc)))] H ∧ va_D A [((a 0), .inr (7, (fX7 (a 1) (a 3) (a 19) (a 35) (a 40) (nI rk) lfa (a 53) (a 56) (a 63) (a 64) (a 68)))), ((a 3), .inl (k 3, 3, .inr (.inr (.inr (.inr (a3 (a 4) (a 9) (a 14))))))), ((a 40), .inl (k 5, 4, .inr (.inr (.inr (.inr (a4 (a 41) (a 44) (a 47) (a 50))))))), ((a 4), .inr (5, (fX5 (a 5) (a 6) (a 7) (a 8)))), (aI k (a 5) 10 (vv n0 see0 tm0 g0)), (aI k (a 6) 24 ff0), (aI k (a 7) 24 fp0), (aI k (a 8) 4 fl0), ((a 9), .inr (5, (fX5 (a 10) (a 11) (a 12) (a 13)))), (aI k (a 10) 10 (vv n1 see1 tm1 g1)), (aI k (a 11) 24 ff1), (aI k (a 12) 24 fp1), (aI k (a 13) 4 fl1), ((a 14), .inr (5, (fX5 (a 15) (a 16) (a 17) (a 18)))), (aI k (a 15) 10 (vv n2 see2 tm2 g2)), (aI k (a 16) 24 ff2), (aI k (a 17) 24 fp2), (aI k (a 18) 4 fl2), ((a 41), .inr (3, (fX3 (a 42) (a 43) rf0 (nI rc0) (nI rr0)))), (aI k (a 42) 24 rs0), (aI k (a 43) 24 rb0), ((a 44), .inr (3, (fX3 (a 45) (a 46) rf1 (nI rc1) (nI rr1)))), (aI k (a 45) 24 rs1), (aI k (a 46) 24 rb1), ((a 47), .inr (3, (fX3 (a 48) (a 49) rf2 (nI rc2) (nI rr2)))), (aI k (a 48) 24 rs2), (aI k (a 49) 24 rb2), ((a 50), .inr (3, (fX3 (a 51) (a 52) rf3 (nI rc3) (nI rr3)))), (aI k (a 51) 24 rs3), (aI k (a 52) 24 rb3), ((a 53), .inr (4, (fX4 (a 54) (a 55) (nI cc) (nI rz) ro (nI sd2_51)))), ((a 64), .inr (2, (fX2 (a 65) (a 66) (a 67) wt wc)))] ∧ va_S A s.heap H locs ∧ lv_has ls 7 [(6, .int (nI kk_51)), (4, .long al_51), (0, .ref (a 0)), (1, .int 1), (2, .int 1), (3, .int (nI nn_50))]) (fun n_51 x_51 H locs ls hI ih_51 => ?_) _ (0, 0, v9) ⟨rfl, ⟨by omega, by omega, rfl, rfl⟩, hP, hD, hS, (lv_sub hl [0, 1, 2, 3, 4, 5] rfl)⟩
        obtain ⟨kk_51, al_51, sd2_51⟩ := x_51
        obtain ⟨hm_51, hv_51, hP, hD, hS, hl⟩ := hI
        subst hm_51
        refine lv_iload hx hb dX7_evening_40 (lv_at hl 0 rfl) ?_
        refine lv_iload_n hx hb dX7_evening_42 rfl (lv_at hl 5 rfl) ?_
        refine lv_icmp_ge (tgt := 81) hx hb dX7_evening_43 (by decide) (fun c_52 => ?_) (fun c_52 => ?_)
        · have c_52 := (nI_leI (a := nn_50) (b := kk_51) (by omega) (by omega)).mp c_52
          refine lv_lload hx hb dX7_evening_81 (lv_at hl 1 rfl) ?_
          refine lv_ldc2 hx hb hown (hts _ tw_940) dX7_evening_83 ?_
          refine lv_ldiv hx hb dX7_evening_86 (by decide) ?_
          refine lv_topl (fun x_53 ex_53 => ?_)
          refine lv_l2i hx hb dX7_evening_87 rfl ?_
          refine lv_topi (fun x_54 ex_54 => ?_)
          obtain ⟨hP9, hD9⟩ := pd_sub [((a 0), .inr (7, (fX7 (a 1) (a 3) (a 19) (a 35) (a 40) (nI rk) lfa (a 53) (a 56) (a 63) (a 64) (a 68)))), ((a 3), .inl (k 3, 3, .inr (.inr (.inr (.inr (a3 (a 4) (a 9) (a 14))))))), ((a 40), .inl (k 5, 4, .inr (.inr (.inr (.inr (a4 (a 41) (a 44) (a 47) (a 50))))))), ((a 4), .inr (5, (fX5 (a 5) (a 6) (a 7) (a 8)))), (aI k (a 5) 10 (vv n0 see0 tm0 g0)), (aI k (a 6) 24 ff0), (aI k (a 7) 24 fp0), (aI k (a 8) 4 fl0), ((a 9), .inr (5, (fX5 (a 10) (a 11) (a 12) (a 13)))), (aI k (a 10) 10 (vv n1 see1 tm1 g1)), (aI k (a 11) 24 ff1), (aI k (a 12) 24 fp1), (aI k (a 13) 4 fl1), ((a 14), .inr (5, (fX5 (a 15) (a 16) (a 17) (a 18)))), (aI k (a 15) 10 (vv n2 see2 tm2 g2)), (aI k (a 16) 24 ff2), (aI k (a 17) 24 fp2), (aI k (a 18) 4 fl2), ((a 41), .inr (3, (fX3 (a 42) (a 43) rf0 (nI rc0) (nI rr0)))), (aI k (a 42) 24 rs0), (aI k (a 43) 24 rb0), ((a 44), .inr (3, (fX3 (a 45) (a 46) rf1 (nI rc1) (nI rr1)))), (aI k (a 45) 24 rs1), (aI k (a 46) 24 rb1), ((a 47), .inr (3, (fX3 (a 48) (a 49) rf2 (nI rc2) (nI rr2)))), (aI k (a 48) 24 rs2), (aI k (a 49) 24 rb2), ((a 50), .inr (3, (fX3 (a 51) (a 52) rf3 (nI rc3) (nI rr3)))), (aI k (a 51) 24 rs3), (aI k (a 52) 24 rb3), ((a 53), .inr (4, (fX4 (a 54) (a 55) (nI cc) (nI rz) ro (nI sd2_51)))), ((a 64), .inr (2, (fX2 (a 65) (a 66) (a 67) wt wc)))] [0, 1, 2, 3, 4, 5, 6, 7, 8, 9, 10, 11, 12, 13, 14, 15, 16, 17, 18, 19, 20, 21, 22, 23, 24, 25, 26, 27, 28, 29, 30, 31] hP hD (by decide +kernel) rfl
          exact W.iret (v := x_54) hx hb hr (fun t ht hW => ⟨⟨x_54, (nI sd2_51), rfl, ev_at (s := 1) (t := 1) (by omega) (by omega) (by omega) (show 0 < n1 by omega) (show evA (nI nn_50) (nI v9) (sdX n1 see1 tm1 g1 ff1 fp1) (ruX rf1 rc1 rr1 rs1 rb1) _ _ from ev_i (a := al_51) (w := sd2_51) (by omega) hin_50 (by omega) (by rw [(show muD (sdX n1 see1 tm1 g1 ff1 fp1) (ruX rf1 rc1 rr1 rs1 rb1) = min rr1 tm1 by unfold muD; rw [tmX (by omega)]; exact congrArg (fun z => min z tm1) (nI_clamp (by omega))), show nn_50 = kk_51 by omega]; exact hv_51.2.2.1) (by rw [(show muD (sdX n1 see1 tm1 g1 ff1 fp1) (ruX rf1 rc1 rr1 rs1 rb1) = min rr1 tm1 by unfold muD; rw [tmX (by omega)]; exact congrArg (fun z => min z tm1) (nI_clamp (by omega))), show nn_50 = kk_51 by omega]; exact hv_51.2.2.2) (by rw [ex_54, ex_53])), by rw [ht]; exact hP9, hD9⟩, hS.F ht⟩) hS.2.2 dX7_evening_88
        · have c_52 : ¬ (nn_50 ≤ kk_51) := fun h => c_52 ((nI_leI (a := nn_50) (b := kk_51) (by omega) (by omega)).mpr h)
          refine lv_lload hx hb dX7_evening_46 (lv_at hl 1 rfl) ?_
          refine lv_aload_n hx hb dX7_evening_48 rfl (lv_at hl 2 rfl) ?_
          refine va_get (D := D) (ci := 7) (v := .ref (a 64)) (C := RX7) (T := TX7) (N := 12) hx hb hts inX7 hown hK hP 0 rfl rfl 10 (by decide) (hts _ tw_315) (fun _ h9 => h9) rfl dX7_evening_49 ?_
          refine lv_aload_n hx hb dX7_evening_52 rfl (lv_at hl 2 rfl) ?_
          refine va_get (D := D) (ci := 7) (v := .ref (a 3)) (C := RX7) (T := TX7) (N := 12) hx hb hts inX7 hown hK hP 0 rfl rfl 1 (by decide) (hts _ tw_306) (fun _ h9 => h9) rfl dX7_evening_53 ?_
          refine lv_iload_n hx hb dX7_evening_56 rfl (lv_at hl 3 rfl) ?_
          refine va_aldq hx hb hK hP 1 3 rfl rfl (by unfold vp_in; decide) dX7_evening_57 ?_
          refine lv_tr (y := .ref (a 9)) rfl ?_
          refine lv_aload_n hx hb dX7_evening_58 rfl (lv_at hl 2 rfl) ?_
          refine va_get (D := D) (ci := 7) (v := .ref (a 40)) (C := RX7) (T := TX7) (N := 12) hx hb hts inX7 hown hK hP 0 rfl rfl 4 (by decide) (hts _ tw_309) (fun _ h9 => h9) rfl dX7_evening_59 ?_
          refine lv_iload_n hx hb dX7_evening_62 rfl (lv_at hl 4 rfl) ?_
          refine va_aldq hx hb hK hP 2 5 rfl rfl (by unfold vp_in; decide) dX7_evening_63 ?_
          refine lv_tr (y := .ref (a 44)) rfl ?_
          refine lv_aload_n hx hb dX7_evening_64 rfl (lv_at hl 2 rfl) ?_
          refine va_get (D := D) (ci := 7) (v := .ref (a 53)) (C := RX7) (T := TX7) (N := 12) hx hb hts inX7 hown hK hP 0 rfl rfl 7 (by decide) (hts _ tw_312) (fun _ h9 => h9) rfl dX7_evening_65 ?_
          refine rw_i (D := D) (wr := [((a 0), .inr (7, (fX7 (a 1) (a 3) (a 19) (a 35) (a 40) (nI rk) lfa (a 53) (a 56) (a 63) (a 64) (a 68)))), ((a 3), .inl (k 3, 3, .inr (.inr (.inr (.inr (a3 (a 4) (a 9) (a 14))))))), ((a 40), .inl (k 5, 4, .inr (.inr (.inr (.inr (a4 (a 41) (a 44) (a 47) (a 50))))))), ((a 4), .inr (5, (fX5 (a 5) (a 6) (a 7) (a 8)))), (aI k (a 5) 10 (vv n0 see0 tm0 g0)), (aI k (a 6) 24 ff0), (aI k (a 7) 24 fp0), (aI k (a 8) 4 fl0), ((a 14), .inr (5, (fX5 (a 15) (a 16) (a 17) (a 18)))), (aI k (a 15) 10 (vv n2 see2 tm2 g2)), (aI k (a 16) 24 ff2), (aI k (a 17) 24 fp2), (aI k (a 18) 4 fl2), ((a 41), .inr (3, (fX3 (a 42) (a 43) rf0 (nI rc0) (nI rr0)))), (aI k (a 42) 24 rs0), (aI k (a 43) 24 rb0), ((a 47), .inr (3, (fX3 (a 48) (a 49) rf2 (nI rc2) (nI rr2)))), (aI k (a 48) 24 rs2), (aI k (a 49) 24 rb2), ((a 50), .inr (3, (fX3 (a 51) (a 52) rf3 (nI rc3) (nI rr3)))), (aI k (a 51) 24 rs3), (aI k (a 52) 24 rb3)]) (va_runV (As := [.ref (a 9), .ref (a 44), .ref (a 53)]) (rest := [.long al_51]) ⟨hx, hb, hml, hown, hts⟩ ((y_eveningOf l D k st lo (a 64) (a 65) (a 66) (a 67) wt wc (a 9) (a 10) (a 11) (a 12) (a 13) n1 see1 tm1 g1 ff1 fp1 fl1 (a 44) (a 45) (a 46) rf1 rc1 rr1 rs1 rb1 (a 53) (a 54) (a 55) cc rz ro sd2_51 (by first | assumption | omega) (by first | assumption | omega) (by first | assumption | omega) (by first | assumption | omega) (hlt 1 (by omega)) (hok 1 (by omega)) (by first | assumption | omega)) H.size) (cwV 3 hts (gV tw_928 tw_929 tw_930 tw_83 tw_931) rfl rfl rfl (by decide +kernel) ⟨Nat.le_of_ble_eq_true rfl, Nat.le_of_ble_eq_true rfl⟩) (pV hS hAlo hlo hP hK (va_Dlo hD hAlo) hZ [31, 8, 9, 10, 11, 12, 21, 22, 23, 30] (by decide +kernel) rfl (ci := 2) (q := (RX2, TX2, 5)) (q0 := 0) rfl rfl) rfl rfl hl.1 rfl (lv_room (Nat.le_of_ble_eq_true rfl)) dX7_evening_68 ⟨Nat.le_of_ble_eq_true rfl, Nat.le_of_ble_eq_true rfl⟩) hS hA hP hD [31, 8, 9, 10, 11, 12, 21, 22, 23, 30] [0, 1, 2, 3, 4, 5, 6, 7, 13, 14, 15, 16, 17, 18, 19, 20, 24, 25, 26, 27, 28, 29] rfl rfl (by decide +kernel) (by decide +kernel) (fun r_55 u H locs hw_55 hP hD hS => ?_)
          obtain ⟨sd__55, rfl⟩ : ∃ z, z = u := ⟨_, rfl⟩
          have hQ9 := pd_mk [((a 0), .inr (7, (fX7 (a 1) (a 3) (a 19) (a 35) (a 40) (nI rk) lfa (a 53) (a 56) (a 63) (a 64) (a 68)))), ((a 3), .inl (k 3, 3, .inr (.inr (.inr (.inr (a3 (a 4) (a 9) (a 14))))))), ((a 40), .inl (k 5, 4, .inr (.inr (.inr (.inr (a4 (a 41) (a 44) (a 47) (a 50))))))), ((a 4), .inr (5, (fX5 (a 5) (a 6) (a 7) (a 8)))), (aI k (a 5) 10 (vv n0 see0 tm0 g0)), (aI k (a 6) 24 ff0), (aI k (a 7) 24 fp0), (aI k (a 8) 4 fl0), ((a 14), .inr (5, (fX5 (a 15) (a 16) (a 17) (a 18)))), (aI k (a 15) 10 (vv n2 see2 tm2 g2)), (aI k (a 16) 24 ff2), (aI k (a 17) 24 fp2), (aI k (a 18) 4 fl2), ((a 41), .inr (3, (fX3 (a 42) (a 43) rf0 (nI rc0) (nI rr0)))), (aI k (a 42) 24 rs0), (aI k (a 43) 24 rb0), ((a 47), .inr (3, (fX3 (a 48) (a 49) rf2 (nI rc2) (nI rr2)))), (aI k (a 48) 24 rs2), (aI k (a 49) 24 rb2), ((a 50), .inr (3, (fX3 (a 51) (a 52) rf3 (nI rc3) (nI rr3)))), (aI k (a 51) 24 rs3), (aI k (a 52) 24 rb3), ((a 64), .inr (2, (fX2 (a 65) (a 66) (a 67) wt wc))), ((a 9), .inr (5, (fX5 (a 10) (a 11) (a 12) (a 13)))), (aI k (a 10) 10 (vv n1 see1 tm1 g1)), (aI k (a 11) 24 ff1), (aI k (a 12) 24 fp1), (aI k (a 13) 4 fl1), ((a 44), .inr (3, (fX3 (a 45) (a 46) rf1 (nI rc1) (nI rr1)))), (aI k (a 45) 24 rs1), (aI k (a 46) 24 rb1), ((a 53), .inr (4, (fX4 (a 54) (a 55) (nI cc) (nI rz) ro (nI sd__55))))] hP hD
          clear hP hD
          obtain ⟨hP, hD⟩ := hQ9
          try dsimp only at hw_55
          refine lv_i2l (v := r_55.toInt64) hx hb dX7_evening_71 rfl ?_
          refine lv_ladd hx hb dX7_evening_72 ?_
          refine lv_topl (fun x_56 ex_56 => ?_)
          refine lv_lstore (lv' := [(4, .long x_56), (6, .int (nI kk_51)), (0, .ref (a 0)), (1, .int 1), (2, .int 1), (3, .int (nI nn_50))]) hx hb dX7_evening_73 hl (by decide) rfl (fun ls hl => ?_)
          refine lv_iinc (v := (nI (kk_51 + 1))) (lv' := [(6, .int (nI (kk_51 + 1))), (4, .long x_56), (0, .ref (a 0)), (1, .int 1), (2, .int 1), (3, .int (nI nn_50))]) hx hb dX7_evening_75 hl (k := 1) rfl (nI_add kk_51 1) (by decide) rfl (fun ls hl => ?_)
          refine lv_goto (tgt := 40) hx hb dX7_evening_78 (by decide) ?_
          have hes_57 := evN_s hv_51.2.2.1 hv_51.2.2.2 hw_55.1 ex_56
          exact ih_51 _ (kk_51 + 1, x_56, sd__55) _ _ _ (by omega) ⟨rfl, ⟨by omega, hw_55.2, hes_57.1, hes_57.2⟩, (hP.sub [0, 1, 2, 3, 4, 5, 6, 7, 23, 24, 25, 26, 27, 8, 9, 10, 11, 12, 13, 14, 15, 28, 29, 30, 16, 17, 18, 19, 20, 21, 31, 22] rfl), (hD.sub [0, 1, 2, 3, 4, 5, 6, 7, 23, 24, 25, 26, 27, 8, 9, 10, 11, 12, 13, 14, 15, 28, 29, 30, 16, 17, 18, 19, 20, 21, 31, 22] (by decide +kernel) rfl), hS, (lv_sub hl [0, 1, 2, 3, 4, 5] rfl)⟩
      · refine lv_if_ne (tgt := 34) hx hb dX7_evening_27 (by decide) (fun h => absurd (by decide) h) (fun _ => ?_)
        refine lv_sipush (v := (-1002)) hx hb dX7_evening_30 (by decide) ?_
        obtain ⟨hP9, hD9⟩ := pd_sub [((a 0), .inr (7, (fX7 (a 1) (a 3) (a 19) (a 35) (a 40) (nI rk) lfa (a 53) (a 56) (a 63) (a 64) (a 68)))), ((a 3), .inl (k 3, 3, .inr (.inr (.inr (.inr (a3 (a 4) (a 9) (a 14))))))), ((a 40), .inl (k 5, 4, .inr (.inr (.inr (.inr (a4 (a 41) (a 44) (a 47) (a 50))))))), ((a 4), .inr (5, (fX5 (a 5) (a 6) (a 7) (a 8)))), (aI k (a 5) 10 (vv n0 see0 tm0 g0)), (aI k (a 6) 24 ff0), (aI k (a 7) 24 fp0), (aI k (a 8) 4 fl0), ((a 9), .inr (5, (fX5 (a 10) (a 11) (a 12) (a 13)))), (aI k (a 10) 10 (vv n1 see1 tm1 g1)), (aI k (a 11) 24 ff1), (aI k (a 12) 24 fp1), (aI k (a 13) 4 fl1), ((a 14), .inr (5, (fX5 (a 15) (a 16) (a 17) (a 18)))), (aI k (a 15) 10 (vv n2 see2 tm2 g2)), (aI k (a 16) 24 ff2), (aI k (a 17) 24 fp2), (aI k (a 18) 4 fl2), ((a 41), .inr (3, (fX3 (a 42) (a 43) rf0 (nI rc0) (nI rr0)))), (aI k (a 42) 24 rs0), (aI k (a 43) 24 rb0), ((a 44), .inr (3, (fX3 (a 45) (a 46) rf1 (nI rc1) (nI rr1)))), (aI k (a 45) 24 rs1), (aI k (a 46) 24 rb1), ((a 47), .inr (3, (fX3 (a 48) (a 49) rf2 (nI rc2) (nI rr2)))), (aI k (a 48) 24 rs2), (aI k (a 49) 24 rb2), ((a 50), .inr (3, (fX3 (a 51) (a 52) rf3 (nI rc3) (nI rr3)))), (aI k (a 51) 24 rs3), (aI k (a 52) 24 rb3), ((a 53), .inr (4, (fX4 (a 54) (a 55) (nI cc) (nI rz) ro (nI v9)))), ((a 64), .inr (2, (fX2 (a 65) (a 66) (a 67) wt wc)))] [0, 1, 2, 3, 4, 5, 6, 7, 8, 9, 10, 11, 12, 13, 14, 15, 16, 17, 18, 19, 20, 21, 22, 23, 24, 25, 26, 27, 28, 29, 30, 31] hP hD (by decide +kernel) rfl
        exact W.iret (v := (-1002)) hx hb hr (fun t ht hW => ⟨⟨(-1002), (nI v9), rfl, ev_at (s := 1) (t := 1) (by omega) (by omega) (by omega) (show 0 < n1 by omega) (show evA p2 (nI v9) (sdX n1 see1 tm1 g1 ff1 fp1) (ruX rf1 rc1 rr1 rs1 rb1) _ _ from ev_o hw_49), by rw [ht]; exact hP9, hD9⟩, hS.F ht⟩) hS.2.2 dX7_evening_33
    · refine lv_if_ne (tgt := 20) hx hb dX7_evening_13 (by decide) (fun _ => ?_) (fun h => absurd h (by decide))
      refine lv_iload_n hx hb dX7_evening_20 rfl (lv_at hl 3 rfl) ?_
      refine lv_iconst (v := 1) hx hb dX7_evening_21 (by decide) ?_
      refine lv_bipush (v := 50) hx hb dX7_evening_22 (by decide) ?_
      refine ro_i (D := D) (va_runS (As := [.int p2, .int 1, .int 50]) (rest := []) ⟨hx, hb, hml, hown, hts⟩ ((k_isIn l D k st lo p2 1 50) H.size) (va_cwS 3 hts (gS tw_593 tw_594 tw_79 tw_595) rfl rfl rfl (by decide +kernel) ⟨Nat.le_of_ble_eq_true rfl, Nat.le_of_ble_eq_true rfl⟩) (pS hS hAlo hlo hP hK (va_Dlo hD hAlo) hZ [] (by decide) rfl) rfl rfl hl.1 rfl (lv_room (Nat.le_of_ble_eq_true rfl)) dX7_evening_24 ⟨Nat.le_of_ble_eq_true rfl, Nat.le_of_ble_eq_true rfl⟩) hS hA hP (fun r_58 H locs hw_58 hP hS => ?_)
      try dsimp only at hw_58
      rcases hw_58 with ⟨rfl, hw_58⟩ | ⟨rfl, hw_58⟩
      · refine lv_if_ne (tgt := 34) hx hb dX7_evening_27 (by decide) (fun _ => ?_) (fun h => absurd h (by decide))
        have hin_59 := hw_58
        obtain ⟨nn_59, hnl_59, hnh_59, rfl⟩ := inB_ofc (a := 1) (b := 50) (by omega) (by omega) hw_58
        refine lv_lconst (v := 0) hx hb dX7_evening_34 (by decide) ?_
        refine lv_lstore (lv' := [(4, .long 0), (0, .ref (a 0)), (1, .int 1), (2, .int 2), (3, .int (nI nn_59))]) hx hb dX7_evening_35 hl (by decide) rfl (fun ls hl => ?_)
        refine lv_iconst (v := 0) hx hb dX7_evening_37 (by decide) ?_
        refine lv_istore (lv' := [(6, .int 0), (4, .long 0), (0, .ref (a 0)), (1, .int 1), (2, .int 2), (3, .int (nI nn_59))]) hx hb dX7_evening_38 hl (by decide) rfl (fun ls hl => ?_)
        refine W_loop (σ := Nat × Int64 × Nat) (fun (n_ : Nat) (x_ : Nat × Int64 × Nat) (H : Heap) (locs : List Loc) (ls : Array Slot) => match x_ with | (kk_60, al_60, sd2_60) => n_ = 51 - kk_60 ∧ (kk_60 ≤ nn_59 ∧ sd2_60 < 2147483648 ∧ al_60 = (evN (sdX n1 see1 tm1 g1 ff1 fp1) (ruX rf2 rc2 rr2 rs2 rb2) (min rr2 tm1) v9 kk_60).1 ∧ sd2_60 = (evN (sdX n1 see1 tm1 g1 ff1 fp1) (ruX rf2 rc2 rr2 rs2 rb2) (min rr2 tm1) v9 kk_60).2) ∧ va_P D classes [((a 0), .inr (7, (fX7 (a 1) (a 3) (a 19) (a 35) (a 40) (nI rk) lfa (a 53) (a 56) (a 63) (a 64) (a 68)))), ((a 3), .inl (k 3, 3, .inr (.inr (.inr (.inr (a3 (a 4) (a 9) (a 14))))))), ((a 40), .inl (k 5, 4, .inr (.inr (.inr (.inr (a4 (a 41) (a 44) (a 47) (a 50))))))), ((a 4), .inr (5, (fX5 (a 5) (a 6) (a 7) (a 8)))), (aI k (a 5) 10 (vv n0 see0 tm0 g0)), (aI k (a 6) 24 ff0), (aI k (a 7) 24 fp0), (aI k (a 8) 4 fl0), ((a 9), .inr (5, (fX5 (a 10) (a 11) (a 12) (a 13)))), (aI k (a 10) 10 (vv n1 see1 tm1 g1)), (aI k (a 11) 24 ff1), (aI k (a 12) 24 fp1), (aI k (a 13) 4 fl1), ((a 14), .inr (5, (fX5 (a 15) (a 16) (a 17) (a 18)))), (aI k (a 15) 10 (vv n2 see2 tm2 g2)), (aI k (a 16) 24 ff2), (aI k (a 17) 24 fp2), (aI k (a 18) 4 fl2), ((a 41), .inr (3, (fX3 (a 42) (a 43) rf0 (nI rc0) (nI rr0)))), (aI k (a 42) 24 rs0), (aI k (a 43) 24 rb0), ((a 44), .inr (3, (fX3 (a 45) (a 46) rf1 (nI rc1) (nI rr1)))), (aI k (a 45) 24 rs1), (aI k (a 46) 24 rb1), ((a 47), .inr (3, (fX3 (a 48) (a 49) rf2 (nI rc2) (nI rr2)))), (aI k (a 48) 24 rs2), (aI k (a 49) 24 rb2), ((a 50), .inr (3, (fX3 (a 51) (a 52) rf3 (nI rc3) (nI rr3)))), (aI k (a 51) 24 rs3), (aI k (a 52) 24 rb3), ((a 53), .inr (4, (fX4 (a 54) (a 55) (nI cc) (nI rz) ro (nI sd2_60)))), ((a 64), .inr (2, (fX2 (a 65) (a 66) (a 67) wt wc)))] H ∧ va_D A [((a 0), .inr (7, (fX7 (a 1) (a 3) (a 19) (a 35) (a 40) (nI rk) lfa (a 53) (a 56) (a 63) (a 64) (a 68)))), ((a 3), .inl (k 3, 3, .inr (.inr (.inr (.inr (a3 (a 4) (a 9) (a 14))))))), ((a 40), .inl (k 5, 4, .inr (.inr (.inr (.inr (a4 (a 41) (a 44) (a 47) (a 50))))))), ((a 4), .inr (5, (fX5 (a 5) (a 6) (a 7) (a 8)))), (aI k (a 5) 10 (vv n0 see0 tm0 g0)), (aI k (a 6) 24 ff0), (aI k (a 7) 24 fp0), (aI k (a 8) 4 fl0), ((a 9), .inr (5, (fX5 (a 10) (a 11) (a 12) (a 13)))), (aI k (a 10) 10 (vv n1 see1 tm1 g1)), (aI k (a 11) 24 ff1), (aI k (a 12) 24 fp1), (aI k (a 13) 4 fl1), ((a 14), .inr (5, (fX5 (a 15) (a 16) (a 17) (a 18)))), (aI k (a 15) 10 (vv n2 see2 tm2 g2)), (aI k (a 16) 24 ff2), (aI k (a 17) 24 fp2), (aI k (a 18) 4 fl2), ((a 41), .inr (3, (fX3 (a 42) (a 43) rf0 (nI rc0) (nI rr0)))), (aI k (a 42) 24 rs0), (aI k (a 43) 24 rb0), ((a 44), .inr (3, (fX3 (a 45) (a 46) rf1 (nI rc1) (nI rr1)))), (aI k (a 45) 24 rs1), (aI k (a 46) 24 rb1), ((a 47), .inr (3, (fX3 (a 48) (a 49) rf2 (nI rc2) (nI rr2)))), (aI k (a 48) 24 rs2), (aI k (a 49) 24 rb2), ((a 50), .inr (3, (fX3 (a 51) (a 52) rf3 (nI rc3) (nI rr3)))), (aI k (a 51) 24 rs3), (aI k (a 52) 24 rb3), ((a 53), .inr (4, (fX4 (a 54) (a 55) (nI cc) (nI rz) ro (nI sd2_60)))), ((a 64), .inr (2, (fX2 (a 65) (a 66) (a 67) wt wc)))] ∧ va_S A s.heap H locs ∧ lv_has ls 7 [(6, .int (nI kk_60)), (4, .long al_60), (0, .ref (a 0)), (1, .int 1), (2, .int 2), (3, .int (nI nn_59))]) (fun n_60 x_60 H locs ls hI ih_60 => ?_) _ (0, 0, v9) ⟨rfl, ⟨by omega, by omega, rfl, rfl⟩, hP, hD, hS, (lv_sub hl [0, 1, 2, 3, 4, 5] rfl)⟩
        obtain ⟨kk_60, al_60, sd2_60⟩ := x_60
        obtain ⟨hm_60, hv_60, hP, hD, hS, hl⟩ := hI
        subst hm_60
        refine lv_iload hx hb dX7_evening_40 (lv_at hl 0 rfl) ?_
        refine lv_iload_n hx hb dX7_evening_42 rfl (lv_at hl 5 rfl) ?_
        refine lv_icmp_ge (tgt := 81) hx hb dX7_evening_43 (by decide) (fun c_61 => ?_) (fun c_61 => ?_)
        · have c_61 := (nI_leI (a := nn_59) (b := kk_60) (by omega) (by omega)).mp c_61
          refine lv_lload hx hb dX7_evening_81 (lv_at hl 1 rfl) ?_
          refine lv_ldc2 hx hb hown (hts _ tw_940) dX7_evening_83 ?_
          refine lv_ldiv hx hb dX7_evening_86 (by decide) ?_
          refine lv_topl (fun x_62 ex_62 => ?_)
          refine lv_l2i hx hb dX7_evening_87 rfl ?_
          refine lv_topi (fun x_63 ex_63 => ?_)
          obtain ⟨hP9, hD9⟩ := pd_sub [((a 0), .inr (7, (fX7 (a 1) (a 3) (a 19) (a 35) (a 40) (nI rk) lfa (a 53) (a 56) (a 63) (a 64) (a 68)))), ((a 3), .inl (k 3, 3, .inr (.inr (.inr (.inr (a3 (a 4) (a 9) (a 14))))))), ((a 40), .inl (k 5, 4, .inr (.inr (.inr (.inr (a4 (a 41) (a 44) (a 47) (a 50))))))), ((a 4), .inr (5, (fX5 (a 5) (a 6) (a 7) (a 8)))), (aI k (a 5) 10 (vv n0 see0 tm0 g0)), (aI k (a 6) 24 ff0), (aI k (a 7) 24 fp0), (aI k (a 8) 4 fl0), ((a 9), .inr (5, (fX5 (a 10) (a 11) (a 12) (a 13)))), (aI k (a 10) 10 (vv n1 see1 tm1 g1)), (aI k (a 11) 24 ff1), (aI k (a 12) 24 fp1), (aI k (a 13) 4 fl1), ((a 14), .inr (5, (fX5 (a 15) (a 16) (a 17) (a 18)))), (aI k (a 15) 10 (vv n2 see2 tm2 g2)), (aI k (a 16) 24 ff2), (aI k (a 17) 24 fp2), (aI k (a 18) 4 fl2), ((a 41), .inr (3, (fX3 (a 42) (a 43) rf0 (nI rc0) (nI rr0)))), (aI k (a 42) 24 rs0), (aI k (a 43) 24 rb0), ((a 44), .inr (3, (fX3 (a 45) (a 46) rf1 (nI rc1) (nI rr1)))), (aI k (a 45) 24 rs1), (aI k (a 46) 24 rb1), ((a 47), .inr (3, (fX3 (a 48) (a 49) rf2 (nI rc2) (nI rr2)))), (aI k (a 48) 24 rs2), (aI k (a 49) 24 rb2), ((a 50), .inr (3, (fX3 (a 51) (a 52) rf3 (nI rc3) (nI rr3)))), (aI k (a 51) 24 rs3), (aI k (a 52) 24 rb3), ((a 53), .inr (4, (fX4 (a 54) (a 55) (nI cc) (nI rz) ro (nI sd2_60)))), ((a 64), .inr (2, (fX2 (a 65) (a 66) (a 67) wt wc)))] [0, 1, 2, 3, 4, 5, 6, 7, 8, 9, 10, 11, 12, 13, 14, 15, 16, 17, 18, 19, 20, 21, 22, 23, 24, 25, 26, 27, 28, 29, 30, 31] hP hD (by decide +kernel) rfl
          exact W.iret (v := x_63) hx hb hr (fun t ht hW => ⟨⟨x_63, (nI sd2_60), rfl, ev_at (s := 1) (t := 2) (by omega) (by omega) (by omega) (show 0 < n1 by omega) (show evA (nI nn_59) (nI v9) (sdX n1 see1 tm1 g1 ff1 fp1) (ruX rf2 rc2 rr2 rs2 rb2) _ _ from ev_i (a := al_60) (w := sd2_60) (by omega) hin_59 (by omega) (by rw [(show muD (sdX n1 see1 tm1 g1 ff1 fp1) (ruX rf2 rc2 rr2 rs2 rb2) = min rr2 tm1 by unfold muD; rw [tmX (by omega)]; exact congrArg (fun z => min z tm1) (nI_clamp (by omega))), show nn_59 = kk_60 by omega]; exact hv_60.2.2.1) (by rw [(show muD (sdX n1 see1 tm1 g1 ff1 fp1) (ruX rf2 rc2 rr2 rs2 rb2) = min rr2 tm1 by unfold muD; rw [tmX (by omega)]; exact congrArg (fun z => min z tm1) (nI_clamp (by omega))), show nn_59 = kk_60 by omega]; exact hv_60.2.2.2) (by rw [ex_63, ex_62])), by rw [ht]; exact hP9, hD9⟩, hS.F ht⟩) hS.2.2 dX7_evening_88
        · have c_61 : ¬ (nn_59 ≤ kk_60) := fun h => c_61 ((nI_leI (a := nn_59) (b := kk_60) (by omega) (by omega)).mpr h)
          refine lv_lload hx hb dX7_evening_46 (lv_at hl 1 rfl) ?_
          refine lv_aload_n hx hb dX7_evening_48 rfl (lv_at hl 2 rfl) ?_
          refine va_get (D := D) (ci := 7) (v := .ref (a 64)) (C := RX7) (T := TX7) (N := 12) hx hb hts inX7 hown hK hP 0 rfl rfl 10 (by decide) (hts _ tw_315) (fun _ h9 => h9) rfl dX7_evening_49 ?_
          refine lv_aload_n hx hb dX7_evening_52 rfl (lv_at hl 2 rfl) ?_
          refine va_get (D := D) (ci := 7) (v := .ref (a 3)) (C := RX7) (T := TX7) (N := 12) hx hb hts inX7 hown hK hP 0 rfl rfl 1 (by decide) (hts _ tw_306) (fun _ h9 => h9) rfl dX7_evening_53 ?_
          refine lv_iload_n hx hb dX7_evening_56 rfl (lv_at hl 3 rfl) ?_
          refine va_aldq hx hb hK hP 1 3 rfl rfl (by unfold vp_in; decide) dX7_evening_57 ?_
          refine lv_tr (y := .ref (a 9)) rfl ?_
          refine lv_aload_n hx hb dX7_evening_58 rfl (lv_at hl 2 rfl) ?_
          refine va_get (D := D) (ci := 7) (v := .ref (a 40)) (C := RX7) (T := TX7) (N := 12) hx hb hts inX7 hown hK hP 0 rfl rfl 4 (by decide) (hts _ tw_309) (fun _ h9 => h9) rfl dX7_evening_59 ?_
          refine lv_iload_n hx hb dX7_evening_62 rfl (lv_at hl 4 rfl) ?_
          refine va_aldq hx hb hK hP 2 5 rfl rfl (by unfold vp_in; decide) dX7_evening_63 ?_
          refine lv_tr (y := .ref (a 47)) rfl ?_
          refine lv_aload_n hx hb dX7_evening_64 rfl (lv_at hl 2 rfl) ?_
          refine va_get (D := D) (ci := 7) (v := .ref (a 53)) (C := RX7) (T := TX7) (N := 12) hx hb hts inX7 hown hK hP 0 rfl rfl 7 (by decide) (hts _ tw_312) (fun _ h9 => h9) rfl dX7_evening_65 ?_
          refine rw_i (D := D) (wr := [((a 0), .inr (7, (fX7 (a 1) (a 3) (a 19) (a 35) (a 40) (nI rk) lfa (a 53) (a 56) (a 63) (a 64) (a 68)))), ((a 3), .inl (k 3, 3, .inr (.inr (.inr (.inr (a3 (a 4) (a 9) (a 14))))))), ((a 40), .inl (k 5, 4, .inr (.inr (.inr (.inr (a4 (a 41) (a 44) (a 47) (a 50))))))), ((a 4), .inr (5, (fX5 (a 5) (a 6) (a 7) (a 8)))), (aI k (a 5) 10 (vv n0 see0 tm0 g0)), (aI k (a 6) 24 ff0), (aI k (a 7) 24 fp0), (aI k (a 8) 4 fl0), ((a 14), .inr (5, (fX5 (a 15) (a 16) (a 17) (a 18)))), (aI k (a 15) 10 (vv n2 see2 tm2 g2)), (aI k (a 16) 24 ff2), (aI k (a 17) 24 fp2), (aI k (a 18) 4 fl2), ((a 41), .inr (3, (fX3 (a 42) (a 43) rf0 (nI rc0) (nI rr0)))), (aI k (a 42) 24 rs0), (aI k (a 43) 24 rb0), ((a 44), .inr (3, (fX3 (a 45) (a 46) rf1 (nI rc1) (nI rr1)))), (aI k (a 45) 24 rs1), (aI k (a 46) 24 rb1), ((a 50), .inr (3, (fX3 (a 51) (a 52) rf3 (nI rc3) (nI rr3)))), (aI k (a 51) 24 rs3), (aI k (a 52) 24 rb3)]) (va_runV (As := [.ref (a 9), .ref (a 47), .ref (a 53)]) (rest := [.long al_60]) ⟨hx, hb, hml, hown, hts⟩ ((y_eveningOf l D k st lo (a 64) (a 65) (a 66) (a 67) wt wc (a 9) (a 10) (a 11) (a 12) (a 13) n1 see1 tm1 g1 ff1 fp1 fl1 (a 47) (a 48) (a 49) rf2 rc2 rr2 rs2 rb2 (a 53) (a 54) (a 55) cc rz ro sd2_60 (by first | assumption | omega) (by first | assumption | omega) (by first | assumption | omega) (by first | assumption | omega) (hlt 1 (by omega)) (hok 1 (by omega)) (by first | assumption | omega)) H.size) (cwV 3 hts (gV tw_928 tw_929 tw_930 tw_83 tw_931) rfl rfl rfl (by decide +kernel) ⟨Nat.le_of_ble_eq_true rfl, Nat.le_of_ble_eq_true rfl⟩) (pV hS hAlo hlo hP hK (va_Dlo hD hAlo) hZ [31, 8, 9, 10, 11, 12, 24, 25, 26, 30] (by decide +kernel) rfl (ci := 2) (q := (RX2, TX2, 5)) (q0 := 0) rfl rfl) rfl rfl hl.1 rfl (lv_room (Nat.le_of_ble_eq_true rfl)) dX7_evening_68 ⟨Nat.le_of_ble_eq_true rfl, Nat.le_of_ble_eq_true rfl⟩) hS hA hP hD [31, 8, 9, 10, 11, 12, 24, 25, 26, 30] [0, 1, 2, 3, 4, 5, 6, 7, 13, 14, 15, 16, 17, 18, 19, 20, 21, 22, 23, 27, 28, 29] rfl rfl (by decide +kernel) (by decide +kernel) (fun r_64 u H locs hw_64 hP hD hS => ?_)
          obtain ⟨sd__64, rfl⟩ : ∃ z, z = u := ⟨_, rfl⟩
          have hQ9 := pd_mk [((a 0), .inr (7, (fX7 (a 1) (a 3) (a 19) (a 35) (a 40) (nI rk) lfa (a 53) (a 56) (a 63) (a 64) (a 68)))), ((a 3), .inl (k 3, 3, .inr (.inr (.inr (.inr (a3 (a 4) (a 9) (a 14))))))), ((a 40), .inl (k 5, 4, .inr (.inr (.inr (.inr (a4 (a 41) (a 44) (a 47) (a 50))))))), ((a 4), .inr (5, (fX5 (a 5) (a 6) (a 7) (a 8)))), (aI k (a 5) 10 (vv n0 see0 tm0 g0)), (aI k (a 6) 24 ff0), (aI k (a 7) 24 fp0), (aI k (a 8) 4 fl0), ((a 14), .inr (5, (fX5 (a 15) (a 16) (a 17) (a 18)))), (aI k (a 15) 10 (vv n2 see2 tm2 g2)), (aI k (a 16) 24 ff2), (aI k (a 17) 24 fp2), (aI k (a 18) 4 fl2), ((a 41), .inr (3, (fX3 (a 42) (a 43) rf0 (nI rc0) (nI rr0)))), (aI k (a 42) 24 rs0), (aI k (a 43) 24 rb0), ((a 44), .inr (3, (fX3 (a 45) (a 46) rf1 (nI rc1) (nI rr1)))), (aI k (a 45) 24 rs1), (aI k (a 46) 24 rb1), ((a 50), .inr (3, (fX3 (a 51) (a 52) rf3 (nI rc3) (nI rr3)))), (aI k (a 51) 24 rs3), (aI k (a 52) 24 rb3), ((a 64), .inr (2, (fX2 (a 65) (a 66) (a 67) wt wc))), ((a 9), .inr (5, (fX5 (a 10) (a 11) (a 12) (a 13)))), (aI k (a 10) 10 (vv n1 see1 tm1 g1)), (aI k (a 11) 24 ff1), (aI k (a 12) 24 fp1), (aI k (a 13) 4 fl1), ((a 47), .inr (3, (fX3 (a 48) (a 49) rf2 (nI rc2) (nI rr2)))), (aI k (a 48) 24 rs2), (aI k (a 49) 24 rb2), ((a 53), .inr (4, (fX4 (a 54) (a 55) (nI cc) (nI rz) ro (nI sd__64))))] hP hD
          clear hP hD
          obtain ⟨hP, hD⟩ := hQ9
          try dsimp only at hw_64
          refine lv_i2l (v := r_64.toInt64) hx hb dX7_evening_71 rfl ?_
          refine lv_ladd hx hb dX7_evening_72 ?_
          refine lv_topl (fun x_65 ex_65 => ?_)
          refine lv_lstore (lv' := [(4, .long x_65), (6, .int (nI kk_60)), (0, .ref (a 0)), (1, .int 1), (2, .int 2), (3, .int (nI nn_59))]) hx hb dX7_evening_73 hl (by decide) rfl (fun ls hl => ?_)
          refine lv_iinc (v := (nI (kk_60 + 1))) (lv' := [(6, .int (nI (kk_60 + 1))), (4, .long x_65), (0, .ref (a 0)), (1, .int 1), (2, .int 2), (3, .int (nI nn_59))]) hx hb dX7_evening_75 hl (k := 1) rfl (nI_add kk_60 1) (by decide) rfl (fun ls hl => ?_)
          refine lv_goto (tgt := 40) hx hb dX7_evening_78 (by decide) ?_
          have hes_66 := evN_s hv_60.2.2.1 hv_60.2.2.2 hw_64.1 ex_65
          exact ih_60 _ (kk_60 + 1, x_65, sd__64) _ _ _ (by omega) ⟨rfl, ⟨by omega, hw_64.2, hes_66.1, hes_66.2⟩, (hP.sub [0, 1, 2, 3, 4, 5, 6, 7, 23, 24, 25, 26, 27, 8, 9, 10, 11, 12, 13, 14, 15, 16, 17, 18, 28, 29, 30, 19, 20, 21, 31, 22] rfl), (hD.sub [0, 1, 2, 3, 4, 5, 6, 7, 23, 24, 25, 26, 27, 8, 9, 10, 11, 12, 13, 14, 15, 16, 17, 18, 28, 29, 30, 19, 20, 21, 31, 22] (by decide +kernel) rfl), hS, (lv_sub hl [0, 1, 2, 3, 4, 5] rfl)⟩
      · refine lv_if_ne (tgt := 34) hx hb dX7_evening_27 (by decide) (fun h => absurd (by decide) h) (fun _ => ?_)
        refine lv_sipush (v := (-1002)) hx hb dX7_evening_30 (by decide) ?_
        obtain ⟨hP9, hD9⟩ := pd_sub [((a 0), .inr (7, (fX7 (a 1) (a 3) (a 19) (a 35) (a 40) (nI rk) lfa (a 53) (a 56) (a 63) (a 64) (a 68)))), ((a 3), .inl (k 3, 3, .inr (.inr (.inr (.inr (a3 (a 4) (a 9) (a 14))))))), ((a 40), .inl (k 5, 4, .inr (.inr (.inr (.inr (a4 (a 41) (a 44) (a 47) (a 50))))))), ((a 4), .inr (5, (fX5 (a 5) (a 6) (a 7) (a 8)))), (aI k (a 5) 10 (vv n0 see0 tm0 g0)), (aI k (a 6) 24 ff0), (aI k (a 7) 24 fp0), (aI k (a 8) 4 fl0), ((a 9), .inr (5, (fX5 (a 10) (a 11) (a 12) (a 13)))), (aI k (a 10) 10 (vv n1 see1 tm1 g1)), (aI k (a 11) 24 ff1), (aI k (a 12) 24 fp1), (aI k (a 13) 4 fl1), ((a 14), .inr (5, (fX5 (a 15) (a 16) (a 17) (a 18)))), (aI k (a 15) 10 (vv n2 see2 tm2 g2)), (aI k (a 16) 24 ff2), (aI k (a 17) 24 fp2), (aI k (a 18) 4 fl2), ((a 41), .inr (3, (fX3 (a 42) (a 43) rf0 (nI rc0) (nI rr0)))), (aI k (a 42) 24 rs0), (aI k (a 43) 24 rb0), ((a 44), .inr (3, (fX3 (a 45) (a 46) rf1 (nI rc1) (nI rr1)))), (aI k (a 45) 24 rs1), (aI k (a 46) 24 rb1), ((a 47), .inr (3, (fX3 (a 48) (a 49) rf2 (nI rc2) (nI rr2)))), (aI k (a 48) 24 rs2), (aI k (a 49) 24 rb2), ((a 50), .inr (3, (fX3 (a 51) (a 52) rf3 (nI rc3) (nI rr3)))), (aI k (a 51) 24 rs3), (aI k (a 52) 24 rb3), ((a 53), .inr (4, (fX4 (a 54) (a 55) (nI cc) (nI rz) ro (nI v9)))), ((a 64), .inr (2, (fX2 (a 65) (a 66) (a 67) wt wc)))] [0, 1, 2, 3, 4, 5, 6, 7, 8, 9, 10, 11, 12, 13, 14, 15, 16, 17, 18, 19, 20, 21, 22, 23, 24, 25, 26, 27, 28, 29, 30, 31] hP hD (by decide +kernel) rfl
        exact W.iret (v := (-1002)) hx hb hr (fun t ht hW => ⟨⟨(-1002), (nI v9), rfl, ev_at (s := 1) (t := 2) (by omega) (by omega) (by omega) (show 0 < n1 by omega) (show evA p2 (nI v9) (sdX n1 see1 tm1 g1 ff1 fp1) (ruX rf2 rc2 rr2 rs2 rb2) _ _ from ev_o hw_58), by rw [ht]; exact hP9, hD9⟩, hS.F ht⟩) hS.2.2 dX7_evening_33
    · refine lv_if_ne (tgt := 20) hx hb dX7_evening_13 (by decide) (fun _ => ?_) (fun h => absurd h (by decide))
      refine lv_iload_n hx hb dX7_evening_20 rfl (lv_at hl 3 rfl) ?_
      refine lv_iconst (v := 1) hx hb dX7_evening_21 (by decide) ?_
      refine lv_bipush (v := 50) hx hb dX7_evening_22 (by decide) ?_
      refine ro_i (D := D) (va_runS (As := [.int p2, .int 1, .int 50]) (rest := []) ⟨hx, hb, hml, hown, hts⟩ ((k_isIn l D k st lo p2 1 50) H.size) (va_cwS 3 hts (gS tw_593 tw_594 tw_79 tw_595) rfl rfl rfl (by decide +kernel) ⟨Nat.le_of_ble_eq_true rfl, Nat.le_of_ble_eq_true rfl⟩) (pS hS hAlo hlo hP hK (va_Dlo hD hAlo) hZ [] (by decide) rfl) rfl rfl hl.1 rfl (lv_room (Nat.le_of_ble_eq_true rfl)) dX7_evening_24 ⟨Nat.le_of_ble_eq_true rfl, Nat.le_of_ble_eq_true rfl⟩) hS hA hP (fun r_67 H locs hw_67 hP hS => ?_)
      try dsimp only at hw_67
      rcases hw_67 with ⟨rfl, hw_67⟩ | ⟨rfl, hw_67⟩
      · refine lv_if_ne (tgt := 34) hx hb dX7_evening_27 (by decide) (fun _ => ?_) (fun h => absurd h (by decide))
        have hin_68 := hw_67
        obtain ⟨nn_68, hnl_68, hnh_68, rfl⟩ := inB_ofc (a := 1) (b := 50) (by omega) (by omega) hw_67
        refine lv_lconst (v := 0) hx hb dX7_evening_34 (by decide) ?_
        refine lv_lstore (lv' := [(4, .long 0), (0, .ref (a 0)), (1, .int 1), (2, .int 3), (3, .int (nI nn_68))]) hx hb dX7_evening_35 hl (by decide) rfl (fun ls hl => ?_)
        refine lv_iconst (v := 0) hx hb dX7_evening_37 (by decide) ?_
        refine lv_istore (lv' := [(6, .int 0), (4, .long 0), (0, .ref (a 0)), (1, .int 1), (2, .int 3), (3, .int (nI nn_68))]) hx hb dX7_evening_38 hl (by decide) rfl (fun ls hl => ?_)
        refine W_loop (σ := Nat × Int64 × Nat) (fun (n_ : Nat) (x_ : Nat × Int64 × Nat) (H : Heap) (locs : List Loc) (ls : Array Slot) => match x_ with | (kk_69, al_69, sd2_69) => n_ = 51 - kk_69 ∧ (kk_69 ≤ nn_68 ∧ sd2_69 < 2147483648 ∧ al_69 = (evN (sdX n1 see1 tm1 g1 ff1 fp1) (ruX rf3 rc3 rr3 rs3 rb3) (min rr3 tm1) v9 kk_69).1 ∧ sd2_69 = (evN (sdX n1 see1 tm1 g1 ff1 fp1) (ruX rf3 rc3 rr3 rs3 rb3) (min rr3 tm1) v9 kk_69).2) ∧ va_P D classes [((a 0), .inr (7, (fX7 (a 1) (a 3) (a 19) (a 35) (a 40) (nI rk) lfa (a 53) (a 56) (a 63) (a 64) (a 68)))), ((a 3), .inl (k 3, 3, .inr (.inr (.inr (.inr (a3 (a 4) (a 9) (a 14))))))), ((a 40), .inl (k 5, 4, .inr (.inr (.inr (.inr (a4 (a 41) (a 44) (a 47) (a 50))))))), ((a 4), .inr (5, (fX5 (a 5) (a 6) (a 7) (a 8)))), (aI k (a 5) 10 (vv n0 see0 tm0 g0)), (aI k (a 6) 24 ff0), (aI k (a 7) 24 fp0), (aI k (a 8) 4 fl0), ((a 9), .inr (5, (fX5 (a 10) (a 11) (a 12) (a 13)))), (aI k (a 10) 10 (vv n1 see1 tm1 g1)), (aI k (a 11) 24 ff1), (aI k (a 12) 24 fp1), (aI k (a 13) 4 fl1), ((a 14), .inr (5, (fX5 (a 15) (a 16) (a 17) (a 18)))), (aI k (a 15) 10 (vv n2 see2 tm2 g2)), (aI k (a 16) 24 ff2), (aI k (a 17) 24 fp2), (aI k (a 18) 4 fl2), ((a 41), .inr (3, (fX3 (a 42) (a 43) rf0 (nI rc0) (nI rr0)))), (aI k (a 42) 24 rs0), (aI k (a 43) 24 rb0), ((a 44), .inr (3, (fX3 (a 45) (a 46) rf1 (nI rc1) (nI rr1)))), (aI k (a 45) 24 rs1), (aI k (a 46) 24 rb1), ((a 47), .inr (3, (fX3 (a 48) (a 49) rf2 (nI rc2) (nI rr2)))), (aI k (a 48) 24 rs2), (aI k (a 49) 24 rb2), ((a 50), .inr (3, (fX3 (a 51) (a 52) rf3 (nI rc3) (nI rr3)))), (aI k (a 51) 24 rs3), (aI k (a 52) 24 rb3), ((a 53), .inr (4, (fX4 (a 54) (a 55) (nI cc) (nI rz) ro (nI sd2_69)))), ((a 64), .inr (2, (fX2 (a 65) (a 66) (a 67) wt wc)))] H ∧ va_D A [((a 0), .inr (7, (fX7 (a 1) (a 3) (a 19) (a 35) (a 40) (nI rk) lfa (a 53) (a 56) (a 63) (a 64) (a 68)))), ((a 3), .inl (k 3, 3, .inr (.inr (.inr (.inr (a3 (a 4) (a 9) (a 14))))))), ((a 40), .inl (k 5, 4, .inr (.inr (.inr (.inr (a4 (a 41) (a 44) (a 47) (a 50))))))), ((a 4), .inr (5, (fX5 (a 5) (a 6) (a 7) (a 8)))), (aI k (a 5) 10 (vv n0 see0 tm0 g0)), (aI k (a 6) 24 ff0), (aI k (a 7) 24 fp0), (aI k (a 8) 4 fl0), ((a 9), .inr (5, (fX5 (a 10) (a 11) (a 12) (a 13)))), (aI k (a 10) 10 (vv n1 see1 tm1 g1)), (aI k (a 11) 24 ff1), (aI k (a 12) 24 fp1), (aI k (a 13) 4 fl1), ((a 14), .inr (5, (fX5 (a 15) (a 16) (a 17) (a 18)))), (aI k (a 15) 10 (vv n2 see2 tm2 g2)), (aI k (a 16) 24 ff2), (aI k (a 17) 24 fp2), (aI k (a 18) 4 fl2), ((a 41), .inr (3, (fX3 (a 42) (a 43) rf0 (nI rc0) (nI rr0)))), (aI k (a 42) 24 rs0), (aI k (a 43) 24 rb0), ((a 44), .inr (3, (fX3 (a 45) (a 46) rf1 (nI rc1) (nI rr1)))), (aI k (a 45) 24 rs1), (aI k (a 46) 24 rb1), ((a 47), .inr (3, (fX3 (a 48) (a 49) rf2 (nI rc2) (nI rr2)))), (aI k (a 48) 24 rs2), (aI k (a 49) 24 rb2), ((a 50), .inr (3, (fX3 (a 51) (a 52) rf3 (nI rc3) (nI rr3)))), (aI k (a 51) 24 rs3), (aI k (a 52) 24 rb3), ((a 53), .inr (4, (fX4 (a 54) (a 55) (nI cc) (nI rz) ro (nI sd2_69)))), ((a 64), .inr (2, (fX2 (a 65) (a 66) (a 67) wt wc)))] ∧ va_S A s.heap H locs ∧ lv_has ls 7 [(6, .int (nI kk_69)), (4, .long al_69), (0, .ref (a 0)), (1, .int 1), (2, .int 3), (3, .int (nI nn_68))]) (fun n_69 x_69 H locs ls hI ih_69 => ?_) _ (0, 0, v9) ⟨rfl, ⟨by omega, by omega, rfl, rfl⟩, hP, hD, hS, (lv_sub hl [0, 1, 2, 3, 4, 5] rfl)⟩
        obtain ⟨kk_69, al_69, sd2_69⟩ := x_69
        obtain ⟨hm_69, hv_69, hP, hD, hS, hl⟩ := hI
        subst hm_69
        refine lv_iload hx hb dX7_evening_40 (lv_at hl 0 rfl) ?_
        refine lv_iload_n hx hb dX7_evening_42 rfl (lv_at hl 5 rfl) ?_
        refine lv_icmp_ge (tgt := 81) hx hb dX7_evening_43 (by decide) (fun c_70 => ?_) (fun c_70 => ?_)
        · have c_70 := (nI_leI (a := nn_68) (b := kk_69) (by omega) (by omega)).mp c_70
          refine lv_lload hx hb dX7_evening_81 (lv_at hl 1 rfl) ?_
          refine lv_ldc2 hx hb hown (hts _ tw_940) dX7_evening_83 ?_
          refine lv_ldiv hx hb dX7_evening_86 (by decide) ?_
          refine lv_topl (fun x_71 ex_71 => ?_)
          refine lv_l2i hx hb dX7_evening_87 rfl ?_
          refine lv_topi (fun x_72 ex_72 => ?_)
          obtain ⟨hP9, hD9⟩ := pd_sub [((a 0), .inr (7, (fX7 (a 1) (a 3) (a 19) (a 35) (a 40) (nI rk) lfa (a 53) (a 56) (a 63) (a 64) (a 68)))), ((a 3), .inl (k 3, 3, .inr (.inr (.inr (.inr (a3 (a 4) (a 9) (a 14))))))), ((a 40), .inl (k 5, 4, .inr (.inr (.inr (.inr (a4 (a 41) (a 44) (a 47) (a 50))))))), ((a 4), .inr (5, (fX5 (a 5) (a 6) (a 7) (a 8)))), (aI k (a 5) 10 (vv n0 see0 tm0 g0)), (aI k (a 6) 24 ff0), (aI k (a 7) 24 fp0), (aI k (a 8) 4 fl0), ((a 9), .inr (5, (fX5 (a 10) (a 11) (a 12) (a 13)))), (aI k (a 10) 10 (vv n1 see1 tm1 g1)), (aI k (a 11) 24 ff1), (aI k (a 12) 24 fp1), (aI k (a 13) 4 fl1), ((a 14), .inr (5, (fX5 (a 15) (a 16) (a 17) (a 18)))), (aI k (a 15) 10 (vv n2 see2 tm2 g2)), (aI k (a 16) 24 ff2), (aI k (a 17) 24 fp2), (aI k (a 18) 4 fl2), ((a 41), .inr (3, (fX3 (a 42) (a 43) rf0 (nI rc0) (nI rr0)))), (aI k (a 42) 24 rs0), (aI k (a 43) 24 rb0), ((a 44), .inr (3, (fX3 (a 45) (a 46) rf1 (nI rc1) (nI rr1)))), (aI k (a 45) 24 rs1), (aI k (a 46) 24 rb1), ((a 47), .inr (3, (fX3 (a 48) (a 49) rf2 (nI rc2) (nI rr2)))), (aI k (a 48) 24 rs2), (aI k (a 49) 24 rb2), ((a 50), .inr (3, (fX3 (a 51) (a 52) rf3 (nI rc3) (nI rr3)))), (aI k (a 51) 24 rs3), (aI k (a 52) 24 rb3), ((a 53), .inr (4, (fX4 (a 54) (a 55) (nI cc) (nI rz) ro (nI sd2_69)))), ((a 64), .inr (2, (fX2 (a 65) (a 66) (a 67) wt wc)))] [0, 1, 2, 3, 4, 5, 6, 7, 8, 9, 10, 11, 12, 13, 14, 15, 16, 17, 18, 19, 20, 21, 22, 23, 24, 25, 26, 27, 28, 29, 30, 31] hP hD (by decide +kernel) rfl
          exact W.iret (v := x_72) hx hb hr (fun t ht hW => ⟨⟨x_72, (nI sd2_69), rfl, ev_at (s := 1) (t := 3) (by omega) (by omega) (by omega) (show 0 < n1 by omega) (show evA (nI nn_68) (nI v9) (sdX n1 see1 tm1 g1 ff1 fp1) (ruX rf3 rc3 rr3 rs3 rb3) _ _ from ev_i (a := al_69) (w := sd2_69) (by omega) hin_68 (by omega) (by rw [(show muD (sdX n1 see1 tm1 g1 ff1 fp1) (ruX rf3 rc3 rr3 rs3 rb3) = min rr3 tm1 by unfold muD; rw [tmX (by omega)]; exact congrArg (fun z => min z tm1) (nI_clamp (by omega))), show nn_68 = kk_69 by omega]; exact hv_69.2.2.1) (by rw [(show muD (sdX n1 see1 tm1 g1 ff1 fp1) (ruX rf3 rc3 rr3 rs3 rb3) = min rr3 tm1 by unfold muD; rw [tmX (by omega)]; exact congrArg (fun z => min z tm1) (nI_clamp (by omega))), show nn_68 = kk_69 by omega]; exact hv_69.2.2.2) (by rw [ex_72, ex_71])), by rw [ht]; exact hP9, hD9⟩, hS.F ht⟩) hS.2.2 dX7_evening_88
        · have c_70 : ¬ (nn_68 ≤ kk_69) := fun h => c_70 ((nI_leI (a := nn_68) (b := kk_69) (by omega) (by omega)).mpr h)
          refine lv_lload hx hb dX7_evening_46 (lv_at hl 1 rfl) ?_
          refine lv_aload_n hx hb dX7_evening_48 rfl (lv_at hl 2 rfl) ?_
          refine va_get (D := D) (ci := 7) (v := .ref (a 64)) (C := RX7) (T := TX7) (N := 12) hx hb hts inX7 hown hK hP 0 rfl rfl 10 (by decide) (hts _ tw_315) (fun _ h9 => h9) rfl dX7_evening_49 ?_
          refine lv_aload_n hx hb dX7_evening_52 rfl (lv_at hl 2 rfl) ?_
          refine va_get (D := D) (ci := 7) (v := .ref (a 3)) (C := RX7) (T := TX7) (N := 12) hx hb hts inX7 hown hK hP 0 rfl rfl 1 (by decide) (hts _ tw_306) (fun _ h9 => h9) rfl dX7_evening_53 ?_
          refine lv_iload_n hx hb dX7_evening_56 rfl (lv_at hl 3 rfl) ?_
          refine va_aldq hx hb hK hP 1 3 rfl rfl (by unfold vp_in; decide) dX7_evening_57 ?_
          refine lv_tr (y := .ref (a 9)) rfl ?_
          refine lv_aload_n hx hb dX7_evening_58 rfl (lv_at hl 2 rfl) ?_
          refine va_get (D := D) (ci := 7) (v := .ref (a 40)) (C := RX7) (T := TX7) (N := 12) hx hb hts inX7 hown hK hP 0 rfl rfl 4 (by decide) (hts _ tw_309) (fun _ h9 => h9) rfl dX7_evening_59 ?_
          refine lv_iload_n hx hb dX7_evening_62 rfl (lv_at hl 4 rfl) ?_
          refine va_aldq hx hb hK hP 2 5 rfl rfl (by unfold vp_in; decide) dX7_evening_63 ?_
          refine lv_tr (y := .ref (a 50)) rfl ?_
          refine lv_aload_n hx hb dX7_evening_64 rfl (lv_at hl 2 rfl) ?_
          refine va_get (D := D) (ci := 7) (v := .ref (a 53)) (C := RX7) (T := TX7) (N := 12) hx hb hts inX7 hown hK hP 0 rfl rfl 7 (by decide) (hts _ tw_312) (fun _ h9 => h9) rfl dX7_evening_65 ?_
          refine rw_i (D := D) (wr := [((a 0), .inr (7, (fX7 (a 1) (a 3) (a 19) (a 35) (a 40) (nI rk) lfa (a 53) (a 56) (a 63) (a 64) (a 68)))), ((a 3), .inl (k 3, 3, .inr (.inr (.inr (.inr (a3 (a 4) (a 9) (a 14))))))), ((a 40), .inl (k 5, 4, .inr (.inr (.inr (.inr (a4 (a 41) (a 44) (a 47) (a 50))))))), ((a 4), .inr (5, (fX5 (a 5) (a 6) (a 7) (a 8)))), (aI k (a 5) 10 (vv n0 see0 tm0 g0)), (aI k (a 6) 24 ff0), (aI k (a 7) 24 fp0), (aI k (a 8) 4 fl0), ((a 14), .inr (5, (fX5 (a 15) (a 16) (a 17) (a 18)))), (aI k (a 15) 10 (vv n2 see2 tm2 g2)), (aI k (a 16) 24 ff2), (aI k (a 17) 24 fp2), (aI k (a 18) 4 fl2), ((a 41), .inr (3, (fX3 (a 42) (a 43) rf0 (nI rc0) (nI rr0)))), (aI k (a 42) 24 rs0), (aI k (a 43) 24 rb0), ((a 44), .inr (3, (fX3 (a 45) (a 46) rf1 (nI rc1) (nI rr1)))), (aI k (a 45) 24 rs1), (aI k (a 46) 24 rb1), ((a 47), .inr (3, (fX3 (a 48) (a 49) rf2 (nI rc2) (nI rr2)))), (aI k (a 48) 24 rs2), (aI k (a 49) 24 rb2)]) (va_runV (As := [.ref (a 9), .ref (a 50), .ref (a 53)]) (rest := [.long al_69]) ⟨hx, hb, hml, hown, hts⟩ ((y_eveningOf l D k st lo (a 64) (a 65) (a 66) (a 67) wt wc (a 9) (a 10) (a 11) (a 12) (a 13) n1 see1 tm1 g1 ff1 fp1 fl1 (a 50) (a 51) (a 52) rf3 rc3 rr3 rs3 rb3 (a 53) (a 54) (a 55) cc rz ro sd2_69 (by first | assumption | omega) (by first | assumption | omega) (by first | assumption | omega) (by first | assumption | omega) (hlt 1 (by omega)) (hok 1 (by omega)) (by first | assumption | omega)) H.size) (cwV 3 hts (gV tw_928 tw_929 tw_930 tw_83 tw_931) rfl rfl rfl (by decide +kernel) ⟨Nat.le_of_ble_eq_true rfl, Nat.le_of_ble_eq_true rfl⟩) (pV hS hAlo hlo hP hK (va_Dlo hD hAlo) hZ [31, 8, 9, 10, 11, 12, 27, 28, 29, 30] (by decide +kernel) rfl (ci := 2) (q := (RX2, TX2, 5)) (q0 := 0) rfl rfl) rfl rfl hl.1 rfl (lv_room (Nat.le_of_ble_eq_true rfl)) dX7_evening_68 ⟨Nat.le_of_ble_eq_true rfl, Nat.le_of_ble_eq_true rfl⟩) hS hA hP hD [31, 8, 9, 10, 11, 12, 27, 28, 29, 30] [0, 1, 2, 3, 4, 5, 6, 7, 13, 14, 15, 16, 17, 18, 19, 20, 21, 22, 23, 24, 25, 26] rfl rfl (by decide +kernel) (by decide +kernel) (fun r_73 u H locs hw_73 hP hD hS => ?_)
          obtain ⟨sd__73, rfl⟩ : ∃ z, z = u := ⟨_, rfl⟩
          have hQ9 := pd_mk [((a 0), .inr (7, (fX7 (a 1) (a 3) (a 19) (a 35) (a 40) (nI rk) lfa (a 53) (a 56) (a 63) (a 64) (a 68)))), ((a 3), .inl (k 3, 3, .inr (.inr (.inr (.inr (a3 (a 4) (a 9) (a 14))))))), ((a 40), .inl (k 5, 4, .inr (.inr (.inr (.inr (a4 (a 41) (a 44) (a 47) (a 50))))))), ((a 4), .inr (5, (fX5 (a 5) (a 6) (a 7) (a 8)))), (aI k (a 5) 10 (vv n0 see0 tm0 g0)), (aI k (a 6) 24 ff0), (aI k (a 7) 24 fp0), (aI k (a 8) 4 fl0), ((a 14), .inr (5, (fX5 (a 15) (a 16) (a 17) (a 18)))), (aI k (a 15) 10 (vv n2 see2 tm2 g2)), (aI k (a 16) 24 ff2), (aI k (a 17) 24 fp2), (aI k (a 18) 4 fl2), ((a 41), .inr (3, (fX3 (a 42) (a 43) rf0 (nI rc0) (nI rr0)))), (aI k (a 42) 24 rs0), (aI k (a 43) 24 rb0), ((a 44), .inr (3, (fX3 (a 45) (a 46) rf1 (nI rc1) (nI rr1)))), (aI k (a 45) 24 rs1), (aI k (a 46) 24 rb1), ((a 47), .inr (3, (fX3 (a 48) (a 49) rf2 (nI rc2) (nI rr2)))), (aI k (a 48) 24 rs2), (aI k (a 49) 24 rb2), ((a 64), .inr (2, (fX2 (a 65) (a 66) (a 67) wt wc))), ((a 9), .inr (5, (fX5 (a 10) (a 11) (a 12) (a 13)))), (aI k (a 10) 10 (vv n1 see1 tm1 g1)), (aI k (a 11) 24 ff1), (aI k (a 12) 24 fp1), (aI k (a 13) 4 fl1), ((a 50), .inr (3, (fX3 (a 51) (a 52) rf3 (nI rc3) (nI rr3)))), (aI k (a 51) 24 rs3), (aI k (a 52) 24 rb3), ((a 53), .inr (4, (fX4 (a 54) (a 55) (nI cc) (nI rz) ro (nI sd__73))))] hP hD
          clear hP hD
          obtain ⟨hP, hD⟩ := hQ9
          try dsimp only at hw_73
          refine lv_i2l (v := r_73.toInt64) hx hb dX7_evening_71 rfl ?_
          refine lv_ladd hx hb dX7_evening_72 ?_
          refine lv_topl (fun x_74 ex_74 => ?_)
          refine lv_lstore (lv' := [(4, .long x_74), (6, .int (nI kk_69)), (0, .ref (a 0)), (1, .int 1), (2, .int 3), (3, .int (nI nn_68))]) hx hb dX7_evening_73 hl (by decide) rfl (fun ls hl => ?_)
          refine lv_iinc (v := (nI (kk_69 + 1))) (lv' := [(6, .int (nI (kk_69 + 1))), (4, .long x_74), (0, .ref (a 0)), (1, .int 1), (2, .int 3), (3, .int (nI nn_68))]) hx hb dX7_evening_75 hl (k := 1) rfl (nI_add kk_69 1) (by decide) rfl (fun ls hl => ?_)
          refine lv_goto (tgt := 40) hx hb dX7_evening_78 (by decide) ?_
          have hes_75 := evN_s hv_69.2.2.1 hv_69.2.2.2 hw_73.1 ex_74
          exact ih_69 _ (kk_69 + 1, x_74, sd__73) _ _ _ (by omega) ⟨rfl, ⟨by omega, hw_73.2, hes_75.1, hes_75.2⟩, (hP.sub [0, 1, 2, 3, 4, 5, 6, 7, 23, 24, 25, 26, 27, 8, 9, 10, 11, 12, 13, 14, 15, 16, 17, 18, 19, 20, 21, 28, 29, 30, 31, 22] rfl), (hD.sub [0, 1, 2, 3, 4, 5, 6, 7, 23, 24, 25, 26, 27, 8, 9, 10, 11, 12, 13, 14, 15, 16, 17, 18, 19, 20, 21, 28, 29, 30, 31, 22] (by decide +kernel) rfl), hS, (lv_sub hl [0, 1, 2, 3, 4, 5] rfl)⟩
      · refine lv_if_ne (tgt := 34) hx hb dX7_evening_27 (by decide) (fun h => absurd (by decide) h) (fun _ => ?_)
        refine lv_sipush (v := (-1002)) hx hb dX7_evening_30 (by decide) ?_
        obtain ⟨hP9, hD9⟩ := pd_sub [((a 0), .inr (7, (fX7 (a 1) (a 3) (a 19) (a 35) (a 40) (nI rk) lfa (a 53) (a 56) (a 63) (a 64) (a 68)))), ((a 3), .inl (k 3, 3, .inr (.inr (.inr (.inr (a3 (a 4) (a 9) (a 14))))))), ((a 40), .inl (k 5, 4, .inr (.inr (.inr (.inr (a4 (a 41) (a 44) (a 47) (a 50))))))), ((a 4), .inr (5, (fX5 (a 5) (a 6) (a 7) (a 8)))), (aI k (a 5) 10 (vv n0 see0 tm0 g0)), (aI k (a 6) 24 ff0), (aI k (a 7) 24 fp0), (aI k (a 8) 4 fl0), ((a 9), .inr (5, (fX5 (a 10) (a 11) (a 12) (a 13)))), (aI k (a 10) 10 (vv n1 see1 tm1 g1)), (aI k (a 11) 24 ff1), (aI k (a 12) 24 fp1), (aI k (a 13) 4 fl1), ((a 14), .inr (5, (fX5 (a 15) (a 16) (a 17) (a 18)))), (aI k (a 15) 10 (vv n2 see2 tm2 g2)), (aI k (a 16) 24 ff2), (aI k (a 17) 24 fp2), (aI k (a 18) 4 fl2), ((a 41), .inr (3, (fX3 (a 42) (a 43) rf0 (nI rc0) (nI rr0)))), (aI k (a 42) 24 rs0), (aI k (a 43) 24 rb0), ((a 44), .inr (3, (fX3 (a 45) (a 46) rf1 (nI rc1) (nI rr1)))), (aI k (a 45) 24 rs1), (aI k (a 46) 24 rb1), ((a 47), .inr (3, (fX3 (a 48) (a 49) rf2 (nI rc2) (nI rr2)))), (aI k (a 48) 24 rs2), (aI k (a 49) 24 rb2), ((a 50), .inr (3, (fX3 (a 51) (a 52) rf3 (nI rc3) (nI rr3)))), (aI k (a 51) 24 rs3), (aI k (a 52) 24 rb3), ((a 53), .inr (4, (fX4 (a 54) (a 55) (nI cc) (nI rz) ro (nI v9)))), ((a 64), .inr (2, (fX2 (a 65) (a 66) (a 67) wt wc)))] [0, 1, 2, 3, 4, 5, 6, 7, 8, 9, 10, 11, 12, 13, 14, 15, 16, 17, 18, 19, 20, 21, 22, 23, 24, 25, 26, 27, 28, 29, 30, 31] hP hD (by decide +kernel) rfl
        exact W.iret (v := (-1002)) hx hb hr (fun t ht hW => ⟨⟨(-1002), (nI v9), rfl, ev_at (s := 1) (t := 3) (by omega) (by omega) (by omega) (show 0 < n1 by omega) (show evA p2 (nI v9) (sdX n1 see1 tm1 g1 ff1 fp1) (ruX rf3 rc3 rr3 rs3 rb3) _ _ from ev_o hw_67), by rw [ht]; exact hP9, hD9⟩, hS.F ht⟩) hS.2.2 dX7_evening_33
    · refine lv_if_ne (tgt := 20) hx hb dX7_evening_13 (by decide) (fun h => absurd (by decide) h) (fun _ => ?_)
      refine lv_sipush (v := (-1001)) hx hb dX7_evening_16 (by decide) ?_
      obtain ⟨hP9, hD9⟩ := pd_sub [((a 0), .inr (7, (fX7 (a 1) (a 3) (a 19) (a 35) (a 40) (nI rk) lfa (a 53) (a 56) (a 63) (a 64) (a 68)))), ((a 3), .inl (k 3, 3, .inr (.inr (.inr (.inr (a3 (a 4) (a 9) (a 14))))))), ((a 40), .inl (k 5, 4, .inr (.inr (.inr (.inr (a4 (a 41) (a 44) (a 47) (a 50))))))), ((a 4), .inr (5, (fX5 (a 5) (a 6) (a 7) (a 8)))), (aI k (a 5) 10 (vv n0 see0 tm0 g0)), (aI k (a 6) 24 ff0), (aI k (a 7) 24 fp0), (aI k (a 8) 4 fl0), ((a 9), .inr (5, (fX5 (a 10) (a 11) (a 12) (a 13)))), (aI k (a 10) 10 (vv n1 see1 tm1 g1)), (aI k (a 11) 24 ff1), (aI k (a 12) 24 fp1), (aI k (a 13) 4 fl1), ((a 14), .inr (5, (fX5 (a 15) (a 16) (a 17) (a 18)))), (aI k (a 15) 10 (vv n2 see2 tm2 g2)), (aI k (a 16) 24 ff2), (aI k (a 17) 24 fp2), (aI k (a 18) 4 fl2), ((a 41), .inr (3, (fX3 (a 42) (a 43) rf0 (nI rc0) (nI rr0)))), (aI k (a 42) 24 rs0), (aI k (a 43) 24 rb0), ((a 44), .inr (3, (fX3 (a 45) (a 46) rf1 (nI rc1) (nI rr1)))), (aI k (a 45) 24 rs1), (aI k (a 46) 24 rb1), ((a 47), .inr (3, (fX3 (a 48) (a 49) rf2 (nI rc2) (nI rr2)))), (aI k (a 48) 24 rs2), (aI k (a 49) 24 rb2), ((a 50), .inr (3, (fX3 (a 51) (a 52) rf3 (nI rc3) (nI rr3)))), (aI k (a 51) 24 rs3), (aI k (a 52) 24 rb3), ((a 53), .inr (4, (fX4 (a 54) (a 55) (nI cc) (nI rz) ro (nI v9)))), ((a 64), .inr (2, (fX2 (a 65) (a 66) (a 67) wt wc)))] [0, 1, 2, 3, 4, 5, 6, 7, 8, 9, 10, 11, 12, 13, 14, 15, 16, 17, 18, 19, 20, 21, 22, 23, 24, 25, 26, 27, 28, 29, 30, 31] hP hD (by decide +kernel) rfl
      exact W.iret (v := (-1001)) hx hb hr (fun t ht hW => ⟨⟨(-1001), (nI v9), rfl, ev_no1 hw_39, by rw [ht]; exact hP9, hD9⟩, hS.F ht⟩) hS.2.2 dX7_evening_19
  · refine lv_if_eq (tgt := 16) hx hb dX7_evening_5 (by decide) (fun h => absurd h (by decide)) (fun _ => ?_)
    refine lv_aload_n hx hb dX7_evening_8 rfl (lv_at hl 0 rfl) ?_
    refine lv_iload_n hx hb dX7_evening_9 rfl (lv_at hl 2 rfl) ?_
    refine ro_i (D := D) (va_runV (As := [.int p1]) (rest := []) ⟨hx, hb, hml, hown, hts⟩ ((y_isRule l D k st lo a rk lfa p1 (by first | assumption | omega)) H.size) (cwV 1 hts (gV tw_697 tw_699 tw_15 tw_79 tw_700) rfl rfl rfl (by decide +kernel) ⟨Nat.le_of_ble_eq_true rfl, Nat.le_of_ble_eq_true rfl⟩) (pV hS hAlo hlo hP hK (va_Dlo hD hAlo) hZ [0] (by decide) rfl (ci := 7) (q := (RX7, TX7, 12)) (q0 := 0) rfl rfl) rfl rfl hl.1 rfl (lv_room (Nat.le_of_ble_eq_true rfl)) dX7_evening_10 ⟨Nat.le_of_ble_eq_true rfl, Nat.le_of_ble_eq_true rfl⟩) hS hA hP (fun r_76 H locs hw_76 hP hS => ?_)
    try dsimp only at hw_76
    rcases hw_76 with ⟨rfl, ⟨rfl, hw_76⟩ | ⟨rfl, hw_76⟩ | ⟨rfl, hw_76⟩ | ⟨rfl, hw_76⟩⟩ | ⟨rfl, hw_76⟩
    · refine lv_if_ne (tgt := 20) hx hb dX7_evening_13 (by decide) (fun _ => ?_) (fun h => absurd h (by decide))
      refine lv_iload_n hx hb dX7_evening_20 rfl (lv_at hl 3 rfl) ?_
      refine lv_iconst (v := 1) hx hb dX7_evening_21 (by decide) ?_
      refine lv_bipush (v := 50) hx hb dX7_evening_22 (by decide) ?_
      refine ro_i (D := D) (va_runS (As := [.int p2, .int 1, .int 50]) (rest := []) ⟨hx, hb, hml, hown, hts⟩ ((k_isIn l D k st lo p2 1 50) H.size) (va_cwS 3 hts (gS tw_593 tw_594 tw_79 tw_595) rfl rfl rfl (by decide +kernel) ⟨Nat.le_of_ble_eq_true rfl, Nat.le_of_ble_eq_true rfl⟩) (pS hS hAlo hlo hP hK (va_Dlo hD hAlo) hZ [] (by decide) rfl) rfl rfl hl.1 rfl (lv_room (Nat.le_of_ble_eq_true rfl)) dX7_evening_24 ⟨Nat.le_of_ble_eq_true rfl, Nat.le_of_ble_eq_true rfl⟩) hS hA hP (fun r_77 H locs hw_77 hP hS => ?_)
      try dsimp only at hw_77
      rcases hw_77 with ⟨rfl, hw_77⟩ | ⟨rfl, hw_77⟩
      · refine lv_if_ne (tgt := 34) hx hb dX7_evening_27 (by decide) (fun _ => ?_) (fun h => absurd h (by decide))
        have hin_78 := hw_77
        obtain ⟨nn_78, hnl_78, hnh_78, rfl⟩ := inB_ofc (a := 1) (b := 50) (by omega) (by omega) hw_77
        refine lv_lconst (v := 0) hx hb dX7_evening_34 (by decide) ?_
        refine lv_lstore (lv' := [(4, .long 0), (0, .ref (a 0)), (1, .int 2), (2, .int 0), (3, .int (nI nn_78))]) hx hb dX7_evening_35 hl (by decide) rfl (fun ls hl => ?_)
        refine lv_iconst (v := 0) hx hb dX7_evening_37 (by decide) ?_
        refine lv_istore (lv' := [(6, .int 0), (4, .long 0), (0, .ref (a 0)), (1, .int 2), (2, .int 0), (3, .int (nI nn_78))]) hx hb dX7_evening_38 hl (by decide) rfl (fun ls hl => ?_)
        refine W_loop (σ := Nat × Int64 × Nat) (fun (n_ : Nat) (x_ : Nat × Int64 × Nat) (H : Heap) (locs : List Loc) (ls : Array Slot) => match x_ with | (kk_79, al_79, sd2_79) => n_ = 51 - kk_79 ∧ (kk_79 ≤ nn_78 ∧ sd2_79 < 2147483648 ∧ al_79 = (evN (sdX n2 see2 tm2 g2 ff2 fp2) (ruX rf0 rc0 rr0 rs0 rb0) (min rr0 tm2) v9 kk_79).1 ∧ sd2_79 = (evN (sdX n2 see2 tm2 g2 ff2 fp2) (ruX rf0 rc0 rr0 rs0 rb0) (min rr0 tm2) v9 kk_79).2) ∧ va_P D classes [((a 0), .inr (7, (fX7 (a 1) (a 3) (a 19) (a 35) (a 40) (nI rk) lfa (a 53) (a 56) (a 63) (a 64) (a 68)))), ((a 3), .inl (k 3, 3, .inr (.inr (.inr (.inr (a3 (a 4) (a 9) (a 14))))))), ((a 40), .inl (k 5, 4, .inr (.inr (.inr (.inr (a4 (a 41) (a 44) (a 47) (a 50))))))), ((a 4), .inr (5, (fX5 (a 5) (a 6) (a 7) (a 8)))), (aI k (a 5) 10 (vv n0 see0 tm0 g0)), (aI k (a 6) 24 ff0), (aI k (a 7) 24 fp0), (aI k (a 8) 4 fl0), ((a 9), .inr (5, (fX5 (a 10) (a 11) (a 12) (a 13)))), (aI k (a 10) 10 (vv n1 see1 tm1 g1)), (aI k (a 11) 24 ff1), (aI k (a 12) 24 fp1), (aI k (a 13) 4 fl1), ((a 14), .inr (5, (fX5 (a 15) (a 16) (a 17) (a 18)))), (aI k (a 15) 10 (vv n2 see2 tm2 g2)), (aI k (a 16) 24 ff2), (aI k (a 17) 24 fp2), (aI k (a 18) 4 fl2), ((a 41), .inr (3, (fX3 (a 42) (a 43) rf0 (nI rc0) (nI rr0)))), (aI k (a 42) 24 rs0), (aI k (a 43) 24 rb0), ((a 44), .inr (3, (fX3 (a 45) (a 46) rf1 (nI rc1) (nI rr1)))), (aI k (a 45) 24 rs1), (aI k (a 46) 24 rb1), ((a 47), .inr (3, (fX3 (a 48) (a 49) rf2 (nI rc2) (nI rr2)))), (aI k (a 48) 24 rs2), (aI k (a 49) 24 rb2), ((a 50), .inr (3, (fX3 (a 51) (a 52) rf3 (nI rc3) (nI rr3)))), (aI k (a 51) 24 rs3), (aI k (a 52) 24 rb3), ((a 53), .inr (4, (fX4 (a 54) (a 55) (nI cc) (nI rz) ro (nI sd2_79)))), ((a 64), .inr (2, (fX2 (a 65) (a 66) (a 67) wt wc)))] H ∧ va_D A [((a 0), .inr (7, (fX7 (a 1) (a 3) (a 19) (a 35) (a 40) (nI rk) lfa (a 53) (a 56) (a 63) (a 64) (a 68)))), ((a 3), .inl (k 3, 3, .inr (.inr (.inr (.inr (a3 (a 4) (a 9) (a 14))))))), ((a 40), .inl (k 5, 4, .inr (.inr (.inr (.inr (a4 (a 41) (a 44) (a 47) (a 50))))))), ((a 4), .inr (5, (fX5 (a 5) (a 6) (a 7) (a 8)))), (aI k (a 5) 10 (vv n0 see0 tm0 g0)), (aI k (a 6) 24 ff0), (aI k (a 7) 24 fp0), (aI k (a 8) 4 fl0), ((a 9), .inr (5, (fX5 (a 10) (a 11) (a 12) (a 13)))), (aI k (a 10) 10 (vv n1 see1 tm1 g1)), (aI k (a 11) 24 ff1), (aI k (a 12) 24 fp1), (aI k (a 13) 4 fl1), ((a 14), .inr (5, (fX5 (a 15) (a 16) (a 17) (a 18)))), (aI k (a 15) 10 (vv n2 see2 tm2 g2)), (aI k (a 16) 24 ff2), (aI k (a 17) 24 fp2), (aI k (a 18) 4 fl2), ((a 41), .inr (3, (fX3 (a 42) (a 43) rf0 (nI rc0) (nI rr0)))), (aI k (a 42) 24 rs0), (aI k (a 43) 24 rb0), ((a 44), .inr (3, (fX3 (a 45) (a 46) rf1 (nI rc1) (nI rr1)))), (aI k (a 45) 24 rs1), (aI k (a 46) 24 rb1), ((a 47), .inr (3, (fX3 (a 48) (a 49) rf2 (nI rc2) (nI rr2)))), (aI k (a 48) 24 rs2), (aI k (a 49) 24 rb2), ((a 50), .inr (3, (fX3 (a 51) (a 52) rf3 (nI rc3) (nI rr3)))), (aI k (a 51) 24 rs3), (aI k (a 52) 24 rb3), ((a 53), .inr (4, (fX4 (a 54) (a 55) (nI cc) (nI rz) ro (nI sd2_79)))), ((a 64), .inr (2, (fX2 (a 65) (a 66) (a 67) wt wc)))] ∧ va_S A s.heap H locs ∧ lv_has ls 7 [(6, .int (nI kk_79)), (4, .long al_79), (0, .ref (a 0)), (1, .int 2), (2, .int 0), (3, .int (nI nn_78))]) (fun n_79 x_79 H locs ls hI ih_79 => ?_) _ (0, 0, v9) ⟨rfl, ⟨by omega, by omega, rfl, rfl⟩, hP, hD, hS, (lv_sub hl [0, 1, 2, 3, 4, 5] rfl)⟩
        obtain ⟨kk_79, al_79, sd2_79⟩ := x_79
        obtain ⟨hm_79, hv_79, hP, hD, hS, hl⟩ := hI
        subst hm_79
        refine lv_iload hx hb dX7_evening_40 (lv_at hl 0 rfl) ?_
        refine lv_iload_n hx hb dX7_evening_42 rfl (lv_at hl 5 rfl) ?_
        refine lv_icmp_ge (tgt := 81) hx hb dX7_evening_43 (by decide) (fun c_80 => ?_) (fun c_80 => ?_)
        · have c_80 := (nI_leI (a := nn_78) (b := kk_79) (by omega) (by omega)).mp c_80
          refine lv_lload hx hb dX7_evening_81 (lv_at hl 1 rfl) ?_
          refine lv_ldc2 hx hb hown (hts _ tw_940) dX7_evening_83 ?_
          refine lv_ldiv hx hb dX7_evening_86 (by decide) ?_
          refine lv_topl (fun x_81 ex_81 => ?_)
          refine lv_l2i hx hb dX7_evening_87 rfl ?_
          refine lv_topi (fun x_82 ex_82 => ?_)
          obtain ⟨hP9, hD9⟩ := pd_sub [((a 0), .inr (7, (fX7 (a 1) (a 3) (a 19) (a 35) (a 40) (nI rk) lfa (a 53) (a 56) (a 63) (a 64) (a 68)))), ((a 3), .inl (k 3, 3, .inr (.inr (.inr (.inr (a3 (a 4) (a 9) (a 14))))))), ((a 40), .inl (k 5, 4, .inr (.inr (.inr (.inr (a4 (a 41) (a 44) (a 47) (a 50))))))), ((a 4), .inr (5, (fX5 (a 5) (a 6) (a 7) (a 8)))), (aI k (a 5) 10 (vv n0 see0 tm0 g0)), (aI k (a 6) 24 ff0), (aI k (a 7) 24 fp0), (aI k (a 8) 4 fl0), ((a 9), .inr (5, (fX5 (a 10) (a 11) (a 12) (a 13)))), (aI k (a 10) 10 (vv n1 see1 tm1 g1)), (aI k (a 11) 24 ff1), (aI k (a 12) 24 fp1), (aI k (a 13) 4 fl1), ((a 14), .inr (5, (fX5 (a 15) (a 16) (a 17) (a 18)))), (aI k (a 15) 10 (vv n2 see2 tm2 g2)), (aI k (a 16) 24 ff2), (aI k (a 17) 24 fp2), (aI k (a 18) 4 fl2), ((a 41), .inr (3, (fX3 (a 42) (a 43) rf0 (nI rc0) (nI rr0)))), (aI k (a 42) 24 rs0), (aI k (a 43) 24 rb0), ((a 44), .inr (3, (fX3 (a 45) (a 46) rf1 (nI rc1) (nI rr1)))), (aI k (a 45) 24 rs1), (aI k (a 46) 24 rb1), ((a 47), .inr (3, (fX3 (a 48) (a 49) rf2 (nI rc2) (nI rr2)))), (aI k (a 48) 24 rs2), (aI k (a 49) 24 rb2), ((a 50), .inr (3, (fX3 (a 51) (a 52) rf3 (nI rc3) (nI rr3)))), (aI k (a 51) 24 rs3), (aI k (a 52) 24 rb3), ((a 53), .inr (4, (fX4 (a 54) (a 55) (nI cc) (nI rz) ro (nI sd2_79)))), ((a 64), .inr (2, (fX2 (a 65) (a 66) (a 67) wt wc)))] [0, 1, 2, 3, 4, 5, 6, 7, 8, 9, 10, 11, 12, 13, 14, 15, 16, 17, 18, 19, 20, 21, 22, 23, 24, 25, 26, 27, 28, 29, 30, 31] hP hD (by decide +kernel) rfl
          exact W.iret (v := x_82) hx hb hr (fun t ht hW => ⟨⟨x_82, (nI sd2_79), rfl, ev_at (s := 2) (t := 0) (by omega) (by omega) (by omega) (show 0 < n2 by omega) (show evA (nI nn_78) (nI v9) (sdX n2 see2 tm2 g2 ff2 fp2) (ruX rf0 rc0 rr0 rs0 rb0) _ _ from ev_i (a := al_79) (w := sd2_79) (by omega) hin_78 (by omega) (by rw [(show muD (sdX n2 see2 tm2 g2 ff2 fp2) (ruX rf0 rc0 rr0 rs0 rb0) = min rr0 tm2 by unfold muD; rw [tmX (by omega)]; exact congrArg (fun z => min z tm2) (nI_clamp (by omega))), show nn_78 = kk_79 by omega]; exact hv_79.2.2.1) (by rw [(show muD (sdX n2 see2 tm2 g2 ff2 fp2) (ruX rf0 rc0 rr0 rs0 rb0) = min rr0 tm2 by unfold muD; rw [tmX (by omega)]; exact congrArg (fun z => min z tm2) (nI_clamp (by omega))), show nn_78 = kk_79 by omega]; exact hv_79.2.2.2) (by rw [ex_82, ex_81])), by rw [ht]; exact hP9, hD9⟩, hS.F ht⟩) hS.2.2 dX7_evening_88
        · have c_80 : ¬ (nn_78 ≤ kk_79) := fun h => c_80 ((nI_leI (a := nn_78) (b := kk_79) (by omega) (by omega)).mpr h)
          refine lv_lload hx hb dX7_evening_46 (lv_at hl 1 rfl) ?_
          refine lv_aload_n hx hb dX7_evening_48 rfl (lv_at hl 2 rfl) ?_
          refine va_get (D := D) (ci := 7) (v := .ref (a 64)) (C := RX7) (T := TX7) (N := 12) hx hb hts inX7 hown hK hP 0 rfl rfl 10 (by decide) (hts _ tw_315) (fun _ h9 => h9) rfl dX7_evening_49 ?_
          refine lv_aload_n hx hb dX7_evening_52 rfl (lv_at hl 2 rfl) ?_
          refine va_get (D := D) (ci := 7) (v := .ref (a 3)) (C := RX7) (T := TX7) (N := 12) hx hb hts inX7 hown hK hP 0 rfl rfl 1 (by decide) (hts _ tw_306) (fun _ h9 => h9) rfl dX7_evening_53 ?_
          refine lv_iload_n hx hb dX7_evening_56 rfl (lv_at hl 3 rfl) ?_
          refine va_aldq hx hb hK hP 1 3 rfl rfl (by unfold vp_in; decide) dX7_evening_57 ?_
          refine lv_tr (y := .ref (a 14)) rfl ?_
          refine lv_aload_n hx hb dX7_evening_58 rfl (lv_at hl 2 rfl) ?_
          refine va_get (D := D) (ci := 7) (v := .ref (a 40)) (C := RX7) (T := TX7) (N := 12) hx hb hts inX7 hown hK hP 0 rfl rfl 4 (by decide) (hts _ tw_309) (fun _ h9 => h9) rfl dX7_evening_59 ?_
          refine lv_iload_n hx hb dX7_evening_62 rfl (lv_at hl 4 rfl) ?_
          refine va_aldq hx hb hK hP 2 5 rfl rfl (by unfold vp_in; decide) dX7_evening_63 ?_
          refine lv_tr (y := .ref (a 41)) rfl ?_
          refine lv_aload_n hx hb dX7_evening_64 rfl (lv_at hl 2 rfl) ?_
          refine va_get (D := D) (ci := 7) (v := .ref (a 53)) (C := RX7) (T := TX7) (N := 12) hx hb hts inX7 hown hK hP 0 rfl rfl 7 (by decide) (hts _ tw_312) (fun _ h9 => h9) rfl dX7_evening_65 ?_
          refine rw_i (D := D) (wr := [((a 0), .inr (7, (fX7 (a 1) (a 3) (a 19) (a 35) (a 40) (nI rk) lfa (a 53) (a 56) (a 63) (a 64) (a 68)))), ((a 3), .inl (k 3, 3, .inr (.inr (.inr (.inr (a3 (a 4) (a 9) (a 14))))))), ((a 40), .inl (k 5, 4, .inr (.inr (.inr (.inr (a4 (a 41) (a 44) (a 47) (a 50))))))), ((a 4), .inr (5, (fX5 (a 5) (a 6) (a 7) (a 8)))), (aI k (a 5) 10 (vv n0 see0 tm0 g0)), (aI k (a 6) 24 ff0), (aI k (a 7) 24 fp0), (aI k (a 8) 4 fl0), ((a 9), .inr (5, (fX5 (a 10) (a 11) (a 12) (a 13)))), (aI k (a 10) 10 (vv n1 see1 tm1 g1)), (aI k (a 11) 24 ff1), (aI k (a 12) 24 fp1), (aI k (a 13) 4 fl1), ((a 44), .inr (3, (fX3 (a 45) (a 46) rf1 (nI rc1) (nI rr1)))), (aI k (a 45) 24 rs1), (aI k (a 46) 24 rb1), ((a 47), .inr (3, (fX3 (a 48) (a 49) rf2 (nI rc2) (nI rr2)))), (aI k (a 48) 24 rs2), (aI k (a 49) 24 rb2), ((a 50), .inr (3, (fX3 (a 51) (a 52) rf3 (nI rc3) (nI rr3)))), (aI k (a 51) 24 rs3), (aI k (a 52) 24 rb3)]) (va_runV (As := [.ref (a 14), .ref (a 41), .ref (a 53)]) (rest := [.long al_79]) ⟨hx, hb, hml, hown, hts⟩ ((y_eveningOf l D k st lo (a 64) (a 65) (a 66) (a 67) wt wc (a 14) (a 15) (a 16) (a 17) (a 18) n2 see2 tm2 g2 ff2 fp2 fl2 (a 41) (a 42) (a 43) rf0 rc0 rr0 rs0 rb0 (a 53) (a 54) (a 55) cc rz ro sd2_79 (by first | assumption | omega) (by first | assumption | omega) (by first | assumption | omega) (by first | assumption | omega) (hlt 2 (by omega)) (hok 2 (by omega)) (by first | assumption | omega)) H.size) (cwV 3 hts (gV tw_928 tw_929 tw_930 tw_83 tw_931) rfl rfl rfl (by decide +kernel) ⟨Nat.le_of_ble_eq_true rfl, Nat.le_of_ble_eq_true rfl⟩) (pV hS hAlo hlo hP hK (va_Dlo hD hAlo) hZ [31, 13, 14, 15, 16, 17, 18, 19, 20, 30] (by decide +kernel) rfl (ci := 2) (q := (RX2, TX2, 5)) (q0 := 0) rfl rfl) rfl rfl hl.1 rfl (lv_room (Nat.le_of_ble_eq_true rfl)) dX7_evening_68 ⟨Nat.le_of_ble_eq_true rfl, Nat.le_of_ble_eq_true rfl⟩) hS hA hP hD [31, 13, 14, 15, 16, 17, 18, 19, 20, 30] [0, 1, 2, 3, 4, 5, 6, 7, 8, 9, 10, 11, 12, 21, 22, 23, 24, 25, 26, 27, 28, 29] rfl rfl (by decide +kernel) (by decide +kernel) (fun r_83 u H locs hw_83 hP hD hS => ?_)
          obtain ⟨sd__83, rfl⟩ : ∃ z, z = u := ⟨_, rfl⟩
          have hQ9 := pd_mk [((a 0), .inr (7, (fX7 (a 1) (a 3) (a 19) (a 35) (a 40) (nI rk) lfa (a 53) (a 56) (a 63) (a 64) (a 68)))), ((a 3), .inl (k 3, 3, .inr (.inr (.inr (.inr (a3 (a 4) (a 9) (a 14))))))), ((a 40), .inl (k 5, 4, .inr (.inr (.inr (.inr (a4 (a 41) (a 44) (a 47) (a 50))))))), ((a 4), .inr (5, (fX5 (a 5) (a 6) (a 7) (a 8)))), (aI k (a 5) 10 (vv n0 see0 tm0 g0)), (aI k (a 6) 24 ff0), (aI k (a 7) 24 fp0), (aI k (a 8) 4 fl0), ((a 9), .inr (5, (fX5 (a 10) (a 11) (a 12) (a 13)))), (aI k (a 10) 10 (vv n1 see1 tm1 g1)), (aI k (a 11) 24 ff1), (aI k (a 12) 24 fp1), (aI k (a 13) 4 fl1), ((a 44), .inr (3, (fX3 (a 45) (a 46) rf1 (nI rc1) (nI rr1)))), (aI k (a 45) 24 rs1), (aI k (a 46) 24 rb1), ((a 47), .inr (3, (fX3 (a 48) (a 49) rf2 (nI rc2) (nI rr2)))), (aI k (a 48) 24 rs2), (aI k (a 49) 24 rb2), ((a 50), .inr (3, (fX3 (a 51) (a 52) rf3 (nI rc3) (nI rr3)))), (aI k (a 51) 24 rs3), (aI k (a 52) 24 rb3), ((a 64), .inr (2, (fX2 (a 65) (a 66) (a 67) wt wc))), ((a 14), .inr (5, (fX5 (a 15) (a 16) (a 17) (a 18)))), (aI k (a 15) 10 (vv n2 see2 tm2 g2)), (aI k (a 16) 24 ff2), (aI k (a 17) 24 fp2), (aI k (a 18) 4 fl2), ((a 41), .inr (3, (fX3 (a 42) (a 43) rf0 (nI rc0) (nI rr0)))), (aI k (a 42) 24 rs0), (aI k (a 43) 24 rb0), ((a 53), .inr (4, (fX4 (a 54) (a 55) (nI cc) (nI rz) ro (nI sd__83))))] hP hD
          clear hP hD
          obtain ⟨hP, hD⟩ := hQ9
          try dsimp only at hw_83
          refine lv_i2l (v := r_83.toInt64) hx hb dX7_evening_71 rfl ?_
          refine lv_ladd hx hb dX7_evening_72 ?_
          refine lv_topl (fun x_84 ex_84 => ?_)
          refine lv_lstore (lv' := [(4, .long x_84), (6, .int (nI kk_79)), (0, .ref (a 0)), (1, .int 2), (2, .int 0), (3, .int (nI nn_78))]) hx hb dX7_evening_73 hl (by decide) rfl (fun ls hl => ?_)
          refine lv_iinc (v := (nI (kk_79 + 1))) (lv' := [(6, .int (nI (kk_79 + 1))), (4, .long x_84), (0, .ref (a 0)), (1, .int 2), (2, .int 0), (3, .int (nI nn_78))]) hx hb dX7_evening_75 hl (k := 1) rfl (nI_add kk_79 1) (by decide) rfl (fun ls hl => ?_)
          refine lv_goto (tgt := 40) hx hb dX7_evening_78 (by decide) ?_
          have hes_85 := evN_s hv_79.2.2.1 hv_79.2.2.2 hw_83.1 ex_84
          exact ih_79 _ (kk_79 + 1, x_84, sd__83) _ _ _ (by omega) ⟨rfl, ⟨by omega, hw_83.2, hes_85.1, hes_85.2⟩, (hP.sub [0, 1, 2, 3, 4, 5, 6, 7, 8, 9, 10, 11, 12, 23, 24, 25, 26, 27, 28, 29, 30, 13, 14, 15, 16, 17, 18, 19, 20, 21, 31, 22] rfl), (hD.sub [0, 1, 2, 3, 4, 5, 6, 7, 8, 9, 10, 11, 12, 23, 24, 25, 26, 27, 28, 29, 30, 13, 14, 15, 16, 17, 18, 19, 20, 21, 31, 22] (by decide +kernel) rfl), hS, (lv_sub hl [0, 1, 2, 3, 4, 5] rfl)⟩
      · refine lv_if_ne (tgt := 34) hx hb dX7_evening_27 (by decide) (fun h => absurd (by decide) h) (fun _ => ?_)
        refine lv_sipush (v := (-1002)) hx hb dX7_evening_30 (by decide) ?_
        obtain ⟨hP9, hD9⟩ := pd_sub [((a 0), .inr (7, (fX7 (a 1) (a 3) (a 19) (a 35) (a 40) (nI rk) lfa (a 53) (a 56) (a 63) (a 64) (a 68)))), ((a 3), .inl (k 3, 3, .inr (.inr (.inr (.inr (a3 (a 4) (a 9) (a 14))))))), ((a 40), .inl (k 5, 4, .inr (.inr (.inr (.inr (a4 (a 41) (a 44) (a 47) (a 50))))))), ((a 4), .inr (5, (fX5 (a 5) (a 6) (a 7) (a 8)))), (aI k (a 5) 10 (vv n0 see0 tm0 g0)), (aI k (a 6) 24 ff0), (aI k (a 7) 24 fp0), (aI k (a 8) 4 fl0), ((a 9), .inr (5, (fX5 (a 10) (a 11) (a 12) (a 13)))), (aI k (a 10) 10 (vv n1 see1 tm1 g1)), (aI k (a 11) 24 ff1), (aI k (a 12) 24 fp1), (aI k (a 13) 4 fl1), ((a 14), .inr (5, (fX5 (a 15) (a 16) (a 17) (a 18)))), (aI k (a 15) 10 (vv n2 see2 tm2 g2)), (aI k (a 16) 24 ff2), (aI k (a 17) 24 fp2), (aI k (a 18) 4 fl2), ((a 41), .inr (3, (fX3 (a 42) (a 43) rf0 (nI rc0) (nI rr0)))), (aI k (a 42) 24 rs0), (aI k (a 43) 24 rb0), ((a 44), .inr (3, (fX3 (a 45) (a 46) rf1 (nI rc1) (nI rr1)))), (aI k (a 45) 24 rs1), (aI k (a 46) 24 rb1), ((a 47), .inr (3, (fX3 (a 48) (a 49) rf2 (nI rc2) (nI rr2)))), (aI k (a 48) 24 rs2), (aI k (a 49) 24 rb2), ((a 50), .inr (3, (fX3 (a 51) (a 52) rf3 (nI rc3) (nI rr3)))), (aI k (a 51) 24 rs3), (aI k (a 52) 24 rb3), ((a 53), .inr (4, (fX4 (a 54) (a 55) (nI cc) (nI rz) ro (nI v9)))), ((a 64), .inr (2, (fX2 (a 65) (a 66) (a 67) wt wc)))] [0, 1, 2, 3, 4, 5, 6, 7, 8, 9, 10, 11, 12, 13, 14, 15, 16, 17, 18, 19, 20, 21, 22, 23, 24, 25, 26, 27, 28, 29, 30, 31] hP hD (by decide +kernel) rfl
        exact W.iret (v := (-1002)) hx hb hr (fun t ht hW => ⟨⟨(-1002), (nI v9), rfl, ev_at (s := 2) (t := 0) (by omega) (by omega) (by omega) (show 0 < n2 by omega) (show evA p2 (nI v9) (sdX n2 see2 tm2 g2 ff2 fp2) (ruX rf0 rc0 rr0 rs0 rb0) _ _ from ev_o hw_77), by rw [ht]; exact hP9, hD9⟩, hS.F ht⟩) hS.2.2 dX7_evening_33
    · refine lv_if_ne (tgt := 20) hx hb dX7_evening_13 (by decide) (fun _ => ?_) (fun h => absurd h (by decide))
      refine lv_iload_n hx hb dX7_evening_20 rfl (lv_at hl 3 rfl) ?_
      refine lv_iconst (v := 1) hx hb dX7_evening_21 (by decide) ?_
      refine lv_bipush (v := 50) hx hb dX7_evening_22 (by decide) ?_
      refine ro_i (D := D) (va_runS (As := [.int p2, .int 1, .int 50]) (rest := []) ⟨hx, hb, hml, hown, hts⟩ ((k_isIn l D k st lo p2 1 50) H.size) (va_cwS 3 hts (gS tw_593 tw_594 tw_79 tw_595) rfl rfl rfl (by decide +kernel) ⟨Nat.le_of_ble_eq_true rfl, Nat.le_of_ble_eq_true rfl⟩) (pS hS hAlo hlo hP hK (va_Dlo hD hAlo) hZ [] (by decide) rfl) rfl rfl hl.1 rfl (lv_room (Nat.le_of_ble_eq_true rfl)) dX7_evening_24 ⟨Nat.le_of_ble_eq_true rfl, Nat.le_of_ble_eq_true rfl⟩) hS hA hP (fun r_86 H locs hw_86 hP hS => ?_)
      try dsimp only at hw_86
      rcases hw_86 with ⟨rfl, hw_86⟩ | ⟨rfl, hw_86⟩
      · refine lv_if_ne (tgt := 34) hx hb dX7_evening_27 (by decide) (fun _ => ?_) (fun h => absurd h (by decide))
        have hin_87 := hw_86
        obtain ⟨nn_87, hnl_87, hnh_87, rfl⟩ := inB_ofc (a := 1) (b := 50) (by omega) (by omega) hw_86
        refine lv_lconst (v := 0) hx hb dX7_evening_34 (by decide) ?_
        refine lv_lstore (lv' := [(4, .long 0), (0, .ref (a 0)), (1, .int 2), (2, .int 1), (3, .int (nI nn_87))]) hx hb dX7_evening_35 hl (by decide) rfl (fun ls hl => ?_)
        refine lv_iconst (v := 0) hx hb dX7_evening_37 (by decide) ?_
        refine lv_istore (lv' := [(6, .int 0), (4, .long 0), (0, .ref (a 0)), (1, .int 2), (2, .int 1), (3, .int (nI nn_87))]) hx hb dX7_evening_38 hl (by decide) rfl (fun ls hl => ?_)
        refine W_loop (σ := Nat × Int64 × Nat) (fun (n_ : Nat) (x_ : Nat × Int64 × Nat) (H : Heap) (locs : List Loc) (ls : Array Slot) => match x_ with | (kk_88, al_88, sd2_88) => n_ = 51 - kk_88 ∧ (kk_88 ≤ nn_87 ∧ sd2_88 < 2147483648 ∧ al_88 = (evN (sdX n2 see2 tm2 g2 ff2 fp2) (ruX rf1 rc1 rr1 rs1 rb1) (min rr1 tm2) v9 kk_88).1 ∧ sd2_88 = (evN (sdX n2 see2 tm2 g2 ff2 fp2) (ruX rf1 rc1 rr1 rs1 rb1) (min rr1 tm2) v9 kk_88).2) ∧ va_P D classes [((a 0), .inr (7, (fX7 (a 1) (a 3) (a 19) (a 35) (a 40) (nI rk) lfa (a 53) (a 56) (a 63) (a 64) (a 68)))), ((a 3), .inl (k 3, 3, .inr (.inr (.inr (.inr (a3 (a 4) (a 9) (a 14))))))), ((a 40), .inl (k 5, 4, .inr (.inr (.inr (.inr (a4 (a 41) (a 44) (a 47) (a 50))))))), ((a 4), .inr (5, (fX5 (a 5) (a 6) (a 7) (a 8)))), (aI k (a 5) 10 (vv n0 see0 tm0 g0)), (aI k (a 6) 24 ff0), (aI k (a 7) 24 fp0), (aI k (a 8) 4 fl0), ((a 9), .inr (5, (fX5 (a 10) (a 11) (a 12) (a 13)))), (aI k (a 10) 10 (vv n1 see1 tm1 g1)), (aI k (a 11) 24 ff1), (aI k (a 12) 24 fp1), (aI k (a 13) 4 fl1), ((a 14), .inr (5, (fX5 (a 15) (a 16) (a 17) (a 18)))), (aI k (a 15) 10 (vv n2 see2 tm2 g2)), (aI k (a 16) 24 ff2), (aI k (a 17) 24 fp2), (aI k (a 18) 4 fl2), ((a 41), .inr (3, (fX3 (a 42) (a 43) rf0 (nI rc0) (nI rr0)))), (aI k (a 42) 24 rs0), (aI k (a 43) 24 rb0), ((a 44), .inr (3, (fX3 (a 45) (a 46) rf1 (nI rc1) (nI rr1)))), (aI k (a 45) 24 rs1), (aI k (a 46) 24 rb1), ((a 47), .inr (3, (fX3 (a 48) (a 49) rf2 (nI rc2) (nI rr2)))), (aI k (a 48) 24 rs2), (aI k (a 49) 24 rb2), ((a 50), .inr (3, (fX3 (a 51) (a 52) rf3 (nI rc3) (nI rr3)))), (aI k (a 51) 24 rs3), (aI k (a 52) 24 rb3), ((a 53), .inr (4, (fX4 (a 54) (a 55) (nI cc) (nI rz) ro (nI sd2_88)))), ((a 64), .inr (2, (fX2 (a 65) (a 66) (a 67) wt wc)))] H ∧ va_D A [((a 0), .inr (7, (fX7 (a 1) (a 3) (a 19) (a 35) (a 40) (nI rk) lfa (a 53) (a 56) (a 63) (a 64) (a 68)))), ((a 3), .inl (k 3, 3, .inr (.inr (.inr (.inr (a3 (a 4) (a 9) (a 14))))))), ((a 40), .inl (k 5, 4, .inr (.inr (.inr (.inr (a4 (a 41) (a 44) (a 47) (a 50))))))), ((a 4), .inr (5, (fX5 (a 5) (a 6) (a 7) (a 8)))), (aI k (a 5) 10 (vv n0 see0 tm0 g0)), (aI k (a 6) 24 ff0), (aI k (a 7) 24 fp0), (aI k (a 8) 4 fl0), ((a 9), .inr (5, (fX5 (a 10) (a 11) (a 12) (a 13)))), (aI k (a 10) 10 (vv n1 see1 tm1 g1)), (aI k (a 11) 24 ff1), (aI k (a 12) 24 fp1), (aI k (a 13) 4 fl1), ((a 14), .inr (5, (fX5 (a 15) (a 16) (a 17) (a 18)))), (aI k (a 15) 10 (vv n2 see2 tm2 g2)), (aI k (a 16) 24 ff2), (aI k (a 17) 24 fp2), (aI k (a 18) 4 fl2), ((a 41), .inr (3, (fX3 (a 42) (a 43) rf0 (nI rc0) (nI rr0)))), (aI k (a 42) 24 rs0), (aI k (a 43) 24 rb0), ((a 44), .inr (3, (fX3 (a 45) (a 46) rf1 (nI rc1) (nI rr1)))), (aI k (a 45) 24 rs1), (aI k (a 46) 24 rb1), ((a 47), .inr (3, (fX3 (a 48) (a 49) rf2 (nI rc2) (nI rr2)))), (aI k (a 48) 24 rs2), (aI k (a 49) 24 rb2), ((a 50), .inr (3, (fX3 (a 51) (a 52) rf3 (nI rc3) (nI rr3)))), (aI k (a 51) 24 rs3), (aI k (a 52) 24 rb3), ((a 53), .inr (4, (fX4 (a 54) (a 55) (nI cc) (nI rz) ro (nI sd2_88)))), ((a 64), .inr (2, (fX2 (a 65) (a 66) (a 67) wt wc)))] ∧ va_S A s.heap H locs ∧ lv_has ls 7 [(6, .int (nI kk_88)), (4, .long al_88), (0, .ref (a 0)), (1, .int 2), (2, .int 1), (3, .int (nI nn_87))]) (fun n_88 x_88 H locs ls hI ih_88 => ?_) _ (0, 0, v9) ⟨rfl, ⟨by omega, by omega, rfl, rfl⟩, hP, hD, hS, (lv_sub hl [0, 1, 2, 3, 4, 5] rfl)⟩
        obtain ⟨kk_88, al_88, sd2_88⟩ := x_88
        obtain ⟨hm_88, hv_88, hP, hD, hS, hl⟩ := hI
        subst hm_88
        refine lv_iload hx hb dX7_evening_40 (lv_at hl 0 rfl) ?_
        refine lv_iload_n hx hb dX7_evening_42 rfl (lv_at hl 5 rfl) ?_
        refine lv_icmp_ge (tgt := 81) hx hb dX7_evening_43 (by decide) (fun c_89 => ?_) (fun c_89 => ?_)
        · have c_89 := (nI_leI (a := nn_87) (b := kk_88) (by omega) (by omega)).mp c_89
          refine lv_lload hx hb dX7_evening_81 (lv_at hl 1 rfl) ?_
          refine lv_ldc2 hx hb hown (hts _ tw_940) dX7_evening_83 ?_
          refine lv_ldiv hx hb dX7_evening_86 (by decide) ?_
          refine lv_topl (fun x_90 ex_90 => ?_)
          refine lv_l2i hx hb dX7_evening_87 rfl ?_
          refine lv_topi (fun x_91 ex_91 => ?_)
          obtain ⟨hP9, hD9⟩ := pd_sub [((a 0), .inr (7, (fX7 (a 1) (a 3) (a 19) (a 35) (a 40) (nI rk) lfa (a 53) (a 56) (a 63) (a 64) (a 68)))), ((a 3), .inl (k 3, 3, .inr (.inr (.inr (.inr (a3 (a 4) (a 9) (a 14))))))), ((a 40), .inl (k 5, 4, .inr (.inr (.inr (.inr (a4 (a 41) (a 44) (a 47) (a 50))))))), ((a 4), .inr (5, (fX5 (a 5) (a 6) (a 7) (a 8)))), (aI k (a 5) 10 (vv n0 see0 tm0 g0)), (aI k (a 6) 24 ff0), (aI k (a 7) 24 fp0), (aI k (a 8) 4 fl0), ((a 9), .inr (5, (fX5 (a 10) (a 11) (a 12) (a 13)))), (aI k (a 10) 10 (vv n1 see1 tm1 g1)), (aI k (a 11) 24 ff1), (aI k (a 12) 24 fp1), (aI k (a 13) 4 fl1), ((a 14), .inr (5, (fX5 (a 15) (a 16) (a 17) (a 18)))), (aI k (a 15) 10 (vv n2 see2 tm2 g2)), (aI k (a 16) 24 ff2), (aI k (a 17) 24 fp2), (aI k (a 18) 4 fl2), ((a 41), .inr (3, (fX3 (a 42) (a 43) rf0 (nI rc0) (nI rr0)))), (aI k (a 42) 24 rs0), (aI k (a 43) 24 rb0), ((a 44), .inr (3, (fX3 (a 45) (a 46) rf1 (nI rc1) (nI rr1)))), (aI k (a 45) 24 rs1), (aI k (a 46) 24 rb1), ((a 47), .inr (3, (fX3 (a 48) (a 49) rf2 (nI rc2) (nI rr2)))), (aI k (a 48) 24 rs2), (aI k (a 49) 24 rb2), ((a 50), .inr (3, (fX3 (a 51) (a 52) rf3 (nI rc3) (nI rr3)))), (aI k (a 51) 24 rs3), (aI k (a 52) 24 rb3), ((a 53), .inr (4, (fX4 (a 54) (a 55) (nI cc) (nI rz) ro (nI sd2_88)))), ((a 64), .inr (2, (fX2 (a 65) (a 66) (a 67) wt wc)))] [0, 1, 2, 3, 4, 5, 6, 7, 8, 9, 10, 11, 12, 13, 14, 15, 16, 17, 18, 19, 20, 21, 22, 23, 24, 25, 26, 27, 28, 29, 30, 31] hP hD (by decide +kernel) rfl
          exact W.iret (v := x_91) hx hb hr (fun t ht hW => ⟨⟨x_91, (nI sd2_88), rfl, ev_at (s := 2) (t := 1) (by omega) (by omega) (by omega) (show 0 < n2 by omega) (show evA (nI nn_87) (nI v9) (sdX n2 see2 tm2 g2 ff2 fp2) (ruX rf1 rc1 rr1 rs1 rb1) _ _ from ev_i (a := al_88) (w := sd2_88) (by omega) hin_87 (by omega) (by rw [(show muD (sdX n2 see2 tm2 g2 ff2 fp2) (ruX rf1 rc1 rr1 rs1 rb1) = min rr1 tm2 by unfold muD; rw [tmX (by omega)]; exact congrArg (fun z => min z tm2) (nI_clamp (by omega))), show nn_87 = kk_88 by omega]; exact hv_88.2.2.1) (by rw [(show muD (sdX n2 see2 tm2 g2 ff2 fp2) (ruX rf1 rc1 rr1 rs1 rb1) = min rr1 tm2 by unfold muD; rw [tmX (by omega)]; exact congrArg (fun z => min z tm2) (nI_clamp (by omega))), show nn_87 = kk_88 by omega]; exact hv_88.2.2.2) (by rw [ex_91, ex_90])), by rw [ht]; exact hP9, hD9⟩, hS.F ht⟩) hS.2.2 dX7_evening_88
        · have c_89 : ¬ (nn_87 ≤ kk_88) := fun h => c_89 ((nI_leI (a := nn_87) (b := kk_88) (by omega) (by omega)).mpr h)
          refine lv_lload hx hb dX7_evening_46 (lv_at hl 1 rfl) ?_
          refine lv_aload_n hx hb dX7_evening_48 rfl (lv_at hl 2 rfl) ?_
          refine va_get (D := D) (ci := 7) (v := .ref (a 64)) (C := RX7) (T := TX7) (N := 12) hx hb hts inX7 hown hK hP 0 rfl rfl 10 (by decide) (hts _ tw_315) (fun _ h9 => h9) rfl dX7_evening_49 ?_
          refine lv_aload_n hx hb dX7_evening_52 rfl (lv_at hl 2 rfl) ?_
          refine va_get (D := D) (ci := 7) (v := .ref (a 3)) (C := RX7) (T := TX7) (N := 12) hx hb hts inX7 hown hK hP 0 rfl rfl 1 (by decide) (hts _ tw_306) (fun _ h9 => h9) rfl dX7_evening_53 ?_
          refine lv_iload_n hx hb dX7_evening_56 rfl (lv_at hl 3 rfl) ?_
          refine va_aldq hx hb hK hP 1 3 rfl rfl (by unfold vp_in; decide) dX7_evening_57 ?_
          refine lv_tr (y := .ref (a 14)) rfl ?_
          refine lv_aload_n hx hb dX7_evening_58 rfl (lv_at hl 2 rfl) ?_
          refine va_get (D := D) (ci := 7) (v := .ref (a 40)) (C := RX7) (T := TX7) (N := 12) hx hb hts inX7 hown hK hP 0 rfl rfl 4 (by decide) (hts _ tw_309) (fun _ h9 => h9) rfl dX7_evening_59 ?_
          refine lv_iload_n hx hb dX7_evening_62 rfl (lv_at hl 4 rfl) ?_
          refine va_aldq hx hb hK hP 2 5 rfl rfl (by unfold vp_in; decide) dX7_evening_63 ?_
          refine lv_tr (y := .ref (a 44)) rfl ?_
          refine lv_aload_n hx hb dX7_evening_64 rfl (lv_at hl 2 rfl) ?_
          refine va_get (D := D) (ci := 7) (v := .ref (a 53)) (C := RX7) (T := TX7) (N := 12) hx hb hts inX7 hown hK hP 0 rfl rfl 7 (by decide) (hts _ tw_312) (fun _ h9 => h9) rfl dX7_evening_65 ?_
          refine rw_i (D := D) (wr := [((a 0), .inr (7, (fX7 (a 1) (a 3) (a 19) (a 35) (a 40) (nI rk) lfa (a 53) (a 56) (a 63) (a 64) (a 68)))), ((a 3), .inl (k 3, 3, .inr (.inr (.inr (.inr (a3 (a 4) (a 9) (a 14))))))), ((a 40), .inl (k 5, 4, .inr (.inr (.inr (.inr (a4 (a 41) (a 44) (a 47) (a 50))))))), ((a 4), .inr (5, (fX5 (a 5) (a 6) (a 7) (a 8)))), (aI k (a 5) 10 (vv n0 see0 tm0 g0)), (aI k (a 6) 24 ff0), (aI k (a 7) 24 fp0), (aI k (a 8) 4 fl0), ((a 9), .inr (5, (fX5 (a 10) (a 11) (a 12) (a 13)))), (aI k (a 10) 10 (vv n1 see1 tm1 g1)), (aI k (a 11) 24 ff1), (aI k (a 12) 24 fp1), (aI k (a 13) 4 fl1), ((a 41), .inr (3, (fX3 (a 42) (a 43) rf0 (nI rc0) (nI rr0)))), (aI k (a 42) 24 rs0), (aI k (a 43) 24 rb0), ((a 47), .inr (3, (fX3 (a 48) (a 49) rf2 (nI rc2) (nI rr2)))), (aI k (a 48) 24 rs2), (aI k (a 49) 24 rb2), ((a 50), .inr (3, (fX3 (a 51) (a 52) rf3 (nI rc3) (nI rr3)))), (aI k (a 51) 24 rs3), (aI k (a 52) 24 rb3)]) (va_runV (As := [.ref (a 14), .ref (a 44), .ref (a 53)]) (rest := [.long al_88]) ⟨hx, hb, hml, hown, hts⟩ ((y_eveningOf l D k st lo (a 64) (a 65) (a 66) (a 67) wt wc (a 14) (a 15) (a 16) (a 17) (a 18) n2 see2 tm2 g2 ff2 fp2 fl2 (a 44) (a 45) (a 46) rf1 rc1 rr1 rs1 rb1 (a 53) (a 54) (a 55) cc rz ro sd2_88 (by first | assumption | omega) (by first | assumption | omega) (by first | assumption | omega) (by first | assumption | omega) (hlt 2 (by omega)) (hok 2 (by omega)) (by first | assumption | omega)) H.size) (cwV 3 hts (gV tw_928 tw_929 tw_930 tw_83 tw_931) rfl rfl rfl (by decide +kernel) ⟨Nat.le_of_ble_eq_true rfl, Nat.le_of_ble_eq_true rfl⟩) (pV hS hAlo hlo hP hK (va_Dlo hD hAlo) hZ [31, 13, 14, 15, 16, 17, 21, 22, 23, 30] (by decide +kernel) rfl (ci := 2) (q := (RX2, TX2, 5)) (q0 := 0) rfl rfl) rfl rfl hl.1 rfl (lv_room (Nat.le_of_ble_eq_true rfl)) dX7_evening_68 ⟨Nat.le_of_ble_eq_true rfl, Nat.le_of_ble_eq_true rfl⟩) hS hA hP hD [31, 13, 14, 15, 16, 17, 21, 22, 23, 30] [0, 1, 2, 3, 4, 5, 6, 7, 8, 9, 10, 11, 12, 18, 19, 20, 24, 25, 26, 27, 28, 29] rfl rfl (by decide +kernel) (by decide +kernel) (fun r_92 u H locs hw_92 hP hD hS => ?_)
          obtain ⟨sd__92, rfl⟩ : ∃ z, z = u := ⟨_, rfl⟩
          have hQ9 := pd_mk [((a 0), .inr (7, (fX7 (a 1) (a 3) (a 19) (a 35) (a 40) (nI rk) lfa (a 53) (a 56) (a 63) (a 64) (a 68)))), ((a 3), .inl (k 3, 3, .inr (.inr (.inr (.inr (a3 (a 4) (a 9) (a 14))))))), ((a 40), .inl (k 5, 4, .inr (.inr (.inr (.inr (a4 (a 41) (a 44) (a 47) (a 50))))))), ((a 4), .inr (5, (fX5 (a 5) (a 6) (a 7) (a 8)))), (aI k (a 5) 10 (vv n0 see0 tm0 g0)), (aI k (a 6) 24 ff0), (aI k (a 7) 24 fp0), (aI k (a 8) 4 fl0), ((a 9), .inr (5, (fX5 (a 10) (a 11) (a 12) (a 13)))), (aI k (a 10) 10 (vv n1 see1 tm1 g1)), (aI k (a 11) 24 ff1), (aI k (a 12) 24 fp1), (aI k (a 13) 4 fl1), ((a 41), .inr (3, (fX3 (a 42) (a 43) rf0 (nI rc0) (nI rr0)))), (aI k (a 42) 24 rs0), (aI k (a 43) 24 rb0), ((a 47), .inr (3, (fX3 (a 48) (a 49) rf2 (nI rc2) (nI rr2)))), (aI k (a 48) 24 rs2), (aI k (a 49) 24 rb2), ((a 50), .inr (3, (fX3 (a 51) (a 52) rf3 (nI rc3) (nI rr3)))), (aI k (a 51) 24 rs3), (aI k (a 52) 24 rb3), ((a 64), .inr (2, (fX2 (a 65) (a 66) (a 67) wt wc))), ((a 14), .inr (5, (fX5 (a 15) (a 16) (a 17) (a 18)))), (aI k (a 15) 10 (vv n2 see2 tm2 g2)), (aI k (a 16) 24 ff2), (aI k (a 17) 24 fp2), (aI k (a 18) 4 fl2), ((a 44), .inr (3, (fX3 (a 45) (a 46) rf1 (nI rc1) (nI rr1)))), (aI k (a 45) 24 rs1), (aI k (a 46) 24 rb1), ((a 53), .inr (4, (fX4 (a 54) (a 55) (nI cc) (nI rz) ro (nI sd__92))))] hP hD
          clear hP hD
          obtain ⟨hP, hD⟩ := hQ9
          try dsimp only at hw_92
          refine lv_i2l (v := r_92.toInt64) hx hb dX7_evening_71 rfl ?_
          refine lv_ladd hx hb dX7_evening_72 ?_
          refine lv_topl (fun x_93 ex_93 => ?_)
          refine lv_lstore (lv' := [(4, .long x_93), (6, .int (nI kk_88)), (0, .ref (a 0)), (1, .int 2), (2, .int 1), (3, .int (nI nn_87))]) hx hb dX7_evening_73 hl (by decide) rfl (fun ls hl => ?_)
          refine lv_iinc (v := (nI (kk_88 + 1))) (lv' := [(6, .int (nI (kk_88 + 1))), (4, .long x_93), (0, .ref (a 0)), (1, .int 2), (2, .int 1), (3, .int (nI nn_87))]) hx hb dX7_evening_75 hl (k := 1) rfl (nI_add kk_88 1) (by decide) rfl (fun ls hl => ?_)
          refine lv_goto (tgt := 40) hx hb dX7_evening_78 (by decide) ?_
          have hes_94 := evN_s hv_88.2.2.1 hv_88.2.2.2 hw_92.1 ex_93
          exact ih_88 _ (kk_88 + 1, x_93, sd__92) _ _ _ (by omega) ⟨rfl, ⟨by omega, hw_92.2, hes_94.1, hes_94.2⟩, (hP.sub [0, 1, 2, 3, 4, 5, 6, 7, 8, 9, 10, 11, 12, 23, 24, 25, 26, 27, 13, 14, 15, 28, 29, 30, 16, 17, 18, 19, 20, 21, 31, 22] rfl), (hD.sub [0, 1, 2, 3, 4, 5, 6, 7, 8, 9, 10, 11, 12, 23, 24, 25, 26, 27, 13, 14, 15, 28, 29, 30, 16, 17, 18, 19, 20, 21, 31, 22] (by decide +kernel) rfl), hS, (lv_sub hl [0, 1, 2, 3, 4, 5] rfl)⟩
      · refine lv_if_ne (tgt := 34) hx hb dX7_evening_27 (by decide) (fun h => absurd (by decide) h) (fun _ => ?_)
        refine lv_sipush (v := (-1002)) hx hb dX7_evening_30 (by decide) ?_
        obtain ⟨hP9, hD9⟩ := pd_sub [((a 0), .inr (7, (fX7 (a 1) (a 3) (a 19) (a 35) (a 40) (nI rk) lfa (a 53) (a 56) (a 63) (a 64) (a 68)))), ((a 3), .inl (k 3, 3, .inr (.inr (.inr (.inr (a3 (a 4) (a 9) (a 14))))))), ((a 40), .inl (k 5, 4, .inr (.inr (.inr (.inr (a4 (a 41) (a 44) (a 47) (a 50))))))), ((a 4), .inr (5, (fX5 (a 5) (a 6) (a 7) (a 8)))), (aI k (a 5) 10 (vv n0 see0 tm0 g0)), (aI k (a 6) 24 ff0), (aI k (a 7) 24 fp0), (aI k (a 8) 4 fl0), ((a 9), .inr (5, (fX5 (a 10) (a 11) (a 12) (a 13)))), (aI k (a 10) 10 (vv n1 see1 tm1 g1)), (aI k (a 11) 24 ff1), (aI k (a 12) 24 fp1), (aI k (a 13) 4 fl1), ((a 14), .inr (5, (fX5 (a 15) (a 16) (a 17) (a 18)))), (aI k (a 15) 10 (vv n2 see2 tm2 g2)), (aI k (a 16) 24 ff2), (aI k (a 17) 24 fp2), (aI k (a 18) 4 fl2), ((a 41), .inr (3, (fX3 (a 42) (a 43) rf0 (nI rc0) (nI rr0)))), (aI k (a 42) 24 rs0), (aI k (a 43) 24 rb0), ((a 44), .inr (3, (fX3 (a 45) (a 46) rf1 (nI rc1) (nI rr1)))), (aI k (a 45) 24 rs1), (aI k (a 46) 24 rb1), ((a 47), .inr (3, (fX3 (a 48) (a 49) rf2 (nI rc2) (nI rr2)))), (aI k (a 48) 24 rs2), (aI k (a 49) 24 rb2), ((a 50), .inr (3, (fX3 (a 51) (a 52) rf3 (nI rc3) (nI rr3)))), (aI k (a 51) 24 rs3), (aI k (a 52) 24 rb3), ((a 53), .inr (4, (fX4 (a 54) (a 55) (nI cc) (nI rz) ro (nI v9)))), ((a 64), .inr (2, (fX2 (a 65) (a 66) (a 67) wt wc)))] [0, 1, 2, 3, 4, 5, 6, 7, 8, 9, 10, 11, 12, 13, 14, 15, 16, 17, 18, 19, 20, 21, 22, 23, 24, 25, 26, 27, 28, 29, 30, 31] hP hD (by decide +kernel) rfl
        exact W.iret (v := (-1002)) hx hb hr (fun t ht hW => ⟨⟨(-1002), (nI v9), rfl, ev_at (s := 2) (t := 1) (by omega) (by omega) (by omega) (show 0 < n2 by omega) (show evA p2 (nI v9) (sdX n2 see2 tm2 g2 ff2 fp2) (ruX rf1 rc1 rr1 rs1 rb1) _ _ from ev_o hw_86), by rw [ht]; exact hP9, hD9⟩, hS.F ht⟩) hS.2.2 dX7_evening_33
    · refine lv_if_ne (tgt := 20) hx hb dX7_evening_13 (by decide) (fun _ => ?_) (fun h => absurd h (by decide))
      refine lv_iload_n hx hb dX7_evening_20 rfl (lv_at hl 3 rfl) ?_
      refine lv_iconst (v := 1) hx hb dX7_evening_21 (by decide) ?_
      refine lv_bipush (v := 50) hx hb dX7_evening_22 (by decide) ?_
      refine ro_i (D := D) (va_runS (As := [.int p2, .int 1, .int 50]) (rest := []) ⟨hx, hb, hml, hown, hts⟩ ((k_isIn l D k st lo p2 1 50) H.size) (va_cwS 3 hts (gS tw_593 tw_594 tw_79 tw_595) rfl rfl rfl (by decide +kernel) ⟨Nat.le_of_ble_eq_true rfl, Nat.le_of_ble_eq_true rfl⟩) (pS hS hAlo hlo hP hK (va_Dlo hD hAlo) hZ [] (by decide) rfl) rfl rfl hl.1 rfl (lv_room (Nat.le_of_ble_eq_true rfl)) dX7_evening_24 ⟨Nat.le_of_ble_eq_true rfl, Nat.le_of_ble_eq_true rfl⟩) hS hA hP (fun r_95 H locs hw_95 hP hS => ?_)
      try dsimp only at hw_95
      rcases hw_95 with ⟨rfl, hw_95⟩ | ⟨rfl, hw_95⟩
      · refine lv_if_ne (tgt := 34) hx hb dX7_evening_27 (by decide) (fun _ => ?_) (fun h => absurd h (by decide))
        have hin_96 := hw_95
        obtain ⟨nn_96, hnl_96, hnh_96, rfl⟩ := inB_ofc (a := 1) (b := 50) (by omega) (by omega) hw_95
        refine lv_lconst (v := 0) hx hb dX7_evening_34 (by decide) ?_
        refine lv_lstore (lv' := [(4, .long 0), (0, .ref (a 0)), (1, .int 2), (2, .int 2), (3, .int (nI nn_96))]) hx hb dX7_evening_35 hl (by decide) rfl (fun ls hl => ?_)
        refine lv_iconst (v := 0) hx hb dX7_evening_37 (by decide) ?_
        refine lv_istore (lv' := [(6, .int 0), (4, .long 0), (0, .ref (a 0)), (1, .int 2), (2, .int 2), (3, .int (nI nn_96))]) hx hb dX7_evening_38 hl (by decide) rfl (fun ls hl => ?_)
        refine W_loop (σ := Nat × Int64 × Nat) (fun (n_ : Nat) (x_ : Nat × Int64 × Nat) (H : Heap) (locs : List Loc) (ls : Array Slot) => match x_ with | (kk_97, al_97, sd2_97) => n_ = 51 - kk_97 ∧ (kk_97 ≤ nn_96 ∧ sd2_97 < 2147483648 ∧ al_97 = (evN (sdX n2 see2 tm2 g2 ff2 fp2) (ruX rf2 rc2 rr2 rs2 rb2) (min rr2 tm2) v9 kk_97).1 ∧ sd2_97 = (evN (sdX n2 see2 tm2 g2 ff2 fp2) (ruX rf2 rc2 rr2 rs2 rb2) (min rr2 tm2) v9 kk_97).2) ∧ va_P D classes [((a 0), .inr (7, (fX7 (a 1) (a 3) (a 19) (a 35) (a 40) (nI rk) lfa (a 53) (a 56) (a 63) (a 64) (a 68)))), ((a 3), .inl (k 3, 3, .inr (.inr (.inr (.inr (a3 (a 4) (a 9) (a 14))))))), ((a 40), .inl (k 5, 4, .inr (.inr (.inr (.inr (a4 (a 41) (a 44) (a 47) (a 50))))))), ((a 4), .inr (5, (fX5 (a 5) (a 6) (a 7) (a 8)))), (aI k (a 5) 10 (vv n0 see0 tm0 g0)), (aI k (a 6) 24 ff0), (aI k (a 7) 24 fp0), (aI k (a 8) 4 fl0), ((a 9), .inr (5, (fX5 (a 10) (a 11) (a 12) (a 13)))), (aI k (a 10) 10 (vv n1 see1 tm1 g1)), (aI k (a 11) 24 ff1), (aI k (a 12) 24 fp1), (aI k (a 13) 4 fl1), ((a 14), .inr (5, (fX5 (a 15) (a 16) (a 17) (a 18)))), (aI k (a 15) 10 (vv n2 see2 tm2 g2)), (aI k (a 16) 24 ff2), (aI k (a 17) 24 fp2), (aI k (a 18) 4 fl2), ((a 41), .inr (3, (fX3 (a 42) (a 43) rf0 (nI rc0) (nI rr0)))), (aI k (a 42) 24 rs0), (aI k (a 43) 24 rb0), ((a 44), .inr (3, (fX3 (a 45) (a 46) rf1 (nI rc1) (nI rr1)))), (aI k (a 45) 24 rs1), (aI k (a 46) 24 rb1), ((a 47), .inr (3, (fX3 (a 48) (a 49) rf2 (nI rc2) (nI rr2)))), (aI k (a 48) 24 rs2), (aI k (a 49) 24 rb2), ((a 50), .inr (3, (fX3 (a 51) (a 52) rf3 (nI rc3) (nI rr3)))), (aI k (a 51) 24 rs3), (aI k (a 52) 24 rb3), ((a 53), .inr (4, (fX4 (a 54) (a 55) (nI cc) (nI rz) ro (nI sd2_97)))), ((a 64), .inr (2, (fX2 (a 65) (a 66) (a 67) wt wc)))] H ∧ va_D A [((a 0), .inr (7, (fX7 (a 1) (a 3) (a 19) (a 35) (a 40) (nI rk) lfa (a 53) (a 56) (a 63) (a 64) (a 68)))), ((a 3), .inl (k 3, 3, .inr (.inr (.inr (.inr (a3 (a 4) (a 9) (a 14))))))), ((a 40), .inl (k 5, 4, .inr (.inr (.inr (.inr (a4 (a 41) (a 44) (a 47) (a 50))))))), ((a 4), .inr (5, (fX5 (a 5) (a 6) (a 7) (a 8)))), (aI k (a 5) 10 (vv n0 see0 tm0 g0)), (aI k (a 6) 24 ff0), (aI k (a 7) 24 fp0), (aI k (a 8) 4 fl0), ((a 9), .inr (5, (fX5 (a 10) (a 11) (a 12) (a 13)))), (aI k (a 10) 10 (vv n1 see1 tm1 g1)), (aI k (a 11) 24 ff1), (aI k (a 12) 24 fp1), (aI k (a 13) 4 fl1), ((a 14), .inr (5, (fX5 (a 15) (a 16) (a 17) (a 18)))), (aI k (a 15) 10 (vv n2 see2 tm2 g2)), (aI k (a 16) 24 ff2), (aI k (a 17) 24 fp2), (aI k (a 18) 4 fl2), ((a 41), .inr (3, (fX3 (a 42) (a 43) rf0 (nI rc0) (nI rr0)))), (aI k (a 42) 24 rs0), (aI k (a 43) 24 rb0), ((a 44), .inr (3, (fX3 (a 45) (a 46) rf1 (nI rc1) (nI rr1)))), (aI k (a 45) 24 rs1), (aI k (a 46) 24 rb1), ((a 47), .inr (3, (fX3 (a 48) (a 49) rf2 (nI rc2) (nI rr2)))), (aI k (a 48) 24 rs2), (aI k (a 49) 24 rb2), ((a 50), .inr (3, (fX3 (a 51) (a 52) rf3 (nI rc3) (nI rr3)))), (aI k (a 51) 24 rs3), (aI k (a 52) 24 rb3), ((a 53), .inr (4, (fX4 (a 54) (a 55) (nI cc) (nI rz) ro (nI sd2_97)))), ((a 64), .inr (2, (fX2 (a 65) (a 66) (a 67) wt wc)))] ∧ va_S A s.heap H locs ∧ lv_has ls 7 [(6, .int (nI kk_97)), (4, .long al_97), (0, .ref (a 0)), (1, .int 2), (2, .int 2), (3, .int (nI nn_96))]) (fun n_97 x_97 H locs ls hI ih_97 => ?_) _ (0, 0, v9) ⟨rfl, ⟨by omega, by omega, rfl, rfl⟩, hP, hD, hS, (lv_sub hl [0, 1, 2, 3, 4, 5] rfl)⟩
        obtain ⟨kk_97, al_97, sd2_97⟩ := x_97
        obtain ⟨hm_97, hv_97, hP, hD, hS, hl⟩ := hI
        subst hm_97
        refine lv_iload hx hb dX7_evening_40 (lv_at hl 0 rfl) ?_
        refine lv_iload_n hx hb dX7_evening_42 rfl (lv_at hl 5 rfl) ?_
        refine lv_icmp_ge (tgt := 81) hx hb dX7_evening_43 (by decide) (fun c_98 => ?_) (fun c_98 => ?_)
        · have c_98 := (nI_leI (a := nn_96) (b := kk_97) (by omega) (by omega)).mp c_98
          refine lv_lload hx hb dX7_evening_81 (lv_at hl 1 rfl) ?_
          refine lv_ldc2 hx hb hown (hts _ tw_940) dX7_evening_83 ?_
          refine lv_ldiv hx hb dX7_evening_86 (by decide) ?_
          refine lv_topl (fun x_99 ex_99 => ?_)
          refine lv_l2i hx hb dX7_evening_87 rfl ?_
          refine lv_topi (fun x_100 ex_100 => ?_)
          obtain ⟨hP9, hD9⟩ := pd_sub [((a 0), .inr (7, (fX7 (a 1) (a 3) (a 19) (a 35) (a 40) (nI rk) lfa (a 53) (a 56) (a 63) (a 64) (a 68)))), ((a 3), .inl (k 3, 3, .inr (.inr (.inr (.inr (a3 (a 4) (a 9) (a 14))))))), ((a 40), .inl (k 5, 4, .inr (.inr (.inr (.inr (a4 (a 41) (a 44) (a 47) (a 50))))))), ((a 4), .inr (5, (fX5 (a 5) (a 6) (a 7) (a 8)))), (aI k (a 5) 10 (vv n0 see0 tm0 g0)), (aI k (a 6) 24 ff0), (aI k (a 7) 24 fp0), (aI k (a 8) 4 fl0), ((a 9), .inr (5, (fX5 (a 10) (a 11) (a 12) (a 13)))), (aI k (a 10) 10 (vv n1 see1 tm1 g1)), (aI k (a 11) 24 ff1), (aI k (a 12) 24 fp1), (aI k (a 13) 4 fl1), ((a 14), .inr (5, (fX5 (a 15) (a 16) (a 17) (a 18)))), (aI k (a 15) 10 (vv n2 see2 tm2 g2)), (aI k (a 16) 24 ff2), (aI k (a 17) 24 fp2), (aI k (a 18) 4 fl2), ((a 41), .inr (3, (fX3 (a 42) (a 43) rf0 (nI rc0) (nI rr0)))), (aI k (a 42) 24 rs0), (aI k (a 43) 24 rb0), ((a 44), .inr (3, (fX3 (a 45) (a 46) rf1 (nI rc1) (nI rr1)))), (aI k (a 45) 24 rs1), (aI k (a 46) 24 rb1), ((a 47), .inr (3, (fX3 (a 48) (a 49) rf2 (nI rc2) (nI rr2)))), (aI k (a 48) 24 rs2), (aI k (a 49) 24 rb2), ((a 50), .inr (3, (fX3 (a 51) (a 52) rf3 (nI rc3) (nI rr3)))), (aI k (a 51) 24 rs3), (aI k (a 52) 24 rb3), ((a 53), .inr (4, (fX4 (a 54) (a 55) (nI cc) (nI rz) ro (nI sd2_97)))), ((a 64), .inr (2, (fX2 (a 65) (a 66) (a 67) wt wc)))] [0, 1, 2, 3, 4, 5, 6, 7, 8, 9, 10, 11, 12, 13, 14, 15, 16, 17, 18, 19, 20, 21, 22, 23, 24, 25, 26, 27, 28, 29, 30, 31] hP hD (by decide +kernel) rfl
          exact W.iret (v := x_100) hx hb hr (fun t ht hW => ⟨⟨x_100, (nI sd2_97), rfl, ev_at (s := 2) (t := 2) (by omega) (by omega) (by omega) (show 0 < n2 by omega) (show evA (nI nn_96) (nI v9) (sdX n2 see2 tm2 g2 ff2 fp2) (ruX rf2 rc2 rr2 rs2 rb2) _ _ from ev_i (a := al_97) (w := sd2_97) (by omega) hin_96 (by omega) (by rw [(show muD (sdX n2 see2 tm2 g2 ff2 fp2) (ruX rf2 rc2 rr2 rs2 rb2) = min rr2 tm2 by unfold muD; rw [tmX (by omega)]; exact congrArg (fun z => min z tm2) (nI_clamp (by omega))), show nn_96 = kk_97 by omega]; exact hv_97.2.2.1) (by rw [(show muD (sdX n2 see2 tm2 g2 ff2 fp2) (ruX rf2 rc2 rr2 rs2 rb2) = min rr2 tm2 by unfold muD; rw [tmX (by omega)]; exact congrArg (fun z => min z tm2) (nI_clamp (by omega))), show nn_96 = kk_97 by omega]; exact hv_97.2.2.2) (by rw [ex_100, ex_99])), by rw [ht]; exact hP9, hD9⟩, hS.F ht⟩) hS.2.2 dX7_evening_88
        · have c_98 : ¬ (nn_96 ≤ kk_97) := fun h => c_98 ((nI_leI (a := nn_96) (b := kk_97) (by omega) (by omega)).mpr h)
          refine lv_lload hx hb dX7_evening_46 (lv_at hl 1 rfl) ?_
          refine lv_aload_n hx hb dX7_evening_48 rfl (lv_at hl 2 rfl) ?_
          refine va_get (D := D) (ci := 7) (v := .ref (a 64)) (C := RX7) (T := TX7) (N := 12) hx hb hts inX7 hown hK hP 0 rfl rfl 10 (by decide) (hts _ tw_315) (fun _ h9 => h9) rfl dX7_evening_49 ?_
          refine lv_aload_n hx hb dX7_evening_52 rfl (lv_at hl 2 rfl) ?_
          refine va_get (D := D) (ci := 7) (v := .ref (a 3)) (C := RX7) (T := TX7) (N := 12) hx hb hts inX7 hown hK hP 0 rfl rfl 1 (by decide) (hts _ tw_306) (fun _ h9 => h9) rfl dX7_evening_53 ?_
          refine lv_iload_n hx hb dX7_evening_56 rfl (lv_at hl 3 rfl) ?_
          refine va_aldq hx hb hK hP 1 3 rfl rfl (by unfold vp_in; decide) dX7_evening_57 ?_
          refine lv_tr (y := .ref (a 14)) rfl ?_
          refine lv_aload_n hx hb dX7_evening_58 rfl (lv_at hl 2 rfl) ?_
          refine va_get (D := D) (ci := 7) (v := .ref (a 40)) (C := RX7) (T := TX7) (N := 12) hx hb hts inX7 hown hK hP 0 rfl rfl 4 (by decide) (hts _ tw_309) (fun _ h9 => h9) rfl dX7_evening_59 ?_
          refine lv_iload_n hx hb dX7_evening_62 rfl (lv_at hl 4 rfl) ?_
          refine va_aldq hx hb hK hP 2 5 rfl rfl (by unfold vp_in; decide) dX7_evening_63 ?_
          refine lv_tr (y := .ref (a 47)) rfl ?_
          refine lv_aload_n hx hb dX7_evening_64 rfl (lv_at hl 2 rfl) ?_
          refine va_get (D := D) (ci := 7) (v := .ref (a 53)) (C := RX7) (T := TX7) (N := 12) hx hb hts inX7 hown hK hP 0 rfl rfl 7 (by decide) (hts _ tw_312) (fun _ h9 => h9) rfl dX7_evening_65 ?_
          refine rw_i (D := D) (wr := [((a 0), .inr (7, (fX7 (a 1) (a 3) (a 19) (a 35) (a 40) (nI rk) lfa (a 53) (a 56) (a 63) (a 64) (a 68)))), ((a 3), .inl (k 3, 3, .inr (.inr (.inr (.inr (a3 (a 4) (a 9) (a 14))))))), ((a 40), .inl (k 5, 4, .inr (.inr (.inr (.inr (a4 (a 41) (a 44) (a 47) (a 50))))))), ((a 4), .inr (5, (fX5 (a 5) (a 6) (a 7) (a 8)))), (aI k (a 5) 10 (vv n0 see0 tm0 g0)), (aI k (a 6) 24 ff0), (aI k (a 7) 24 fp0), (aI k (a 8) 4 fl0), ((a 9), .inr (5, (fX5 (a 10) (a 11) (a 12) (a 13)))), (aI k (a 10) 10 (vv n1 see1 tm1 g1)), (aI k (a 11) 24 ff1), (aI k (a 12) 24 fp1), (aI k (a 13) 4 fl1), ((a 41), .inr (3, (fX3 (a 42) (a 43) rf0 (nI rc0) (nI rr0)))), (aI k (a 42) 24 rs0), (aI k (a 43) 24 rb0), ((a 44), .inr (3, (fX3 (a 45) (a 46) rf1 (nI rc1) (nI rr1)))), (aI k (a 45) 24 rs1), (aI k (a 46) 24 rb1), ((a 50), .inr (3, (fX3 (a 51) (a 52) rf3 (nI rc3) (nI rr3)))), (aI k (a 51) 24 rs3), (aI k (a 52) 24 rb3)]) (va_runV (As := [.ref (a 14), .ref (a 47), .ref (a 53)]) (rest := [.long al_97]) ⟨hx, hb, hml, hown, hts⟩ ((y_eveningOf l D k st lo (a 64) (a 65) (a 66) (a 67) wt wc (a 14) (a 15) (a 16) (a 17) (a 18) n2 see2 tm2 g2 ff2 fp2 fl2 (a 47) (a 48) (a 49) rf2 rc2 rr2 rs2 rb2 (a 53) (a 54) (a 55) cc rz ro sd2_97 (by first | assumption | omega) (by first | assumption | omega) (by first | assumption | omega) (by first | assumption | omega) (hlt 2 (by omega)) (hok 2 (by omega)) (by first | assumption | omega)) H.size) (cwV 3 hts (gV tw_928 tw_929 tw_930 tw_83 tw_931) rfl rfl rfl (by decide +kernel) ⟨Nat.le_of_ble_eq_true rfl, Nat.le_of_ble_eq_true rfl⟩) (pV hS hAlo hlo hP hK (va_Dlo hD hAlo) hZ [31, 13, 14, 15, 16, 17, 24, 25, 26, 30] (by decide +kernel) rfl (ci := 2) (q := (RX2, TX2, 5)) (q0 := 0) rfl rfl) rfl rfl hl.1 rfl (lv_room (Nat.le_of_ble_eq_true rfl)) dX7_evening_68 ⟨Nat.le_of_ble_eq_true rfl, Nat.le_of_ble_eq_true rfl⟩) hS hA hP hD [31, 13, 14, 15, 16, 17, 24, 25, 26, 30] [0, 1, 2, 3, 4, 5, 6, 7, 8, 9, 10, 11, 12, 18, 19, 20, 21, 22, 23, 27, 28, 29] rfl rfl (by decide +kernel) (by decide +kernel) (fun r_101 u H locs hw_101 hP hD hS => ?_)
          obtain ⟨sd__101, rfl⟩ : ∃ z, z = u := ⟨_, rfl⟩
          have hQ9 := pd_mk [((a 0), .inr (7, (fX7 (a 1) (a 3) (a 19) (a 35) (a 40) (nI rk) lfa (a 53) (a 56) (a 63) (a 64) (a 68)))), ((a 3), .inl (k 3, 3, .inr (.inr (.inr (.inr (a3 (a 4) (a 9) (a 14))))))), ((a 40), .inl (k 5, 4, .inr (.inr (.inr (.inr (a4 (a 41) (a 44) (a 47) (a 50))))))), ((a 4), .inr (5, (fX5 (a 5) (a 6) (a 7) (a 8)))), (aI k (a 5) 10 (vv n0 see0 tm0 g0)), (aI k (a 6) 24 ff0), (aI k (a 7) 24 fp0), (aI k (a 8) 4 fl0), ((a 9), .inr (5, (fX5 (a 10) (a 11) (a 12) (a 13)))), (aI k (a 10) 10 (vv n1 see1 tm1 g1)), (aI k (a 11) 24 ff1), (aI k (a 12) 24 fp1), (aI k (a 13) 4 fl1), ((a 41), .inr (3, (fX3 (a 42) (a 43) rf0 (nI rc0) (nI rr0)))), (aI k (a 42) 24 rs0), (aI k (a 43) 24 rb0), ((a 44), .inr (3, (fX3 (a 45) (a 46) rf1 (nI rc1) (nI rr1)))), (aI k (a 45) 24 rs1), (aI k (a 46) 24 rb1), ((a 50), .inr (3, (fX3 (a 51) (a 52) rf3 (nI rc3) (nI rr3)))), (aI k (a 51) 24 rs3), (aI k (a 52) 24 rb3), ((a 64), .inr (2, (fX2 (a 65) (a 66) (a 67) wt wc))), ((a 14), .inr (5, (fX5 (a 15) (a 16) (a 17) (a 18)))), (aI k (a 15) 10 (vv n2 see2 tm2 g2)), (aI k (a 16) 24 ff2), (aI k (a 17) 24 fp2), (aI k (a 18) 4 fl2), ((a 47), .inr (3, (fX3 (a 48) (a 49) rf2 (nI rc2) (nI rr2)))), (aI k (a 48) 24 rs2), (aI k (a 49) 24 rb2), ((a 53), .inr (4, (fX4 (a 54) (a 55) (nI cc) (nI rz) ro (nI sd__101))))] hP hD
          clear hP hD
          obtain ⟨hP, hD⟩ := hQ9
          try dsimp only at hw_101
          refine lv_i2l (v := r_101.toInt64) hx hb dX7_evening_71 rfl ?_
          refine lv_ladd hx hb dX7_evening_72 ?_
          refine lv_topl (fun x_102 ex_102 => ?_)
          refine lv_lstore (lv' := [(4, .long x_102), (6, .int (nI kk_97)), (0, .ref (a 0)), (1, .int 2), (2, .int 2), (3, .int (nI nn_96))]) hx hb dX7_evening_73 hl (by decide) rfl (fun ls hl => ?_)
          refine lv_iinc (v := (nI (kk_97 + 1))) (lv' := [(6, .int (nI (kk_97 + 1))), (4, .long x_102), (0, .ref (a 0)), (1, .int 2), (2, .int 2), (3, .int (nI nn_96))]) hx hb dX7_evening_75 hl (k := 1) rfl (nI_add kk_97 1) (by decide) rfl (fun ls hl => ?_)
          refine lv_goto (tgt := 40) hx hb dX7_evening_78 (by decide) ?_
          have hes_103 := evN_s hv_97.2.2.1 hv_97.2.2.2 hw_101.1 ex_102
          exact ih_97 _ (kk_97 + 1, x_102, sd__101) _ _ _ (by omega) ⟨rfl, ⟨by omega, hw_101.2, hes_103.1, hes_103.2⟩, (hP.sub [0, 1, 2, 3, 4, 5, 6, 7, 8, 9, 10, 11, 12, 23, 24, 25, 26, 27, 13, 14, 15, 16, 17, 18, 28, 29, 30, 19, 20, 21, 31, 22] rfl), (hD.sub [0, 1, 2, 3, 4, 5, 6, 7, 8, 9, 10, 11, 12, 23, 24, 25, 26, 27, 13, 14, 15, 16, 17, 18, 28, 29, 30, 19, 20, 21, 31, 22] (by decide +kernel) rfl), hS, (lv_sub hl [0, 1, 2, 3, 4, 5] rfl)⟩
      · refine lv_if_ne (tgt := 34) hx hb dX7_evening_27 (by decide) (fun h => absurd (by decide) h) (fun _ => ?_)
        refine lv_sipush (v := (-1002)) hx hb dX7_evening_30 (by decide) ?_
        obtain ⟨hP9, hD9⟩ := pd_sub [((a 0), .inr (7, (fX7 (a 1) (a 3) (a 19) (a 35) (a 40) (nI rk) lfa (a 53) (a 56) (a 63) (a 64) (a 68)))), ((a 3), .inl (k 3, 3, .inr (.inr (.inr (.inr (a3 (a 4) (a 9) (a 14))))))), ((a 40), .inl (k 5, 4, .inr (.inr (.inr (.inr (a4 (a 41) (a 44) (a 47) (a 50))))))), ((a 4), .inr (5, (fX5 (a 5) (a 6) (a 7) (a 8)))), (aI k (a 5) 10 (vv n0 see0 tm0 g0)), (aI k (a 6) 24 ff0), (aI k (a 7) 24 fp0), (aI k (a 8) 4 fl0), ((a 9), .inr (5, (fX5 (a 10) (a 11) (a 12) (a 13)))), (aI k (a 10) 10 (vv n1 see1 tm1 g1)), (aI k (a 11) 24 ff1), (aI k (a 12) 24 fp1), (aI k (a 13) 4 fl1), ((a 14), .inr (5, (fX5 (a 15) (a 16) (a 17) (a 18)))), (aI k (a 15) 10 (vv n2 see2 tm2 g2)), (aI k (a 16) 24 ff2), (aI k (a 17) 24 fp2), (aI k (a 18) 4 fl2), ((a 41), .inr (3, (fX3 (a 42) (a 43) rf0 (nI rc0) (nI rr0)))), (aI k (a 42) 24 rs0), (aI k (a 43) 24 rb0), ((a 44), .inr (3, (fX3 (a 45) (a 46) rf1 (nI rc1) (nI rr1)))), (aI k (a 45) 24 rs1), (aI k (a 46) 24 rb1), ((a 47), .inr (3, (fX3 (a 48) (a 49) rf2 (nI rc2) (nI rr2)))), (aI k (a 48) 24 rs2), (aI k (a 49) 24 rb2), ((a 50), .inr (3, (fX3 (a 51) (a 52) rf3 (nI rc3) (nI rr3)))), (aI k (a 51) 24 rs3), (aI k (a 52) 24 rb3), ((a 53), .inr (4, (fX4 (a 54) (a 55) (nI cc) (nI rz) ro (nI v9)))), ((a 64), .inr (2, (fX2 (a 65) (a 66) (a 67) wt wc)))] [0, 1, 2, 3, 4, 5, 6, 7, 8, 9, 10, 11, 12, 13, 14, 15, 16, 17, 18, 19, 20, 21, 22, 23, 24, 25, 26, 27, 28, 29, 30, 31] hP hD (by decide +kernel) rfl
        exact W.iret (v := (-1002)) hx hb hr (fun t ht hW => ⟨⟨(-1002), (nI v9), rfl, ev_at (s := 2) (t := 2) (by omega) (by omega) (by omega) (show 0 < n2 by omega) (show evA p2 (nI v9) (sdX n2 see2 tm2 g2 ff2 fp2) (ruX rf2 rc2 rr2 rs2 rb2) _ _ from ev_o hw_95), by rw [ht]; exact hP9, hD9⟩, hS.F ht⟩) hS.2.2 dX7_evening_33
    · refine lv_if_ne (tgt := 20) hx hb dX7_evening_13 (by decide) (fun _ => ?_) (fun h => absurd h (by decide))
      refine lv_iload_n hx hb dX7_evening_20 rfl (lv_at hl 3 rfl) ?_
      refine lv_iconst (v := 1) hx hb dX7_evening_21 (by decide) ?_
      refine lv_bipush (v := 50) hx hb dX7_evening_22 (by decide) ?_
      refine ro_i (D := D) (va_runS (As := [.int p2, .int 1, .int 50]) (rest := []) ⟨hx, hb, hml, hown, hts⟩ ((k_isIn l D k st lo p2 1 50) H.size) (va_cwS 3 hts (gS tw_593 tw_594 tw_79 tw_595) rfl rfl rfl (by decide +kernel) ⟨Nat.le_of_ble_eq_true rfl, Nat.le_of_ble_eq_true rfl⟩) (pS hS hAlo hlo hP hK (va_Dlo hD hAlo) hZ [] (by decide) rfl) rfl rfl hl.1 rfl (lv_room (Nat.le_of_ble_eq_true rfl)) dX7_evening_24 ⟨Nat.le_of_ble_eq_true rfl, Nat.le_of_ble_eq_true rfl⟩) hS hA hP (fun r_104 H locs hw_104 hP hS => ?_)
      try dsimp only at hw_104
      rcases hw_104 with ⟨rfl, hw_104⟩ | ⟨rfl, hw_104⟩
      · refine lv_if_ne (tgt := 34) hx hb dX7_evening_27 (by decide) (fun _ => ?_) (fun h => absurd h (by decide))
        have hin_105 := hw_104
        obtain ⟨nn_105, hnl_105, hnh_105, rfl⟩ := inB_ofc (a := 1) (b := 50) (by omega) (by omega) hw_104
        refine lv_lconst (v := 0) hx hb dX7_evening_34 (by decide) ?_
        refine lv_lstore (lv' := [(4, .long 0), (0, .ref (a 0)), (1, .int 2), (2, .int 3), (3, .int (nI nn_105))]) hx hb dX7_evening_35 hl (by decide) rfl (fun ls hl => ?_)
        refine lv_iconst (v := 0) hx hb dX7_evening_37 (by decide) ?_
        refine lv_istore (lv' := [(6, .int 0), (4, .long 0), (0, .ref (a 0)), (1, .int 2), (2, .int 3), (3, .int (nI nn_105))]) hx hb dX7_evening_38 hl (by decide) rfl (fun ls hl => ?_)
        refine W_loop (σ := Nat × Int64 × Nat) (fun (n_ : Nat) (x_ : Nat × Int64 × Nat) (H : Heap) (locs : List Loc) (ls : Array Slot) => match x_ with | (kk_106, al_106, sd2_106) => n_ = 51 - kk_106 ∧ (kk_106 ≤ nn_105 ∧ sd2_106 < 2147483648 ∧ al_106 = (evN (sdX n2 see2 tm2 g2 ff2 fp2) (ruX rf3 rc3 rr3 rs3 rb3) (min rr3 tm2) v9 kk_106).1 ∧ sd2_106 = (evN (sdX n2 see2 tm2 g2 ff2 fp2) (ruX rf3 rc3 rr3 rs3 rb3) (min rr3 tm2) v9 kk_106).2) ∧ va_P D classes [((a 0), .inr (7, (fX7 (a 1) (a 3) (a 19) (a 35) (a 40) (nI rk) lfa (a 53) (a 56) (a 63) (a 64) (a 68)))), ((a 3), .inl (k 3, 3, .inr (.inr (.inr (.inr (a3 (a 4) (a 9) (a 14))))))), ((a 40), .inl (k 5, 4, .inr (.inr (.inr (.inr (a4 (a 41) (a 44) (a 47) (a 50))))))), ((a 4), .inr (5, (fX5 (a 5) (a 6) (a 7) (a 8)))), (aI k (a 5) 10 (vv n0 see0 tm0 g0)), (aI k (a 6) 24 ff0), (aI k (a 7) 24 fp0), (aI k (a 8) 4 fl0), ((a 9), .inr (5, (fX5 (a 10) (a 11) (a 12) (a 13)))), (aI k (a 10) 10 (vv n1 see1 tm1 g1)), (aI k (a 11) 24 ff1), (aI k (a 12) 24 fp1), (aI k (a 13) 4 fl1), ((a 14), .inr (5, (fX5 (a 15) (a 16) (a 17) (a 18)))), (aI k (a 15) 10 (vv n2 see2 tm2 g2)), (aI k (a 16) 24 ff2), (aI k (a 17) 24 fp2), (aI k (a 18) 4 fl2), ((a 41), .inr (3, (fX3 (a 42) (a 43) rf0 (nI rc0) (nI rr0)))), (aI k (a 42) 24 rs0), (aI k (a 43) 24 rb0), ((a 44), .inr (3, (fX3 (a 45) (a 46) rf1 (nI rc1) (nI rr1)))), (aI k (a 45) 24 rs1), (aI k (a 46) 24 rb1), ((a 47), .inr (3, (fX3 (a 48) (a 49) rf2 (nI rc2) (nI rr2)))), (aI k (a 48) 24 rs2), (aI k (a 49) 24 rb2), ((a 50), .inr (3, (fX3 (a 51) (a 52) rf3 (nI rc3) (nI rr3)))), (aI k (a 51) 24 rs3), (aI k (a 52) 24 rb3), ((a 53), .inr (4, (fX4 (a 54) (a 55) (nI cc) (nI rz) ro (nI sd2_106)))), ((a 64), .inr (2, (fX2 (a 65) (a 66) (a 67) wt wc)))] H ∧ va_D A [((a 0), .inr (7, (fX7 (a 1) (a 3) (a 19) (a 35) (a 40) (nI rk) lfa (a 53) (a 56) (a 63) (a 64) (a 68)))), ((a 3), .inl (k 3, 3, .inr (.inr (.inr (.inr (a3 (a 4) (a 9) (a 14))))))), ((a 40), .inl (k 5, 4, .inr (.inr (.inr (.inr (a4 (a 41) (a 44) (a 47) (a 50))))))), ((a 4), .inr (5, (fX5 (a 5) (a 6) (a 7) (a 8)))), (aI k (a 5) 10 (vv n0 see0 tm0 g0)), (aI k (a 6) 24 ff0), (aI k (a 7) 24 fp0), (aI k (a 8) 4 fl0), ((a 9), .inr (5, (fX5 (a 10) (a 11) (a 12) (a 13)))), (aI k (a 10) 10 (vv n1 see1 tm1 g1)), (aI k (a 11) 24 ff1), (aI k (a 12) 24 fp1), (aI k (a 13) 4 fl1), ((a 14), .inr (5, (fX5 (a 15) (a 16) (a 17) (a 18)))), (aI k (a 15) 10 (vv n2 see2 tm2 g2)), (aI k (a 16) 24 ff2), (aI k (a 17) 24 fp2), (aI k (a 18) 4 fl2), ((a 41), .inr (3, (fX3 (a 42) (a 43) rf0 (nI rc0) (nI rr0)))), (aI k (a 42) 24 rs0), (aI k (a 43) 24 rb0), ((a 44), .inr (3, (fX3 (a 45) (a 46) rf1 (nI rc1) (nI rr1)))), (aI k (a 45) 24 rs1), (aI k (a 46) 24 rb1), ((a 47), .inr (3, (fX3 (a 48) (a 49) rf2 (nI rc2) (nI rr2)))), (aI k (a 48) 24 rs2), (aI k (a 49) 24 rb2), ((a 50), .inr (3, (fX3 (a 51) (a 52) rf3 (nI rc3) (nI rr3)))), (aI k (a 51) 24 rs3), (aI k (a 52) 24 rb3), ((a 53), .inr (4, (fX4 (a 54) (a 55) (nI cc) (nI rz) ro (nI sd2_106)))), ((a 64), .inr (2, (fX2 (a 65) (a 66) (a 67) wt wc)))] ∧ va_S A s.heap H locs ∧ lv_has ls 7 [(6, .int (nI kk_106)), (4, .long al_106), (0, .ref (a 0)), (1, .int 2), (2, .int 3), (3, .int (nI nn_105))]) (fun n_106 x_106 H locs ls hI ih_106 => ?_) _ (0, 0, v9) ⟨rfl, ⟨by omega, by omega, rfl, rfl⟩, hP, hD, hS, (lv_sub hl [0, 1, 2, 3, 4, 5] rfl)⟩
        obtain ⟨kk_106, al_106, sd2_106⟩ := x_106
        obtain ⟨hm_106, hv_106, hP, hD, hS, hl⟩ := hI
        subst hm_106
        refine lv_iload hx hb dX7_evening_40 (lv_at hl 0 rfl) ?_
        refine lv_iload_n hx hb dX7_evening_42 rfl (lv_at hl 5 rfl) ?_
        refine lv_icmp_ge (tgt := 81) hx hb dX7_evening_43 (by decide) (fun c_107 => ?_) (fun c_107 => ?_)
        · have c_107 := (nI_leI (a := nn_105) (b := kk_106) (by omega) (by omega)).mp c_107
          refine lv_lload hx hb dX7_evening_81 (lv_at hl 1 rfl) ?_
          refine lv_ldc2 hx hb hown (hts _ tw_940) dX7_evening_83 ?_
          refine lv_ldiv hx hb dX7_evening_86 (by decide) ?_
          refine lv_topl (fun x_108 ex_108 => ?_)
          refine lv_l2i hx hb dX7_evening_87 rfl ?_
          refine lv_topi (fun x_109 ex_109 => ?_)
          obtain ⟨hP9, hD9⟩ := pd_sub [((a 0), .inr (7, (fX7 (a 1) (a 3) (a 19) (a 35) (a 40) (nI rk) lfa (a 53) (a 56) (a 63) (a 64) (a 68)))), ((a 3), .inl (k 3, 3, .inr (.inr (.inr (.inr (a3 (a 4) (a 9) (a 14))))))), ((a 40), .inl (k 5, 4, .inr (.inr (.inr (.inr (a4 (a 41) (a 44) (a 47) (a 50))))))), ((a 4), .inr (5, (fX5 (a 5) (a 6) (a 7) (a 8)))), (aI k (a 5) 10 (vv n0 see0 tm0 g0)), (aI k (a 6) 24 ff0), (aI k (a 7) 24 fp0), (aI k (a 8) 4 fl0), ((a 9), .inr (5, (fX5 (a 10) (a 11) (a 12) (a 13)))), (aI k (a 10) 10 (vv n1 see1 tm1 g1)), (aI k (a 11) 24 ff1), (aI k (a 12) 24 fp1), (aI k (a 13) 4 fl1), ((a 14), .inr (5, (fX5 (a 15) (a 16) (a 17) (a 18)))), (aI k (a 15) 10 (vv n2 see2 tm2 g2)), (aI k (a 16) 24 ff2), (aI k (a 17) 24 fp2), (aI k (a 18) 4 fl2), ((a 41), .inr (3, (fX3 (a 42) (a 43) rf0 (nI rc0) (nI rr0)))), (aI k (a 42) 24 rs0), (aI k (a 43) 24 rb0), ((a 44), .inr (3, (fX3 (a 45) (a 46) rf1 (nI rc1) (nI rr1)))), (aI k (a 45) 24 rs1), (aI k (a 46) 24 rb1), ((a 47), .inr (3, (fX3 (a 48) (a 49) rf2 (nI rc2) (nI rr2)))), (aI k (a 48) 24 rs2), (aI k (a 49) 24 rb2), ((a 50), .inr (3, (fX3 (a 51) (a 52) rf3 (nI rc3) (nI rr3)))), (aI k (a 51) 24 rs3), (aI k (a 52) 24 rb3), ((a 53), .inr (4, (fX4 (a 54) (a 55) (nI cc) (nI rz) ro (nI sd2_106)))), ((a 64), .inr (2, (fX2 (a 65) (a 66) (a 67) wt wc)))] [0, 1, 2, 3, 4, 5, 6, 7, 8, 9, 10, 11, 12, 13, 14, 15, 16, 17, 18, 19, 20, 21, 22, 23, 24, 25, 26, 27, 28, 29, 30, 31] hP hD (by decide +kernel) rfl
          exact W.iret (v := x_109) hx hb hr (fun t ht hW => ⟨⟨x_109, (nI sd2_106), rfl, ev_at (s := 2) (t := 3) (by omega) (by omega) (by omega) (show 0 < n2 by omega) (show evA (nI nn_105) (nI v9) (sdX n2 see2 tm2 g2 ff2 fp2) (ruX rf3 rc3 rr3 rs3 rb3) _ _ from ev_i (a := al_106) (w := sd2_106) (by omega) hin_105 (by omega) (by rw [(show muD (sdX n2 see2 tm2 g2 ff2 fp2) (ruX rf3 rc3 rr3 rs3 rb3) = min rr3 tm2 by unfold muD; rw [tmX (by omega)]; exact congrArg (fun z => min z tm2) (nI_clamp (by omega))), show nn_105 = kk_106 by omega]; exact hv_106.2.2.1) (by rw [(show muD (sdX n2 see2 tm2 g2 ff2 fp2) (ruX rf3 rc3 rr3 rs3 rb3) = min rr3 tm2 by unfold muD; rw [tmX (by omega)]; exact congrArg (fun z => min z tm2) (nI_clamp (by omega))), show nn_105 = kk_106 by omega]; exact hv_106.2.2.2) (by rw [ex_109, ex_108])), by rw [ht]; exact hP9, hD9⟩, hS.F ht⟩) hS.2.2 dX7_evening_88
        · have c_107 : ¬ (nn_105 ≤ kk_106) := fun h => c_107 ((nI_leI (a := nn_105) (b := kk_106) (by omega) (by omega)).mpr h)
          refine lv_lload hx hb dX7_evening_46 (lv_at hl 1 rfl) ?_
          refine lv_aload_n hx hb dX7_evening_48 rfl (lv_at hl 2 rfl) ?_
          refine va_get (D := D) (ci := 7) (v := .ref (a 64)) (C := RX7) (T := TX7) (N := 12) hx hb hts inX7 hown hK hP 0 rfl rfl 10 (by decide) (hts _ tw_315) (fun _ h9 => h9) rfl dX7_evening_49 ?_
          refine lv_aload_n hx hb dX7_evening_52 rfl (lv_at hl 2 rfl) ?_
          refine va_get (D := D) (ci := 7) (v := .ref (a 3)) (C := RX7) (T := TX7) (N := 12) hx hb hts inX7 hown hK hP 0 rfl rfl 1 (by decide) (hts _ tw_306) (fun _ h9 => h9) rfl dX7_evening_53 ?_
          refine lv_iload_n hx hb dX7_evening_56 rfl (lv_at hl 3 rfl) ?_
          refine va_aldq hx hb hK hP 1 3 rfl rfl (by unfold vp_in; decide) dX7_evening_57 ?_
          refine lv_tr (y := .ref (a 14)) rfl ?_
          refine lv_aload_n hx hb dX7_evening_58 rfl (lv_at hl 2 rfl) ?_
          refine va_get (D := D) (ci := 7) (v := .ref (a 40)) (C := RX7) (T := TX7) (N := 12) hx hb hts inX7 hown hK hP 0 rfl rfl 4 (by decide) (hts _ tw_309) (fun _ h9 => h9) rfl dX7_evening_59 ?_
          refine lv_iload_n hx hb dX7_evening_62 rfl (lv_at hl 4 rfl) ?_
          refine va_aldq hx hb hK hP 2 5 rfl rfl (by unfold vp_in; decide) dX7_evening_63 ?_
          refine lv_tr (y := .ref (a 50)) rfl ?_
          refine lv_aload_n hx hb dX7_evening_64 rfl (lv_at hl 2 rfl) ?_
          refine va_get (D := D) (ci := 7) (v := .ref (a 53)) (C := RX7) (T := TX7) (N := 12) hx hb hts inX7 hown hK hP 0 rfl rfl 7 (by decide) (hts _ tw_312) (fun _ h9 => h9) rfl dX7_evening_65 ?_
          refine rw_i (D := D) (wr := [((a 0), .inr (7, (fX7 (a 1) (a 3) (a 19) (a 35) (a 40) (nI rk) lfa (a 53) (a 56) (a 63) (a 64) (a 68)))), ((a 3), .inl (k 3, 3, .inr (.inr (.inr (.inr (a3 (a 4) (a 9) (a 14))))))), ((a 40), .inl (k 5, 4, .inr (.inr (.inr (.inr (a4 (a 41) (a 44) (a 47) (a 50))))))), ((a 4), .inr (5, (fX5 (a 5) (a 6) (a 7) (a 8)))), (aI k (a 5) 10 (vv n0 see0 tm0 g0)), (aI k (a 6) 24 ff0), (aI k (a 7) 24 fp0), (aI k (a 8) 4 fl0), ((a 9), .inr (5, (fX5 (a 10) (a 11) (a 12) (a 13)))), (aI k (a 10) 10 (vv n1 see1 tm1 g1)), (aI k (a 11) 24 ff1), (aI k (a 12) 24 fp1), (aI k (a 13) 4 fl1), ((a 41), .inr (3, (fX3 (a 42) (a 43) rf0 (nI rc0) (nI rr0)))), (aI k (a 42) 24 rs0), (aI k (a 43) 24 rb0), ((a 44), .inr (3, (fX3 (a 45) (a 46) rf1 (nI rc1) (nI rr1)))), (aI k (a 45) 24 rs1), (aI k (a 46) 24 rb1), ((a 47), .inr (3, (fX3 (a 48) (a 49) rf2 (nI rc2) (nI rr2)))), (aI k (a 48) 24 rs2), (aI k (a 49) 24 rb2)]) (va_runV (As := [.ref (a 14), .ref (a 50), .ref (a 53)]) (rest := [.long al_106]) ⟨hx, hb, hml, hown, hts⟩ ((y_eveningOf l D k st lo (a 64) (a 65) (a 66) (a 67) wt wc (a 14) (a 15) (a 16) (a 17) (a 18) n2 see2 tm2 g2 ff2 fp2 fl2 (a 50) (a 51) (a 52) rf3 rc3 rr3 rs3 rb3 (a 53) (a 54) (a 55) cc rz ro sd2_106 (by first | assumption | omega) (by first | assumption | omega) (by first | assumption | omega) (by first | assumption | omega) (hlt 2 (by omega)) (hok 2 (by omega)) (by first | assumption | omega)) H.size) (cwV 3 hts (gV tw_928 tw_929 tw_930 tw_83 tw_931) rfl rfl rfl (by decide +kernel) ⟨Nat.le_of_ble_eq_true rfl, Nat.le_of_ble_eq_true rfl⟩) (pV hS hAlo hlo hP hK (va_Dlo hD hAlo) hZ [31, 13, 14, 15, 16, 17, 27, 28, 29, 30] (by decide +kernel) rfl (ci := 2) (q := (RX2, TX2, 5)) (q0 := 0) rfl rfl) rfl rfl hl.1 rfl (lv_room (Nat.le_of_ble_eq_true rfl)) dX7_evening_68 ⟨Nat.le_of_ble_eq_true rfl, Nat.le_of_ble_eq_true rfl⟩) hS hA hP hD [31, 13, 14, 15, 16, 17, 27, 28, 29, 30] [0, 1, 2, 3, 4, 5, 6, 7, 8, 9, 10, 11, 12, 18, 19, 20, 21, 22, 23, 24, 25, 26] rfl rfl (by decide +kernel) (by decide +kernel) (fun r_110 u H locs hw_110 hP hD hS => ?_)
          obtain ⟨sd__110, rfl⟩ : ∃ z, z = u := ⟨_, rfl⟩
          have hQ9 := pd_mk [((a 0), .inr (7, (fX7 (a 1) (a 3) (a 19) (a 35) (a 40) (nI rk) lfa (a 53) (a 56) (a 63) (a 64) (a 68)))), ((a 3), .inl (k 3, 3, .inr (.inr (.inr (.inr (a3 (a 4) (a 9) (a 14))))))), ((a 40), .inl (k 5, 4, .inr (.inr (.inr (.inr (a4 (a 41) (a 44) (a 47) (a 50))))))), ((a 4), .inr (5, (fX5 (a 5) (a 6) (a 7) (a 8)))), (aI k (a 5) 10 (vv n0 see0 tm0 g0)), (aI k (a 6) 24 ff0), (aI k (a 7) 24 fp0), (aI k (a 8) 4 fl0), ((a 9), .inr (5, (fX5 (a 10) (a 11) (a 12) (a 13)))), (aI k (a 10) 10 (vv n1 see1 tm1 g1)), (aI k (a 11) 24 ff1), (aI k (a 12) 24 fp1), (aI k (a 13) 4 fl1), ((a 41), .inr (3, (fX3 (a 42) (a 43) rf0 (nI rc0) (nI rr0)))), (aI k (a 42) 24 rs0), (aI k (a 43) 24 rb0), ((a 44), .inr (3, (fX3 (a 45) (a 46) rf1 (nI rc1) (nI rr1)))), (aI k (a 45) 24 rs1), (aI k (a 46) 24 rb1), ((a 47), .inr (3, (fX3 (a 48) (a 49) rf2 (nI rc2) (nI rr2)))), (aI k (a 48) 24 rs2), (aI k (a 49) 24 rb2), ((a 64), .inr (2, (fX2 (a 65) (a 66) (a 67) wt wc))), ((a 14), .inr (5, (fX5 (a 15) (a 16) (a 17) (a 18)))), (aI k (a 15) 10 (vv n2 see2 tm2 g2)), (aI k (a 16) 24 ff2), (aI k (a 17) 24 fp2), (aI k (a 18) 4 fl2), ((a 50), .inr (3, (fX3 (a 51) (a 52) rf3 (nI rc3) (nI rr3)))), (aI k (a 51) 24 rs3), (aI k (a 52) 24 rb3), ((a 53), .inr (4, (fX4 (a 54) (a 55) (nI cc) (nI rz) ro (nI sd__110))))] hP hD
          clear hP hD
          obtain ⟨hP, hD⟩ := hQ9
          try dsimp only at hw_110
          refine lv_i2l (v := r_110.toInt64) hx hb dX7_evening_71 rfl ?_
          refine lv_ladd hx hb dX7_evening_72 ?_
          refine lv_topl (fun x_111 ex_111 => ?_)
          refine lv_lstore (lv' := [(4, .long x_111), (6, .int (nI kk_106)), (0, .ref (a 0)), (1, .int 2), (2, .int 3), (3, .int (nI nn_105))]) hx hb dX7_evening_73 hl (by decide) rfl (fun ls hl => ?_)
          refine lv_iinc (v := (nI (kk_106 + 1))) (lv' := [(6, .int (nI (kk_106 + 1))), (4, .long x_111), (0, .ref (a 0)), (1, .int 2), (2, .int 3), (3, .int (nI nn_105))]) hx hb dX7_evening_75 hl (k := 1) rfl (nI_add kk_106 1) (by decide) rfl (fun ls hl => ?_)
          refine lv_goto (tgt := 40) hx hb dX7_evening_78 (by decide) ?_
          have hes_112 := evN_s hv_106.2.2.1 hv_106.2.2.2 hw_110.1 ex_111
          exact ih_106 _ (kk_106 + 1, x_111, sd__110) _ _ _ (by omega) ⟨rfl, ⟨by omega, hw_110.2, hes_112.1, hes_112.2⟩, (hP.sub [0, 1, 2, 3, 4, 5, 6, 7, 8, 9, 10, 11, 12, 23, 24, 25, 26, 27, 13, 14, 15, 16, 17, 18, 19, 20, 21, 28, 29, 30, 31, 22] rfl), (hD.sub [0, 1, 2, 3, 4, 5, 6, 7, 8, 9, 10, 11, 12, 23, 24, 25, 26, 27, 13, 14, 15, 16, 17, 18, 19, 20, 21, 28, 29, 30, 31, 22] (by decide +kernel) rfl), hS, (lv_sub hl [0, 1, 2, 3, 4, 5] rfl)⟩
      · refine lv_if_ne (tgt := 34) hx hb dX7_evening_27 (by decide) (fun h => absurd (by decide) h) (fun _ => ?_)
        refine lv_sipush (v := (-1002)) hx hb dX7_evening_30 (by decide) ?_
        obtain ⟨hP9, hD9⟩ := pd_sub [((a 0), .inr (7, (fX7 (a 1) (a 3) (a 19) (a 35) (a 40) (nI rk) lfa (a 53) (a 56) (a 63) (a 64) (a 68)))), ((a 3), .inl (k 3, 3, .inr (.inr (.inr (.inr (a3 (a 4) (a 9) (a 14))))))), ((a 40), .inl (k 5, 4, .inr (.inr (.inr (.inr (a4 (a 41) (a 44) (a 47) (a 50))))))), ((a 4), .inr (5, (fX5 (a 5) (a 6) (a 7) (a 8)))), (aI k (a 5) 10 (vv n0 see0 tm0 g0)), (aI k (a 6) 24 ff0), (aI k (a 7) 24 fp0), (aI k (a 8) 4 fl0), ((a 9), .inr (5, (fX5 (a 10) (a 11) (a 12) (a 13)))), (aI k (a 10) 10 (vv n1 see1 tm1 g1)), (aI k (a 11) 24 ff1), (aI k (a 12) 24 fp1), (aI k (a 13) 4 fl1), ((a 14), .inr (5, (fX5 (a 15) (a 16) (a 17) (a 18)))), (aI k (a 15) 10 (vv n2 see2 tm2 g2)), (aI k (a 16) 24 ff2), (aI k (a 17) 24 fp2), (aI k (a 18) 4 fl2), ((a 41), .inr (3, (fX3 (a 42) (a 43) rf0 (nI rc0) (nI rr0)))), (aI k (a 42) 24 rs0), (aI k (a 43) 24 rb0), ((a 44), .inr (3, (fX3 (a 45) (a 46) rf1 (nI rc1) (nI rr1)))), (aI k (a 45) 24 rs1), (aI k (a 46) 24 rb1), ((a 47), .inr (3, (fX3 (a 48) (a 49) rf2 (nI rc2) (nI rr2)))), (aI k (a 48) 24 rs2), (aI k (a 49) 24 rb2), ((a 50), .inr (3, (fX3 (a 51) (a 52) rf3 (nI rc3) (nI rr3)))), (aI k (a 51) 24 rs3), (aI k (a 52) 24 rb3), ((a 53), .inr (4, (fX4 (a 54) (a 55) (nI cc) (nI rz) ro (nI v9)))), ((a 64), .inr (2, (fX2 (a 65) (a 66) (a 67) wt wc)))] [0, 1, 2, 3, 4, 5, 6, 7, 8, 9, 10, 11, 12, 13, 14, 15, 16, 17, 18, 19, 20, 21, 22, 23, 24, 25, 26, 27, 28, 29, 30, 31] hP hD (by decide +kernel) rfl
        exact W.iret (v := (-1002)) hx hb hr (fun t ht hW => ⟨⟨(-1002), (nI v9), rfl, ev_at (s := 2) (t := 3) (by omega) (by omega) (by omega) (show 0 < n2 by omega) (show evA p2 (nI v9) (sdX n2 see2 tm2 g2 ff2 fp2) (ruX rf3 rc3 rr3 rs3 rb3) _ _ from ev_o hw_104), by rw [ht]; exact hP9, hD9⟩, hS.F ht⟩) hS.2.2 dX7_evening_33
    · refine lv_if_ne (tgt := 20) hx hb dX7_evening_13 (by decide) (fun h => absurd (by decide) h) (fun _ => ?_)
      refine lv_sipush (v := (-1001)) hx hb dX7_evening_16 (by decide) ?_
      obtain ⟨hP9, hD9⟩ := pd_sub [((a 0), .inr (7, (fX7 (a 1) (a 3) (a 19) (a 35) (a 40) (nI rk) lfa (a 53) (a 56) (a 63) (a 64) (a 68)))), ((a 3), .inl (k 3, 3, .inr (.inr (.inr (.inr (a3 (a 4) (a 9) (a 14))))))), ((a 40), .inl (k 5, 4, .inr (.inr (.inr (.inr (a4 (a 41) (a 44) (a 47) (a 50))))))), ((a 4), .inr (5, (fX5 (a 5) (a 6) (a 7) (a 8)))), (aI k (a 5) 10 (vv n0 see0 tm0 g0)), (aI k (a 6) 24 ff0), (aI k (a 7) 24 fp0), (aI k (a 8) 4 fl0), ((a 9), .inr (5, (fX5 (a 10) (a 11) (a 12) (a 13)))), (aI k (a 10) 10 (vv n1 see1 tm1 g1)), (aI k (a 11) 24 ff1), (aI k (a 12) 24 fp1), (aI k (a 13) 4 fl1), ((a 14), .inr (5, (fX5 (a 15) (a 16) (a 17) (a 18)))), (aI k (a 15) 10 (vv n2 see2 tm2 g2)), (aI k (a 16) 24 ff2), (aI k (a 17) 24 fp2), (aI k (a 18) 4 fl2), ((a 41), .inr (3, (fX3 (a 42) (a 43) rf0 (nI rc0) (nI rr0)))), (aI k (a 42) 24 rs0), (aI k (a 43) 24 rb0), ((a 44), .inr (3, (fX3 (a 45) (a 46) rf1 (nI rc1) (nI rr1)))), (aI k (a 45) 24 rs1), (aI k (a 46) 24 rb1), ((a 47), .inr (3, (fX3 (a 48) (a 49) rf2 (nI rc2) (nI rr2)))), (aI k (a 48) 24 rs2), (aI k (a 49) 24 rb2), ((a 50), .inr (3, (fX3 (a 51) (a 52) rf3 (nI rc3) (nI rr3)))), (aI k (a 51) 24 rs3), (aI k (a 52) 24 rb3), ((a 53), .inr (4, (fX4 (a 54) (a 55) (nI cc) (nI rz) ro (nI v9)))), ((a 64), .inr (2, (fX2 (a 65) (a 66) (a 67) wt wc)))] [0, 1, 2, 3, 4, 5, 6, 7, 8, 9, 10, 11, 12, 13, 14, 15, 16, 17, 18, 19, 20, 21, 22, 23, 24, 25, 26, 27, 28, 29, 30, 31] hP hD (by decide +kernel) rfl
      exact W.iret (v := (-1001)) hx hb hr (fun t ht hW => ⟨⟨(-1001), (nI v9), rfl, ev_no1 hw_76, by rw [ht]; exact hP9, hD9⟩, hS.F ht⟩) hS.2.2 dX7_evening_19
  · refine lv_if_eq (tgt := 16) hx hb dX7_evening_5 (by decide) (fun _ => ?_) (fun h => absurd (by decide) h)
    refine lv_sipush (v := (-1001)) hx hb dX7_evening_16 (by decide) ?_
    obtain ⟨hP9, hD9⟩ := pd_sub [((a 0), .inr (7, (fX7 (a 1) (a 3) (a 19) (a 35) (a 40) (nI rk) lfa (a 53) (a 56) (a 63) (a 64) (a 68)))), ((a 3), .inl (k 3, 3, .inr (.inr (.inr (.inr (a3 (a 4) (a 9) (a 14))))))), ((a 40), .inl (k 5, 4, .inr (.inr (.inr (.inr (a4 (a 41) (a 44) (a 47) (a 50))))))), ((a 4), .inr (5, (fX5 (a 5) (a 6) (a 7) (a 8)))), (aI k (a 5) 10 (vv n0 see0 tm0 g0)), (aI k (a 6) 24 ff0), (aI k (a 7) 24 fp0), (aI k (a 8) 4 fl0), ((a 9), .inr (5, (fX5 (a 10) (a 11) (a 12) (a 13)))), (aI k (a 10) 10 (vv n1 see1 tm1 g1)), (aI k (a 11) 24 ff1), (aI k (a 12) 24 fp1), (aI k (a 13) 4 fl1), ((a 14), .inr (5, (fX5 (a 15) (a 16) (a 17) (a 18)))), (aI k (a 15) 10 (vv n2 see2 tm2 g2)), (aI k (a 16) 24 ff2), (aI k (a 17) 24 fp2), (aI k (a 18) 4 fl2), ((a 41), .inr (3, (fX3 (a 42) (a 43) rf0 (nI rc0) (nI rr0)))), (aI k (a 42) 24 rs0), (aI k (a 43) 24 rb0), ((a 44), .inr (3, (fX3 (a 45) (a 46) rf1 (nI rc1) (nI rr1)))), (aI k (a 45) 24 rs1), (aI k (a 46) 24 rb1), ((a 47), .inr (3, (fX3 (a 48) (a 49) rf2 (nI rc2) (nI rr2)))), (aI k (a 48) 24 rs2), (aI k (a 49) 24 rb2), ((a 50), .inr (3, (fX3 (a 51) (a 52) rf3 (nI rc3) (nI rr3)))), (aI k (a 51) 24 rs3), (aI k (a 52) 24 rb3), ((a 53), .inr (4, (fX4 (a 54) (a 55) (nI cc) (nI rz) ro (nI v9)))), ((a 64), .inr (2, (fX2 (a 65) (a 66) (a 67) wt wc)))] [0, 1, 2, 3, 4, 5, 6, 7, 8, 9, 10, 11, 12, 13, 14, 15, 16, 17, 18, 19, 20, 21, 22, 23, 24, 25, 26, 27, 28, 29, 30, 31] hP hD (by decide +kernel) rfl
    exact W.iret (v := (-1001)) hx hb hr (fun t ht hW => ⟨⟨(-1001), (nI v9), rfl, ev_no0 (fun s h1 h2 h3 => hw_1 s h1 h2 (by rw [d3_n] at h3; exact h3)), by rw [ht]; exact hP9, hD9⟩, hS.F ht⟩) hS.2.2 dX7_evening_19


set_option maxHeartbeats 4000000 in
set_option maxRecDepth 100000 in
theorem n_drive (l : Launch) (D : va_G) (k : Nat → ClassId) (st : Nat → Nat) (lo : Nat) (a : Nat → Nat) (tx : Nat) (t0 : Nat) (we : Nat) (rd : Nat) (ru : Nat) (rw : Nat) (ca : Nat) (fp : Int32) (wd : Int64) (nu : Int32) (na : Int32) (ts : Int32) (df : Int32) (db : Int32) (sd : Nat) (dn : Nat → Nat) (se : Nat → Nat) (tm : Nat → Nat) (gs : Nat → Int32) (ffrees : Nat → Int32) (fprices : Nat → Int32) (bm : Nat → Nat) (fbarSeen : Nat → Int32) (fbarFrom : Nat → Int32) (fruleRounds : Nat → Int32) (sn : Nat) (kr : Nat) (rx : Nat) (hdn : ∀ j, dn j ≤ 24) (hse : ∀ j, se j ≤ 2) (htm : ∀ j, tm j ≤ 3) (hbm : ∀ j, bm j ≤ 12) (hs : sn < 3) (hk : kr < 4) (h0 : 0 < dn sn) (hrx : fruleRounds kr = nI rx) (hr3 : rx ≤ 3) (hsd : sd < 2147483648) : CWi l D k st lo yX8_drive cX8_drive 10 (some .int) ({ frames := 4, cells := 0, slots := 0, locals := 93 }) 0 0 [.ref (a 0), .int (nI sn), .int (nI kr)] [((a 0), .inr (8, (fX8 a (nI tx) fp (nI t0) wd (nI we) nu na (nI rd) ts (nI ru) (nI rw) (nI ca) df db (nI sd)))), (aI k (a 1) 3 (nF dn)), (aI k (a 4) 27 (sg se tm gs)), (aI k (a 2) 72 ffrees), (aI k (a 3) 72 fprices), (aI k (a 25) 4 (nF bm)), (aI k (a 26) 48 fbarSeen), (aI k (a 27) 48 fbarFrom), (aI k (a 28) 4 fruleRounds)] (fun (r : Int32) (sd_ : Nat) => (r, sd_) = evF (sdM dn (sg se tm gs) ffrees fprices sn) (ruM bm fbarSeen fbarFrom fruleRounds kr) (min rx (tm sn)) sd ∧ sd_ < 2147483648) (fun (sd_ : Nat) => [((a 0), .inr (8, (fX8 a (nI tx) fp (nI t0) wd (nI we) nu na (nI rd) ts (nI ru) (nI rw) (nI ca) df db (nI sd_)))), (aI k (a 1) 3 (nF dn)), (aI k (a 4) 27 (sg se tm gs)), (aI k (a 2) 72 ffrees), (aI k (a 3) 72 fprices), (aI k (a 25) 4 (nF bm)), (aI k (a 26) 48 fbarSeen), (aI k (a 27) 48 fbarFrom), (aI k (a 28) 4 fruleRounds)]) := by
  intro sz
  refine Met.ofW (cc := cX8_drive) (maxL := 10) (ret := (some .int)) (by decide) rfl ?_
  intro p e s m args below meth c s₁ B hml hv
  obtain ⟨rfl, hsz, hlo, hP, hK, hDL, hZ⟩ := hv
  have hx := B.exec
  have hb := B.bytes
  have hr := B.returns
  have hts := WS_ts B.pre
  have hown : s.vm.findClass RX8 = some m.cls := findClass_of_methodNamed B.named
  have hlocks := B.notSynchronized
  subst hsz
  have hD := hDL.self (sz := s.heap.size)
  have hAlo := A_lo hDL hlo
  generalize hAe : va_A [((a 0), .inr (8, (fX8 a (nI tx) fp (nI t0) wd (nI we) nu na (nI rd) ts (nI ru) (nI rw) (nI ca) df db (nI sd)))), (aI k (a 1) 3 (nF dn)), (aI k (a 4) 27 (sg se tm gs)), (aI k (a 2) 72 ffrees), (aI k (a 3) 72 fprices), (aI k (a 25) 4 (nF bm)), (aI k (a 26) 48 fbarSeen), (aI k (a 27) 48 fbarFrom), (aI k (a 28) 4 fruleRounds)] s.heap.size = A at hD hAlo ⊢
  have hA : ∀ q : Nat, s.heap.size ≤ q → A q := fun q h => by rw [← hAe]; exact Or.inr h
  have hS : va_S A s.heap s.heap [] := va_S.rf
  have hl := lv_entry ([.ref (a 0), .int (nI sn), .int (nI kr)]) (n := 10) (Nat.le_of_ble_eq_true rfl)
  rw [lg_entry_eq]
  generalize (lg_sl ([.ref (a 0), .int (nI sn), .int (nI kr)]) ++ List.replicate (10 - (lg_sl ([.ref (a 0), .int (nI sn), .int (nI kr)])).length) Slot.unset).toArray = ls at hl ⊢
  have hl : lv_has ls 10 [(0, .ref (a 0)), (1, .int (nI sn)), (2, .int (nI kr))] := hl
  have hd_9 := hdn sn
  have hd_8 := hse sn
  have hd_7 := htm sn
  refine lv_aload_n hx hb dX8_drive_0 rfl (lv_at hl 0 rfl) ?_
  refine va_get (D := D) (ci := 8) (v := .ref (a 1)) (C := RX8) (T := TX8) (N := 44) hx hb hts inX8 hown hK hP 0 rfl rfl 0 (by decide) (hts _ tw_973) (fun _ h9 => h9) rfl dX8_drive_1 ?_
  refine lv_iload_n hx hb dX8_drive_4 rfl (lv_at hl 1 rfl) ?_
  refine va_iald hx hb hK hP 1 1 rfl rfl (vp_in_nI (by omega) (by decide)) dX8_drive_5 ?_
  refine lv_ti (y := (nI (dn sn))) (by rw [nI_clamp (by omega)]; rfl) ?_
  refine lv_istore_n (lv' := [(3, .int (nI (dn sn))), (0, .ref (a 0)), (1, .int (nI sn)), (2, .int (nI kr))]) hx hb dX8_drive_6 rfl hl (by decide) rfl (fun ls hl => ?_)
  refine lv_iconst (v := 0) hx hb dX8_drive_7 (by decide) ?_
  refine lv_istore (lv' := [(4, .int 0), (3, .int (nI (dn sn))), (0, .ref (a 0)), (1, .int (nI sn)), (2, .int (nI kr))]) hx hb dX8_drive_8 hl (by decide) rfl (fun ls hl => ?_)
  refine lv_iconst (v := 0) hx hb dX8_drive_10 (by decide) ?_
  refine lv_istore (lv' := [(5, .int 0), (4, .int 0), (3, .int (nI (dn sn))), (0, .ref (a 0)), (1, .int (nI sn)), (2, .int (nI kr))]) hx hb dX8_drive_11 hl (by decide) rfl (fun ls hl => ?_)
  refine lv_iconst (v := 0) hx hb dX8_drive_13 (by decide) ?_
  refine lv_istore (lv' := [(6, .int 0), (5, .int 0), (4, .int 0), (3, .int (nI (dn sn))), (0, .ref (a 0)), (1, .int (nI sn)), (2, .int (nI kr))]) hx hb dX8_drive_14 hl (by decide) rfl (fun ls hl => ?_)
  refine lv_iconst (v := 0) hx hb dX8_drive_16 (by decide) ?_
  refine lv_istore (lv' := [(7, .int 0), (6, .int 0), (5, .int 0), (4, .int 0), (3, .int (nI (dn sn))), (0, .ref (a 0)), (1, .int (nI sn)), (2, .int (nI kr))]) hx hb dX8_drive_17 hl (by decide) rfl (fun ls hl => ?_)
  refine lv_iconst (v := 0) hx hb dX8_drive_19 (by decide) ?_
  refine lv_istore (lv' := [(8, .int 0), (7, .int 0), (6, .int 0), (5, .int 0), (4, .int 0), (3, .int (nI (dn sn))), (0, .ref (a 0)), (1, .int (nI sn)), (2, .int (nI kr))]) hx hb dX8_drive_20 hl (by decide) rfl (fun ls hl => ?_)
  refine W_loop (σ := Int32 × Nat × Nat × Nat × Int32 × Nat) (fun (n_ : Nat) (x_ : Int32 × Nat × Nat × Nat × Int32 × Nat) (H : Heap) (locs : List Loc) (ls : Array Slot) => match x_ with | (co_1, rr_1, ii_1, pa_1, ah_1, sd2_1) => n_ = (3 - rr_1) * 25 + (dn sn - ii_1) ∧ (rr_1 ≤ (min rx (tm sn)) ∧ ii_1 ≤ dn sn ∧ sd2_1 < 2147483648 ∧ evS (sdM dn (sg se tm gs) ffrees fprices sn) (ruM bm fbarSeen fbarFrom fruleRounds kr) (min rx (tm sn)) rr_1 ii_1 pa_1 ah_1 co_1 sd2_1 = evF (sdM dn (sg se tm gs) ffrees fprices sn) (ruM bm fbarSeen fbarFrom fruleRounds kr) (min rx (tm sn)) sd) ∧ va_P D classes [((a 0), .inr (8, (fX8 a (nI tx) fp (nI t0) wd (nI we) nu na (nI rd) ts (nI ru) (nI rw) (nI ca) df db (nI sd2_1)))), (aI k (a 1) 3 (nF dn)), (aI k (a 4) 27 (sg se tm gs)), (aI k (a 2) 72 ffrees), (aI k (a 3) 72 fprices), (aI k (a 25) 4 (nF bm)), (aI k (a 26) 48 fbarSeen), (aI k (a 27) 48 fbarFrom), (aI k (a 28) 4 fruleRounds)] H ∧ va_D A [((a 0), .inr (8, (fX8 a (nI tx) fp (nI t0) wd (nI we) nu na (nI rd) ts (nI ru) (nI rw) (nI ca) df db (nI sd2_1)))), (aI k (a 1) 3 (nF dn)), (aI k (a 4) 27 (sg se tm gs)), (aI k (a 2) 72 ffrees), (aI k (a 3) 72 fprices), (aI k (a 25) 4 (nF bm)), (aI k (a 26) 48 fbarSeen), (aI k (a 27) 48 fbarFrom), (aI k (a 28) 4 fruleRounds)] ∧ va_S A s.heap H locs ∧ lv_has ls 10 [(8, .int ah_1), (7, .int (nI pa_1)), (6, .int (nI ii_1)), (5, .int (nI rr_1)), (4, .int co_1), (3, .int (nI (dn sn))), (0, .ref (a 0)), (1, .int (nI sn)), (2, .int (nI kr))]) (fun n_1 x_1 H locs ls hI ih_1 => ?_) _ (0, 0, 0, 0, 0, sd) ⟨rfl, ⟨by omega, by omega, hsd, rfl⟩, hP, hD, hS, (lv_sub hl [0, 1, 2, 3, 4, 5, 6, 7, 8] rfl)⟩
  obtain ⟨co_1, rr_1, ii_1, pa_1, ah_1, sd2_1⟩ := x_1
  obtain ⟨hm_1, hv_1, hP, hD, hS, hl⟩ := hI
  subst hm_1
  refine lv_iload hx hb dX8_drive_22 (lv_at hl 2 rfl) ?_
  refine lv_iload_n hx hb dX8_drive_24 rfl (lv_at hl 5 rfl) ?_
  refine lv_icmp_ne (tgt := 82) hx hb dX8_drive_25 (by decide) (fun c_2 => ?_) (fun c_2 => ?_)
  · have c_2 : ¬ (ii_1 = (dn sn)) := fun h => c_2 ((nI_eq (a := ii_1) (b := (dn sn)) (by omega) (by omega)).mpr h)
    refine lv_aload_n hx hb dX8_drive_82 rfl (lv_at hl 6 rfl) ?_
    refine rw_i (D := D) (wr := [(aI k (a 1) 3 (nF dn)), (aI k (a 4) 27 (sg se tm gs)), (aI k (a 2) 72 ffrees), (aI k (a 3) 72 fprices), (aI k (a 25) 4 (nF bm)), (aI k (a 26) 48 fbarSeen), (aI k (a 27) 48 fbarFrom), (aI k (a 28) 4 fruleRounds)]) (va_runV (As := []) (rest := []) ⟨hx, hb, hml, hown, hts⟩ ((n_draw l D k st lo a tx t0 we rd ru rw ca fp wd nu na ts df db sd2_1 (by first | assumption | omega)) H.size) (cwV 0 hts (gV tw_1480 tw_1482 tw_77 tw_87 tw_1483) rfl rfl rfl (by decide +kernel) ⟨Nat.le_of_ble_eq_true rfl, Nat.le_of_ble_eq_true rfl⟩) (pV hS hAlo hlo hP hK (va_Dlo hD hAlo) hZ [0] (by decide) rfl (ci := 8) (q := (RX8, TX8, 44)) (q0 := 0) rfl rfl) rfl rfl hl.1 rfl (lv_room (Nat.le_of_ble_eq_true rfl)) dX8_drive_83 ⟨Nat.le_of_ble_eq_true rfl, Nat.le_of_ble_eq_true rfl⟩) hS hA hP hD [0] [1, 2, 3, 4, 5, 6, 7, 8] rfl rfl (by decide) (by decide) (fun r_3 u H locs hw_3 hP hD hS => ?_)
    obtain ⟨sd__3, rfl⟩ : ∃ z, z = u := ⟨_, rfl⟩
    have hQ9 := pd_mk [(aI k (a 1) 3 (nF dn)), (aI k (a 4) 27 (sg se tm gs)), (aI k (a 2) 72 ffrees), (aI k (a 3) 72 fprices), (aI k (a 25) 4 (nF bm)), (aI k (a 26) 48 fbarSeen), (aI k (a 27) 48 fbarFrom), (aI k (a 28) 4 fruleRounds), ((a 0), .inr (8, (fX8 a (nI tx) fp (nI t0) wd (nI we) nu na (nI rd) ts (nI ru) (nI rw) (nI ca) df db (nI sd__3))))] hP hD
    clear hP hD
    obtain ⟨hP, hD⟩ := hQ9
    try dsimp only at hw_3
    obtain ⟨hrv_4, hsv_4⟩ := hw_3
    have hsl_4 : sd__3 < 2147483648 := by rw [hsv_4]; exact drN_lt
    refine lv_aload_n hx hb dX8_drive_86 rfl (lv_at hl 6 rfl) ?_
    refine lv_iload_n hx hb dX8_drive_87 rfl (lv_at hl 7 rfl) ?_
    refine lv_iload hx hb dX8_drive_88 (lv_at hl 2 rfl) ?_
    refine lv_iload hx hb dX8_drive_90 (lv_at hl 0 rfl) ?_
    refine ro_i (D := D) (va_runV (As := [.int (nI sn), .int (nI ii_1), .int ah_1]) (rest := [.int r_3]) ⟨hx, hb, hml, hown, hts⟩ ((n_chanceOf l D k st lo a tx t0 we rd ru rw ca fp wd nu na ts df db (nI sd__3) ffrees se tm gs sn ii_1 ah_1 (by first | assumption | omega) (by first | assumption | omega)) H.size) (cwV 3 hts (gV tw_1210 tw_1212 tw_41 tw_87 tw_1213) rfl rfl rfl (by decide +kernel) ⟨Nat.le_of_ble_eq_true rfl, Nat.le_of_ble_eq_true rfl⟩) (pV hS hAlo hlo hP hK (va_Dlo hD hAlo) hZ [8, 2, 1] (by decide) rfl (ci := 8) (q := (RX8, TX8, 44)) (q0 := 0) rfl rfl) rfl rfl hl.1 rfl (lv_room (Nat.le_of_ble_eq_true rfl)) dX8_drive_92 ⟨Nat.le_of_ble_eq_true rfl, Nat.le_of_ble_eq_true rfl⟩) hS hA hP (fun r_5 H locs hw_5 hP hS => ?_)
    try dsimp only at hw_5
    refine lv_icmp_ge (tgt := 102) hx hb dX8_drive_95 (by decide) (fun c_6 => ?_) (fun c_6 => ?_)
    · have hdc_7 : ¬ nI (drN sd2_1 / 65536 % 100) < pChance (sdM dn (sg se tm gs) ffrees fprices sn) ii_1 ah_1 := by rw [← hrv_4, ← mChance (dn := dn) (se := se) (tm := tm) (gs := gs) (ffr := ffrees) (fpr := fprices) (show ii_1 < dn sn by omega), ← hw_5]; exact Int32.not_lt.mpr c_6
      refine lv_iconst (v := 0) hx hb dX8_drive_102 (by decide) ?_
      refine lv_istore (lv' := [(9, .int 0), (8, .int ah_1), (7, .int (nI pa_1)), (6, .int (nI ii_1)), (5, .int (nI rr_1)), (4, .int co_1), (3, .int (nI (dn sn))), (0, .ref (a 0)), (1, .int (nI sn)), (2, .int (nI kr))]) hx hb dX8_drive_103 hl (by decide) rfl (fun ls hl => ?_)
      refine lv_iload hx hb dX8_drive_105 (lv_at hl 0 rfl) ?_
      refine lv_if_eq (tgt := 135) hx hb dX8_drive_107 (by decide) (fun _ => ?_) (fun h => absurd (by decide) h)
      refine lv_iload hx hb dX8_drive_135 (lv_at hl 5 rfl) ?_
      refine lv_aload_n hx hb dX8_drive_137 rfl (lv_at hl 7 rfl) ?_
      refine lv_iload_n hx hb dX8_drive_138 rfl (lv_at hl 8 rfl) ?_
      refine lv_iconst (v := 2) hx hb dX8_drive_139 (by decide) ?_
      refine ro_i (D := D) (va_runV (As := [.int (nI sn), .int 2]) (rest := [.int co_1]) ⟨hx, hb, hml, hown, hts⟩ ((m_of l D k st lo a tx t0 we rd ru rw ca fp wd nu na ts df db (nI sd__3) se tm gs sn 2 (by first | assumption | omega) (by first | assumption | omega)) H.size) (cwV 2 hts (gV tw_1194 tw_1196 tw_39 tw_87 tw_1197) rfl rfl rfl (by decide +kernel) ⟨Nat.le_of_ble_eq_true rfl, Nat.le_of_ble_eq_true rfl⟩) (pV hS hAlo hlo hP hK (va_Dlo hD hAlo) hZ [8, 1] (by decide) rfl (ci := 8) (q := (RX8, TX8, 44)) (q0 := 0) rfl rfl) rfl rfl hl.1 rfl (lv_room (Nat.le_of_ble_eq_true rfl)) dX8_drive_140 ⟨Nat.le_of_ble_eq_true rfl, Nat.le_of_ble_eq_true rfl⟩) hS hA hP (fun r_8 H locs hw_8 hP hS => ?_)
      try dsimp only at hw_8
      refine lv_sipush (v := 1000) hx hb dX8_drive_143 (by decide) ?_
      refine lv_imul hx hb dX8_drive_146 ?_
      refine lv_topi (fun x_9 ex_9 => ?_)
      refine lv_iadd hx hb dX8_drive_147 ?_
      refine lv_topi (fun x_10 ex_10 => ?_)
      refine lv_istore (lv' := [(4, .int x_10), (9, .int 0), (8, .int ah_1), (7, .int (nI pa_1)), (6, .int (nI ii_1)), (5, .int (nI rr_1)), (3, .int (nI (dn sn))), (0, .ref (a 0)), (1, .int (nI sn)), (2, .int (nI kr))]) hx hb dX8_drive_148 hl (by decide) rfl (fun ls hl => ?_)
      have hev_11 := evx_n hv_1.2.2.2 (show ii_1 < dn sn by omega) hdc_7 (c2 := x_10) (by rw [ex_10, ex_9, hw_8, mPass (dn := dn) (ffr := ffrees) (fpr := fprices)]) hsv_4
      refine lv_iload hx hb dX8_drive_150 (lv_at hl 3 rfl) ?_
      refine lv_iload hx hb dX8_drive_152 (lv_at hl 1 rfl) ?_
      refine lv_if_eq (tgt := 161) hx hb dX8_drive_154 (by decide) (fun _ => ?_) (fun h => absurd (by decide) h)
      refine lv_iconst (v := 0) hx hb dX8_drive_161 (by decide) ?_
      refine lv_iadd hx hb dX8_drive_162 ?_
      refine lv_ti (y := (nI (pa_1 + 0))) (nI_add pa_1 0) ?_
      refine lv_istore (lv' := [(7, .int (nI (pa_1 + 0))), (4, .int x_10), (9, .int 0), (8, .int ah_1), (6, .int (nI ii_1)), (5, .int (nI rr_1)), (3, .int (nI (dn sn))), (0, .ref (a 0)), (1, .int (nI sn)), (2, .int (nI kr))]) hx hb dX8_drive_163 hl (by decide) rfl (fun ls hl => ?_)
      refine lv_iload hx hb dX8_drive_165 (lv_at hl 2 rfl) ?_
      refine lv_istore (lv' := [(8, .int 0), (7, .int (nI (pa_1 + 0))), (4, .int x_10), (9, .int 0), (6, .int (nI ii_1)), (5, .int (nI rr_1)), (3, .int (nI (dn sn))), (0, .ref (a 0)), (1, .int (nI sn)), (2, .int (nI kr))]) hx hb dX8_drive_167 hl (by decide) rfl (fun ls hl => ?_)
      refine lv_iinc (v := (nI (ii_1 + 1))) (lv' := [(6, .int (nI (ii_1 + 1))), (8, .int 0), (7, .int (nI (pa_1 + 0))), (4, .int x_10), (9, .int 0), (5, .int (nI rr_1)), (3, .int (nI (dn sn))), (0, .ref (a 0)), (1, .int (nI sn)), (2, .int (nI kr))]) hx hb dX8_drive_169 hl (k := 4) rfl (nI_add ii_1 1) (by decide) rfl (fun ls hl => ?_)
      refine lv_goto (tgt := 22) hx hb dX8_drive_172 (by decide) ?_
      exact ih_1 _ (x_10, rr_1, ii_1 + 1, pa_1 + 0, 0, sd__3) _ _ _ (by omega) ⟨rfl, ⟨by omega, by omega, hsl_4, hev_11⟩, (hP.sub [8, 0, 1, 2, 3, 4, 5, 6, 7] rfl), (hD.sub [8, 0, 1, 2, 3, 4, 5, 6, 7] (by decide +kernel) rfl), hS, (lv_sub hl [1, 2, 0, 5, 3, 6, 7, 8, 9] rfl)⟩
    · have hdc_12 : nI (drN sd2_1 / 65536 % 100) < pChance (sdM dn (sg se tm gs) ffrees fprices sn) ii_1 ah_1 := by rw [← hrv_4, ← mChance (dn := dn) (se := se) (tm := tm) (gs := gs) (ffr := ffrees) (fpr := fprices) (show ii_1 < dn sn by omega), ← hw_5]; exact Int32.not_le.mp c_6
      refine lv_iconst (v := 1) hx hb dX8_drive_98 (by decide) ?_
      refine lv_goto (tgt := 103) hx hb dX8_drive_99 (by decide) ?_
      refine lv_istore (lv' := [(9, .int 1), (8, .int ah_1), (7, .int (nI pa_1)), (6, .int (nI ii_1)), (5, .int (nI rr_1)), (4, .int co_1), (3, .int (nI (dn sn))), (0, .ref (a 0)), (1, .int (nI sn)), (2, .int (nI kr))]) hx hb dX8_drive_103 hl (by decide) rfl (fun ls hl => ?_)
      refine lv_iload hx hb dX8_drive_105 (lv_at hl 0 rfl) ?_
      refine lv_if_eq (tgt := 135) hx hb dX8_drive_107 (by decide) (fun h => absurd h (by decide)) (fun _ => ?_)
      refine lv_aload_n hx hb dX8_drive_110 rfl (lv_at hl 7 rfl) ?_
      refine lv_iload_n hx hb dX8_drive_111 rfl (lv_at hl 9 rfl) ?_
      refine lv_iload hx hb dX8_drive_112 (lv_at hl 3 rfl) ?_
      refine lv_iload hx hb dX8_drive_114 (lv_at hl 2 rfl) ?_
      refine ro_i (D := D) (va_runV (As := [.int (nI kr), .int (nI ii_1), .int (nI pa_1)]) (rest := []) ⟨hx, hb, hml, hown, hts⟩ ((n_isFor l D k st lo a tx t0 we rd ru rw ca fp wd nu na ts df db (nI sd__3) bm fbarSeen fbarFrom fruleRounds kr ii_1 pa_1 hbm (by first | assumption | omega)) H.size) (cwV 3 hts (gV tw_1338 tw_1340 tw_61 tw_87 tw_1341) rfl rfl rfl (by decide +kernel) ⟨Nat.le_of_ble_eq_true rfl, Nat.le_of_ble_eq_true rfl⟩) (pV hS hAlo hlo hP hK (va_Dlo hD hAlo) hZ [8, 4, 5, 6, 7] (by decide) rfl (ci := 8) (q := (RX8, TX8, 44)) (q0 := 0) rfl rfl) rfl rfl hl.1 rfl (lv_room (Nat.le_of_ble_eq_true rfl)) dX8_drive_116 ⟨Nat.le_of_ble_eq_true rfl, Nat.le_of_ble_eq_true rfl⟩) hS hA hP (fun r_13 H locs hw_13 hP hS => ?_)
      try dsimp only at hw_13
      rcases hw_13 with ⟨rfl, hw_13⟩ | ⟨rfl, hw_13⟩
      · refine lv_if_eq (tgt := 135) hx hb dX8_drive_119 (by decide) (fun h => absurd h (by decide)) (fun _ => ?_)
        refine lv_iload hx hb dX8_drive_122 (lv_at hl 5 rfl) ?_
        refine lv_aload_n hx hb dX8_drive_124 rfl (lv_at hl 7 rfl) ?_
        refine lv_iload_n hx hb dX8_drive_125 rfl (lv_at hl 8 rfl) ?_
        refine lv_iload hx hb dX8_drive_126 (lv_at hl 4 rfl) ?_
        refine lv_iload hx hb dX8_drive_128 (lv_at hl 3 rfl) ?_
        refine ro_i (D := D) (va_runV (As := [.int (nI sn), .int (nI rr_1), .int (nI ii_1)]) (rest := [.int co_1]) ⟨hx, hb, hml, hown, hts⟩ ((n_takingOf l D k st lo a tx t0 we rd ru rw ca fp wd nu na ts df db (nI sd__3) dn se tm gs fprices sn ii_1 (nI rr_1) (by first | assumption | omega) (by first | assumption | omega)) H.size) (cwV 3 hts (gV tw_1222 tw_1224 tw_43 tw_87 tw_1225) rfl rfl rfl (by decide +kernel) ⟨Nat.le_of_ble_eq_true rfl, Nat.le_of_ble_eq_true rfl⟩) (pV hS hAlo hlo hP hK (va_Dlo hD hAlo) hZ [8, 0, 1, 3] (by decide) rfl (ci := 8) (q := (RX8, TX8, 44)) (q0 := 0) rfl rfl) rfl rfl hl.1 rfl (lv_room (Nat.le_of_ble_eq_true rfl)) dX8_drive_130 ⟨Nat.le_of_ble_eq_true rfl, Nat.le_of_ble_eq_true rfl⟩) hS hA hP (fun r_14 H locs hw_14 hP hS => ?_)
        try dsimp only at hw_14
        refine lv_iadd hx hb dX8_drive_133 ?_
        refine lv_topi (fun x_15 ex_15 => ?_)
        obtain ⟨hP9, hD9⟩ := pd_sub [((a 0), .inr (8, (fX8 a (nI tx) fp (nI t0) wd (nI we) nu na (nI rd) ts (nI ru) (nI rw) (nI ca) df db (nI sd__3)))), (aI k (a 1) 3 (nF dn)), (aI k (a 4) 27 (sg se tm gs)), (aI k (a 2) 72 ffrees), (aI k (a 3) 72 fprices), (aI k (a 25) 4 (nF bm)), (aI k (a 26) 48 fbarSeen), (aI k (a 27) 48 fbarFrom), (aI k (a 28) 4 fruleRounds)] [8, 0, 1, 2, 3, 4, 5, 6, 7] hP hD (by decide +kernel) rfl
        exact W.iret (v := x_15) hx hb hr (fun t ht hW => ⟨⟨x_15, sd__3, rfl, ⟨evx_t hv_1.2.2.2 (show ii_1 < dn sn by omega) hdc_12 hw_13 (by rw [ex_15, hw_14]; exact congrArg (fun z => co_1 + z) (mTake (dn := dn) (se := se) (tm := tm) (gs := gs) (ffr := ffrees) (fpr := fprices) (s := sn) (r := rr_1) (i := ii_1) (show ii_1 < dn sn by omega))) hsv_4, hsl_4⟩, by rw [ht]; exact hP9, hD9⟩, hS.F ht⟩) hS.2.2 dX8_drive_134
      · refine lv_if_eq (tgt := 135) hx hb dX8_drive_119 (by decide) (fun _ => ?_) (fun h => absurd (by decide) h)
        refine lv_iload hx hb dX8_drive_135 (lv_at hl 5 rfl) ?_
        refine lv_aload_n hx hb dX8_drive_137 rfl (lv_at hl 7 rfl) ?_
        refine lv_iload_n hx hb dX8_drive_138 rfl (lv_at hl 8 rfl) ?_
        refine lv_iconst (v := 2) hx hb dX8_drive_139 (by decide) ?_
        refine ro_i (D := D) (va_runV (As := [.int (nI sn), .int 2]) (rest := [.int co_1]) ⟨hx, hb, hml, hown, hts⟩ ((m_of l D k st lo a tx t0 we rd ru rw ca fp wd nu na ts df db (nI sd__3) se tm gs sn 2 (by first | assumption | omega) (by first | assumption | omega)) H.size) (cwV 2 hts (gV tw_1194 tw_1196 tw_39 tw_87 tw_1197) rfl rfl rfl (by decide +kernel) ⟨Nat.le_of_ble_eq_true rfl, Nat.le_of_ble_eq_true rfl⟩) (pV hS hAlo hlo hP hK (va_Dlo hD hAlo) hZ [8, 1] (by decide) rfl (ci := 8) (q := (RX8, TX8, 44)) (q0 := 0) rfl rfl) rfl rfl hl.1 rfl (lv_room (Nat.le_of_ble_eq_true rfl)) dX8_drive_140 ⟨Nat.le_of_ble_eq_true rfl, Nat.le_of_ble_eq_true rfl⟩) hS hA hP (fun r_16 H locs hw_16 hP hS => ?_)
        try dsimp only at hw_16
        refine lv_sipush (v := 1000) hx hb dX8_drive_143 (by decide) ?_
        refine lv_imul hx hb dX8_drive_146 ?_
        refine lv_topi (fun x_17 ex_17 => ?_)
        refine lv_iadd hx hb dX8_drive_147 ?_
        refine lv_topi (fun x_18 ex_18 => ?_)
        refine lv_istore (lv' := [(4, .int x_18), (9, .int 1), (8, .int ah_1), (7, .int (nI pa_1)), (6, .int (nI ii_1)), (5, .int (nI rr_1)), (3, .int (nI (dn sn))), (0, .ref (a 0)), (1, .int (nI sn)), (2, .int (nI kr))]) hx hb dX8_drive_148 hl (by decide) rfl (fun ls hl => ?_)
        have hev_19 := evx_p hv_1.2.2.2 (show ii_1 < dn sn by omega) hdc_12 hw_13 (c2 := x_18) (by rw [ex_18, ex_17, hw_16, mPass (dn := dn) (ffr := ffrees) (fpr := fprices)]) hsv_4
        refine lv_iload hx hb dX8_drive_150 (lv_at hl 3 rfl) ?_
        refine lv_iload hx hb dX8_drive_152 (lv_at hl 1 rfl) ?_
        refine lv_if_eq (tgt := 161) hx hb dX8_drive_154 (by decide) (fun h => absurd h (by decide)) (fun _ => ?_)
        refine lv_iconst (v := 1) hx hb dX8_drive_157 (by decide) ?_
        refine lv_goto (tgt := 162) hx hb dX8_drive_158 (by decide) ?_
        refine lv_iadd hx hb dX8_drive_162 ?_
        refine lv_ti (y := (nI (pa_1 + 1))) (nI_add pa_1 1) ?_
        refine lv_istore (lv' := [(7, .int (nI (pa_1 + 1))), (4, .int x_18), (9, .int 1), (8, .int ah_1), (6, .int (nI ii_1)), (5, .int (nI rr_1)), (3, .int (nI (dn sn))), (0, .ref (a 0)), (1, .int (nI sn)), (2, .int (nI kr))]) hx hb dX8_drive_163 hl (by decide) rfl (fun ls hl => ?_)
        refine lv_iload hx hb dX8_drive_165 (lv_at hl 2 rfl) ?_
        refine lv_istore (lv' := [(8, .int 1), (7, .int (nI (pa_1 + 1))), (4, .int x_18), (9, .int 1), (6, .int (nI ii_1)), (5, .int (nI rr_1)), (3, .int (nI (dn sn))), (0, .ref (a 0)), (1, .int (nI sn)), (2, .int (nI kr))]) hx hb dX8_drive_167 hl (by decide) rfl (fun ls hl => ?_)
        refine lv_iinc (v := (nI (ii_1 + 1))) (lv' := [(6, .int (nI (ii_1 + 1))), (8, .int 1), (7, .int (nI (pa_1 + 1))), (4, .int x_18), (9, .int 1), (5, .int (nI rr_1)), (3, .int (nI (dn sn))), (0, .ref (a 0)), (1, .int (nI sn)), (2, .int (nI kr))]) hx hb dX8_drive_169 hl (k := 4) rfl (nI_add ii_1 1) (by decide) rfl (fun ls hl => ?_)
        refine lv_goto (tgt := 22) hx hb dX8_drive_172 (by decide) ?_
        exact ih_1 _ (x_18, rr_1, ii_1 + 1, pa_1 + 1, 1, sd__3) _ _ _ (by omega) ⟨rfl, ⟨by omega, by omega, hsl_4, hev_19⟩, (hP.sub [8, 0, 1, 2, 3, 4, 5, 6, 7] rfl), (hD.sub [8, 0, 1, 2, 3, 4, 5, 6, 7] (by decide +kernel) rfl), hS, (lv_sub hl [1, 2, 0, 5, 3, 6, 7, 8, 9] rfl)⟩
  · have c_2 := (nI_eq (a := ii_1) (b := (dn sn)) (by omega) (by omega)).mp c_2
    refine lv_aload_n hx hb dX8_drive_28 rfl (lv_at hl 6 rfl) ?_
    refine lv_iload_n hx hb dX8_drive_29 rfl (lv_at hl 7 rfl) ?_
    refine lv_iload_n hx hb dX8_drive_30 rfl (lv_at hl 8 rfl) ?_
    refine lv_iload hx hb dX8_drive_31 (lv_at hl 3 rfl) ?_
    refine ro_i (D := D) (va_runV (As := [.int (nI sn), .int (nI kr), .int (nI rr_1)]) (rest := []) ⟨hx, hb, hml, hown, hts⟩ ((n_isRoundBy l D k st lo a tx t0 we rd ru rw ca fp wd nu na ts df db (nI sd2_1) se tm gs fruleRounds sn kr rr_1 rx htm (by first | assumption | omega) (by first | assumption | omega) (by first | assumption | omega) hrx (by first | assumption | omega)) H.size) (cwV 3 hts (gV tw_1329 tw_1331 tw_59 tw_87 tw_1332) rfl rfl rfl (by decide +kernel) ⟨Nat.le_of_ble_eq_true rfl, Nat.le_of_ble_eq_true rfl⟩) (pV hS hAlo hlo hP hK (va_Dlo hD hAlo) hZ [0, 2, 8] (by decide) rfl (ci := 8) (q := (RX8, TX8, 44)) (q0 := 0) rfl rfl) rfl rfl hl.1 rfl (lv_room (Nat.le_of_ble_eq_true rfl)) dX8_drive_33 ⟨Nat.le_of_ble_eq_true rfl, Nat.le_of_ble_eq_true rfl⟩) hS hA hP (fun r_20 H locs hw_20 hP hS => ?_)
    try dsimp only at hw_20
    rcases hw_20 with ⟨rfl, hw_20⟩ | ⟨rfl, hw_20⟩
    · refine lv_if_ne (tgt := 50) hx hb dX8_drive_36 (by decide) (fun _ => ?_) (fun h => absurd h (by decide))
      refine lv_iload hx hb dX8_drive_50 (lv_at hl 4 rfl) ?_
      refine lv_aload_n hx hb dX8_drive_52 rfl (lv_at hl 6 rfl) ?_
      refine lv_iload_n hx hb dX8_drive_53 rfl (lv_at hl 7 rfl) ?_
      refine lv_iconst (v := 2) hx hb dX8_drive_54 (by decide) ?_
      refine ro_i (D := D) (va_runV (As := [.int (nI sn), .int 2]) (rest := [.int co_1]) ⟨hx, hb, hml, hown, hts⟩ ((m_of l D k st lo a tx t0 we rd ru rw ca fp wd nu na ts df db (nI sd2_1) se tm gs sn 2 (by first | assumption | omega) (by first | assumption | omega)) H.size) (cwV 2 hts (gV tw_1194 tw_1196 tw_39 tw_87 tw_1197) rfl rfl rfl (by decide +kernel) ⟨Nat.le_of_ble_eq_true rfl, Nat.le_of_ble_eq_true rfl⟩) (pV hS hAlo hlo hP hK (va_Dlo hD hAlo) hZ [0, 2] (by decide) rfl (ci := 8) (q := (RX8, TX8, 44)) (q0 := 0) rfl rfl) rfl rfl hl.1 rfl (lv_room (Nat.le_of_ble_eq_true rfl)) dX8_drive_55 ⟨Nat.le_of_ble_eq_true rfl, Nat.le_of_ble_eq_true rfl⟩) hS hA hP (fun r_21 H locs hw_21 hP hS => ?_)
      try dsimp only at hw_21
      refine lv_aload_n hx hb dX8_drive_58 rfl (lv_at hl 6 rfl) ?_
      refine lv_iload_n hx hb dX8_drive_59 rfl (lv_at hl 7 rfl) ?_
      refine lv_bipush (v := 6) hx hb dX8_drive_60 (by decide) ?_
      refine ro_i (D := D) (va_runV (As := [.int (nI sn), .int 6]) (rest := [.int r_21, .int co_1]) ⟨hx, hb, hml, hown, hts⟩ ((m_of l D k st lo a tx t0 we rd ru rw ca fp wd nu na ts df db (nI sd2_1) se tm gs sn 6 (by first | assumption | omega) (by first | assumption | omega)) H.size) (cwV 2 hts (gV tw_1194 tw_1196 tw_39 tw_87 tw_1197) rfl rfl rfl (by decide +kernel) ⟨Nat.le_of_ble_eq_true rfl, Nat.le_of_ble_eq_true rfl⟩) (pV hS hAlo hlo hP hK (va_Dlo hD hAlo) hZ [0, 2] (by decide) rfl (ci := 8) (q := (RX8, TX8, 44)) (q0 := 0) rfl rfl) rfl rfl hl.1 rfl (lv_room (Nat.le_of_ble_eq_true rfl)) dX8_drive_62 ⟨Nat.le_of_ble_eq_true rfl, Nat.le_of_ble_eq_true rfl⟩) hS hA hP (fun r_22 H locs hw_22 hP hS => ?_)
      try dsimp only at hw_22
      refine lv_imul hx hb dX8_drive_65 ?_
      refine lv_topi (fun x_23 ex_23 => ?_)
      refine lv_sipush (v := 1000) hx hb dX8_drive_66 (by decide) ?_
      refine lv_imul hx hb dX8_drive_69 ?_
      refine lv_topi (fun x_24 ex_24 => ?_)
      refine lv_iadd hx hb dX8_drive_70 ?_
      refine lv_topi (fun x_25 ex_25 => ?_)
      refine lv_istore (lv' := [(4, .int x_25), (8, .int ah_1), (7, .int (nI pa_1)), (6, .int (nI ii_1)), (5, .int (nI rr_1)), (3, .int (nI (dn sn))), (0, .ref (a 0)), (1, .int (nI sn)), (2, .int (nI kr))]) hx hb dX8_drive_71 hl (by decide) rfl (fun ls hl => ?_)
      refine lv_iinc (v := (nI (rr_1 + 1))) (lv' := [(5, .int (nI (rr_1 + 1))), (4, .int x_25), (8, .int ah_1), (7, .int (nI pa_1)), (6, .int (nI ii_1)), (3, .int (nI (dn sn))), (0, .ref (a 0)), (1, .int (nI sn)), (2, .int (nI kr))]) hx hb dX8_drive_73 hl (k := 4) rfl (nI_add rr_1 1) (by decide) rfl (fun ls hl => ?_)
      refine lv_iconst (v := 0) hx hb dX8_drive_76 (by decide) ?_
      refine lv_istore (lv' := [(6, .int 0), (5, .int (nI (rr_1 + 1))), (4, .int x_25), (8, .int ah_1), (7, .int (nI pa_1)), (3, .int (nI (dn sn))), (0, .ref (a 0)), (1, .int (nI sn)), (2, .int (nI kr))]) hx hb dX8_drive_77 hl (by decide) rfl (fun ls hl => ?_)
      refine lv_iconst (v := 0) hx hb dX8_drive_79 (by decide) ?_
      refine lv_istore (lv' := [(7, .int 0), (6, .int 0), (5, .int (nI (rr_1 + 1))), (4, .int x_25), (8, .int ah_1), (3, .int (nI (dn sn))), (0, .ref (a 0)), (1, .int (nI sn)), (2, .int (nI kr))]) hx hb dX8_drive_80 hl (by decide) rfl (fun ls hl => ?_)
      have hE_26 := evx_0 (a2 := ah_1) (evx_r hv_1.2.2.2 (show ¬ ii_1 < dn sn by omega) (show rr_1 < (min rx (tm sn)) by omega) (c2 := x_25) (by rw [ex_25, ex_24, ex_23, hw_21, hw_22, mRnd (dn := dn) (ffr := ffrees) (fpr := fprices)]))
      refine lv_aload_n hx hb dX8_drive_82 rfl (lv_at hl 6 rfl) ?_
      refine rw_i (D := D) (wr := [(aI k (a 1) 3 (nF dn)), (aI k (a 4) 27 (sg se tm gs)), (aI k (a 2) 72 ffrees), (aI k (a 3) 72 fprices), (aI k (a 25) 4 (nF bm)), (aI k (a 26) 48 fbarSeen), (aI k (a 27) 48 fbarFrom), (aI k (a 28) 4 fruleRounds)]) (va_runV (As := []) (rest := []) ⟨hx, hb, hml, hown, hts⟩ ((n_draw l D k st lo a tx t0 we rd ru rw ca fp wd nu na ts df db sd2_1 (by first | assumption | omega)) H.size) (cwV 0 hts (gV tw_1480 tw_1482 tw_77 tw_87 tw_1483) rfl rfl rfl (by decide +kernel) ⟨Nat.le_of_ble_eq_true rfl, Nat.le_of_ble_eq_true rfl⟩) (pV hS hAlo hlo hP hK (va_Dlo hD hAlo) hZ [0] (by decide) rfl (ci := 8) (q := (RX8, TX8, 44)) (q0 := 0) rfl rfl) rfl rfl hl.1 rfl (lv_room (Nat.le_of_ble_eq_true rfl)) dX8_drive_83 ⟨Nat.le_of_ble_eq_true rfl, Nat.le_of_ble_eq_true rfl⟩) hS hA hP hD [0] [1, 2, 3, 4, 5, 6, 7, 8] rfl rfl (by decide) (by decide) (fun r_27 u H locs hw_27 hP hD hS => ?_)
      obtain ⟨sd__27, rfl⟩ : ∃ z, z = u := ⟨_, rfl⟩
      have hQ9 := pd_mk [(aI k (a 1) 3 (nF dn)), (aI k (a 4) 27 (sg se tm gs)), (aI k (a 2) 72 ffrees), (aI k (a 3) 72 fprices), (aI k (a 25) 4 (nF bm)), (aI k (a 26) 48 fbarSeen), (aI k (a 27) 48 fbarFrom), (aI k (a 28) 4 fruleRounds), ((a 0), .inr (8, (fX8 a (nI tx) fp (nI t0) wd (nI we) nu na (nI rd) ts (nI ru) (nI rw) (nI ca) df db (nI sd__27))))] hP hD
      clear hP hD
      obtain ⟨hP, hD⟩ := hQ9
      try dsimp only at hw_27
      obtain ⟨hrv_28, hsv_28⟩ := hw_27
      have hsl_28 : sd__27 < 2147483648 := by rw [hsv_28]; exact drN_lt
      refine lv_aload_n hx hb dX8_drive_86 rfl (lv_at hl 6 rfl) ?_
      refine lv_iload_n hx hb dX8_drive_87 rfl (lv_at hl 7 rfl) ?_
      refine lv_iload hx hb dX8_drive_88 (lv_at hl 1 rfl) ?_
      refine lv_iload hx hb dX8_drive_90 (lv_at hl 4 rfl) ?_
      refine ro_i (D := D) (va_runV (As := [.int (nI sn), .int 0, .int ah_1]) (rest := [.int r_27]) ⟨hx, hb, hml, hown, hts⟩ ((n_chanceOf l D k st lo a tx t0 we rd ru rw ca fp wd nu na ts df db (nI sd__27) ffrees se tm gs sn 0 ah_1 (by first | assumption | omega) (by first | assumption | omega)) H.size) (cwV 3 hts (gV tw_1210 tw_1212 tw_41 tw_87 tw_1213) rfl rfl rfl (by decide +kernel) ⟨Nat.le_of_ble_eq_true rfl, Nat.le_of_ble_eq_true rfl⟩) (pV hS hAlo hlo hP hK (va_Dlo hD hAlo) hZ [8, 2, 1] (by decide) rfl (ci := 8) (q := (RX8, TX8, 44)) (q0 := 0) rfl rfl) rfl rfl hl.1 rfl (lv_room (Nat.le_of_ble_eq_true rfl)) dX8_drive_92 ⟨Nat.le_of_ble_eq_true rfl, Nat.le_of_ble_eq_true rfl⟩) hS hA hP (fun r_29 H locs hw_29 hP hS => ?_)
      try dsimp only at hw_29
      refine lv_icmp_ge (tgt := 102) hx hb dX8_drive_95 (by decide) (fun c_30 => ?_) (fun c_30 => ?_)
      · have hdc_31 : ¬ nI (drN sd2_1 / 65536 % 100) < pChance (sdM dn (sg se tm gs) ffrees fprices sn) 0 ah_1 := by rw [← hrv_28, ← mChance (dn := dn) (se := se) (tm := tm) (gs := gs) (ffr := ffrees) (fpr := fprices) (show 0 < dn sn by omega), ← hw_29]; exact Int32.not_lt.mpr c_30
        refine lv_iconst (v := 0) hx hb dX8_drive_102 (by decide) ?_
        refine lv_istore (lv' := [(9, .int 0), (7, .int 0), (6, .int 0), (5, .int (nI (rr_1 + 1))), (4, .int x_25), (8, .int ah_1), (3, .int (nI (dn sn))), (0, .ref (a 0)), (1, .int (nI sn)), (2, .int (nI kr))]) hx hb dX8_drive_103 hl (by decide) rfl (fun ls hl => ?_)
        refine lv_iload hx hb dX8_drive_105 (lv_at hl 0 rfl) ?_
        refine lv_if_eq (tgt := 135) hx hb dX8_drive_107 (by decide) (fun _ => ?_) (fun h => absurd (by decide) h)
        refine lv_iload hx hb dX8_drive_135 (lv_at hl 4 rfl) ?_
        refine lv_aload_n hx hb dX8_drive_137 rfl (lv_at hl 7 rfl) ?_
        refine lv_iload_n hx hb dX8_drive_138 rfl (lv_at hl 8 rfl) ?_
        refine lv_iconst (v := 2) hx hb dX8_drive_139 (by decide) ?_
        refine ro_i (D := D) (va_runV (As := [.int (nI sn), .int 2]) (rest := [.int x_25]) ⟨hx, hb, hml, hown, hts⟩ ((m_of l D k st lo a tx t0 we rd ru rw ca fp wd nu na ts df db (nI sd__27) se tm gs sn 2 (by first | assumption | omega) (by first | assumption | omega)) H.size) (cwV 2 hts (gV tw_1194 tw_1196 tw_39 tw_87 tw_1197) rfl rfl rfl (by decide +kernel) ⟨Nat.le_of_ble_eq_true rfl, Nat.le_of_ble_eq_true rfl⟩) (pV hS hAlo hlo hP hK (va_Dlo hD hAlo) hZ [8, 1] (by decide) rfl (ci := 8) (q := (RX8, TX8, 44)) (q0 := 0) rfl rfl) rfl rfl hl.1 rfl (lv_room (Nat.le_of_ble_eq_true rfl)) dX8_drive_140 ⟨Nat.le_of_ble_eq_true rfl, Nat.le_of_ble_eq_true rfl⟩) hS hA hP (fun r_32 H locs hw_32 hP hS => ?_)
        try dsimp only at hw_32
        refine lv_sipush (v := 1000) hx hb dX8_drive_143 (by decide) ?_
        refine lv_imul hx hb dX8_drive_146 ?_
        refine lv_topi (fun x_33 ex_33 => ?_)
        refine lv_iadd hx hb dX8_drive_147 ?_
        refine lv_topi (fun x_34 ex_34 => ?_)
        refine lv_istore (lv' := [(4, .int x_34), (9, .int 0), (7, .int 0), (6, .int 0), (5, .int (nI (rr_1 + 1))), (8, .int ah_1), (3, .int (nI (dn sn))), (0, .ref (a 0)), (1, .int (nI sn)), (2, .int (nI kr))]) hx hb dX8_drive_148 hl (by decide) rfl (fun ls hl => ?_)
        have hev_35 := evx_n hE_26 (show 0 < dn sn by omega) hdc_31 (c2 := x_34) (by rw [ex_34, ex_33, hw_32, mPass (dn := dn) (ffr := ffrees) (fpr := fprices)]) hsv_28
        refine lv_iload hx hb dX8_drive_150 (lv_at hl 2 rfl) ?_
        refine lv_iload hx hb dX8_drive_152 (lv_at hl 1 rfl) ?_
        refine lv_if_eq (tgt := 161) hx hb dX8_drive_154 (by decide) (fun _ => ?_) (fun h => absurd (by decide) h)
        refine lv_iconst (v := 0) hx hb dX8_drive_161 (by decide) ?_
        refine lv_iadd hx hb dX8_drive_162 ?_
        refine lv_ti (y := 0) (by decide) ?_
        refine lv_istore (lv' := [(7, .int 0), (4, .int x_34), (9, .int 0), (6, .int 0), (5, .int (nI (rr_1 + 1))), (8, .int ah_1), (3, .int (nI (dn sn))), (0, .ref (a 0)), (1, .int (nI sn)), (2, .int (nI kr))]) hx hb dX8_drive_163 hl (by decide) rfl (fun ls hl => ?_)
        refine lv_iload hx hb dX8_drive_165 (lv_at hl 2 rfl) ?_
        refine lv_istore (lv' := [(8, .int 0), (7, .int 0), (4, .int x_34), (9, .int 0), (6, .int 0), (5, .int (nI (rr_1 + 1))), (3, .int (nI (dn sn))), (0, .ref (a 0)), (1, .int (nI sn)), (2, .int (nI kr))]) hx hb dX8_drive_167 hl (by decide) rfl (fun ls hl => ?_)
        refine lv_iinc (v := 1) (lv' := [(6, .int 1), (8, .int 0), (7, .int 0), (4, .int x_34), (9, .int 0), (5, .int (nI (rr_1 + 1))), (3, .int (nI (dn sn))), (0, .ref (a 0)), (1, .int (nI sn)), (2, .int (nI kr))]) hx hb dX8_drive_169 hl (k := 4) rfl (by decide) (by decide) rfl (fun ls hl => ?_)
        refine lv_goto (tgt := 22) hx hb dX8_drive_172 (by decide) ?_
        exact ih_1 _ (x_34, rr_1 + 1, 1, 0, 0, sd__27) _ _ _ (by omega) ⟨rfl, ⟨by omega, by omega, hsl_28, hev_35⟩, (hP.sub [8, 0, 1, 2, 3, 4, 5, 6, 7] rfl), (hD.sub [8, 0, 1, 2, 3, 4, 5, 6, 7] (by decide +kernel) rfl), hS, (lv_sub hl [1, 2, 0, 5, 3, 6, 7, 8, 9] rfl)⟩
      · have hdc_36 : nI (drN sd2_1 / 65536 % 100) < pChance (sdM dn (sg se tm gs) ffrees fprices sn) 0 ah_1 := by rw [← hrv_28, ← mChance (dn := dn) (se := se) (tm := tm) (gs := gs) (ffr := ffrees) (fpr := fprices) (show 0 < dn sn by omega), ← hw_29]; exact Int32.not_le.mp c_30
        refine lv_iconst (v := 1) hx hb dX8_drive_98 (by decide) ?_
        refine lv_goto (tgt := 103) hx hb dX8_drive_99 (by decide) ?_
        refine lv_istore (lv' := [(9, .int 1), (7, .int 0), (6, .int 0), (5, .int (nI (rr_1 + 1))), (4, .int x_25), (8, .int ah_1), (3, .int (nI (dn sn))), (0, .ref (a 0)), (1, .int (nI sn)), (2, .int (nI kr))]) hx hb dX8_drive_103 hl (by decide) rfl (fun ls hl => ?_)
        refine lv_iload hx hb dX8_drive_105 (lv_at hl 0 rfl) ?_
        refine lv_if_eq (tgt := 135) hx hb dX8_drive_107 (by decide) (fun h => absurd h (by decide)) (fun _ => ?_)
        refine lv_aload_n hx hb dX8_drive_110 rfl (lv_at hl 7 rfl) ?_
        refine lv_iload_n hx hb dX8_drive_111 rfl (lv_at hl 9 rfl) ?_
        refine lv_iload hx hb dX8_drive_112 (lv_at hl 2 rfl) ?_
        refine lv_iload hx hb dX8_drive_114 (lv_at hl 1 rfl) ?_
        refine ro_i (D := D) (va_runV (As := [.int (nI kr), .int 0, .int 0]) (rest := []) ⟨hx, hb, hml, hown, hts⟩ ((n_isFor l D k st lo a tx t0 we rd ru rw ca fp wd nu na ts df db (nI sd__27) bm fbarSeen fbarFrom fruleRounds kr 0 0 hbm (by first | assumption | omega)) H.size) (cwV 3 hts (gV tw_1338 tw_1340 tw_61 tw_87 tw_1341) rfl rfl rfl (by decide +kernel) ⟨Nat.le_of_ble_eq_true rfl, Nat.le_of_ble_eq_true rfl⟩) (pV hS hAlo hlo hP hK (va_Dlo hD hAlo) hZ [8, 4, 5, 6, 7] (by decide) rfl (ci := 8) (q := (RX8, TX8, 44)) (q0 := 0) rfl rfl) rfl rfl hl.1 rfl (lv_room (Nat.le_of_ble_eq_true rfl)) dX8_drive_116 ⟨Nat.le_of_ble_eq_true rfl, Nat.le_of_ble_eq_true rfl⟩) hS hA hP (fun r_37 H locs hw_37 hP hS => ?_)
        try dsimp only at hw_37
        rcases hw_37 with ⟨rfl, hw_37⟩ | ⟨rfl, hw_37⟩
        · refine lv_if_eq (tgt := 135) hx hb dX8_drive_119 (by decide) (fun h => absurd h (by decide)) (fun _ => ?_)
          refine lv_iload hx hb dX8_drive_122 (lv_at hl 4 rfl) ?_
          refine lv_aload_n hx hb dX8_drive_124 rfl (lv_at hl 7 rfl) ?_
          refine lv_iload_n hx hb dX8_drive_125 rfl (lv_at hl 8 rfl) ?_
          refine lv_iload hx hb dX8_drive_126 (lv_at hl 3 rfl) ?_
          refine lv_iload hx hb dX8_drive_128 (lv_at hl 2 rfl) ?_
          refine ro_i (D := D) (va_runV (As := [.int (nI sn), .int (nI (rr_1 + 1)), .int 0]) (rest := [.int x_25]) ⟨hx, hb, hml, hown, hts⟩ ((n_takingOf l D k st lo a tx t0 we rd ru rw ca fp wd nu na ts df db (nI sd__27) dn se tm gs fprices sn 0 (nI (rr_1 + 1)) (by first | assumption | omega) (by first | assumption | omega)) H.size) (cwV 3 hts (gV tw_1222 tw_1224 tw_43 tw_87 tw_1225) rfl rfl rfl (by decide +kernel) ⟨Nat.le_of_ble_eq_true rfl, Nat.le_of_ble_eq_true rfl⟩) (pV hS hAlo hlo hP hK (va_Dlo hD hAlo) hZ [8, 0, 1, 3] (by decide) rfl (ci := 8) (q := (RX8, TX8, 44)) (q0 := 0) rfl rfl) rfl rfl hl.1 rfl (lv_room (Nat.le_of_ble_eq_true rfl)) dX8_drive_130 ⟨Nat.le_of_ble_eq_true rfl, Nat.le_of_ble_eq_true rfl⟩) hS hA hP (fun r_38 H locs hw_38 hP hS => ?_)
          try dsimp only at hw_38
          refine lv_iadd hx hb dX8_drive_133 ?_
          refine lv_topi (fun x_39 ex_39 => ?_)
          obtain ⟨hP9, hD9⟩ := pd_sub [((a 0), .inr (8, (fX8 a (nI tx) fp (nI t0) wd (nI we) nu na (nI rd) ts (nI ru) (nI rw) (nI ca) df db (nI sd__27)))), (aI k (a 1) 3 (nF dn)), (aI k (a 4) 27 (sg se tm gs)), (aI k (a 2) 72 ffrees), (aI k (a 3) 72 fprices), (aI k (a 25) 4 (nF bm)), (aI k (a 26) 48 fbarSeen), (aI k (a 27) 48 fbarFrom), (aI k (a 28) 4 fruleRounds)] [8, 0, 1, 2, 3, 4, 5, 6, 7] hP hD (by decide +kernel) rfl
          exact W.iret (v := x_39) hx hb hr (fun t ht hW => ⟨⟨x_39, sd__27, rfl, ⟨evx_t hE_26 (show 0 < dn sn by omega) hdc_36 hw_37 (by rw [ex_39, hw_38]; exact congrArg (fun z => x_25 + z) (mTake (dn := dn) (se := se) (tm := tm) (gs := gs) (ffr := ffrees) (fpr := fprices) (s := sn) (r := (rr_1 + 1)) (i := 0) (show 0 < dn sn by omega))) hsv_28, hsl_28⟩, by rw [ht]; exact hP9, hD9⟩, hS.F ht⟩) hS.2.2 dX8_drive_134
        · refine lv_if_eq (tgt := 135) hx hb dX8_drive_119 (by decide) (fun _ => ?_) (fun h => absurd (by decide) h)
          refine lv_iload hx hb dX8_drive_135 (lv_at hl 4 rfl) ?_
          refine lv_aload_n hx hb dX8_drive_137 rfl (lv_at hl 7 rfl) ?_
          refine lv_iload_n hx hb dX8_drive_138 rfl (lv_at hl 8 rfl) ?_
          refine lv_iconst (v := 2) hx hb dX8_drive_139 (by decide) ?_
          refine ro_i (D := D) (va_runV (As := [.int (nI sn), .int 2]) (rest := [.int x_25]) ⟨hx, hb, hml, hown, hts⟩ ((m_of l D k st lo a tx t0 we rd ru rw ca fp wd nu na ts df db (nI sd__27) se tm gs sn 2 (by first | assumption | omega) (by first | assumption | omega)) H.size) (cwV 2 hts (gV tw_1194 tw_1196 tw_39 tw_87 tw_1197) rfl rfl rfl (by decide +kernel) ⟨Nat.le_of_ble_eq_true rfl, Nat.le_of_ble_eq_true rfl⟩) (pV hS hAlo hlo hP hK (va_Dlo hD hAlo) hZ [8, 1] (by decide) rfl (ci := 8) (q := (RX8, TX8, 44)) (q0 := 0) rfl rfl) rfl rfl hl.1 rfl (lv_room (Nat.le_of_ble_eq_true rfl)) dX8_drive_140 ⟨Nat.le_of_ble_eq_true rfl, Nat.le_of_ble_eq_true rfl⟩) hS hA hP (fun r_40 H locs hw_40 hP hS => ?_)
          try dsimp only at hw_40
          refine lv_sipush (v := 1000) hx hb dX8_drive_143 (by decide) ?_
          refine lv_imul hx hb dX8_drive_146 ?_
          refine lv_topi (fun x_41 ex_41 => ?_)
          refine lv_iadd hx hb dX8_drive_147 ?_
          refine lv_topi (fun x_42 ex_42 => ?_)
          refine lv_istore (lv' := [(4, .int x_42), (9, .int 1), (7, .int 0), (6, .int 0), (5, .int (nI (rr_1 + 1))), (8, .int ah_1), (3, .int (nI (dn sn))), (0, .ref (a 0)), (1, .int (nI sn)), (2, .int (nI kr))]) hx hb dX8_drive_148 hl (by decide) rfl (fun ls hl => ?_)
          have hev_43 := evx_p hE_26 (show 0 < dn sn by omega) hdc_36 hw_37 (c2 := x_42) (by rw [ex_42, ex_41, hw_40, mPass (dn := dn) (ffr := ffrees) (fpr := fprices)]) hsv_28
          refine lv_iload hx hb dX8_drive_150 (lv_at hl 2 rfl) ?_
          refine lv_iload hx hb dX8_drive_152 (lv_at hl 1 rfl) ?_
          refine lv_if_eq (tgt := 161) hx hb dX8_drive_154 (by decide) (fun h => absurd h (by decide)) (fun _ => ?_)
          refine lv_iconst (v := 1) hx hb dX8_drive_157 (by decide) ?_
          refine lv_goto (tgt := 162) hx hb dX8_drive_158 (by decide) ?_
          refine lv_iadd hx hb dX8_drive_162 ?_
          refine lv_ti (y := 1) (by decide) ?_
          refine lv_istore (lv' := [(7, .int 1), (4, .int x_42), (9, .int 1), (6, .int 0), (5, .int (nI (rr_1 + 1))), (8, .int ah_1), (3, .int (nI (dn sn))), (0, .ref (a 0)), (1, .int (nI sn)), (2, .int (nI kr))]) hx hb dX8_drive_163 hl (by decide) rfl (fun ls hl => ?_)
          refine lv_iload hx hb dX8_drive_165 (lv_at hl 2 rfl) ?_
          refine lv_istore (lv' := [(8, .int 1), (7, .int 1), (4, .int x_42), (9, .int 1), (6, .int 0), (5, .int (nI (rr_1 + 1))), (3, .int (nI (dn sn))), (0, .ref (a 0)), (1, .int (nI sn)), (2, .int (nI kr))]) hx hb dX8_drive_167 hl (by decide) rfl (fun ls hl => ?_)
          refine lv_iinc (v := 1) (lv' := [(6, .int 1), (8, .int 1), (7, .int 1), (4, .int x_42), (9, .int 1), (5, .int (nI (rr_1 + 1))), (3, .int (nI (dn sn))), (0, .ref (a 0)), (1, .int (nI sn)), (2, .int (nI kr))]) hx hb dX8_drive_169 hl (k := 4) rfl (by decide) (by decide) rfl (fun ls hl => ?_)
          refine lv_goto (tgt := 22) hx hb dX8_drive_172 (by decide) ?_
          exact ih_1 _ (x_42, rr_1 + 1, 1, 1, 1, sd__27) _ _ _ (by omega) ⟨rfl, ⟨by omega, by omega, hsl_28, hev_43⟩, (hP.sub [8, 0, 1, 2, 3, 4, 5, 6, 7] rfl), (hD.sub [8, 0, 1, 2, 3, 4, 5, 6, 7] (by decide +kernel) rfl), hS, (lv_sub hl [1, 2, 0, 5, 3, 6, 7, 8, 9] rfl)⟩
    · refine lv_if_ne (tgt := 50) hx hb dX8_drive_36 (by decide) (fun h => absurd (by decide) h) (fun _ => ?_)
      refine lv_iload hx hb dX8_drive_39 (lv_at hl 4 rfl) ?_
      refine lv_aload_n hx hb dX8_drive_41 rfl (lv_at hl 6 rfl) ?_
      refine lv_iload_n hx hb dX8_drive_42 rfl (lv_at hl 7 rfl) ?_
      refine lv_iload hx hb dX8_drive_43 (lv_at hl 3 rfl) ?_
      refine ro_i (D := D) (va_runV (As := [.int (nI sn), .int (nI rr_1)]) (rest := [.int co_1]) ⟨hx, hb, hml, hown, hts⟩ ((n_garageOf l D k st lo a tx t0 we rd ru rw ca fp wd nu na ts df db (nI sd2_1) dn se tm gs sn (nI rr_1) (by first | assumption | omega)) H.size) (cwV 2 hts (gV tw_1258 tw_1260 tw_51 tw_87 tw_1261) rfl rfl rfl (by decide +kernel) ⟨Nat.le_of_ble_eq_true rfl, Nat.le_of_ble_eq_true rfl⟩) (pV hS hAlo hlo hP hK (va_Dlo hD hAlo) hZ [0, 1, 2] (by decide) rfl (ci := 8) (q := (RX8, TX8, 44)) (q0 := 0) rfl rfl) rfl rfl hl.1 rfl (lv_room (Nat.le_of_ble_eq_true rfl)) dX8_drive_45 ⟨Nat.le_of_ble_eq_true rfl, Nat.le_of_ble_eq_true rfl⟩) hS hA hP (fun r_44 H locs hw_44 hP hS => ?_)
      try dsimp only at hw_44
      refine lv_iadd hx hb dX8_drive_48 ?_
      refine lv_topi (fun x_45 ex_45 => ?_)
      obtain ⟨hP9, hD9⟩ := pd_sub [((a 0), .inr (8, (fX8 a (nI tx) fp (nI t0) wd (nI we) nu na (nI rd) ts (nI ru) (nI rw) (nI ca) df db (nI sd2_1)))), (aI k (a 1) 3 (nF dn)), (aI k (a 4) 27 (sg se tm gs)), (aI k (a 2) 72 ffrees), (aI k (a 3) 72 fprices), (aI k (a 25) 4 (nF bm)), (aI k (a 26) 48 fbarSeen), (aI k (a 27) 48 fbarFrom), (aI k (a 28) 4 fruleRounds)] [0, 1, 2, 3, 4, 5, 6, 7, 8] hP hD (by decide +kernel) rfl
      exact W.iret (v := x_45) hx hb hr (fun t ht hW => ⟨⟨x_45, sd2_1, rfl, ⟨evx_e hv_1.2.2.2 (show ¬ ii_1 < dn sn by omega) hw_20 (by rw [ex_45, hw_44]; exact congrArg (fun z => co_1 + z) (mGar (dn := dn) (se := se) (tm := tm) (gs := gs) (ffr := ffrees) (fpr := fprices) (s := sn) (r := rr_1))), hv_1.2.2.1⟩, by rw [ht]; exact hP9, hD9⟩, hS.F ht⟩) hS.2.2 dX8_drive_49


set_option maxHeartbeats 4000000 in
set_option maxRecDepth 100000 in
theorem n_evening (l : Launch) (D : va_G) (k : Nat → ClassId) (st : Nat → Nat) (lo : Nat) (a : Nat → Nat) (tx : Nat) (t0 : Nat) (we : Nat) (rd : Nat) (ru : Nat) (rw : Nat) (ca : Nat) (fp : Int32) (wd : Int64) (nu : Int32) (na : Int32) (ts : Int32) (df : Int32) (db : Int32) (sd : Int32) (dn : Nat → Nat) (se : Nat → Nat) (tm : Nat → Nat) (gs : Nat → Int32) (ffrees : Nat → Int32) (fprices : Nat → Int32) (bm : Nat → Nat) (fbarSeen : Nat → Int32) (fbarFrom : Nat → Int32) (fruleRounds : Nat → Int32) (p0 : Int32) (p1 : Int32) (p2 : Int32) (hdn : ∀ j, dn j ≤ 24) (hse : ∀ j, se j ≤ 2) (htm : ∀ j, tm j ≤ 3) (hbm : ∀ j, bm j ≤ 12) (hru : ru ≤ 4) (hrr : ∀ k, k < ru → ∃ x : Nat, x ≤ 3 ∧ fruleRounds k = nI x) (hsd : ¬ sd < 0) : CWi l D k st lo yX8_evening cX8_evening 7 (some .int) ({ frames := 5, cells := 0, slots := 0, locals := 122 }) 0 0 [.ref (a 0), .int p0, .int p1, .int p2] [((a 0), .inr (8, (fX8 a (nI tx) fp (nI t0) wd (nI we) nu na (nI rd) ts (nI ru) (nI rw) (nI ca) df db sd))), (aI k (a 1) 3 (nF dn)), (aI k (a 4) 27 (sg se tm gs)), (aI k (a 2) 72 ffrees), (aI k (a 3) 72 fprices), (aI k (a 25) 4 (nF bm)), (aI k (a 26) 48 fbarSeen), (aI k (a 27) 48 fbarFrom), (aI k (a 28) 4 fruleRounds)] (fun (r : Int32) (sd_ : Int32) => evP (sdM dn (sg se tm gs) ffrees fprices) ru (ruM bm fbarSeen fbarFrom fruleRounds) p0 p1 p2 sd r sd_) (fun (sd_ : Int32) => [((a 0), .inr (8, (fX8 a (nI tx) fp (nI t0) wd (nI we) nu na (nI rd) ts (nI ru) (nI rw) (nI ca) df db sd_))), (aI k (a 1) 3 (nF dn)), (aI k (a 4) 27 (sg se tm gs)), (aI k (a 2) 72 ffrees), (aI k (a 3) 72 fprices), (aI k (a 25) 4 (nF bm)), (aI k (a 26) 48 fbarSeen), (aI k (a 27) 48 fbarFrom), (aI k (a 28) 4 fruleRounds)]) := by
  intro sz
  refine Met.ofW (cc := cX8_evening) (maxL := 7) (ret := (some .int)) (by decide) rfl ?_
  intro p e s m args below meth c s₁ B hml hv
  obtain ⟨rfl, hsz, hlo, hP, hK, hDL, hZ⟩ := hv
  have hx := B.exec
  have hb := B.bytes
  have hr := B.returns
  have hts := WS_ts B.pre
  have hown : s.vm.findClass RX8 = some m.cls := findClass_of_methodNamed B.named
  have hlocks := B.notSynchronized
  subst hsz
  have hD := hDL.self (sz := s.heap.size)
  have hAlo := A_lo hDL hlo
  generalize hAe : va_A [((a 0), .inr (8, (fX8 a (nI tx) fp (nI t0) wd (nI we) nu na (nI rd) ts (nI ru) (nI rw) (nI ca) df db sd))), (aI k (a 1) 3 (nF dn)), (aI k (a 4) 27 (sg se tm gs)), (aI k (a 2) 72 ffrees), (aI k (a 3) 72 fprices), (aI k (a 25) 4 (nF bm)), (aI k (a 26) 48 fbarSeen), (aI k (a 27) 48 fbarFrom), (aI k (a 28) 4 fruleRounds)] s.heap.size = A at hD hAlo ⊢
  have hA : ∀ q : Nat, s.heap.size ≤ q → A q := fun q h => by rw [← hAe]; exact Or.inr h
  have hS : va_S A s.heap s.heap [] := va_S.rf
  have hl := lv_entry ([.ref (a 0), .int p0, .int p1, .int p2]) (n := 7) (Nat.le_of_ble_eq_true rfl)
  rw [lg_entry_eq]
  generalize (lg_sl ([.ref (a 0), .int p0, .int p1, .int p2]) ++ List.replicate (7 - (lg_sl ([.ref (a 0), .int p0, .int p1, .int p2])).length) Slot.unset).toArray = ls at hl ⊢
  have hl : lv_has ls 7 [(0, .ref (a 0)), (1, .int p0), (2, .int p1), (3, .int p2)] := hl
  obtain ⟨v9, hv9, rfl⟩ := nI_of hsd
  refine lv_aload_n hx hb dX8_evening_0 rfl (lv_at hl 0 rfl) ?_
  refine lv_iload_n hx hb dX8_evening_1 rfl (lv_at hl 1 rfl) ?_
  refine ro_i (D := D) (va_runV (As := [.int p0]) (rest := []) ⟨hx, hb, hml, hown, hts⟩ ((n_isStreet l D k st lo a tx t0 we rd ru rw ca fp wd nu na ts df db (nI v9) dn p0 hdn) s.heap.size) (cwV 1 hts (gV tw_1189 tw_1191 tw_38 tw_87 tw_1192) rfl rfl rfl (by decide +kernel) ⟨Nat.le_of_ble_eq_true rfl, Nat.le_of_ble_eq_true rfl⟩) (pV hS hAlo hlo hP hK (va_Dlo hD hAlo) hZ [0, 1] (by decide) rfl (ci := 8) (q := (RX8, TX8, 44)) (q0 := 0) rfl rfl) rfl rfl hl.1 rfl (lv_room (Nat.le_of_ble_eq_true rfl)) dX8_evening_2 ⟨Nat.le_of_ble_eq_true rfl, Nat.le_of_ble_eq_true rfl⟩) hS hA hP (fun r_1 H locs hw_1 hP hS => ?_)
  try dsimp only at hw_1
  rcases hw_1 with ⟨rfl, j_2, hj_2, rfl, hw_1⟩ | ⟨rfl, hw_1⟩
  · have hdj_2 := hdn j_2
    have htj_2 := htm j_2
    refine lv_if_eq (tgt := 16) hx hb dX8_evening_5 (by decide) (fun h => absurd h (by decide)) (fun _ => ?_)
    refine lv_aload_n hx hb dX8_evening_8 rfl (lv_at hl 0 rfl) ?_
    refine lv_iload_n hx hb dX8_evening_9 rfl (lv_at hl 2 rfl) ?_
    refine ro_i (D := D) (va_runV (As := [.int p1]) (rest := []) ⟨hx, hb, hml, hown, hts⟩ ((n_isRule l D k st lo a tx t0 we rd ru rw ca fp wd nu na ts df db (nI v9) p1 (by first | assumption | omega)) H.size) (cwV 1 hts (gV tw_1321 tw_1323 tw_57 tw_87 tw_1324) rfl rfl rfl (by decide +kernel) ⟨Nat.le_of_ble_eq_true rfl, Nat.le_of_ble_eq_true rfl⟩) (pV hS hAlo hlo hP hK (va_Dlo hD hAlo) hZ [0] (by decide) rfl (ci := 8) (q := (RX8, TX8, 44)) (q0 := 0) rfl rfl) rfl rfl hl.1 rfl (lv_room (Nat.le_of_ble_eq_true rfl)) dX8_evening_10 ⟨Nat.le_of_ble_eq_true rfl, Nat.le_of_ble_eq_true rfl⟩) hS hA hP (fun r_3 H locs hw_3 hP hS => ?_)
    try dsimp only at hw_3
    rcases hw_3 with ⟨rfl, j_4, hj_4, rfl, hw_3⟩ | ⟨rfl, hw_3⟩
    · refine lv_if_ne (tgt := 20) hx hb dX8_evening_13 (by decide) (fun _ => ?_) (fun h => absurd h (by decide))
      refine lv_iload_n hx hb dX8_evening_20 rfl (lv_at hl 3 rfl) ?_
      refine lv_i2l (v := p2.toInt64) hx hb dX8_evening_21 rfl ?_
      refine lv_lconst (v := (1 : Int32).toInt64) hx hb dX8_evening_22 (by decide) ?_
      refine lv_ldc2 hx hb hown (hts _ tw_1475) dX8_evening_23 ?_
      refine lv_tl (y := ((50 : Int32).toInt64)) (by decide) ?_
      refine ro_i (D := D) (va_runS (As := [.long (p2.toInt64), .long ((1 : Int32).toInt64), .long ((50 : Int32).toInt64)]) (rest := []) ⟨hx, hb, hml, hown, hts⟩ ((k_in l D k st lo p2 (1 : Int32) (50 : Int32)) H.size) (va_cwS 3 hts (gS tw_1111 tw_1112 tw_87 tw_1113) rfl rfl rfl (by decide +kernel) ⟨Nat.le_of_ble_eq_true rfl, Nat.le_of_ble_eq_true rfl⟩) (pS hS hAlo hlo hP hK (va_Dlo hD hAlo) hZ [] (by decide) rfl) rfl rfl hl.1 rfl (lv_room (Nat.le_of_ble_eq_true rfl)) dX8_evening_26 ⟨Nat.le_of_ble_eq_true rfl, Nat.le_of_ble_eq_true rfl⟩) hS hA hP (fun r_5 H locs hw_5 hP hS => ?_)
      try dsimp only at hw_5
      rcases hw_5 with ⟨rfl, hw_5⟩ | ⟨rfl, hw_5⟩
      · refine lv_if_ne (tgt := 36) hx hb dX8_evening_29 (by decide) (fun _ => ?_) (fun h => absurd h (by decide))
        have hin_6 := hw_5
        obtain ⟨nn_6, hnl_6, hnh_6, rfl⟩ := inB_ofc (a := 1) (b := 50) (by omega) (by omega) hw_5
        obtain ⟨rx_9, hr3_9, hrx_9⟩ := hrr j_4 (by omega)
        refine lv_lconst (v := (0 : Int32).toInt64) hx hb dX8_evening_36 (by decide) ?_
        refine lv_lstore (lv' := [(4, .long ((0 : Int32).toInt64)), (0, .ref (a 0)), (1, .int (nI j_2)), (2, .int (nI j_4)), (3, .int (nI nn_6))]) hx hb dX8_evening_37 hl (by decide) rfl (fun ls hl => ?_)
        refine lv_iconst (v := 0) hx hb dX8_evening_39 (by decide) ?_
        refine lv_istore (lv' := [(6, .int 0), (4, .long ((0 : Int32).toInt64)), (0, .ref (a 0)), (1, .int (nI j_2)), (2, .int (nI j_4)), (3, .int (nI nn_6))]) hx hb dX8_evening_40 hl (by decide) rfl (fun ls hl => ?_)
        refine W_loop (σ := Nat × Int64 × Nat) (fun (n_ : Nat) (x_ : Nat × Int64 × Nat) (H : Heap) (locs : List Loc) (ls : Array Slot) => match x_ with | (kk_7, al_7, sd2_7) => n_ = 50 - kk_7 ∧ (kk_7 ≤ nn_6 ∧ sd2_7 < 2147483648 ∧ al_7 = (evN (sdM dn (sg se tm gs) ffrees fprices j_2) (ruM bm fbarSeen fbarFrom fruleRounds j_4) (min rx_9 (tm j_2)) v9 kk_7).1 ∧ sd2_7 = (evN (sdM dn (sg se tm gs) ffrees fprices j_2) (ruM bm fbarSeen fbarFrom fruleRounds j_4) (min rx_9 (tm j_2)) v9 kk_7).2) ∧ va_P D classes [((a 0), .inr (8, (fX8 a (nI tx) fp (nI t0) wd (nI we) nu na (nI rd) ts (nI ru) (nI rw) (nI ca) df db (nI sd2_7)))), (aI k (a 1) 3 (nF dn)), (aI k (a 4) 27 (sg se tm gs)), (aI k (a 2) 72 ffrees), (aI k (a 3) 72 fprices), (aI k (a 25) 4 (nF bm)), (aI k (a 26) 48 fbarSeen), (aI k (a 27) 48 fbarFrom), (aI k (a 28) 4 fruleRounds)] H ∧ va_D A [((a 0), .inr (8, (fX8 a (nI tx) fp (nI t0) wd (nI we) nu na (nI rd) ts (nI ru) (nI rw) (nI ca) df db (nI sd2_7)))), (aI k (a 1) 3 (nF dn)), (aI k (a 4) 27 (sg se tm gs)), (aI k (a 2) 72 ffrees), (aI k (a 3) 72 fprices), (aI k (a 25) 4 (nF bm)), (aI k (a 26) 48 fbarSeen), (aI k (a 27) 48 fbarFrom), (aI k (a 28) 4 fruleRounds)] ∧ va_S A s.heap H locs ∧ lv_has ls 7 [(6, .int (nI kk_7)), (4, .long al_7), (0, .ref (a 0)), (1, .int (nI j_2)), (2, .int (nI j_4)), (3, .int (nI nn_6))]) (fun n_7 x_7 H locs ls hI ih_7 => ?_) _ (0, ((0 : Int32).toInt64), v9) ⟨rfl, ⟨by omega, by omega, rfl, rfl⟩, hP, hD, hS, (lv_sub hl [0, 1, 2, 3, 4, 5] rfl)⟩
        obtain ⟨kk_7, al_7, sd2_7⟩ := x_7
        obtain ⟨hm_7, hv_7, hP, hD, hS, hl⟩ := hI
        subst hm_7
        refine lv_iload hx hb dX8_evening_42 (lv_at hl 0 rfl) ?_
        refine lv_iload_n hx hb dX8_evening_44 rfl (lv_at hl 5 rfl) ?_
        refine lv_icmp_ge (tgt := 66) hx hb dX8_evening_45 (by decide) (fun c_8 => ?_) (fun c_8 => ?_)
        · have c_8 := (nI_leI (a := nn_6) (b := kk_7) (by omega) (by omega)).mp c_8
          refine lv_lload hx hb dX8_evening_66 (lv_at hl 1 rfl) ?_
          refine lv_ldc2 hx hb hown (hts _ tw_1488) dX8_evening_68 ?_
          refine lv_tl (y := ((1000 : Int32).toInt64)) (by decide) ?_
          refine lv_ldiv hx hb dX8_evening_71 (by decide) ?_
          refine lv_topl (fun x_9 ex_9 => ?_)
          refine lv_l2i hx hb dX8_evening_72 rfl ?_
          refine lv_topi (fun x_10 ex_10 => ?_)
          obtain ⟨hP9, hD9⟩ := pd_sub [((a 0), .inr (8, (fX8 a (nI tx) fp (nI t0) wd (nI we) nu na (nI rd) ts (nI ru) (nI rw) (nI ca) df db (nI sd2_7)))), (aI k (a 1) 3 (nF dn)), (aI k (a 4) 27 (sg se tm gs)), (aI k (a 2) 72 ffrees), (aI k (a 3) 72 fprices), (aI k (a 25) 4 (nF bm)), (aI k (a 26) 48 fbarSeen), (aI k (a 27) 48 fbarFrom), (aI k (a 28) 4 fruleRounds)] [0, 1, 2, 3, 4, 5, 6, 7, 8] hP hD (by decide +kernel) rfl
          exact W.iret (v := x_10) hx hb hr (fun t ht hW => ⟨⟨x_10, (nI sd2_7), rfl, ev_at (s := j_2) (t := j_4) (by omega) (by omega) (by omega) (show 0 < dn j_2 by omega) (show evA (nI nn_6) (nI v9) (sdM dn (sg se tm gs) ffrees fprices j_2) (ruM bm fbarSeen fbarFrom fruleRounds j_4) _ _ from ev_i (a := al_7) (w := sd2_7) (by omega) hin_6 (by omega) (by rw [(show muD (sdM dn (sg se tm gs) ffrees fprices j_2) (ruM bm fbarSeen fbarFrom fruleRounds j_4) = min rx_9 (tm j_2) by unfold muD; rw [tmM (htm _)]; exact congrArg (fun z => min z (tm j_2)) (show (fruleRounds j_4).toNatClampNeg = rx_9 by rw [hrx_9]; exact nI_clamp (by omega))), show nn_6 = kk_7 by omega]; exact hv_7.2.2.1) (by rw [(show muD (sdM dn (sg se tm gs) ffrees fprices j_2) (ruM bm fbarSeen fbarFrom fruleRounds j_4) = min rx_9 (tm j_2) by unfold muD; rw [tmM (htm _)]; exact congrArg (fun z => min z (tm j_2)) (show (fruleRounds j_4).toNatClampNeg = rx_9 by rw [hrx_9]; exact nI_clamp (by omega))), show nn_6 = kk_7 by omega]; exact hv_7.2.2.2) (by rw [ex_10, ex_9]; rfl)), by rw [ht]; exact hP9, hD9⟩, hS.F ht⟩) hS.2.2 dX8_evening_73
        · have c_8 : ¬ (nn_6 ≤ kk_7) := fun h => c_8 ((nI_leI (a := nn_6) (b := kk_7) (by omega) (by omega)).mpr h)
          refine lv_lload hx hb dX8_evening_48 (lv_at hl 1 rfl) ?_
          refine lv_aload_n hx hb dX8_evening_50 rfl (lv_at hl 2 rfl) ?_
          refine lv_iload_n hx hb dX8_evening_51 rfl (lv_at hl 3 rfl) ?_
          refine lv_iload_n hx hb dX8_evening_52 rfl (lv_at hl 4 rfl) ?_
          refine rw_i (D := D) (wr := []) (va_runV (As := [.int (nI j_2), .int (nI j_4)]) (rest := [.long al_7]) ⟨hx, hb, hml, hown, hts⟩ ((n_drive l D k st lo a tx t0 we rd ru rw ca fp wd nu na ts df db sd2_7 dn se tm gs ffrees fprices bm fbarSeen fbarFrom fruleRounds j_2 j_4 rx_9 hdn hse htm hbm (by first | assumption | omega) (by first | assumption | omega) (by first | assumption | omega) hrx_9 (by first | assumption | omega) (by first | assumption | omega)) H.size) (cwV 2 hts (gV tw_1476 tw_1478 tw_76 tw_87 tw_1479) rfl rfl rfl (by decide +kernel) ⟨Nat.le_of_ble_eq_true rfl, Nat.le_of_ble_eq_true rfl⟩) (pV hS hAlo hlo hP hK (va_Dlo hD hAlo) hZ [0, 1, 2, 3, 4, 5, 6, 7, 8] (by decide +kernel) rfl (ci := 8) (q := (RX8, TX8, 44)) (q0 := 0) rfl rfl) rfl rfl hl.1 rfl (lv_room (Nat.le_of_ble_eq_true rfl)) dX8_evening_53 ⟨Nat.le_of_ble_eq_true rfl, Nat.le_of_ble_eq_true rfl⟩) hS hA hP hD [0, 1, 2, 3, 4, 5, 6, 7, 8] [] rfl rfl (by decide) (by decide) (fun r_11 u H locs hw_11 hP hD hS => ?_)
          obtain ⟨sd__11, rfl⟩ : ∃ z, z = u := ⟨_, rfl⟩
          have hQ9 := pd_mk [((a 0), .inr (8, (fX8 a (nI tx) fp (nI t0) wd (nI we) nu na (nI rd) ts (nI ru) (nI rw) (nI ca) df db (nI sd__11)))), (aI k (a 1) 3 (nF dn)), (aI k (a 4) 27 (sg se tm gs)), (aI k (a 2) 72 ffrees), (aI k (a 3) 72 fprices), (aI k (a 25) 4 (nF bm)), (aI k (a 26) 48 fbarSeen), (aI k (a 27) 48 fbarFrom), (aI k (a 28) 4 fruleRounds)] hP hD
          clear hP hD
          obtain ⟨hP, hD⟩ := hQ9
          try dsimp only at hw_11
          refine lv_i2l (v := r_11.toInt64) hx hb dX8_evening_56 rfl ?_
          refine lv_ladd hx hb dX8_evening_57 ?_
          refine lv_topl (fun x_12 ex_12 => ?_)
          refine lv_lstore (lv' := [(4, .long x_12), (6, .int (nI kk_7)), (0, .ref (a 0)), (1, .int (nI j_2)), (2, .int (nI j_4)), (3, .int (nI nn_6))]) hx hb dX8_evening_58 hl (by decide) rfl (fun ls hl => ?_)
          refine lv_iinc (v := (nI (kk_7 + 1))) (lv' := [(6, .int (nI (kk_7 + 1))), (4, .long x_12), (0, .ref (a 0)), (1, .int (nI j_2)), (2, .int (nI j_4)), (3, .int (nI nn_6))]) hx hb dX8_evening_60 hl (k := 1) rfl (nI_add kk_7 1) (by decide) rfl (fun ls hl => ?_)
          refine lv_goto (tgt := 42) hx hb dX8_evening_63 (by decide) ?_
          have hes_13 := evN_s hv_7.2.2.1 hv_7.2.2.2 hw_11.1 ex_12
          exact ih_7 _ (kk_7 + 1, x_12, sd__11) _ _ _ (by omega) ⟨rfl, ⟨by omega, hw_11.2, hes_13.1, hes_13.2⟩, hP, hD, hS, (lv_sub hl [0, 1, 2, 3, 4, 5] rfl)⟩
      · refine lv_if_ne (tgt := 36) hx hb dX8_evening_29 (by decide) (fun h => absurd (by decide) h) (fun _ => ?_)
        refine lv_sipush (v := (-1002)) hx hb dX8_evening_32 (by decide) ?_
        obtain ⟨hP9, hD9⟩ := pd_sub [((a 0), .inr (8, (fX8 a (nI tx) fp (nI t0) wd (nI we) nu na (nI rd) ts (nI ru) (nI rw) (nI ca) df db (nI v9)))), (aI k (a 1) 3 (nF dn)), (aI k (a 4) 27 (sg se tm gs)), (aI k (a 2) 72 ffrees), (aI k (a 3) 72 fprices), (aI k (a 25) 4 (nF bm)), (aI k (a 26) 48 fbarSeen), (aI k (a 27) 48 fbarFrom), (aI k (a 28) 4 fruleRounds)] [0, 1, 2, 3, 4, 5, 6, 7, 8] hP hD (by decide +kernel) rfl
        exact W.iret (v := (-1002)) hx hb hr (fun t ht hW => ⟨⟨(-1002), (nI v9), rfl, ev_at (s := j_2) (t := j_4) (by omega) (by omega) (by omega) (show 0 < dn j_2 by omega) (show evA p2 (nI v9) (sdM dn (sg se tm gs) ffrees fprices j_2) (ruM bm fbarSeen fbarFrom fruleRounds j_4) _ _ from ev_o hw_5), by rw [ht]; exact hP9, hD9⟩, hS.F ht⟩) hS.2.2 dX8_evening_35
    · refine lv_if_ne (tgt := 20) hx hb dX8_evening_13 (by decide) (fun h => absurd (by decide) h) (fun _ => ?_)
      refine lv_sipush (v := (-1001)) hx hb dX8_evening_16 (by decide) ?_
      obtain ⟨hP9, hD9⟩ := pd_sub [((a 0), .inr (8, (fX8 a (nI tx) fp (nI t0) wd (nI we) nu na (nI rd) ts (nI ru) (nI rw) (nI ca) df db (nI v9)))), (aI k (a 1) 3 (nF dn)), (aI k (a 4) 27 (sg se tm gs)), (aI k (a 2) 72 ffrees), (aI k (a 3) 72 fprices), (aI k (a 25) 4 (nF bm)), (aI k (a 26) 48 fbarSeen), (aI k (a 27) 48 fbarFrom), (aI k (a 28) 4 fruleRounds)] [0, 1, 2, 3, 4, 5, 6, 7, 8] hP hD (by decide +kernel) rfl
      exact W.iret (v := (-1001)) hx hb hr (fun t ht hW => ⟨⟨(-1001), (nI v9), rfl, ev_no1 hw_3, by rw [ht]; exact hP9, hD9⟩, hS.F ht⟩) hS.2.2 dX8_evening_19
  · refine lv_if_eq (tgt := 16) hx hb dX8_evening_5 (by decide) (fun _ => ?_) (fun h => absurd (by decide) h)
    refine lv_sipush (v := (-1001)) hx hb dX8_evening_16 (by decide) ?_
    obtain ⟨hP9, hD9⟩ := pd_sub [((a 0), .inr (8, (fX8 a (nI tx) fp (nI t0) wd (nI we) nu na (nI rd) ts (nI ru) (nI rw) (nI ca) df db (nI v9)))), (aI k (a 1) 3 (nF dn)), (aI k (a 4) 27 (sg se tm gs)), (aI k (a 2) 72 ffrees), (aI k (a 3) 72 fprices), (aI k (a 25) 4 (nF bm)), (aI k (a 26) 48 fbarSeen), (aI k (a 27) 48 fbarFrom), (aI k (a 28) 4 fruleRounds)] [0, 1, 2, 3, 4, 5, 6, 7, 8] hP hD (by decide +kernel) rfl
    exact W.iret (v := (-1001)) hx hb hr (fun t ht hW => ⟨⟨(-1001), (nI v9), rfl, ev_no0 (fun s h1 h2 h3 => hw_1 s h1 h2 h3), by rw [ht]; exact hP9, hD9⟩, hS.F ht⟩) hS.2.2 dX8_evening_19

theorem f_glueP29 : True := trivial
/-! how many bits are set: as the library counts them -/
theorem ush {a : Nat} {y : Int32} (k : Nat) (ha : a < 2147483648) (hy : (y.toUInt32 &&& Int32.toUInt32 31).toNat % 32 = k) : ((nI a).toUInt32 >>> (y.toUInt32 &&& Int32.toUInt32 31)).toInt32 = nI (a / 2 ^ k) := by
  have e : (nI a).toUInt32 >>> (y.toUInt32 &&& Int32.toUInt32 31) = UInt32.ofNat (a / 2 ^ k) := by
    apply UInt32.toNat_inj.mp
    rw [UInt32.toNat_shiftRight, hy, show (nI a).toUInt32 = UInt32.ofNat a from rfl, UInt32.toNat_ofNat', UInt32.toNat_ofNat', Nat.shiftRight_eq_div_pow]
    have h := Nat.div_le_self a (2 ^ k)
    rw [Nat.mod_eq_of_lt (by omega), Nat.mod_eq_of_lt (by omega)]
  rw [e]
  rfl
theorem land16 {a b c d : Nat} (ha : a < 16) (hc : c < 16) : (a + 16 * b) &&& (c + 16 * d) = (a &&& c) + 16 * (b &&& d) := by
  have hac : a &&& c < 2 ^ 4 := Nat.lt_of_le_of_lt Nat.and_le_left ha
  apply Nat.eq_of_testBit_eq
  intro j
  rw [Nat.testBit_and, show a + 16 * b = 2 ^ 4 * b + a from Nat.add_comm _ _, show c + 16 * d = 2 ^ 4 * d + c from Nat.add_comm _ _, show (a &&& c) + 16 * (b &&& d) = 2 ^ 4 * (b &&& d) + (a &&& c) from Nat.add_comm _ _, Nat.testBit_two_pow_mul_add _ (show a < 2 ^ 4 from ha), Nat.testBit_two_pow_mul_add _ (show c < 2 ^ 4 from hc), Nat.testBit_two_pow_mul_add _ hac]
  by_cases h : j < 4
  · rw [if_pos h, if_pos h, if_pos h, Nat.testBit_and]
  · rw [if_neg h, if_neg h, if_neg h, Nat.testBit_and]
def m5 : Nat → Nat
  | 0 => 0
  | k + 1 => 5 + 16 * m5 k
def m3 : Nat → Nat
  | 0 => 0
  | k + 1 => 3 + 16 * m3 k
def sA (m V : Nat) : Nat := V - (V / 2 &&& m)
def sB (m A : Nat) : Nat := (A &&& m) + (A / 4 &&& m)
theorem dA : ∀ n, n < 16 → ∀ b, b < 2 → ((n / 2 + 8 * b) &&& 5) = (n / 2 &&& 5) := by decide
theorem dA2 : ∀ n, n < 16 → (n / 2 &&& 5) ≤ n := by decide
theorem dB : ∀ n, n < 16 → ∀ b, b < 4 → ((n / 4 + 4 * b) &&& 3) = (n / 4 &&& 3) := by decide
theorem dB2 : ∀ n, n < 16 → (n &&& 3) ≤ 3 ∧ (n / 4 &&& 3) ≤ 3 := by decide
theorem sA_s {n W k : Nat} (hn : n < 16) : sA (m5 (k + 1)) (n + 16 * W) = (n - (n / 2 &&& 5)) + 16 * sA (m5 k) W := by
  unfold sA
  have e : (n + 16 * W) / 2 = (n / 2 + 8 * (W % 2)) + 16 * (W / 2) := by omega
  have h1 := dA2 n hn
  have h2 : (W / 2 &&& m5 k) ≤ W := Nat.le_trans Nat.and_le_left (by omega)
  rw [e, show m5 (k + 1) = 5 + 16 * m5 k from rfl, land16 (by omega) (by omega), dA n hn (W % 2) (by omega)]
  generalize (n / 2 &&& 5) = x at h1 ⊢
  generalize (W / 2 &&& m5 k) = y at h2 ⊢
  omega
theorem sB_s {n W k : Nat} (hn : n < 16) : sB (m3 (k + 1)) (n + 16 * W) = ((n &&& 3) + (n / 4 &&& 3)) + 16 * sB (m3 k) W := by
  unfold sB
  have e : (n + 16 * W) / 4 = (n / 4 + 4 * (W % 4)) + 16 * (W / 4) := by omega
  rw [e, show m3 (k + 1) = 3 + 16 * m3 k from rfl, land16 hn (by omega), land16 (by omega) (by omega), dB n hn (W % 4) (by omega)]
  generalize (n &&& 3) = x
  generalize (n / 4 &&& 3) = y
  generalize (W &&& m3 k) = z
  generalize (W / 4 &&& m3 k) = u
  omega
def nb1 (n : Nat) : Nat := n - (n / 2 &&& 5)
def nb2 (n : Nat) : Nat := (nb1 n &&& 3) + (nb1 n / 4 &&& 3)
theorem nb1_lt : ∀ n, n < 16 → nb1 n < 16 := by decide
theorem nb2_is : ∀ n, n < 16 → nb2 n = n % 2 + n / 2 % 2 + n / 4 % 2 + n / 8 % 2 := by decide
theorem sAB_s {n W k : Nat} (hn : n < 16) : sB (m3 (k + 1)) (sA (m5 (k + 1)) (n + 16 * W)) = nb2 n + 16 * sB (m3 k) (sA (m5 k) W) := by
  rw [sA_s hn, show n - (n / 2 &&& 5) = nb1 n from rfl, sB_s (nb1_lt n hn)]
  rfl
theorem sAB_0 : sB (m3 2) (sA (m5 2) 0) = 0 := by decide
def finN (B : Nat) : Nat := ((((B + B / 16) &&& 252645135) + ((B + B / 16) &&& 252645135) / 256) + (((B + B / 16) &&& 252645135) + ((B + B / 16) &&& 252645135) / 256) / 65536) &&& 63
theorem fin_d : ∀ a, a < 5 → ∀ b, b < 5 → ∀ c, c < 5 → ∀ d, d < 5 → ∀ e, e < 5 → ∀ f, f < 5 → finN (a + 16 * (b + 16 * (c + 16 * (d + 16 * (e + 16 * (f + 16 * 0)))))) = a + b + c + d + e + f := by decide +kernel
def bs (V : Nat) : Nat → Nat
  | 0 => 0
  | k + 1 => bs V k + V / 2 ^ k % 2
theorem bs24 (V : Nat) : bs V 24 = 0 + V / 2 ^ 0 % 2 + V / 2 ^ 1 % 2 + V / 2 ^ 2 % 2 + V / 2 ^ 3 % 2 + V / 2 ^ 4 % 2 + V / 2 ^ 5 % 2 + V / 2 ^ 6 % 2 + V / 2 ^ 7 % 2 + V / 2 ^ 8 % 2 + V / 2 ^ 9 % 2 + V / 2 ^ 10 % 2 + V / 2 ^ 11 % 2 + V / 2 ^ 12 % 2 + V / 2 ^ 13 % 2 + V / 2 ^ 14 % 2 + V / 2 ^ 15 % 2 + V / 2 ^ 16 % 2 + V / 2 ^ 17 % 2 + V / 2 ^ 18 % 2 + V / 2 ^ 19 % 2 + V / 2 ^ 20 % 2 + V / 2 ^ 21 % 2 + V / 2 ^ 22 % 2 + V / 2 ^ 23 % 2 := rfl
theorem nib1 (U : Nat) : nb2 (U % 16) = U % 2 + U / 2 % 2 + U / 4 % 2 + U / 8 % 2 := by
  rw [nb2_is _ (Nat.mod_lt U (by omega))]
  omega
theorem nib (V m : Nat) : nb2 (V / 2 ^ m % 16) = V / 2 ^ m % 2 + V / 2 ^ (m + 1) % 2 + V / 2 ^ (m + 2) % 2 + V / 2 ^ (m + 3) % 2 := by
  have e1 : 2 ^ (m + 1) = 2 ^ m * 2 := Nat.pow_add 2 m 1
  have e2 : 2 ^ (m + 2) = 2 ^ m * 4 := Nat.pow_add 2 m 2
  have e3 : 2 ^ (m + 3) = 2 ^ m * 8 := Nat.pow_add 2 m 3
  rw [nib1, e1, e2, e3, Nat.div_div_eq_div_mul, Nat.div_div_eq_div_mul, Nat.div_div_eq_div_mul]
theorem nb2_lt : ∀ n, n < 16 → nb2 n < 5 := by decide
theorem sAB_6 {a b c d e f : Nat} (ha : a < 16) (hb : b < 16) (hc : c < 16) (hd : d < 16) (he : e < 16) (hf : f < 16) : finN (sB (m3 8) (sA (m5 8) (a + 16 * (b + 16 * (c + 16 * (d + 16 * (e + 16 * (f + 16 * 0)))))))) = nb2 a + nb2 b + nb2 c + nb2 d + nb2 e + nb2 f := by
  rw [sAB_s (k := 7) ha, sAB_s (k := 6) hb, sAB_s (k := 5) hc, sAB_s (k := 4) hd, sAB_s (k := 3) he, sAB_s (k := 2) hf, sAB_0]
  exact fin_d _ (nb2_lt _ ha) _ (nb2_lt _ hb) _ (nb2_lt _ hc) _ (nb2_lt _ hd) _ (nb2_lt _ he) _ (nb2_lt _ hf)
theorem bc_e {V : Nat} (hV : V < 16777216) : V / 1 % 16 + 16 * (V / 16 % 16 + 16 * (V / 256 % 16 + 16 * (V / 4096 % 16 + 16 * (V / 65536 % 16 + 16 * (V / 1048576 % 16 + 16 * 0))))) = V := by omega
theorem bc_N {V : Nat} (hV : V < 16777216) : finN (sB (m3 8) (sA (m5 8) V)) = bs V 24 := by
  have h := sAB_6 (a := V / 1 % 16) (b := V / 16 % 16) (c := V / 256 % 16) (d := V / 4096 % 16) (e := V / 65536 % 16) (f := V / 1048576 % 16) (Nat.mod_lt _ (by decide)) (Nat.mod_lt _ (by decide)) (Nat.mod_lt _ (by decide)) (Nat.mod_lt _ (by decide)) (Nat.mod_lt _ (by decide)) (Nat.mod_lt _ (by decide))
  rw [bc_e hV] at h
  have n0 : nb2 (V / 1 % 16) = V / 2 ^ 0 % 2 + V / 2 ^ 1 % 2 + V / 2 ^ 2 % 2 + V / 2 ^ 3 % 2 := nib V 0
  have n1 : nb2 (V / 16 % 16) = V / 2 ^ 4 % 2 + V / 2 ^ 5 % 2 + V / 2 ^ 6 % 2 + V / 2 ^ 7 % 2 := nib V 4
  have n2 : nb2 (V / 256 % 16) = V / 2 ^ 8 % 2 + V / 2 ^ 9 % 2 + V / 2 ^ 10 % 2 + V / 2 ^ 11 % 2 := nib V 8
  have n3 : nb2 (V / 4096 % 16) = V / 2 ^ 12 % 2 + V / 2 ^ 13 % 2 + V / 2 ^ 14 % 2 + V / 2 ^ 15 % 2 := nib V 12
  have n4 : nb2 (V / 65536 % 16) = V / 2 ^ 16 % 2 + V / 2 ^ 17 % 2 + V / 2 ^ 18 % 2 + V / 2 ^ 19 % 2 := nib V 16
  have n5 : nb2 (V / 1048576 % 16) = V / 2 ^ 20 % 2 + V / 2 ^ 21 % 2 + V / 2 ^ 22 % 2 + V / 2 ^ 23 % 2 := nib V 20
  rw [h, n0, n1, n2, n3, n4, n5, bs24]
  simp only [Nat.zero_add, Nat.add_assoc]
def cntN (f : Nat → Int32) : Nat → Nat
  | 0 => 0
  | n + 1 => cntN f n + (if f n = 1 then 1 else 0)
theorem bs_cnt {f : Nat → Int32} {z : Nat} : ∀ k, k ≤ z → bs (rowN f z) k = cntN f k := by
  intro k
  induction k with
  | zero => intro _; rfl
  | succ k ih =>
    intro h
    show bs (rowN f z) k + rowN f z / 2 ^ k % 2 = cntN f k + (if f k = 1 then 1 else 0)
    rw [ih (by omega), rowN_bit (show k < z from h)]
theorem bs_out {V z : Nat} (h : V < 2 ^ z) : ∀ k, z ≤ k → bs V k = bs V z := by
  intro k hk
  obtain ⟨m, rfl⟩ := Nat.exists_eq_add_of_le hk
  clear hk
  induction m with
  | zero => rfl
  | succ m ih =>
    show bs V (z + m) + V / 2 ^ (z + m) % 2 = bs V z
    rw [ih, Nat.div_eq_of_lt (Nat.lt_of_lt_of_le h (Nat.pow_le_pow_right (n := 2) (by omega) (Nat.le_add_right z m)))]
    rfl
theorem bc_row {f : Nat → Int32} {z : Nat} (hz : z ≤ 24) : finN (sB (m3 8) (sA (m5 8) (rowN f z))) = cntN f z := by
  rw [bc_N (rowN_24 hz), bs_out (rowN_lt f z) 24 hz, bs_cnt z (Nat.le_refl z)]
def usI (x y : Int32) : Int32 := (x.toUInt32 >>> (y.toUInt32 &&& Int32.toUInt32 31)).toInt32
def bcI (v : Int32) : Int32 := v - (usI v 1 &&& 1431655765)
def bcJ (a : Int32) : Int32 := (a &&& 858993459) + (usI a 2 &&& 858993459)
def bcK (b : Int32) : Int32 := (b + usI b 4) &&& 252645135
def bcL (c : Int32) : Int32 := c + usI c 8
def bcM (e : Int32) : Int32 := (e + usI e 16) &&& 63
theorem and_le_r {a b : Nat} : a &&& b ≤ b := Nat.and_le_right
theorem bc_I {V : Nat} (hV : V < 16777216) : bcM (bcL (bcK (bcJ (bcI (nI V))))) = nI (finN (sB (m3 8) (sA (m5 8) V))) := by
  have e5 : m5 8 = 1431655765 := by decide
  have e3 : m3 8 = 858993459 := by decide
  have h1 : bcI (nI V) = nI (sA (m5 8) V) := by
    unfold bcI usI sA
    rw [ush 1 (by omega) (by decide), show (1431655765 : Int32) = nI 1431655765 from rfl, nI_and, e5, Nat.pow_one, pk_sub (Nat.le_trans Nat.and_le_left (by omega))]
  have b1 : sA (m5 8) V ≤ V := Nat.sub_le _ _
  generalize sA (m5 8) V = A at h1 b1 ⊢
  have h2 : bcJ (nI A) = nI (sB (m3 8) A) := by
    unfold bcJ usI sB
    rw [ush 2 (by omega) (by decide), show (858993459 : Int32) = nI 858993459 from rfl, nI_and, nI_and, nI_add, e3]
  have b2 : sB (m3 8) A ≤ A + A / 4 := Nat.add_le_add Nat.and_le_left Nat.and_le_left
  generalize sB (m3 8) A = B at h2 b2 ⊢
  have h3 : bcK (nI B) = nI ((B + B / 16) &&& 252645135) := by
    unfold bcK usI
    rw [ush 4 (by omega) (by decide), show (252645135 : Int32) = nI 252645135 from rfl, nI_add, nI_and]
  have b3 : (B + B / 16) &&& 252645135 ≤ 252645135 := Nat.and_le_right
  unfold finN
  generalize (B + B / 16) &&& 252645135 = C at h3 b3 ⊢
  have h4 : bcL (nI C) = nI (C + C / 256) := by
    unfold bcL usI
    rw [ush 8 (by omega) (by decide), nI_add]
  have h5 : bcM (nI (C + C / 256)) = nI ((C + C / 256 + (C + C / 256) / 65536) &&& 63) := by
    unfold bcM usI
    rw [ush 16 (by omega) (by decide), show (63 : Int32) = nI 63 from rfl, nI_add, nI_and]
  rw [h1, h2, h3, h4, h5]
def cnP (a b c d e : Nat) (p r : Int32) : Prop := (p = 0 → r = nI a) ∧ (p = 1 → r = nI b) ∧ (p = 2 → r = nI c) ∧ (p = 3 → r = nI d) ∧ (p = 4 → r = nI e) ∧ (¬ p = 0 → ¬ p = 1 → ¬ p = 2 → ¬ p = 3 → ¬ p = 4 → r = -1002)
theorem cnP_fun {a b c d e : Nat} {p r q : Int32} (h : cnP a b c d e p r) (g : cnP a b c d e p q) : r = q := by
  obtain ⟨h0, h1, h2, h3, h4, h5⟩ := h
  obtain ⟨g0, g1, g2, g3, g4, g5⟩ := g
  rcases Classical.em (p = 0) with k0 | k0
  · exact (h0 k0).trans (g0 k0).symm
  rcases Classical.em (p = 1) with k1 | k1
  · exact (h1 k1).trans (g1 k1).symm
  rcases Classical.em (p = 2) with k2 | k2
  · exact (h2 k2).trans (g2 k2).symm
  rcases Classical.em (p = 3) with k3 | k3
  · exact (h3 k3).trans (g3 k3).symm
  rcases Classical.em (p = 4) with k4 | k4
  · exact (h4 k4).trans (g4 k4).symm
  exact (h5 k0 k1 k2 k3 k4).trans (g5 k0 k1 k2 k3 k4).symm


set_option maxHeartbeats 4000000 in
set_option maxRecDepth 100000 in
theorem y_bitCount (l : Launch) (D : va_G) (k : Nat → ClassId) (st : Nat → Nat) (lo : Nat) (p0 : Int32)  : CRi l D k st lo yJ6_bitCount_0f7a4 cJ6_bitCount_0f7a4 1 (some .int) ({ frames := 0, cells := 0, slots := 0, locals := 0 }) [.int p0] [] (fun r => r = bcM (bcL (bcK (bcJ (bcI p0))))) := by
  intro sz
  refine Met.ofW (cc := cJ6_bitCount_0f7a4) (maxL := 1) (ret := (some .int)) (by decide) rfl ?_
  intro p e s m args below meth c s₁ B hml hv
  obtain ⟨rfl, hsz, hlo, hP, hK, hDL, hZ⟩ := hv
  have hx := B.exec
  have hb := B.bytes
  have hr := B.returns
  have hts := WS_ts B.pre
  have hown : s.vm.findClass RJ6 = some m.cls := findClass_of_methodNamed B.named
  have hlocks := B.notSynchronized
  subst hsz
  have hA : ∀ q : Nat, s.heap.size ≤ q → (fun q : Nat => s.heap.size ≤ q) q := fun _ h => h
  have hAlo : ∀ q : Nat, (fun q : Nat => s.heap.size ≤ q) q → lo ≤ q := fun q h => Nat.le_trans hlo h
  have hS : va_S (fun q : Nat => s.heap.size ≤ q) s.heap s.heap [] := va_S.rf
  have hl := lv_entry ([.int p0]) (n := 1) (Nat.le_of_ble_eq_true rfl)
  rw [lg_entry_eq]
  generalize (lg_sl ([.int p0]) ++ List.replicate (1 - (lg_sl ([.int p0])).length) Slot.unset).toArray = ls at hl ⊢
  have hl : lv_has ls 1 [(0, .int p0)] := hl
  refine lv_iload_n hx hb dJ6_bitCount_0f7a4_0 rfl (lv_at hl 0 rfl) ?_
  refine lv_iload_n hx hb dJ6_bitCount_0f7a4_1 rfl (lv_at hl 0 rfl) ?_
  refine lv_iconst (v := 1) hx hb dJ6_bitCount_0f7a4_2 (by decide) ?_
  refine lv_iushr hx hb dJ6_bitCount_0f7a4_3 rfl ?_
  refine lv_topi (fun x_1 ex_1 => ?_)
  refine lv_ldcw hx hb hown (hts _ tw_948) dJ6_bitCount_0f7a4_4 ?_
  refine lv_iand hx hb dJ6_bitCount_0f7a4_7 ?_
  refine lv_topi (fun x_2 ex_2 => ?_)
  refine lv_isub hx hb dJ6_bitCount_0f7a4_8 ?_
  refine lv_topi (fun x_3 ex_3 => ?_)
  refine lv_istore_n (lv' := [(0, .int x_3)]) hx hb dJ6_bitCount_0f7a4_9 rfl hl (by decide) rfl (fun ls hl => ?_)
  refine lv_iload_n hx hb dJ6_bitCount_0f7a4_10 rfl (lv_at hl 0 rfl) ?_
  refine lv_ldcw hx hb hown (hts _ tw_949) dJ6_bitCount_0f7a4_11 ?_
  refine lv_iand hx hb dJ6_bitCount_0f7a4_14 ?_
  refine lv_topi (fun x_4 ex_4 => ?_)
  refine lv_iload_n hx hb dJ6_bitCount_0f7a4_15 rfl (lv_at hl 0 rfl) ?_
  refine lv_iconst (v := 2) hx hb dJ6_bitCount_0f7a4_16 (by decide) ?_
  refine lv_iushr hx hb dJ6_bitCount_0f7a4_17 rfl ?_
  refine lv_topi (fun x_5 ex_5 => ?_)
  refine lv_ldcw hx hb hown (hts _ tw_949) dJ6_bitCount_0f7a4_18 ?_
  refine lv_iand hx hb dJ6_bitCount_0f7a4_21 ?_
  refine lv_topi (fun x_6 ex_6 => ?_)
  refine lv_iadd hx hb dJ6_bitCount_0f7a4_22 ?_
  refine lv_topi (fun x_7 ex_7 => ?_)
  refine lv_istore_n (lv' := [(0, .int x_7)]) hx hb dJ6_bitCount_0f7a4_23 rfl hl (by decide) rfl (fun ls hl => ?_)
  refine lv_iload_n hx hb dJ6_bitCount_0f7a4_24 rfl (lv_at hl 0 rfl) ?_
  refine lv_iload_n hx hb dJ6_bitCount_0f7a4_25 rfl (lv_at hl 0 rfl) ?_
  refine lv_iconst (v := 4) hx hb dJ6_bitCount_0f7a4_26 (by decide) ?_
  refine lv_iushr hx hb dJ6_bitCount_0f7a4_27 rfl ?_
  refine lv_topi (fun x_8 ex_8 => ?_)
  refine lv_iadd hx hb dJ6_bitCount_0f7a4_28 ?_
  refine lv_topi (fun x_9 ex_9 => ?_)
  refine lv_ldcw hx hb hown (hts _ tw_950) dJ6_bitCount_0f7a4_29 ?_
  refine lv_iand hx hb dJ6_bitCount_0f7a4_32 ?_
  refine lv_topi (fun x_10 ex_10 => ?_)
  refine lv_istore_n (lv' := [(0, .int x_10)]) hx hb dJ6_bitCount_0f7a4_33 rfl hl (by decide) rfl (fun ls hl => ?_)
  refine lv_iload_n hx hb dJ6_bitCount_0f7a4_34 rfl (lv_at hl 0 rfl) ?_
  refine lv_iload_n hx hb dJ6_bitCount_0f7a4_35 rfl (lv_at hl 0 rfl) ?_
  refine lv_bipush (v := 8) hx hb dJ6_bitCount_0f7a4_36 (by decide) ?_
  refine lv_iushr hx hb dJ6_bitCount_0f7a4_38 rfl ?_
  refine lv_topi (fun x_11 ex_11 => ?_)
  refine lv_iadd hx hb dJ6_bitCount_0f7a4_39 ?_
  refine lv_topi (fun x_12 ex_12 => ?_)
  refine lv_istore_n (lv' := [(0, .int x_12)]) hx hb dJ6_bitCount_0f7a4_40 rfl hl (by decide) rfl (fun ls hl => ?_)
  refine lv_iload_n hx hb dJ6_bitCount_0f7a4_41 rfl (lv_at hl 0 rfl) ?_
  refine lv_iload_n hx hb dJ6_bitCount_0f7a4_42 rfl (lv_at hl 0 rfl) ?_
  refine lv_bipush (v := 16) hx hb dJ6_bitCount_0f7a4_43 (by decide) ?_
  refine lv_iushr hx hb dJ6_bitCount_0f7a4_45 rfl ?_
  refine lv_topi (fun x_13 ex_13 => ?_)
  refine lv_iadd hx hb dJ6_bitCount_0f7a4_46 ?_
  refine lv_topi (fun x_14 ex_14 => ?_)
  refine lv_istore_n (lv' := [(0, .int x_14)]) hx hb dJ6_bitCount_0f7a4_47 rfl hl (by decide) rfl (fun ls hl => ?_)
  refine lv_iload_n hx hb dJ6_bitCount_0f7a4_48 rfl (lv_at hl 0 rfl) ?_
  refine lv_bipush (v := 63) hx hb dJ6_bitCount_0f7a4_49 (by decide) ?_
  refine lv_iand hx hb dJ6_bitCount_0f7a4_51 ?_
  refine lv_topi (fun x_15 ex_15 => ?_)
  exact W.iret (v := x_15) hx hb hr (fun t ht hW => ⟨⟨x_15, (), rfl, (by rw [ex_15, ex_14, ex_13, ex_12, ex_11, ex_10, ex_9, ex_8, ex_7, ex_6, ex_5, ex_4, ex_3, ex_2, ex_1]; rfl), trivial⟩, hS.F ht⟩) hS.2.2 dJ6_bitCount_0f7a4_52


set_option maxHeartbeats 4000000 in
set_option maxRecDepth 100000 in
theorem y_count (l : Launch) (D : va_G) (k : Nat → ClassId) (st : Nat → Nat) (lo : Nat) (a : Nat → Nat) (rk : Nat) (lfa : Int32) (cc : Nat) (rz : Nat) (ro : Int32) (sd : Int32) (tz : Nat) (ta : Int32) (na : Int32) (fn : Int32) (fb : Int32) (p0 : Int32) (fr : Nat → Int32) (hrz : rz ≤ 24) (hro : ro = nI (rowN fr rz)) : CRi l D k st lo yX7_count cX7_count 2 (some .int) ({ frames := 1, cells := 0, slots := 0, locals := 20 }) [.ref (a 0), .int p0] [((a 0), .inr (7, (fX7 (a 1) (a 3) (a 19) (a 35) (a 40) (nI rk) lfa (a 53) (a 56) (a 63) (a 64) (a 68)))), ((a 53), .inr (4, (fX4 (a 54) (a 55) (nI cc) (nI rz) ro sd))), ((a 1), .inr (6, (fX6 (a 2) (nI tz) ta na fn fb)))] (fun r => cnP rk rz (cntN fr rz) cc tz p0 r) := by
  intro sz
  refine Met.ofW (cc := cX7_count) (maxL := 2) (ret := (some .int)) (by decide) rfl ?_
  intro p e s m args below meth c s₁ B hml hv
  obtain ⟨rfl, hsz, hlo, hP, hK, hDL, hZ⟩ := hv
  have hx := B.exec
  have hb := B.bytes
  have hr := B.returns
  have hts := WS_ts B.pre
  have hown : s.vm.findClass RX7 = some m.cls := findClass_of_methodNamed B.named
  have hlocks := B.notSynchronized
  subst hsz
  have hA : ∀ q : Nat, s.heap.size ≤ q → (fun q : Nat => s.heap.size ≤ q) q := fun _ h => h
  have hAlo : ∀ q : Nat, (fun q : Nat => s.heap.size ≤ q) q → lo ≤ q := fun q h => Nat.le_trans hlo h
  have hS : va_S (fun q : Nat => s.heap.size ≤ q) s.heap s.heap [] := va_S.rf
  have hl := lv_entry ([.ref (a 0), .int p0]) (n := 2) (Nat.le_of_ble_eq_true rfl)
  rw [lg_entry_eq]
  generalize (lg_sl ([.ref (a 0), .int p0]) ++ List.replicate (2 - (lg_sl ([.ref (a 0), .int p0])).length) Slot.unset).toArray = ls at hl ⊢
  have hl : lv_has ls 2 [(0, .ref (a 0)), (1, .int p0)] := hl
  refine lv_iload_n hx hb dX7_count_0 rfl (lv_at hl 1 rfl) ?_
  rcases sw5 p0 with rfl | rfl | rfl | rfl | rfl | hsw_1
  · refine lv_tableIn (tgt := 36) hx hb dX7_count_1 (by decide) (by decide) rfl (by decide) ?_
    refine lv_aload_n hx hb dX7_count_36 rfl (lv_at hl 0 rfl) ?_
    refine va_get (D := D) (ci := 7) (v := .int (nI rk)) (C := RX7) (T := TX7) (N := 12) hx hb hts inX7 hown hK hP 0 rfl rfl 5 (by decide) (hts _ tw_310) (fun _ h9 => h9) rfl dX7_count_37 ?_
    exact W.iret (v := (nI rk)) hx hb hr (fun t ht hW => ⟨⟨(nI rk), (), rfl, ⟨fun _ => rfl, fun h => absurd h (by decide), fun h => absurd h (by decide), fun h => absurd h (by decide), fun h => absurd h (by decide), fun h0 h1 h2 h3 h4 => absurd rfl h0⟩, trivial⟩, hS.F ht⟩) hS.2.2 dX7_count_40
  · refine lv_tableIn (tgt := 41) hx hb dX7_count_1 (by decide) (by decide) rfl (by decide) ?_
    refine lv_aload_n hx hb dX7_count_41 rfl (lv_at hl 0 rfl) ?_
    refine va_get (D := D) (ci := 7) (v := .ref (a 53)) (C := RX7) (T := TX7) (N := 12) hx hb hts inX7 hown hK hP 0 rfl rfl 7 (by decide) (hts _ tw_312) (fun _ h9 => h9) rfl dX7_count_42 ?_
    refine va_get (D := D) (ci := 4) (v := .int (nI rz)) (C := RX4) (T := TX4) (N := 6) hx hb hts inX4 hown hK hP 1 rfl rfl 3 (by decide) (hts _ tw_184) (fun _ h9 => h9) rfl dX7_count_45 ?_
    exact W.iret (v := (nI rz)) hx hb hr (fun t ht hW => ⟨⟨(nI rz), (), rfl, ⟨fun h => absurd h (by decide), fun _ => rfl, fun h => absurd h (by decide), fun h => absurd h (by decide), fun h => absurd h (by decide), fun h0 h1 h2 h3 h4 => absurd rfl h1⟩, trivial⟩, hS.F ht⟩) hS.2.2 dX7_count_48
  · refine lv_tableIn (tgt := 49) hx hb dX7_count_1 (by decide) (by decide) rfl (by decide) ?_
    refine lv_aload_n hx hb dX7_count_49 rfl (lv_at hl 0 rfl) ?_
    refine va_get (D := D) (ci := 7) (v := .ref (a 53)) (C := RX7) (T := TX7) (N := 12) hx hb hts inX7 hown hK hP 0 rfl rfl 7 (by decide) (hts _ tw_312) (fun _ h9 => h9) rfl dX7_count_50 ?_
    refine va_get (D := D) (ci := 4) (v := .int ro) (C := RX4) (T := TX4) (N := 6) hx hb hts inX4 hown hK hP 1 rfl rfl 4 (by decide) (hts _ tw_187) (fun _ h9 => h9) rfl dX7_count_53 ?_
    refine ro_i (D := D) (va_runS (As := [.int ro]) (rest := []) ⟨hx, hb, hml, hown, hts⟩ ((y_bitCount l D k st lo ro) s.heap.size) (va_cwS 1 hts (gS tw_945 tw_946 tw_94 tw_947) rfl rfl rfl (by decide +kernel) ⟨Nat.le_of_ble_eq_true rfl, Nat.le_of_ble_eq_true rfl⟩) (pS hS hAlo hlo hP hK hDL hZ [] (by decide) rfl) rfl rfl hl.1 rfl (lv_room (Nat.le_of_ble_eq_true rfl)) dX7_count_56 ⟨Nat.le_of_ble_eq_true rfl, Nat.le_of_ble_eq_true rfl⟩) hS hA hP (fun r_2 H locs hw_2 hP hS => ?_)
    try dsimp only at hw_2
    exact W.iret (v := r_2) hx hb hr (fun t ht hW => ⟨⟨r_2, (), rfl, ⟨fun h => absurd h (by decide), fun h => absurd h (by decide), fun _ => (hw_2.trans (by rw [hro, bc_I (rowN_24 hrz), bc_row hrz])), fun h => absurd h (by decide), fun h => absurd h (by decide), fun h0 h1 h2 h3 h4 => absurd rfl h2⟩, trivial⟩, hS.F ht⟩) hS.2.2 dX7_count_59
  · refine lv_tableIn (tgt := 60) hx hb dX7_count_1 (by decide) (by decide) rfl (by decide) ?_
    refine lv_aload_n hx hb dX7_count_60 rfl (lv_at hl 0 rfl) ?_
    refine va_get (D := D) (ci := 7) (v := .ref (a 53)) (C := RX7) (T := TX7) (N := 12) hx hb hts inX7 hown hK hP 0 rfl rfl 7 (by decide) (hts _ tw_312) (fun _ h9 => h9) rfl dX7_count_61 ?_
    refine va_get (D := D) (ci := 4) (v := .int (nI cc)) (C := RX4) (T := TX4) (N := 6) hx hb hts inX4 hown hK hP 1 rfl rfl 2 (by decide) (hts _ tw_180) (fun _ h9 => h9) rfl dX7_count_64 ?_
    exact W.iret (v := (nI cc)) hx hb hr (fun t ht hW => ⟨⟨(nI cc), (), rfl, ⟨fun h => absurd h (by decide), fun h => absurd h (by decide), fun h => absurd h (by decide), fun _ => rfl, fun h => absurd h (by decide), fun h0 h1 h2 h3 h4 => absurd rfl h3⟩, trivial⟩, hS.F ht⟩) hS.2.2 dX7_count_67
  · refine lv_tableIn (tgt := 68) hx hb dX7_count_1 (by decide) (by decide) rfl (by decide) ?_
    refine lv_aload_n hx hb dX7_count_68 rfl (lv_at hl 0 rfl) ?_
    refine va_get (D := D) (ci := 7) (v := .ref (a 1)) (C := RX7) (T := TX7) (N := 12) hx hb hts inX7 hown hK hP 0 rfl rfl 0 (by decide) (hts _ tw_305) (fun _ h9 => h9) rfl dX7_count_69 ?_
    refine va_get (D := D) (ci := 6) (v := .int (nI tz)) (C := RX6) (T := TX6) (N := 6) hx hb hts inX6 hown hK hP 2 rfl rfl 1 (by decide) (hts _ tw_111) (fun _ h9 => h9) rfl dX7_count_72 ?_
    exact W.iret (v := (nI tz)) hx hb hr (fun t ht hW => ⟨⟨(nI tz), (), rfl, ⟨fun h => absurd h (by decide), fun h => absurd h (by decide), fun h => absurd h (by decide), fun h => absurd h (by decide), fun _ => rfl, fun h0 h1 h2 h3 h4 => absurd rfl h4⟩, trivial⟩, hS.F ht⟩) hS.2.2 dX7_count_75
  · refine lv_tableOut (tgt := 76) hx hb dX7_count_1 hsw_1 (by decide) ?_
    refine lv_sipush (v := (-1002)) hx hb dX7_count_76 (by decide) ?_
    exact W.iret (v := (-1002)) hx hb hr (fun t ht hW => ⟨⟨(-1002), (), rfl, ⟨fun h => absurd hsw_1 (by rw [h]; decide), fun h => absurd hsw_1 (by rw [h]; decide), fun h => absurd hsw_1 (by rw [h]; decide), fun h => absurd hsw_1 (by rw [h]; decide), fun h => absurd hsw_1 (by rw [h]; decide), fun _ _ _ _ _ => rfl⟩, trivial⟩, hS.F ht⟩) hS.2.2 dX7_count_79


set_option maxHeartbeats 4000000 in
set_option maxRecDepth 100000 in
theorem n_count (l : Launch) (D : va_G) (k : Nat → ClassId) (st : Nat → Nat) (lo : Nat) (a : Nat → Nat) (tx : Nat) (t0 : Nat) (we : Nat) (rd : Nat) (ru : Nat) (rw : Nat) (ca : Nat) (fp : Int32) (wd : Int64) (nu : Int32) (na : Int32) (ts : Int32) (df : Int32) (db : Int32) (sd : Int32) (frow : Nat → Int32) (p0 : Int32) (hrw : rw ≤ 24) (hfr : ∀ i, i < 24 → frow i = 0 ∨ frow i = 1) : CRi l D k st lo yX8_count cX8_count 4 (some .int) ({ frames := 0, cells := 0, slots := 0, locals := 0 }) [.ref (a 0), .int p0] [((a 0), .inr (8, (fX8 a (nI tx) fp (nI t0) wd (nI we) nu na (nI rd) ts (nI ru) (nI rw) (nI ca) df db sd))), (aZ k (a 32) 24 frow)] (fun r => cnP ru rw (cntN frow rw) ca tx p0 r) := by
  intro sz
  refine Met.ofW (cc := cX8_count) (maxL := 4) (ret := (some .int)) (by decide) rfl ?_
  intro p e s m args below meth c s₁ B hml hv
  obtain ⟨rfl, hsz, hlo, hP, hK, hDL, hZ⟩ := hv
  have hx := B.exec
  have hb := B.bytes
  have hr := B.returns
  have hts := WS_ts B.pre
  have hown : s.vm.findClass RX8 = some m.cls := findClass_of_methodNamed B.named
  have hlocks := B.notSynchronized
  subst hsz
  have hA : ∀ q : Nat, s.heap.size ≤ q → (fun q : Nat => s.heap.size ≤ q) q := fun _ h => h
  have hAlo : ∀ q : Nat, (fun q : Nat => s.heap.size ≤ q) q → lo ≤ q := fun q h => Nat.le_trans hlo h
  have hS : va_S (fun q : Nat => s.heap.size ≤ q) s.heap s.heap [] := va_S.rf
  have hl := lv_entry ([.ref (a 0), .int p0]) (n := 4) (Nat.le_of_ble_eq_true rfl)
  rw [lg_entry_eq]
  generalize (lg_sl ([.ref (a 0), .int p0]) ++ List.replicate (4 - (lg_sl ([.ref (a 0), .int p0])).length) Slot.unset).toArray = ls at hl ⊢
  have hl : lv_has ls 4 [(0, .ref (a 0)), (1, .int p0)] := hl
  refine lv_iconst (v := 0) hx hb dX8_count_0 (by decide) ?_
  refine lv_istore_n (lv' := [(2, .int 0), (0, .ref (a 0)), (1, .int p0)]) hx hb dX8_count_1 rfl hl (by decide) rfl (fun ls hl => ?_)
  refine lv_iconst (v := 0) hx hb dX8_count_2 (by decide) ?_
  refine lv_istore_n (lv' := [(3, .int 0), (2, .int 0), (0, .ref (a 0)), (1, .int p0)]) hx hb dX8_count_3 rfl hl (by decide) rfl (fun ls hl => ?_)
  refine W_loop (σ := Nat × Nat) (fun (n_ : Nat) (x_ : Nat × Nat) (H : Heap) (locs : List Loc) (ls : Array Slot) => match x_ with | (ii_1, fc_1) => n_ = rw - ii_1 ∧ (ii_1 ≤ rw ∧ fc_1 = cntN frow ii_1) ∧ va_P D classes [((a 0), .inr (8, (fX8 a (nI tx) fp (nI t0) wd (nI we) nu na (nI rd) ts (nI ru) (nI rw) (nI ca) df db sd))), (aZ k (a 32) 24 frow)] H ∧ va_S (fun q : Nat => s.heap.size ≤ q) s.heap H locs ∧ lv_has ls 4 [(3, .int (nI ii_1)), (2, .int (nI fc_1)), (0, .ref (a 0)), (1, .int p0)]) (fun n_1 x_1 H locs ls hI ih_1 => ?_) _ (0, 0) ⟨rfl, ⟨by omega, rfl⟩, hP, hS, (lv_sub hl [0, 1, 2, 3] rfl)⟩
  obtain ⟨ii_1, fc_1⟩ := x_1
  obtain ⟨hm_1, hv_1, hP, hS, hl⟩ := hI
  subst hm_1
  refine lv_iload_n hx hb dX8_count_4 rfl (lv_at hl 0 rfl) ?_
  refine lv_aload_n hx hb dX8_count_5 rfl (lv_at hl 2 rfl) ?_
  refine va_get (D := D) (ci := 8) (v := .int (nI rw)) (C := RX8) (T := TX8) (N := 44) hx hb hts inX8 hown hK hP 0 rfl rfl 30 (by decide) (hts _ tw_1003) (fun _ h9 => h9) rfl dX8_count_6 ?_
  refine lv_icmp_ge (tgt := 35) hx hb dX8_count_9 (by decide) (fun c_2 => ?_) (fun c_2 => ?_)
  · have c_2 := (nI_leI (a := rw) (b := ii_1) (by omega) (by omega)).mp c_2
    refine lv_iload_n hx hb dX8_count_35 rfl (lv_at hl 3 rfl) ?_
    rcases sw5 p0 with rfl | rfl | rfl | rfl | rfl | hsw_3
    · refine lv_tableIn (tgt := 72) hx hb dX8_count_36 (by decide) (by decide) rfl (by decide) ?_
      refine lv_aload_n hx hb dX8_count_72 rfl (lv_at hl 2 rfl) ?_
      refine va_get (D := D) (ci := 8) (v := .int (nI ru)) (C := RX8) (T := TX8) (N := 44) hx hb hts inX8 hown hK hP 0 rfl rfl 23 (by decide) (hts _ tw_996) (fun _ h9 => h9) rfl dX8_count_73 ?_
      exact W.iret (v := (nI ru)) hx hb hr (fun t ht hW => ⟨⟨(nI ru), (), rfl, ⟨fun _ => rfl, fun h => absurd h (by decide), fun h => absurd h (by decide), fun h => absurd h (by decide), fun h => absurd h (by decide), fun h0 h1 h2 h3 h4 => absurd rfl h0⟩, trivial⟩, hS.F ht⟩) hS.2.2 dX8_count_76
    · refine lv_tableIn (tgt := 77) hx hb dX8_count_36 (by decide) (by decide) rfl (by decide) ?_
      refine lv_aload_n hx hb dX8_count_77 rfl (lv_at hl 2 rfl) ?_
      refine va_get (D := D) (ci := 8) (v := .int (nI rw)) (C := RX8) (T := TX8) (N := 44) hx hb hts inX8 hown hK hP 0 rfl rfl 30 (by decide) (hts _ tw_1003) (fun _ h9 => h9) rfl dX8_count_78 ?_
      exact W.iret (v := (nI rw)) hx hb hr (fun t ht hW => ⟨⟨(nI rw), (), rfl, ⟨fun h => absurd h (by decide), fun _ => rfl, fun h => absurd h (by decide), fun h => absurd h (by decide), fun h => absurd h (by decide), fun h0 h1 h2 h3 h4 => absurd rfl h1⟩, trivial⟩, hS.F ht⟩) hS.2.2 dX8_count_81
    · refine lv_tableIn (tgt := 82) hx hb dX8_count_36 (by decide) (by decide) rfl (by decide) ?_
      refine lv_iload_n hx hb dX8_count_82 rfl (lv_at hl 1 rfl) ?_
      exact W.iret (v := (nI fc_1)) hx hb hr (fun t ht hW => ⟨⟨(nI fc_1), (), rfl, ⟨fun h => absurd h (by decide), fun h => absurd h (by decide), fun _ => (congrArg nI (show fc_1 = cntN frow rw by rw [hv_1.2, show ii_1 = rw by omega])), fun h => absurd h (by decide), fun h => absurd h (by decide), fun h0 h1 h2 h3 h4 => absurd rfl h2⟩, trivial⟩, hS.F ht⟩) hS.2.2 dX8_count_83
    · refine lv_tableIn (tgt := 84) hx hb dX8_count_36 (by decide) (by decide) rfl (by decide) ?_
      refine lv_aload_n hx hb dX8_count_84 rfl (lv_at hl 2 rfl) ?_
      refine va_get (D := D) (ci := 8) (v := .int (nI ca)) (C := RX8) (T := TX8) (N := 44) hx hb hts inX8 hown hK hP 0 rfl rfl 34 (by decide) (hts _ tw_1007) (fun _ h9 => h9) rfl dX8_count_85 ?_
      exact W.iret (v := (nI ca)) hx hb hr (fun t ht hW => ⟨⟨(nI ca), (), rfl, ⟨fun h => absurd h (by decide), fun h => absurd h (by decide), fun h => absurd h (by decide), fun _ => rfl, fun h => absurd h (by decide), fun h0 h1 h2 h3 h4 => absurd rfl h3⟩, trivial⟩, hS.F ht⟩) hS.2.2 dX8_count_88
    · refine lv_tableIn (tgt := 89) hx hb dX8_count_36 (by decide) (by decide) rfl (by decide) ?_
      refine lv_aload_n hx hb dX8_count_89 rfl (lv_at hl 2 rfl) ?_
      refine va_get (D := D) (ci := 8) (v := .int (nI tx)) (C := RX8) (T := TX8) (N := 44) hx hb hts inX8 hown hK hP 0 rfl rfl 5 (by decide) (hts _ tw_978) (fun _ h9 => h9) rfl dX8_count_90 ?_
      exact W.iret (v := (nI tx)) hx hb hr (fun t ht hW => ⟨⟨(nI tx), (), rfl, ⟨fun h => absurd h (by decide), fun h => absurd h (by decide), fun h => absurd h (by decide), fun h => absurd h (by decide), fun _ => rfl, fun h0 h1 h2 h3 h4 => absurd rfl h4⟩, trivial⟩, hS.F ht⟩) hS.2.2 dX8_count_93
    · refine lv_tableOut (tgt := 94) hx hb dX8_count_36 hsw_3 (by decide) ?_
      refine lv_sipush (v := (-1002)) hx hb dX8_count_94 (by decide) ?_
      exact W.iret (v := (-1002)) hx hb hr (fun t ht hW => ⟨⟨(-1002), (), rfl, ⟨fun h => absurd hsw_3 (by rw [h]; decide), fun h => absurd hsw_3 (by rw [h]; decide), fun h => absurd hsw_3 (by rw [h]; decide), fun h => absurd hsw_3 (by rw [h]; decide), fun h => absurd hsw_3 (by rw [h]; decide), fun _ _ _ _ _ => rfl⟩, trivial⟩, hS.F ht⟩) hS.2.2 dX8_count_97
  · have c_2 : ¬ (rw ≤ ii_1) := fun h => c_2 ((nI_leI (a := rw) (b := ii_1) (by omega) (by omega)).mpr h)
    refine lv_iload_n hx hb dX8_count_12 rfl (lv_at hl 1 rfl) ?_
    refine lv_aload_n hx hb dX8_count_13 rfl (lv_at hl 2 rfl) ?_
    refine va_get (D := D) (ci := 8) (v := .ref (a 32)) (C := RX8) (T := TX8) (N := 44) hx hb hts inX8 hown hK hP 0 rfl rfl 31 (by decide) (hts _ tw_1004) (fun _ h9 => h9) rfl dX8_count_14 ?_
    refine lv_iload_n hx hb dX8_count_17 rfl (lv_at hl 0 rfl) ?_
    refine va_zald hx hb hK hP 1 2 rfl rfl (vp_in_nI (by omega) (by decide)) dX8_count_18 ?_
    refine lv_ti (y := (frow ii_1)) (by rw [nI_clamp (by omega)]) ?_
    refine lv_if_eq (tgt := 26) hx hb dX8_count_19 (by decide) (fun c_4 => ?_) (fun c_4 => ?_)
    · refine lv_iconst (v := 0) hx hb dX8_count_26 (by decide) ?_
      refine lv_iadd hx hb dX8_count_27 ?_
      refine lv_ti (y := (nI (fc_1 + 0))) (nI_add fc_1 0) ?_
      refine lv_istore_n (lv' := [(2, .int (nI (fc_1 + 0))), (3, .int (nI ii_1)), (0, .ref (a 0)), (1, .int p0)]) hx hb dX8_count_28 rfl hl (by decide) rfl (fun ls hl => ?_)
      refine lv_iinc (v := (nI (ii_1 + 1))) (lv' := [(3, .int (nI (ii_1 + 1))), (2, .int (nI (fc_1 + 0))), (0, .ref (a 0)), (1, .int p0)]) hx hb dX8_count_29 hl (k := 1) rfl (nI_add ii_1 1) (by decide) rfl (fun ls hl => ?_)
      refine lv_goto (tgt := 4) hx hb dX8_count_32 (by decide) ?_
      exact ih_1 _ (ii_1 + 1, fc_1 + 0) _ _ _ (by omega) ⟨rfl, ⟨by omega, (by show _ = cntN frow ii_1 + (if frow ii_1 = 1 then 1 else 0); rw [if_neg (by rw [c_4]; decide), ← hv_1.2])⟩, hP, hS, (lv_sub hl [0, 1, 2, 3] rfl)⟩
    · refine lv_iconst (v := 1) hx hb dX8_count_22 (by decide) ?_
      refine lv_goto (tgt := 27) hx hb dX8_count_23 (by decide) ?_
      refine lv_iadd hx hb dX8_count_27 ?_
      refine lv_ti (y := (nI (fc_1 + 1))) (nI_add fc_1 1) ?_
      refine lv_istore_n (lv' := [(2, .int (nI (fc_1 + 1))), (3, .int (nI ii_1)), (0, .ref (a 0)), (1, .int p0)]) hx hb dX8_count_28 rfl hl (by decide) rfl (fun ls hl => ?_)
      refine lv_iinc (v := (nI (ii_1 + 1))) (lv' := [(3, .int (nI (ii_1 + 1))), (2, .int (nI (fc_1 + 1))), (0, .ref (a 0)), (1, .int p0)]) hx hb dX8_count_29 hl (k := 1) rfl (nI_add ii_1 1) (by decide) rfl (fun ls hl => ?_)
      refine lv_goto (tgt := 4) hx hb dX8_count_32 (by decide) ?_
      exact ih_1 _ (ii_1 + 1, fc_1 + 1) _ _ _ (by omega) ⟨rfl, ⟨by omega, (by show _ = cntN frow ii_1 + (if frow ii_1 = 1 then 1 else 0); rw [if_pos ((hfr _ (by omega)).resolve_left c_4), ← hv_1.2])⟩, hP, hS, (lv_sub hl [0, 1, 2, 3] rfl)⟩

theorem f_glueP30 : True := trivial
theorem kp_nn {pz k a s a' s' a2 s2 : Int32} {w w' w2 : Nat → Int32} (h : kpX pz k a s w a' s' w' a2 s2 w2) (h1 : ¬ s < 0) (h2 : ¬ s2 < 0) : ¬ s' < 0 := by
  rcases Classical.em (pz = k) with c | c
  · rw [(h.1 c).2.1]
    exact h2
  · rw [(h.2 c).2.1]
    exact h1
theorem gb_nn {pz f0 f1 a0 s0 a1 s1 a s a' s' : Int32} {w0 w1 w w' : Nat → Int32} (h : gbX pz f0 f1 (a0, s0, w0) (a1, s1, w1) (a, s, w) (a', s', w')) (h0 : ¬ s0 < 0) (h1 : ¬ s1 < 0) (h2 : ¬ s < 0) : ¬ s' < 0 := by
  rcases Classical.em (pz = 0 ∧ ¬ f0 = 0) with c | c
  · rw [show s' = s0 from (h.1 c.1 c.2).2.1]
    exact h0
  · rcases Classical.em (pz = 1 ∧ ¬ f1 = 0) with d | d
    · rw [show s' = s1 from (h.2.1 d.1 d.2).2.1]
      exact h1
    · rw [show s' = s from (h.2.2 c d).2.1]
      exact h2
theorem sed_nn {p s r s' : Int32} (h : sedP p s r s') (hs : ¬ s < 0) : ¬ s' < 0 := by
  rcases Classical.em (p < 0) with c | c
  · rw [(h.1 c).2]
    exact hs
  · rw [(h.2 c).2]
    exact c
theorem gk_of {sd se : Nat → SDt} (e : ∀ i, i < 3 → sd i = se i) (h : ∀ i, i < 3 → 0 < (sd i).1 → okG (sd i).2.1) : ∀ i, i < 3 → 0 < (se i).1 → okG (se i).2.1 := by
  intro i hi hp
  rw [← e i hi] at hp ⊢
  exact h i hi hp
theorem okg_0 : ∀ i, i < 3 → 0 < (d3 zX zX zX i).1 → okG (d3 zX zX zX i).2.1 := by
  intro i _ h
  rw [z3] at h
  exact absurd h (Nat.lt_irrefl 0)

theorem f_glueP31 : True := trivial
/-! places: the first free door from a bar on, or the garage -/
def plF (n L : Nat) : Nat → Nat → Nat
  | 0, _ => n
  | k + 1, b => if L / 2 ^ b % 2 = 1 then b else plF n L k (b + 1)
def plc (n L b : Nat) : Nat := plF n L (n - b) b
theorem pl_out {n L b : Nat} (h : ¬ b < n) : plc n L b = n := by
  unfold plc
  rw [show n - b = 0 by omega]
  rfl
theorem pl_y {n L b : Nat} (h : b < n) (hb : L / 2 ^ b % 2 = 1) : plc n L b = b := by
  unfold plc
  rw [show n - b = (n - (b + 1)) + 1 by omega]
  exact if_pos hb
theorem pl_n {n L b : Nat} (h : b < n) (hb : ¬ L / 2 ^ b % 2 = 1) : plc n L b = plc n L (b + 1) := by
  unfold plc
  rw [show n - b = (n - (b + 1)) + 1 by omega]
  exact if_neg hb
theorem pl_all {n L : Nat} : ∀ k b, n - b = k → plc n L b ≤ n ∧ (plc n L b < n → b ≤ plc n L b ∧ L / 2 ^ plc n L b % 2 = 1) := by
  intro k
  induction k with
  | zero =>
    intro b h
    rw [pl_out (by omega)]
    exact ⟨Nat.le_refl n, fun h => absurd h (Nat.lt_irrefl n)⟩
  | succ k ih =>
    intro b h
    by_cases c : L / 2 ^ b % 2 = 1
    · rw [pl_y (by omega) c]
      exact ⟨by omega, fun _ => ⟨Nat.le_refl b, c⟩⟩
    · rw [pl_n (by omega) c]
      obtain ⟨h1, h2⟩ := ih (b + 1) (by omega)
      exact ⟨h1, fun q => ⟨by have := (h2 q).1; omega, (h2 q).2⟩⟩
theorem pl_le {n L b : Nat} : plc n L b ≤ n := (pl_all (n - b) b rfl).1
/-- a set without one of its doors -/
def rmv (L z : Nat) : Nat := L &&& (2 ^ 32 - (2 ^ z + 1))
theorem rmv_le {L z : Nat} : rmv L z ≤ L := Nat.and_le_left
theorem not24 : ∀ z, z < 25 → ((1 : Int32) <<< (nI z &&& 31)) ^^^ (-1) = nI (2 ^ 32 - (2 ^ z + 1)) := by decide +kernel
theorem rm_and {L z : Nat} (hz : z ≤ 24) : nI L &&& (((1 : Int32) <<< (nI z &&& 31)) ^^^ (-1)) = nI (rmv L z) := by
  rw [not24 z (by omega), nI_and]
  rfl
theorem rmv_n {L n : Nat} (hn : n ≤ 24) (h : L < 2 ^ n) : rmv L n = L := by
  apply Nat.eq_of_testBit_eq
  intro i
  unfold rmv
  have h2 : 2 ^ n < 2 ^ 32 := Nat.pow_lt_pow_right (by omega) (by omega)
  rw [Nat.testBit_and, Nat.testBit_two_pow_sub_succ h2, Nat.testBit_two_pow]
  rcases Nat.lt_or_ge i n with c | c
  · rw [decide_eq_true (show i < 32 by omega), decide_eq_false (show ¬ n = i by omega)]
    simp
  · rw [Nat.testBit_lt_two_pow (Nat.lt_of_lt_of_le h (Nat.pow_le_pow_right (n := 2) (by omega) c))]
    simp
def LF (n : Nat) (br : Nat → Nat) (S : Nat) : Nat → Nat
  | 0 => S
  | c + 1 => rmv (LF n br S c) (plc n (LF n br S c) (br c))
theorem LF_le {n S : Nat} {br : Nat → Nat} : ∀ c, LF n br S c ≤ S := by
  intro c
  induction c with
  | zero => exact Nat.le_refl S
  | succ c ih => exact Nat.le_trans rmv_le ih
theorem LF_congr {n S : Nat} {a b : Nat → Nat} : ∀ c, (∀ j, j < c → a j = b j) → LF n a S c = LF n b S c := by
  intro c
  induction c with
  | zero => intro _; rfl
  | succ c ih =>
    intro h
    show rmv (LF n a S c) (plc n (LF n a S c) (a c)) = rmv (LF n b S c) (plc n (LF n b S c) (b c))
    rw [ih (fun j hj => h j (by omega)), h c (by omega)]
/-! the best bar -/
def isBst (n : Nat) (C : Nat → Int32) (own b : Nat) : Prop := b ≤ n ∧ (∀ a, a ≤ n → C b ≤ C a) ∧ (b = own ∨ (C b < C own ∧ ∀ a, a < b → C b < C a))
theorem i_lle {a b : Int32} (h : a < b) (g : b ≤ a) : False := absurd g (Int32.not_le.mpr h)
theorem isBst_u {n own a b : Nat} {C : Nat → Int32} (ho : own ≤ n) (h : isBst n C own a) (g : isBst n C own b) : a = b := by
  obtain ⟨h1, h2, h3⟩ := h
  obtain ⟨g1, g2, g3⟩ := g
  rcases h3 with h3 | ⟨h3, h4⟩
  · rcases g3 with g3 | ⟨g3, g4⟩
    · rw [h3, g3]
    · rw [h3] at h2
      exact (i_lle g3 (h2 b g1)).elim
  · rcases g3 with g3 | ⟨g3, g4⟩
    · rw [g3] at g2
      exact (i_lle h3 (g2 a h1)).elim
    · rcases Nat.lt_trichotomy a b with c | c | c
      · exact (i_lle (g4 a c) (h2 b g1)).elim
      · exact c
      · exact (i_lle (h4 b c) (g2 a h1)).elim
def amF (C : Nat → Int32) : Nat → Nat
  | 0 => 0
  | k + 1 => if C (k + 1) < C (amF C k) then k + 1 else amF C k
theorem amF_all {C : Nat → Int32} : ∀ k, amF C k ≤ k ∧ (∀ a, a ≤ k → C (amF C k) ≤ C a) ∧ ∀ a, a < amF C k → C (amF C k) < C a := by
  intro k
  induction k with
  | zero =>
    refine ⟨Nat.le_refl 0, fun a ha => ?_, fun a ha => absurd ha (Nat.not_lt_zero a)⟩
    rw [show a = 0 by omega]
    exact Int32.le_refl _
  | succ k ih =>
    obtain ⟨h1, h2, h3⟩ := ih
    by_cases c : C (k + 1) < C (amF C k)
    · rw [show amF C (k + 1) = k + 1 from if_pos c]
      refine ⟨Nat.le_refl _, fun a ha => ?_, fun a ha => Int32.lt_of_lt_of_le c (h2 a (by omega))⟩
      rcases (show a = k + 1 ∨ a ≤ k by omega) with e | e
      · rw [e]
        exact Int32.le_refl _
      · exact Int32.le_of_lt (Int32.lt_of_lt_of_le c (h2 a e))
    · rw [show amF C (k + 1) = amF C k from if_neg c]
      refine ⟨by omega, fun a ha => ?_, h3⟩
      rcases (show a = k + 1 ∨ a ≤ k by omega) with e | e
      · rw [e]
        exact Int32.not_lt.mp c
      · exact h2 a e
def bsF (n : Nat) (C : Nat → Int32) (own : Nat) : Nat := if C (amF C n) < C own then amF C n else own
theorem bsF_is {n own : Nat} {C : Nat → Int32} (ho : own ≤ n) : isBst n C own (bsF n C own) := by
  obtain ⟨h1, h2, h3⟩ := amF_all (C := C) n
  unfold bsF
  by_cases c : C (amF C n) < C own
  · rw [if_pos c]
    exact ⟨h1, h2, .inr ⟨c, h3⟩⟩
  · rw [if_neg c]
    exact ⟨ho, fun a ha => Int32.le_trans (Int32.not_lt.mp c) (h2 a ha), .inl rfl⟩
theorem bsF_of {n own b : Nat} {C : Nat → Int32} (ho : own ≤ n) (h : isBst n C own b) : b = bsF n C own := isBst_u ho h (bsF_is ho)
theorem bsF_le {n own : Nat} {C : Nat → Int32} (ho : own ≤ n) : bsF n C own ≤ n := (bsF_is ho).1
theorem bsF_own {n own : Nat} {C : Nat → Int32} (ho : own ≤ n) : bsF n C own = own ↔ ∀ a, a ≤ n → C own ≤ C a := by
  constructor
  · intro h a ha
    have k := (bsF_is (C := C) ho).2.1 a ha
    rw [h] at k
    exact k
  · intro h
    exact (bsF_of ho ⟨ho, h, .inl rfl⟩).symm
theorem bsF_congr {n own : Nat} {C E : Nat → Int32} (ho : own ≤ n) (h : ∀ a, a ≤ n → C a = E a) : bsF n C own = bsF n E own := by
  obtain ⟨h1, h2, h3⟩ := bsF_is (C := C) ho
  refine bsF_of ho ⟨h1, fun a ha => ?_, ?_⟩
  · rw [← h _ h1, ← h a ha]
    exact h2 a ha
  · rcases h3 with e | ⟨e1, e2⟩
    · exact .inl e
    · refine .inr ⟨by rw [← h _ h1, ← h _ ho]; exact e1, fun a ha => ?_⟩
      rw [← h _ h1, ← h a (by omega)]
      exact e2 a ha
/-! at rest; turns; what all pay -/
def kb (n S : Nat) (K : Nat → Nat → Int32) (br : Nat → Nat) (c b : Nat) : Int32 := K c (plc n (LF n br S c) b)
def rsP (n cc S : Nat) (K : Nat → Nat → Int32) (br : Nat → Nat) : Prop := ∀ c, c < cc → ∀ a, a ≤ n → kb n S K br c (br c) ≤ kb n S K br c a
theorem kb_congr {n S c b : Nat} {K J : Nat → Nat → Int32} {x y : Nat → Nat} (hK : ∀ i, i ≤ n → K c i = J c i) (h : ∀ j, j < c → x j = y j) : kb n S K x c b = kb n S J y c b := by
  unfold kb
  rw [LF_congr c h, hK _ pl_le]
theorem rsP_congr {n cc S : Nat} {K J : Nat → Nat → Int32} {x y : Nat → Nat} (hK : ∀ c, c < cc → ∀ i, i ≤ n → K c i = J c i) (h : ∀ j, j < cc → x j = y j) (r : rsP n cc S K x) : rsP n cc S J y := by
  intro c hc a ha
  have k := r c hc a ha
  rw [kb_congr (hK c hc) (fun j hj => h j (by omega)), kb_congr (b := a) (hK c hc) (fun j hj => h j (by omega)), h c hc] at k
  exact k
def tnB (n S : Nat) (K : Nat → Nat → Int32) (br : Nat → Nat) : Nat → Nat → Nat
  | 0, j => br j
  | c + 1, j => if j = c then bsF n (kb n S K (tnB n S K br c) c) (tnB n S K br c c) else tnB n S K br c j
theorem tnB_hi {n S : Nat} {K : Nat → Nat → Int32} {br : Nat → Nat} : ∀ c j, c ≤ j → tnB n S K br c j = br j := by
  intro c
  induction c with
  | zero => intro j _; rfl
  | succ c ih =>
    intro j h
    show (if j = c then _ else tnB n S K br c j) = br j
    rw [if_neg (by omega)]
    exact ih j (by omega)
theorem tnB_le {n S : Nat} {K : Nat → Nat → Int32} {br : Nat → Nat} (h : ∀ j, j < 4 → br j ≤ n) : ∀ c, c ≤ 4 → ∀ j, j < 4 → tnB n S K br c j ≤ n := by
  intro c
  induction c with
  | zero => intro _ j hj; exact h j hj
  | succ c ih =>
    intro hc j hj
    show (if j = c then _ else tnB n S K br c j) ≤ n
    by_cases e : j = c
    · rw [if_pos e]
      exact bsF_le (ih (by omega) c (by omega))
    · rw [if_neg e]
      exact ih (by omega) j hj
def eq4 (a b : Nat → Nat) : Prop := ∀ j, j < 4 → a j = b j
theorem eq4_r (a : Nat → Nat) : eq4 a a := fun _ _ => rfl
theorem eq4_s {a b : Nat → Nat} (h : eq4 a b) : eq4 b a := fun j hj => (h j hj).symm
theorem eq4_t {a b c : Nat → Nat} (h : eq4 a b) (g : eq4 b c) : eq4 a c := fun j hj => (h j hj).trans (g j hj)
theorem tnB_congr {n S : Nat} {K J : Nat → Nat → Int32} {x y : Nat → Nat} (hx : ∀ j, j < 4 → x j ≤ n) (h : eq4 x y) : ∀ c, c ≤ 4 → (∀ k, k < c → ∀ i, i ≤ n → K k i = J k i) → eq4 (tnB n S K x c) (tnB n S J y c) := by
  intro c
  induction c with
  | zero => intro _ _; exact h
  | succ c ih =>
    intro hc hK j hj
    have e := ih (by omega) (fun k hk => hK k (by omega))
    show (if j = c then bsF n (kb n S K (tnB n S K x c) c) (tnB n S K x c c) else tnB n S K x c j) = (if j = c then bsF n (kb n S J (tnB n S J y c) c) (tnB n S J y c c) else tnB n S J y c j)
    by_cases q : j = c
    · rw [if_pos q, if_pos q, ← e c (by omega)]
      exact bsF_congr (tnB_le hx c (by omega) c (by omega)) (fun a ha => kb_congr (hK c (by omega)) (fun j hj => e j (by omega)))
    · rw [if_neg q, if_neg q]
      exact e j hj
/-- turn by turn, until a whole one changes none -/
def gtP (T : (Nat → Nat) → Nat → Nat) : Nat → (Nat → Nat) → (Nat → Nat) → Prop
  | 0, b, z => eq4 z b
  | k + 1, b, z => (eq4 (T b) b → eq4 z b) ∧ (¬ eq4 (T b) b → gtP T k (T b) z)
theorem gtP_fun {T U : (Nat → Nat) → Nat → Nat} {P : (Nat → Nat) → Prop} (hP : ∀ b, P b → P (T b)) (hT : ∀ a b, P a → eq4 a b → eq4 (T a) (U b)) : ∀ k a b z y, P a → eq4 a b → gtP T k a z → gtP U k b y → eq4 z y := by
  intro k
  induction k with
  | zero => intro a b z y _ h h1 h2; exact eq4_t h1 (eq4_t h (eq4_s h2))
  | succ k ih =>
    intro a b z y pa h h1 h2
    have e := hT a b pa h
    rcases Classical.em (eq4 (T a) a) with c | c
    · have c2 : eq4 (U b) b := eq4_t (eq4_s e) (eq4_t c h)
      exact eq4_t (h1.1 c) (eq4_t h (eq4_s (h2.1 c2)))
    · have c2 : ¬ eq4 (U b) b := fun q => c (eq4_t e (eq4_t q (eq4_s h)))
      exact ih _ _ _ _ (hP a pa) e (h1.2 c) (h2.2 c2)
theorem gtP_le {T : (Nat → Nat) → Nat → Nat} {P : (Nat → Nat) → Prop} (hP : ∀ b, P b → P (T b)) (hE : ∀ a b, P a → eq4 a b → P b) : ∀ k a z, P a → gtP T k a z → P z := by
  intro k
  induction k with
  | zero => intro a z pa h; exact hE a z pa (eq4_s h)
  | succ k ih =>
    intro a z pa h
    rcases Classical.em (eq4 (T a) a) with c | c
    · exact hE a z pa (eq4_s (h.1 c))
    · exact ih _ _ (hP a pa) (h.2 c)
def smF (n S : Nat) (K : Nat → Nat → Int32) (br : Nat → Nat) : Nat → Int32
  | 0 => 0
  | c + 1 => smF n S K br c + kb n S K br c (br c)
theorem smF_congr {n S : Nat} {K J : Nat → Nat → Int32} {x y : Nat → Nat} : ∀ c, (∀ k, k < c → ∀ i, i ≤ n → K k i = J k i) → (∀ j, j < c → x j = y j) → smF n S K x c = smF n S J y c := by
  intro c
  induction c with
  | zero => intro _ _; rfl
  | succ c ih =>
    intro hK h
    show smF n S K x c + kb n S K x c (x c) = smF n S J y c + kb n S J y c (y c)
    rw [ih (fun k hk => hK k (by omega)) (fun j hj => h j (by omega)), kb_congr (hK c (by omega)) (fun j hj => h j (by omega)), h c (by omega)]
/-! costs of places, of both sides -/
def pC (d : SDt) (w : Int32) (i : Nat) : Int32 := if i < d.1 then pTakeBy d w 0 i + nI i * pPass d else pGar d 0 + nI d.1 * pPass d
def pD (d : SDt) (w pd pe : Int32) (i : Nat) : Int32 := pC d w i + (if pd ≤ nI i ∧ i < d.1 then pe else 0)
def kx (pco : Nat → Int32) (pd pe : Int32) (n c i : Nat) : Int32 := pco (c * 25 + i) + (if pd ≤ nI i ∧ i < n then pe else 0)
theorem kx_y {pco : Nat → Int32} {pd pe : Int32} {n c i : Nat} (h : pd ≤ nI i) (g : i < n) : pco (c * 25 + i) + pe = kx pco pd pe n c i := by
  unfold kx
  rw [if_pos ⟨h, g⟩]
theorem kx_n {pco : Nat → Int32} {pd pe : Int32} {n c i : Nat} (h : ¬ (pd ≤ nI i ∧ i < n)) : pco (c * 25 + i) + 0 = kx pco pd pe n c i := by
  unfold kx
  rw [if_neg h]
/-- the class's way to the best bar: from the last one back -/
def bbI (n : Nat) (C : Nat → Int32) (q be : Nat) (le : Int32) : Prop := q ≤ be ∧ be ≤ n ∧ le = C be ∧ (∀ a, q ≤ a → a ≤ n → C be ≤ C a) ∧ ∀ a, q ≤ a → a < be → C be < C a
theorem bb_0 {n : Nat} {C : Nat → Int32} {le : Int32} (h : le = C n) : bbI n C n n le := by
  refine ⟨Nat.le_refl n, Nat.le_refl n, h, fun a h1 h2 => ?_, fun a h1 h2 => absurd h2 (by omega)⟩
  rw [show a = n by omega]
  exact Int32.le_refl _
theorem bb_y {n q be : Nat} {C : Nat → Int32} {le x : Int32} (h : bbI n C (q + 1) be le) (hx : x = C q) (c : x ≤ le) : bbI n C q q x := by
  obtain ⟨h1, h2, h3, h4, h5⟩ := h
  rw [hx, h3] at c
  refine ⟨Nat.le_refl q, by omega, hx, fun a a1 a2 => ?_, fun a a1 a2 => absurd a2 (by omega)⟩
  rcases (show a = q ∨ q + 1 ≤ a by omega) with e | e
  · rw [e]
    exact Int32.le_refl _
  · exact Int32.le_trans c (h4 a e a2)
theorem bb_n {n q be : Nat} {C : Nat → Int32} {le x : Int32} (h : bbI n C (q + 1) be le) (hx : x = C q) (c : le < x) : bbI n C q be le := by
  obtain ⟨h1, h2, h3, h4, h5⟩ := h
  rw [hx, h3] at c
  refine ⟨by omega, h2, h3, fun a a1 a2 => ?_, fun a a1 a2 => ?_⟩
  · rcases (show a = q ∨ q + 1 ≤ a by omega) with e | e
    · rw [e]
      exact Int32.le_of_lt c
    · exact h4 a e a2
  · rcases (show a = q ∨ q + 1 ≤ a by omega) with e | e
    · rw [e]
      exact c
    · exact h5 a e a2
theorem bb_own {n be own : Nat} {C : Nat → Int32} {le x : Int32} (h : bbI n C 0 be le) (ho : own ≤ n) (hx : x = C own) (c : x = le) : isBst n C own own := by
  obtain ⟨h1, h2, h3, h4, h5⟩ := h
  refine ⟨ho, fun a ha => ?_, .inl rfl⟩
  rw [← hx, c, h3]
  exact h4 a (Nat.zero_le a) ha
theorem bb_oth {n be own : Nat} {C : Nat → Int32} {le x : Int32} (h : bbI n C 0 be le) (ho : own ≤ n) (hx : x = C own) (c : ¬ x = le) : isBst n C own be := by
  obtain ⟨h1, h2, h3, h4, h5⟩ := h
  refine ⟨h2, fun a ha => h4 a (Nat.zero_le a) ha, .inr ⟨?_, fun a ha => h5 a (Nat.zero_le a) ha⟩⟩
  rcases Int32.lt_or_le (C be) (C own) with q | q
  · exact q
  · exact absurd (by rw [hx, h3]; exact Int32.le_antisymm q (h4 own (Nat.zero_le own) ho)) c
/-- the reference's way: from the first one on -/
def bmI (C : Nat → Int32) (own bb be : Nat) (le : Int32) : Prop := le = C be ∧ C be ≤ C own ∧ (∀ a, a < bb → C be ≤ C a) ∧ (be = own ∨ (be < bb ∧ C be < C own ∧ ∀ a, a < be → C be < C a))
theorem bm_0 {C : Nat → Int32} {own : Nat} {le : Int32} (h : le = C own) : bmI C own 0 own le := ⟨h, Int32.le_refl _, fun a ha => absurd ha (Nat.not_lt_zero a), .inl rfl⟩
theorem bm_y {C : Nat → Int32} {own bb be : Nat} {le x : Int32} (h : bmI C own bb be le) (hx : x = C bb) (c : x < le) : bmI C own (bb + 1) bb x := by
  obtain ⟨h1, h2, h3, h4⟩ := h
  rw [hx, h1] at c
  refine ⟨hx, Int32.le_of_lt (Int32.lt_of_lt_of_le c h2), fun a ha => ?_, .inr ⟨by omega, Int32.lt_of_lt_of_le c h2, fun a ha => Int32.lt_of_lt_of_le c (h3 a ha)⟩⟩
  rcases (show a = bb ∨ a < bb by omega) with e | e
  · rw [e]
    exact Int32.le_refl _
  · exact Int32.le_of_lt (Int32.lt_of_lt_of_le c (h3 a e))
theorem bm_n {C : Nat → Int32} {own bb be : Nat} {le x : Int32} (h : bmI C own bb be le) (hx : x = C bb) (c : le ≤ x) : bmI C own (bb + 1) be le := by
  obtain ⟨h1, h2, h3, h4⟩ := h
  rw [hx, h1] at c
  refine ⟨h1, h2, fun a ha => ?_, h4.imp id (fun q => ⟨by omega, q.2⟩)⟩
  rcases (show a = bb ∨ a < bb by omega) with e | e
  · rw [e]
    exact c
  · exact h3 a e
theorem bm_e {C : Nat → Int32} {own n be : Nat} {le : Int32} (h : bmI C own (n + 1) be le) (ho : own ≤ n) : isBst n C own be := by
  obtain ⟨h1, h2, h3, h4⟩ := h
  rcases h4 with e | ⟨e1, e2, e3⟩
  · exact ⟨by omega, fun a ha => h3 a (by omega), .inl e⟩
  · exact ⟨by omega, fun a ha => h3 a (by omega), .inr ⟨e2, e3⟩⟩
/-- at rest, car by car -/
theorem rs_of {n S c own b : Nat} {C : Nat → Int32} (ho : own ≤ n) (hb : b = bsF n C own) : (¬ C b < C own) ↔ ∀ a, a ≤ n → C own ≤ C a := by
  have h := bsF_is (C := C) ho
  rw [← hb] at h
  constructor
  · intro q a ha
    exact Int32.le_trans (Int32.not_lt.mp q) (h.2.1 a ha)
  · intro q z
    exact i_lle z (q b h.1)
theorem rsx {n S c lf zb : Nat} {K : Nat → Nat → Int32} {br : Nat → Nat} {r1 r2 : Int32} (hl : lf = LF n br S c) (ho : br c ≤ n) (hz : zb = bsF n (fun b => K c (plc n lf b)) (br c)) (h1 : r1 = K c (plc n lf zb)) (h2 : r2 = K c (plc n lf (br c))) : (¬ r1 < r2) ↔ ∀ a, a ≤ n → kb n S K br c (br c) ≤ kb n S K br c a := by
  subst hl
  rw [h1, h2]
  exact rs_of (S := S) (c := c) (C := fun b => K c (plc n (LF n br S c) b)) ho hz
theorem tn_step {n S c lf zb : Nat} {K : Nat → Nat → Int32} {x b2 b3 : Nat → Nat} (hc : c < 4) (he : eq4 b2 (tnB n S K x c)) (hl : lf = LF n b2 S c) (hz : zb = bsF n (fun b => K c (plc n lf b)) (b2 c)) (h3 : ∀ j, b3 j = if j = c then zb else b2 j) : eq4 b3 (tnB n S K x (c + 1)) ∧ rmv lf (plc n lf (b3 c)) = LF n b3 S (c + 1) := by
  have e1 : LF n b3 S c = LF n b2 S c := LF_congr c (fun j hj => by rw [h3 j, if_neg (by omega)])
  have e2 : LF n (tnB n S K x c) S c = LF n b2 S c := LF_congr c (fun j hj => (he j (by omega)).symm)
  constructor
  · intro j hj
    show b3 j = if j = c then bsF n (kb n S K (tnB n S K x c) c) (tnB n S K x c c) else tnB n S K x c j
    rw [h3 j]
    by_cases q : j = c
    · rw [if_pos q, if_pos q, hz, hl, ← he c hc]
      unfold kb
      rw [e2]
    · rw [if_neg q, if_neg q]
      exact he j hj
  · show rmv lf (plc n lf (b3 c)) = rmv (LF n b3 S c) (plc n (LF n b3 S c) (b3 c))
    rw [e1, hl]
theorem tn_at {n S c lf zb : Nat} {K : Nat → Nat → Int32} {x b2 b3 : Nat → Nat} (hc : c < 4) (h : eq4 b3 (tnB n S K x (c + 1))) (h3 : ∀ j, b3 j = if j = c then zb else b2 j) : tnB n S K x (c + 1) c = zb := by
  rw [← h c hc, h3 c, if_pos rfl]
theorem tn_lo {n S c j : Nat} {K : Nat → Nat → Int32} {x : Nat → Nat} (h : j < c) : tnB n S K x (c + 1) j = tnB n S K x c j := if_neg (by omega)
def chP (n S : Nat) (K : Nat → Nat → Int32) (x : Nat → Nat) (c : Nat) (ch : Int32) : Prop := (ch = 1 ∧ ∃ j, j < c ∧ ¬ tnB n S K x c j = x j) ∨ (ch = 0 ∧ ∀ j, j < c → tnB n S K x c j = x j)
theorem ch_st {n S c zb : Nat} {K : Nat → Nat → Int32} {x b2 : Nat → Nat} {ch : Int32} (hc : c < 4) (he : eq4 b2 (tnB n S K x c)) (ht : tnB n S K x (c + 1) c = zb) (h : chP n S K x c ch) : (zb = b2 c → chP n S K x (c + 1) ch) ∧ (¬ zb = b2 c → chP n S K x (c + 1) 1) := by
  have e0 : b2 c = x c := (he c hc).trans (tnB_hi c c (Nat.le_refl c))
  refine ⟨fun q => ?_, fun q => .inl ⟨rfl, c, by omega, by rw [ht, ← e0]; exact q⟩⟩
  rcases h with ⟨h1, j, h2, h3⟩ | ⟨h1, h2⟩
  · exact .inl ⟨h1, j, by omega, by rw [tn_lo h2]; exact h3⟩
  · refine .inr ⟨h1, fun j hj => ?_⟩
    rcases (show j = c ∨ j < c by omega) with e | e
    · rw [e, ht, q, e0]
    · rw [tn_lo e]
      exact h2 j e
theorem ch_end {n S cc : Nat} {K : Nat → Nat → Int32} {x : Nat → Nat} {ch : Int32} (hc : cc ≤ 4) (h : chP n S K x cc ch) : (ch = 1 ∧ ¬ eq4 (tnB n S K x cc) x) ∨ (ch = 0 ∧ eq4 (tnB n S K x cc) x) := by
  rcases h with ⟨h1, j, h2, h3⟩ | ⟨h1, h2⟩
  · exact .inl ⟨h1, fun q => h3 (q j (by omega))⟩
  · refine .inr ⟨h1, fun j hj => ?_⟩
    rcases Nat.lt_or_ge j cc with e | e
    · exact h2 j e
    · exact tnB_hi cc j e
def le4 (n : Nat) (b : Nat → Nat) : Prop := ∀ j, j < 4 → b j ≤ n
theorem le4_e {n : Nat} {a b : Nat → Nat} (h : le4 n a) (e : eq4 a b) : le4 n b := fun j hj => by rw [← e j hj]; exact h j hj
def tnT (n S : Nat) (K : Nat → Nat → Int32) (cc : Nat) : (Nat → Nat) → Nat → Nat := fun b => tnB n S K b cc
theorem tnT_le {n S cc : Nat} {K : Nat → Nat → Int32} (hc : cc ≤ 4) : ∀ b, le4 n b → le4 n (tnT n S K cc b) := fun b h => tnB_le h cc hc
theorem tnT_e {n S cc : Nat} {K J : Nat → Nat → Int32} (hc : cc ≤ 4) (hK : ∀ k, k < cc → ∀ i, i ≤ n → K k i = J k i) : ∀ a b, le4 n a → eq4 a b → eq4 (tnT n S K cc a) (tnT n S J cc b) := fun _ _ h e => tnB_congr h e cc hc hK
theorem gtP_e {T : (Nat → Nat) → Nat → Nat} {P : (Nat → Nat) → Prop} (hP : ∀ b, P b → P (T b)) (hT : ∀ a b, P a → eq4 a b → eq4 (T a) (T b)) : ∀ k a b z, P a → eq4 a b → gtP T k a z → gtP T k b z := by
  intro k
  induction k with
  | zero => intro a b z _ e h; exact eq4_t h e
  | succ k ih =>
    intro a b z pa e h
    have et := hT a b pa e
    refine ⟨fun q => eq4_t (h.1 (eq4_t et (eq4_t q (eq4_s e)))) e, fun q => ih _ _ _ (hP a pa) et (h.2 (fun w => q (eq4_t (eq4_s et) (eq4_t w e))))⟩
theorem gt_stop {T : (Nat → Nat) → Nat → Nat} {k : Nat} {b z : Nat → Nat} (h : eq4 (T b) b) (e : eq4 z (T b)) : gtP T (k + 1) b z := ⟨fun _ => eq4_t e h, fun q => absurd h q⟩
theorem gt_more {T : (Nat → Nat) → Nat → Nat} {P : (Nat → Nat) → Prop} {k : Nat} {b y z : Nat → Nat} (hP : ∀ b, P b → P (T b)) (hT : ∀ a b, P a → eq4 a b → eq4 (T a) (T b)) (pb : P b) (py : P y) (h : ¬ eq4 (T b) b) (e : eq4 y (T b)) (g : gtP T k y z) : gtP T (k + 1) b z := ⟨fun q => absurd q h, fun _ => gtP_e hP hT k y (T b) z py e g⟩
/-! all bars at rest: how many -/
def vc (a b : Nat) : Nat → Nat := fun j => if j = 0 then a else if j = 1 then b else 0
noncomputable def rsB (P : Prop) : Nat := @ite Nat P (Classical.propDecidable P) 1 0
theorem rsB_1 {P : Prop} (h : P) : rsB P = 1 := by
  unfold rsB
  exact if_pos h
theorem rsB_0 {P : Prop} (h : ¬ P) : rsB P = 0 := by
  unfold rsB
  exact if_neg h
def crI (f : Nat → Nat) : Nat → Nat
  | 0 => 0
  | k + 1 => crI f k + f k
def crO (f : Nat → Nat → Nat) (B : Nat) : Nat → Nat
  | 0 => 0
  | k + 1 => crO f B k + crI (f k) B
noncomputable def rsA (n cc S : Nat) (K : Nat → Nat → Int32) (a b : Nat) : Nat := rsB (rsP n cc S K (vc a b))
theorem rsA_congr {n cc S : Nat} {K J : Nat → Nat → Int32} (hK : ∀ c, c < cc → ∀ i, i ≤ n → K c i = J c i) : rsA n cc S K = rsA n cc S J := by
  funext a b
  unfold rsA
  rcases Classical.em (rsP n cc S K (vc a b)) with h | h
  · rw [rsB_1 h, rsB_1 (rsP_congr hK (fun _ _ => rfl) h)]
  · rw [rsB_0 h, rsB_0 (fun q => h (rsP_congr (fun c hc i hi => (hK c hc i hi).symm) (fun _ _ => rfl) q))]
/-! the price that mends -/
def meF (AL : Nat → Int32) : Nat → Int32 × Nat
  | 0 => (0, 0)
  | p + 1 => if p = 0 ∨ AL p < (meF AL p).1 then (AL p, p) else meF AL p
theorem meF_congr {f g : Nat → Int32} : ∀ k, (∀ q, q < k → f q = g q) → meF f k = meF g k := by
  intro k
  induction k with
  | zero => intro _; rfl
  | succ k ih =>
    intro h
    show (if k = 0 ∨ f k < (meF f k).1 then (f k, k) else meF f k) = (if k = 0 ∨ g k < (meF g k).1 then (g k, k) else meF g k)
    rw [ih (fun q hq => h q (by omega)), h k (by omega)]
def alP (n S cc : Nat) (K K0 : Nat → Nat → Int32) (x : Int32) : Prop := ∃ z, gtP (tnT n S K cc) 50 (fun _ => 0) z ∧ x = smF n S K0 z cc
theorem alP_fun {n S cc : Nat} {K K0 J J0 : Nat → Nat → Int32} {x y : Int32} (hc : cc ≤ 4) (hK : ∀ k, k < cc → ∀ i, i ≤ n → K k i = J k i) (h0 : ∀ k, k < cc → ∀ i, i ≤ n → K0 k i = J0 k i) (h : alP n S cc K K0 x) (g : alP n S cc J J0 y) : x = y := by
  obtain ⟨z, h1, h2⟩ := h
  obtain ⟨w, g1, g2⟩ := g
  have e := gtP_fun (tnT_le hc) (tnT_e (K := K) (J := J) hc hK) 50 (fun _ => 0) (fun _ => 0) z w (fun _ _ => Nat.zero_le n) (eq4_r _) h1 g1
  rw [h2, g2]
  exact smF_congr cc h0 (fun j hj => e j (by omega))
def mdP (n S cc : Nat) (K : Nat → Nat → Nat → Int32) (K0 : Nat → Nat → Int32) (r : Int32) : Prop := ∃ AL : Nat → Int32, (∀ q, q < 21 → alP n S cc (K q) K0 (AL q)) ∧ r = nI (meF AL 21).2
theorem mdP_fun {n S cc : Nat} {K J : Nat → Nat → Nat → Int32} {K0 J0 : Nat → Nat → Int32} {x y : Int32} (hc : cc ≤ 4) (hK : ∀ q, q < 21 → ∀ k, k < cc → ∀ i, i ≤ n → K q k i = J q k i) (h0 : ∀ k, k < cc → ∀ i, i ≤ n → K0 k i = J0 k i) (h : mdP n S cc K K0 x) (g : mdP n S cc J J0 y) : x = y := by
  obtain ⟨f, h1, h2⟩ := h
  obtain ⟨f', g1, g2⟩ := g
  rw [h2, g2, meF_congr 21 (fun q hq => alP_fun hc (hK q hq) h0 (h1 q hq) (g1 q hq))]
def mdI (n S cc : Nat) (K : Nat → Nat → Nat → Int32) (K0 : Nat → Nat → Int32) (p : Nat) (le : Int32) (me : Nat) : Prop := ∃ AL : Nat → Int32, (∀ q, q < p → alP n S cc (K q) K0 (AL q)) ∧ (le, me) = meF AL p
theorem md_0 {n S cc : Nat} {K : Nat → Nat → Nat → Int32} {K0 : Nat → Nat → Int32} : mdI n S cc K K0 0 0 0 := ⟨fun _ => 0, fun q hq => absurd hq (Nat.not_lt_zero q), rfl⟩
theorem md_ext {n S cc p : Nat} {K : Nat → Nat → Nat → Int32} {K0 : Nat → Nat → Int32} {le x : Int32} {me : Nat} (h : mdI n S cc K K0 p le me) (hx : alP n S cc (K p) K0 x) : ∃ AL : Nat → Int32, (∀ q, q < p + 1 → alP n S cc (K q) K0 (AL q)) ∧ (le, me) = meF AL p ∧ AL p = x := by
  obtain ⟨f, h1, h2⟩ := h
  refine ⟨fun q => if q = p then x else f q, fun q hq => ?_, ?_, if_pos rfl⟩
  · by_cases e : q = p
    · show alP n S cc (K q) K0 (if q = p then x else f q)
      rw [if_pos e, e]
      exact hx
    · show alP n S cc (K q) K0 (if q = p then x else f q)
      rw [if_neg e]
      exact h1 q (by omega)
  · rw [h2]
    exact meF_congr p (fun q hq => (if_neg (show ¬ q = p by omega)).symm)
theorem md_y {n S cc p : Nat} {K : Nat → Nat → Nat → Int32} {K0 : Nat → Nat → Int32} {le x : Int32} {me : Nat} (h : mdI n S cc K K0 p le me) (hx : alP n S cc (K p) K0 x) (c : p = 0 ∨ x < le) : mdI n S cc K K0 (p + 1) x p := by
  obtain ⟨f, h1, h2, h3⟩ := md_ext h hx
  refine ⟨f, h1, ?_⟩
  show (x, p) = if p = 0 ∨ f p < (meF f p).1 then (f p, p) else meF f p
  rw [if_pos (by rw [← h2, h3]; exact c), h3]
theorem md_n {n S cc p : Nat} {K : Nat → Nat → Nat → Int32} {K0 : Nat → Nat → Int32} {le x : Int32} {me : Nat} (h : mdI n S cc K K0 p le me) (hx : alP n S cc (K p) K0 x) (c0 : ¬ p = 0) (c : le ≤ x) : mdI n S cc K K0 (p + 1) le me := by
  obtain ⟨f, h1, h2, h3⟩ := md_ext h hx
  refine ⟨f, h1, ?_⟩
  show (le, me) = if p = 0 ∨ f p < (meF f p).1 then (f p, p) else meF f p
  rw [if_neg (by rw [← h2, h3]; exact fun q => q.elim c0 (fun q => absurd c (Int32.not_le.mpr q))), h2]
theorem md_e {n S cc : Nat} {K : Nat → Nat → Nat → Int32} {K0 : Nat → Nat → Int32} {le : Int32} {me : Nat} (h : mdI n S cc K K0 21 le me) : mdP n S cc K K0 (nI me) := by
  obtain ⟨f, h1, h2⟩ := h
  exact ⟨f, h1, by rw [← h2]⟩
def crM (t cc n : Nat) : Nat := if t < cc then n else 0
theorem pC_i {d : SDt} {w : Int32} {i : Nat} (h : i < d.1) : pTakeBy d w 0 i + nI i * pPass d = pC d w i := (if_pos h).symm
theorem pC_n {d : SDt} {w : Int32} : pGar d 0 + nI d.1 * pPass d = pC d w d.1 := (if_neg (Nat.lt_irrefl _)).symm
theorem kx_D {d : SDt} {w : Nat → Int32} {pco : Nat → Int32} {pd pe : Int32} {n cc : Nat} (hn : d.1 = n) (h : ∀ k, k < cc → ∀ i, i ≤ n → pco (k * 25 + i) = pC d (w k) i) : ∀ k, k < cc → ∀ i, i ≤ n → kx pco pd pe n k i = pD d (w k) pd pe i := by
  intro k hk i hi
  unfold kx pD
  rw [h k hk i hi, hn]
/-! answers: all bars at rest, the price that mends -/
def stO (d : SDt) (p1 : Int32) : Prop := ∃ S : Nat, S < 2 ^ d.1 ∧ p1 = nI S
def arA (p1 : Int32) (cc : Nat) (w : Nat → Int32) (d : SDt) (r : Int32) : Prop := (¬ stO d p1 → r = -1002) ∧ ∀ S : Nat, S < 2 ^ d.1 → p1 = nI S → (2 < cc → r = -1003) ∧ (¬ 2 < cc → r = nI (crO (rsA d.1 cc S (fun c i => pD d (w c) 0 0 i)) (crM 1 cc d.1 + 1) (crM 0 cc d.1 + 1)))
theorem arA_fun {p1 : Int32} {cc : Nat} {w v : Nat → Int32} (d : SDt) (x y : Int32) (hw : ∀ c, c < 4 → w c = v c) (h : arA p1 cc w d x) (g : arA p1 cc v d y) : x = y := by
  rcases Classical.em (stO d p1) with ⟨S, h1, h2⟩ | c
  · rcases Classical.em (2 < cc) with q | q
    · exact ((h.2 S h1 h2).1 q).trans ((g.2 S h1 h2).1 q).symm
    · rw [(h.2 S h1 h2).2 q, (g.2 S h1 h2).2 q, rsA_congr (J := fun c i => pD d (v c) 0 0 i) (fun c hc i hi => by show pD d (w c) 0 0 i = pD d (v c) 0 0 i; rw [hw c (by omega)])]
  · exact (h.1 c).trans (g.1 c).symm
theorem ar_o {p1 : Int32} {cc : Nat} {w : Nat → Int32} {d : SDt} (h : ¬ stO d p1) : arA p1 cc w d (-1002) := ⟨fun _ => rfl, fun S h1 h2 => absurd ⟨S, h1, h2⟩ h⟩
theorem ar_n {S cc : Nat} {w : Nat → Int32} {d : SDt} (h : S < 2 ^ d.1) (hc : 2 < cc) : arA (nI S) cc w d (-1003) := ⟨fun q => absurd ⟨S, h, rfl⟩ q, fun _ _ _ => ⟨fun _ => rfl, fun q => absurd hc q⟩⟩
theorem pw31 {n : Nat} (h : n ≤ 24) : 2 ^ n ≤ 16777216 := Nat.pow_le_pow_right (n := 2) (by omega) h
theorem ar_i {S cc n : Nat} {w pco : Nat → Int32} {d : SDt} {r : Int32} (hn : d.1 = n) (h24 : n ≤ 24) (h : S < 2 ^ n) (hc : ¬ 2 < cc) (hp : ∀ k, k < cc → ∀ i, i ≤ n → pco (k * 25 + i) = pC d (w k) i) (hr : r = nI (crO (rsA n cc S (kx pco 0 0 n)) (crM 1 cc n + 1) (crM 0 cc n + 1))) : arA (nI S) cc w d r := by
  have hb := pw31 h24
  refine ⟨fun q => absurd ⟨S, by rw [hn]; exact h, rfl⟩ q, fun T h1 h2 => ⟨fun q => absurd q hc, fun _ => ?_⟩⟩
  rw [hn] at h1
  have e := nI_inj (by omega) (by omega) h2
  subst e
  rw [hr, hn, rsA_congr (J := fun c i => pD d (w c) 0 0 i) (kx_D hn hp)]
theorem gtP_tr {T U : (Nat → Nat) → Nat → Nat} {P : (Nat → Nat) → Prop} (hP : ∀ b, P b → P (T b)) (hT : ∀ a b, P a → eq4 a b → eq4 (T a) (U b)) : ∀ k a b z, P a → eq4 a b → gtP T k a z → gtP U k b z := by
  intro k
  induction k with
  | zero => intro a b z _ e h; exact eq4_t h e
  | succ k ih =>
    intro a b z pa e h
    have et := hT a b pa e
    refine ⟨fun q => eq4_t (h.1 (eq4_t et (eq4_t q (eq4_s e)))) e, fun q => ih _ _ _ (hP a pa) et (h.2 (fun w => q (eq4_t (eq4_s et) (eq4_t w e))))⟩
theorem mdP_tr {n S cc : Nat} {K J : Nat → Nat → Nat → Int32} {K0 J0 : Nat → Nat → Int32} {x : Int32} (hc : cc ≤ 4) (hK : ∀ q, q < 21 → ∀ k, k < cc → ∀ i, i ≤ n → K q k i = J q k i) (h0 : ∀ k, k < cc → ∀ i, i ≤ n → K0 k i = J0 k i) (h : mdP n S cc K K0 x) : mdP n S cc J J0 x := by
  obtain ⟨f, h1, h2⟩ := h
  refine ⟨f, fun q hq => ?_, h2⟩
  obtain ⟨z, z1, z2⟩ := h1 q hq
  exact ⟨z, gtP_tr (tnT_le hc) (tnT_e hc (hK q hq)) 50 _ _ z (fun _ _ => Nat.zero_le n) (eq4_r _) z1, z2.trans (smF_congr cc h0 (fun _ _ => rfl))⟩
def mdA (p1 : Int32) (cc : Nat) (w : Nat → Int32) (d : SDt) (x : Nat) (r : Int32) : Prop := (¬ stO d p1 → r = -1002) ∧ ∀ S : Nat, S < 2 ^ d.1 → p1 = nI S → mdP d.1 S cc (fun q c i => pD d (w c) (nI x) (nI (10 * q * 1000)) i) (fun c i => pC d (w c) i) r
theorem mdA_fun {p1 : Int32} {cc : Nat} {w v : Nat → Int32} (hc : cc ≤ 4) (hw : ∀ c, c < 4 → w c = v c) (d : SDt) (i : Nat) (x y : Int32) (h : mdA p1 cc w d i x) (g : mdA p1 cc v d i y) : x = y := by
  rcases Classical.em (stO d p1) with ⟨S, h1, h2⟩ | c
  · exact mdP_fun hc (fun q _ k hk i hi => by rw [hw k (by omega)]) (fun k hk i hi => by rw [hw k (by omega)]) (h.2 S h1 h2) (g.2 S h1 h2)
  · exact (h.1 c).trans (g.1 c).symm
theorem md_o {p1 : Int32} {cc x : Nat} {w : Nat → Int32} {d : SDt} (h : ¬ stO d p1) : mdA p1 cc w d x (-1002) := ⟨fun _ => rfl, fun S h1 h2 => absurd ⟨S, h1, h2⟩ h⟩
theorem md_i {S cc n x : Nat} {w pco : Nat → Int32} {d : SDt} {r : Int32} (hn : d.1 = n) (h24 : n ≤ 24) (hc : cc ≤ 4) (h : S < 2 ^ n) (hp : ∀ k, k < cc → ∀ i, i ≤ n → pco (k * 25 + i) = pC d (w k) i) (hr : mdP n S cc (fun q => kx pco (nI x) (nI (10 * q * 1000)) n) (fun c i => pco (c * 25 + i)) r) : mdA (nI S) cc w d x r := by
  have hb := pw31 h24
  refine ⟨fun q => absurd ⟨S, by rw [hn]; exact h, rfl⟩ q, fun T h1 h2 => ?_⟩
  rw [hn] at h1 ⊢
  have e := nI_inj (by omega) (by omega) h2
  subst e
  exact mdP_tr hc (fun q _ => kx_D hn hp) hp hr
theorem shl25 : ∀ k, k < 25 → (1 : Int32) <<< (nI k &&& 31) = nI (2 ^ k) := by decide


set_option maxHeartbeats 4000000 in
set_option maxRecDepth 100000 in
theorem y_costAt (l : Launch) (D : va_G) (k : Nat → ClassId) (st : Nat → Nat) (lo : Nat) (c0 : Nat) (z0 : Nat) (z1 : Nat) (z2 : Nat) (z3 : Nat) (pn : Nat) (pf : Nat) (pd : Int32) (pe : Int32) (pco : Nat → Int32) (cn : Nat) (pq : Nat) (hcn : cn < 4) (hpq : pq ≤ 24) : CRi l D k st lo yX1_costAt cX1_costAt 3 (some .int) ({ frames := 0, cells := 0, slots := 0, locals := 0 }) [.ref z0, .int (nI cn), .int (nI pq)] [(z0, .inr (1, (fX1 c0 z1 z2 z3 (nI pn) (nI pf) pd pe))), (aI k z2 100 pco)] (fun r => r = pco (cn * 25 + pq)) := by
  intro sz
  refine Met.ofW (cc := cX1_costAt) (maxL := 3) (ret := (some .int)) (by decide) rfl ?_
  intro p e s m args below meth c s₁ B hml hv
  obtain ⟨rfl, hsz, hlo, hP, hK, hDL, hZ⟩ := hv
  have hx := B.exec
  have hb := B.bytes
  have hr := B.returns
  have hts := WS_ts B.pre
  have hown : s.vm.findClass RX1 = some m.cls := findClass_of_methodNamed B.named
  have hlocks := B.notSynchronized
  subst hsz
  have hA : ∀ q : Nat, s.heap.size ≤ q → (fun q : Nat => s.heap.size ≤ q) q := fun _ h => h
  have hAlo : ∀ q : Nat, (fun q : Nat => s.heap.size ≤ q) q → lo ≤ q := fun q h => Nat.le_trans hlo h
  have hS : va_S (fun q : Nat => s.heap.size ≤ q) s.heap s.heap [] := va_S.rf
  have hl := lv_entry ([.ref z0, .int (nI cn), .int (nI pq)]) (n := 3) (Nat.le_of_ble_eq_true rfl)
  rw [lg_entry_eq]
  generalize (lg_sl ([.ref z0, .int (nI cn), .int (nI pq)]) ++ List.replicate (3 - (lg_sl ([.ref z0, .int (nI cn), .int (nI pq)])).length) Slot.unset).toArray = ls at hl ⊢
  have hl : lv_has ls 3 [(0, .ref z0), (1, .int (nI cn)), (2, .int (nI pq))] := hl
  refine lv_aload_n hx hb dX1_costAt_0 rfl (lv_at hl 0 rfl) ?_
  refine va_get (D := D) (ci := 1) (v := .ref z2) (C := RX1) (T := TX1) (N := 8) hx hb hts inX1 hown hK hP 0 rfl rfl 2 (by decide) (hts _ tw_238) (fun _ h9 => h9) rfl dX1_costAt_1 ?_
  refine lv_iload_n hx hb dX1_costAt_4 rfl (lv_at hl 1 rfl) ?_
  refine lv_bipush (v := 25) hx hb dX1_costAt_5 (by decide) ?_
  refine lv_imul hx hb dX1_costAt_7 ?_
  refine lv_ti (y := (nI (cn * 25))) (pk_mul cn 25) ?_
  refine lv_iload_n hx hb dX1_costAt_8 rfl (lv_at hl 2 rfl) ?_
  refine lv_iadd hx hb dX1_costAt_9 ?_
  refine lv_ti (y := (nI (cn * 25 + pq))) (nI_add (cn * 25) pq) ?_
  refine va_iald hx hb hK hP 1 1 rfl rfl (vp_in_nI (by omega) (by decide)) dX1_costAt_10 ?_
  refine lv_ti (y := (pco (cn * 25 + pq))) (by rw [nI_clamp (by omega)]) ?_
  exact W.iret (v := (pco (cn * 25 + pq))) hx hb hr (fun t ht hW => ⟨⟨(pco (cn * 25 + pq)), (), rfl, rfl, trivial⟩, hS.F ht⟩) hS.2.2 dX1_costAt_11


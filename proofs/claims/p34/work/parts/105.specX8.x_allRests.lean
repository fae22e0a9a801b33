theorem dX7_allRests_0 : decode cX7_allRests 0 = .ok (.aload_n 0, 1) := by decide +kernel
theorem dX7_allRests_1 : decode cX7_allRests 1 = .ok (.iload_n 1, 1) := by decide +kernel
theorem dX7_allRests_2 : decode cX7_allRests 2 = .ok (.iload_n 2, 1) := by decide +kernel
theorem dX7_allRests_3 : decode cX7_allRests 3 = .ok (.invokevirtual 239, 3) := by decide +kernel
theorem dX7_allRests_6 : decode cX7_allRests 6 = .ok (.istore_n 3, 1) := by decide +kernel
theorem dX7_allRests_7 : decode cX7_allRests 7 = .ok (.iload_n 3, 1) := by decide +kernel
theorem dX7_allRests_8 : decode cX7_allRests 8 = .ok (.ifCond .eq 5, 3) := by decide +kernel
theorem dX7_allRests_11 : decode cX7_allRests 11 = .ok (.iload_n 3, 1) := by decide +kernel
theorem dX7_allRests_12 : decode cX7_allRests 12 = .ok (.ireturn, 1) := by decide +kernel
theorem dX7_allRests_13 : decode cX7_allRests 13 = .ok (.aload_n 0, 1) := by decide +kernel
theorem dX7_allRests_14 : decode cX7_allRests 14 = .ok (.getfield 49, 3) := by decide +kernel
theorem dX7_allRests_17 : decode cX7_allRests 17 = .ok (.getfield 214, 3) := by decide +kernel
theorem dX7_allRests_20 : decode cX7_allRests 20 = .ok (.iconst 2, 1) := by decide +kernel
theorem dX7_allRests_21 : decode cX7_allRests 21 = .ok (.if_icmp .le 7, 3) := by decide +kernel
theorem dX7_allRests_24 : decode cX7_allRests 24 = .ok (.sipush (-1003), 3) := by decide +kernel
theorem dX7_allRests_27 : decode cX7_allRests 27 = .ok (.ireturn, 1) := by decide +kernel
theorem dX7_allRests_28 : decode cX7_allRests 28 = .ok (.aload_n 0, 1) := by decide +kernel
theorem dX7_allRests_29 : decode cX7_allRests 29 = .ok (.getfield 73, 3) := by decide +kernel
theorem dX7_allRests_32 : decode cX7_allRests 32 = .ok (.aload_n 0, 1) := by decide +kernel
theorem dX7_allRests_33 : decode cX7_allRests 33 = .ok (.getfield 18, 3) := by decide +kernel
theorem dX7_allRests_36 : decode cX7_allRests 36 = .ok (.iload_n 1, 1) := by decide +kernel
theorem dX7_allRests_37 : decode cX7_allRests 37 = .ok (.aaload, 1) := by decide +kernel
theorem dX7_allRests_38 : decode cX7_allRests 38 = .ok (.iload_n 2, 1) := by decide +kernel
theorem dX7_allRests_39 : decode cX7_allRests 39 = .ok (.invokevirtual 229, 3) := by decide +kernel
theorem dX7_allRests_42 : decode cX7_allRests 42 = .ok (.aload_n 0, 1) := by decide +kernel
theorem dX7_allRests_43 : decode cX7_allRests 43 = .ok (.getfield 73, 3) := by decide +kernel
theorem dX7_allRests_46 : decode cX7_allRests 46 = .ok (.invokevirtual 254, 3) := by decide +kernel
theorem dX7_allRests_49 : decode cX7_allRests 49 = .ok (.ireturn, 1) := by decide +kernel
set_option maxHeartbeats 4000000 in
set_option maxRecDepth 100000 in
theorem x_allRests (l : Launch) (D : va_G) (k : Nat → ClassId) (st : Nat → Nat) (lo : Nat) (a : Nat → Nat) (rk : Nat) (lfa : Int32) (n0 : Nat) (see0 : Nat) (tm0 : Nat) (g0 : Nat → Int32) (fp0 : Nat → Int32) (fl0 : Nat → Int32) (n1 : Nat) (see1 : Nat) (tm1 : Nat) (g1 : Nat → Int32) (fp1 : Nat → Int32) (fl1 : Nat → Int32) (n2 : Nat) (see2 : Nat) (tm2 : Nat) (g2 : Nat → Int32) (fp2 : Nat → Int32) (fl2 : Nat → Int32) (cc : Nat) (rz : Nat) (ro : Int32) (sd : Int32) (wk : Nat → Int32) (br : Nat → Nat) (pn : Int32) (pf : Int32) (pd : Int32) (pe : Int32) (pb : Nat → Nat) (pco : Nat → Int32) (pg : Nat → Int32) (p0 : Int32) (p1 : Int32) (hn0 : n0 ≤ 24) (hse0 : see0 ≤ 2) (htm0 : tm0 ≤ 3) (hn1 : n1 ≤ 24) (hse1 : see1 ≤ 2) (htm1 : tm1 ≤ 3) (hn2 : n2 ≤ 24) (hse2 : see2 ≤ 2) (htm2 : tm2 ≤ 3) (hcc : cc ≤ 4) (hbr : ∀ j, br j ≤ 24) (hpb : ∀ j, pb j ≤ 24) : CWi l D k st lo yX7_allRests cX7_allRests 4 (some .int) ({ frames := 5, cells := 0, slots := 0, locals := 120 }) 0 0 [.ref (a 0), .int p0, .int p1] [((a 0), .inr (7, (fX7 (a 1) (a 3) (a 19) (a 35) (a 40) (nI rk) lfa (a 53) (a 56) (a 63) (a 64) (a 68)))), ((a 3), .inl (k 3, 3, .inr (.inr (.inr (.inr (a3 (a 4) (a 9) (a 14))))))), ((a 4), .inr (5, (fX5 (a 5) (a 6) (a 7) (a 8)))), (aI k (a 5) 10 (vv n0 see0 tm0 g0)), (aI k (a 7) 24 fp0), (aI k (a 8) 4 fl0), ((a 9), .inr (5, (fX5 (a 10) (a 11) (a 12) (a 13)))), (aI k (a 10) 10 (vv n1 see1 tm1 g1)), (aI k (a 12) 24 fp1), (aI k (a 13) 4 fl1), ((a 14), .inr (5, (fX5 (a 15) (a 16) (a 17) (a 18)))), (aI k (a 15) 10 (vv n2 see2 tm2 g2)), (aI k (a 17) 24 fp2), (aI k (a 18) 4 fl2), ((a 53), .inr (4, (fX4 (a 54) (a 55) (nI cc) (nI rz) ro sd))), (aI k (a 54) 4 wk), (aI k (a 55) 4 (nF br)), ((a 68), .inr (1, (fX1 (a 53) (a 69) (a 70) (a 71) pn pf pd pe))), (aI k (a 69) 4 (nF pb)), (aI k (a 70) 100 pco), (aI k (a 71) 16 pg)] (fun (r : Int32) (u : Int32 × Int32 × Int32 × Int32 × (Nat → Nat) × (Nat → Int32)) => match u with | (pn_, pf_, pd_, pe_, pb_, pco_) => ∀ j, pb_ j ≤ 24) (fun (u : Int32 × Int32 × Int32 × Int32 × (Nat → Nat) × (Nat → Int32)) => match u with | (pn_, pf_, pd_, pe_, pb_, pco_) => [((a 0), .inr (7, (fX7 (a 1) (a 3) (a 19) (a 35) (a 40) (nI rk) lfa (a 53) (a 56) (a 63) (a 64) (a 68)))), ((a 3), .inl (k 3, 3, .inr (.inr (.inr (.inr (a3 (a 4) (a 9) (a 14))))))), ((a 4), .inr (5, (fX5 (a 5) (a 6) (a 7) (a 8)))), (aI k (a 5) 10 (vv n0 see0 tm0 g0)), (aI k (a 7) 24 fp0), (aI k (a 8) 4 fl0), ((a 9), .inr (5, (fX5 (a 10) (a 11) (a 12) (a 13)))), (aI k (a 10) 10 (vv n1 see1 tm1 g1)), (aI k (a 12) 24 fp1), (aI k (a 13) 4 fl1), ((a 14), .inr (5, (fX5 (a 15) (a 16) (a 17) (a 18)))), (aI k (a 15) 10 (vv n2 see2 tm2 g2)), (aI k (a 17) 24 fp2), (aI k (a 18) 4 fl2), ((a 53), .inr (4, (fX4 (a 54) (a 55) (nI cc) (nI rz) ro sd))), (aI k (a 54) 4 wk), (aI k (a 55) 4 (nF br)), ((a 68), .inr (1, (fX1 (a 53) (a 69) (a 70) (a 71) pn_ pf_ pd_ pe_))), (aI k (a 69) 4 (nF pb_)), (aI k (a 70) 100 pco_), (aI k (a 71) 16 pg)]) := by
  intro sz
  refine Met.ofW (cc := cX7_allRests) (maxL := 4) (ret := (some .int)) (by decide) rfl ?_
  intro p e s m args below meth c s₁ B hml hv
  obtain ⟨rfl, hsz, hlo, hP, hK, hDL, hZ⟩ := hv
  have hx := B.exec
  have hb := B.bytes
  have hr := B.returns
  have hts := WS_ts B.pre
  have hown : s.vm.findClass RX7 = some m.cls := findClass_of_methodNamed B.named
  have hlocks := B.notSynchronized
  subst hsz
  have hD := hDL.self (sz := s.heap.size)
  have hAlo := A_lo hDL hlo
  generalize hAe : va_A [((a 0), .inr (7, (fX7 (a 1) (a 3) (a 19) (a 35) (a 40) (nI rk) lfa (a 53) (a 56) (a 63) (a 64) (a 68)))), ((a 3), .inl (k 3, 3, .inr (.inr (.inr (.inr (a3 (a 4) (a 9) (a 14))))))), ((a 4), .inr (5, (fX5 (a 5) (a 6) (a 7) (a 8)))), (aI k (a 5) 10 (vv n0 see0 tm0 g0)), (aI k (a 7) 24 fp0), (aI k (a 8) 4 fl0), ((a 9), .inr (5, (fX5 (a 10) (a 11) (a 12) (a 13)))), (aI k (a 10) 10 (vv n1 see1 tm1 g1)), (aI k (a 12) 24 fp1), (aI k (a 13) 4 fl1), ((a 14), .inr (5, (fX5 (a 15) (a 16) (a 17) (a 18)))), (aI k (a 15) 10 (vv n2 see2 tm2 g2)), (aI k (a 17) 24 fp2), (aI k (a 18) 4 fl2), ((a 53), .inr (4, (fX4 (a 54) (a 55) (nI cc) (nI rz) ro sd))), (aI k (a 54) 4 wk), (aI k (a 55) 4 (nF br)), ((a 68), .inr (1, (fX1 (a 53) (a 69) (a 70) (a 71) pn pf pd pe))), (aI k (a 69) 4 (nF pb)), (aI k (a 70) 100 pco), (aI k (a 71) 16 pg)] s.heap.size = A at hD hAlo ⊢
  have hA : ∀ q : Nat, s.heap.size ≤ q → A q := fun q h => by rw [← hAe]; exact Or.inr h
  have hS : va_S A s.heap s.heap [] := va_S.rf
  have hl := lv_entry ([.ref (a 0), .int p0, .int p1]) (n := 4) (Nat.le_of_ble_eq_true rfl)
  rw [lg_entry_eq]
  generalize (lg_sl ([.ref (a 0), .int p0, .int p1]) ++ List.replicate (4 - (lg_sl ([.ref (a 0), .int p0, .int p1])).length) Slot.unset).toArray = ls at hl ⊢
  have hl : lv_has ls 4 [(0, .ref (a 0)), (1, .int p0), (2, .int p1)] := hl
  refine lv_aload_n hx hb dX7_allRests_0 rfl (lv_at hl 0 rfl) ?_
  refine lv_iload_n hx hb dX7_allRests_1 rfl (lv_at hl 1 rfl) ?_
  refine lv_iload_n hx hb dX7_allRests_2 rfl (lv_at hl 2 rfl) ?_
  refine ro_i (D := D) (va_runV (As := [.int p0, .int p1]) (rest := []) ⟨hx, hb, hml, hown, hts⟩ ((x_refuseSet l D k st lo a rk lfa n0 see0 tm0 g0 n1 see1 tm1 g1 n2 see2 tm2 g2 p0 p1 (by first | assumption | omega) (by first | assumption | omega) (by first | assumption | omega)) s.heap.size) (cwV 2 hts (gV tw_850 tw_852 tw_21 tw_79 tw_853) rfl rfl rfl (by decide +kernel) ⟨Nat.le_of_ble_eq_true rfl, Nat.le_of_ble_eq_true rfl⟩) (pV hS hAlo hlo hP hK (va_Dlo hD hAlo) hZ [0, 1, 2, 3, 6, 7, 10, 11] (by decide) rfl (ci := 7) (q := (RX7, TX7, 12)) (q0 := 0) rfl rfl) rfl rfl hl.1 rfl (lv_room (Nat.le_of_ble_eq_true rfl)) dX7_allRests_3 ⟨Nat.le_of_ble_eq_true rfl, Nat.le_of_ble_eq_true rfl⟩) hS hA hP (fun r_1 H locs hw_1 hP hS => ?_)
  try dsimp only at hw_1
  rcases hw_1 with ⟨rfl, rfl | rfl | rfl⟩ | rfl | rfl
  · refine lv_istore_n (lv' := [(3, .int 0), (0, .ref (a 0)), (1, .int 0), (2, .int p1)]) hx hb dX7_allRests_6 rfl hl (by decide) rfl (fun ls hl => ?_)
    refine lv_iload_n hx hb dX7_allRests_7 rfl (lv_at hl 0 rfl) ?_
    refine lv_if_eq (tgt := 13) hx hb dX7_allRests_8 (by decide) (fun _ => ?_) (fun h => absurd (by decide) h)
    refine lv_aload_n hx hb dX7_allRests_13 rfl (lv_at hl 1 rfl) ?_
    refine va_get (D := D) (ci := 7) (v := .ref (a 53)) (C := RX7) (T := TX7) (N := 12) hx hb hts inX7 hown hK hP 0 rfl rfl 7 (by decide) (hts _ tw_312) (fun _ h9 => h9) rfl dX7_allRests_14 ?_
    refine va_get (D := D) (ci := 4) (v := .int (nI cc)) (C := RX4) (T := TX4) (N := 6) hx hb hts inX4 hown hK hP 14 rfl rfl 2 (by decide) (hts _ tw_180) (fun _ h9 => h9) rfl dX7_allRests_17 ?_
    refine lv_iconst (v := 2) hx hb dX7_allRests_20 (by decide) ?_
    refine lv_icmp_le (tgt := 28) hx hb dX7_allRests_21 (by decide) (fun c_2 => ?_) (fun c_2 => ?_)
    · have c_2 := (nI_leI (a := cc) (b := 2) (by omega) (by omega)).mp c_2
      refine lv_aload_n hx hb dX7_allRests_28 rfl (lv_at hl 1 rfl) ?_
      refine va_get (D := D) (ci := 7) (v := .ref (a 68)) (C := RX7) (T := TX7) (N := 12) hx hb hts inX7 hown hK hP 0 rfl rfl 11 (by decide) (hts _ tw_316) (fun _ h9 => h9) rfl dX7_allRests_29 ?_
      refine lv_aload_n hx hb dX7_allRests_32 rfl (lv_at hl 1 rfl) ?_
      refine va_get (D := D) (ci := 7) (v := .ref (a 3)) (C := RX7) (T := TX7) (N := 12) hx hb hts inX7 hown hK hP 0 rfl rfl 1 (by decide) (hts _ tw_306) (fun _ h9 => h9) rfl dX7_allRests_33 ?_
      refine lv_iload_n hx hb dX7_allRests_36 rfl (lv_at hl 2 rfl) ?_
      refine va_aldq hx hb hK hP 1 3 rfl rfl (by unfold vp_in; decide) dX7_allRests_37 ?_
      refine lv_tr (y := .ref (a 4)) rfl ?_
      refine lv_iload_n hx hb dX7_allRests_38 rfl (lv_at hl 3 rfl) ?_
      refine rw_v (D := D) (wr := [((a 0), .inr (7, (fX7 (a 1) (a 3) (a 19) (a 35) (a 40) (nI rk) lfa (a 53) (a 56) (a 63) (a 64) (a 68)))), ((a 3), .inl (k 3, 3, .inr (.inr (.inr (.inr (a3 (a 4) (a 9) (a 14))))))), ((a 9), .inr (5, (fX5 (a 10) (a 11) (a 12) (a 13)))), (aI k (a 10) 10 (vv n1 see1 tm1 g1)), (aI k (a 12) 24 fp1), (aI k (a 13) 4 fl1), ((a 14), .inr (5, (fX5 (a 15) (a 16) (a 17) (a 18)))), (aI k (a 15) 10 (vv n2 see2 tm2 g2)), (aI k (a 17) 24 fp2), (aI k (a 18) 4 fl2), (aI k (a 71) 16 pg)]) (va_runV (As := [.ref (a 4), .int p1]) (rest := []) ⟨hx, hb, hml, hown, hts⟩ ((x_comeTo l D k st lo (a 53) (a 68) (a 69) (a 70) (a 71) pn pf pd pe pb pco (a 4) (a 5) (a 6) (a 7) (a 8) n0 see0 tm0 g0 fp0 fl0 (a 54) (a 55) cc rz ro sd wk br p1 (by first | assumption | omega) (by first | assumption | omega) hbr hpb) H.size) (cwV 2 hts (gV tw_821 tw_822 tw_823 tw_84 tw_824) rfl rfl rfl (by decide +kernel) ⟨Nat.le_of_ble_eq_true rfl, Nat.le_of_ble_eq_true rfl⟩) (pV hS hAlo hlo hP hK (va_Dlo hD hAlo) hZ [17, 18, 19, 2, 3, 4, 5, 14, 15, 16] (by decide +kernel) rfl (ci := 1) (q := (RX1, TX1, 8)) (q0 := 0) rfl rfl) rfl rfl hl.1 rfl (lv_room (Nat.le_of_ble_eq_true rfl)) dX7_allRests_39 ⟨Nat.le_of_ble_eq_true rfl, Nat.le_of_ble_eq_true rfl⟩) hS hA hP hD [17, 18, 19, 2, 3, 4, 5, 14, 15, 16] [0, 1, 6, 7, 8, 9, 10, 11, 12, 13, 20] rfl rfl (by decide +kernel) (by decide +kernel) (fun u H locs hw_3 hP hD hS => ?_)
      obtain ⟨pb__3, pco__3⟩ := u
      have hQ9 := pd_mk [((a 0), .inr (7, (fX7 (a 1) (a 3) (a 19) (a 35) (a 40) (nI rk) lfa (a 53) (a 56) (a 63) (a 64) (a 68)))), ((a 3), .inl (k 3, 3, .inr (.inr (.inr (.inr (a3 (a 4) (a 9) (a 14))))))), ((a 9), .inr (5, (fX5 (a 10) (a 11) (a 12) (a 13)))), (aI k (a 10) 10 (vv n1 see1 tm1 g1)), (aI k (a 12) 24 fp1), (aI k (a 13) 4 fl1), ((a 14), .inr (5, (fX5 (a 15) (a 16) (a 17) (a 18)))), (aI k (a 15) 10 (vv n2 see2 tm2 g2)), (aI k (a 17) 24 fp2), (aI k (a 18) 4 fl2), (aI k (a 71) 16 pg), ((a 68), .inr (1, (fX1 (a 53) (a 69) (a 70) (a 71) (nI n0) p1 0 0))), (aI k (a 69) 4 (nF pb__3)), (aI k (a 70) 100 pco__3), ((a 4), .inr (5, (fX5 (a 5) (a 6) (a 7) (a 8)))), (aI k (a 5) 10 (vv n0 see0 tm0 g0)), (aI k (a 7) 24 fp0), (aI k (a 8) 4 fl0), ((a 53), .inr (4, (fX4 (a 54) (a 55) (nI cc) (nI rz) ro sd))), (aI k (a 54) 4 wk), (aI k (a 55) 4 (nF br))] hP hD
      clear hP hD
      obtain ⟨hP, hD⟩ := hQ9
      try dsimp only at hw_3
      refine lv_aload_n hx hb dX7_allRests_42 rfl (lv_at hl 1 rfl) ?_
      refine va_get (D := D) (ci := 7) (v := .ref (a 68)) (C := RX7) (T := TX7) (N := 12) hx hb hts inX7 hown hK hP 0 rfl rfl 11 (by decide) (hts _ tw_316) (fun _ h9 => h9) rfl dX7_allRests_43 ?_
      refine rw_i (D := D) (wr := [((a 0), .inr (7, (fX7 (a 1) (a 3) (a 19) (a 35) (a 40) (nI rk) lfa (a 53) (a 56) (a 63) (a 64) (a 68)))), ((a 3), .inl (k 3, 3, .inr (.inr (.inr (.inr (a3 (a 4) (a 9) (a 14))))))), ((a 9), .inr (5, (fX5 (a 10) (a 11) (a 12) (a 13)))), (aI k (a 10) 10 (vv n1 see1 tm1 g1)), (aI k (a 12) 24 fp1), (aI k (a 13) 4 fl1), ((a 14), .inr (5, (fX5 (a 15) (a 16) (a 17) (a 18)))), (aI k (a 15) 10 (vv n2 see2 tm2 g2)), (aI k (a 17) 24 fp2), (aI k (a 18) 4 fl2), (aI k (a 71) 16 pg), ((a 4), .inr (5, (fX5 (a 5) (a 6) (a 7) (a 8)))), (aI k (a 5) 10 (vv n0 see0 tm0 g0)), (aI k (a 7) 24 fp0), (aI k (a 8) 4 fl0), (aI k (a 54) 4 wk), (aI k (a 55) 4 (nF br))]) (va_runV (As := []) (rest := []) ⟨hx, hb, hml, hown, hts⟩ ((x_countRests l D k st lo (a 53) (a 68) (a 69) (a 70) (a 71) n0 p1 0 0 pb__3 pco__3 (a 54) (a 55) cc rz ro sd (by first | assumption | omega) (by first | assumption | omega) hw_3) H.size) (cwV 0 hts (gV tw_888 tw_889 tw_890 tw_84 tw_891) rfl rfl rfl (by decide +kernel) ⟨Nat.le_of_ble_eq_true rfl, Nat.le_of_ble_eq_true rfl⟩) (pV hS hAlo hlo hP hK (va_Dlo hD hAlo) hZ [11, 12, 13, 18] (by decide) rfl (ci := 1) (q := (RX1, TX1, 8)) (q0 := 0) rfl rfl) rfl rfl hl.1 rfl (lv_room (Nat.le_of_ble_eq_true rfl)) dX7_allRests_46 ⟨Nat.le_of_ble_eq_true rfl, Nat.le_of_ble_eq_true rfl⟩) hS hA hP hD [11, 12, 13, 18] [0, 1, 2, 3, 4, 5, 6, 7, 8, 9, 10, 14, 15, 16, 17, 19, 20] rfl rfl (by decide +kernel) (by decide +kernel) (fun r_4 u H locs hw_4 hP hD hS => ?_)
      obtain ⟨pb__4, rfl⟩ : ∃ z, z = u := ⟨_, rfl⟩
      have hQ9 := pd_mk [((a 0), .inr (7, (fX7 (a 1) (a 3) (a 19) (a 35) (a 40) (nI rk) lfa (a 53) (a 56) (a 63) (a 64) (a 68)))), ((a 3), .inl (k 3, 3, .inr (.inr (.inr (.inr (a3 (a 4) (a 9) (a 14))))))), ((a 9), .inr (5, (fX5 (a 10) (a 11) (a 12) (a 13)))), (aI k (a 10) 10 (vv n1 see1 tm1 g1)), (aI k (a 12) 24 fp1), (aI k (a 13) 4 fl1), ((a 14), .inr (5, (fX5 (a 15) (a 16) (a 17) (a 18)))), (aI k (a 15) 10 (vv n2 see2 tm2 g2)), (aI k (a 17) 24 fp2), (aI k (a 18) 4 fl2), (aI k (a 71) 16 pg), ((a 4), .inr (5, (fX5 (a 5) (a 6) (a 7) (a 8)))), (aI k (a 5) 10 (vv n0 see0 tm0 g0)), (aI k (a 7) 24 fp0), (aI k (a 8) 4 fl0), (aI k (a 54) 4 wk), (aI k (a 55) 4 (nF br)), ((a 68), .inr (1, (fX1 (a 53) (a 69) (a 70) (a 71) (nI n0) p1 0 0))), (aI k (a 69) 4 (nF pb__4)), (aI k (a 70) 100 pco__3), ((a 53), .inr (4, (fX4 (a 54) (a 55) (nI cc) (nI rz) ro sd)))] hP hD
      clear hP hD
      obtain ⟨hP, hD⟩ := hQ9
      try dsimp only at hw_4
      obtain ⟨hP9, hD9⟩ := pd_sub [((a 0), .inr (7, (fX7 (a 1) (a 3) (a 19) (a 35) (a 40) (nI rk) lfa (a 53) (a 56) (a 63) (a 64) (a 68)))), ((a 3), .inl (k 3, 3, .inr (.inr (.inr (.inr (a3 (a 4) (a 9) (a 14))))))), ((a 4), .inr (5, (fX5 (a 5) (a 6) (a 7) (a 8)))), (aI k (a 5) 10 (vv n0 see0 tm0 g0)), (aI k (a 7) 24 fp0), (aI k (a 8) 4 fl0), ((a 9), .inr (5, (fX5 (a 10) (a 11) (a 12) (a 13)))), (aI k (a 10) 10 (vv n1 see1 tm1 g1)), (aI k (a 12) 24 fp1), (aI k (a 13) 4 fl1), ((a 14), .inr (5, (fX5 (a 15) (a 16) (a 17) (a 18)))), (aI k (a 15) 10 (vv n2 see2 tm2 g2)), (aI k (a 17) 24 fp2), (aI k (a 18) 4 fl2), ((a 53), .inr (4, (fX4 (a 54) (a 55) (nI cc) (nI rz) ro sd))), (aI k (a 54) 4 wk), (aI k (a 55) 4 (nF br)), ((a 68), .inr (1, (fX1 (a 53) (a 69) (a 70) (a 71) (nI n0) p1 0 0))), (aI k (a 69) 4 (nF pb__4)), (aI k (a 70) 100 pco__3), (aI k (a 71) 16 pg)] [0, 1, 11, 12, 13, 14, 2, 3, 4, 5, 6, 7, 8, 9, 20, 15, 16, 17, 18, 19, 10] hP hD (by decide +kernel) rfl
      exact W.iret (v := r_4) hx hb hr (fun t ht hW => ⟨⟨r_4, ((nI n0), p1, 0, 0, pb__4, pco__3), rfl, hw_4, by rw [ht]; exact hP9, hD9⟩, hS.F ht⟩) hS.2.2 dX7_allRests_49
    · have c_2 : ¬ (cc ≤ 2) := fun h => c_2 ((nI_leI (a := cc) (b := 2) (by omega) (by omega)).mpr h)
      refine lv_sipush (v := (-1003)) hx hb dX7_allRests_24 (by decide) ?_
      obtain ⟨hP9, hD9⟩ := pd_sub [((a 0), .inr (7, (fX7 (a 1) (a 3) (a 19) (a 35) (a 40) (nI rk) lfa (a 53) (a 56) (a 63) (a 64) (a 68)))), ((a 3), .inl (k 3, 3, .inr (.inr (.inr (.inr (a3 (a 4) (a 9) (a 14))))))), ((a 4), .inr (5, (fX5 (a 5) (a 6) (a 7) (a 8)))), (aI k (a 5) 10 (vv n0 see0 tm0 g0)), (aI k (a 7) 24 fp0), (aI k (a 8) 4 fl0), ((a 9), .inr (5, (fX5 (a 10) (a 11) (a 12) (a 13)))), (aI k (a 10) 10 (vv n1 see1 tm1 g1)), (aI k (a 12) 24 fp1), (aI k (a 13) 4 fl1), ((a 14), .inr (5, (fX5 (a 15) (a 16) (a 17) (a 18)))), (aI k (a 15) 10 (vv n2 see2 tm2 g2)), (aI k (a 17) 24 fp2), (aI k (a 18) 4 fl2), ((a 53), .inr (4, (fX4 (a 54) (a 55) (nI cc) (nI rz) ro sd))), (aI k (a 54) 4 wk), (aI k (a 55) 4 (nF br)), ((a 68), .inr (1, (fX1 (a 53) (a 69) (a 70) (a 71) pn pf pd pe))), (aI k (a 69) 4 (nF pb)), (aI k (a 70) 100 pco), (aI k (a 71) 16 pg)] [0, 1, 2, 3, 4, 5, 6, 7, 8, 9, 10, 11, 12, 13, 14, 15, 16, 17, 18, 19, 20] hP hD (by decide +kernel) rfl
      exact W.iret (v := (-1003)) hx hb hr (fun t ht hW => ⟨⟨(-1003), (pn, pf, pd, pe, pb, pco), rfl, hpb, by rw [ht]; exact hP9, hD9⟩, hS.F ht⟩) hS.2.2 dX7_allRests_27
  · refine lv_istore_n (lv' := [(3, .int 0), (0, .ref (a 0)), (1, .int 1), (2, .int p1)]) hx hb dX7_allRests_6 rfl hl (by decide) rfl (fun ls hl => ?_)
    refine lv_iload_n hx hb dX7_allRests_7 rfl (lv_at hl 0 rfl) ?_
    refine lv_if_eq (tgt := 13) hx hb dX7_allRests_8 (by decide) (fun _ => ?_) (fun h => absurd (by decide) h)
    refine lv_aload_n hx hb dX7_allRests_13 rfl (lv_at hl 1 rfl) ?_
    refine va_get (D := D) (ci := 7) (v := .ref (a 53)) (C := RX7) (T := TX7) (N := 12) hx hb hts inX7 hown hK hP 0 rfl rfl 7 (by decide) (hts _ tw_312) (fun _ h9 => h9) rfl dX7_allRests_14 ?_
    refine va_get (D := D) (ci := 4) (v := .int (nI cc)) (C := RX4) (T := TX4) (N := 6) hx hb hts inX4 hown hK hP 14 rfl rfl 2 (by decide) (hts _ tw_180) (fun _ h9 => h9) rfl dX7_allRests_17 ?_
    refine lv_iconst (v := 2) hx hb dX7_allRests_20 (by decide) ?_
    refine lv_icmp_le (tgt := 28) hx hb dX7_allRests_21 (by decide) (fun c_5 => ?_) (fun c_5 => ?_)
    · have c_5 := (nI_leI (a := cc) (b := 2) (by omega) (by omega)).mp c_5
      refine lv_aload_n hx hb dX7_allRests_28 rfl (lv_at hl 1 rfl) ?_
      refine va_get (D := D) (ci := 7) (v := .ref (a 68)) (C := RX7) (T := TX7) (N := 12) hx hb hts inX7 hown hK hP 0 rfl rfl 11 (by decide) (hts _ tw_316) (fun _ h9 => h9) rfl dX7_allRests_29 ?_
      refine lv_aload_n hx hb dX7_allRests_32 rfl (lv_at hl 1 rfl) ?_
      refine va_get (D := D) (ci := 7) (v := .ref (a 3)) (C := RX7) (T := TX7) (N := 12) hx hb hts inX7 hown hK hP 0 rfl rfl 1 (by decide) (hts _ tw_306) (fun _ h9 => h9) rfl dX7_allRests_33 ?_
      refine lv_iload_n hx hb dX7_allRests_36 rfl (lv_at hl 2 rfl) ?_
      refine va_aldq hx hb hK hP 1 3 rfl rfl (by unfold vp_in; decide) dX7_allRests_37 ?_
      refine lv_tr (y := .ref (a 9)) rfl ?_
      refine lv_iload_n hx hb dX7_allRests_38 rfl (lv_at hl 3 rfl) ?_
      refine rw_v (D := D) (wr := [((a 0), .inr (7, (fX7 (a 1) (a 3) (a 19) (a 35) (a 40) (nI rk) lfa (a 53) (a 56) (a 63) (a 64) (a 68)))), ((a 3), .inl (k 3, 3, .inr (.inr (.inr (.inr (a3 (a 4) (a 9) (a 14))))))), ((a 4), .inr (5, (fX5 (a 5) (a 6) (a 7) (a 8)))), (aI k (a 5) 10 (vv n0 see0 tm0 g0)), (aI k (a 7) 24 fp0), (aI k (a 8) 4 fl0), ((a 14), .inr (5, (fX5 (a 15) (a 16) (a 17) (a 18)))), (aI k (a 15) 10 (vv n2 see2 tm2 g2)), (aI k (a 17) 24 fp2), (aI k (a 18) 4 fl2), (aI k (a 71) 16 pg)]) (va_runV (As := [.ref (a 9), .int p1]) (rest := []) ⟨hx, hb, hml, hown, hts⟩ ((x_comeTo l D k st lo (a 53) (a 68) (a 69) (a 70) (a 71) pn pf pd pe pb pco (a 9) (a 10) (a 11) (a 12) (a 13) n1 see1 tm1 g1 fp1 fl1 (a 54) (a 55) cc rz ro sd wk br p1 (by first | assumption | omega) (by first | assumption | omega) hbr hpb) H.size) (cwV 2 hts (gV tw_821 tw_822 tw_823 tw_84 tw_824) rfl rfl rfl (by decide +kernel) ⟨Nat.le_of_ble_eq_true rfl, Nat.le_of_ble_eq_true rfl⟩) (pV hS hAlo hlo hP hK (va_Dlo hD hAlo) hZ [17, 18, 19, 6, 7, 8, 9, 14, 15, 16] (by decide +kernel) rfl (ci := 1) (q := (RX1, TX1, 8)) (q0 := 0) rfl rfl) rfl rfl hl.1 rfl (lv_room (Nat.le_of_ble_eq_true rfl)) dX7_allRests_39 ⟨Nat.le_of_ble_eq_true rfl, Nat.le_of_ble_eq_true rfl⟩) hS hA hP hD [17, 18, 19, 6, 7, 8, 9, 14, 15, 16] [0, 1, 2, 3, 4, 5, 10, 11, 12, 13, 20] rfl rfl (by decide +kernel) (by decide +kernel) (fun u H locs hw_6 hP hD hS => ?_)
      obtain ⟨pb__6, pco__6⟩ := u
      have hQ9 := pd_mk [((a 0), .inr (7, (fX7 (a 1) (a 3) (a 19) (a 35) (a 40) (nI rk) lfa (a 53) (a 56) (a 63) (a 64) (a 68)))), ((a 3), .inl (k 3, 3, .inr (.inr (.inr (.inr (a3 (a 4) (a 9) (a 14))))))), ((a 4), .inr (5, (fX5 (a 5) (a 6) (a 7) (a 8)))), (aI k (a 5) 10 (vv n0 see0 tm0 g0)), (aI k (a 7) 24 fp0), (aI k (a 8) 4 fl0), ((a 14), .inr (5, (fX5 (a 15) (a 16) (a 17) (a 18)))), (aI k (a 15) 10 (vv n2 see2 tm2 g2)), (aI k (a 17) 24 fp2), (aI k (a 18) 4 fl2), (aI k (a 71) 16 pg), ((a 68), .inr (1, (fX1 (a 53) (a 69) (a 70) (a 71) (nI n1) p1 0 0))), (aI k (a 69) 4 (nF pb__6)), (aI k (a 70) 100 pco__6), ((a 9), .inr (5, (fX5 (a 10) (a 11) (a 12) (a 13)))), (aI k (a 10) 10 (vv n1 see1 tm1 g1)), (aI k (a 12) 24 fp1), (aI k (a 13) 4 fl1), ((a 53), .inr (4, (fX4 (a 54) (a 55) (nI cc) (nI rz) ro sd))), (aI k (a 54) 4 wk), (aI k (a 55) 4 (nF br))] hP hD
      clear hP hD
      obtain ⟨hP, hD⟩ := hQ9
      try dsimp only at hw_6
      refine lv_aload_n hx hb dX7_allRests_42 rfl (lv_at hl 1 rfl) ?_
      refine va_get (D := D) (ci := 7) (v := .ref (a 68)) (C := RX7) (T := TX7) (N := 12) hx hb hts inX7 hown hK hP 0 rfl rfl 11 (by decide) (hts _ tw_316) (fun _ h9 => h9) rfl dX7_allRests_43 ?_
      refine rw_i (D := D) (wr := [((a 0), .inr (7, (fX7 (a 1) (a 3) (a 19) (a 35) (a 40) (nI rk) lfa (a 53) (a 56) (a 63) (a 64) (a 68)))), ((a 3), .inl (k 3, 3, .inr (.inr (.inr (.inr (a3 (a 4) (a 9) (a 14))))))), ((a 4), .inr (5, (fX5 (a 5) (a 6) (a 7) (a 8)))), (aI k (a 5) 10 (vv n0 see0 tm0 g0)), (aI k (a 7) 24 fp0), (aI k (a 8) 4 fl0), ((a 14), .inr (5, (fX5 (a 15) (a 16) (a 17) (a 18)))), (aI k (a 15) 10 (vv n2 see2 tm2 g2)), (aI k (a 17) 24 fp2), (aI k (a 18) 4 fl2), (aI k (a 71) 16 pg), ((a 9), .inr (5, (fX5 (a 10) (a 11) (a 12) (a 13)))), (aI k (a 10) 10 (vv n1 see1 tm1 g1)), (aI k (a 12) 24 fp1), (aI k (a 13) 4 fl1), (aI k (a 54) 4 wk), (aI k (a 55) 4 (nF br))]) (va_runV (As := []) (rest := []) ⟨hx, hb, hml, hown, hts⟩ ((x_countRests l D k st lo (a 53) (a 68) (a 69) (a 70) (a 71) n1 p1 0 0 pb__6 pco__6 (a 54) (a 55) cc rz ro sd (by first | assumption | omega) (by first | assumption | omega) hw_6) H.size) (cwV 0 hts (gV tw_888 tw_889 tw_890 tw_84 tw_891) rfl rfl rfl (by decide +kernel) ⟨Nat.le_of_ble_eq_true rfl, Nat.le_of_ble_eq_true rfl⟩) (pV hS hAlo hlo hP hK (va_Dlo hD hAlo) hZ [11, 12, 13, 18] (by decide) rfl (ci := 1) (q := (RX1, TX1, 8)) (q0 := 0) rfl rfl) rfl rfl hl.1 rfl (lv_room (Nat.le_of_ble_eq_true rfl)) dX7_allRests_46 ⟨Nat.le_of_ble_eq_true rfl, Nat.le_of_ble_eq_true rfl⟩) hS hA hP hD [11, 12, 13, 18] [0, 1, 2, 3, 4, 5, 6, 7, 8, 9, 10, 14, 15, 16, 17, 19, 20] rfl rfl (by decide +kernel) (by decide +kernel) (fun r_7 u H locs hw_7 hP hD hS => ?_)
      obtain ⟨pb__7, rfl⟩ : ∃ z, z = u := ⟨_, rfl⟩
      have hQ9 := pd_mk [((a 0), .inr (7, (fX7 (a 1) (a 3) (a 19) (a 35) (a 40) (nI rk) lfa (a 53) (a 56) (a 63) (a 64) (a 68)))), ((a 3), .inl (k 3, 3, .inr (.inr (.inr (.inr (a3 (a 4) (a 9) (a 14))))))), ((a 4), .inr (5, (fX5 (a 5) (a 6) (a 7) (a 8)))), (aI k (a 5) 10 (vv n0 see0 tm0 g0)), (aI k (a 7) 24 fp0), (aI k (a 8) 4 fl0), ((a 14), .inr (5, (fX5 (a 15) (a 16) (a 17) (a 18)))), (aI k (a 15) 10 (vv n2 see2 tm2 g2)), (aI k (a 17) 24 fp2), (aI k (a 18) 4 fl2), (aI k (a 71) 16 pg), ((a 9), .inr (5, (fX5 (a 10) (a 11) (a 12) (a 13)))), (aI k (a 10) 10 (vv n1 see1 tm1 g1)), (aI k (a 12) 24 fp1), (aI k (a 13) 4 fl1), (aI k (a 54) 4 wk), (aI k (a 55) 4 (nF br)), ((a 68), .inr (1, (fX1 (a 53) (a 69) (a 70) (a 71) (nI n1) p1 0 0))), (aI k (a 69) 4 (nF pb__7)), (aI k (a 70) 100 pco__6), ((a 53), .inr (4, (fX4 (a 54) (a 55) (nI cc) (nI rz) ro sd)))] hP hD
      clear hP hD
      obtain ⟨hP, hD⟩ := hQ9
      try dsimp only at hw_7
      obtain ⟨hP9, hD9⟩ := pd_sub [((a 0), .inr (7, (fX7 (a 1) (a 3) (a 19) (a 35) (a 40) (nI rk) lfa (a 53) (a 56) (a 63) (a 64) (a 68)))), ((a 3), .inl (k 3, 3, .inr (.inr (.inr (.inr (a3 (a 4) (a 9) (a 14))))))), ((a 4), .inr (5, (fX5 (a 5) (a 6) (a 7) (a 8)))), (aI k (a 5) 10 (vv n0 see0 tm0 g0)), (aI k (a 7) 24 fp0), (aI k (a 8) 4 fl0), ((a 9), .inr (5, (fX5 (a 10) (a 11) (a 12) (a 13)))), (aI k (a 10) 10 (vv n1 see1 tm1 g1)), (aI k (a 12) 24 fp1), (aI k (a 13) 4 fl1), ((a 14), .inr (5, (fX5 (a 15) (a 16) (a 17) (a 18)))), (aI k (a 15) 10 (vv n2 see2 tm2 g2)), (aI k (a 17) 24 fp2), (aI k (a 18) 4 fl2), ((a 53), .inr (4, (fX4 (a 54) (a 55) (nI cc) (nI rz) ro sd))), (aI k (a 54) 4 wk), (aI k (a 55) 4 (nF br)), ((a 68), .inr (1, (fX1 (a 53) (a 69) (a 70) (a 71) (nI n1) p1 0 0))), (aI k (a 69) 4 (nF pb__7)), (aI k (a 70) 100 pco__6), (aI k (a 71) 16 pg)] [0, 1, 2, 3, 4, 5, 11, 12, 13, 14, 6, 7, 8, 9, 20, 15, 16, 17, 18, 19, 10] hP hD (by decide +kernel) rfl
      exact W.iret (v := r_7) hx hb hr (fun t ht hW => ⟨⟨r_7, ((nI n1), p1, 0, 0, pb__7, pco__6), rfl, hw_7, by rw [ht]; exact hP9, hD9⟩, hS.F ht⟩) hS.2.2 dX7_allRests_49
    · have c_5 : ¬ (cc ≤ 2) := fun h => c_5 ((nI_leI (a := cc) (b := 2) (by omega) (by omega)).mpr h)
      refine lv_sipush (v := (-1003)) hx hb dX7_allRests_24 (by decide) ?_
      obtain ⟨hP9, hD9⟩ := pd_sub [((a 0), .inr (7, (fX7 (a 1) (a 3) (a 19) (a 35) (a 40) (nI rk) lfa (a 53) (a 56) (a 63) (a 64) (a 68)))), ((a 3), .inl (k 3, 3, .inr (.inr (.inr (.inr (a3 (a 4) (a 9) (a 14))))))), ((a 4), .inr (5, (fX5 (a 5) (a 6) (a 7) (a 8)))), (aI k (a 5) 10 (vv n0 see0 tm0 g0)), (aI k (a 7) 24 fp0), (aI k (a 8) 4 fl0), ((a 9), .inr (5, (fX5 (a 10) (a 11) (a 12) (a 13)))), (aI k (a 10) 10 (vv n1 see1 tm1 g1)), (aI k (a 12) 24 fp1), (aI k (a 13) 4 fl1), ((a 14), .inr (5, (fX5 (a 15) (a 16) (a 17) (a 18)))), (aI k (a 15) 10 (vv n2 see2 tm2 g2)), (aI k (a 17) 24 fp2), (aI k (a 18) 4 fl2), ((a 53), .inr (4, (fX4 (a 54) (a 55) (nI cc) (nI rz) ro sd))), (aI k (a 54) 4 wk), (aI k (a 55) 4 (nF br)), ((a 68), .inr (1, (fX1 (a 53) (a 69) (a 70) (a 71) pn pf pd pe))), (aI k (a 69) 4 (nF pb)), (aI k (a 70) 100 pco), (aI k (a 71) 16 pg)] [0, 1, 2, 3, 4, 5, 6, 7, 8, 9, 10, 11, 12, 13, 14, 15, 16, 17, 18, 19, 20] hP hD (by decide +kernel) rfl
      exact W.iret (v := (-1003)) hx hb hr (fun t ht hW => ⟨⟨(-1003), (pn, pf, pd, pe, pb, pco), rfl, hpb, by rw [ht]; exact hP9, hD9⟩, hS.F ht⟩) hS.2.2 dX7_allRests_27
  · refine lv_istore_n (lv' := [(3, .int 0), (0, .ref (a 0)), (1, .int 2), (2, .int p1)]) hx hb dX7_allRests_6 rfl hl (by decide) rfl (fun ls hl => ?_)
    refine lv_iload_n hx hb dX7_allRests_7 rfl (lv_at hl 0 rfl) ?_
    refine lv_if_eq (tgt := 13) hx hb dX7_allRests_8 (by decide) (fun _ => ?_) (fun h => absurd (by decide) h)
    refine lv_aload_n hx hb dX7_allRests_13 rfl (lv_at hl 1 rfl) ?_
    refine va_get (D := D) (ci := 7) (v := .ref (a 53)) (C := RX7) (T := TX7) (N := 12) hx hb hts inX7 hown hK hP 0 rfl rfl 7 (by decide) (hts _ tw_312) (fun _ h9 => h9) rfl dX7_allRests_14 ?_
    refine va_get (D := D) (ci := 4) (v := .int (nI cc)) (C := RX4) (T := TX4) (N := 6) hx hb hts inX4 hown hK hP 14 rfl rfl 2 (by decide) (hts _ tw_180) (fun _ h9 => h9) rfl dX7_allRests_17 ?_
    refine lv_iconst (v := 2) hx hb dX7_allRests_20 (by decide) ?_
    refine lv_icmp_le (tgt := 28) hx hb dX7_allRests_21 (by decide) (fun c_8 => ?_) (fun c_8 => ?_)
    · have c_8 := (nI_leI (a := cc) (b := 2) (by omega) (by omega)).mp c_8
      refine lv_aload_n hx hb dX7_allRests_28 rfl (lv_at hl 1 rfl) ?_
      refine va_get (D := D) (ci := 7) (v := .ref (a 68)) (C := RX7) (T := TX7) (N := 12) hx hb hts inX7 hown hK hP 0 rfl rfl 11 (by decide) (hts _ tw_316) (fun _ h9 => h9) rfl dX7_allRests_29 ?_
      refine lv_aload_n hx hb dX7_allRests_32 rfl (lv_at hl 1 rfl) ?_
      refine va_get (D := D) (ci := 7) (v := .ref (a 3)) (C := RX7) (T := TX7) (N := 12) hx hb hts inX7 hown hK hP 0 rfl rfl 1 (by decide) (hts _ tw_306) (fun _ h9 => h9) rfl dX7_allRests_33 ?_
      refine lv_iload_n hx hb dX7_allRests_36 rfl (lv_at hl 2 rfl) ?_
      refine va_aldq hx hb hK hP 1 3 rfl rfl (by unfold vp_in; decide) dX7_allRests_37 ?_
      refine lv_tr (y := .ref (a 14)) rfl ?_
      refine lv_iload_n hx hb dX7_allRests_38 rfl (lv_at hl 3 rfl) ?_
      refine rw_v (D := D) (wr := [((a 0), .inr (7, (fX7 (a 1) (a 3) (a 19) (a 35) (a 40) (nI rk) lfa (a 53) (a 56) (a 63) (a 64) (a 68)))), ((a 3), .inl (k 3, 3, .inr (.inr (.inr (.inr (a3 (a 4) (a 9) (a 14))))))), ((a 4), .inr (5, (fX5 (a 5) (a 6) (a 7) (a 8)))), (aI k (a 5) 10 (vv n0 see0 tm0 g0)), (aI k (a 7) 24 fp0), (aI k (a 8) 4 fl0), ((a 9), .inr (5, (fX5 (a 10) (a 11) (a 12) (a 13)))), (aI k (a 10) 10 (vv n1 see1 tm1 g1)), (aI k (a 12) 24 fp1), (aI k (a 13) 4 fl1), (aI k (a 71) 16 pg)]) (va_runV (As := [.ref (a 14), .int p1]) (rest := []) ⟨hx, hb, hml, hown, hts⟩ ((x_comeTo l D k st lo (a 53) (a 68) (a 69) (a 70) (a 71) pn pf pd pe pb pco (a 14) (a 15) (a 16) (a 17) (a 18) n2 see2 tm2 g2 fp2 fl2 (a 54) (a 55) cc rz ro sd wk br p1 (by first | assumption | omega) (by first | assumption | omega) hbr hpb) H.size) (cwV 2 hts (gV tw_821 tw_822 tw_823 tw_84 tw_824) rfl rfl rfl (by decide +kernel) ⟨Nat.le_of_ble_eq_true rfl, Nat.le_of_ble_eq_true rfl⟩) (pV hS hAlo hlo hP hK (va_Dlo hD hAlo) hZ [17, 18, 19, 10, 11, 12, 13, 14, 15, 16] (by decide +kernel) rfl (ci := 1) (q := (RX1, TX1, 8)) (q0 := 0) rfl rfl) rfl rfl hl.1 rfl (lv_room (Nat.le_of_ble_eq_true rfl)) dX7_allRests_39 ⟨Nat.le_of_ble_eq_true rfl, Nat.le_of_ble_eq_true rfl⟩) hS hA hP hD [17, 18, 19, 10, 11, 12, 13, 14, 15, 16] [0, 1, 2, 3, 4, 5, 6, 7, 8, 9, 20] rfl rfl (by decide +kernel) (by decide +kernel) (fun u H locs hw_9 hP hD hS => ?_)
      obtain ⟨pb__9, pco__9⟩ := u
      have hQ9 := pd_mk [((a 0), .inr (7, (fX7 (a 1) (a 3) (a 19) (a 35) (a 40) (nI rk) lfa (a 53) (a 56) (a 63) (a 64) (a 68)))), ((a 3), .inl (k 3, 3, .inr (.inr (.inr (.inr (a3 (a 4) (a 9) (a 14))))))), ((a 4), .inr (5, (fX5 (a 5) (a 6) (a 7) (a 8)))), (aI k (a 5) 10 (vv n0 see0 tm0 g0)), (aI k (a 7) 24 fp0), (aI k (a 8) 4 fl0), ((a 9), .inr (5, (fX5 (a 10) (a 11) (a 12) (a 13)))), (aI k (a 10) 10 (vv n1 see1 tm1 g1)), (aI k (a 12) 24 fp1), (aI k (a 13) 4 fl1), (aI k (a 71) 16 pg), ((a 68), .inr (1, (fX1 (a 53) (a 69) (a 70) (a 71) (nI n2) p1 0 0))), (aI k (a 69) 4 (nF pb__9)), (aI k (a 70) 100 pco__9), ((a 14), .inr (5, (fX5 (a 15) (a 16) (a 17) (a 18)))), (aI k (a 15) 10 (vv n2 see2 tm2 g2)), (aI k (a 17) 24 fp2), (aI k (a 18) 4 fl2), ((a 53), .inr (4, (fX4 (a 54) (a 55) (nI cc) (nI rz) ro sd))), (aI k (a 54) 4 wk), (aI k (a 55) 4 (nF br))] hP hD
      clear hP hD
      obtain ⟨hP, hD⟩ := hQ9
      try dsimp only at hw_9
      refine lv_aload_n hx hb dX7_allRests_42 rfl (lv_at hl 1 rfl) ?_
      refine va_get (D := D) (ci := 7) (v := .ref (a 68)) (C := RX7) (T := TX7) (N := 12) hx hb hts inX7 hown hK hP 0 rfl rfl 11 (by decide) (hts _ tw_316) (fun _ h9 => h9) rfl dX7_allRests_43 ?_
      refine rw_i (D := D) (wr := [((a 0), .inr (7, (fX7 (a 1) (a 3) (a 19) (a 35) (a 40) (nI rk) lfa (a 53) (a 56) (a 63) (a 64) (a 68)))), ((a 3), .inl (k 3, 3, .inr (.inr (.inr (.inr (a3 (a 4) (a 9) (a 14))))))), ((a 4), .inr (5, (fX5 (a 5) (a 6) (a 7) (a 8)))), (aI k (a 5) 10 (vv n0 see0 tm0 g0)), (aI k (a 7) 24 fp0), (aI k (a 8) 4 fl0), ((a 9), .inr (5, (fX5 (a 10) (a 11) (a 12) (a 13)))), (aI k (a 10) 10 (vv n1 see1 tm1 g1)), (aI k (a 12) 24 fp1), (aI k (a 13) 4 fl1), (aI k (a 71) 16 pg), ((a 14), .inr (5, (fX5 (a 15) (a 16) (a 17) (a 18)))), (aI k (a 15) 10 (vv n2 see2 tm2 g2)), (aI k (a 17) 24 fp2), (aI k (a 18) 4 fl2), (aI k (a 54) 4 wk), (aI k (a 55) 4 (nF br))]) (va_runV (As := []) (rest := []) ⟨hx, hb, hml, hown, hts⟩ ((x_countRests l D k st lo (a 53) (a 68) (a 69) (a 70) (a 71) n2 p1 0 0 pb__9 pco__9 (a 54) (a 55) cc rz ro sd (by first | assumption | omega) (by first | assumption | omega) hw_9) H.size) (cwV 0 hts (gV tw_888 tw_889 tw_890 tw_84 tw_891) rfl rfl rfl (by decide +kernel) ⟨Nat.le_of_ble_eq_true rfl, Nat.le_of_ble_eq_true rfl⟩) (pV hS hAlo hlo hP hK (va_Dlo hD hAlo) hZ [11, 12, 13, 18] (by decide) rfl (ci := 1) (q := (RX1, TX1, 8)) (q0 := 0) rfl rfl) rfl rfl hl.1 rfl (lv_room (Nat.le_of_ble_eq_true rfl)) dX7_allRests_46 ⟨Nat.le_of_ble_eq_true rfl, Nat.le_of_ble_eq_true rfl⟩) hS hA hP hD [11, 12, 13, 18] [0, 1, 2, 3, 4, 5, 6, 7, 8, 9, 10, 14, 15, 16, 17, 19, 20] rfl rfl (by decide +kernel) (by decide +kernel) (fun r_10 u H locs hw_10 hP hD hS => ?_)
      obtain ⟨pb__10, rfl⟩ : ∃ z, z = u := ⟨_, rfl⟩
      have hQ9 := pd_mk [((a 0), .inr (7, (fX7 (a 1) (a 3) (a 19) (a 35) (a 40) (nI rk) lfa (a 53) (a 56) (a 63) (a 64) (a 68)))), ((a 3), .inl (k 3, 3, .inr (.inr (.inr (.inr (a3 (a 4) (a 9) (a 14))))))), ((a 4), .inr (5, (fX5 (a 5) (a 6) (a 7) (a 8)))), (aI k (a 5) 10 (vv n0 see0 tm0 g0)), (aI k (a 7) 24 fp0), (aI k (a 8) 4 fl0), ((a 9), .inr (5, (fX5 (a 10) (a 11) (a 12) (a 13)))), (aI k (a 10) 10 (vv n1 see1 tm1 g1)), (aI k (a 12) 24 fp1), (aI k (a 13) 4 fl1), (aI k (a 71) 16 pg), ((a 14), .inr (5, (fX5 (a 15) (a 16) (a 17) (a 18)))), (aI k (a 15) 10 (vv n2 see2 tm2 g2)), (aI k (a 17) 24 fp2), (aI k (a 18) 4 fl2), (aI k (a 54) 4 wk), (aI k (a 55) 4 (nF br)), ((a 68), .inr (1, (fX1 (a 53) (a 69) (a 70) (a 71) (nI n2) p1 0 0))), (aI k (a 69) 4 (nF pb__10)), (aI k (a 70) 100 pco__9), ((a 53), .inr (4, (fX4 (a 54) (a 55) (nI cc) (nI rz) ro sd)))] hP hD
      clear hP hD
      obtain ⟨hP, hD⟩ := hQ9
      try dsimp only at hw_10
      obtain ⟨hP9, hD9⟩ := pd_sub [((a 0), .inr (7, (fX7 (a 1) (a 3) (a 19) (a 35) (a 40) (nI rk) lfa (a 53) (a 56) (a 63) (a 64) (a 68)))), ((a 3), .inl (k 3, 3, .inr (.inr (.inr (.inr (a3 (a 4) (a 9) (a 14))))))), ((a 4), .inr (5, (fX5 (a 5) (a 6) (a 7) (a 8)))), (aI k (a 5) 10 (vv n0 see0 tm0 g0)), (aI k (a 7) 24 fp0), (aI k (a 8) 4 fl0), ((a 9), .inr (5, (fX5 (a 10) (a 11) (a 12) (a 13)))), (aI k (a 10) 10 (vv n1 see1 tm1 g1)), (aI k (a 12) 24 fp1), (aI k (a 13) 4 fl1), ((a 14), .inr (5, (fX5 (a 15) (a 16) (a 17) (a 18)))), (aI k (a 15) 10 (vv n2 see2 tm2 g2)), (aI k (a 17) 24 fp2), (aI k (a 18) 4 fl2), ((a 53), .inr (4, (fX4 (a 54) (a 55) (nI cc) (nI rz) ro sd))), (aI k (a 54) 4 wk), (aI k (a 55) 4 (nF br)), ((a 68), .inr (1, (fX1 (a 53) (a 69) (a 70) (a 71) (nI n2) p1 0 0))), (aI k (a 69) 4 (nF pb__10)), (aI k (a 70) 100 pco__9), (aI k (a 71) 16 pg)] [0, 1, 2, 3, 4, 5, 6, 7, 8, 9, 11, 12, 13, 14, 20, 15, 16, 17, 18, 19, 10] hP hD (by decide +kernel) rfl
      exact W.iret (v := r_10) hx hb hr (fun t ht hW => ⟨⟨r_10, ((nI n2), p1, 0, 0, pb__10, pco__9), rfl, hw_10, by rw [ht]; exact hP9, hD9⟩, hS.F ht⟩) hS.2.2 dX7_allRests_49
    · have c_8 : ¬ (cc ≤ 2) := fun h => c_8 ((nI_leI (a := cc) (b := 2) (by omega) (by omega)).mpr h)
      refine lv_sipush (v := (-1003)) hx hb dX7_allRests_24 (by decide) ?_
      obtain ⟨hP9, hD9⟩ := pd_sub [((a 0), .inr (7, (fX7 (a 1) (a 3) (a 19) (a 35) (a 40) (nI rk) lfa (a 53) (a 56) (a 63) (a 64) (a 68)))), ((a 3), .inl (k 3, 3, .inr (.inr (.inr (.inr (a3 (a 4) (a 9) (a 14))))))), ((a 4), .inr (5, (fX5 (a 5) (a 6) (a 7) (a 8)))), (aI k (a 5) 10 (vv n0 see0 tm0 g0)), (aI k (a 7) 24 fp0), (aI k (a 8) 4 fl0), ((a 9), .inr (5, (fX5 (a 10) (a 11) (a 12) (a 13)))), (aI k (a 10) 10 (vv n1 see1 tm1 g1)), (aI k (a 12) 24 fp1), (aI k (a 13) 4 fl1), ((a 14), .inr (5, (fX5 (a 15) (a 16) (a 17) (a 18)))), (aI k (a 15) 10 (vv n2 see2 tm2 g2)), (aI k (a 17) 24 fp2), (aI k (a 18) 4 fl2), ((a 53), .inr (4, (fX4 (a 54) (a 55) (nI cc) (nI rz) ro sd))), (aI k (a 54) 4 wk), (aI k (a 55) 4 (nF br)), ((a 68), .inr (1, (fX1 (a 53) (a 69) (a 70) (a 71) pn pf pd pe))), (aI k (a 69) 4 (nF pb)), (aI k (a 70) 100 pco), (aI k (a 71) 16 pg)] [0, 1, 2, 3, 4, 5, 6, 7, 8, 9, 10, 11, 12, 13, 14, 15, 16, 17, 18, 19, 20] hP hD (by decide +kernel) rfl
      exact W.iret (v := (-1003)) hx hb hr (fun t ht hW => ⟨⟨(-1003), (pn, pf, pd, pe, pb, pco), rfl, hpb, by rw [ht]; exact hP9, hD9⟩, hS.F ht⟩) hS.2.2 dX7_allRests_27
  · refine lv_istore_n (lv' := [(3, .int (-1001)), (0, .ref (a 0)), (1, .int p0), (2, .int p1)]) hx hb dX7_allRests_6 rfl hl (by decide) rfl (fun ls hl => ?_)
    refine lv_iload_n hx hb dX7_allRests_7 rfl (lv_at hl 0 rfl) ?_
    refine lv_if_eq (tgt := 13) hx hb dX7_allRests_8 (by decide) (fun h => absurd h (by decide)) (fun _ => ?_)
    refine lv_iload_n hx hb dX7_allRests_11 rfl (lv_at hl 0 rfl) ?_
    obtain ⟨hP9, hD9⟩ := pd_sub [((a 0), .inr (7, (fX7 (a 1) (a 3) (a 19) (a 35) (a 40) (nI rk) lfa (a 53) (a 56) (a 63) (a 64) (a 68)))), ((a 3), .inl (k 3, 3, .inr (.inr (.inr (.inr (a3 (a 4) (a 9) (a 14))))))), ((a 4), .inr (5, (fX5 (a 5) (a 6) (a 7) (a 8)))), (aI k (a 5) 10 (vv n0 see0 tm0 g0)), (aI k (a 7) 24 fp0), (aI k (a 8) 4 fl0), ((a 9), .inr (5, (fX5 (a 10) (a 11) (a 12) (a 13)))), (aI k (a 10) 10 (vv n1 see1 tm1 g1)), (aI k (a 12) 24 fp1), (aI k (a 13) 4 fl1), ((a 14), .inr (5, (fX5 (a 15) (a 16) (a 17) (a 18)))), (aI k (a 15) 10 (vv n2 see2 tm2 g2)), (aI k (a 17) 24 fp2), (aI k (a 18) 4 fl2), ((a 53), .inr (4, (fX4 (a 54) (a 55) (nI cc) (nI rz) ro sd))), (aI k (a 54) 4 wk), (aI k (a 55) 4 (nF br)), ((a 68), .inr (1, (fX1 (a 53) (a 69) (a 70) (a 71) pn pf pd pe))), (aI k (a 69) 4 (nF pb)), (aI k (a 70) 100 pco), (aI k (a 71) 16 pg)] [0, 1, 2, 3, 4, 5, 6, 7, 8, 9, 10, 11, 12, 13, 14, 15, 16, 17, 18, 19, 20] hP hD (by decide +kernel) rfl
    exact W.iret (v := (-1001)) hx hb hr (fun t ht hW => ⟨⟨(-1001), (pn, pf, pd, pe, pb, pco), rfl, hpb, by rw [ht]; exact hP9, hD9⟩, hS.F ht⟩) hS.2.2 dX7_allRests_12
  · refine lv_istore_n (lv' := [(3, .int (-1002)), (0, .ref (a 0)), (1, .int p0), (2, .int p1)]) hx hb dX7_allRests_6 rfl hl (by decide) rfl (fun ls hl => ?_)
    refine lv_iload_n hx hb dX7_allRests_7 rfl (lv_at hl 0 rfl) ?_
    refine lv_if_eq (tgt := 13) hx hb dX7_allRests_8 (by decide) (fun h => absurd h (by decide)) (fun _ => ?_)
    refine lv_iload_n hx hb dX7_allRests_11 rfl (lv_at hl 0 rfl) ?_
    obtain ⟨hP9, hD9⟩ := pd_sub [((a 0), .inr (7, (fX7 (a 1) (a 3) (a 19) (a 35) (a 40) (nI rk) lfa (a 53) (a 56) (a 63) (a 64) (a 68)))), ((a 3), .inl (k 3, 3, .inr (.inr (.inr (.inr (a3 (a 4) (a 9) (a 14))))))), ((a 4), .inr (5, (fX5 (a 5) (a 6) (a 7) (a 8)))), (aI k (a 5) 10 (vv n0 see0 tm0 g0)), (aI k (a 7) 24 fp0), (aI k (a 8) 4 fl0), ((a 9), .inr (5, (fX5 (a 10) (a 11) (a 12) (a 13)))), (aI k (a 10) 10 (vv n1 see1 tm1 g1)), (aI k (a 12) 24 fp1), (aI k (a 13) 4 fl1), ((a 14), .inr (5, (fX5 (a 15) (a 16) (a 17) (a 18)))), (aI k (a 15) 10 (vv n2 see2 tm2 g2)), (aI k (a 17) 24 fp2), (aI k (a 18) 4 fl2), ((a 53), .inr (4, (fX4 (a 54) (a 55) (nI cc) (nI rz) ro sd))), (aI k (a 54) 4 wk), (aI k (a 55) 4 (nF br)), ((a 68), .inr (1, (fX1 (a 53) (a 69) (a 70) (a 71) pn pf pd pe))), (aI k (a 69) 4 (nF pb)), (aI k (a 70) 100 pco), (aI k (a 71) 16 pg)] [0, 1, 2, 3, 4, 5, 6, 7, 8, 9, 10, 11, 12, 13, 14, 15, 16, 17, 18, 19, 20] hP hD (by decide +kernel) rfl
    exact W.iret (v := (-1002)) hx hb hr (fun t ht hW => ⟨⟨(-1002), (pn, pf, pd, pe, pb, pco), rfl, hpb, by rw [ht]; exact hP9, hD9⟩, hS.F ht⟩) hS.2.2 dX7_allRests_12

theorem dX7_lost_0 : decode cX7_lost 0 = .ok (.aload_n 0, 1) := by decide +kernel
theorem dX7_lost_1 : decode cX7_lost 1 = .ok (.iload_n 1, 1) := by decide +kernel
theorem dX7_lost_2 : decode cX7_lost 2 = .ok (.iload_n 2, 1) := by decide +kernel
theorem dX7_lost_3 : decode cX7_lost 3 = .ok (.invokevirtual 239, 3) := by decide +kernel
theorem dX7_lost_6 : decode cX7_lost 6 = .ok (.istore_n 3, 1) := by decide +kernel
theorem dX7_lost_7 : decode cX7_lost 7 = .ok (.iload_n 3, 1) := by decide +kernel
theorem dX7_lost_8 : decode cX7_lost 8 = .ok (.ifCond .eq 5, 3) := by decide +kernel
theorem dX7_lost_11 : decode cX7_lost 11 = .ok (.iload_n 3, 1) := by decide +kernel
theorem dX7_lost_12 : decode cX7_lost 12 = .ok (.ireturn, 1) := by decide +kernel
theorem dX7_lost_13 : decode cX7_lost 13 = .ok (.aload_n 0, 1) := by decide +kernel
theorem dX7_lost_14 : decode cX7_lost 14 = .ok (.getfield 73, 3) := by decide +kernel
theorem dX7_lost_17 : decode cX7_lost 17 = .ok (.aload_n 0, 1) := by decide +kernel
theorem dX7_lost_18 : decode cX7_lost 18 = .ok (.getfield 18, 3) := by decide +kernel
theorem dX7_lost_21 : decode cX7_lost 21 = .ok (.iload_n 1, 1) := by decide +kernel
theorem dX7_lost_22 : decode cX7_lost 22 = .ok (.aaload, 1) := by decide +kernel
theorem dX7_lost_23 : decode cX7_lost 23 = .ok (.iload_n 2, 1) := by decide +kernel
theorem dX7_lost_24 : decode cX7_lost 24 = .ok (.invokevirtual 229, 3) := by decide +kernel
theorem dX7_lost_27 : decode cX7_lost 27 = .ok (.aload_n 0, 1) := by decide +kernel
theorem dX7_lost_28 : decode cX7_lost 28 = .ok (.getfield 73, 3) := by decide +kernel
theorem dX7_lost_31 : decode cX7_lost 31 = .ok (.invokevirtual 257, 3) := by decide +kernel
theorem dX7_lost_34 : decode cX7_lost 34 = .ok (.aload_n 0, 1) := by decide +kernel
theorem dX7_lost_35 : decode cX7_lost 35 = .ok (.getfield 73, 3) := by decide +kernel
theorem dX7_lost_38 : decode cX7_lost 38 = .ok (.invokevirtual 260, 3) := by decide +kernel
theorem dX7_lost_41 : decode cX7_lost 41 = .ok (.isub, 1) := by decide +kernel
theorem dX7_lost_42 : decode cX7_lost 42 = .ok (.ireturn, 1) := by decide +kernel
set_option maxHeartbeats 4000000 in
set_option maxRecDepth 100000 in
theorem x_lost (l : Launch) (D : va_G) (k : Nat → ClassId) (st : Nat → Nat) (lo : Nat) (a : Nat → Nat) (rk : Nat) (lfa : Int32) (n0 : Nat) (see0 : Nat) (tm0 : Nat) (g0 : Nat → Int32) (fp0 : Nat → Int32) (fl0 : Nat → Int32) (n1 : Nat) (see1 : Nat) (tm1 : Nat) (g1 : Nat → Int32) (fp1 : Nat → Int32) (fl1 : Nat → Int32) (n2 : Nat) (see2 : Nat) (tm2 : Nat) (g2 : Nat → Int32) (fp2 : Nat → Int32) (fl2 : Nat → Int32) (cc : Nat) (rz : Nat) (ro : Int32) (sd : Int32) (wk : Nat → Int32) (br : Nat → Nat) (pn : Int32) (pf : Int32) (pd : Int32) (pe : Int32) (pb : Nat → Nat) (pco : Nat → Int32) (pg : Nat → Int32) (p0 : Int32) (p1 : Int32) (hn0 : n0 ≤ 24) (hse0 : see0 ≤ 2) (htm0 : tm0 ≤ 3) (hn1 : n1 ≤ 24) (hse1 : see1 ≤ 2) (htm1 : tm1 ≤ 3) (hn2 : n2 ≤ 24) (hse2 : see2 ≤ 2) (htm2 : tm2 ≤ 3) (hcc : cc ≤ 4) (hbr : ∀ j, br j ≤ 24) (hpb : ∀ j, pb j ≤ 24) : CWi l D k st lo yX7_lost cX7_lost 4 (some .int) ({ frames := 3, cells := 0, slots := 0, locals := 108 }) 0 0 [.ref (a 0), .int p0, .int p1] [((a 0), .inr (7, (fX7 (a 1) (a 3) (a 19) (a 35) (a 40) (nI rk) lfa (a 53) (a 56) (a 63) (a 64) (a 68)))), ((a 3), .inl (k 3, 3, .inr (.inr (.inr (.inr (a3 (a 4) (a 9) (a 14))))))), ((a 4), .inr (5, (fX5 (a 5) (a 6) (a 7) (a 8)))), (aI k (a 5) 10 (vv n0 see0 tm0 g0)), (aI k (a 7) 24 fp0), (aI k (a 8) 4 fl0), ((a 9), .inr (5, (fX5 (a 10) (a 11) (a 12) (a 13)))), (aI k (a 10) 10 (vv n1 see1 tm1 g1)), (aI k (a 12) 24 fp1), (aI k (a 13) 4 fl1), ((a 14), .inr (5, (fX5 (a 15) (a 16) (a 17) (a 18)))), (aI k (a 15) 10 (vv n2 see2 tm2 g2)), (aI k (a 17) 24 fp2), (aI k (a 18) 4 fl2), ((a 53), .inr (4, (fX4 (a 54) (a 55) (nI cc) (nI rz) ro sd))), (aI k (a 54) 4 wk), (aI k (a 55) 4 (nF br)), ((a 68), .inr (1, (fX1 (a 53) (a 69) (a 70) (a 71) pn pf pd pe))), (aI k (a 69) 4 (nF pb)), (aI k (a 70) 100 pco), (aI k (a 71) 16 pg)] (fun (r : Int32) (u : Int32 × Int32 × Int32 × Int32 × (Nat → Nat) × (Nat → Int32) × (Nat → Int32)) => match u with | (pn_, pf_, pd_, pe_, pb_, pco_, pg_) => ∀ j, pb_ j ≤ 24) (fun (u : Int32 × Int32 × Int32 × Int32 × (Nat → Nat) × (Nat → Int32) × (Nat → Int32)) => match u with | (pn_, pf_, pd_, pe_, pb_, pco_, pg_) => [((a 0), .inr (7, (fX7 (a 1) (a 3) (a 19) (a 35) (a 40) (nI rk) lfa (a 53) (a 56) (a 63) (a 64) (a 68)))), ((a 3), .inl (k 3, 3, .inr (.inr (.inr (.inr (a3 (a 4) (a 9) (a 14))))))), ((a 4), .inr (5, (fX5 (a 5) (a 6) (a 7) (a 8)))), (aI k (a 5) 10 (vv n0 see0 tm0 g0)), (aI k (a 7) 24 fp0), (aI k (a 8) 4 fl0), ((a 9), .inr (5, (fX5 (a 10) (a 11) (a 12) (a 13)))), (aI k (a 10) 10 (vv n1 see1 tm1 g1)), (aI k (a 12) 24 fp1), (aI k (a 13) 4 fl1), ((a 14), .inr (5, (fX5 (a 15) (a 16) (a 17) (a 18)))), (aI k (a 15) 10 (vv n2 see2 tm2 g2)), (aI k (a 17) 24 fp2), (aI k (a 18) 4 fl2), ((a 53), .inr (4, (fX4 (a 54) (a 55) (nI cc) (nI rz) ro sd))), (aI k (a 54) 4 wk), (aI k (a 55) 4 (nF br)), ((a 68), .inr (1, (fX1 (a 53) (a 69) (a 70) (a 71) pn_ pf_ pd_ pe_))), (aI k (a 69) 4 (nF pb_)), (aI k (a 70) 100 pco_), (aI k (a 71) 16 pg_)]) := by
  intro sz
  refine Met.ofW (cc := cX7_lost) (maxL := 4) (ret := (some .int)) (by decide) rfl ?_
  intro p e s m args below meth c s₁ B hml hv
  obtain ⟨rfl, hsz, hlo, hP, hK, hDL, hZ⟩ := hv
  have hx := B.exec
  have hb := B.bytes
  have hr := B.returns
  have hts := WS_ts B.pre
  have hown : s.vm.findClass RX7 = some m.cls := findClass_of_methodNamed B.named
  have hlocks := B.notSynchronized
  subst hsz
  have hD := hDL.self (sz := s.heap.size)
  have hAlo := A_lo hDL hlo
  generalize hAe : va_A [((a 0), .inr (7, (fX7 (a 1) (a 3) (a 19) (a 35) (a 40) (nI rk) lfa (a 53) (a 56) (a 63) (a 64) (a 68)))), ((a 3), .inl (k 3, 3, .inr (.inr (.inr (.inr (a3 (a 4) (a 9) (a 14))))))), ((a 4), .inr (5, (fX5 (a 5) (a 6) (a 7) (a 8)))), (aI k (a 5) 10 (vv n0 see0 tm0 g0)), (aI k (a 7) 24 fp0), (aI k (a 8) 4 fl0), ((a 9), .inr (5, (fX5 (a 10) (a 11) (a 12) (a 13)))), (aI k (a 10) 10 (vv n1 see1 tm1 g1)), (aI k (a 12) 24 fp1), (aI k (a 13) 4 fl1), ((a 14), .inr (5, (fX5 (a 15) (a 16) (a 17) (a 18)))), (aI k (a 15) 10 (vv n2 see2 tm2 g2)), (aI k (a 17) 24 fp2), (aI k (a 18) 4 fl2), ((a 53), .inr (4, (fX4 (a 54) (a 55) (nI cc) (nI rz) ro sd))), (aI k (a 54) 4 wk), (aI k (a 55) 4 (nF br)), ((a 68), .inr (1, (fX1 (a 53) (a 69) (a 70) (a 71) pn pf pd pe))), (aI k (a 69) 4 (nF pb)), (aI k (a 70) 100 pco), (aI k (a 71) 16 pg)] s.heap.size = A at hD hAlo ⊢
  have hA : ∀ q : Nat, s.heap.size ≤ q → A q := fun q h => by rw [← hAe]; exact Or.inr h
  have hS : va_S A s.heap s.heap [] := va_S.rf
  have hl := lv_entry ([.ref (a 0), .int p0, .int p1]) (n := 4) (Nat.le_of_ble_eq_true rfl)
  rw [lg_entry_eq]
  generalize (lg_sl ([.ref (a 0), .int p0, .int p1]) ++ List.replicate (4 - (lg_sl ([.ref (a 0), .int p0, .int p1])).length) Slot.unset).toArray = ls at hl ⊢
  have hl : lv_has ls 4 [(0, .ref (a 0)), (1, .int p0), (2, .int p1)] := hl
  refine lv_aload_n hx hb dX7_lost_0 rfl (lv_at hl 0 rfl) ?_
  refine lv_iload_n hx hb dX7_lost_1 rfl (lv_at hl 1 rfl) ?_
  refine lv_iload_n hx hb dX7_lost_2 rfl (lv_at hl 2 rfl) ?_
  refine ro_i (D := D) (va_runV (As := [.int p0, .int p1]) (rest := []) ⟨hx, hb, hml, hown, hts⟩ ((x_refuseSet l D k st lo a rk lfa n0 see0 tm0 g0 n1 see1 tm1 g1 n2 see2 tm2 g2 p0 p1 (by first | assumption | omega) (by first | assumption | omega) (by first | assumption | omega)) s.heap.size) (cwV 2 hts (gV tw_850 tw_852 tw_21 tw_79 tw_853) rfl rfl rfl (by decide +kernel) ⟨Nat.le_of_ble_eq_true rfl, Nat.le_of_ble_eq_true rfl⟩) (pV hS hAlo hlo hP hK (va_Dlo hD hAlo) hZ [0, 1, 2, 3, 6, 7, 10, 11] (by decide) rfl (ci := 7) (q := (RX7, TX7, 12)) (q0 := 0) rfl rfl) rfl rfl hl.1 rfl (lv_room (Nat.le_of_ble_eq_true rfl)) dX7_lost_3 ⟨Nat.le_of_ble_eq_true rfl, Nat.le_of_ble_eq_true rfl⟩) hS hA hP (fun r_1 H locs hw_1 hP hS => ?_)
  try dsimp only at hw_1
  rcases hw_1 with ⟨rfl, rfl | rfl | rfl⟩ | rfl | rfl
  · refine lv_istore_n (lv' := [(3, .int 0), (0, .ref (a 0)), (1, .int 0), (2, .int p1)]) hx hb dX7_lost_6 rfl hl (by decide) rfl (fun ls hl => ?_)
    refine lv_iload_n hx hb dX7_lost_7 rfl (lv_at hl 0 rfl) ?_
    refine lv_if_eq (tgt := 13) hx hb dX7_lost_8 (by decide) (fun _ => ?_) (fun h => absurd (by decide) h)
    refine lv_aload_n hx hb dX7_lost_13 rfl (lv_at hl 1 rfl) ?_
    refine va_get (D := D) (ci := 7) (v := .ref (a 68)) (C := RX7) (T := TX7) (N := 12) hx hb hts inX7 hown hK hP 0 rfl rfl 11 (by decide) (hts _ tw_316) (fun _ h9 => h9) rfl dX7_lost_14 ?_
    refine lv_aload_n hx hb dX7_lost_17 rfl (lv_at hl 1 rfl) ?_
    refine va_get (D := D) (ci := 7) (v := .ref (a 3)) (C := RX7) (T := TX7) (N := 12) hx hb hts inX7 hown hK hP 0 rfl rfl 1 (by decide) (hts _ tw_306) (fun _ h9 => h9) rfl dX7_lost_18 ?_
    refine lv_iload_n hx hb dX7_lost_21 rfl (lv_at hl 2 rfl) ?_
    refine va_aldq hx hb hK hP 1 3 rfl rfl (by unfold vp_in; decide) dX7_lost_22 ?_
    refine lv_tr (y := .ref (a 4)) rfl ?_
    refine lv_iload_n hx hb dX7_lost_23 rfl (lv_at hl 3 rfl) ?_
    refine rw_v (D := D) (wr := [((a 0), .inr (7, (fX7 (a 1) (a 3) (a 19) (a 35) (a 40) (nI rk) lfa (a 53) (a 56) (a 63) (a 64) (a 68)))), ((a 3), .inl (k 3, 3, .inr (.inr (.inr (.inr (a3 (a 4) (a 9) (a 14))))))), ((a 9), .inr (5, (fX5 (a 10) (a 11) (a 12) (a 13)))), (aI k (a 10) 10 (vv n1 see1 tm1 g1)), (aI k (a 12) 24 fp1), (aI k (a 13) 4 fl1), ((a 14), .inr (5, (fX5 (a 15) (a 16) (a 17) (a 18)))), (aI k (a 15) 10 (vv n2 see2 tm2 g2)), (aI k (a 17) 24 fp2), (aI k (a 18) 4 fl2), (aI k (a 71) 16 pg)]) (va_runV (As := [.ref (a 4), .int p1]) (rest := []) ⟨hx, hb, hml, hown, hts⟩ ((x_comeTo l D k st lo (a 53) (a 68) (a 69) (a 70) (a 71) pn pf pd pe pb pco (a 4) (a 5) (a 6) (a 7) (a 8) n0 see0 tm0 g0 fp0 fl0 (a 54) (a 55) cc rz ro sd wk br p1 (by first | assumption | omega) (by first | assumption | omega) hbr hpb) H.size) (cwV 2 hts (gV tw_821 tw_822 tw_823 tw_84 tw_824) rfl rfl rfl (by decide +kernel) ⟨Nat.le_of_ble_eq_true rfl, Nat.le_of_ble_eq_true rfl⟩) (pV hS hAlo hlo hP hK (va_Dlo hD hAlo) hZ [17, 18, 19, 2, 3, 4, 5, 14, 15, 16] (by decide +kernel) rfl (ci := 1) (q := (RX1, TX1, 8)) (q0 := 0) rfl rfl) rfl rfl hl.1 rfl (lv_room (Nat.le_of_ble_eq_true rfl)) dX7_lost_24 ⟨Nat.le_of_ble_eq_true rfl, Nat.le_of_ble_eq_true rfl⟩) hS hA hP hD [17, 18, 19, 2, 3, 4, 5, 14, 15, 16] [0, 1, 6, 7, 8, 9, 10, 11, 12, 13, 20] rfl rfl (by decide +kernel) (by decide +kernel) (fun u H locs hw_2 hP hD hS => ?_)
    obtain ⟨pb__2, pco__2⟩ := u
    have hQ9 := pd_mk [((a 0), .inr (7, (fX7 (a 1) (a 3) (a 19) (a 35) (a 40) (nI rk) lfa (a 53) (a 56) (a 63) (a 64) (a 68)))), ((a 3), .inl (k 3, 3, .inr (.inr (.inr (.inr (a3 (a 4) (a 9) (a 14))))))), ((a 9), .inr (5, (fX5 (a 10) (a 11) (a 12) (a 13)))), (aI k (a 10) 10 (vv n1 see1 tm1 g1)), (aI k (a 12) 24 fp1), (aI k (a 13) 4 fl1), ((a 14), .inr (5, (fX5 (a 15) (a 16) (a 17) (a 18)))), (aI k (a 15) 10 (vv n2 see2 tm2 g2)), (aI k (a 17) 24 fp2), (aI k (a 18) 4 fl2), (aI k (a 71) 16 pg), ((a 68), .inr (1, (fX1 (a 53) (a 69) (a 70) (a 71) (nI n0) p1 0 0))), (aI k (a 69) 4 (nF pb__2)), (aI k (a 70) 100 pco__2), ((a 4), .inr (5, (fX5 (a 5) (a 6) (a 7) (a 8)))), (aI k (a 5) 10 (vv n0 see0 tm0 g0)), (aI k (a 7) 24 fp0), (aI k (a 8) 4 fl0), ((a 53), .inr (4, (fX4 (a 54) (a 55) (nI cc) (nI rz) ro sd))), (aI k (a 54) 4 wk), (aI k (a 55) 4 (nF br))] hP hD
    clear hP hD
    obtain ⟨hP, hD⟩ := hQ9
    try dsimp only at hw_2
    refine lv_aload_n hx hb dX7_lost_27 rfl (lv_at hl 1 rfl) ?_
    refine va_get (D := D) (ci := 7) (v := .ref (a 68)) (C := RX7) (T := TX7) (N := 12) hx hb hts inX7 hown hK hP 0 rfl rfl 11 (by decide) (hts _ tw_316) (fun _ h9 => h9) rfl dX7_lost_28 ?_
    refine ro_i (D := D) (va_runV (As := []) (rest := []) ⟨hx, hb, hml, hown, hts⟩ ((x_costOfAll l D k st lo (a 53) (a 68) (a 69) (a 70) (a 71) n0 p1 0 0 pb__2 pco__2 (a 54) (a 55) cc rz ro sd (by first | assumption | omega) (by first | assumption | omega) hw_2) H.size) (cwV 0 hts (gV tw_897 tw_898 tw_899 tw_84 tw_900) rfl rfl rfl (by decide +kernel) ⟨Nat.le_of_ble_eq_true rfl, Nat.le_of_ble_eq_true rfl⟩) (pV hS hAlo hlo hP hK (va_Dlo hD hAlo) hZ [11, 12, 13, 18] (by decide) rfl (ci := 1) (q := (RX1, TX1, 8)) (q0 := 0) rfl rfl) rfl rfl hl.1 rfl (lv_room (Nat.le_of_ble_eq_true rfl)) dX7_lost_31 ⟨Nat.le_of_ble_eq_true rfl, Nat.le_of_ble_eq_true rfl⟩) hS hA hP (fun r_3 H locs hw_3 hP hS => ?_)
    try dsimp only at hw_3
    refine lv_aload_n hx hb dX7_lost_34 rfl (lv_at hl 1 rfl) ?_
    refine va_get (D := D) (ci := 7) (v := .ref (a 68)) (C := RX7) (T := TX7) (N := 12) hx hb hts inX7 hown hK hP 0 rfl rfl 11 (by decide) (hts _ tw_316) (fun _ h9 => h9) rfl dX7_lost_35 ?_
    refine rw_i (D := D) (wr := [((a 0), .inr (7, (fX7 (a 1) (a 3) (a 19) (a 35) (a 40) (nI rk) lfa (a 53) (a 56) (a 63) (a 64) (a 68)))), ((a 3), .inl (k 3, 3, .inr (.inr (.inr (.inr (a3 (a 4) (a 9) (a 14))))))), ((a 9), .inr (5, (fX5 (a 10) (a 11) (a 12) (a 13)))), (aI k (a 10) 10 (vv n1 see1 tm1 g1)), (aI k (a 12) 24 fp1), (aI k (a 13) 4 fl1), ((a 14), .inr (5, (fX5 (a 15) (a 16) (a 17) (a 18)))), (aI k (a 15) 10 (vv n2 see2 tm2 g2)), (aI k (a 17) 24 fp2), (aI k (a 18) 4 fl2), (aI k (a 69) 4 (nF pb__2)), ((a 4), .inr (5, (fX5 (a 5) (a 6) (a 7) (a 8)))), (aI k (a 5) 10 (vv n0 see0 tm0 g0)), (aI k (a 7) 24 fp0), (aI k (a 8) 4 fl0), (aI k (a 54) 4 wk), (aI k (a 55) 4 (nF br))]) (va_runV (As := []) (rest := [.int r_3]) ⟨hx, hb, hml, hown, hts⟩ ((x_leastOfAll l D k st lo (a 53) (a 68) (a 69) (a 70) (a 71) n0 p1 0 0 pco__2 pg (a 54) (a 55) cc rz ro sd (by first | assumption | omega) (by first | assumption | omega)) H.size) (cwV 0 hts (gV tw_901 tw_902 tw_903 tw_84 tw_904) rfl rfl rfl (by decide +kernel) ⟨Nat.le_of_ble_eq_true rfl, Nat.le_of_ble_eq_true rfl⟩) (pV hS hAlo hlo hP hK (va_Dlo hD hAlo) hZ [11, 13, 10, 18] (by decide) rfl (ci := 1) (q := (RX1, TX1, 8)) (q0 := 0) rfl rfl) rfl rfl hl.1 rfl (lv_room (Nat.le_of_ble_eq_true rfl)) dX7_lost_38 ⟨Nat.le_of_ble_eq_true rfl, Nat.le_of_ble_eq_true rfl⟩) hS hA hP hD [11, 13, 10, 18] [0, 1, 2, 3, 4, 5, 6, 7, 8, 9, 12, 14, 15, 16, 17, 19, 20] rfl rfl (by decide +kernel) (by decide +kernel) (fun r_4 u H locs hw_4 hP hD hS => ?_)
    obtain ⟨pg__4, rfl⟩ : ∃ z, z = u := ⟨_, rfl⟩
    have hQ9 := pd_mk [((a 0), .inr (7, (fX7 (a 1) (a 3) (a 19) (a 35) (a 40) (nI rk) lfa (a 53) (a 56) (a 63) (a 64) (a 68)))), ((a 3), .inl (k 3, 3, .inr (.inr (.inr (.inr (a3 (a 4) (a 9) (a 14))))))), ((a 9), .inr (5, (fX5 (a 10) (a 11) (a 12) (a 13)))), (aI k (a 10) 10 (vv n1 see1 tm1 g1)), (aI k (a 12) 24 fp1), (aI k (a 13) 4 fl1), ((a 14), .inr (5, (fX5 (a 15) (a 16) (a 17) (a 18)))), (aI k (a 15) 10 (vv n2 see2 tm2 g2)), (aI k (a 17) 24 fp2), (aI k (a 18) 4 fl2), (aI k (a 69) 4 (nF pb__2)), ((a 4), .inr (5, (fX5 (a 5) (a 6) (a 7) (a 8)))), (aI k (a 5) 10 (vv n0 see0 tm0 g0)), (aI k (a 7) 24 fp0), (aI k (a 8) 4 fl0), (aI k (a 54) 4 wk), (aI k (a 55) 4 (nF br)), ((a 68), .inr (1, (fX1 (a 53) (a 69) (a 70) (a 71) (nI n0) p1 0 0))), (aI k (a 70) 100 pco__2), (aI k (a 71) 16 pg__4), ((a 53), .inr (4, (fX4 (a 54) (a 55) (nI cc) (nI rz) ro sd)))] hP hD
    clear hP hD
    obtain ⟨hP, hD⟩ := hQ9
    try dsimp only at hw_4
    refine lv_isub hx hb dX7_lost_41 ?_
    refine lv_topi (fun x_5 ex_5 => ?_)
    obtain ⟨hP9, hD9⟩ := pd_sub [((a 0), .inr (7, (fX7 (a 1) (a 3) (a 19) (a 35) (a 40) (nI rk) lfa (a 53) (a 56) (a 63) (a 64) (a 68)))), ((a 3), .inl (k 3, 3, .inr (.inr (.inr (.inr (a3 (a 4) (a 9) (a 14))))))), ((a 4), .inr (5, (fX5 (a 5) (a 6) (a 7) (a 8)))), (aI k (a 5) 10 (vv n0 see0 tm0 g0)), (aI k (a 7) 24 fp0), (aI k (a 8) 4 fl0), ((a 9), .inr (5, (fX5 (a 10) (a 11) (a 12) (a 13)))), (aI k (a 10) 10 (vv n1 see1 tm1 g1)), (aI k (a 12) 24 fp1), (aI k (a 13) 4 fl1), ((a 14), .inr (5, (fX5 (a 15) (a 16) (a 17) (a 18)))), (aI k (a 15) 10 (vv n2 see2 tm2 g2)), (aI k (a 17) 24 fp2), (aI k (a 18) 4 fl2), ((a 53), .inr (4, (fX4 (a 54) (a 55) (nI cc) (nI rz) ro sd))), (aI k (a 54) 4 wk), (aI k (a 55) 4 (nF br)), ((a 68), .inr (1, (fX1 (a 53) (a 69) (a 70) (a 71) (nI n0) p1 0 0))), (aI k (a 69) 4 (nF pb__2)), (aI k (a 70) 100 pco__2), (aI k (a 71) 16 pg__4)] [0, 1, 11, 12, 13, 14, 2, 3, 4, 5, 6, 7, 8, 9, 20, 15, 16, 17, 10, 18, 19] hP hD (by decide +kernel) rfl
    exact W.iret (v := x_5) hx hb hr (fun t ht hW => ⟨⟨x_5, ((nI n0), p1, 0, 0, pb__2, pco__2, pg__4), rfl, hw_2, by rw [ht]; exact hP9, hD9⟩, hS.F ht⟩) hS.2.2 dX7_lost_42
  · refine lv_istore_n (lv' := [(3, .int 0), (0, .ref (a 0)), (1, .int 1), (2, .int p1)]) hx hb dX7_lost_6 rfl hl (by decide) rfl (fun ls hl => ?_)
    refine lv_iload_n hx hb dX7_lost_7 rfl (lv_at hl 0 rfl) ?_
    refine lv_if_eq (tgt := 13) hx hb dX7_lost_8 (by decide) (fun _ => ?_) (fun h => absurd (by decide) h)
    refine lv_aload_n hx hb dX7_lost_13 rfl (lv_at hl 1 rfl) ?_
    refine va_get (D := D) (ci := 7) (v := .ref (a 68)) (C := RX7) (T := TX7) (N := 12) hx hb hts inX7 hown hK hP 0 rfl rfl 11 (by decide) (hts _ tw_316) (fun _ h9 => h9) rfl dX7_lost_14 ?_
    refine lv_aload_n hx hb dX7_lost_17 rfl (lv_at hl 1 rfl) ?_
    refine va_get (D := D) (ci := 7) (v := .ref (a 3)) (C := RX7) (T := TX7) (N := 12) hx hb hts inX7 hown hK hP 0 rfl rfl 1 (by decide) (hts _ tw_306) (fun _ h9 => h9) rfl dX7_lost_18 ?_
    refine lv_iload_n hx hb dX7_lost_21 rfl (lv_at hl 2 rfl) ?_
    refine va_aldq hx hb hK hP 1 3 rfl rfl (by unfold vp_in; decide) dX7_lost_22 ?_
    refine lv_tr (y := .ref (a 9)) rfl ?_
    refine lv_iload_n hx hb dX7_lost_23 rfl (lv_at hl 3 rfl) ?_
    refine rw_v (D := D) (wr := [((a 0), .inr (7, (fX7 (a 1) (a 3) (a 19) (a 35) (a 40) (nI rk) lfa (a 53) (a 56) (a 63) (a 64) (a 68)))), ((a 3), .inl (k 3, 3, .inr (.inr (.inr (.inr (a3 (a 4) (a 9) (a 14))))))), ((a 4), .inr (5, (fX5 (a 5) (a 6) (a 7) (a 8)))), (aI k (a 5) 10 (vv n0 see0 tm0 g0)), (aI k (a 7) 24 fp0), (aI k (a 8) 4 fl0), ((a 14), .inr (5, (fX5 (a 15) (a 16) (a 17) (a 18)))), (aI k (a 15) 10 (vv n2 see2 tm2 g2)), (aI k (a 17) 24 fp2), (aI k (a 18) 4 fl2), (aI k (a 71) 16 pg)]) (va_runV (As := [.ref (a 9), .int p1]) (rest := []) ⟨hx, hb, hml, hown, hts⟩ ((x_comeTo l D k st lo (a 53) (a 68) (a 69) (a 70) (a 71) pn pf pd pe pb pco (a 9) (a 10) (a 11) (a 12) (a 13) n1 see1 tm1 g1 fp1 fl1 (a 54) (a 55) cc rz ro sd wk br p1 (by first | assumption | omega) (by first | assumption | omega) hbr hpb) H.size) (cwV 2 hts (gV tw_821 tw_822 tw_823 tw_84 tw_824) rfl rfl rfl (by decide +kernel) ⟨Nat.le_of_ble_eq_true rfl, Nat.le_of_ble_eq_true rfl⟩) (pV hS hAlo hlo hP hK (va_Dlo hD hAlo) hZ [17, 18, 19, 6, 7, 8, 9, 14, 15, 16] (by decide +kernel) rfl (ci := 1) (q := (RX1, TX1, 8)) (q0 := 0) rfl rfl) rfl rfl hl.1 rfl (lv_room (Nat.le_of_ble_eq_true rfl)) dX7_lost_24 ⟨Nat.le_of_ble_eq_true rfl, Nat.le_of_ble_eq_true rfl⟩) hS hA hP hD [17, 18, 19, 6, 7, 8, 9, 14, 15, 16] [0, 1, 2, 3, 4, 5, 10, 11, 12, 13, 20] rfl rfl (by decide +kernel) (by decide +kernel) (fun u H locs hw_6 hP hD hS => ?_)
    obtain ⟨pb__6, pco__6⟩ := u
    have hQ9 := pd_mk [((a 0), .inr (7, (fX7 (a 1) (a 3) (a 19) (a 35) (a 40) (nI rk) lfa (a 53) (a 56) (a 63) (a 64) (a 68)))), ((a 3), .inl (k 3, 3, .inr (.inr (.inr (.inr (a3 (a 4) (a 9) (a 14))))))), ((a 4), .inr (5, (fX5 (a 5) (a 6) (a 7) (a 8)))), (aI k (a 5) 10 (vv n0 see0 tm0 g0)), (aI k (a 7) 24 fp0), (aI k (a 8) 4 fl0), ((a 14), .inr (5, (fX5 (a 15) (a 16) (a 17) (a 18)))), (aI k (a 15) 10 (vv n2 see2 tm2 g2)), (aI k (a 17) 24 fp2), (aI k (a 18) 4 fl2), (aI k (a 71) 16 pg), ((a 68), .inr (1, (fX1 (a 53) (a 69) (a 70) (a 71) (nI n1) p1 0 0))), (aI k (a 69) 4 (nF pb__6)), (aI k (a 70) 100 pco__6), ((a 9), .inr (5, (fX5 (a 10) (a 11) (a 12) (a 13)))), (aI k (a 10) 10 (vv n1 see1 tm1 g1)), (aI k (a 12) 24 fp1), (aI k (a 13) 4 fl1), ((a 53), .inr (4, (fX4 (a 54) (a 55) (nI cc) (nI rz) ro sd))), (aI k (a 54) 4 wk), (aI k (a 55) 4 (nF br))] hP hD
    clear hP hD
    obtain ⟨hP, hD⟩ := hQ9
    try dsimp only at hw_6
    refine lv_aload_n hx hb dX7_lost_27 rfl (lv_at hl 1 rfl) ?_
    refine va_get (D := D) (ci := 7) (v := .ref (a 68)) (C := RX7) (T := TX7) (N := 12) hx hb hts inX7 hown hK hP 0 rfl rfl 11 (by decide) (hts _ tw_316) (fun _ h9 => h9) rfl dX7_lost_28 ?_
    refine ro_i (D := D) (va_runV (As := []) (rest := []) ⟨hx, hb, hml, hown, hts⟩ ((x_costOfAll l D k st lo (a 53) (a 68) (a 69) (a 70) (a 71) n1 p1 0 0 pb__6 pco__6 (a 54) (a 55) cc rz ro sd (by first | assumption | omega) (by first | assumption | omega) hw_6) H.size) (cwV 0 hts (gV tw_897 tw_898 tw_899 tw_84 tw_900) rfl rfl rfl (by decide +kernel) ⟨Nat.le_of_ble_eq_true rfl, Nat.le_of_ble_eq_true rfl⟩) (pV hS hAlo hlo hP hK (va_Dlo hD hAlo) hZ [11, 12, 13, 18] (by decide) rfl (ci := 1) (q := (RX1, TX1, 8)) (q0 := 0) rfl rfl) rfl rfl hl.1 rfl (lv_room (Nat.le_of_ble_eq_true rfl)) dX7_lost_31 ⟨Nat.le_of_ble_eq_true rfl, Nat.le_of_ble_eq_true rfl⟩) hS hA hP (fun r_7 H locs hw_7 hP hS => ?_)
    try dsimp only at hw_7
    refine lv_aload_n hx hb dX7_lost_34 rfl (lv_at hl 1 rfl) ?_
    refine va_get (D := D) (ci := 7) (v := .ref (a 68)) (C := RX7) (T := TX7) (N := 12) hx hb hts inX7 hown hK hP 0 rfl rfl 11 (by decide) (hts _ tw_316) (fun _ h9 => h9) rfl dX7_lost_35 ?_
    refine rw_i (D := D) (wr := [((a 0), .inr (7, (fX7 (a 1) (a 3) (a 19) (a 35) (a 40) (nI rk) lfa (a 53) (a 56) (a 63) (a 64) (a 68)))), ((a 3), .inl (k 3, 3, .inr (.inr (.inr (.inr (a3 (a 4) (a 9) (a 14))))))), ((a 4), .inr (5, (fX5 (a 5) (a 6) (a 7) (a 8)))), (aI k (a 5) 10 (vv n0 see0 tm0 g0)), (aI k (a 7) 24 fp0), (aI k (a 8) 4 fl0), ((a 14), .inr (5, (fX5 (a 15) (a 16) (a 17) (a 18)))), (aI k (a 15) 10 (vv n2 see2 tm2 g2)), (aI k (a 17) 24 fp2), (aI k (a 18) 4 fl2), (aI k (a 69) 4 (nF pb__6)), ((a 9), .inr (5, (fX5 (a 10) (a 11) (a 12) (a 13)))), (aI k (a 10) 10 (vv n1 see1 tm1 g1)), (aI k (a 12) 24 fp1), (aI k (a 13) 4 fl1), (aI k (a 54) 4 wk), (aI k (a 55) 4 (nF br))]) (va_runV (As := []) (rest := [.int r_7]) ⟨hx, hb, hml, hown, hts⟩ ((x_leastOfAll l D k st lo (a 53) (a 68) (a 69) (a 70) (a 71) n1 p1 0 0 pco__6 pg (a 54) (a 55) cc rz ro sd (by first | assumption | omega) (by first | assumption | omega)) H.size) (cwV 0 hts (gV tw_901 tw_902 tw_903 tw_84 tw_904) rfl rfl rfl (by decide +kernel) ⟨Nat.le_of_ble_eq_true rfl, Nat.le_of_ble_eq_true rfl⟩) (pV hS hAlo hlo hP hK (va_Dlo hD hAlo) hZ [11, 13, 10, 18] (by decide) rfl (ci := 1) (q := (RX1, TX1, 8)) (q0 := 0) rfl rfl) rfl rfl hl.1 rfl (lv_room (Nat.le_of_ble_eq_true rfl)) dX7_lost_38 ⟨Nat.le_of_ble_eq_true rfl, Nat.le_of_ble_eq_true rfl⟩) hS hA hP hD [11, 13, 10, 18] [0, 1, 2, 3, 4, 5, 6, 7, 8, 9, 12, 14, 15, 16, 17, 19, 20] rfl rfl (by decide +kernel) (by decide +kernel) (fun r_8 u H locs hw_8 hP hD hS => ?_)
    obtain ⟨pg__8, rfl⟩ : ∃ z, z = u := ⟨_, rfl⟩
    have hQ9 := pd_mk [((a 0), .inr (7, (fX7 (a 1) (a 3) (a 19) (a 35) (a 40) (nI rk) lfa (a 53) (a 56) (a 63) (a 64) (a 68)))), ((a 3), .inl (k 3, 3, .inr (.inr (.inr (.inr (a3 (a 4) (a 9) (a 14))))))), ((a 4), .inr (5, (fX5 (a 5) (a 6) (a 7) (a 8)))), (aI k (a 5) 10 (vv n0 see0 tm0 g0)), (aI k (a 7) 24 fp0), (aI k (a 8) 4 fl0), ((a 14), .inr (5, (fX5 (a 15) (a 16) (a 17) (a 18)))), (aI k (a 15) 10 (vv n2 see2 tm2 g2)), (aI k (a 17) 24 fp2), (aI k (a 18) 4 fl2), (aI k (a 69) 4 (nF pb__6)), ((a 9), .inr (5, (fX5 (a 10) (a 11) (a 12) (a 13)))), (aI k (a 10) 10 (vv n1 see1 tm1 g1)), (aI k (a 12) 24 fp1), (aI k (a 13) 4 fl1), (aI k (a 54) 4 wk), (aI k (a 55) 4 (nF br)), ((a 68), .inr (1, (fX1 (a 53) (a 69) (a 70) (a 71) (nI n1) p1 0 0))), (aI k (a 70) 100 pco__6), (aI k (a 71) 16 pg__8), ((a 53), .inr (4, (fX4 (a 54) (a 55) (nI cc) (nI rz) ro sd)))] hP hD
    clear hP hD
    obtain ⟨hP, hD⟩ := hQ9
    try dsimp only at hw_8
    refine lv_isub hx hb dX7_lost_41 ?_
    refine lv_topi (fun x_9 ex_9 => ?_)
    obtain ⟨hP9, hD9⟩ := pd_sub [((a 0), .inr (7, (fX7 (a 1) (a 3) (a 19) (a 35) (a 40) (nI rk) lfa (a 53) (a 56) (a 63) (a 64) (a 68)))), ((a 3), .inl (k 3, 3, .inr (.inr (.inr (.inr (a3 (a 4) (a 9) (a 14))))))), ((a 4), .inr (5, (fX5 (a 5) (a 6) (a 7) (a 8)))), (aI k (a 5) 10 (vv n0 see0 tm0 g0)), (aI k (a 7) 24 fp0), (aI k (a 8) 4 fl0), ((a 9), .inr (5, (fX5 (a 10) (a 11) (a 12) (a 13)))), (aI k (a 10) 10 (vv n1 see1 tm1 g1)), (aI k (a 12) 24 fp1), (aI k (a 13) 4 fl1), ((a 14), .inr (5, (fX5 (a 15) (a 16) (a 17) (a 18)))), (aI k (a 15) 10 (vv n2 see2 tm2 g2)), (aI k (a 17) 24 fp2), (aI k (a 18) 4 fl2), ((a 53), .inr (4, (fX4 (a 54) (a 55) (nI cc) (nI rz) ro sd))), (aI k (a 54) 4 wk), (aI k (a 55) 4 (nF br)), ((a 68), .inr (1, (fX1 (a 53) (a 69) (a 70) (a 71) (nI n1) p1 0 0))), (aI k (a 69) 4 (nF pb__6)), (aI k (a 70) 100 pco__6), (aI k (a 71) 16 pg__8)] [0, 1, 2, 3, 4, 5, 11, 12, 13, 14, 6, 7, 8, 9, 20, 15, 16, 17, 10, 18, 19] hP hD (by decide +kernel) rfl
    exact W.iret (v := x_9) hx hb hr (fun t ht hW => ⟨⟨x_9, ((nI n1), p1, 0, 0, pb__6, pco__6, pg__8), rfl, hw_6, by rw [ht]; exact hP9, hD9⟩, hS.F ht⟩) hS.2.2 dX7_lost_42
  · refine lv_istore_n (lv' := [(3, .int 0), (0, .ref (a 0)), (1, .int 2), (2, .int p1)]) hx hb dX7_lost_6 rfl hl (by decide) rfl (fun ls hl => ?_)
    refine lv_iload_n hx hb dX7_lost_7 rfl (lv_at hl 0 rfl) ?_
    refine lv_if_eq (tgt := 13) hx hb dX7_lost_8 (by decide) (fun _ => ?_) (fun h => absurd (by decide) h)
    refine lv_aload_n hx hb dX7_lost_13 rfl (lv_at hl 1 rfl) ?_
    refine va_get (D := D) (ci := 7) (v := .ref (a 68)) (C := RX7) (T := TX7) (N := 12) hx hb hts inX7 hown hK hP 0 rfl rfl 11 (by decide) (hts _ tw_316) (fun _ h9 => h9) rfl dX7_lost_14 ?_
    refine lv_aload_n hx hb dX7_lost_17 rfl (lv_at hl 1 rfl) ?_
    refine va_get (D := D) (ci := 7) (v := .ref (a 3)) (C := RX7) (T := TX7) (N := 12) hx hb hts inX7 hown hK hP 0 rfl rfl 1 (by decide) (hts _ tw_306) (fun _ h9 => h9) rfl dX7_lost_18 ?_
    refine lv_iload_n hx hb dX7_lost_21 rfl (lv_at hl 2 rfl) ?_
    refine va_aldq hx hb hK hP 1 3 rfl rfl (by unfold vp_in; decide) dX7_lost_22 ?_
    refine lv_tr (y := .ref (a 14)) rfl ?_
    refine lv_iload_n hx hb dX7_lost_23 rfl (lv_at hl 3 rfl) ?_
    refine rw_v (D := D) (wr := [((a 0), .inr (7, (fX7 (a 1) (a 3) (a 19) (a 35) (a 40) (nI rk) lfa (a 53) (a 56) (a 63) (a 64) (a 68)))), ((a 3), .inl (k 3, 3, .inr (.inr (.inr (.inr (a3 (a 4) (a 9) (a 14))))))), ((a 4), .inr (5, (fX5 (a 5) (a 6) (a 7) (a 8)))), (aI k (a 5) 10 (vv n0 see0 tm0 g0)), (aI k (a 7) 24 fp0), (aI k (a 8) 4 fl0), ((a 9), .inr (5, (fX5 (a 10) (a 11) (a 12) (a 13)))), (aI k (a 10) 10 (vv n1 see1 tm1 g1)), (aI k (a 12) 24 fp1), (aI k (a 13) 4 fl1), (aI k (a 71) 16 pg)]) (va_runV (As := [.ref (a 14), .int p1]) (rest := []) ⟨hx, hb, hml, hown, hts⟩ ((x_comeTo l D k st lo (a 53) (a 68) (a 69) (a 70) (a 71) pn pf pd pe pb pco (a 14) (a 15) (a 16) (a 17) (a 18) n2 see2 tm2 g2 fp2 fl2 (a 54) (a 55) cc rz ro sd wk br p1 (by first | assumption | omega) (by first | assumption | omega) hbr hpb) H.size) (cwV 2 hts (gV tw_821 tw_822 tw_823 tw_84 tw_824) rfl rfl rfl (by decide +kernel) ⟨Nat.le_of_ble_eq_true rfl, Nat.le_of_ble_eq_true rfl⟩) (pV hS hAlo hlo hP hK (va_Dlo hD hAlo) hZ [17, 18, 19, 10, 11, 12, 13, 14, 15, 16] (by decide +kernel) rfl (ci := 1) (q := (RX1, TX1, 8)) (q0 := 0) rfl rfl) rfl rfl hl.1 rfl (lv_room (Nat.le_of_ble_eq_true rfl)) dX7_lost_24 ⟨Nat.le_of_ble_eq_true rfl, Nat.le_of_ble_eq_true rfl⟩) hS hA hP hD [17, 18, 19, 10, 11, 12, 13, 14, 15, 16] [0, 1, 2, 3, 4, 5, 6, 7, 8, 9, 20] rfl rfl (by decide +kernel) (by decide +kernel) (fun u H locs hw_10 hP hD hS => ?_)
    obtain ⟨pb__10, pco__10⟩ := u
    have hQ9 := pd_mk [((a 0), .inr (7, (fX7 (a 1) (a 3) (a 19) (a 35) (a 40) (nI rk) lfa (a 53) (a 56) (a 63) (a 64) (a 68)))), ((a 3), .inl (k 3, 3, .inr (.inr (.inr (.inr (a3 (a 4) (a 9) (a 14))))))), ((a 4), .inr (5, (fX5 (a 5) (a 6) (a 7) (a 8)))), (aI k (a 5) 10 (vv n0 see0 tm0 g0)), (aI k (a 7) 24 fp0), (aI k (a 8) 4 fl0), ((a 9), .inr (5, (fX5 (a 10) (a 11) (a 12) (a 13)))), (aI k (a 10) 10 (vv n1 see1 tm1 g1)), (aI k (a 12) 24 fp1), (aI k (a 13) 4 fl1), (aI k (a 71) 16 pg), ((a 68), .inr (1, (fX1 (a 53) (a 69) (a 70) (a 71) (nI n2) p1 0 0))), (aI k (a 69) 4 (nF pb__10)), (aI k (a 70) 100 pco__10), ((a 14), .inr (5, (fX5 (a 15) (a 16) (a 17) (a 18)))), (aI k (a 15) 10 (vv n2 see2 tm2 g2)), (aI k (a 17) 24 fp2), (aI k (a 18) 4 fl2), ((a 53), .inr (4, (fX4 (a 54) (a 55) (nI cc) (nI rz) ro sd))), (aI k (a 54) 4 wk), (aI k (a 55) 4 (nF br))] hP hD
    clear hP hD
    obtain ⟨hP, hD⟩ := hQ9
    try dsimp only at hw_10
    refine lv_aload_n hx hb dX7_lost_27 rfl (lv_at hl 1 rfl) ?_
    refine va_get (D := D) (ci := 7) (v := .ref (a 68)) (C := RX7) (T := TX7) (N := 12) hx hb hts inX7 hown hK hP 0 rfl rfl 11 (by decide) (hts _ tw_316) (fun _ h9 => h9) rfl dX7_lost_28 ?_
    refine ro_i (D := D) (va_runV (As := []) (rest := []) ⟨hx, hb, hml, hown, hts⟩ ((x_costOfAll l D k st lo (a 53) (a 68) (a 69) (a 70) (a 71) n2 p1 0 0 pb__10 pco__10 (a 54) (a 55) cc rz ro sd (by first | assumption | omega) (by first | assumption | omega) hw_10) H.size) (cwV 0 hts (gV tw_897 tw_898 tw_899 tw_84 tw_900) rfl rfl rfl (by decide +kernel) ⟨Nat.le_of_ble_eq_true rfl, Nat.le_of_ble_eq_true rfl⟩) (pV hS hAlo hlo hP hK (va_Dlo hD hAlo) hZ [11, 12, 13, 18] (by decide) rfl (ci := 1) (q := (RX1, TX1, 8)) (q0 := 0) rfl rfl) rfl rfl hl.1 rfl (lv_room (Nat.le_of_ble_eq_true rfl)) dX7_lost_31 ⟨Nat.le_of_ble_eq_true rfl, Nat.le_of_ble_eq_true rfl⟩) hS hA hP (fun r_11 H locs hw_11 hP hS => ?_)
    try dsimp only at hw_11
    refine lv_aload_n hx hb dX7_lost_34 rfl (lv_at hl 1 rfl) ?_
    refine va_get (D := D) (ci := 7) (v := .ref (a 68)) (C := RX7) (T := TX7) (N := 12) hx hb hts inX7 hown hK hP 0 rfl rfl 11 (by decide) (hts _ tw_316) (fun _ h9 => h9) rfl dX7_lost_35 ?_
    refine rw_i (D := D) (wr := [((a 0), .inr (7, (fX7 (a 1) (a 3) (a 19) (a 35) (a 40) (nI rk) lfa (a 53) (a 56) (a 63) (a 64) (a 68)))), ((a 3), .inl (k 3, 3, .inr (.inr (.inr (.inr (a3 (a 4) (a 9) (a 14))))))), ((a 4), .inr (5, (fX5 (a 5) (a 6) (a 7) (a 8)))), (aI k (a 5) 10 (vv n0 see0 tm0 g0)), (aI k (a 7) 24 fp0), (aI k (a 8) 4 fl0), ((a 9), .inr (5, (fX5 (a 10) (a 11) (a 12) (a 13)))), (aI k (a 10) 10 (vv n1 see1 tm1 g1)), (aI k (a 12) 24 fp1), (aI k (a 13) 4 fl1), (aI k (a 69) 4 (nF pb__10)), ((a 14), .inr (5, (fX5 (a 15) (a 16) (a 17) (a 18)))), (aI k (a 15) 10 (vv n2 see2 tm2 g2)), (aI k (a 17) 24 fp2), (aI k (a 18) 4 fl2), (aI k (a 54) 4 wk), (aI k (a 55) 4 (nF br))]) (va_runV (As := []) (rest := [.int r_11]) ⟨hx, hb, hml, hown, hts⟩ ((x_leastOfAll l D k st lo (a 53) (a 68) (a 69) (a 70) (a 71) n2 p1 0 0 pco__10 pg (a 54) (a 55) cc rz ro sd (by first | assumption | omega) (by first | assumption | omega)) H.size) (cwV 0 hts (gV tw_901 tw_902 tw_903 tw_84 tw_904) rfl rfl rfl (by decide +kernel) ⟨Nat.le_of_ble_eq_true rfl, Nat.le_of_ble_eq_true rfl⟩) (pV hS hAlo hlo hP hK (va_Dlo hD hAlo) hZ [11, 13, 10, 18] (by decide) rfl (ci := 1) (q := (RX1, TX1, 8)) (q0 := 0) rfl rfl) rfl rfl hl.1 rfl (lv_room (Nat.le_of_ble_eq_true rfl)) dX7_lost_38 ⟨Nat.le_of_ble_eq_true rfl, Nat.le_of_ble_eq_true rfl⟩) hS hA hP hD [11, 13, 10, 18] [0, 1, 2, 3, 4, 5, 6, 7, 8, 9, 12, 14, 15, 16, 17, 19, 20] rfl rfl (by decide +kernel) (by decide +kernel) (fun r_12 u H locs hw_12 hP hD hS => ?_)
    obtain ⟨pg__12, rfl⟩ : ∃ z, z = u := ⟨_, rfl⟩
    have hQ9 := pd_mk [((a 0), .inr (7, (fX7 (a 1) (a 3) (a 19) (a 35) (a 40) (nI rk) lfa (a 53) (a 56) (a 63) (a 64) (a 68)))), ((a 3), .inl (k 3, 3, .inr (.inr (.inr (.inr (a3 (a 4) (a 9) (a 14))))))), ((a 4), .inr (5, (fX5 (a 5) (a 6) (a 7) (a 8)))), (aI k (a 5) 10 (vv n0 see0 tm0 g0)), (aI k (a 7) 24 fp0), (aI k (a 8) 4 fl0), ((a 9), .inr (5, (fX5 (a 10) (a 11) (a 12) (a 13)))), (aI k (a 10) 10 (vv n1 see1 tm1 g1)), (aI k (a 12) 24 fp1), (aI k (a 13) 4 fl1), (aI k (a 69) 4 (nF pb__10)), ((a 14), .inr (5, (fX5 (a 15) (a 16) (a 17) (a 18)))), (aI k (a 15) 10 (vv n2 see2 tm2 g2)), (aI k (a 17) 24 fp2), (aI k (a 18) 4 fl2), (aI k (a 54) 4 wk), (aI k (a 55) 4 (nF br)), ((a 68), .inr (1, (fX1 (a 53) (a 69) (a 70) (a 71) (nI n2) p1 0 0))), (aI k (a 70) 100 pco__10), (aI k (a 71) 16 pg__12), ((a 53), .inr (4, (fX4 (a 54) (a 55) (nI cc) (nI rz) ro sd)))] hP hD
    clear hP hD
    obtain ⟨hP, hD⟩ := hQ9
    try dsimp only at hw_12
    refine lv_isub hx hb dX7_lost_41 ?_
    refine lv_topi (fun x_13 ex_13 => ?_)
    obtain ⟨hP9, hD9⟩ := pd_sub [((a 0), .inr (7, (fX7 (a 1) (a 3) (a 19) (a 35) (a 40) (nI rk) lfa (a 53) (a 56) (a 63) (a 64) (a 68)))), ((a 3), .inl (k 3, 3, .inr (.inr (.inr (.inr (a3 (a 4) (a 9) (a 14))))))), ((a 4), .inr (5, (fX5 (a 5) (a 6) (a 7) (a 8)))), (aI k (a 5) 10 (vv n0 see0 tm0 g0)), (aI k (a 7) 24 fp0), (aI k (a 8) 4 fl0), ((a 9), .inr (5, (fX5 (a 10) (a 11) (a 12) (a 13)))), (aI k (a 10) 10 (vv n1 see1 tm1 g1)), (aI k (a 12) 24 fp1), (aI k (a 13) 4 fl1), ((a 14), .inr (5, (fX5 (a 15) (a 16) (a 17) (a 18)))), (aI k (a 15) 10 (vv n2 see2 tm2 g2)), (aI k (a 17) 24 fp2), (aI k (a 18) 4 fl2), ((a 53), .inr (4, (fX4 (a 54) (a 55) (nI cc) (nI rz) ro sd))), (aI k (a 54) 4 wk), (aI k (a 55) 4 (nF br)), ((a 68), .inr (1, (fX1 (a 53) (a 69) (a 70) (a 71) (nI n2) p1 0 0))), (aI k (a 69) 4 (nF pb__10)), (aI k (a 70) 100 pco__10), (aI k (a 71) 16 pg__12)] [0, 1, 2, 3, 4, 5, 6, 7, 8, 9, 11, 12, 13, 14, 20, 15, 16, 17, 10, 18, 19] hP hD (by decide +kernel) rfl
    exact W.iret (v := x_13) hx hb hr (fun t ht hW => ⟨⟨x_13, ((nI n2), p1, 0, 0, pb__10, pco__10, pg__12), rfl, hw_10, by rw [ht]; exact hP9, hD9⟩, hS.F ht⟩) hS.2.2 dX7_lost_42
  · refine lv_istore_n (lv' := [(3, .int (-1001)), (0, .ref (a 0)), (1, .int p0), (2, .int p1)]) hx hb dX7_lost_6 rfl hl (by decide) rfl (fun ls hl => ?_)
    refine lv_iload_n hx hb dX7_lost_7 rfl (lv_at hl 0 rfl) ?_
    refine lv_if_eq (tgt := 13) hx hb dX7_lost_8 (by decide) (fun h => absurd h (by decide)) (fun _ => ?_)
    refine lv_iload_n hx hb dX7_lost_11 rfl (lv_at hl 0 rfl) ?_
    obtain ⟨hP9, hD9⟩ := pd_sub [((a 0), .inr (7, (fX7 (a 1) (a 3) (a 19) (a 35) (a 40) (nI rk) lfa (a 53) (a 56) (a 63) (a 64) (a 68)))), ((a 3), .inl (k 3, 3, .inr (.inr (.inr (.inr (a3 (a 4) (a 9) (a 14))))))), ((a 4), .inr (5, (fX5 (a 5) (a 6) (a 7) (a 8)))), (aI k (a 5) 10 (vv n0 see0 tm0 g0)), (aI k (a 7) 24 fp0), (aI k (a 8) 4 fl0), ((a 9), .inr (5, (fX5 (a 10) (a 11) (a 12) (a 13)))), (aI k (a 10) 10 (vv n1 see1 tm1 g1)), (aI k (a 12) 24 fp1), (aI k (a 13) 4 fl1), ((a 14), .inr (5, (fX5 (a 15) (a 16) (a 17) (a 18)))), (aI k (a 15) 10 (vv n2 see2 tm2 g2)), (aI k (a 17) 24 fp2), (aI k (a 18) 4 fl2), ((a 53), .inr (4, (fX4 (a 54) (a 55) (nI cc) (nI rz) ro sd))), (aI k (a 54) 4 wk), (aI k (a 55) 4 (nF br)), ((a 68), .inr (1, (fX1 (a 53) (a 69) (a 70) (a 71) pn pf pd pe))), (aI k (a 69) 4 (nF pb)), (aI k (a 70) 100 pco), (aI k (a 71) 16 pg)] [0, 1, 2, 3, 4, 5, 6, 7, 8, 9, 10, 11, 12, 13, 14, 15, 16, 17, 18, 19, 20] hP hD (by decide +kernel) rfl
    exact W.iret (v := (-1001)) hx hb hr (fun t ht hW => ⟨⟨(-1001), (pn, pf, pd, pe, pb, pco, pg), rfl, hpb, by rw [ht]; exact hP9, hD9⟩, hS.F ht⟩) hS.2.2 dX7_lost_12
  · refine lv_istore_n (lv' := [(3, .int (-1002)), (0, .ref (a 0)), (1, .int p0), (2, .int p1)]) hx hb dX7_lost_6 rfl hl (by decide) rfl (fun ls hl => ?_)
    refine lv_iload_n hx hb dX7_lost_7 rfl (lv_at hl 0 rfl) ?_
    refine lv_if_eq (tgt := 13) hx hb dX7_lost_8 (by decide) (fun h => absurd h (by decide)) (fun _ => ?_)
    refine lv_iload_n hx hb dX7_lost_11 rfl (lv_at hl 0 rfl) ?_
    obtain ⟨hP9, hD9⟩ := pd_sub [((a 0), .inr (7, (fX7 (a 1) (a 3) (a 19) (a 35) (a 40) (nI rk) lfa (a 53) (a 56) (a 63) (a 64) (a 68)))), ((a 3), .inl (k 3, 3, .inr (.inr (.inr (.inr (a3 (a 4) (a 9) (a 14))))))), ((a 4), .inr (5, (fX5 (a 5) (a 6) (a 7) (a 8)))), (aI k (a 5) 10 (vv n0 see0 tm0 g0)), (aI k (a 7) 24 fp0), (aI k (a 8) 4 fl0), ((a 9), .inr (5, (fX5 (a 10) (a 11) (a 12) (a 13)))), (aI k (a 10) 10 (vv n1 see1 tm1 g1)), (aI k (a 12) 24 fp1), (aI k (a 13) 4 fl1), ((a 14), .inr (5, (fX5 (a 15) (a 16) (a 17) (a 18)))), (aI k (a 15) 10 (vv n2 see2 tm2 g2)), (aI k (a 17) 24 fp2), (aI k (a 18) 4 fl2), ((a 53), .inr (4, (fX4 (a 54) (a 55) (nI cc) (nI rz) ro sd))), (aI k (a 54) 4 wk), (aI k (a 55) 4 (nF br)), ((a 68), .inr (1, (fX1 (a 53) (a 69) (a 70) (a 71) pn pf pd pe))), (aI k (a 69) 4 (nF pb)), (aI k (a 70) 100 pco), (aI k (a 71) 16 pg)] [0, 1, 2, 3, 4, 5, 6, 7, 8, 9, 10, 11, 12, 13, 14, 15, 16, 17, 18, 19, 20] hP hD (by decide +kernel) rfl
    exact W.iret (v := (-1002)) hx hb hr (fun t ht hW => ⟨⟨(-1002), (pn, pf, pd, pe, pb, pco, pg), rfl, hpb, by rw [ht]; exact hP9, hD9⟩, hS.F ht⟩) hS.2.2 dX7_lost_12

theorem dX7_mend_0 : decode cX7_mend 0 = .ok (.aload_n 0, 1) := by decide +kernel
theorem dX7_mend_1 : decode cX7_mend 1 = .ok (.iload_n 1, 1) := by decide +kernel
theorem dX7_mend_2 : decode cX7_mend 2 = .ok (.iload_n 3, 1) := by decide +kernel
theorem dX7_mend_3 : decode cX7_mend 3 = .ok (.invokevirtual 120, 3) := by decide +kernel
theorem dX7_mend_6 : decode cX7_mend 6 = .ok (.ifCond .ne 7, 3) := by decide +kernel
theorem dX7_mend_9 : decode cX7_mend 9 = .ok (.sipush (-1001), 3) := by decide +kernel
theorem dX7_mend_12 : decode cX7_mend 12 = .ok (.ireturn, 1) := by decide +kernel
theorem dX7_mend_13 : decode cX7_mend 13 = .ok (.aload_n 0, 1) := by decide +kernel
theorem dX7_mend_14 : decode cX7_mend 14 = .ok (.iload_n 1, 1) := by decide +kernel
theorem dX7_mend_15 : decode cX7_mend 15 = .ok (.iload_n 2, 1) := by decide +kernel
theorem dX7_mend_16 : decode cX7_mend 16 = .ok (.invokevirtual 226, 3) := by decide +kernel
theorem dX7_mend_19 : decode cX7_mend 19 = .ok (.ifCond .ne 7, 3) := by decide +kernel
theorem dX7_mend_22 : decode cX7_mend 22 = .ok (.sipush (-1002), 3) := by decide +kernel
theorem dX7_mend_25 : decode cX7_mend 25 = .ok (.ireturn, 1) := by decide +kernel
theorem dX7_mend_26 : decode cX7_mend 26 = .ok (.aload_n 0, 1) := by decide +kernel
theorem dX7_mend_27 : decode cX7_mend 27 = .ok (.getfield 73, 3) := by decide +kernel
theorem dX7_mend_30 : decode cX7_mend 30 = .ok (.aload_n 0, 1) := by decide +kernel
theorem dX7_mend_31 : decode cX7_mend 31 = .ok (.getfield 18, 3) := by decide +kernel
theorem dX7_mend_34 : decode cX7_mend 34 = .ok (.iload_n 1, 1) := by decide +kernel
theorem dX7_mend_35 : decode cX7_mend 35 = .ok (.aaload, 1) := by decide +kernel
theorem dX7_mend_36 : decode cX7_mend 36 = .ok (.iload_n 2, 1) := by decide +kernel
theorem dX7_mend_37 : decode cX7_mend 37 = .ok (.invokevirtual 229, 3) := by decide +kernel
theorem dX7_mend_40 : decode cX7_mend 40 = .ok (.aload_n 0, 1) := by decide +kernel
theorem dX7_mend_41 : decode cX7_mend 41 = .ok (.getfield 73, 3) := by decide +kernel
theorem dX7_mend_44 : decode cX7_mend 44 = .ok (.iload_n 3, 1) := by decide +kernel
theorem dX7_mend_45 : decode cX7_mend 45 = .ok (.invokevirtual 263, 3) := by decide +kernel
theorem dX7_mend_48 : decode cX7_mend 48 = .ok (.ireturn, 1) := by decide +kernel
set_option maxHeartbeats 4000000 in
set_option maxRecDepth 100000 in
theorem x_mend (l : Launch) (D : va_G) (k : Nat → ClassId) (st : Nat → Nat) (lo : Nat) (a : Nat → Nat) (rk : Nat) (lfa : Int32) (n0 : Nat) (see0 : Nat) (tm0 : Nat) (g0 : Nat → Int32) (fp0 : Nat → Int32) (fl0 : Nat → Int32) (n1 : Nat) (see1 : Nat) (tm1 : Nat) (g1 : Nat → Int32) (fp1 : Nat → Int32) (fl1 : Nat → Int32) (n2 : Nat) (see2 : Nat) (tm2 : Nat) (g2 : Nat → Int32) (fp2 : Nat → Int32) (fl2 : Nat → Int32) (cc : Nat) (rz : Nat) (ro : Int32) (sd : Int32) (wk : Nat → Int32) (br : Nat → Nat) (pn : Int32) (pf : Int32) (pd : Int32) (pe : Int32) (pb : Nat → Nat) (pco : Nat → Int32) (pg : Nat → Int32) (p0 : Int32) (p1 : Int32) (p2 : Int32) (hn0 : n0 ≤ 24) (hse0 : see0 ≤ 2) (htm0 : tm0 ≤ 3) (hn1 : n1 ≤ 24) (hse1 : see1 ≤ 2) (htm1 : tm1 ≤ 3) (hn2 : n2 ≤ 24) (hse2 : see2 ≤ 2) (htm2 : tm2 ≤ 3) (hcc : cc ≤ 4) (hbr : ∀ j, br j ≤ 24) (hpb : ∀ j, pb j ≤ 24) : CWi l D k st lo yX7_mend cX7_mend 4 (some .int) ({ frames := 6, cells := 0, slots := 0, locals := 142 }) 0 0 [.ref (a 0), .int p0, .int p1, .int p2] [((a 0), .inr (7, (fX7 (a 1) (a 3) (a 19) (a 35) (a 40) (nI rk) lfa (a 53) (a 56) (a 63) (a 64) (a 68)))), ((a 3), .inl (k 3, 3, .inr (.inr (.inr (.inr (a3 (a 4) (a 9) (a 14))))))), ((a 4), .inr (5, (fX5 (a 5) (a 6) (a 7) (a 8)))), (aI k (a 5) 10 (vv n0 see0 tm0 g0)), (aI k (a 7) 24 fp0), (aI k (a 8) 4 fl0), ((a 9), .inr (5, (fX5 (a 10) (a 11) (a 12) (a 13)))), (aI k (a 10) 10 (vv n1 see1 tm1 g1)), (aI k (a 12) 24 fp1), (aI k (a 13) 4 fl1), ((a 14), .inr (5, (fX5 (a 15) (a 16) (a 17) (a 18)))), (aI k (a 15) 10 (vv n2 see2 tm2 g2)), (aI k (a 17) 24 fp2), (aI k (a 18) 4 fl2), ((a 53), .inr (4, (fX4 (a 54) (a 55) (nI cc) (nI rz) ro sd))), (aI k (a 54) 4 wk), (aI k (a 55) 4 (nF br)), ((a 68), .inr (1, (fX1 (a 53) (a 69) (a 70) (a 71) pn pf pd pe))), (aI k (a 69) 4 (nF pb)), (aI k (a 70) 100 pco), (aI k (a 71) 16 pg)] (fun (r : Int32) (u : Int32 × Int32 × Int32 × Int32 × (Nat → Nat) × (Nat → Int32)) => match u with | (pn_, pf_, pd_, pe_, pb_, pco_) => ∀ j, pb_ j ≤ 24) (fun (u : Int32 × Int32 × Int32 × Int32 × (Nat → Nat) × (Nat → Int32)) => match u with | (pn_, pf_, pd_, pe_, pb_, pco_) => [((a 0), .inr (7, (fX7 (a 1) (a 3) (a 19) (a 35) (a 40) (nI rk) lfa (a 53) (a 56) (a 63) (a 64) (a 68)))), ((a 3), .inl (k 3, 3, .inr (.inr (.inr (.inr (a3 (a 4) (a 9) (a 14))))))), ((a 4), .inr (5, (fX5 (a 5) (a 6) (a 7) (a 8)))), (aI k (a 5) 10 (vv n0 see0 tm0 g0)), (aI k (a 7) 24 fp0), (aI k (a 8) 4 fl0), ((a 9), .inr (5, (fX5 (a 10) (a 11) (a 12) (a 13)))), (aI k (a 10) 10 (vv n1 see1 tm1 g1)), (aI k (a 12) 24 fp1), (aI k (a 13) 4 fl1), ((a 14), .inr (5, (fX5 (a 15) (a 16) (a 17) (a 18)))), (aI k (a 15) 10 (vv n2 see2 tm2 g2)), (aI k (a 17) 24 fp2), (aI k (a 18) 4 fl2), ((a 53), .inr (4, (fX4 (a 54) (a 55) (nI cc) (nI rz) ro sd))), (aI k (a 54) 4 wk), (aI k (a 55) 4 (nF br)), ((a 68), .inr (1, (fX1 (a 53) (a 69) (a 70) (a 71) pn_ pf_ pd_ pe_))), (aI k (a 69) 4 (nF pb_)), (aI k (a 70) 100 pco_), (aI k (a 71) 16 pg)]) := by
  intro sz
  refine Met.ofW (cc := cX7_mend) (maxL := 4) (ret := (some .int)) (by decide) rfl ?_
  intro p e s m args below meth c s₁ B hml hv
  obtain ⟨rfl, hsz, hlo, hP, hK, hDL, hZ⟩ := hv
  have hx := B.exec
  have hb := B.bytes
  have hr := B.returns
  have hts := WS_ts B.pre
  have hown : s.vm.findClass RX7 = some m.cls := findClass_of_methodNamed B.named
  have hlocks := B.notSynchronized
  subst hsz
  have hD := hDL.self (sz := s.heap.size)
  have hAlo := A_lo hDL hlo
  generalize hAe : va_A [((a 0), .inr (7, (fX7 (a 1) (a 3) (a 19) (a 35) (a 40) (nI rk) lfa (a 53) (a 56) (a 63) (a 64) (a 68)))), ((a 3), .inl (k 3, 3, .inr (.inr (.inr (.inr (a3 (a 4) (a 9) (a 14))))))), ((a 4), .inr (5, (fX5 (a 5) (a 6) (a 7) (a 8)))), (aI k (a 5) 10 (vv n0 see0 tm0 g0)), (aI k (a 7) 24 fp0), (aI k (a 8) 4 fl0), ((a 9), .inr (5, (fX5 (a 10) (a 11) (a 12) (a 13)))), (aI k (a 10) 10 (vv n1 see1 tm1 g1)), (aI k (a 12) 24 fp1), (aI k (a 13) 4 fl1), ((a 14), .inr (5, (fX5 (a 15) (a 16) (a 17) (a 18)))), (aI k (a 15) 10 (vv n2 see2 tm2 g2)), (aI k (a 17) 24 fp2), (aI k (a 18) 4 fl2), ((a 53), .inr (4, (fX4 (a 54) (a 55) (nI cc) (nI rz) ro sd))), (aI k (a 54) 4 wk), (aI k (a 55) 4 (nF br)), ((a 68), .inr (1, (fX1 (a 53) (a 69) (a 70) (a 71) pn pf pd pe))), (aI k (a 69) 4 (nF pb)), (aI k (a 70) 100 pco), (aI k (a 71) 16 pg)] s.heap.size = A at hD hAlo ⊢
  have hA : ∀ q : Nat, s.heap.size ≤ q → A q := fun q h => by rw [← hAe]; exact Or.inr h
  have hS : va_S A s.heap s.heap [] := va_S.rf
  have hl := lv_entry ([.ref (a 0), .int p0, .int p1, .int p2]) (n := 4) (Nat.le_of_ble_eq_true rfl)
  rw [lg_entry_eq]
  generalize (lg_sl ([.ref (a 0), .int p0, .int p1, .int p2]) ++ List.replicate (4 - (lg_sl ([.ref (a 0), .int p0, .int p1, .int p2])).length) Slot.unset).toArray = ls at hl ⊢
  have hl : lv_has ls 4 [(0, .ref (a 0)), (1, .int p0), (2, .int p1), (3, .int p2)] := hl
  refine lv_aload_n hx hb dX7_mend_0 rfl (lv_at hl 0 rfl) ?_
  refine lv_iload_n hx hb dX7_mend_1 rfl (lv_at hl 1 rfl) ?_
  refine lv_iload_n hx hb dX7_mend_2 rfl (lv_at hl 3 rfl) ?_
  refine ro_i (D := D) (va_runV (As := [.int p0, .int p2]) (rest := []) ⟨hx, hb, hml, hown, hts⟩ ((x_isDoor l D k st lo a rk lfa n0 see0 tm0 g0 n1 see1 tm1 g1 n2 see2 tm2 g2 p0 p2 (by first | assumption | omega) (by first | assumption | omega) (by first | assumption | omega)) s.heap.size) (cwV 2 hts (gV tw_600 tw_602 tw_9 tw_79 tw_603) rfl rfl rfl (by decide +kernel) ⟨Nat.le_of_ble_eq_true rfl, Nat.le_of_ble_eq_true rfl⟩) (pV hS hAlo hlo hP hK (va_Dlo hD hAlo) hZ [0, 1, 2, 3, 6, 7, 10, 11] (by decide) rfl (ci := 7) (q := (RX7, TX7, 12)) (q0 := 0) rfl rfl) rfl rfl hl.1 rfl (lv_room (Nat.le_of_ble_eq_true rfl)) dX7_mend_3 ⟨Nat.le_of_ble_eq_true rfl, Nat.le_of_ble_eq_true rfl⟩) hS hA hP (fun r_1 H locs hw_1 hP hS => ?_)
  try dsimp only at hw_1
  rcases hw_1 with ⟨rfl, ⟨rfl, id_2, hid_2, rfl⟩ | ⟨rfl, id_2, hid_2, rfl⟩ | ⟨rfl, id_2, hid_2, rfl⟩⟩ | rfl
  · refine lv_if_ne (tgt := 13) hx hb dX7_mend_6 (by decide) (fun _ => ?_) (fun h => absurd h (by decide))
    refine lv_aload_n hx hb dX7_mend_13 rfl (lv_at hl 0 rfl) ?_
    refine lv_iload_n hx hb dX7_mend_14 rfl (lv_at hl 1 rfl) ?_
    refine lv_iload_n hx hb dX7_mend_15 rfl (lv_at hl 2 rfl) ?_
    refine ro_i (D := D) (va_runV (As := [.int 0, .int p1]) (rest := []) ⟨hx, hb, hml, hown, hts⟩ ((x_isSet_0 l D k st lo a rk lfa n0 see0 tm0 g0 p1) H.size) (cwV 2 hts (gV tw_817 tw_819 tw_18 tw_79 tw_820) rfl rfl rfl (by decide +kernel) ⟨Nat.le_of_ble_eq_true rfl, Nat.le_of_ble_eq_true rfl⟩) (pV hS hAlo hlo hP hK (va_Dlo hD hAlo) hZ [0, 1, 2, 3] (by decide) rfl (ci := 7) (q := (RX7, TX7, 12)) (q0 := 0) rfl rfl) rfl rfl hl.1 rfl (lv_room (Nat.le_of_ble_eq_true rfl)) dX7_mend_16 ⟨Nat.le_of_ble_eq_true rfl, Nat.le_of_ble_eq_true rfl⟩) hS hA hP (fun r_3 H locs hw_3 hP hS => ?_)
    try dsimp only at hw_3
    rcases hw_3 with rfl | rfl
    · refine lv_if_ne (tgt := 26) hx hb dX7_mend_19 (by decide) (fun _ => ?_) (fun h => absurd h (by decide))
      refine lv_aload_n hx hb dX7_mend_26 rfl (lv_at hl 0 rfl) ?_
      refine va_get (D := D) (ci := 7) (v := .ref (a 68)) (C := RX7) (T := TX7) (N := 12) hx hb hts inX7 hown hK hP 0 rfl rfl 11 (by decide) (hts _ tw_316) (fun _ h9 => h9) rfl dX7_mend_27 ?_
      refine lv_aload_n hx hb dX7_mend_30 rfl (lv_at hl 0 rfl) ?_
      refine va_get (D := D) (ci := 7) (v := .ref (a 3)) (C := RX7) (T := TX7) (N := 12) hx hb hts inX7 hown hK hP 0 rfl rfl 1 (by decide) (hts _ tw_306) (fun _ h9 => h9) rfl dX7_mend_31 ?_
      refine lv_iload_n hx hb dX7_mend_34 rfl (lv_at hl 1 rfl) ?_
      refine va_aldq hx hb hK hP 1 3 rfl rfl (by unfold vp_in; decide) dX7_mend_35 ?_
      refine lv_tr (y := .ref (a 4)) rfl ?_
      refine lv_iload_n hx hb dX7_mend_36 rfl (lv_at hl 2 rfl) ?_
      refine rw_v (D := D) (wr := [((a 0), .inr (7, (fX7 (a 1) (a 3) (a 19) (a 35) (a 40) (nI rk) lfa (a 53) (a 56) (a 63) (a 64) (a 68)))), ((a 3), .inl (k 3, 3, .inr (.inr (.inr (.inr (a3 (a 4) (a 9) (a 14))))))), ((a 9), .inr (5, (fX5 (a 10) (a 11) (a 12) (a 13)))), (aI k (a 10) 10 (vv n1 see1 tm1 g1)), (aI k (a 12) 24 fp1), (aI k (a 13) 4 fl1), ((a 14), .inr (5, (fX5 (a 15) (a 16) (a 17) (a 18)))), (aI k (a 15) 10 (vv n2 see2 tm2 g2)), (aI k (a 17) 24 fp2), (aI k (a 18) 4 fl2), (aI k (a 71) 16 pg)]) (va_runV (As := [.ref (a 4), .int p1]) (rest := []) ⟨hx, hb, hml, hown, hts⟩ ((x_comeTo l D k st lo (a 53) (a 68) (a 69) (a 70) (a 71) pn pf pd pe pb pco (a 4) (a 5) (a 6) (a 7) (a 8) n0 see0 tm0 g0 fp0 fl0 (a 54) (a 55) cc rz ro sd wk br p1 (by first | assumption | omega) (by first | assumption | omega) hbr hpb) H.size) (cwV 2 hts (gV tw_821 tw_822 tw_823 tw_84 tw_824) rfl rfl rfl (by decide +kernel) ⟨Nat.le_of_ble_eq_true rfl, Nat.le_of_ble_eq_true rfl⟩) (pV hS hAlo hlo hP hK (va_Dlo hD hAlo) hZ [17, 18, 19, 2, 3, 4, 5, 14, 15, 16] (by decide +kernel) rfl (ci := 1) (q := (RX1, TX1, 8)) (q0 := 0) rfl rfl) rfl rfl hl.1 rfl (lv_room (Nat.le_of_ble_eq_true rfl)) dX7_mend_37 ⟨Nat.le_of_ble_eq_true rfl, Nat.le_of_ble_eq_true rfl⟩) hS hA hP hD [17, 18, 19, 2, 3, 4, 5, 14, 15, 16] [0, 1, 6, 7, 8, 9, 10, 11, 12, 13, 20] rfl rfl (by decide +kernel) (by decide +kernel) (fun u H locs hw_4 hP hD hS => ?_)
      obtain ⟨pb__4, pco__4⟩ := u
      have hQ9 := pd_mk [((a 0), .inr (7, (fX7 (a 1) (a 3) (a 19) (a 35) (a 40) (nI rk) lfa (a 53) (a 56) (a 63) (a 64) (a 68)))), ((a 3), .inl (k 3, 3, .inr (.inr (.inr (.inr (a3 (a 4) (a 9) (a 14))))))), ((a 9), .inr (5, (fX5 (a 10) (a 11) (a 12) (a 13)))), (aI k (a 10) 10 (vv n1 see1 tm1 g1)), (aI k (a 12) 24 fp1), (aI k (a 13) 4 fl1), ((a 14), .inr (5, (fX5 (a 15) (a 16) (a 17) (a 18)))), (aI k (a 15) 10 (vv n2 see2 tm2 g2)), (aI k (a 17) 24 fp2), (aI k (a 18) 4 fl2), (aI k (a 71) 16 pg), ((a 68), .inr (1, (fX1 (a 53) (a 69) (a 70) (a 71) (nI n0) p1 0 0))), (aI k (a 69) 4 (nF pb__4)), (aI k (a 70) 100 pco__4), ((a 4), .inr (5, (fX5 (a 5) (a 6) (a 7) (a 8)))), (aI k (a 5) 10 (vv n0 see0 tm0 g0)), (aI k (a 7) 24 fp0), (aI k (a 8) 4 fl0), ((a 53), .inr (4, (fX4 (a 54) (a 55) (nI cc) (nI rz) ro sd))), (aI k (a 54) 4 wk), (aI k (a 55) 4 (nF br))] hP hD
      clear hP hD
      obtain ⟨hP, hD⟩ := hQ9
      try dsimp only at hw_4
      refine lv_aload_n hx hb dX7_mend_40 rfl (lv_at hl 0 rfl) ?_
      refine va_get (D := D) (ci := 7) (v := .ref (a 68)) (C := RX7) (T := TX7) (N := 12) hx hb hts inX7 hown hK hP 0 rfl rfl 11 (by decide) (hts _ tw_316) (fun _ h9 => h9) rfl dX7_mend_41 ?_
      refine lv_iload_n hx hb dX7_mend_44 rfl (lv_at hl 3 rfl) ?_
      refine rw_i (D := D) (wr := [((a 0), .inr (7, (fX7 (a 1) (a 3) (a 19) (a 35) (a 40) (nI rk) lfa (a 53) (a 56) (a 63) (a 64) (a 68)))), ((a 3), .inl (k 3, 3, .inr (.inr (.inr (.inr (a3 (a 4) (a 9) (a 14))))))), ((a 9), .inr (5, (fX5 (a 10) (a 11) (a 12) (a 13)))), (aI k (a 10) 10 (vv n1 see1 tm1 g1)), (aI k (a 12) 24 fp1), (aI k (a 13) 4 fl1), ((a 14), .inr (5, (fX5 (a 15) (a 16) (a 17) (a 18)))), (aI k (a 15) 10 (vv n2 see2 tm2 g2)), (aI k (a 17) 24 fp2), (aI k (a 18) 4 fl2), (aI k (a 71) 16 pg), ((a 4), .inr (5, (fX5 (a 5) (a 6) (a 7) (a 8)))), (aI k (a 5) 10 (vv n0 see0 tm0 g0)), (aI k (a 7) 24 fp0), (aI k (a 8) 4 fl0), (aI k (a 54) 4 wk), (aI k (a 55) 4 (nF br))]) (va_runV (As := [.int (nI id_2)]) (rest := []) ⟨hx, hb, hml, hown, hts⟩ ((x_mendingPrice l D k st lo (a 53) (a 68) (a 69) (a 70) (a 71) n0 p1 0 0 pb__4 pco__4 (a 54) (a 55) cc rz ro sd (nI id_2) (by first | assumption | omega) (by first | assumption | omega) hw_4) H.size) (cwV 1 hts (gV tw_914 tw_915 tw_916 tw_84 tw_917) rfl rfl rfl (by decide +kernel) ⟨Nat.le_of_ble_eq_true rfl, Nat.le_of_ble_eq_true rfl⟩) (pV hS hAlo hlo hP hK (va_Dlo hD hAlo) hZ [11, 12, 13, 18] (by decide) rfl (ci := 1) (q := (RX1, TX1, 8)) (q0 := 0) rfl rfl) rfl rfl hl.1 rfl (lv_room (Nat.le_of_ble_eq_true rfl)) dX7_mend_45 ⟨Nat.le_of_ble_eq_true rfl, Nat.le_of_ble_eq_true rfl⟩) hS hA hP hD [11, 12, 13, 18] [0, 1, 2, 3, 4, 5, 6, 7, 8, 9, 10, 14, 15, 16, 17, 19, 20] rfl rfl (by decide +kernel) (by decide +kernel) (fun r_5 u H locs hw_5 hP hD hS => ?_)
      obtain ⟨pd__5, pe__5, pb__5⟩ := u
      have hQ9 := pd_mk [((a 0), .inr (7, (fX7 (a 1) (a 3) (a 19) (a 35) (a 40) (nI rk) lfa (a 53) (a 56) (a 63) (a 64) (a 68)))), ((a 3), .inl (k 3, 3, .inr (.inr (.inr (.inr (a3 (a 4) (a 9) (a 14))))))), ((a 9), .inr (5, (fX5 (a 10) (a 11) (a 12) (a 13)))), (aI k (a 10) 10 (vv n1 see1 tm1 g1)), (aI k (a 12) 24 fp1), (aI k (a 13) 4 fl1), ((a 14), .inr (5, (fX5 (a 15) (a 16) (a 17) (a 18)))), (aI k (a 15) 10 (vv n2 see2 tm2 g2)), (aI k (a 17) 24 fp2), (aI k (a 18) 4 fl2), (aI k (a 71) 16 pg), ((a 4), .inr (5, (fX5 (a 5) (a 6) (a 7) (a 8)))), (aI k (a 5) 10 (vv n0 see0 tm0 g0)), (aI k (a 7) 24 fp0), (aI k (a 8) 4 fl0), (aI k (a 54) 4 wk), (aI k (a 55) 4 (nF br)), ((a 68), .inr (1, (fX1 (a 53) (a 69) (a 70) (a 71) (nI n0) p1 pd__5 pe__5))), (aI k (a 69) 4 (nF pb__5)), (aI k (a 70) 100 pco__4), ((a 53), .inr (4, (fX4 (a 54) (a 55) (nI cc) (nI rz) ro sd)))] hP hD
      clear hP hD
      obtain ⟨hP, hD⟩ := hQ9
      try dsimp only at hw_5
      obtain ⟨hP9, hD9⟩ := pd_sub [((a 0), .inr (7, (fX7 (a 1) (a 3) (a 19) (a 35) (a 40) (nI rk) lfa (a 53) (a 56) (a 63) (a 64) (a 68)))), ((a 3), .inl (k 3, 3, .inr (.inr (.inr (.inr (a3 (a 4) (a 9) (a 14))))))), ((a 4), .inr (5, (fX5 (a 5) (a 6) (a 7) (a 8)))), (aI k (a 5) 10 (vv n0 see0 tm0 g0)), (aI k (a 7) 24 fp0), (aI k (a 8) 4 fl0), ((a 9), .inr (5, (fX5 (a 10) (a 11) (a 12) (a 13)))), (aI k (a 10) 10 (vv n1 see1 tm1 g1)), (aI k (a 12) 24 fp1), (aI k (a 13) 4 fl1), ((a 14), .inr (5, (fX5 (a 15) (a 16) (a 17) (a 18)))), (aI k (a 15) 10 (vv n2 see2 tm2 g2)), (aI k (a 17) 24 fp2), (aI k (a 18) 4 fl2), ((a 53), .inr (4, (fX4 (a 54) (a 55) (nI cc) (nI rz) ro sd))), (aI k (a 54) 4 wk), (aI k (a 55) 4 (nF br)), ((a 68), .inr (1, (fX1 (a 53) (a 69) (a 70) (a 71) (nI n0) p1 pd__5 pe__5))), (aI k (a 69) 4 (nF pb__5)), (aI k (a 70) 100 pco__4), (aI k (a 71) 16 pg)] [0, 1, 11, 12, 13, 14, 2, 3, 4, 5, 6, 7, 8, 9, 20, 15, 16, 17, 18, 19, 10] hP hD (by decide +kernel) rfl
      exact W.iret (v := r_5) hx hb hr (fun t ht hW => ⟨⟨r_5, ((nI n0), p1, pd__5, pe__5, pb__5, pco__4), rfl, hw_5, by rw [ht]; exact hP9, hD9⟩, hS.F ht⟩) hS.2.2 dX7_mend_48
    · refine lv_if_ne (tgt := 26) hx hb dX7_mend_19 (by decide) (fun h => absurd (by decide) h) (fun _ => ?_)
      refine lv_sipush (v := (-1002)) hx hb dX7_mend_22 (by decide) ?_
      obtain ⟨hP9, hD9⟩ := pd_sub [((a 0), .inr (7, (fX7 (a 1) (a 3) (a 19) (a 35) (a 40) (nI rk) lfa (a 53) (a 56) (a 63) (a 64) (a 68)))), ((a 3), .inl (k 3, 3, .inr (.inr (.inr (.inr (a3 (a 4) (a 9) (a 14))))))), ((a 4), .inr (5, (fX5 (a 5) (a 6) (a 7) (a 8)))), (aI k (a 5) 10 (vv n0 see0 tm0 g0)), (aI k (a 7) 24 fp0), (aI k (a 8) 4 fl0), ((a 9), .inr (5, (fX5 (a 10) (a 11) (a 12) (a 13)))), (aI k (a 10) 10 (vv n1 see1 tm1 g1)), (aI k (a 12) 24 fp1), (aI k (a 13) 4 fl1), ((a 14), .inr (5, (fX5 (a 15) (a 16) (a 17) (a 18)))), (aI k (a 15) 10 (vv n2 see2 tm2 g2)), (aI k (a 17) 24 fp2), (aI k (a 18) 4 fl2), ((a 53), .inr (4, (fX4 (a 54) (a 55) (nI cc) (nI rz) ro sd))), (aI k (a 54) 4 wk), (aI k (a 55) 4 (nF br)), ((a 68), .inr (1, (fX1 (a 53) (a 69) (a 70) (a 71) pn pf pd pe))), (aI k (a 69) 4 (nF pb)), (aI k (a 70) 100 pco), (aI k (a 71) 16 pg)] [0, 1, 2, 3, 4, 5, 6, 7, 8, 9, 10, 11, 12, 13, 14, 15, 16, 17, 18, 19, 20] hP hD (by decide +kernel) rfl
      exact W.iret (v := (-1002)) hx hb hr (fun t ht hW => ⟨⟨(-1002), (pn, pf, pd, pe, pb, pco), rfl, hpb, by rw [ht]; exact hP9, hD9⟩, hS.F ht⟩) hS.2.2 dX7_mend_25
  · refine lv_if_ne (tgt := 13) hx hb dX7_mend_6 (by decide) (fun _ => ?_) (fun h => absurd h (by decide))
    refine lv_aload_n hx hb dX7_mend_13 rfl (lv_at hl 0 rfl) ?_
    refine lv_iload_n hx hb dX7_mend_14 rfl (lv_at hl 1 rfl) ?_
    refine lv_iload_n hx hb dX7_mend_15 rfl (lv_at hl 2 rfl) ?_
    refine ro_i (D := D) (va_runV (As := [.int 1, .int p1]) (rest := []) ⟨hx, hb, hml, hown, hts⟩ ((x_isSet_1 l D k st lo a rk lfa n1 see1 tm1 g1 p1) H.size) (cwV 2 hts (gV tw_817 tw_819 tw_18 tw_79 tw_820) rfl rfl rfl (by decide +kernel) ⟨Nat.le_of_ble_eq_true rfl, Nat.le_of_ble_eq_true rfl⟩) (pV hS hAlo hlo hP hK (va_Dlo hD hAlo) hZ [0, 1, 6, 7] (by decide) rfl (ci := 7) (q := (RX7, TX7, 12)) (q0 := 0) rfl rfl) rfl rfl hl.1 rfl (lv_room (Nat.le_of_ble_eq_true rfl)) dX7_mend_16 ⟨Nat.le_of_ble_eq_true rfl, Nat.le_of_ble_eq_true rfl⟩) hS hA hP (fun r_6 H locs hw_6 hP hS => ?_)
    try dsimp only at hw_6
    rcases hw_6 with rfl | rfl
    · refine lv_if_ne (tgt := 26) hx hb dX7_mend_19 (by decide) (fun _ => ?_) (fun h => absurd h (by decide))
      refine lv_aload_n hx hb dX7_mend_26 rfl (lv_at hl 0 rfl) ?_
      refine va_get (D := D) (ci := 7) (v := .ref (a 68)) (C := RX7) (T := TX7) (N := 12) hx hb hts inX7 hown hK hP 0 rfl rfl 11 (by decide) (hts _ tw_316) (fun _ h9 => h9) rfl dX7_mend_27 ?_
      refine lv_aload_n hx hb dX7_mend_30 rfl (lv_at hl 0 rfl) ?_
      refine va_get (D := D) (ci := 7) (v := .ref (a 3)) (C := RX7) (T := TX7) (N := 12) hx hb hts inX7 hown hK hP 0 rfl rfl 1 (by decide) (hts _ tw_306) (fun _ h9 => h9) rfl dX7_mend_31 ?_
      refine lv_iload_n hx hb dX7_mend_34 rfl (lv_at hl 1 rfl) ?_
      refine va_aldq hx hb hK hP 1 3 rfl rfl (by unfold vp_in; decide) dX7_mend_35 ?_
      refine lv_tr (y := .ref (a 9)) rfl ?_
      refine lv_iload_n hx hb dX7_mend_36 rfl (lv_at hl 2 rfl) ?_
      refine rw_v (D := D) (wr := [((a 0), .inr (7, (fX7 (a 1) (a 3) (a 19) (a 35) (a 40) (nI rk) lfa (a 53) (a 56) (a 63) (a 64) (a 68)))), ((a 3), .inl (k 3, 3, .inr (.inr (.inr (.inr (a3 (a 4) (a 9) (a 14))))))), ((a 4), .inr (5, (fX5 (a 5) (a 6) (a 7) (a 8)))), (aI k (a 5) 10 (vv n0 see0 tm0 g0)), (aI k (a 7) 24 fp0), (aI k (a 8) 4 fl0), ((a 14), .inr (5, (fX5 (a 15) (a 16) (a 17) (a 18)))), (aI k (a 15) 10 (vv n2 see2 tm2 g2)), (aI k (a 17) 24 fp2), (aI k (a 18) 4 fl2), (aI k (a 71) 16 pg)]) (va_runV (As := [.ref (a 9), .int p1]) (rest := []) ⟨hx, hb, hml, hown, hts⟩ ((x_comeTo l D k st lo (a 53) (a 68) (a 69) (a 70) (a 71) pn pf pd pe pb pco (a 9) (a 10) (a 11) (a 12) (a 13) n1 see1 tm1 g1 fp1 fl1 (a 54) (a 55) cc rz ro sd wk br p1 (by first | assumption | omega) (by first | assumption | omega) hbr hpb) H.size) (cwV 2 hts (gV tw_821 tw_822 tw_823 tw_84 tw_824) rfl rfl rfl (by decide +kernel) ⟨Nat.le_of_ble_eq_true rfl, Nat.le_of_ble_eq_true rfl⟩) (pV hS hAlo hlo hP hK (va_Dlo hD hAlo) hZ [17, 18, 19, 6, 7, 8, 9, 14, 15, 16] (by decide +kernel) rfl (ci := 1) (q := (RX1, TX1, 8)) (q0 := 0) rfl rfl) rfl rfl hl.1 rfl (lv_room (Nat.le_of_ble_eq_true rfl)) dX7_mend_37 ⟨Nat.le_of_ble_eq_true rfl, Nat.le_of_ble_eq_true rfl⟩) hS hA hP hD [17, 18, 19, 6, 7, 8, 9, 14, 15, 16] [0, 1, 2, 3, 4, 5, 10, 11, 12, 13, 20] rfl rfl (by decide +kernel) (by decide +kernel) (fun u H locs hw_7 hP hD hS => ?_)
      obtain ⟨pb__7, pco__7⟩ := u
      have hQ9 := pd_mk [((a 0), .inr (7, (fX7 (a 1) (a 3) (a 19) (a 35) (a 40) (nI rk) lfa (a 53) (a 56) (a 63) (a 64) (a 68)))), ((a 3), .inl (k 3, 3, .inr (.inr (.inr (.inr (a3 (a 4) (a 9) (a 14))))))), ((a 4), .inr (5, (fX5 (a 5) (a 6) (a 7) (a 8)))), (aI k (a 5) 10 (vv n0 see0 tm0 g0)), (aI k (a 7) 24 fp0), (aI k (a 8) 4 fl0), ((a 14), .inr (5, (fX5 (a 15) (a 16) (a 17) (a 18)))), (aI k (a 15) 10 (vv n2 see2 tm2 g2)), (aI k (a 17) 24 fp2), (aI k (a 18) 4 fl2), (aI k (a 71) 16 pg), ((a 68), .inr (1, (fX1 (a 53) (a 69) (a 70) (a 71) (nI n1) p1 0 0))), (aI k (a 69) 4 (nF pb__7)), (aI k (a 70) 100 pco__7), ((a 9), .inr (5, (fX5 (a 10) (a 11) (a 12) (a 13)))), (aI k (a 10) 10 (vv n1 see1 tm1 g1)), (aI k (a 12) 24 fp1), (aI k (a 13) 4 fl1), ((a 53), .inr (4, (fX4 (a 54) (a 55) (nI cc) (nI rz) ro sd))), (aI k (a 54) 4 wk), (aI k (a 55) 4 (nF br))] hP hD
      clear hP hD
      obtain ⟨hP, hD⟩ := hQ9
      try dsimp only at hw_7
      refine lv_aload_n hx hb dX7_mend_40 rfl (lv_at hl 0 rfl) ?_
      refine va_get (D := D) (ci := 7) (v := .ref (a 68)) (C := RX7) (T := TX7) (N := 12) hx hb hts inX7 hown hK hP 0 rfl rfl 11 (by decide) (hts _ tw_316) (fun _ h9 => h9) rfl dX7_mend_41 ?_
      refine lv_iload_n hx hb dX7_mend_44 rfl (lv_at hl 3 rfl) ?_
      refine rw_i (D := D) (wr := [((a 0), .inr (7, (fX7 (a 1) (a 3) (a 19) (a 35) (a 40) (nI rk) lfa (a 53) (a 56) (a 63) (a 64) (a 68)))), ((a 3), .inl (k 3, 3, .inr (.inr (.inr (.inr (a3 (a 4) (a 9) (a 14))))))), ((a 4), .inr (5, (fX5 (a 5) (a 6) (a 7) (a 8)))), (aI k (a 5) 10 (vv n0 see0 tm0 g0)), (aI k (a 7) 24 fp0), (aI k (a 8) 4 fl0), ((a 14), .inr (5, (fX5 (a 15) (a 16) (a 17) (a 18)))), (aI k (a 15) 10 (vv n2 see2 tm2 g2)), (aI k (a 17) 24 fp2), (aI k (a 18) 4 fl2), (aI k (a 71) 16 pg), ((a 9), .inr (5, (fX5 (a 10) (a 11) (a 12) (a 13)))), (aI k (a 10) 10 (vv n1 see1 tm1 g1)), (aI k (a 12) 24 fp1), (aI k (a 13) 4 fl1), (aI k (a 54) 4 wk), (aI k (a 55) 4 (nF br))]) (va_runV (As := [.int (nI id_2)]) (rest := []) ⟨hx, hb, hml, hown, hts⟩ ((x_mendingPrice l D k st lo (a 53) (a 68) (a 69) (a 70) (a 71) n1 p1 0 0 pb__7 pco__7 (a 54) (a 55) cc rz ro sd (nI id_2) (by first | assumption | omega) (by first | assumption | omega) hw_7) H.size) (cwV 1 hts (gV tw_914 tw_915 tw_916 tw_84 tw_917) rfl rfl rfl (by decide +kernel) ⟨Nat.le_of_ble_eq_true rfl, Nat.le_of_ble_eq_true rfl⟩) (pV hS hAlo hlo hP hK (va_Dlo hD hAlo) hZ [11, 12, 13, 18] (by decide) rfl (ci := 1) (q := (RX1, TX1, 8)) (q0 := 0) rfl rfl) rfl rfl hl.1 rfl (lv_room (Nat.le_of_ble_eq_true rfl)) dX7_mend_45 ⟨Nat.le_of_ble_eq_true rfl, Nat.le_of_ble_eq_true rfl⟩) hS hA hP hD [11, 12, 13, 18] [0, 1, 2, 3, 4, 5, 6, 7, 8, 9, 10, 14, 15, 16, 17, 19, 20] rfl rfl (by decide +kernel) (by decide +kernel) (fun r_8 u H locs hw_8 hP hD hS => ?_)
      obtain ⟨pd__8, pe__8, pb__8⟩ := u
      have hQ9 := pd_mk [((a 0), .inr (7, (fX7 (a 1) (a 3) (a 19) (a 35) (a 40) (nI rk) lfa (a 53) (a 56) (a 63) (a 64) (a 68)))), ((a 3), .inl (k 3, 3, .inr (.inr (.inr (.inr (a3 (a 4) (a 9) (a 14))))))), ((a 4), .inr (5, (fX5 (a 5) (a 6) (a 7) (a 8)))), (aI k (a 5) 10 (vv n0 see0 tm0 g0)), (aI k (a 7) 24 fp0), (aI k (a 8) 4 fl0), ((a 14), .inr (5, (fX5 (a 15) (a 16) (a 17) (a 18)))), (aI k (a 15) 10 (vv n2 see2 tm2 g2)), (aI k (a 17) 24 fp2), (aI k (a 18) 4 fl2), (aI k (a 71) 16 pg), ((a 9), .inr (5, (fX5 (a 10) (a 11) (a 12) (a 13)))), (aI k (a 10) 10 (vv n1 see1 tm1 g1)), (aI k (a 12) 24 fp1), (aI k (a 13) 4 fl1), (aI k (a 54) 4 wk), (aI k (a 55) 4 (nF br)), ((a 68), .inr (1, (fX1 (a 53) (a 69) (a 70) (a 71) (nI n1) p1 pd__8 pe__8))), (aI k (a 69) 4 (nF pb__8)), (aI k (a 70) 100 pco__7), ((a 53), .inr (4, (fX4 (a 54) (a 55) (nI cc) (nI rz) ro sd)))] hP hD
      clear hP hD
      obtain ⟨hP, hD⟩ := hQ9
      try dsimp only at hw_8
      obtain ⟨hP9, hD9⟩ := pd_sub [((a 0), .inr (7, (fX7 (a 1) (a 3) (a 19) (a 35) (a 40) (nI rk) lfa (a 53) (a 56) (a 63) (a 64) (a 68)))), ((a 3), .inl (k 3, 3, .inr (.inr (.inr (.inr (a3 (a 4) (a 9) (a 14))))))), ((a 4), .inr (5, (fX5 (a 5) (a 6) (a 7) (a 8)))), (aI k (a 5) 10 (vv n0 see0 tm0 g0)), (aI k (a 7) 24 fp0), (aI k (a 8) 4 fl0), ((a 9), .inr (5, (fX5 (a 10) (a 11) (a 12) (a 13)))), (aI k (a 10) 10 (vv n1 see1 tm1 g1)), (aI k (a 12) 24 fp1), (aI k (a 13) 4 fl1), ((a 14), .inr (5, (fX5 (a 15) (a 16) (a 17) (a 18)))), (aI k (a 15) 10 (vv n2 see2 tm2 g2)), (aI k (a 17) 24 fp2), (aI k (a 18) 4 fl2), ((a 53), .inr (4, (fX4 (a 54) (a 55) (nI cc) (nI rz) ro sd))), (aI k (a 54) 4 wk), (aI k (a 55) 4 (nF br)), ((a 68), .inr (1, (fX1 (a 53) (a 69) (a 70) (a 71) (nI n1) p1 pd__8 pe__8))), (aI k (a 69) 4 (nF pb__8)), (aI k (a 70) 100 pco__7), (aI k (a 71) 16 pg)] [0, 1, 2, 3, 4, 5, 11, 12, 13, 14, 6, 7, 8, 9, 20, 15, 16, 17, 18, 19, 10] hP hD (by decide +kernel) rfl
      exact W.iret (v := r_8) hx hb hr (fun t ht hW => ⟨⟨r_8, ((nI n1), p1, pd__8, pe__8, pb__8, pco__7), rfl, hw_8, by rw [ht]; exact hP9, hD9⟩, hS.F ht⟩) hS.2.2 dX7_mend_48
    · refine lv_if_ne (tgt := 26) hx hb dX7_mend_19 (by decide) (fun h => absurd (by decide) h) (fun _ => ?_)
      refine lv_sipush (v := (-1002)) hx hb dX7_mend_22 (by decide) ?_
      obtain ⟨hP9, hD9⟩ := pd_sub [((a 0), .inr (7, (fX7 (a 1) (a 3) (a 19) (a 35) (a 40) (nI rk) lfa (a 53) (a 56) (a 63) (a 64) (a 68)))), ((a 3), .inl (k 3, 3, .inr (.inr (.inr (.inr (a3 (a 4) (a 9) (a 14))))))), ((a 4), .inr (5, (fX5 (a 5) (a 6) (a 7) (a 8)))), (aI k (a 5) 10 (vv n0 see0 tm0 g0)), (aI k (a 7) 24 fp0), (aI k (a 8) 4 fl0), ((a 9), .inr (5, (fX5 (a 10) (a 11) (a 12) (a 13)))), (aI k (a 10) 10 (vv n1 see1 tm1 g1)), (aI k (a 12) 24 fp1), (aI k (a 13) 4 fl1), ((a 14), .inr (5, (fX5 (a 15) (a 16) (a 17) (a 18)))), (aI k (a 15) 10 (vv n2 see2 tm2 g2)), (aI k (a 17) 24 fp2), (aI k (a 18) 4 fl2), ((a 53), .inr (4, (fX4 (a 54) (a 55) (nI cc) (nI rz) ro sd))), (aI k (a 54) 4 wk), (aI k (a 55) 4 (nF br)), ((a 68), .inr (1, (fX1 (a 53) (a 69) (a 70) (a 71) pn pf pd pe))), (aI k (a 69) 4 (nF pb)), (aI k (a 70) 100 pco), (aI k (a 71) 16 pg)] [0, 1, 2, 3, 4, 5, 6, 7, 8, 9, 10, 11, 12, 13, 14, 15, 16, 17, 18, 19, 20] hP hD (by decide +kernel) rfl
      exact W.iret (v := (-1002)) hx hb hr (fun t ht hW => ⟨⟨(-1002), (pn, pf, pd, pe, pb, pco), rfl, hpb, by rw [ht]; exact hP9, hD9⟩, hS.F ht⟩) hS.2.2 dX7_mend_25
  · refine lv_if_ne (tgt := 13) hx hb dX7_mend_6 (by decide) (fun _ => ?_) (fun h => absurd h (by decide))
    refine lv_aload_n hx hb dX7_mend_13 rfl (lv_at hl 0 rfl) ?_
    refine lv_iload_n hx hb dX7_mend_14 rfl (lv_at hl 1 rfl) ?_
    refine lv_iload_n hx hb dX7_mend_15 rfl (lv_at hl 2 rfl) ?_
    refine ro_i (D := D) (va_runV (As := [.int 2, .int p1]) (rest := []) ⟨hx, hb, hml, hown, hts⟩ ((x_isSet_2 l D k st lo a rk lfa n2 see2 tm2 g2 p1) H.size) (cwV 2 hts (gV tw_817 tw_819 tw_18 tw_79 tw_820) rfl rfl rfl (by decide +kernel) ⟨Nat.le_of_ble_eq_true rfl, Nat.le_of_ble_eq_true rfl⟩) (pV hS hAlo hlo hP hK (va_Dlo hD hAlo) hZ [0, 1, 10, 11] (by decide) rfl (ci := 7) (q := (RX7, TX7, 12)) (q0 := 0) rfl rfl) rfl rfl hl.1 rfl (lv_room (Nat.le_of_ble_eq_true rfl)) dX7_mend_16 ⟨Nat.le_of_ble_eq_true rfl, Nat.le_of_ble_eq_true rfl⟩) hS hA hP (fun r_9 H locs hw_9 hP hS => ?_)
    try dsimp only at hw_9
    rcases hw_9 with rfl | rfl
    · refine lv_if_ne (tgt := 26) hx hb dX7_mend_19 (by decide) (fun _ => ?_) (fun h => absurd h (by decide))
      refine lv_aload_n hx hb dX7_mend_26 rfl (lv_at hl 0 rfl) ?_
      refine va_get (D := D) (ci := 7) (v := .ref (a 68)) (C := RX7) (T := TX7) (N := 12) hx hb hts inX7 hown hK hP 0 rfl rfl 11 (by decide) (hts _ tw_316) (fun _ h9 => h9) rfl dX7_mend_27 ?_
      refine lv_aload_n hx hb dX7_mend_30 rfl (lv_at hl 0 rfl) ?_
      refine va_get (D := D) (ci := 7) (v := .ref (a 3)) (C := RX7) (T := TX7) (N := 12) hx hb hts inX7 hown hK hP 0 rfl rfl 1 (by decide) (hts _ tw_306) (fun _ h9 => h9) rfl dX7_mend_31 ?_
      refine lv_iload_n hx hb dX7_mend_34 rfl (lv_at hl 1 rfl) ?_
      refine va_aldq hx hb hK hP 1 3 rfl rfl (by unfold vp_in; decide) dX7_mend_35 ?_
      refine lv_tr (y := .ref (a 14)) rfl ?_
      refine lv_iload_n hx hb dX7_mend_36 rfl (lv_at hl 2 rfl) ?_
      refine rw_v (D := D) (wr := [((a 0), .inr (7, (fX7 (a 1) (a 3) (a 19) (a 35) (a 40) (nI rk) lfa (a 53) (a 56) (a 63) (a 64) (a 68)))), ((a 3), .inl (k 3, 3, .inr (.inr (.inr (.inr (a3 (a 4) (a 9) (a 14))))))), ((a 4), .inr (5, (fX5 (a 5) (a 6) (a 7) (a 8)))), (aI k (a 5) 10 (vv n0 see0 tm0 g0)), (aI k (a 7) 24 fp0), (aI k (a 8) 4 fl0), ((a 9), .inr (5, (fX5 (a 10) (a 11) (a 12) (a 13)))), (aI k (a 10) 10 (vv n1 see1 tm1 g1)), (aI k (a 12) 24 fp1), (aI k (a 13) 4 fl1), (aI k (a 71) 16 pg)]) (va_runV (As := [.ref (a 14), .int p1]) (rest := []) ⟨hx, hb, hml, hown, hts⟩ ((x_comeTo l D k st lo (a 53) (a 68) (a 69) (a 70) (a 71) pn pf pd pe pb pco (a 14) (a 15) (a 16) (a 17) (a 18) n2 see2 tm2 g2 fp2 fl2 (a 54) (a 55) cc rz ro sd wk br p1 (by first | assumption | omega) (by first | assumption | omega) hbr hpb) H.size) (cwV 2 hts (gV tw_821 tw_822 tw_823 tw_84 tw_824) rfl rfl rfl (by decide +kernel) ⟨Nat.le_of_ble_eq_true rfl, Nat.le_of_ble_eq_true rfl⟩) (pV hS hAlo hlo hP hK (va_Dlo hD hAlo) hZ [17, 18, 19, 10, 11, 12, 13, 14, 15, 16] (by decide +kernel) rfl (ci := 1) (q := (RX1, TX1, 8)) (q0 := 0) rfl rfl) rfl rfl hl.1 rfl (lv_room (Nat.le_of_ble_eq_true rfl)) dX7_mend_37 ⟨Nat.le_of_ble_eq_true rfl, Nat.le_of_ble_eq_true rfl⟩) hS hA hP hD [17, 18, 19, 10, 11, 12, 13, 14, 15, 16] [0, 1, 2, 3, 4, 5, 6, 7, 8, 9, 20] rfl rfl (by decide +kernel) (by decide +kernel) (fun u H locs hw_10 hP hD hS => ?_)
      obtain ⟨pb__10, pco__10⟩ := u
      have hQ9 := pd_mk [((a 0), .inr (7, (fX7 (a 1) (a 3) (a 19) (a 35) (a 40) (nI rk) lfa (a 53) (a 56) (a 63) (a 64) (a 68)))), ((a 3), .inl (k 3, 3, .inr (.inr (.inr (.inr (a3 (a 4) (a 9) (a 14))))))), ((a 4), .inr (5, (fX5 (a 5) (a 6) (a 7) (a 8)))), (aI k (a 5) 10 (vv n0 see0 tm0 g0)), (aI k (a 7) 24 fp0), (aI k (a 8) 4 fl0), ((a 9), .inr (5, (fX5 (a 10) (a 11) (a 12) (a 13)))), (aI k (a 10) 10 (vv n1 see1 tm1 g1)), (aI k (a 12) 24 fp1), (aI k (a 13) 4 fl1), (aI k (a 71) 16 pg), ((a 68), .inr (1, (fX1 (a 53) (a 69) (a 70) (a 71) (nI n2) p1 0 0))), (aI k (a 69) 4 (nF pb__10)), (aI k (a 70) 100 pco__10), ((a 14), .inr (5, (fX5 (a 15) (a 16) (a 17) (a 18)))), (aI k (a 15) 10 (vv n2 see2 tm2 g2)), (aI k (a 17) 24 fp2), (aI k (a 18) 4 fl2), ((a 53), .inr (4, (fX4 (a 54) (a 55) (nI cc) (nI rz) ro sd))), (aI k (a 54) 4 wk), (aI k (a 55) 4 (nF br))] hP hD
      clear hP hD
      obtain ⟨hP, hD⟩ := hQ9
      try dsimp only at hw_10
      refine lv_aload_n hx hb dX7_mend_40 rfl (lv_at hl 0 rfl) ?_
      refine va_get (D := D) (ci := 7) (v := .ref (a 68)) (C := RX7) (T := TX7) (N := 12) hx hb hts inX7 hown hK hP 0 rfl rfl 11 (by decide) (hts _ tw_316) (fun _ h9 => h9) rfl dX7_mend_41 ?_
      refine lv_iload_n hx hb dX7_mend_44 rfl (lv_at hl 3 rfl) ?_
      refine rw_i (D := D) (wr := [((a 0), .inr (7, (fX7 (a 1) (a 3) (a 19) (a 35) (a 40) (nI rk) lfa (a 53) (a 56) (a 63) (a 64) (a 68)))), ((a 3), .inl (k 3, 3, .inr (.inr (.inr (.inr (a3 (a 4) (a 9) (a 14))))))), ((a 4), .inr (5, (fX5 (a 5) (a 6) (a 7) (a 8)))), (aI k (a 5) 10 (vv n0 see0 tm0 g0)), (aI k (a 7) 24 fp0), (aI k (a 8) 4 fl0), ((a 9), .inr (5, (fX5 (a 10) (a 11) (a 12) (a 13)))), (aI k (a 10) 10 (vv n1 see1 tm1 g1)), (aI k (a 12) 24 fp1), (aI k (a 13) 4 fl1), (aI k (a 71) 16 pg), ((a 14), .inr (5, (fX5 (a 15) (a 16) (a 17) (a 18)))), (aI k (a 15) 10 (vv n2 see2 tm2 g2)), (aI k (a 17) 24 fp2), (aI k (a 18) 4 fl2), (aI k (a 54) 4 wk), (aI k (a 55) 4 (nF br))]) (va_runV (As := [.int (nI id_2)]) (rest := []) ⟨hx, hb, hml, hown, hts⟩ ((x_mendingPrice l D k st lo (a 53) (a 68) (a 69) (a 70) (a 71) n2 p1 0 0 pb__10 pco__10 (a 54) (a 55) cc rz ro sd (nI id_2) (by first | assumption | omega) (by first | assumption | omega) hw_10) H.size) (cwV 1 hts (gV tw_914 tw_915 tw_916 tw_84 tw_917) rfl rfl rfl (by decide +kernel) ⟨Nat.le_of_ble_eq_true rfl, Nat.le_of_ble_eq_true rfl⟩) (pV hS hAlo hlo hP hK (va_Dlo hD hAlo) hZ [11, 12, 13, 18] (by decide) rfl (ci := 1) (q := (RX1, TX1, 8)) (q0 := 0) rfl rfl) rfl rfl hl.1 rfl (lv_room (Nat.le_of_ble_eq_true rfl)) dX7_mend_45 ⟨Nat.le_of_ble_eq_true rfl, Nat.le_of_ble_eq_true rfl⟩) hS hA hP hD [11, 12, 13, 18] [0, 1, 2, 3, 4, 5, 6, 7, 8, 9, 10, 14, 15, 16, 17, 19, 20] rfl rfl (by decide +kernel) (by decide +kernel) (fun r_11 u H locs hw_11 hP hD hS => ?_)
      obtain ⟨pd__11, pe__11, pb__11⟩ := u
      have hQ9 := pd_mk [((a 0), .inr (7, (fX7 (a 1) (a 3) (a 19) (a 35) (a 40) (nI rk) lfa (a 53) (a 56) (a 63) (a 64) (a 68)))), ((a 3), .inl (k 3, 3, .inr (.inr (.inr (.inr (a3 (a 4) (a 9) (a 14))))))), ((a 4), .inr (5, (fX5 (a 5) (a 6) (a 7) (a 8)))), (aI k (a 5) 10 (vv n0 see0 tm0 g0)), (aI k (a 7) 24 fp0), (aI k (a 8) 4 fl0), ((a 9), .inr (5, (fX5 (a 10) (a 11) (a 12) (a 13)))), (aI k (a 10) 10 (vv n1 see1 tm1 g1)), (aI k (a 12) 24 fp1), (aI k (a 13) 4 fl1), (aI k (a 71) 16 pg), ((a 14), .inr (5, (fX5 (a 15) (a 16) (a 17) (a 18)))), (aI k (a 15) 10 (vv n2 see2 tm2 g2)), (aI k (a 17) 24 fp2), (aI k (a 18) 4 fl2), (aI k (a 54) 4 wk), (aI k (a 55) 4 (nF br)), ((a 68), .inr (1, (fX1 (a 53) (a 69) (a 70) (a 71) (nI n2) p1 pd__11 pe__11))), (aI k (a 69) 4 (nF pb__11)), (aI k (a 70) 100 pco__10), ((a 53), .inr (4, (fX4 (a 54) (a 55) (nI cc) (nI rz) ro sd)))] hP hD
      clear hP hD
      obtain ⟨hP, hD⟩ := hQ9
      try dsimp only at hw_11
      obtain ⟨hP9, hD9⟩ := pd_sub [((a 0), .inr (7, (fX7 (a 1) (a 3) (a 19) (a 35) (a 40) (nI rk) lfa (a 53) (a 56) (a 63) (a 64) (a 68)))), ((a 3), .inl (k 3, 3, .inr (.inr (.inr (.inr (a3 (a 4) (a 9) (a 14))))))), ((a 4), .inr (5, (fX5 (a 5) (a 6) (a 7) (a 8)))), (aI k (a 5) 10 (vv n0 see0 tm0 g0)), (aI k (a 7) 24 fp0), (aI k (a 8) 4 fl0), ((a 9), .inr (5, (fX5 (a 10) (a 11) (a 12) (a 13)))), (aI k (a 10) 10 (vv n1 see1 tm1 g1)), (aI k (a 12) 24 fp1), (aI k (a 13) 4 fl1), ((a 14), .inr (5, (fX5 (a 15) (a 16) (a 17) (a 18)))), (aI k (a 15) 10 (vv n2 see2 tm2 g2)), (aI k (a 17) 24 fp2), (aI k (a 18) 4 fl2), ((a 53), .inr (4, (fX4 (a 54) (a 55) (nI cc) (nI rz) ro sd))), (aI k (a 54) 4 wk), (aI k (a 55) 4 (nF br)), ((a 68), .inr (1, (fX1 (a 53) (a 69) (a 70) (a 71) (nI n2) p1 pd__11 pe__11))), (aI k (a 69) 4 (nF pb__11)), (aI k (a 70) 100 pco__10), (aI k (a 71) 16 pg)] [0, 1, 2, 3, 4, 5, 6, 7, 8, 9, 11, 12, 13, 14, 20, 15, 16, 17, 18, 19, 10] hP hD (by decide +kernel) rfl
      exact W.iret (v := r_11) hx hb hr (fun t ht hW => ⟨⟨r_11, ((nI n2), p1, pd__11, pe__11, pb__11, pco__10), rfl, hw_11, by rw [ht]; exact hP9, hD9⟩, hS.F ht⟩) hS.2.2 dX7_mend_48
    · refine lv_if_ne (tgt := 26) hx hb dX7_mend_19 (by decide) (fun h => absurd (by decide) h) (fun _ => ?_)
      refine lv_sipush (v := (-1002)) hx hb dX7_mend_22 (by decide) ?_
      obtain ⟨hP9, hD9⟩ := pd_sub [((a 0), .inr (7, (fX7 (a 1) (a 3) (a 19) (a 35) (a 40) (nI rk) lfa (a 53) (a 56) (a 63) (a 64) (a 68)))), ((a 3), .inl (k 3, 3, .inr (.inr (.inr (.inr (a3 (a 4) (a 9) (a 14))))))), ((a 4), .inr (5, (fX5 (a 5) (a 6) (a 7) (a 8)))), (aI k (a 5) 10 (vv n0 see0 tm0 g0)), (aI k (a 7) 24 fp0), (aI k (a 8) 4 fl0), ((a 9), .inr (5, (fX5 (a 10) (a 11) (a 12) (a 13)))), (aI k (a 10) 10 (vv n1 see1 tm1 g1)), (aI k (a 12) 24 fp1), (aI k (a 13) 4 fl1), ((a 14), .inr (5, (fX5 (a 15) (a 16) (a 17) (a 18)))), (aI k (a 15) 10 (vv n2 see2 tm2 g2)), (aI k (a 17) 24 fp2), (aI k (a 18) 4 fl2), ((a 53), .inr (4, (fX4 (a 54) (a 55) (nI cc) (nI rz) ro sd))), (aI k (a 54) 4 wk), (aI k (a 55) 4 (nF br)), ((a 68), .inr (1, (fX1 (a 53) (a 69) (a 70) (a 71) pn pf pd pe))), (aI k (a 69) 4 (nF pb)), (aI k (a 70) 100 pco), (aI k (a 71) 16 pg)] [0, 1, 2, 3, 4, 5, 6, 7, 8, 9, 10, 11, 12, 13, 14, 15, 16, 17, 18, 19, 20] hP hD (by decide +kernel) rfl
      exact W.iret (v := (-1002)) hx hb hr (fun t ht hW => ⟨⟨(-1002), (pn, pf, pd, pe, pb, pco), rfl, hpb, by rw [ht]; exact hP9, hD9⟩, hS.F ht⟩) hS.2.2 dX7_mend_25
  · refine lv_if_ne (tgt := 13) hx hb dX7_mend_6 (by decide) (fun h => absurd (by decide) h) (fun _ => ?_)
    refine lv_sipush (v := (-1001)) hx hb dX7_mend_9 (by decide) ?_
    obtain ⟨hP9, hD9⟩ := pd_sub [((a 0), .inr (7, (fX7 (a 1) (a 3) (a 19) (a 35) (a 40) (nI rk) lfa (a 53) (a 56) (a 63) (a 64) (a 68)))), ((a 3), .inl (k 3, 3, .inr (.inr (.inr (.inr (a3 (a 4) (a 9) (a 14))))))), ((a 4), .inr (5, (fX5 (a 5) (a 6) (a 7) (a 8)))), (aI k (a 5) 10 (vv n0 see0 tm0 g0)), (aI k (a 7) 24 fp0), (aI k (a 8) 4 fl0), ((a 9), .inr (5, (fX5 (a 10) (a 11) (a 12) (a 13)))), (aI k (a 10) 10 (vv n1 see1 tm1 g1)), (aI k (a 12) 24 fp1), (aI k (a 13) 4 fl1), ((a 14), .inr (5, (fX5 (a 15) (a 16) (a 17) (a 18)))), (aI k (a 15) 10 (vv n2 see2 tm2 g2)), (aI k (a 17) 24 fp2), (aI k (a 18) 4 fl2), ((a 53), .inr (4, (fX4 (a 54) (a 55) (nI cc) (nI rz) ro sd))), (aI k (a 54) 4 wk), (aI k (a 55) 4 (nF br)), ((a 68), .inr (1, (fX1 (a 53) (a 69) (a 70) (a 71) pn pf pd pe))), (aI k (a 69) 4 (nF pb)), (aI k (a 70) 100 pco), (aI k (a 71) 16 pg)] [0, 1, 2, 3, 4, 5, 6, 7, 8, 9, 10, 11, 12, 13, 14, 15, 16, 17, 18, 19, 20] hP hD (by decide +kernel) rfl
    exact W.iret (v := (-1001)) hx hb hr (fun t ht hW => ⟨⟨(-1001), (pn, pf, pd, pe, pb, pco), rfl, hpb, by rw [ht]; exact hP9, hD9⟩, hS.F ht⟩) hS.2.2 dX7_mend_12

theorem f_x_seed_rows : True := trivial
theorem dX7_seed_0 : decode cX7_seed 0 = .ok (.iload_n 1, 1) := by decide +kernel
theorem dX7_seed_1 : decode cX7_seed 1 = .ok (.ifCond .ge 7, 3) := by decide +kernel
theorem dX7_seed_4 : decode cX7_seed 4 = .ok (.sipush (-1002), 3) := by decide +kernel
theorem dX7_seed_7 : decode cX7_seed 7 = .ok (.ireturn, 1) := by decide +kernel
theorem dX7_seed_8 : decode cX7_seed 8 = .ok (.aload_n 0, 1) := by decide +kernel
theorem dX7_seed_9 : decode cX7_seed 9 = .ok (.getfield 49, 3) := by decide +kernel
theorem dX7_seed_12 : decode cX7_seed 12 = .ok (.getfield 266, 3) := by decide +kernel
theorem dX7_seed_15 : decode cX7_seed 15 = .ok (.istore_n 2, 1) := by decide +kernel
theorem dX7_seed_16 : decode cX7_seed 16 = .ok (.aload_n 0, 1) := by decide +kernel
theorem dX7_seed_17 : decode cX7_seed 17 = .ok (.getfield 49, 3) := by decide +kernel
theorem dX7_seed_20 : decode cX7_seed 20 = .ok (.iload_n 1, 1) := by decide +kernel
theorem dX7_seed_21 : decode cX7_seed 21 = .ok (.putfield 266, 3) := by decide +kernel
theorem dX7_seed_24 : decode cX7_seed 24 = .ok (.iload_n 2, 1) := by decide +kernel
theorem dX7_seed_25 : decode cX7_seed 25 = .ok (.ireturn, 1) := by decide +kernel
theorem f_x_evening_rows : True := trivial
theorem dX7_evening_0 : decode cX7_evening 0 = .ok (.aload_n 0, 1) := by decide +kernel
theorem dX7_evening_1 : decode cX7_evening 1 = .ok (.iload_n 1, 1) := by decide +kernel
theorem dX7_evening_2 : decode cX7_evening 2 = .ok (.invokevirtual 108, 3) := by decide +kernel
theorem dX7_evening_5 : decode cX7_evening 5 = .ok (.ifCond .eq 11, 3) := by decide +kernel
theorem dX7_evening_8 : decode cX7_evening 8 = .ok (.aload_n 0, 1) := by decide +kernel
theorem dX7_evening_9 : decode cX7_evening 9 = .ok (.iload_n 2, 1) := by decide +kernel
theorem dX7_evening_10 : decode cX7_evening 10 = .ok (.invokevirtual 169, 3) := by decide +kernel
theorem dX7_evening_13 : decode cX7_evening 13 = .ok (.ifCond .ne 7, 3) := by decide +kernel
theorem dX7_evening_16 : decode cX7_evening 16 = .ok (.sipush (-1001), 3) := by decide +kernel
theorem dX7_evening_19 : decode cX7_evening 19 = .ok (.ireturn, 1) := by decide +kernel
theorem dX7_evening_20 : decode cX7_evening 20 = .ok (.iload_n 3, 1) := by decide +kernel
theorem dX7_evening_21 : decode cX7_evening 21 = .ok (.iconst 1, 1) := by decide +kernel
theorem dX7_evening_22 : decode cX7_evening 22 = .ok (.bipush 50, 2) := by decide +kernel
theorem dX7_evening_24 : decode cX7_evening 24 = .ok (.invokestatic 112, 3) := by decide +kernel
theorem dX7_evening_27 : decode cX7_evening 27 = .ok (.ifCond .ne 7, 3) := by decide +kernel
theorem dX7_evening_30 : decode cX7_evening 30 = .ok (.sipush (-1002), 3) := by decide +kernel
theorem dX7_evening_33 : decode cX7_evening 33 = .ok (.ireturn, 1) := by decide +kernel
theorem dX7_evening_34 : decode cX7_evening 34 = .ok (.lconst 0, 1) := by decide +kernel
theorem dX7_evening_35 : decode cX7_evening 35 = .ok (.lstore 4, 2) := by decide +kernel
theorem dX7_evening_37 : decode cX7_evening 37 = .ok (.iconst 0, 1) := by decide +kernel
theorem dX7_evening_38 : decode cX7_evening 38 = .ok (.istore 6, 2) := by decide +kernel
theorem dX7_evening_40 : decode cX7_evening 40 = .ok (.iload 6, 2) := by decide +kernel
theorem dX7_evening_42 : decode cX7_evening 42 = .ok (.iload_n 3, 1) := by decide +kernel
theorem dX7_evening_43 : decode cX7_evening 43 = .ok (.if_icmp .ge 38, 3) := by decide +kernel
theorem dX7_evening_46 : decode cX7_evening 46 = .ok (.lload 4, 2) := by decide +kernel
theorem dX7_evening_48 : decode cX7_evening 48 = .ok (.aload_n 0, 1) := by decide +kernel
theorem dX7_evening_49 : decode cX7_evening 49 = .ok (.getfield 64, 3) := by decide +kernel
theorem dX7_evening_52 : decode cX7_evening 52 = .ok (.aload_n 0, 1) := by decide +kernel
theorem dX7_evening_53 : decode cX7_evening 53 = .ok (.getfield 18, 3) := by decide +kernel
theorem dX7_evening_56 : decode cX7_evening 56 = .ok (.iload_n 1, 1) := by decide +kernel
theorem dX7_evening_57 : decode cX7_evening 57 = .ok (.aaload, 1) := by decide +kernel
theorem dX7_evening_58 : decode cX7_evening 58 = .ok (.aload_n 0, 1) := by decide +kernel
theorem dX7_evening_59 : decode cX7_evening 59 = .ok (.getfield 35, 3) := by decide +kernel
theorem dX7_evening_62 : decode cX7_evening 62 = .ok (.iload_n 2, 1) := by decide +kernel
theorem dX7_evening_63 : decode cX7_evening 63 = .ok (.aaload, 1) := by decide +kernel
theorem dX7_evening_64 : decode cX7_evening 64 = .ok (.aload_n 0, 1) := by decide +kernel
theorem dX7_evening_65 : decode cX7_evening 65 = .ok (.getfield 49, 3) := by decide +kernel
theorem dX7_evening_68 : decode cX7_evening 68 = .ok (.invokevirtual 269, 3) := by decide +kernel
theorem dX7_evening_71 : decode cX7_evening 71 = .ok (.i2l, 1) := by decide +kernel
theorem dX7_evening_72 : decode cX7_evening 72 = .ok (.ladd, 1) := by decide +kernel
theorem dX7_evening_73 : decode cX7_evening 73 = .ok (.lstore 4, 2) := by decide +kernel
theorem dX7_evening_75 : decode cX7_evening 75 = .ok (.iinc 6 1, 3) := by decide +kernel
theorem dX7_evening_78 : decode cX7_evening 78 = .ok (.goto (-38), 3) := by decide +kernel
theorem dX7_evening_81 : decode cX7_evening 81 = .ok (.lload 4, 2) := by decide +kernel
theorem dX7_evening_83 : decode cX7_evening 83 = .ok (.ldc2_w 273, 3) := by decide +kernel
theorem dX7_evening_86 : decode cX7_evening 86 = .ok (.ldiv, 1) := by decide +kernel
theorem dX7_evening_87 : decode cX7_evening 87 = .ok (.l2i, 1) := by decide +kernel
theorem dX7_evening_88 : decode cX7_evening 88 = .ok (.ireturn, 1) := by decide +kernel
theorem f_x_keep_rows : True := trivial
theorem dX7_keep_0 : decode cX7_keep 0 = .ok (.iload_n 1, 1) := by decide +kernel
theorem dX7_keep_1 : decode cX7_keep 1 = .ok (.iconst 0, 1) := by decide +kernel
theorem dX7_keep_2 : decode cX7_keep 2 = .ok (.iconst 1, 1) := by decide +kernel
theorem dX7_keep_3 : decode cX7_keep 3 = .ok (.invokestatic 112, 3) := by decide +kernel
theorem dX7_keep_6 : decode cX7_keep 6 = .ok (.ifCond .ne 7, 3) := by decide +kernel
theorem dX7_keep_9 : decode cX7_keep 9 = .ok (.sipush (-1001), 3) := by decide +kernel
theorem dX7_keep_12 : decode cX7_keep 12 = .ok (.ireturn, 1) := by decide +kernel
theorem dX7_keep_13 : decode cX7_keep 13 = .ok (.aload_n 0, 1) := by decide +kernel
theorem dX7_keep_14 : decode cX7_keep 14 = .ok (.getfield 53, 3) := by decide +kernel
theorem dX7_keep_17 : decode cX7_keep 17 = .ok (.iload_n 1, 1) := by decide +kernel
theorem dX7_keep_18 : decode cX7_keep 18 = .ok (.aaload, 1) := by decide +kernel
theorem dX7_keep_19 : decode cX7_keep 19 = .ok (.aload_n 0, 1) := by decide +kernel
theorem dX7_keep_20 : decode cX7_keep 20 = .ok (.getfield 49, 3) := by decide +kernel
theorem dX7_keep_23 : decode cX7_keep 23 = .ok (.invokevirtual 280, 3) := by decide +kernel
theorem dX7_keep_26 : decode cX7_keep 26 = .ok (.aload_n 0, 1) := by decide +kernel
theorem dX7_keep_27 : decode cX7_keep 27 = .ok (.getfield 57, 3) := by decide +kernel
theorem dX7_keep_30 : decode cX7_keep 30 = .ok (.iload_n 1, 1) := by decide +kernel
theorem dX7_keep_31 : decode cX7_keep 31 = .ok (.iconst 1, 1) := by decide +kernel
theorem dX7_keep_32 : decode cX7_keep 32 = .ok (.bastore, 1) := by decide +kernel
theorem dX7_keep_33 : decode cX7_keep 33 = .ok (.iconst 1, 1) := by decide +kernel
theorem dX7_keep_34 : decode cX7_keep 34 = .ok (.ireturn, 1) := by decide +kernel
theorem f_x_goBack_rows : True := trivial
theorem dX7_goBack_0 : decode cX7_goBack 0 = .ok (.iload_n 1, 1) := by decide +kernel
theorem dX7_goBack_1 : decode cX7_goBack 1 = .ok (.iconst 0, 1) := by decide +kernel
theorem dX7_goBack_2 : decode cX7_goBack 2 = .ok (.iconst 1, 1) := by decide +kernel
theorem dX7_goBack_3 : decode cX7_goBack 3 = .ok (.invokestatic 112, 3) := by decide +kernel
theorem dX7_goBack_6 : decode cX7_goBack 6 = .ok (.ifCond .ne 7, 3) := by decide +kernel
theorem dX7_goBack_9 : decode cX7_goBack 9 = .ok (.sipush (-1001), 3) := by decide +kernel
theorem dX7_goBack_12 : decode cX7_goBack 12 = .ok (.ireturn, 1) := by decide +kernel
theorem dX7_goBack_13 : decode cX7_goBack 13 = .ok (.aload_n 0, 1) := by decide +kernel
theorem dX7_goBack_14 : decode cX7_goBack 14 = .ok (.getfield 57, 3) := by decide +kernel
theorem dX7_goBack_17 : decode cX7_goBack 17 = .ok (.iload_n 1, 1) := by decide +kernel
theorem dX7_goBack_18 : decode cX7_goBack 18 = .ok (.baload, 1) := by decide +kernel
theorem dX7_goBack_19 : decode cX7_goBack 19 = .ok (.ifCond .ne 7, 3) := by decide +kernel
theorem dX7_goBack_22 : decode cX7_goBack 22 = .ok (.sipush (-1003), 3) := by decide +kernel
theorem dX7_goBack_25 : decode cX7_goBack 25 = .ok (.ireturn, 1) := by decide +kernel
theorem dX7_goBack_26 : decode cX7_goBack 26 = .ok (.aload_n 0, 1) := by decide +kernel
theorem dX7_goBack_27 : decode cX7_goBack 27 = .ok (.getfield 49, 3) := by decide +kernel
theorem dX7_goBack_30 : decode cX7_goBack 30 = .ok (.aload_n 0, 1) := by decide +kernel
theorem dX7_goBack_31 : decode cX7_goBack 31 = .ok (.getfield 53, 3) := by decide +kernel
theorem dX7_goBack_34 : decode cX7_goBack 34 = .ok (.iload_n 1, 1) := by decide +kernel
theorem dX7_goBack_35 : decode cX7_goBack 35 = .ok (.aaload, 1) := by decide +kernel
theorem dX7_goBack_36 : decode cX7_goBack 36 = .ok (.invokevirtual 280, 3) := by decide +kernel
theorem dX7_goBack_39 : decode cX7_goBack 39 = .ok (.iconst 1, 1) := by decide +kernel
theorem dX7_goBack_40 : decode cX7_goBack 40 = .ok (.ireturn, 1) := by decide +kernel
theorem tw_100 : Cond.methodLink RX7 3 objectInit ∈ LW := LWm1 (i := 22) (by decide +kernel) rfl
theorem tw_101 : Cond.instanceMethod objectInit ∈ LW := LWm1 (i := 23) (by decide +kernel) rfl
set_option maxRecDepth 100000 in theorem tw_102 : Cond.code objectInit ⟨#[0xb1]⟩ 1 none ∈ LW := LWm1 (i := 24) rfl rfl
theorem tw_103 : Cond.classLink RX7 9 RX6 ∈ LW := LWm1 (i := 25) (by decide +kernel) rfl
theorem tw_104 : Cond.instantiable RX6 6 ∈ LW := LWm1 (i := 26) (by decide +kernel) rfl
theorem tw_106 : Cond.instanceMethod yX6_init ∈ LW := LWm1 (i := 28) (by decide +kernel) rfl
set_option maxRecDepth 100000 in theorem tw_107 : Cond.code yX6_init cX6_init 1 none ∈ LW := LWm1 (i := 29) rfl rfl
theorem tw_108 : Cond.methodLink RX6 3 objectInit ∈ LW := LWm1 (i := 30) (by decide +kernel) rfl
theorem tw_136 : Cond.arrayClass .byte ∈ LW := LWm1 (i := 58) (by decide +kernel) rfl
theorem tw_137 : Cond.classLink RX7 16 RX5 ∈ LW := LWm1 (i := 59) (by decide +kernel) rfl
theorem tw_139 : Cond.classLink RX7 22 RX0 ∈ LW := LWm1 (i := 61) (by decide +kernel) rfl
theorem tw_141 : Cond.instantiable RX5 4 ∈ LW := LWm1 (i := 63) (by decide +kernel) rfl
theorem tw_143 : Cond.instanceMethod yX5_init ∈ LW := LWm1 (i := 65) (by decide +kernel) rfl
set_option maxRecDepth 100000 in theorem tw_144 : Cond.code yX5_init cX5_init 1 none ∈ LW := LWm1 (i := 66) rfl rfl
theorem tw_145 : Cond.methodLink RX5 3 objectInit ∈ LW := LWm1 (i := 67) (by decide +kernel) rfl
theorem tw_164 : Cond.arrayClass .int ∈ LW := LWm1 (i := 86) (by decide +kernel) rfl
theorem tw_165 : Cond.classLink RX7 33 RX3 ∈ LW := LWm1 (i := 87) (by decide +kernel) rfl
theorem tw_167 : Cond.classLink RX7 46 RX4 ∈ LW := LWm1 (i := 89) (by decide +kernel) rfl
theorem tw_168 : Cond.instantiable RX4 6 ∈ LW := LWm1 (i := 90) (by decide +kernel) rfl
theorem tw_170 : Cond.instanceMethod yX4_init ∈ LW := LWm1 (i := 92) (by decide +kernel) rfl
set_option maxRecDepth 100000 in theorem tw_171 : Cond.code yX4_init cX4_init 1 none ∈ LW := LWm1 (i := 93) rfl rfl
theorem tw_172 : Cond.methodLink RX4 3 objectInit ∈ LW := LWm1 (i := 94) (by decide +kernel) rfl
theorem tw_204 : Cond.classLink RX7 61 RX2 ∈ LW := LWm1 (i := 126) (by decide +kernel) rfl
theorem tw_205 : Cond.instantiable RX2 5 ∈ LW := LWm1 (i := 127) (by decide +kernel) rfl
theorem tw_207 : Cond.instanceMethod yX2_init ∈ LW := LWm1 (i := 129) (by decide +kernel) rfl
set_option maxRecDepth 100000 in theorem tw_208 : Cond.code yX2_init cX2_init 1 none ∈ LW := LWm1 (i := 130) rfl rfl
theorem tw_209 : Cond.methodLink RX2 3 objectInit ∈ LW := LWm1 (i := 131) (by decide +kernel) rfl
theorem tw_228 : Cond.arrayClass .boolean ∈ LW := LWm1 (i := 150) (by decide +kernel) rfl
theorem tw_229 : Cond.classLink RX7 68 RX1 ∈ LW := LWm1 (i := 151) (by decide +kernel) rfl
theorem tw_230 : Cond.instantiable RX1 8 ∈ LW := LWm1 (i := 152) (by decide +kernel) rfl
theorem tw_231 : Cond.methodLink RX7 70 yX1_init ∈ LW := LWm1 (i := 153) (by decide +kernel) rfl
theorem tw_232 : Cond.instanceMethod yX1_init ∈ LW := LWm1 (i := 154) (by decide +kernel) rfl
set_option maxRecDepth 100000 in theorem tw_233 : Cond.code yX1_init cX1_init 2 none ∈ LW := LWm1 (i := 155) rfl rfl
theorem tw_234 : Cond.methodLink RX1 3 objectInit ∈ LW := LWm1 (i := 156) (by decide +kernel) rfl
theorem tw_261 : Cond.instantiable RX0 5 ∈ LW := LWm1 (i := 183) (by decide +kernel) rfl
theorem tw_262 : Cond.methodLink RX7 77 yX0_init ∈ LW := LWm1 (i := 184) (by decide +kernel) rfl
theorem tw_263 : Cond.instanceMethod yX0_init ∈ LW := LWm1 (i := 185) (by decide +kernel) rfl
set_option maxRecDepth 100000 in theorem tw_264 : Cond.code yX0_init cX0_init 2 none ∈ LW := LWm1 (i := 186) rfl rfl
theorem tw_265 : Cond.methodLink RX0 3 objectInit ∈ LW := LWm1 (i := 187) (by decide +kernel) rfl
theorem tw_284 : Cond.instantiable RX3 5 ∈ LW := LWm1 (i := 206) (by decide +kernel) rfl
theorem tw_286 : Cond.instanceMethod yX3_init ∈ LW := LWm1 (i := 208) (by decide +kernel) rfl
set_option maxRecDepth 100000 in theorem tw_287 : Cond.code yX3_init cX3_init 1 none ∈ LW := LWm1 (i := 209) rfl rfl
theorem tw_288 : Cond.methodLink RX3 3 objectInit ∈ LW := LWm1 (i := 210) (by decide +kernel) rfl
theorem x_glue9 : True := trivial
theorem vv_0 : vv 0 0 0 (fun _ => 0) = (fun _ => 0) := by
  funext j
  unfold vv
  by_cases h0 : j = 0
  · rw [if_pos h0]; rfl
  · rw [if_neg h0]
    by_cases h6 : j = 6
    · rw [if_pos h6]; rfl
    · rw [if_neg h6]
      by_cases h8 : j = 8
      · rw [if_pos h8]; rfl
      · rw [if_neg h8]

theorem dX6_init_0 : decode cX6_init 0 = .ok (.aload_n 0, 1) := by decide +kernel
theorem dX6_init_1 : decode cX6_init 1 = .ok (.invokespecial 3, 3) := by decide +kernel
theorem dX6_init_4 : decode cX6_init 4 = .ok (.aload_n 0, 1) := by decide +kernel
theorem dX6_init_5 : decode cX6_init 5 = .ok (.sipush 240, 3) := by decide +kernel
theorem dX6_init_8 : decode cX6_init 8 = .ok (.newarray .byte, 2) := by decide +kernel
theorem dX6_init_10 : decode cX6_init 10 = .ok (.putfield 9, 3) := by decide +kernel
theorem dX6_init_13 : decode cX6_init 13 = .ok (.aload_n 0, 1) := by decide +kernel
theorem dX6_init_14 : decode cX6_init 14 = .ok (.iconst 0, 1) := by decide +kernel
theorem dX6_init_15 : decode cX6_init 15 = .ok (.putfield 15, 3) := by decide +kernel
theorem dX6_init_18 : decode cX6_init 18 = .ok (.aload_n 0, 1) := by decide +kernel
theorem dX6_init_19 : decode cX6_init 19 = .ok (.iconst 0, 1) := by decide +kernel
theorem dX6_init_20 : decode cX6_init 20 = .ok (.putfield 19, 3) := by decide +kernel
theorem dX6_init_23 : decode cX6_init 23 = .ok (.aload_n 0, 1) := by decide +kernel
theorem dX6_init_24 : decode cX6_init 24 = .ok (.iconst 0, 1) := by decide +kernel
theorem dX6_init_25 : decode cX6_init 25 = .ok (.putfield 22, 3) := by decide +kernel
theorem dX6_init_28 : decode cX6_init 28 = .ok (.aload_n 0, 1) := by decide +kernel
theorem dX6_init_29 : decode cX6_init 29 = .ok (.iconst 0, 1) := by decide +kernel
theorem dX6_init_30 : decode cX6_init 30 = .ok (.putfield 25, 3) := by decide +kernel
theorem dX6_init_33 : decode cX6_init 33 = .ok (.aload_n 0, 1) := by decide +kernel
theorem dX6_init_34 : decode cX6_init 34 = .ok (.iconst 0, 1) := by decide +kernel
theorem dX6_init_35 : decode cX6_init 35 = .ok (.putfield 28, 3) := by decide +kernel
theorem dX6_init_38 : decode cX6_init 38 = .ok (.return_, 1) := by decide +kernel
set_option maxHeartbeats 4000000 in
set_option maxRecDepth 100000 in
theorem x_Text_init (l : Launch) (D : va_G) (k : Nat → ClassId) (st : Nat → Nat) (lo : Nat) (h0 : Nat)  : CWv l D k st lo yX6_init cX6_init 1 none ({ frames := 1, cells := 1, slots := 240, locals := 12 }) 1 240 [.ref h0] [(h0, .inr (6, [.null, .int 0, .int 0, .int 0, .int 0, .int 0]))] (fun (_ : Nat) => True) (fun (q0 : Nat) => [(h0, .inr (6, (fX6 q0 0 0 0 0 0))), (aB k q0 240 (fun _ => 0))]) := by
  intro sz
  refine Met.ofW (cc := cX6_init) (maxL := 1) (ret := none) (by decide) rfl ?_
  intro p e s m args below meth c s₁ B hml hv
  obtain ⟨rfl, hsz, hlo, hP, hK, hDL, hZ⟩ := hv
  have hx := B.exec
  have hb := B.bytes
  have hr := B.returns
  have hts := WS_ts B.pre
  have hown : s.vm.findClass RX6 = some m.cls := findClass_of_methodNamed B.named
  have hlocks := B.notSynchronized
  have hin : meth.name = "<init>" := (name_of_methodNamed B.named B.method).1
  subst hsz
  have hD := hDL.self (sz := s.heap.size)
  have hAlo := A_lo hDL hlo
  generalize hAe : va_A [(h0, .inr (6, [.null, .int 0, .int 0, .int 0, .int 0, .int 0]))] s.heap.size = A at hD hAlo ⊢
  have hA : ∀ q : Nat, s.heap.size ≤ q → A q := fun q h => by rw [← hAe]; exact Or.inr h
  have hS : va_S A s.heap s.heap [] := va_S.rf
  have hl := lv_entry ([.ref h0]) (n := 1) (Nat.le_of_ble_eq_true rfl)
  rw [lg_entry_eq]
  generalize (lg_sl ([.ref h0]) ++ List.replicate (1 - (lg_sl ([.ref h0])).length) Slot.unset).toArray = ls at hl ⊢
  have hl : lv_has ls 1 [(0, .ref h0)] := hl
  refine lv_aload_n hx hb dX6_init_0 rfl (lv_at hl 0 rfl) ?_
  refine W.objInit hx hb hown (hts _ tw_108) (hts _ tw_101) (hts _ tw_102) rfl (by rw [hml]; exact hl.1) rfl dX6_init_1 (Nat.le_of_ble_eq_true rfl) (Nat.le_of_ble_eq_true rfl) ?_
  refine W.eq (g2 := F0 m 4 ls []) rfl ?_
  refine lv_aload_n hx hb dX6_init_4 rfl (lv_at hl 0 rfl) ?_
  refine lv_sipush (v := 240) hx hb dX6_init_5 (by decide) ?_
  refine nwa (atype := .byte) (t0 := 0) (a0 := (240, .inl (fun _ => 0))) hx hb (hts _ tw_136) rfl rfl hK hP hD hS hA (fun _ => rfl) (by decide) (N' := 240) (by decide) (by decide) (Nat.le_of_ble_eq_true rfl) (Nat.le_of_ble_eq_true rfl) dX6_init_8 (fun q_1 H hP hD hS => ?_)
  refine W.widen (k := 1) (n := 240) (by decide) (by decide) ?_
  have hQ9 := pd_mk [(h0, .inr (6, [.null, .int 0, .int 0, .int 0, .int 0, .int 0])), (aB k q_1 240 (fun _ => 0))] hP hD
  clear hP hD
  obtain ⟨hP, hD⟩ := hQ9
  refine va_putF (D := D) (ci := 6) (v := .ref q_1) (ty := (.array .byte)) (C := RX6) (T := TX6) (N := 6) hx hb hts inX6 tyX6 tyX6_ok nmX6 hown hK hP hD hS 0 rfl rfl 0 (by decide) (hts _ tw_109) (fun _ h9 => h9) rfl hin rfl (by decide +kernel) rfl rfl (Nat.le_of_ble_eq_true rfl) dX6_init_10 (fun H locs hP hD hS => ?_)
  have hQ9 := pd_mk [(h0, .inr (6, (fX6 q_1 0 0 0 0 0))), (aB k q_1 240 (fun _ => 0))] hP hD
  clear hP hD
  obtain ⟨hP, hD⟩ := hQ9
  refine lv_aload_n hx hb dX6_init_13 rfl (lv_at hl 0 rfl) ?_
  refine lv_iconst (v := 0) hx hb dX6_init_14 (by decide) ?_
  refine va_put (D := D) (ci := 6) (v := .int 0) (ty := .int) (C := RX6) (T := TX6) (N := 6) hx hb hts inX6 tyX6 tyX6_ok nmX6 hown hK hP hD hS 0 rfl rfl 1 (by decide) (hts _ tw_110) (fun _ h9 => h9) rfl (by decide +kernel) rfl rfl (Nat.le_of_ble_eq_true rfl) dX6_init_15 (fun H locs hP hD hS => ?_)
  have hQ9 := pd_mk [(h0, .inr (6, (fX6 q_1 0 0 0 0 0))), (aB k q_1 240 (fun _ => 0))] hP hD
  clear hP hD
  obtain ⟨hP, hD⟩ := hQ9
  refine lv_aload_n hx hb dX6_init_18 rfl (lv_at hl 0 rfl) ?_
  refine lv_iconst (v := 0) hx hb dX6_init_19 (by decide) ?_
  refine va_put (D := D) (ci := 6) (v := .int 0) (ty := .int) (C := RX6) (T := TX6) (N := 6) hx hb hts inX6 tyX6 tyX6_ok nmX6 hown hK hP hD hS 0 rfl rfl 2 (by decide) (hts _ tw_113) (fun _ h9 => h9) rfl (by decide +kernel) rfl rfl (Nat.le_of_ble_eq_true rfl) dX6_init_20 (fun H locs hP hD hS => ?_)
  have hQ9 := pd_mk [(h0, .inr (6, (fX6 q_1 0 0 0 0 0))), (aB k q_1 240 (fun _ => 0))] hP hD
  clear hP hD
  obtain ⟨hP, hD⟩ := hQ9
  refine lv_aload_n hx hb dX6_init_23 rfl (lv_at hl 0 rfl) ?_
  refine lv_iconst (v := 0) hx hb dX6_init_24 (by decide) ?_
  refine va_put (D := D) (ci := 6) (v := .int 0) (ty := .int) (C := RX6) (T := TX6) (N := 6) hx hb hts inX6 tyX6 tyX6_ok nmX6 hown hK hP hD hS 0 rfl rfl 3 (by decide) (hts _ tw_116) (fun _ h9 => h9) rfl (by decide +kernel) rfl rfl (Nat.le_of_ble_eq_true rfl) dX6_init_25 (fun H locs hP hD hS => ?_)
  have hQ9 := pd_mk [(h0, .inr (6, (fX6 q_1 0 0 0 0 0))), (aB k q_1 240 (fun _ => 0))] hP hD
  clear hP hD
  obtain ⟨hP, hD⟩ := hQ9
  refine lv_aload_n hx hb dX6_init_28 rfl (lv_at hl 0 rfl) ?_
  refine lv_iconst (v := 0) hx hb dX6_init_29 (by decide) ?_
  refine va_put (D := D) (ci := 6) (v := .int 0) (ty := .int) (C := RX6) (T := TX6) (N := 6) hx hb hts inX6 tyX6 tyX6_ok nmX6 hown hK hP hD hS 0 rfl rfl 4 (by decide) (hts _ tw_119) (fun _ h9 => h9) rfl (by decide +kernel) rfl rfl (Nat.le_of_ble_eq_true rfl) dX6_init_30 (fun H locs hP hD hS => ?_)
  have hQ9 := pd_mk [(h0, .inr (6, (fX6 q_1 0 0 0 0 0))), (aB k q_1 240 (fun _ => 0))] hP hD
  clear hP hD
  obtain ⟨hP, hD⟩ := hQ9
  refine lv_aload_n hx hb dX6_init_33 rfl (lv_at hl 0 rfl) ?_
  refine lv_iconst (v := 0) hx hb dX6_init_34 (by decide) ?_
  refine va_put (D := D) (ci := 6) (v := .int 0) (ty := .int) (C := RX6) (T := TX6) (N := 6) hx hb hts inX6 tyX6 tyX6_ok nmX6 hown hK hP hD hS 0 rfl rfl 5 (by decide) (hts _ tw_121) (fun _ h9 => h9) rfl (by decide +kernel) rfl rfl (Nat.le_of_ble_eq_true rfl) dX6_init_35 (fun H locs hP hD hS => ?_)
  have hQ9 := pd_mk [(h0, .inr (6, (fX6 q_1 0 0 0 0 0))), (aB k q_1 240 (fun _ => 0))] hP hD
  clear hP hD
  obtain ⟨hP, hD⟩ := hQ9
  obtain ⟨hP9, hD9⟩ := pd_sub [(h0, .inr (6, (fX6 q_1 0 0 0 0 0))), (aB k q_1 240 (fun _ => 0))] [0, 1] hP hD (by decide) rfl
  refine W.widen (k := 1) (n := 240) (by decide) (by decide) ?_
  exact W.vret hx hb hr (fun t ht hW => ⟨⟨q_1, rfl, trivial, by rw [ht]; exact hP9, hD9⟩, hS.F ht⟩) hS.2.2 dX6_init_38

theorem dX5_init_0 : decode cX5_init 0 = .ok (.aload_n 0, 1) := by decide +kernel
theorem dX5_init_1 : decode cX5_init 1 = .ok (.invokespecial 3, 3) := by decide +kernel
theorem dX5_init_4 : decode cX5_init 4 = .ok (.aload_n 0, 1) := by decide +kernel
theorem dX5_init_5 : decode cX5_init 5 = .ok (.bipush 10, 2) := by decide +kernel
theorem dX5_init_7 : decode cX5_init 7 = .ok (.newarray .int, 2) := by decide +kernel
theorem dX5_init_9 : decode cX5_init 9 = .ok (.putfield 9, 3) := by decide +kernel
theorem dX5_init_12 : decode cX5_init 12 = .ok (.aload_n 0, 1) := by decide +kernel
theorem dX5_init_13 : decode cX5_init 13 = .ok (.bipush 24, 2) := by decide +kernel
theorem dX5_init_15 : decode cX5_init 15 = .ok (.newarray .int, 2) := by decide +kernel
theorem dX5_init_17 : decode cX5_init 17 = .ok (.putfield 15, 3) := by decide +kernel
theorem dX5_init_20 : decode cX5_init 20 = .ok (.aload_n 0, 1) := by decide +kernel
theorem dX5_init_21 : decode cX5_init 21 = .ok (.bipush 24, 2) := by decide +kernel
theorem dX5_init_23 : decode cX5_init 23 = .ok (.newarray .int, 2) := by decide +kernel
theorem dX5_init_25 : decode cX5_init 25 = .ok (.putfield 18, 3) := by decide +kernel
theorem dX5_init_28 : decode cX5_init 28 = .ok (.aload_n 0, 1) := by decide +kernel
theorem dX5_init_29 : decode cX5_init 29 = .ok (.iconst 4, 1) := by decide +kernel
theorem dX5_init_30 : decode cX5_init 30 = .ok (.newarray .int, 2) := by decide +kernel
theorem dX5_init_32 : decode cX5_init 32 = .ok (.putfield 21, 3) := by decide +kernel
theorem dX5_init_35 : decode cX5_init 35 = .ok (.return_, 1) := by decide +kernel
set_option maxHeartbeats 4000000 in
set_option maxRecDepth 100000 in
theorem x_Street_init (l : Launch) (D : va_G) (k : Nat → ClassId) (st : Nat → Nat) (lo : Nat) (h0 : Nat)  : CWv l D k st lo yX5_init cX5_init 1 none ({ frames := 1, cells := 4, slots := 62, locals := 12 }) 4 62 [.ref h0] [(h0, .inr (5, [.null, .null, .null, .null]))] (fun (_ : Nat × Nat × Nat × Nat) => True) (fun (u : Nat × Nat × Nat × Nat) => match u with | (q0, q1, q2, q3) => [(h0, .inr (5, (fX5 q0 q1 q2 q3))), (aI k q0 10 (vv 0 0 0 (fun _ => 0))), (aI k q1 24 (fun _ => 0)), (aI k q2 24 (fun _ => 0)), (aI k q3 4 (fun _ => 0))]) := by
  intro sz
  refine Met.ofW (cc := cX5_init) (maxL := 1) (ret := none) (by decide) rfl ?_
  intro p e s m args below meth c s₁ B hml hv
  obtain ⟨rfl, hsz, hlo, hP, hK, hDL, hZ⟩ := hv
  have hx := B.exec
  have hb := B.bytes
  have hr := B.returns
  have hts := WS_ts B.pre
  have hown : s.vm.findClass RX5 = some m.cls := findClass_of_methodNamed B.named
  have hlocks := B.notSynchronized
  have hin : meth.name = "<init>" := (name_of_methodNamed B.named B.method).1
  subst hsz
  have hD := hDL.self (sz := s.heap.size)
  have hAlo := A_lo hDL hlo
  generalize hAe : va_A [(h0, .inr (5, [.null, .null, .null, .null]))] s.heap.size = A at hD hAlo ⊢
  have hA : ∀ q : Nat, s.heap.size ≤ q → A q := fun q h => by rw [← hAe]; exact Or.inr h
  have hS : va_S A s.heap s.heap [] := va_S.rf
  have hl := lv_entry ([.ref h0]) (n := 1) (Nat.le_of_ble_eq_true rfl)
  rw [lg_entry_eq]
  generalize (lg_sl ([.ref h0]) ++ List.replicate (1 - (lg_sl ([.ref h0])).length) Slot.unset).toArray = ls at hl ⊢
  have hl : lv_has ls 1 [(0, .ref h0)] := hl
  refine lv_aload_n hx hb dX5_init_0 rfl (lv_at hl 0 rfl) ?_
  refine W.objInit hx hb hown (hts _ tw_145) (hts _ tw_101) (hts _ tw_102) rfl (by rw [hml]; exact hl.1) rfl dX5_init_1 (Nat.le_of_ble_eq_true rfl) (Nat.le_of_ble_eq_true rfl) ?_
  refine W.eq (g2 := F0 m 4 ls []) rfl ?_
  refine lv_aload_n hx hb dX5_init_4 rfl (lv_at hl 0 rfl) ?_
  refine lv_bipush (v := 10) hx hb dX5_init_5 (by decide) ?_
  refine nwa (atype := .int) (t0 := 1) (a0 := (10, .inl (fun _ => 0))) hx hb (hts _ tw_164) rfl rfl hK hP hD hS hA (fun _ => rfl) (by decide) (N' := 10) (by decide) (by decide) (Nat.le_of_ble_eq_true rfl) (Nat.le_of_ble_eq_true rfl) dX5_init_7 (fun q_1 H hP hD hS => ?_)
  refine W.widen (k := 1) (n := 10) (by decide) (by decide) ?_
  have hQ9 := pd_mk [(h0, .inr (5, [.null, .null, .null, .null])), (aI k q_1 10 (fun _ => 0))] hP hD
  clear hP hD
  obtain ⟨hP, hD⟩ := hQ9
  refine va_putF (D := D) (ci := 5) (v := .ref q_1) (ty := (.array .int)) (C := RX5) (T := TX5) (N := 4) hx hb hts inX5 tyX5 tyX5_ok nmX5 hown hK hP hD hS 0 rfl rfl 0 (by decide) (hts _ tw_146) (fun _ h9 => h9) rfl hin rfl (by decide +kernel) rfl rfl (Nat.le_of_ble_eq_true rfl) dX5_init_9 (fun H locs hP hD hS => ?_)
  have hQ9 := pd_mk [(h0, .inr (5, [.ref q_1, .null, .null, .null])), (aI k q_1 10 (fun _ => 0))] hP hD
  clear hP hD
  obtain ⟨hP, hD⟩ := hQ9
  refine lv_aload_n hx hb dX5_init_12 rfl (lv_at hl 0 rfl) ?_
  refine lv_bipush (v := 24) hx hb dX5_init_13 (by decide) ?_
  refine nwa (atype := .int) (t0 := 1) (a0 := (24, .inl (fun _ => 0))) hx hb (hts _ tw_164) rfl rfl hK hP hD hS hA (fun _ => rfl) (by decide) (N' := 24) (by decide) (by decide) (Nat.le_of_ble_eq_true rfl) (Nat.le_of_ble_eq_true rfl) dX5_init_15 (fun q_2 H hP hD hS => ?_)
  refine W.widen (k := 2) (n := 34) (by decide) (by decide) ?_
  have hQ9 := pd_mk [(h0, .inr (5, [.ref q_1, .null, .null, .null])), (aI k q_1 10 (fun _ => 0)), (aI k q_2 24 (fun _ => 0))] hP hD
  clear hP hD
  obtain ⟨hP, hD⟩ := hQ9
  refine va_putF (D := D) (ci := 5) (v := .ref q_2) (ty := (.array .int)) (C := RX5) (T := TX5) (N := 4) hx hb hts inX5 tyX5 tyX5_ok nmX5 hown hK hP hD hS 0 rfl rfl 1 (by decide) (hts _ tw_150) (fun _ h9 => h9) rfl hin rfl (by decide +kernel) rfl rfl (Nat.le_of_ble_eq_true rfl) dX5_init_17 (fun H locs hP hD hS => ?_)
  have hQ9 := pd_mk [(h0, .inr (5, [.ref q_1, .ref q_2, .null, .null])), (aI k q_1 10 (fun _ => 0)), (aI k q_2 24 (fun _ => 0))] hP hD
  clear hP hD
  obtain ⟨hP, hD⟩ := hQ9
  refine lv_aload_n hx hb dX5_init_20 rfl (lv_at hl 0 rfl) ?_
  refine lv_bipush (v := 24) hx hb dX5_init_21 (by decide) ?_
  refine nwa (atype := .int) (t0 := 1) (a0 := (24, .inl (fun _ => 0))) hx hb (hts _ tw_164) rfl rfl hK hP hD hS hA (fun _ => rfl) (by decide) (N' := 24) (by decide) (by decide) (Nat.le_of_ble_eq_true rfl) (Nat.le_of_ble_eq_true rfl) dX5_init_23 (fun q_3 H hP hD hS => ?_)
  refine W.widen (k := 3) (n := 58) (by decide) (by decide) ?_
  have hQ9 := pd_mk [(h0, .inr (5, [.ref q_1, .ref q_2, .null, .null])), (aI k q_1 10 (fun _ => 0)), (aI k q_2 24 (fun _ => 0)), (aI k q_3 24 (fun _ => 0))] hP hD
  clear hP hD
  obtain ⟨hP, hD⟩ := hQ9
  refine va_putF (D := D) (ci := 5) (v := .ref q_3) (ty := (.array .int)) (C := RX5) (T := TX5) (N := 4) hx hb hts inX5 tyX5 tyX5_ok nmX5 hown hK hP hD hS 0 rfl rfl 2 (by decide) (hts _ tw_152) (fun _ h9 => h9) rfl hin rfl (by decide +kernel) rfl rfl (Nat.le_of_ble_eq_true rfl) dX5_init_25 (fun H locs hP hD hS => ?_)
  have hQ9 := pd_mk [(h0, .inr (5, [.ref q_1, .ref q_2, .ref q_3, .null])), (aI k q_1 10 (fun _ => 0)), (aI k q_2 24 (fun _ => 0)), (aI k q_3 24 (fun _ => 0))] hP hD
  clear hP hD
  obtain ⟨hP, hD⟩ := hQ9
  refine lv_aload_n hx hb dX5_init_28 rfl (lv_at hl 0 rfl) ?_
  refine lv_iconst (v := 4) hx hb dX5_init_29 (by decide) ?_
  refine nwa (atype := .int) (t0 := 1) (a0 := (4, .inl (fun _ => 0))) hx hb (hts _ tw_164) rfl rfl hK hP hD hS hA (fun _ => rfl) (by decide) (N' := 4) (by decide) (by decide) (Nat.le_of_ble_eq_true rfl) (Nat.le_of_ble_eq_true rfl) dX5_init_30 (fun q_4 H hP hD hS => ?_)
  refine W.widen (k := 4) (n := 62) (by decide) (by decide) ?_
  have hQ9 := pd_mk [(h0, .inr (5, [.ref q_1, .ref q_2, .ref q_3, .null])), (aI k q_1 10 (fun _ => 0)), (aI k q_2 24 (fun _ => 0)), (aI k q_3 24 (fun _ => 0)), (aI k q_4 4 (fun _ => 0))] hP hD
  clear hP hD
  obtain ⟨hP, hD⟩ := hQ9
  refine va_putF (D := D) (ci := 5) (v := .ref q_4) (ty := (.array .int)) (C := RX5) (T := TX5) (N := 4) hx hb hts inX5 tyX5 tyX5_ok nmX5 hown hK hP hD hS 0 rfl rfl 3 (by decide) (hts _ tw_154) (fun _ h9 => h9) rfl hin rfl (by decide +kernel) rfl rfl (Nat.le_of_ble_eq_true rfl) dX5_init_32 (fun H locs hP hD hS => ?_)
  have hQ9 := pd_mk [(h0, .inr (5, (fX5 q_1 q_2 q_3 q_4))), (aI k q_1 10 (fun _ => 0)), (aI k q_2 24 (fun _ => 0)), (aI k q_3 24 (fun _ => 0)), (aI k q_4 4 (fun _ => 0))] hP hD
  clear hP hD
  obtain ⟨hP, hD⟩ := hQ9
  replace hP : va_P D classes [(h0, .inr (5, (fX5 q_1 q_2 q_3 q_4))), (aI k q_1 10 (vv 0 0 0 (fun _ => 0))), (aI k q_2 24 (fun _ => 0)), (aI k q_3 24 (fun _ => 0)), (aI k q_4 4 (fun _ => 0))] H := by rw [vv_0]; exact hP
  replace hD : va_D A [(h0, .inr (5, (fX5 q_1 q_2 q_3 q_4))), (aI k q_1 10 (vv 0 0 0 (fun _ => 0))), (aI k q_2 24 (fun _ => 0)), (aI k q_3 24 (fun _ => 0)), (aI k q_4 4 (fun _ => 0))] := by rw [vv_0]; exact hD
  obtain ⟨hP9, hD9⟩ := pd_sub [(h0, .inr (5, (fX5 q_1 q_2 q_3 q_4))), (aI k q_1 10 (vv 0 0 0 (fun _ => 0))), (aI k q_2 24 (fun _ => 0)), (aI k q_3 24 (fun _ => 0)), (aI k q_4 4 (fun _ => 0))] [0, 1, 2, 3, 4] hP hD (by decide) rfl
  refine W.widen (k := 4) (n := 62) (by decide) (by decide) ?_
  exact W.vret hx hb hr (fun t ht hW => ⟨⟨(q_1, q_2, q_3, q_4), rfl, trivial, by rw [ht]; exact hP9, hD9⟩, hS.F ht⟩) hS.2.2 dX5_init_35

theorem dX3_init_0 : decode cX3_init 0 = .ok (.aload_n 0, 1) := by decide +kernel
theorem dX3_init_1 : decode cX3_init 1 = .ok (.invokespecial 3, 3) := by decide +kernel
theorem dX3_init_4 : decode cX3_init 4 = .ok (.aload_n 0, 1) := by decide +kernel
theorem dX3_init_5 : decode cX3_init 5 = .ok (.bipush 24, 2) := by decide +kernel
theorem dX3_init_7 : decode cX3_init 7 = .ok (.newarray .int, 2) := by decide +kernel
theorem dX3_init_9 : decode cX3_init 9 = .ok (.putfield 9, 3) := by decide +kernel
theorem dX3_init_12 : decode cX3_init 12 = .ok (.aload_n 0, 1) := by decide +kernel
theorem dX3_init_13 : decode cX3_init 13 = .ok (.bipush 24, 2) := by decide +kernel
theorem dX3_init_15 : decode cX3_init 15 = .ok (.newarray .int, 2) := by decide +kernel
theorem dX3_init_17 : decode cX3_init 17 = .ok (.putfield 15, 3) := by decide +kernel
theorem dX3_init_20 : decode cX3_init 20 = .ok (.aload_n 0, 1) := by decide +kernel
theorem dX3_init_21 : decode cX3_init 21 = .ok (.iconst 0, 1) := by decide +kernel
theorem dX3_init_22 : decode cX3_init 22 = .ok (.putfield 18, 3) := by decide +kernel
theorem dX3_init_25 : decode cX3_init 25 = .ok (.aload_n 0, 1) := by decide +kernel
theorem dX3_init_26 : decode cX3_init 26 = .ok (.iconst 0, 1) := by decide +kernel
theorem dX3_init_27 : decode cX3_init 27 = .ok (.putfield 22, 3) := by decide +kernel
theorem dX3_init_30 : decode cX3_init 30 = .ok (.aload_n 0, 1) := by decide +kernel
theorem dX3_init_31 : decode cX3_init 31 = .ok (.iconst 0, 1) := by decide +kernel
theorem dX3_init_32 : decode cX3_init 32 = .ok (.putfield 25, 3) := by decide +kernel
theorem dX3_init_35 : decode cX3_init 35 = .ok (.return_, 1) := by decide +kernel
set_option maxHeartbeats 4000000 in
set_option maxRecDepth 100000 in
theorem x_Rule_init (l : Launch) (D : va_G) (k : Nat → ClassId) (st : Nat → Nat) (lo : Nat) (h0 : Nat)  : CWv l D k st lo yX3_init cX3_init 1 none ({ frames := 1, cells := 2, slots := 48, locals := 12 }) 2 48 [.ref h0] [(h0, .inr (3, [.null, .null, .int 0, .int 0, .int 0]))] (fun (_ : Nat × Nat) => True) (fun (u : Nat × Nat) => match u with | (q0, q1) => [(h0, .inr (3, (fX3 q0 q1 0 0 0))), (aI k q0 24 (fun _ => 0)), (aI k q1 24 (fun _ => 0))]) := by
  intro sz
  refine Met.ofW (cc := cX3_init) (maxL := 1) (ret := none) (by decide) rfl ?_
  intro p e s m args below meth c s₁ B hml hv
  obtain ⟨rfl, hsz, hlo, hP, hK, hDL, hZ⟩ := hv
  have hx := B.exec
  have hb := B.bytes
  have hr := B.returns
  have hts := WS_ts B.pre
  have hown : s.vm.findClass RX3 = some m.cls := findClass_of_methodNamed B.named
  have hlocks := B.notSynchronized
  have hin : meth.name = "<init>" := (name_of_methodNamed B.named B.method).1
  subst hsz
  have hD := hDL.self (sz := s.heap.size)
  have hAlo := A_lo hDL hlo
  generalize hAe : va_A [(h0, .inr (3, [.null, .null, .int 0, .int 0, .int 0]))] s.heap.size = A at hD hAlo ⊢
  have hA : ∀ q : Nat, s.heap.size ≤ q → A q := fun q h => by rw [← hAe]; exact Or.inr h
  have hS : va_S A s.heap s.heap [] := va_S.rf
  have hl := lv_entry ([.ref h0]) (n := 1) (Nat.le_of_ble_eq_true rfl)
  rw [lg_entry_eq]
  generalize (lg_sl ([.ref h0]) ++ List.replicate (1 - (lg_sl ([.ref h0])).length) Slot.unset).toArray = ls at hl ⊢
  have hl : lv_has ls 1 [(0, .ref h0)] := hl
  refine lv_aload_n hx hb dX3_init_0 rfl (lv_at hl 0 rfl) ?_
  refine W.objInit hx hb hown (hts _ tw_288) (hts _ tw_101) (hts _ tw_102) rfl (by rw [hml]; exact hl.1) rfl dX3_init_1 (Nat.le_of_ble_eq_true rfl) (Nat.le_of_ble_eq_true rfl) ?_
  refine W.eq (g2 := F0 m 4 ls []) rfl ?_
  refine lv_aload_n hx hb dX3_init_4 rfl (lv_at hl 0 rfl) ?_
  refine lv_bipush (v := 24) hx hb dX3_init_5 (by decide) ?_
  refine nwa (atype := .int) (t0 := 1) (a0 := (24, .inl (fun _ => 0))) hx hb (hts _ tw_164) rfl rfl hK hP hD hS hA (fun _ => rfl) (by decide) (N' := 24) (by decide) (by decide) (Nat.le_of_ble_eq_true rfl) (Nat.le_of_ble_eq_true rfl) dX3_init_7 (fun q_1 H hP hD hS => ?_)
  refine W.widen (k := 1) (n := 24) (by decide) (by decide) ?_
  have hQ9 := pd_mk [(h0, .inr (3, [.null, .null, .int 0, .int 0, .int 0])), (aI k q_1 24 (fun _ => 0))] hP hD
  clear hP hD
  obtain ⟨hP, hD⟩ := hQ9
  refine va_putF (D := D) (ci := 3) (v := .ref q_1) (ty := (.array .int)) (C := RX3) (T := TX3) (N := 5) hx hb hts inX3 tyX3 tyX3_ok nmX3 hown hK hP hD hS 0 rfl rfl 0 (by decide) (hts _ tw_289) (fun _ h9 => h9) rfl hin rfl (by decide +kernel) rfl rfl (Nat.le_of_ble_eq_true rfl) dX3_init_9 (fun H locs hP hD hS => ?_)
  have hQ9 := pd_mk [(h0, .inr (3, [.ref q_1, .null, .int 0, .int 0, .int 0])), (aI k q_1 24 (fun _ => 0))] hP hD
  clear hP hD
  obtain ⟨hP, hD⟩ := hQ9
  refine lv_aload_n hx hb dX3_init_12 rfl (lv_at hl 0 rfl) ?_
  refine lv_bipush (v := 24) hx hb dX3_init_13 (by decide) ?_
  refine nwa (atype := .int) (t0 := 1) (a0 := (24, .inl (fun _ => 0))) hx hb (hts _ tw_164) rfl rfl hK hP hD hS hA (fun _ => rfl) (by decide) (N' := 24) (by decide) (by decide) (Nat.le_of_ble_eq_true rfl) (Nat.le_of_ble_eq_true rfl) dX3_init_15 (fun q_2 H hP hD hS => ?_)
  refine W.widen (k := 2) (n := 48) (by decide) (by decide) ?_
  have hQ9 := pd_mk [(h0, .inr (3, [.ref q_1, .null, .int 0, .int 0, .int 0])), (aI k q_1 24 (fun _ => 0)), (aI k q_2 24 (fun _ => 0))] hP hD
  clear hP hD
  obtain ⟨hP, hD⟩ := hQ9
  refine va_putF (D := D) (ci := 3) (v := .ref q_2) (ty := (.array .int)) (C := RX3) (T := TX3) (N := 5) hx hb hts inX3 tyX3 tyX3_ok nmX3 hown hK hP hD hS 0 rfl rfl 1 (by decide) (hts _ tw_290) (fun _ h9 => h9) rfl hin rfl (by decide +kernel) rfl rfl (Nat.le_of_ble_eq_true rfl) dX3_init_17 (fun H locs hP hD hS => ?_)
  have hQ9 := pd_mk [(h0, .inr (3, (fX3 q_1 q_2 0 0 0))), (aI k q_1 24 (fun _ => 0)), (aI k q_2 24 (fun _ => 0))] hP hD
  clear hP hD
  obtain ⟨hP, hD⟩ := hQ9
  refine lv_aload_n hx hb dX3_init_20 rfl (lv_at hl 0 rfl) ?_
  refine lv_iconst (v := 0) hx hb dX3_init_21 (by decide) ?_
  refine va_put (D := D) (ci := 3) (v := .int 0) (ty := .int) (C := RX3) (T := TX3) (N := 5) hx hb hts inX3 tyX3 tyX3_ok nmX3 hown hK hP hD hS 0 rfl rfl 2 (by decide) (hts _ tw_291) (fun _ h9 => h9) rfl (by decide +kernel) rfl rfl (Nat.le_of_ble_eq_true rfl) dX3_init_22 (fun H locs hP hD hS => ?_)
  have hQ9 := pd_mk [(h0, .inr (3, (fX3 q_1 q_2 0 0 0))), (aI k q_1 24 (fun _ => 0)), (aI k q_2 24 (fun _ => 0))] hP hD
  clear hP hD
  obtain ⟨hP, hD⟩ := hQ9
  refine lv_aload_n hx hb dX3_init_25 rfl (lv_at hl 0 rfl) ?_
  refine lv_iconst (v := 0) hx hb dX3_init_26 (by decide) ?_
  refine va_put (D := D) (ci := 3) (v := .int 0) (ty := .int) (C := RX3) (T := TX3) (N := 5) hx hb hts inX3 tyX3 tyX3_ok nmX3 hown hK hP hD hS 0 rfl rfl 3 (by decide) (hts _ tw_292) (fun _ h9 => h9) rfl (by decide +kernel) rfl rfl (Nat.le_of_ble_eq_true rfl) dX3_init_27 (fun H locs hP hD hS => ?_)
  have hQ9 := pd_mk [(h0, .inr (3, (fX3 q_1 q_2 0 0 0))), (aI k q_1 24 (fun _ => 0)), (aI k q_2 24 (fun _ => 0))] hP hD
  clear hP hD
  obtain ⟨hP, hD⟩ := hQ9
  refine lv_aload_n hx hb dX3_init_30 rfl (lv_at hl 0 rfl) ?_
  refine lv_iconst (v := 0) hx hb dX3_init_31 (by decide) ?_
  refine va_put (D := D) (ci := 3) (v := .int 0) (ty := .int) (C := RX3) (T := TX3) (N := 5) hx hb hts inX3 tyX3 tyX3_ok nmX3 hown hK hP hD hS 0 rfl rfl 4 (by decide) (hts _ tw_293) (fun _ h9 => h9) rfl (by decide +kernel) rfl rfl (Nat.le_of_ble_eq_true rfl) dX3_init_32 (fun H locs hP hD hS => ?_)
  have hQ9 := pd_mk [(h0, .inr (3, (fX3 q_1 q_2 0 0 0))), (aI k q_1 24 (fun _ => 0)), (aI k q_2 24 (fun _ => 0))] hP hD
  clear hP hD
  obtain ⟨hP, hD⟩ := hQ9
  obtain ⟨hP9, hD9⟩ := pd_sub [(h0, .inr (3, (fX3 q_1 q_2 0 0 0))), (aI k q_1 24 (fun _ => 0)), (aI k q_2 24 (fun _ => 0))] [0, 1, 2] hP hD (by decide) rfl
  refine W.widen (k := 2) (n := 48) (by decide) (by decide) ?_
  exact W.vret hx hb hr (fun t ht hW => ⟨⟨(q_1, q_2), rfl, trivial, by rw [ht]; exact hP9, hD9⟩, hS.F ht⟩) hS.2.2 dX3_init_35

theorem dX4_init_0 : decode cX4_init 0 = .ok (.aload_n 0, 1) := by decide +kernel
theorem dX4_init_1 : decode cX4_init 1 = .ok (.invokespecial 3, 3) := by decide +kernel
theorem dX4_init_4 : decode cX4_init 4 = .ok (.aload_n 0, 1) := by decide +kernel
theorem dX4_init_5 : decode cX4_init 5 = .ok (.iconst 4, 1) := by decide +kernel
theorem dX4_init_6 : decode cX4_init 6 = .ok (.newarray .int, 2) := by decide +kernel
theorem dX4_init_8 : decode cX4_init 8 = .ok (.putfield 9, 3) := by decide +kernel
theorem dX4_init_11 : decode cX4_init 11 = .ok (.aload_n 0, 1) := by decide +kernel
theorem dX4_init_12 : decode cX4_init 12 = .ok (.iconst 4, 1) := by decide +kernel
theorem dX4_init_13 : decode cX4_init 13 = .ok (.newarray .int, 2) := by decide +kernel
theorem dX4_init_15 : decode cX4_init 15 = .ok (.putfield 15, 3) := by decide +kernel
theorem dX4_init_18 : decode cX4_init 18 = .ok (.aload_n 0, 1) := by decide +kernel
theorem dX4_init_19 : decode cX4_init 19 = .ok (.iconst 0, 1) := by decide +kernel
theorem dX4_init_20 : decode cX4_init 20 = .ok (.putfield 18, 3) := by decide +kernel
theorem dX4_init_23 : decode cX4_init 23 = .ok (.aload_n 0, 1) := by decide +kernel
theorem dX4_init_24 : decode cX4_init 24 = .ok (.iconst 0, 1) := by decide +kernel
theorem dX4_init_25 : decode cX4_init 25 = .ok (.putfield 22, 3) := by decide +kernel
theorem dX4_init_28 : decode cX4_init 28 = .ok (.aload_n 0, 1) := by decide +kernel
theorem dX4_init_29 : decode cX4_init 29 = .ok (.iconst 0, 1) := by decide +kernel
theorem dX4_init_30 : decode cX4_init 30 = .ok (.putfield 25, 3) := by decide +kernel
theorem dX4_init_33 : decode cX4_init 33 = .ok (.aload_n 0, 1) := by decide +kernel
theorem dX4_init_34 : decode cX4_init 34 = .ok (.iconst 0, 1) := by decide +kernel
theorem dX4_init_35 : decode cX4_init 35 = .ok (.putfield 28, 3) := by decide +kernel
theorem dX4_init_38 : decode cX4_init 38 = .ok (.return_, 1) := by decide +kernel
set_option maxHeartbeats 4000000 in
set_option maxRecDepth 100000 in
theorem x_Scene_init (l : Launch) (D : va_G) (k : Nat → ClassId) (st : Nat → Nat) (lo : Nat) (h0 : Nat)  : CWv l D k st lo yX4_init cX4_init 1 none ({ frames := 1, cells := 2, slots := 8, locals := 12 }) 2 8 [.ref h0] [(h0, .inr (4, [.null, .null, .int 0, .int 0, .int 0, .int 0]))] (fun (_ : Nat × Nat) => True) (fun (u : Nat × Nat) => match u with | (q0, q1) => [(h0, .inr (4, (fX4 q0 q1 0 0 0 0))), (aI k q0 4 (fun _ => 0)), (aI k q1 4 (fun _ => 0))]) := by
  intro sz
  refine Met.ofW (cc := cX4_init) (maxL := 1) (ret := none) (by decide) rfl ?_
  intro p e s m args below meth c s₁ B hml hv
  obtain ⟨rfl, hsz, hlo, hP, hK, hDL, hZ⟩ := hv
  have hx := B.exec
  have hb := B.bytes
  have hr := B.returns
  have hts := WS_ts B.pre
  have hown : s.vm.findClass RX4 = some m.cls := findClass_of_methodNamed B.named
  have hlocks := B.notSynchronized
  have hin : meth.name = "<init>" := (name_of_methodNamed B.named B.method).1
  subst hsz
  have hD := hDL.self (sz := s.heap.size)
  have hAlo := A_lo hDL hlo
  generalize hAe : va_A [(h0, .inr (4, [.null, .null, .int 0, .int 0, .int 0, .int 0]))] s.heap.size = A at hD hAlo ⊢
  have hA : ∀ q : Nat, s.heap.size ≤ q → A q := fun q h => by rw [← hAe]; exact Or.inr h
  have hS : va_S A s.heap s.heap [] := va_S.rf
  have hl := lv_entry ([.ref h0]) (n := 1) (Nat.le_of_ble_eq_true rfl)
  rw [lg_entry_eq]
  generalize (lg_sl ([.ref h0]) ++ List.replicate (1 - (lg_sl ([.ref h0])).length) Slot.unset).toArray = ls at hl ⊢
  have hl : lv_has ls 1 [(0, .ref h0)] := hl
  refine lv_aload_n hx hb dX4_init_0 rfl (lv_at hl 0 rfl) ?_
  refine W.objInit hx hb hown (hts _ tw_172) (hts _ tw_101) (hts _ tw_102) rfl (by rw [hml]; exact hl.1) rfl dX4_init_1 (Nat.le_of_ble_eq_true rfl) (Nat.le_of_ble_eq_true rfl) ?_
  refine W.eq (g2 := F0 m 4 ls []) rfl ?_
  refine lv_aload_n hx hb dX4_init_4 rfl (lv_at hl 0 rfl) ?_
  refine lv_iconst (v := 4) hx hb dX4_init_5 (by decide) ?_
  refine nwa (atype := .int) (t0 := 1) (a0 := (4, .inl (fun _ => 0))) hx hb (hts _ tw_164) rfl rfl hK hP hD hS hA (fun _ => rfl) (by decide) (N' := 4) (by decide) (by decide) (Nat.le_of_ble_eq_true rfl) (Nat.le_of_ble_eq_true rfl) dX4_init_6 (fun q_1 H hP hD hS => ?_)
  refine W.widen (k := 1) (n := 4) (by decide) (by decide) ?_
  have hQ9 := pd_mk [(h0, .inr (4, [.null, .null, .int 0, .int 0, .int 0, .int 0])), (aI k q_1 4 (fun _ => 0))] hP hD
  clear hP hD
  obtain ⟨hP, hD⟩ := hQ9
  refine va_putF (D := D) (ci := 4) (v := .ref q_1) (ty := (.array .int)) (C := RX4) (T := TX4) (N := 6) hx hb hts inX4 tyX4 tyX4_ok nmX4 hown hK hP hD hS 0 rfl rfl 0 (by decide) (hts _ tw_173) (fun _ h9 => h9) rfl hin rfl (by decide +kernel) rfl rfl (Nat.le_of_ble_eq_true rfl) dX4_init_8 (fun H locs hP hD hS => ?_)
  have hQ9 := pd_mk [(h0, .inr (4, [.ref q_1, .null, .int 0, .int 0, .int 0, .int 0])), (aI k q_1 4 (fun _ => 0))] hP hD
  clear hP hD
  obtain ⟨hP, hD⟩ := hQ9
  refine lv_aload_n hx hb dX4_init_11 rfl (lv_at hl 0 rfl) ?_
  refine lv_iconst (v := 4) hx hb dX4_init_12 (by decide) ?_
  refine nwa (atype := .int) (t0 := 1) (a0 := (4, .inl (fun _ => 0))) hx hb (hts _ tw_164) rfl rfl hK hP hD hS hA (fun _ => rfl) (by decide) (N' := 4) (by decide) (by decide) (Nat.le_of_ble_eq_true rfl) (Nat.le_of_ble_eq_true rfl) dX4_init_13 (fun q_2 H hP hD hS => ?_)
  refine W.widen (k := 2) (n := 8) (by decide) (by decide) ?_
  have hQ9 := pd_mk [(h0, .inr (4, [.ref q_1, .null, .int 0, .int 0, .int 0, .int 0])), (aI k q_1 4 (fun _ => 0)), (aI k q_2 4 (fun _ => 0))] hP hD
  clear hP hD
  obtain ⟨hP, hD⟩ := hQ9
  refine va_putF (D := D) (ci := 4) (v := .ref q_2) (ty := (.array .int)) (C := RX4) (T := TX4) (N := 6) hx hb hts inX4 tyX4 tyX4_ok nmX4 hown hK hP hD hS 0 rfl rfl 1 (by decide) (hts _ tw_175) (fun _ h9 => h9) rfl hin rfl (by decide +kernel) rfl rfl (Nat.le_of_ble_eq_true rfl) dX4_init_15 (fun H locs hP hD hS => ?_)
  have hQ9 := pd_mk [(h0, .inr (4, (fX4 q_1 q_2 0 0 0 0))), (aI k q_1 4 (fun _ => 0)), (aI k q_2 4 (fun _ => 0))] hP hD
  clear hP hD
  obtain ⟨hP, hD⟩ := hQ9
  refine lv_aload_n hx hb dX4_init_18 rfl (lv_at hl 0 rfl) ?_
  refine lv_iconst (v := 0) hx hb dX4_init_19 (by decide) ?_
  refine va_put (D := D) (ci := 4) (v := .int 0) (ty := .int) (C := RX4) (T := TX4) (N := 6) hx hb hts inX4 tyX4 tyX4_ok nmX4 hown hK hP hD hS 0 rfl rfl 2 (by decide) (hts _ tw_178) (fun _ h9 => h9) rfl (by decide +kernel) rfl rfl (Nat.le_of_ble_eq_true rfl) dX4_init_20 (fun H locs hP hD hS => ?_)
  have hQ9 := pd_mk [(h0, .inr (4, (fX4 q_1 q_2 0 0 0 0))), (aI k q_1 4 (fun _ => 0)), (aI k q_2 4 (fun _ => 0))] hP hD
  clear hP hD
  obtain ⟨hP, hD⟩ := hQ9
  refine lv_aload_n hx hb dX4_init_23 rfl (lv_at hl 0 rfl) ?_
  refine lv_iconst (v := 0) hx hb dX4_init_24 (by decide) ?_
  refine va_put (D := D) (ci := 4) (v := .int 0) (ty := .int) (C := RX4) (T := TX4) (N := 6) hx hb hts inX4 tyX4 tyX4_ok nmX4 hown hK hP hD hS 0 rfl rfl 3 (by decide) (hts _ tw_181) (fun _ h9 => h9) rfl (by decide +kernel) rfl rfl (Nat.le_of_ble_eq_true rfl) dX4_init_25 (fun H locs hP hD hS => ?_)
  have hQ9 := pd_mk [(h0, .inr (4, (fX4 q_1 q_2 0 0 0 0))), (aI k q_1 4 (fun _ => 0)), (aI k q_2 4 (fun _ => 0))] hP hD
  clear hP hD
  obtain ⟨hP, hD⟩ := hQ9
  refine lv_aload_n hx hb dX4_init_28 rfl (lv_at hl 0 rfl) ?_
  refine lv_iconst (v := 0) hx hb dX4_init_29 (by decide) ?_
  refine va_put (D := D) (ci := 4) (v := .int 0) (ty := .int) (C := RX4) (T := TX4) (N := 6) hx hb hts inX4 tyX4 tyX4_ok nmX4 hown hK hP hD hS 0 rfl rfl 4 (by decide) (hts _ tw_185) (fun _ h9 => h9) rfl (by decide +kernel) rfl rfl (Nat.le_of_ble_eq_true rfl) dX4_init_30 (fun H locs hP hD hS => ?_)
  have hQ9 := pd_mk [(h0, .inr (4, (fX4 q_1 q_2 0 0 0 0))), (aI k q_1 4 (fun _ => 0)), (aI k q_2 4 (fun _ => 0))] hP hD
  clear hP hD
  obtain ⟨hP, hD⟩ := hQ9
  refine lv_aload_n hx hb dX4_init_33 rfl (lv_at hl 0 rfl) ?_
  refine lv_iconst (v := 0) hx hb dX4_init_34 (by decide) ?_
  refine va_put (D := D) (ci := 4) (v := .int 0) (ty := .int) (C := RX4) (T := TX4) (N := 6) hx hb hts inX4 tyX4 tyX4_ok nmX4 hown hK hP hD hS 0 rfl rfl 5 (by decide) (hts _ tw_188) (fun _ h9 => h9) rfl (by decide +kernel) rfl rfl (Nat.le_of_ble_eq_true rfl) dX4_init_35 (fun H locs hP hD hS => ?_)
  have hQ9 := pd_mk [(h0, .inr (4, (fX4 q_1 q_2 0 0 0 0))), (aI k q_1 4 (fun _ => 0)), (aI k q_2 4 (fun _ => 0))] hP hD
  clear hP hD
  obtain ⟨hP, hD⟩ := hQ9
  obtain ⟨hP9, hD9⟩ := pd_sub [(h0, .inr (4, (fX4 q_1 q_2 0 0 0 0))), (aI k q_1 4 (fun _ => 0)), (aI k q_2 4 (fun _ => 0))] [0, 1, 2] hP hD (by decide) rfl
  refine W.widen (k := 2) (n := 8) (by decide) (by decide) ?_
  exact W.vret hx hb hr (fun t ht hW => ⟨⟨(q_1, q_2), rfl, trivial, by rw [ht]; exact hP9, hD9⟩, hS.F ht⟩) hS.2.2 dX4_init_38

theorem dX2_init_0 : decode cX2_init 0 = .ok (.aload_n 0, 1) := by decide +kernel
theorem dX2_init_1 : decode cX2_init 1 = .ok (.invokespecial 3, 3) := by decide +kernel
theorem dX2_init_4 : decode cX2_init 4 = .ok (.aload_n 0, 1) := by decide +kernel
theorem dX2_init_5 : decode cX2_init 5 = .ok (.bipush 25, 2) := by decide +kernel
theorem dX2_init_7 : decode cX2_init 7 = .ok (.newarray .int, 2) := by decide +kernel
theorem dX2_init_9 : decode cX2_init 9 = .ok (.putfield 9, 3) := by decide +kernel
theorem dX2_init_12 : decode cX2_init 12 = .ok (.aload_n 0, 1) := by decide +kernel
theorem dX2_init_13 : decode cX2_init 13 = .ok (.bipush 25, 2) := by decide +kernel
theorem dX2_init_15 : decode cX2_init 15 = .ok (.newarray .int, 2) := by decide +kernel
theorem dX2_init_17 : decode cX2_init 17 = .ok (.putfield 15, 3) := by decide +kernel
theorem dX2_init_20 : decode cX2_init 20 = .ok (.aload_n 0, 1) := by decide +kernel
theorem dX2_init_21 : decode cX2_init 21 = .ok (.bipush 25, 2) := by decide +kernel
theorem dX2_init_23 : decode cX2_init 23 = .ok (.newarray .int, 2) := by decide +kernel
theorem dX2_init_25 : decode cX2_init 25 = .ok (.putfield 18, 3) := by decide +kernel
theorem dX2_init_28 : decode cX2_init 28 = .ok (.aload_n 0, 1) := by decide +kernel
theorem dX2_init_29 : decode cX2_init 29 = .ok (.iconst 0, 1) := by decide +kernel
theorem dX2_init_30 : decode cX2_init 30 = .ok (.putfield 21, 3) := by decide +kernel
theorem dX2_init_33 : decode cX2_init 33 = .ok (.aload_n 0, 1) := by decide +kernel
theorem dX2_init_34 : decode cX2_init 34 = .ok (.iconst 0, 1) := by decide +kernel
theorem dX2_init_35 : decode cX2_init 35 = .ok (.putfield 25, 3) := by decide +kernel
theorem dX2_init_38 : decode cX2_init 38 = .ok (.return_, 1) := by decide +kernel
set_option maxHeartbeats 4000000 in
set_option maxRecDepth 100000 in
theorem x_Reckoner_init (l : Launch) (D : va_G) (k : Nat → ClassId) (st : Nat → Nat) (lo : Nat) (h0 : Nat)  : CWv l D k st lo yX2_init cX2_init 1 none ({ frames := 1, cells := 3, slots := 75, locals := 12 }) 3 75 [.ref h0] [(h0, .inr (2, [.null, .null, .null, .int 0, .int 0]))] (fun (_ : Nat × Nat × Nat) => True) (fun (u : Nat × Nat × Nat) => match u with | (q0, q1, q2) => [(h0, .inr (2, (fX2 q0 q1 q2 0 0))), (aI k q0 25 (fun _ => 0)), (aI k q1 25 (fun _ => 0)), (aI k q2 25 (fun _ => 0))]) := by
  intro sz
  refine Met.ofW (cc := cX2_init) (maxL := 1) (ret := none) (by decide) rfl ?_
  intro p e s m args below meth c s₁ B hml hv
  obtain ⟨rfl, hsz, hlo, hP, hK, hDL, hZ⟩ := hv
  have hx := B.exec
  have hb := B.bytes
  have hr := B.returns
  have hts := WS_ts B.pre
  have hown : s.vm.findClass RX2 = some m.cls := findClass_of_methodNamed B.named
  have hlocks := B.notSynchronized
  have hin : meth.name = "<init>" := (name_of_methodNamed B.named B.method).1
  subst hsz
  have hD := hDL.self (sz := s.heap.size)
  have hAlo := A_lo hDL hlo
  generalize hAe : va_A [(h0, .inr (2, [.null, .null, .null, .int 0, .int 0]))] s.heap.size = A at hD hAlo ⊢
  have hA : ∀ q : Nat, s.heap.size ≤ q → A q := fun q h => by rw [← hAe]; exact Or.inr h
  have hS : va_S A s.heap s.heap [] := va_S.rf
  have hl := lv_entry ([.ref h0]) (n := 1) (Nat.le_of_ble_eq_true rfl)
  rw [lg_entry_eq]
  generalize (lg_sl ([.ref h0]) ++ List.replicate (1 - (lg_sl ([.ref h0])).length) Slot.unset).toArray = ls at hl ⊢
  have hl : lv_has ls 1 [(0, .ref h0)] := hl
  refine lv_aload_n hx hb dX2_init_0 rfl (lv_at hl 0 rfl) ?_
  refine W.objInit hx hb hown (hts _ tw_209) (hts _ tw_101) (hts _ tw_102) rfl (by rw [hml]; exact hl.1) rfl dX2_init_1 (Nat.le_of_ble_eq_true rfl) (Nat.le_of_ble_eq_true rfl) ?_
  refine W.eq (g2 := F0 m 4 ls []) rfl ?_
  refine lv_aload_n hx hb dX2_init_4 rfl (lv_at hl 0 rfl) ?_
  refine lv_bipush (v := 25) hx hb dX2_init_5 (by decide) ?_
  refine nwa (atype := .int) (t0 := 1) (a0 := (25, .inl (fun _ => 0))) hx hb (hts _ tw_164) rfl rfl hK hP hD hS hA (fun _ => rfl) (by decide) (N' := 25) (by decide) (by decide) (Nat.le_of_ble_eq_true rfl) (Nat.le_of_ble_eq_true rfl) dX2_init_7 (fun q_1 H hP hD hS => ?_)
  refine W.widen (k := 1) (n := 25) (by decide) (by decide) ?_
  have hQ9 := pd_mk [(h0, .inr (2, [.null, .null, .null, .int 0, .int 0])), (aI k q_1 25 (fun _ => 0))] hP hD
  clear hP hD
  obtain ⟨hP, hD⟩ := hQ9
  refine va_putF (D := D) (ci := 2) (v := .ref q_1) (ty := (.array .int)) (C := RX2) (T := TX2) (N := 5) hx hb hts inX2 tyX2 tyX2_ok nmX2 hown hK hP hD hS 0 rfl rfl 0 (by decide) (hts _ tw_210) (fun _ h9 => h9) rfl hin rfl (by decide +kernel) rfl rfl (Nat.le_of_ble_eq_true rfl) dX2_init_9 (fun H locs hP hD hS => ?_)
  have hQ9 := pd_mk [(h0, .inr (2, [.ref q_1, .null, .null, .int 0, .int 0])), (aI k q_1 25 (fun _ => 0))] hP hD
  clear hP hD
  obtain ⟨hP, hD⟩ := hQ9
  refine lv_aload_n hx hb dX2_init_12 rfl (lv_at hl 0 rfl) ?_
  refine lv_bipush (v := 25) hx hb dX2_init_13 (by decide) ?_
  refine nwa (atype := .int) (t0 := 1) (a0 := (25, .inl (fun _ => 0))) hx hb (hts _ tw_164) rfl rfl hK hP hD hS hA (fun _ => rfl) (by decide) (N' := 25) (by decide) (by decide) (Nat.le_of_ble_eq_true rfl) (Nat.le_of_ble_eq_true rfl) dX2_init_15 (fun q_2 H hP hD hS => ?_)
  refine W.widen (k := 2) (n := 50) (by decide) (by decide) ?_
  have hQ9 := pd_mk [(h0, .inr (2, [.ref q_1, .null, .null, .int 0, .int 0])), (aI k q_1 25 (fun _ => 0)), (aI k q_2 25 (fun _ => 0))] hP hD
  clear hP hD
  obtain ⟨hP, hD⟩ := hQ9
  refine va_putF (D := D) (ci := 2) (v := .ref q_2) (ty := (.array .int)) (C := RX2) (T := TX2) (N := 5) hx hb hts inX2 tyX2 tyX2_ok nmX2 hown hK hP hD hS 0 rfl rfl 1 (by decide) (hts _ tw_211) (fun _ h9 => h9) rfl hin rfl (by decide +kernel) rfl rfl (Nat.le_of_ble_eq_true rfl) dX2_init_17 (fun H locs hP hD hS => ?_)
  have hQ9 := pd_mk [(h0, .inr (2, [.ref q_1, .ref q_2, .null, .int 0, .int 0])), (aI k q_1 25 (fun _ => 0)), (aI k q_2 25 (fun _ => 0))] hP hD
  clear hP hD
  obtain ⟨hP, hD⟩ := hQ9
  refine lv_aload_n hx hb dX2_init_20 rfl (lv_at hl 0 rfl) ?_
  refine lv_bipush (v := 25) hx hb dX2_init_21 (by decide) ?_
  refine nwa (atype := .int) (t0 := 1) (a0 := (25, .inl (fun _ => 0))) hx hb (hts _ tw_164) rfl rfl hK hP hD hS hA (fun _ => rfl) (by decide) (N' := 25) (by decide) (by decide) (Nat.le_of_ble_eq_true rfl) (Nat.le_of_ble_eq_true rfl) dX2_init_23 (fun q_3 H hP hD hS => ?_)
  refine W.widen (k := 3) (n := 75) (by decide) (by decide) ?_
  have hQ9 := pd_mk [(h0, .inr (2, [.ref q_1, .ref q_2, .null, .int 0, .int 0])), (aI k q_1 25 (fun _ => 0)), (aI k q_2 25 (fun _ => 0)), (aI k q_3 25 (fun _ => 0))] hP hD
  clear hP hD
  obtain ⟨hP, hD⟩ := hQ9
  refine va_putF (D := D) (ci := 2) (v := .ref q_3) (ty := (.array .int)) (C := RX2) (T := TX2) (N := 5) hx hb hts inX2 tyX2 tyX2_ok nmX2 hown hK hP hD hS 0 rfl rfl 2 (by decide) (hts _ tw_212) (fun _ h9 => h9) rfl hin rfl (by decide +kernel) rfl rfl (Nat.le_of_ble_eq_true rfl) dX2_init_25 (fun H locs hP hD hS => ?_)
  have hQ9 := pd_mk [(h0, .inr (2, (fX2 q_1 q_2 q_3 0 0))), (aI k q_1 25 (fun _ => 0)), (aI k q_2 25 (fun _ => 0)), (aI k q_3 25 (fun _ => 0))] hP hD
  clear hP hD
  obtain ⟨hP, hD⟩ := hQ9
  refine lv_aload_n hx hb dX2_init_28 rfl (lv_at hl 0 rfl) ?_
  refine lv_iconst (v := 0) hx hb dX2_init_29 (by decide) ?_
  refine va_put (D := D) (ci := 2) (v := .int 0) (ty := .int) (C := RX2) (T := TX2) (N := 5) hx hb hts inX2 tyX2 tyX2_ok nmX2 hown hK hP hD hS 0 rfl rfl 3 (by decide) (hts _ tw_213) (fun _ h9 => h9) rfl (by decide +kernel) rfl rfl (Nat.le_of_ble_eq_true rfl) dX2_init_30 (fun H locs hP hD hS => ?_)
  have hQ9 := pd_mk [(h0, .inr (2, (fX2 q_1 q_2 q_3 0 0))), (aI k q_1 25 (fun _ => 0)), (aI k q_2 25 (fun _ => 0)), (aI k q_3 25 (fun _ => 0))] hP hD
  clear hP hD
  obtain ⟨hP, hD⟩ := hQ9
  refine lv_aload_n hx hb dX2_init_33 rfl (lv_at hl 0 rfl) ?_
  refine lv_iconst (v := 0) hx hb dX2_init_34 (by decide) ?_
  refine va_put (D := D) (ci := 2) (v := .int 0) (ty := .int) (C := RX2) (T := TX2) (N := 5) hx hb hts inX2 tyX2 tyX2_ok nmX2 hown hK hP hD hS 0 rfl rfl 4 (by decide) (hts _ tw_215) (fun _ h9 => h9) rfl (by decide +kernel) rfl rfl (Nat.le_of_ble_eq_true rfl) dX2_init_35 (fun H locs hP hD hS => ?_)
  have hQ9 := pd_mk [(h0, .inr (2, (fX2 q_1 q_2 q_3 0 0))), (aI k q_1 25 (fun _ => 0)), (aI k q_2 25 (fun _ => 0)), (aI k q_3 25 (fun _ => 0))] hP hD
  clear hP hD
  obtain ⟨hP, hD⟩ := hQ9
  obtain ⟨hP9, hD9⟩ := pd_sub [(h0, .inr (2, (fX2 q_1 q_2 q_3 0 0))), (aI k q_1 25 (fun _ => 0)), (aI k q_2 25 (fun _ => 0)), (aI k q_3 25 (fun _ => 0))] [0, 1, 2, 3] hP hD (by decide) rfl
  refine W.widen (k := 3) (n := 75) (by decide) (by decide) ?_
  exact W.vret hx hb hr (fun t ht hW => ⟨⟨(q_1, q_2, q_3), rfl, trivial, by rw [ht]; exact hP9, hD9⟩, hS.F ht⟩) hS.2.2 dX2_init_38

theorem dX1_init_0 : decode cX1_init 0 = .ok (.aload_n 0, 1) := by decide +kernel
theorem dX1_init_1 : decode cX1_init 1 = .ok (.invokespecial 3, 3) := by decide +kernel
theorem dX1_init_4 : decode cX1_init 4 = .ok (.aload_n 0, 1) := by decide +kernel
theorem dX1_init_5 : decode cX1_init 5 = .ok (.iconst 4, 1) := by decide +kernel
theorem dX1_init_6 : decode cX1_init 6 = .ok (.newarray .int, 2) := by decide +kernel
theorem dX1_init_8 : decode cX1_init 8 = .ok (.putfield 9, 3) := by decide +kernel
theorem dX1_init_11 : decode cX1_init 11 = .ok (.aload_n 0, 1) := by decide +kernel
theorem dX1_init_12 : decode cX1_init 12 = .ok (.bipush 100, 2) := by decide +kernel
theorem dX1_init_14 : decode cX1_init 14 = .ok (.newarray .int, 2) := by decide +kernel
theorem dX1_init_16 : decode cX1_init 16 = .ok (.putfield 15, 3) := by decide +kernel
theorem dX1_init_19 : decode cX1_init 19 = .ok (.aload_n 0, 1) := by decide +kernel
theorem dX1_init_20 : decode cX1_init 20 = .ok (.bipush 16, 2) := by decide +kernel
theorem dX1_init_22 : decode cX1_init 22 = .ok (.newarray .int, 2) := by decide +kernel
theorem dX1_init_24 : decode cX1_init 24 = .ok (.putfield 18, 3) := by decide +kernel
theorem dX1_init_27 : decode cX1_init 27 = .ok (.aload_n 0, 1) := by decide +kernel
theorem dX1_init_28 : decode cX1_init 28 = .ok (.iconst 0, 1) := by decide +kernel
theorem dX1_init_29 : decode cX1_init 29 = .ok (.putfield 21, 3) := by decide +kernel
theorem dX1_init_32 : decode cX1_init 32 = .ok (.aload_n 0, 1) := by decide +kernel
theorem dX1_init_33 : decode cX1_init 33 = .ok (.iconst 0, 1) := by decide +kernel
theorem dX1_init_34 : decode cX1_init 34 = .ok (.putfield 25, 3) := by decide +kernel
theorem dX1_init_37 : decode cX1_init 37 = .ok (.aload_n 0, 1) := by decide +kernel
theorem dX1_init_38 : decode cX1_init 38 = .ok (.iconst 0, 1) := by decide +kernel
theorem dX1_init_39 : decode cX1_init 39 = .ok (.putfield 28, 3) := by decide +kernel
theorem dX1_init_42 : decode cX1_init 42 = .ok (.aload_n 0, 1) := by decide +kernel
theorem dX1_init_43 : decode cX1_init 43 = .ok (.iconst 0, 1) := by decide +kernel
theorem dX1_init_44 : decode cX1_init 44 = .ok (.putfield 31, 3) := by decide +kernel
theorem dX1_init_47 : decode cX1_init 47 = .ok (.aload_n 0, 1) := by decide +kernel
theorem dX1_init_48 : decode cX1_init 48 = .ok (.aload_n 1, 1) := by decide +kernel
theorem dX1_init_49 : decode cX1_init 49 = .ok (.putfield 34, 3) := by decide +kernel
theorem dX1_init_52 : decode cX1_init 52 = .ok (.return_, 1) := by decide +kernel
set_option maxHeartbeats 4000000 in
set_option maxRecDepth 100000 in
theorem x_Parking_init (l : Launch) (D : va_G) (k : Nat → ClassId) (st : Nat → Nat) (lo : Nat) (h0 : Nat) (s0 : Nat)  : CWv l D k st lo yX1_init cX1_init 2 none ({ frames := 1, cells := 3, slots := 120, locals := 12 }) 3 120 [.ref h0, .ref s0] [(h0, .inr (1, [.null, .null, .null, .null, .int 0, .int 0, .int 0, .int 0]))] (fun (_ : Nat × Nat × Nat) => True) (fun (u : Nat × Nat × Nat) => match u with | (q0, q1, q2) => [(h0, .inr (1, (fX1 s0 q0 q1 q2 0 0 0 0))), (aI k q0 4 (fun _ => 0)), (aI k q1 100 (fun _ => 0)), (aI k q2 16 (fun _ => 0))]) := by
  intro sz
  refine Met.ofW (cc := cX1_init) (maxL := 2) (ret := none) (by decide) rfl ?_
  intro p e s m args below meth c s₁ B hml hv
  obtain ⟨rfl, hsz, hlo, hP, hK, hDL, hZ⟩ := hv
  have hx := B.exec
  have hb := B.bytes
  have hr := B.returns
  have hts := WS_ts B.pre
  have hown : s.vm.findClass RX1 = some m.cls := findClass_of_methodNamed B.named
  have hlocks := B.notSynchronized
  have hin : meth.name = "<init>" := (name_of_methodNamed B.named B.method).1
  subst hsz
  have hD := hDL.self (sz := s.heap.size)
  have hAlo := A_lo hDL hlo
  generalize hAe : va_A [(h0, .inr (1, [.null, .null, .null, .null, .int 0, .int 0, .int 0, .int 0]))] s.heap.size = A at hD hAlo ⊢
  have hA : ∀ q : Nat, s.heap.size ≤ q → A q := fun q h => by rw [← hAe]; exact Or.inr h
  have hS : va_S A s.heap s.heap [] := va_S.rf
  have hl := lv_entry ([.ref h0, .ref s0]) (n := 2) (Nat.le_of_ble_eq_true rfl)
  rw [lg_entry_eq]
  generalize (lg_sl ([.ref h0, .ref s0]) ++ List.replicate (2 - (lg_sl ([.ref h0, .ref s0])).length) Slot.unset).toArray = ls at hl ⊢
  have hl : lv_has ls 2 [(0, .ref h0), (1, .ref s0)] := hl
  refine lv_aload_n hx hb dX1_init_0 rfl (lv_at hl 0 rfl) ?_
  refine W.objInit hx hb hown (hts _ tw_234) (hts _ tw_101) (hts _ tw_102) rfl (by rw [hml]; exact hl.1) rfl dX1_init_1 (Nat.le_of_ble_eq_true rfl) (Nat.le_of_ble_eq_true rfl) ?_
  refine W.eq (g2 := F0 m 4 ls []) rfl ?_
  refine lv_aload_n hx hb dX1_init_4 rfl (lv_at hl 0 rfl) ?_
  refine lv_iconst (v := 4) hx hb dX1_init_5 (by decide) ?_
  refine nwa (atype := .int) (t0 := 1) (a0 := (4, .inl (fun _ => 0))) hx hb (hts _ tw_164) rfl rfl hK hP hD hS hA (fun _ => rfl) (by decide) (N' := 4) (by decide) (by decide) (Nat.le_of_ble_eq_true rfl) (Nat.le_of_ble_eq_true rfl) dX1_init_6 (fun q_1 H hP hD hS => ?_)
  refine W.widen (k := 1) (n := 4) (by decide) (by decide) ?_
  have hQ9 := pd_mk [(h0, .inr (1, [.null, .null, .null, .null, .int 0, .int 0, .int 0, .int 0])), (aI k q_1 4 (fun _ => 0))] hP hD
  clear hP hD
  obtain ⟨hP, hD⟩ := hQ9
  refine va_putF (D := D) (ci := 1) (v := .ref q_1) (ty := (.array .int)) (C := RX1) (T := TX1) (N := 8) hx hb hts inX1 tyX1 tyX1_ok nmX1 hown hK hP hD hS 0 rfl rfl 1 (by decide) (hts _ tw_236) (fun _ h9 => h9) rfl hin rfl (by decide +kernel) rfl rfl (Nat.le_of_ble_eq_true rfl) dX1_init_8 (fun H locs hP hD hS => ?_)
  have hQ9 := pd_mk [(h0, .inr (1, [.null, .ref q_1, .null, .null, .int 0, .int 0, .int 0, .int 0])), (aI k q_1 4 (fun _ => 0))] hP hD
  clear hP hD
  obtain ⟨hP, hD⟩ := hQ9
  refine lv_aload_n hx hb dX1_init_11 rfl (lv_at hl 0 rfl) ?_
  refine lv_bipush (v := 100) hx hb dX1_init_12 (by decide) ?_
  refine nwa (atype := .int) (t0 := 1) (a0 := (100, .inl (fun _ => 0))) hx hb (hts _ tw_164) rfl rfl hK hP hD hS hA (fun _ => rfl) (by decide) (N' := 100) (by decide) (by decide) (Nat.le_of_ble_eq_true rfl) (Nat.le_of_ble_eq_true rfl) dX1_init_14 (fun q_2 H hP hD hS => ?_)
  refine W.widen (k := 2) (n := 104) (by decide) (by decide) ?_
  have hQ9 := pd_mk [(h0, .inr (1, [.null, .ref q_1, .null, .null, .int 0, .int 0, .int 0, .int 0])), (aI k q_1 4 (fun _ => 0)), (aI k q_2 100 (fun _ => 0))] hP hD
  clear hP hD
  obtain ⟨hP, hD⟩ := hQ9
  refine va_putF (D := D) (ci := 1) (v := .ref q_2) (ty := (.array .int)) (C := RX1) (T := TX1) (N := 8) hx hb hts inX1 tyX1 tyX1_ok nmX1 hown hK hP hD hS 0 rfl rfl 2 (by decide) (hts _ tw_238) (fun _ h9 => h9) rfl hin rfl (by decide +kernel) rfl rfl (Nat.le_of_ble_eq_true rfl) dX1_init_16 (fun H locs hP hD hS => ?_)
  have hQ9 := pd_mk [(h0, .inr (1, [.null, .ref q_1, .ref q_2, .null, .int 0, .int 0, .int 0, .int 0])), (aI k q_1 4 (fun _ => 0)), (aI k q_2 100 (fun _ => 0))] hP hD
  clear hP hD
  obtain ⟨hP, hD⟩ := hQ9
  refine lv_aload_n hx hb dX1_init_19 rfl (lv_at hl 0 rfl) ?_
  refine lv_bipush (v := 16) hx hb dX1_init_20 (by decide) ?_
  refine nwa (atype := .int) (t0 := 1) (a0 := (16, .inl (fun _ => 0))) hx hb (hts _ tw_164) rfl rfl hK hP hD hS hA (fun _ => rfl) (by decide) (N' := 16) (by decide) (by decide) (Nat.le_of_ble_eq_true rfl) (Nat.le_of_ble_eq_true rfl) dX1_init_22 (fun q_3 H hP hD hS => ?_)
  refine W.widen (k := 3) (n := 120) (by decide) (by decide) ?_
  have hQ9 := pd_mk [(h0, .inr (1, [.null, .ref q_1, .ref q_2, .null, .int 0, .int 0, .int 0, .int 0])), (aI k q_1 4 (fun _ => 0)), (aI k q_2 100 (fun _ => 0)), (aI k q_3 16 (fun _ => 0))] hP hD
  clear hP hD
  obtain ⟨hP, hD⟩ := hQ9
  refine va_putF (D := D) (ci := 1) (v := .ref q_3) (ty := (.array .int)) (C := RX1) (T := TX1) (N := 8) hx hb hts inX1 tyX1 tyX1_ok nmX1 hown hK hP hD hS 0 rfl rfl 3 (by decide) (hts _ tw_239) (fun _ h9 => h9) rfl hin rfl (by decide +kernel) rfl rfl (Nat.le_of_ble_eq_true rfl) dX1_init_24 (fun H locs hP hD hS => ?_)
  have hQ9 := pd_mk [(h0, .inr (1, [.null, .ref q_1, .ref q_2, .ref q_3, .int 0, .int 0, .int 0, .int 0])), (aI k q_1 4 (fun _ => 0)), (aI k q_2 100 (fun _ => 0)), (aI k q_3 16 (fun _ => 0))] hP hD
  clear hP hD
  obtain ⟨hP, hD⟩ := hQ9
  refine lv_aload_n hx hb dX1_init_27 rfl (lv_at hl 0 rfl) ?_
  refine lv_iconst (v := 0) hx hb dX1_init_28 (by decide) ?_
  refine va_put (D := D) (ci := 1) (v := .int 0) (ty := .int) (C := RX1) (T := TX1) (N := 8) hx hb hts inX1 tyX1 tyX1_ok nmX1 hown hK hP hD hS 0 rfl rfl 4 (by decide) (hts _ tw_240) (fun _ h9 => h9) rfl (by decide +kernel) rfl rfl (Nat.le_of_ble_eq_true rfl) dX1_init_29 (fun H locs hP hD hS => ?_)
  have hQ9 := pd_mk [(h0, .inr (1, [.null, .ref q_1, .ref q_2, .ref q_3, .int 0, .int 0, .int 0, .int 0])), (aI k q_1 4 (fun _ => 0)), (aI k q_2 100 (fun _ => 0)), (aI k q_3 16 (fun _ => 0))] hP hD
  clear hP hD
  obtain ⟨hP, hD⟩ := hQ9
  refine lv_aload_n hx hb dX1_init_32 rfl (lv_at hl 0 rfl) ?_
  refine lv_iconst (v := 0) hx hb dX1_init_33 (by decide) ?_
  refine va_put (D := D) (ci := 1) (v := .int 0) (ty := .int) (C := RX1) (T := TX1) (N := 8) hx hb hts inX1 tyX1 tyX1_ok nmX1 hown hK hP hD hS 0 rfl rfl 5 (by decide) (hts _ tw_241) (fun _ h9 => h9) rfl (by decide +kernel) rfl rfl (Nat.le_of_ble_eq_true rfl) dX1_init_34 (fun H locs hP hD hS => ?_)
  have hQ9 := pd_mk [(h0, .inr (1, [.null, .ref q_1, .ref q_2, .ref q_3, .int 0, .int 0, .int 0, .int 0])), (aI k q_1 4 (fun _ => 0)), (aI k q_2 100 (fun _ => 0)), (aI k q_3 16 (fun _ => 0))] hP hD
  clear hP hD
  obtain ⟨hP, hD⟩ := hQ9
  refine lv_aload_n hx hb dX1_init_37 rfl (lv_at hl 0 rfl) ?_
  refine lv_iconst (v := 0) hx hb dX1_init_38 (by decide) ?_
  refine va_put (D := D) (ci := 1) (v := .int 0) (ty := .int) (C := RX1) (T := TX1) (N := 8) hx hb hts inX1 tyX1 tyX1_ok nmX1 hown hK hP hD hS 0 rfl rfl 6 (by decide) (hts _ tw_242) (fun _ h9 => h9) rfl (by decide +kernel) rfl rfl (Nat.le_of_ble_eq_true rfl) dX1_init_39 (fun H locs hP hD hS => ?_)
  have hQ9 := pd_mk [(h0, .inr (1, [.null, .ref q_1, .ref q_2, .ref q_3, .int 0, .int 0, .int 0, .int 0])), (aI k q_1 4 (fun _ => 0)), (aI k q_2 100 (fun _ => 0)), (aI k q_3 16 (fun _ => 0))] hP hD
  clear hP hD
  obtain ⟨hP, hD⟩ := hQ9
  refine lv_aload_n hx hb dX1_init_42 rfl (lv_at hl 0 rfl) ?_
  refine lv_iconst (v := 0) hx hb dX1_init_43 (by decide) ?_
  refine va_put (D := D) (ci := 1) (v := .int 0) (ty := .int) (C := RX1) (T := TX1) (N := 8) hx hb hts inX1 tyX1 tyX1_ok nmX1 hown hK hP hD hS 0 rfl rfl 7 (by decide) (hts _ tw_243) (fun _ h9 => h9) rfl (by decide +kernel) rfl rfl (Nat.le_of_ble_eq_true rfl) dX1_init_44 (fun H locs hP hD hS => ?_)
  have hQ9 := pd_mk [(h0, .inr (1, [.null, .ref q_1, .ref q_2, .ref q_3, .int 0, .int 0, .int 0, .int 0])), (aI k q_1 4 (fun _ => 0)), (aI k q_2 100 (fun _ => 0)), (aI k q_3 16 (fun _ => 0))] hP hD
  clear hP hD
  obtain ⟨hP, hD⟩ := hQ9
  refine lv_aload_n hx hb dX1_init_47 rfl (lv_at hl 0 rfl) ?_
  refine lv_aload_n hx hb dX1_init_48 rfl (lv_at hl 1 rfl) ?_
  refine va_putF (D := D) (ci := 1) (v := .ref s0) (ty := (.object "LastPlace$Scene")) (C := RX1) (T := TX1) (N := 8) hx hb hts inX1 tyX1 tyX1_ok nmX1 hown hK hP hD hS 0 rfl rfl 0 (by decide) (hts _ tw_235) (fun _ h9 => h9) rfl hin rfl (by decide +kernel) rfl rfl (Nat.le_of_ble_eq_true rfl) dX1_init_49 (fun H locs hP hD hS => ?_)
  have hQ9 := pd_mk [(h0, .inr (1, (fX1 s0 q_1 q_2 q_3 0 0 0 0))), (aI k q_1 4 (fun _ => 0)), (aI k q_2 100 (fun _ => 0)), (aI k q_3 16 (fun _ => 0))] hP hD
  clear hP hD
  obtain ⟨hP, hD⟩ := hQ9
  obtain ⟨hP9, hD9⟩ := pd_sub [(h0, .inr (1, (fX1 s0 q_1 q_2 q_3 0 0 0 0))), (aI k q_1 4 (fun _ => 0)), (aI k q_2 100 (fun _ => 0)), (aI k q_3 16 (fun _ => 0))] [0, 1, 2, 3] hP hD (by decide) rfl
  refine W.widen (k := 3) (n := 120) (by decide) (by decide) ?_
  exact W.vret hx hb hr (fun t ht hW => ⟨⟨(q_1, q_2, q_3), rfl, trivial, by rw [ht]; exact hP9, hD9⟩, hS.F ht⟩) hS.2.2 dX1_init_52

theorem dX0_init_0 : decode cX0_init 0 = .ok (.aload_n 0, 1) := by decide +kernel
theorem dX0_init_1 : decode cX0_init 1 = .ok (.invokespecial 3, 3) := by decide +kernel
theorem dX0_init_4 : decode cX0_init 4 = .ok (.aload_n 0, 1) := by decide +kernel
theorem dX0_init_5 : decode cX0_init 5 = .ok (.sipush 768, 3) := by decide +kernel
theorem dX0_init_8 : decode cX0_init 8 = .ok (.newarray .int, 2) := by decide +kernel
theorem dX0_init_10 : decode cX0_init 10 = .ok (.putfield 9, 3) := by decide +kernel
theorem dX0_init_13 : decode cX0_init 13 = .ok (.aload_n 0, 1) := by decide +kernel
theorem dX0_init_14 : decode cX0_init 14 = .ok (.iconst 4, 1) := by decide +kernel
theorem dX0_init_15 : decode cX0_init 15 = .ok (.newarray .int, 2) := by decide +kernel
theorem dX0_init_17 : decode cX0_init 17 = .ok (.putfield 15, 3) := by decide +kernel
theorem dX0_init_20 : decode cX0_init 20 = .ok (.aload_n 0, 1) := by decide +kernel
theorem dX0_init_21 : decode cX0_init 21 = .ok (.iconst 4, 1) := by decide +kernel
theorem dX0_init_22 : decode cX0_init 22 = .ok (.newarray .int, 2) := by decide +kernel
theorem dX0_init_24 : decode cX0_init 24 = .ok (.putfield 18, 3) := by decide +kernel
theorem dX0_init_27 : decode cX0_init 27 = .ok (.aload_n 0, 1) := by decide +kernel
theorem dX0_init_28 : decode cX0_init 28 = .ok (.bipush 8, 2) := by decide +kernel
theorem dX0_init_30 : decode cX0_init 30 = .ok (.newarray .int, 2) := by decide +kernel
theorem dX0_init_32 : decode cX0_init 32 = .ok (.putfield 21, 3) := by decide +kernel
theorem dX0_init_35 : decode cX0_init 35 = .ok (.aload_n 0, 1) := by decide +kernel
theorem dX0_init_36 : decode cX0_init 36 = .ok (.aload_n 1, 1) := by decide +kernel
theorem dX0_init_37 : decode cX0_init 37 = .ok (.putfield 24, 3) := by decide +kernel
theorem dX0_init_40 : decode cX0_init 40 = .ok (.return_, 1) := by decide +kernel
set_option maxHeartbeats 4000000 in
set_option maxRecDepth 100000 in
theorem x_BestWay_init (l : Launch) (D : va_G) (k : Nat → ClassId) (st : Nat → Nat) (lo : Nat) (h0 : Nat) (s0 : Nat)  : CWv l D k st lo yX0_init cX0_init 2 none ({ frames := 1, cells := 4, slots := 784, locals := 12 }) 4 784 [.ref h0, .ref s0] [(h0, .inr (0, [.null, .null, .null, .null, .null]))] (fun (_ : Nat × Nat × Nat × Nat) => True) (fun (u : Nat × Nat × Nat × Nat) => match u with | (q0, q1, q2, q3) => [(h0, .inr (0, (fX0 s0 q0 q1 q2 q3))), (aI k q0 768 (fun _ => 0)), (aI k q1 4 (fun _ => 0)), (aI k q2 4 (fun _ => 0)), (aI k q3 8 (fun _ => 0))]) := by
  intro sz
  refine Met.ofW (cc := cX0_init) (maxL := 2) (ret := none) (by decide) rfl ?_
  intro p e s m args below meth c s₁ B hml hv
  obtain ⟨rfl, hsz, hlo, hP, hK, hDL, hZ⟩ := hv
  have hx := B.exec
  have hb := B.bytes
  have hr := B.returns
  have hts := WS_ts B.pre
  have hown : s.vm.findClass RX0 = some m.cls := findClass_of_methodNamed B.named
  have hlocks := B.notSynchronized
  have hin : meth.name = "<init>" := (name_of_methodNamed B.named B.method).1
  subst hsz
  have hD := hDL.self (sz := s.heap.size)
  have hAlo := A_lo hDL hlo
  generalize hAe : va_A [(h0, .inr (0, [.null, .null, .null, .null, .null]))] s.heap.size = A at hD hAlo ⊢
  have hA : ∀ q : Nat, s.heap.size ≤ q → A q := fun q h => by rw [← hAe]; exact Or.inr h
  have hS : va_S A s.heap s.heap [] := va_S.rf
  have hl := lv_entry ([.ref h0, .ref s0]) (n := 2) (Nat.le_of_ble_eq_true rfl)
  rw [lg_entry_eq]
  generalize (lg_sl ([.ref h0, .ref s0]) ++ List.replicate (2 - (lg_sl ([.ref h0, .ref s0])).length) Slot.unset).toArray = ls at hl ⊢
  have hl : lv_has ls 2 [(0, .ref h0), (1, .ref s0)] := hl
  refine lv_aload_n hx hb dX0_init_0 rfl (lv_at hl 0 rfl) ?_
  refine W.objInit hx hb hown (hts _ tw_265) (hts _ tw_101) (hts _ tw_102) rfl (by rw [hml]; exact hl.1) rfl dX0_init_1 (Nat.le_of_ble_eq_true rfl) (Nat.le_of_ble_eq_true rfl) ?_
  refine W.eq (g2 := F0 m 4 ls []) rfl ?_
  refine lv_aload_n hx hb dX0_init_4 rfl (lv_at hl 0 rfl) ?_
  refine lv_sipush (v := 768) hx hb dX0_init_5 (by decide) ?_
  refine nwa (atype := .int) (t0 := 1) (a0 := (768, .inl (fun _ => 0))) hx hb (hts _ tw_164) rfl rfl hK hP hD hS hA (fun _ => rfl) (by decide) (N' := 768) (by decide) (by decide) (Nat.le_of_ble_eq_true rfl) (Nat.le_of_ble_eq_true rfl) dX0_init_8 (fun q_1 H hP hD hS => ?_)
  refine W.widen (k := 1) (n := 768) (by decide) (by decide) ?_
  have hQ9 := pd_mk [(h0, .inr (0, [.null, .null, .null, .null, .null])), (aI k q_1 768 (fun _ => 0))] hP hD
  clear hP hD
  obtain ⟨hP, hD⟩ := hQ9
  refine va_putF (D := D) (ci := 0) (v := .ref q_1) (ty := (.array .int)) (C := RX0) (T := TX0) (N := 5) hx hb hts inX0 tyX0 tyX0_ok nmX0 hown hK hP hD hS 0 rfl rfl 1 (by decide) (hts _ tw_267) (fun _ h9 => h9) rfl hin rfl (by decide +kernel) rfl rfl (Nat.le_of_ble_eq_true rfl) dX0_init_10 (fun H locs hP hD hS => ?_)
  have hQ9 := pd_mk [(h0, .inr (0, [.null, .ref q_1, .null, .null, .null])), (aI k q_1 768 (fun _ => 0))] hP hD
  clear hP hD
  obtain ⟨hP, hD⟩ := hQ9
  refine lv_aload_n hx hb dX0_init_13 rfl (lv_at hl 0 rfl) ?_
  refine lv_iconst (v := 4) hx hb dX0_init_14 (by decide) ?_
  refine nwa (atype := .int) (t0 := 1) (a0 := (4, .inl (fun _ => 0))) hx hb (hts _ tw_164) rfl rfl hK hP hD hS hA (fun _ => rfl) (by decide) (N' := 4) (by decide) (by decide) (Nat.le_of_ble_eq_true rfl) (Nat.le_of_ble_eq_true rfl) dX0_init_15 (fun q_2 H hP hD hS => ?_)
  refine W.widen (k := 2) (n := 772) (by decide) (by decide) ?_
  have hQ9 := pd_mk [(h0, .inr (0, [.null, .ref q_1, .null, .null, .null])), (aI k q_1 768 (fun _ => 0)), (aI k q_2 4 (fun _ => 0))] hP hD
  clear hP hD
  obtain ⟨hP, hD⟩ := hQ9
  refine va_putF (D := D) (ci := 0) (v := .ref q_2) (ty := (.array .int)) (C := RX0) (T := TX0) (N := 5) hx hb hts inX0 tyX0 tyX0_ok nmX0 hown hK hP hD hS 0 rfl rfl 2 (by decide) (hts _ tw_268) (fun _ h9 => h9) rfl hin rfl (by decide +kernel) rfl rfl (Nat.le_of_ble_eq_true rfl) dX0_init_17 (fun H locs hP hD hS => ?_)
  have hQ9 := pd_mk [(h0, .inr (0, [.null, .ref q_1, .ref q_2, .null, .null])), (aI k q_1 768 (fun _ => 0)), (aI k q_2 4 (fun _ => 0))] hP hD
  clear hP hD
  obtain ⟨hP, hD⟩ := hQ9
  refine lv_aload_n hx hb dX0_init_20 rfl (lv_at hl 0 rfl) ?_
  refine lv_iconst (v := 4) hx hb dX0_init_21 (by decide) ?_
  refine nwa (atype := .int) (t0 := 1) (a0 := (4, .inl (fun _ => 0))) hx hb (hts _ tw_164) rfl rfl hK hP hD hS hA (fun _ => rfl) (by decide) (N' := 4) (by decide) (by decide) (Nat.le_of_ble_eq_true rfl) (Nat.le_of_ble_eq_true rfl) dX0_init_22 (fun q_3 H hP hD hS => ?_)
  refine W.widen (k := 3) (n := 776) (by decide) (by decide) ?_
  have hQ9 := pd_mk [(h0, .inr (0, [.null, .ref q_1, .ref q_2, .null, .null])), (aI k q_1 768 (fun _ => 0)), (aI k q_2 4 (fun _ => 0)), (aI k q_3 4 (fun _ => 0))] hP hD
  clear hP hD
  obtain ⟨hP, hD⟩ := hQ9
  refine va_putF (D := D) (ci := 0) (v := .ref q_3) (ty := (.array .int)) (C := RX0) (T := TX0) (N := 5) hx hb hts inX0 tyX0 tyX0_ok nmX0 hown hK hP hD hS 0 rfl rfl 3 (by decide) (hts _ tw_270) (fun _ h9 => h9) rfl hin rfl (by decide +kernel) rfl rfl (Nat.le_of_ble_eq_true rfl) dX0_init_24 (fun H locs hP hD hS => ?_)
  have hQ9 := pd_mk [(h0, .inr (0, [.null, .ref q_1, .ref q_2, .ref q_3, .null])), (aI k q_1 768 (fun _ => 0)), (aI k q_2 4 (fun _ => 0)), (aI k q_3 4 (fun _ => 0))] hP hD
  clear hP hD
  obtain ⟨hP, hD⟩ := hQ9
  refine lv_aload_n hx hb dX0_init_27 rfl (lv_at hl 0 rfl) ?_
  refine lv_bipush (v := 8) hx hb dX0_init_28 (by decide) ?_
  refine nwa (atype := .int) (t0 := 1) (a0 := (8, .inl (fun _ => 0))) hx hb (hts _ tw_164) rfl rfl hK hP hD hS hA (fun _ => rfl) (by decide) (N' := 8) (by decide) (by decide) (Nat.le_of_ble_eq_true rfl) (Nat.le_of_ble_eq_true rfl) dX0_init_30 (fun q_4 H hP hD hS => ?_)
  refine W.widen (k := 4) (n := 784) (by decide) (by decide) ?_
  have hQ9 := pd_mk [(h0, .inr (0, [.null, .ref q_1, .ref q_2, .ref q_3, .null])), (aI k q_1 768 (fun _ => 0)), (aI k q_2 4 (fun _ => 0)), (aI k q_3 4 (fun _ => 0)), (aI k q_4 8 (fun _ => 0))] hP hD
  clear hP hD
  obtain ⟨hP, hD⟩ := hQ9
  refine va_putF (D := D) (ci := 0) (v := .ref q_4) (ty := (.array .int)) (C := RX0) (T := TX0) (N := 5) hx hb hts inX0 tyX0 tyX0_ok nmX0 hown hK hP hD hS 0 rfl rfl 4 (by decide) (hts _ tw_272) (fun _ h9 => h9) rfl hin rfl (by decide +kernel) rfl rfl (Nat.le_of_ble_eq_true rfl) dX0_init_32 (fun H locs hP hD hS => ?_)
  have hQ9 := pd_mk [(h0, .inr (0, [.null, .ref q_1, .ref q_2, .ref q_3, .ref q_4])), (aI k q_1 768 (fun _ => 0)), (aI k q_2 4 (fun _ => 0)), (aI k q_3 4 (fun _ => 0)), (aI k q_4 8 (fun _ => 0))] hP hD
  clear hP hD
  obtain ⟨hP, hD⟩ := hQ9
  refine lv_aload_n hx hb dX0_init_35 rfl (lv_at hl 0 rfl) ?_
  refine lv_aload_n hx hb dX0_init_36 rfl (lv_at hl 1 rfl) ?_
  refine va_putF (D := D) (ci := 0) (v := .ref s0) (ty := (.object "LastPlace$Street")) (C := RX0) (T := TX0) (N := 5) hx hb hts inX0 tyX0 tyX0_ok nmX0 hown hK hP hD hS 0 rfl rfl 0 (by decide) (hts _ tw_266) (fun _ h9 => h9) rfl hin rfl (by decide +kernel) rfl rfl (Nat.le_of_ble_eq_true rfl) dX0_init_37 (fun H locs hP hD hS => ?_)
  have hQ9 := pd_mk [(h0, .inr (0, (fX0 s0 q_1 q_2 q_3 q_4))), (aI k q_1 768 (fun _ => 0)), (aI k q_2 4 (fun _ => 0)), (aI k q_3 4 (fun _ => 0)), (aI k q_4 8 (fun _ => 0))] hP hD
  clear hP hD
  obtain ⟨hP, hD⟩ := hQ9
  obtain ⟨hP9, hD9⟩ := pd_sub [(h0, .inr (0, (fX0 s0 q_1 q_2 q_3 q_4))), (aI k q_1 768 (fun _ => 0)), (aI k q_2 4 (fun _ => 0)), (aI k q_3 4 (fun _ => 0)), (aI k q_4 8 (fun _ => 0))] [0, 1, 2, 3, 4] hP hD (by decide) rfl
  refine W.widen (k := 4) (n := 784) (by decide) (by decide) ?_
  exact W.vret hx hb hr (fun t ht hW => ⟨⟨(q_1, q_2, q_3, q_4), rfl, trivial, by rw [ht]; exact hP9, hD9⟩, hS.F ht⟩) hS.2.2 dX0_init_40


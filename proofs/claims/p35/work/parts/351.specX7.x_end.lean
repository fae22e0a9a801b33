theorem dX7_end_0 : decode cX7_end 0 = .ok (.aload_n 0, 1) := by decide +kernel
theorem dX7_end_1 : decode cX7_end 1 = .ok (.iload_n 1, 1) := by decide +kernel
theorem dX7_end_2 : decode cX7_end 2 = .ok (.invokevirtual 108, 3) := by decide +kernel
theorem dX7_end_5 : decode cX7_end 5 = .ok (.ifCond .ne 7, 3) := by decide +kernel
theorem dX7_end_8 : decode cX7_end 8 = .ok (.sipush (-1001), 3) := by decide +kernel
theorem dX7_end_11 : decode cX7_end 11 = .ok (.ireturn, 1) := by decide +kernel
theorem dX7_end_12 : decode cX7_end 12 = .ok (.aload_n 0, 1) := by decide +kernel
theorem dX7_end_13 : decode cX7_end 13 = .ok (.iload_n 1, 1) := by decide +kernel
theorem dX7_end_14 : decode cX7_end 14 = .ok (.iload_n 2, 1) := by decide +kernel
theorem dX7_end_15 : decode cX7_end 15 = .ok (.invokevirtual 134, 3) := by decide +kernel
theorem dX7_end_18 : decode cX7_end 18 = .ok (.ifCond .eq 12, 3) := by decide +kernel
theorem dX7_end_21 : decode cX7_end 21 = .ok (.iload_n 3, 1) := by decide +kernel
theorem dX7_end_22 : decode cX7_end 22 = .ok (.iconst 0, 1) := by decide +kernel
theorem dX7_end_23 : decode cX7_end 23 = .ok (.iconst 1, 1) := by decide +kernel
theorem dX7_end_24 : decode cX7_end 24 = .ok (.invokestatic 112, 3) := by decide +kernel
theorem dX7_end_27 : decode cX7_end 27 = .ok (.ifCond .ne 7, 3) := by decide +kernel
theorem dX7_end_30 : decode cX7_end 30 = .ok (.sipush (-1002), 3) := by decide +kernel
theorem dX7_end_33 : decode cX7_end 33 = .ok (.ireturn, 1) := by decide +kernel
theorem dX7_end_34 : decode cX7_end 34 = .ok (.iload_n 3, 1) := by decide +kernel
theorem dX7_end_35 : decode cX7_end 35 = .ok (.ifCond .ne 15, 3) := by decide +kernel
theorem dX7_end_38 : decode cX7_end 38 = .ok (.aload_n 0, 1) := by decide +kernel
theorem dX7_end_39 : decode cX7_end 39 = .ok (.getfield 24, 3) := by decide +kernel
theorem dX7_end_42 : decode cX7_end 42 = .ok (.iload_n 1, 1) := by decide +kernel
theorem dX7_end_43 : decode cX7_end 43 = .ok (.aaload, 1) := by decide +kernel
theorem dX7_end_44 : decode cX7_end 44 = .ok (.getfield 158, 3) := by decide +kernel
theorem dX7_end_47 : decode cX7_end 47 = .ok (.iload_n 2, 1) := by decide +kernel
theorem dX7_end_48 : decode cX7_end 48 = .ok (.iaload, 1) := by decide +kernel
theorem dX7_end_49 : decode cX7_end 49 = .ok (.ireturn, 1) := by decide +kernel
theorem dX7_end_50 : decode cX7_end 50 = .ok (.aload_n 0, 1) := by decide +kernel
theorem dX7_end_51 : decode cX7_end 51 = .ok (.getfield 24, 3) := by decide +kernel
theorem dX7_end_54 : decode cX7_end 54 = .ok (.iload_n 1, 1) := by decide +kernel
theorem dX7_end_55 : decode cX7_end 55 = .ok (.aaload, 1) := by decide +kernel
theorem dX7_end_56 : decode cX7_end 56 = .ok (.getfield 158, 3) := by decide +kernel
theorem dX7_end_59 : decode cX7_end 59 = .ok (.iload_n 2, 1) := by decide +kernel
theorem dX7_end_60 : decode cX7_end 60 = .ok (.iaload, 1) := by decide +kernel
theorem dX7_end_61 : decode cX7_end 61 = .ok (.aload_n 0, 1) := by decide +kernel
theorem dX7_end_62 : decode cX7_end 62 = .ok (.getfield 18, 3) := by decide +kernel
theorem dX7_end_65 : decode cX7_end 65 = .ok (.iload_n 1, 1) := by decide +kernel
theorem dX7_end_66 : decode cX7_end 66 = .ok (.aaload, 1) := by decide +kernel
theorem dX7_end_67 : decode cX7_end 67 = .ok (.iload_n 2, 1) := by decide +kernel
theorem dX7_end_68 : decode cX7_end 68 = .ok (.invokevirtual 161, 3) := by decide +kernel
theorem dX7_end_71 : decode cX7_end 71 = .ok (.if_icmp .ge 7, 3) := by decide +kernel
theorem dX7_end_74 : decode cX7_end 74 = .ok (.iconst 1, 1) := by decide +kernel
theorem dX7_end_75 : decode cX7_end 75 = .ok (.goto 4, 3) := by decide +kernel
theorem dX7_end_78 : decode cX7_end 78 = .ok (.iconst 0, 1) := by decide +kernel
theorem dX7_end_79 : decode cX7_end 79 = .ok (.ireturn, 1) := by decide +kernel
set_option maxHeartbeats 4000000 in
set_option maxRecDepth 100000 in
theorem x_end (l : Launch) (D : va_G) (k : Nat → ClassId) (st : Nat → Nat) (lo : Nat) (a : Nat → Nat) (rk : Nat) (lfa : Int32) (n0 : Nat) (see0 : Nat) (tm0 : Nat) (g0 : Nat → Int32) (fp0 : Nat → Int32) (fl0 : Nat → Int32) (n1 : Nat) (see1 : Nat) (tm1 : Nat) (g1 : Nat → Int32) (fp1 : Nat → Int32) (fl1 : Nat → Int32) (n2 : Nat) (see2 : Nat) (tm2 : Nat) (g2 : Nat → Int32) (fp2 : Nat → Int32) (fl2 : Nat → Int32) (en0 : Nat → Int32) (en1 : Nat → Int32) (en2 : Nat → Int32) (p0 : Int32) (p1 : Int32) (p2 : Int32) (hn0 : n0 ≤ 24) (hse0 : see0 ≤ 2) (htm0 : tm0 ≤ 3) (hn1 : n1 ≤ 24) (hse1 : see1 ≤ 2) (htm1 : tm1 ≤ 3) (hn2 : n2 ≤ 24) (hse2 : see2 ≤ 2) (htm2 : tm2 ≤ 3) : CRi l D k st lo yX7_end cX7_end 4 (some .int) ({ frames := 2, cells := 0, slots := 0, locals := 44 }) [.ref (a 0), .int p0, .int p1, .int p2] [((a 0), .inr (7, [.ref (a 1), .ref (a 3), .ref (a 19), .ref (a 35), .ref (a 40), .int (nI rk), .int lfa, .ref (a 53), .ref (a 56), .ref (a 63), .ref (a 64), .ref (a 68)])), ((a 3), .inl (k 3, 3, .inr (.inr (.inr (.inr (a3 (a 4) (a 9) (a 14))))))), ((a 19), .inl (k 4, 3, .inr (.inr (.inr (.inr (a3 (a 20) (a 25) (a 30))))))), ((a 4), .inr (5, [.ref (a 5), .ref (a 6), .ref (a 7), .ref (a 8)])), ((a 5), .inl (k 1, 10, .inl (vv n0 see0 tm0 g0))), ((a 7), .inl (k 1, 24, .inl fp0)), ((a 8), .inl (k 1, 4, .inl fl0)), ((a 9), .inr (5, [.ref (a 10), .ref (a 11), .ref (a 12), .ref (a 13)])), ((a 10), .inl (k 1, 10, .inl (vv n1 see1 tm1 g1))), ((a 12), .inl (k 1, 24, .inl fp1)), ((a 13), .inl (k 1, 4, .inl fl1)), ((a 14), .inr (5, [.ref (a 15), .ref (a 16), .ref (a 17), .ref (a 18)])), ((a 15), .inl (k 1, 10, .inl (vv n2 see2 tm2 g2))), ((a 17), .inl (k 1, 24, .inl fp2)), ((a 18), .inl (k 1, 4, .inl fl2)), ((a 20), .inr (0, [.ref (a 4), .ref (a 21), .ref (a 22), .ref (a 23), .ref (a 24)])), ((a 23), .inl (k 1, 4, .inl en0)), ((a 25), .inr (0, [.ref (a 9), .ref (a 26), .ref (a 27), .ref (a 28), .ref (a 29)])), ((a 28), .inl (k 1, 4, .inl en1)), ((a 30), .inr (0, [.ref (a 14), .ref (a 31), .ref (a 32), .ref (a 33), .ref (a 34)])), ((a 33), .inl (k 1, 4, .inl en2))] (fun _ => True) := by
  intro sz
  refine Met.ofW (cc := cX7_end) (maxL := 4) (ret := (some .int)) (by decide) rfl ?_
  intro p e s m args below meth c s₁ B hml hv
  obtain ⟨rfl, hsz, hlo, hP, hK, hDL, hZ⟩ := hv
  have hx := B.exec
  have hb := B.bytes
  have hr := B.returns
  have hts := WS_ts B.pre
  have hown : s.vm.findClass RX7 = some m.cls := findClass_of_methodNamed B.named
  have hlocks := B.notSynchronized
  subst hsz
  have hA : ∀ q : Nat, s.heap.size ≤ q → (fun q : Nat => s.heap.size ≤ q) q := fun _ h => h
  have hAlo : ∀ q : Nat, (fun q : Nat => s.heap.size ≤ q) q → lo ≤ q := fun q h => Nat.le_trans hlo h
  have hS : va_S (fun q : Nat => s.heap.size ≤ q) s.heap s.heap [] := va_S.rf
  have hl := lv_entry ([.ref (a 0), .int p0, .int p1, .int p2]) (n := 4) (Nat.le_of_ble_eq_true rfl)
  rw [lg_entry_eq]
  generalize (lg_sl ([.ref (a 0), .int p0, .int p1, .int p2]) ++ List.replicate (4 - (lg_sl ([.ref (a 0), .int p0, .int p1, .int p2])).length) Slot.unset).toArray = ls at hl ⊢
  have hl : lv_has ls 4 [(0, .ref (a 0)), (1, .int p0), (2, .int p1), (3, .int p2)] := hl
  refine lv_aload_n hx hb dX7_end_0 rfl (lv_at hl 0 rfl) ?_
  refine lv_iload_n hx hb dX7_end_1 rfl (lv_at hl 1 rfl) ?_
  refine ro_i (D := D) (va_runV (As := [.int p0]) (rest := []) ⟨hx, hb, hml, hown, hts⟩ ((x_isStreet l D k st lo a rk lfa n0 see0 tm0 g0 n1 see1 tm1 g1 n2 see2 tm2 g2 p0 (by omega) (by omega) (by omega)) s.heap.size) (cwV 1 hts (gV tw_589 tw_591 tw_8 tw_79 tw_592) rfl rfl rfl (by decide +kernel) ⟨Nat.le_of_ble_eq_true rfl, Nat.le_of_ble_eq_true rfl⟩) (pV hS hAlo hlo hP hK hDL hZ [0, 1, 3, 4, 7, 8, 11, 12] (by decide) rfl (ci := 7) (q0 := 0) rfl rfl) rfl rfl hl.1 rfl (lv_room (Nat.le_of_ble_eq_true rfl)) dX7_end_2 ⟨Nat.le_of_ble_eq_true rfl, Nat.le_of_ble_eq_true rfl⟩) hS hA hP (fun r_1 H locs hw_1 hP hS => ?_)
  try dsimp only at hw_1
  rcases hw_1 with ⟨rfl, ⟨rfl, hw_1⟩ | ⟨rfl, hw_1⟩ | ⟨rfl, hw_1⟩⟩ | rfl
  · refine lv_if_ne (tgt := 12) hx hb dX7_end_5 (by decide) (fun _ => ?_) (fun h => absurd h (by decide))
    refine lv_aload_n hx hb dX7_end_12 rfl (lv_at hl 0 rfl) ?_
    refine lv_iload_n hx hb dX7_end_13 rfl (lv_at hl 1 rfl) ?_
    refine lv_iload_n hx hb dX7_end_14 rfl (lv_at hl 2 rfl) ?_
    refine ro_i (D := D) (va_runV (As := [.int 0, .int p1]) (rest := []) ⟨hx, hb, hml, hown, hts⟩ ((x_isRound_0 l D k st lo a rk lfa n0 see0 tm0 g0 p1 (by omega)) H.size) (cwV 2 hts (gV tw_613 tw_615 tw_10 tw_79 tw_616) rfl rfl rfl (by decide +kernel) ⟨Nat.le_of_ble_eq_true rfl, Nat.le_of_ble_eq_true rfl⟩) (pV hS hAlo hlo hP hK hDL hZ [0, 1, 3, 4] (by decide) rfl (ci := 7) (q0 := 0) rfl rfl) rfl rfl hl.1 rfl (lv_room (Nat.le_of_ble_eq_true rfl)) dX7_end_15 ⟨Nat.le_of_ble_eq_true rfl, Nat.le_of_ble_eq_true rfl⟩) hS hA hP (fun r_2 H locs hw_2 hP hS => ?_)
    try dsimp only at hw_2
    rcases hw_2 with ⟨rfl, ir_3, hir_3, rfl⟩ | rfl
    · refine lv_if_eq (tgt := 30) hx hb dX7_end_18 (by decide) (fun h => absurd h (by decide)) (fun _ => ?_)
      refine lv_iload_n hx hb dX7_end_21 rfl (lv_at hl 3 rfl) ?_
      refine lv_iconst (v := 0) hx hb dX7_end_22 (by decide) ?_
      refine lv_iconst (v := 1) hx hb dX7_end_23 (by decide) ?_
      refine ro_i (D := D) (va_runS (As := [.int p2, .int 0, .int 1]) (rest := []) ⟨hx, hb, hml, hown, hts⟩ ((k_isIn l D k st lo p2 0 1) H.size) (va_cwS 3 hts (gS tw_593 tw_594 tw_79 tw_595) rfl rfl rfl (by decide +kernel) ⟨Nat.le_of_ble_eq_true rfl, Nat.le_of_ble_eq_true rfl⟩) (pS hS hAlo hlo hP hK hDL hZ [] (by decide) rfl) rfl rfl hl.1 rfl (lv_room (Nat.le_of_ble_eq_true rfl)) dX7_end_24 ⟨Nat.le_of_ble_eq_true rfl, Nat.le_of_ble_eq_true rfl⟩) hS hA hP (fun r_4 H locs hw_4 hP hS => ?_)
      try dsimp only at hw_4
      rcases hw_4 with ⟨rfl, hw_4⟩ | ⟨rfl, hw_4⟩
      · refine lv_if_ne (tgt := 34) hx hb dX7_end_27 (by decide) (fun _ => ?_) (fun h => absurd h (by decide))
        refine lv_iload_n hx hb dX7_end_34 rfl (lv_at hl 3 rfl) ?_
        refine lv_if_ne (tgt := 50) hx hb dX7_end_35 (by decide) (fun c_5 => ?_) (fun c_5 => ?_)
        · refine lv_aload_n hx hb dX7_end_50 rfl (lv_at hl 0 rfl) ?_
          refine va_get (D := D) (ci := 7) (v := .ref (a 19)) (C := RX7) (T := TX7) (N := 12) hx hb hts inX7 hown hK hP 0 rfl rfl 2 (by decide) (hts _ tw_307) (fun _ h9 => h9) rfl dX7_end_51 ?_
          refine lv_iload_n hx hb dX7_end_54 rfl (lv_at hl 1 rfl) ?_
          refine va_aldq hx hb hK hP 2 4 rfl rfl (by unfold vp_in; decide) dX7_end_55 ?_
          refine lv_tr (y := .ref (a 20)) rfl ?_
          refine va_get (D := D) (ci := 0) (v := .ref (a 23)) (C := RX0) (T := TX0) (N := 5) hx hb hts inX0 hown hK hP 15 rfl rfl 3 (by decide) (hts _ tw_271) (fun _ h9 => h9) rfl dX7_end_56 ?_
          refine lv_iload_n hx hb dX7_end_59 rfl (lv_at hl 2 rfl) ?_
          refine va_iald hx hb hK hP 16 1 rfl rfl (vp_in_nI (by omega) (by decide)) dX7_end_60 ?_
          refine lv_ti (y := (en0 ir_3)) (by rw [nI_clamp (by omega)]) ?_
          refine lv_aload_n hx hb dX7_end_61 rfl (lv_at hl 0 rfl) ?_
          refine va_get (D := D) (ci := 7) (v := .ref (a 3)) (C := RX7) (T := TX7) (N := 12) hx hb hts inX7 hown hK hP 0 rfl rfl 1 (by decide) (hts _ tw_306) (fun _ h9 => h9) rfl dX7_end_62 ?_
          refine lv_iload_n hx hb dX7_end_65 rfl (lv_at hl 1 rfl) ?_
          refine va_aldq hx hb hK hP 1 3 rfl rfl (by unfold vp_in; decide) dX7_end_66 ?_
          refine lv_tr (y := .ref (a 4)) rfl ?_
          refine lv_iload_n hx hb dX7_end_67 rfl (lv_at hl 2 rfl) ?_
          refine ro_i (D := D) (va_runV (As := [.int (nI ir_3)]) (rest := [.int (en0 ir_3)]) ⟨hx, hb, hml, hown, hts⟩ ((x_garageOf l D k st lo (a 4) (a 5) (a 6) (a 7) (a 8) n0 see0 tm0 g0 fl0 ir_3 (by omega)) H.size) (cwV 1 hts (gV tw_649 tw_521 tw_522 tw_81 tw_523) rfl rfl rfl (by decide +kernel) ⟨Nat.le_of_ble_eq_true rfl, Nat.le_of_ble_eq_true rfl⟩) (pV hS hAlo hlo hP hK hDL hZ [3, 4, 6] (by decide) rfl (ci := 5) (q0 := 0) rfl rfl) rfl rfl hl.1 rfl (lv_room (Nat.le_of_ble_eq_true rfl)) dX7_end_68 ⟨Nat.le_of_ble_eq_true rfl, Nat.le_of_ble_eq_true rfl⟩) hS hA hP (fun r_6 H locs hw_6 hP hS => ?_)
          try dsimp only at hw_6
          refine lv_icmp_ge (tgt := 78) hx hb dX7_end_71 (by decide) (fun c_7 => ?_) (fun c_7 => ?_)
          · refine lv_iconst (v := 0) hx hb dX7_end_78 (by decide) ?_
            exact W.iret (v := 0) hx hb hr (fun t ht hW => ⟨⟨0, (), rfl, trivial, trivial⟩, hS.F ht⟩) hS.2.2 dX7_end_79
          · refine lv_iconst (v := 1) hx hb dX7_end_74 (by decide) ?_
            refine lv_goto (tgt := 79) hx hb dX7_end_75 (by decide) ?_
            exact W.iret (v := 1) hx hb hr (fun t ht hW => ⟨⟨1, (), rfl, trivial, trivial⟩, hS.F ht⟩) hS.2.2 dX7_end_79
        · refine lv_aload_n hx hb dX7_end_38 rfl (lv_at hl 0 rfl) ?_
          refine va_get (D := D) (ci := 7) (v := .ref (a 19)) (C := RX7) (T := TX7) (N := 12) hx hb hts inX7 hown hK hP 0 rfl rfl 2 (by decide) (hts _ tw_307) (fun _ h9 => h9) rfl dX7_end_39 ?_
          refine lv_iload_n hx hb dX7_end_42 rfl (lv_at hl 1 rfl) ?_
          refine va_aldq hx hb hK hP 2 4 rfl rfl (by unfold vp_in; decide) dX7_end_43 ?_
          refine lv_tr (y := .ref (a 20)) rfl ?_
          refine va_get (D := D) (ci := 0) (v := .ref (a 23)) (C := RX0) (T := TX0) (N := 5) hx hb hts inX0 hown hK hP 15 rfl rfl 3 (by decide) (hts _ tw_271) (fun _ h9 => h9) rfl dX7_end_44 ?_
          refine lv_iload_n hx hb dX7_end_47 rfl (lv_at hl 2 rfl) ?_
          refine va_iald hx hb hK hP 16 1 rfl rfl (vp_in_nI (by omega) (by decide)) dX7_end_48 ?_
          refine lv_ti (y := (en0 ir_3)) (by rw [nI_clamp (by omega)]) ?_
          exact W.iret (v := (en0 ir_3)) hx hb hr (fun t ht hW => ⟨⟨(en0 ir_3), (), rfl, trivial, trivial⟩, hS.F ht⟩) hS.2.2 dX7_end_49
      · refine lv_if_ne (tgt := 34) hx hb dX7_end_27 (by decide) (fun h => absurd (by decide) h) (fun _ => ?_)
        refine lv_sipush (v := (-1002)) hx hb dX7_end_30 (by decide) ?_
        exact W.iret (v := (-1002)) hx hb hr (fun t ht hW => ⟨⟨(-1002), (), rfl, trivial, trivial⟩, hS.F ht⟩) hS.2.2 dX7_end_33
    · refine lv_if_eq (tgt := 30) hx hb dX7_end_18 (by decide) (fun _ => ?_) (fun h => absurd (by decide) h)
      refine lv_sipush (v := (-1002)) hx hb dX7_end_30 (by decide) ?_
      exact W.iret (v := (-1002)) hx hb hr (fun t ht hW => ⟨⟨(-1002), (), rfl, trivial, trivial⟩, hS.F ht⟩) hS.2.2 dX7_end_33
  · refine lv_if_ne (tgt := 12) hx hb dX7_end_5 (by decide) (fun _ => ?_) (fun h => absurd h (by decide))
    refine lv_aload_n hx hb dX7_end_12 rfl (lv_at hl 0 rfl) ?_
    refine lv_iload_n hx hb dX7_end_13 rfl (lv_at hl 1 rfl) ?_
    refine lv_iload_n hx hb dX7_end_14 rfl (lv_at hl 2 rfl) ?_
    refine ro_i (D := D) (va_runV (As := [.int 1, .int p1]) (rest := []) ⟨hx, hb, hml, hown, hts⟩ ((x_isRound_1 l D k st lo a rk lfa n1 see1 tm1 g1 p1 (by omega)) H.size) (cwV 2 hts (gV tw_613 tw_615 tw_10 tw_79 tw_616) rfl rfl rfl (by decide +kernel) ⟨Nat.le_of_ble_eq_true rfl, Nat.le_of_ble_eq_true rfl⟩) (pV hS hAlo hlo hP hK hDL hZ [0, 1, 7, 8] (by decide) rfl (ci := 7) (q0 := 0) rfl rfl) rfl rfl hl.1 rfl (lv_room (Nat.le_of_ble_eq_true rfl)) dX7_end_15 ⟨Nat.le_of_ble_eq_true rfl, Nat.le_of_ble_eq_true rfl⟩) hS hA hP (fun r_8 H locs hw_8 hP hS => ?_)
    try dsimp only at hw_8
    rcases hw_8 with ⟨rfl, ir_9, hir_9, rfl⟩ | rfl
    · refine lv_if_eq (tgt := 30) hx hb dX7_end_18 (by decide) (fun h => absurd h (by decide)) (fun _ => ?_)
      refine lv_iload_n hx hb dX7_end_21 rfl (lv_at hl 3 rfl) ?_
      refine lv_iconst (v := 0) hx hb dX7_end_22 (by decide) ?_
      refine lv_iconst (v := 1) hx hb dX7_end_23 (by decide) ?_
      refine ro_i (D := D) (va_runS (As := [.int p2, .int 0, .int 1]) (rest := []) ⟨hx, hb, hml, hown, hts⟩ ((k_isIn l D k st lo p2 0 1) H.size) (va_cwS 3 hts (gS tw_593 tw_594 tw_79 tw_595) rfl rfl rfl (by decide +kernel) ⟨Nat.le_of_ble_eq_true rfl, Nat.le_of_ble_eq_true rfl⟩) (pS hS hAlo hlo hP hK hDL hZ [] (by decide) rfl) rfl rfl hl.1 rfl (lv_room (Nat.le_of_ble_eq_true rfl)) dX7_end_24 ⟨Nat.le_of_ble_eq_true rfl, Nat.le_of_ble_eq_true rfl⟩) hS hA hP (fun r_10 H locs hw_10 hP hS => ?_)
      try dsimp only at hw_10
      rcases hw_10 with ⟨rfl, hw_10⟩ | ⟨rfl, hw_10⟩
      · refine lv_if_ne (tgt := 34) hx hb dX7_end_27 (by decide) (fun _ => ?_) (fun h => absurd h (by decide))
        refine lv_iload_n hx hb dX7_end_34 rfl (lv_at hl 3 rfl) ?_
        refine lv_if_ne (tgt := 50) hx hb dX7_end_35 (by decide) (fun c_11 => ?_) (fun c_11 => ?_)
        · refine lv_aload_n hx hb dX7_end_50 rfl (lv_at hl 0 rfl) ?_
          refine va_get (D := D) (ci := 7) (v := .ref (a 19)) (C := RX7) (T := TX7) (N := 12) hx hb hts inX7 hown hK hP 0 rfl rfl 2 (by decide) (hts _ tw_307) (fun _ h9 => h9) rfl dX7_end_51 ?_
          refine lv_iload_n hx hb dX7_end_54 rfl (lv_at hl 1 rfl) ?_
          refine va_aldq hx hb hK hP 2 4 rfl rfl (by unfold vp_in; decide) dX7_end_55 ?_
          refine lv_tr (y := .ref (a 25)) rfl ?_
          refine va_get (D := D) (ci := 0) (v := .ref (a 28)) (C := RX0) (T := TX0) (N := 5) hx hb hts inX0 hown hK hP 17 rfl rfl 3 (by decide) (hts _ tw_271) (fun _ h9 => h9) rfl dX7_end_56 ?_
          refine lv_iload_n hx hb dX7_end_59 rfl (lv_at hl 2 rfl) ?_
          refine va_iald hx hb hK hP 18 1 rfl rfl (vp_in_nI (by omega) (by decide)) dX7_end_60 ?_
          refine lv_ti (y := (en1 ir_9)) (by rw [nI_clamp (by omega)]) ?_
          refine lv_aload_n hx hb dX7_end_61 rfl (lv_at hl 0 rfl) ?_
          refine va_get (D := D) (ci := 7) (v := .ref (a 3)) (C := RX7) (T := TX7) (N := 12) hx hb hts inX7 hown hK hP 0 rfl rfl 1 (by decide) (hts _ tw_306) (fun _ h9 => h9) rfl dX7_end_62 ?_
          refine lv_iload_n hx hb dX7_end_65 rfl (lv_at hl 1 rfl) ?_
          refine va_aldq hx hb hK hP 1 3 rfl rfl (by unfold vp_in; decide) dX7_end_66 ?_
          refine lv_tr (y := .ref (a 9)) rfl ?_
          refine lv_iload_n hx hb dX7_end_67 rfl (lv_at hl 2 rfl) ?_
          refine ro_i (D := D) (va_runV (As := [.int (nI ir_9)]) (rest := [.int (en1 ir_9)]) ⟨hx, hb, hml, hown, hts⟩ ((x_garageOf l D k st lo (a 9) (a 10) (a 11) (a 12) (a 13) n1 see1 tm1 g1 fl1 ir_9 (by omega)) H.size) (cwV 1 hts (gV tw_649 tw_521 tw_522 tw_81 tw_523) rfl rfl rfl (by decide +kernel) ⟨Nat.le_of_ble_eq_true rfl, Nat.le_of_ble_eq_true rfl⟩) (pV hS hAlo hlo hP hK hDL hZ [7, 8, 10] (by decide) rfl (ci := 5) (q0 := 0) rfl rfl) rfl rfl hl.1 rfl (lv_room (Nat.le_of_ble_eq_true rfl)) dX7_end_68 ⟨Nat.le_of_ble_eq_true rfl, Nat.le_of_ble_eq_true rfl⟩) hS hA hP (fun r_12 H locs hw_12 hP hS => ?_)
          try dsimp only at hw_12
          refine lv_icmp_ge (tgt := 78) hx hb dX7_end_71 (by decide) (fun c_13 => ?_) (fun c_13 => ?_)
          · refine lv_iconst (v := 0) hx hb dX7_end_78 (by decide) ?_
            exact W.iret (v := 0) hx hb hr (fun t ht hW => ⟨⟨0, (), rfl, trivial, trivial⟩, hS.F ht⟩) hS.2.2 dX7_end_79
          · refine lv_iconst (v := 1) hx hb dX7_end_74 (by decide) ?_
            refine lv_goto (tgt := 79) hx hb dX7_end_75 (by decide) ?_
            exact W.iret (v := 1) hx hb hr (fun t ht hW => ⟨⟨1, (), rfl, trivial, trivial⟩, hS.F ht⟩) hS.2.2 dX7_end_79
        · refine lv_aload_n hx hb dX7_end_38 rfl (lv_at hl 0 rfl) ?_
          refine va_get (D := D) (ci := 7) (v := .ref (a 19)) (C := RX7) (T := TX7) (N := 12) hx hb hts inX7 hown hK hP 0 rfl rfl 2 (by decide) (hts _ tw_307) (fun _ h9 => h9) rfl dX7_end_39 ?_
          refine lv_iload_n hx hb dX7_end_42 rfl (lv_at hl 1 rfl) ?_
          refine va_aldq hx hb hK hP 2 4 rfl rfl (by unfold vp_in; decide) dX7_end_43 ?_
          refine lv_tr (y := .ref (a 25)) rfl ?_
          refine va_get (D := D) (ci := 0) (v := .ref (a 28)) (C := RX0) (T := TX0) (N := 5) hx hb hts inX0 hown hK hP 17 rfl rfl 3 (by decide) (hts _ tw_271) (fun _ h9 => h9) rfl dX7_end_44 ?_
          refine lv_iload_n hx hb dX7_end_47 rfl (lv_at hl 2 rfl) ?_
          refine va_iald hx hb hK hP 18 1 rfl rfl (vp_in_nI (by omega) (by decide)) dX7_end_48 ?_
          refine lv_ti (y := (en1 ir_9)) (by rw [nI_clamp (by omega)]) ?_
          exact W.iret (v := (en1 ir_9)) hx hb hr (fun t ht hW => ⟨⟨(en1 ir_9), (), rfl, trivial, trivial⟩, hS.F ht⟩) hS.2.2 dX7_end_49
      · refine lv_if_ne (tgt := 34) hx hb dX7_end_27 (by decide) (fun h => absurd (by decide) h) (fun _ => ?_)
        refine lv_sipush (v := (-1002)) hx hb dX7_end_30 (by decide) ?_
        exact W.iret (v := (-1002)) hx hb hr (fun t ht hW => ⟨⟨(-1002), (), rfl, trivial, trivial⟩, hS.F ht⟩) hS.2.2 dX7_end_33
    · refine lv_if_eq (tgt := 30) hx hb dX7_end_18 (by decide) (fun _ => ?_) (fun h => absurd (by decide) h)
      refine lv_sipush (v := (-1002)) hx hb dX7_end_30 (by decide) ?_
      exact W.iret (v := (-1002)) hx hb hr (fun t ht hW => ⟨⟨(-1002), (), rfl, trivial, trivial⟩, hS.F ht⟩) hS.2.2 dX7_end_33
  · refine lv_if_ne (tgt := 12) hx hb dX7_end_5 (by decide) (fun _ => ?_) (fun h => absurd h (by decide))
    refine lv_aload_n hx hb dX7_end_12 rfl (lv_at hl 0 rfl) ?_
    refine lv_iload_n hx hb dX7_end_13 rfl (lv_at hl 1 rfl) ?_
    refine lv_iload_n hx hb dX7_end_14 rfl (lv_at hl 2 rfl) ?_
    refine ro_i (D := D) (va_runV (As := [.int 2, .int p1]) (rest := []) ⟨hx, hb, hml, hown, hts⟩ ((x_isRound_2 l D k st lo a rk lfa n2 see2 tm2 g2 p1 (by omega)) H.size) (cwV 2 hts (gV tw_613 tw_615 tw_10 tw_79 tw_616) rfl rfl rfl (by decide +kernel) ⟨Nat.le_of_ble_eq_true rfl, Nat.le_of_ble_eq_true rfl⟩) (pV hS hAlo hlo hP hK hDL hZ [0, 1, 11, 12] (by decide) rfl (ci := 7) (q0 := 0) rfl rfl) rfl rfl hl.1 rfl (lv_room (Nat.le_of_ble_eq_true rfl)) dX7_end_15 ⟨Nat.le_of_ble_eq_true rfl, Nat.le_of_ble_eq_true rfl⟩) hS hA hP (fun r_14 H locs hw_14 hP hS => ?_)
    try dsimp only at hw_14
    rcases hw_14 with ⟨rfl, ir_15, hir_15, rfl⟩ | rfl
    · refine lv_if_eq (tgt := 30) hx hb dX7_end_18 (by decide) (fun h => absurd h (by decide)) (fun _ => ?_)
      refine lv_iload_n hx hb dX7_end_21 rfl (lv_at hl 3 rfl) ?_
      refine lv_iconst (v := 0) hx hb dX7_end_22 (by decide) ?_
      refine lv_iconst (v := 1) hx hb dX7_end_23 (by decide) ?_
      refine ro_i (D := D) (va_runS (As := [.int p2, .int 0, .int 1]) (rest := []) ⟨hx, hb, hml, hown, hts⟩ ((k_isIn l D k st lo p2 0 1) H.size) (va_cwS 3 hts (gS tw_593 tw_594 tw_79 tw_595) rfl rfl rfl (by decide +kernel) ⟨Nat.le_of_ble_eq_true rfl, Nat.le_of_ble_eq_true rfl⟩) (pS hS hAlo hlo hP hK hDL hZ [] (by decide) rfl) rfl rfl hl.1 rfl (lv_room (Nat.le_of_ble_eq_true rfl)) dX7_end_24 ⟨Nat.le_of_ble_eq_true rfl, Nat.le_of_ble_eq_true rfl⟩) hS hA hP (fun r_16 H locs hw_16 hP hS => ?_)
      try dsimp only at hw_16
      rcases hw_16 with ⟨rfl, hw_16⟩ | ⟨rfl, hw_16⟩
      · refine lv_if_ne (tgt := 34) hx hb dX7_end_27 (by decide) (fun _ => ?_) (fun h => absurd h (by decide))
        refine lv_iload_n hx hb dX7_end_34 rfl (lv_at hl 3 rfl) ?_
        refine lv_if_ne (tgt := 50) hx hb dX7_end_35 (by decide) (fun c_17 => ?_) (fun c_17 => ?_)
        · refine lv_aload_n hx hb dX7_end_50 rfl (lv_at hl 0 rfl) ?_
          refine va_get (D := D) (ci := 7) (v := .ref (a 19)) (C := RX7) (T := TX7) (N := 12) hx hb hts inX7 hown hK hP 0 rfl rfl 2 (by decide) (hts _ tw_307) (fun _ h9 => h9) rfl dX7_end_51 ?_
          refine lv_iload_n hx hb dX7_end_54 rfl (lv_at hl 1 rfl) ?_
          refine va_aldq hx hb hK hP 2 4 rfl rfl (by unfold vp_in; decide) dX7_end_55 ?_
          refine lv_tr (y := .ref (a 30)) rfl ?_
          refine va_get (D := D) (ci := 0) (v := .ref (a 33)) (C := RX0) (T := TX0) (N := 5) hx hb hts inX0 hown hK hP 19 rfl rfl 3 (by decide) (hts _ tw_271) (fun _ h9 => h9) rfl dX7_end_56 ?_
          refine lv_iload_n hx hb dX7_end_59 rfl (lv_at hl 2 rfl) ?_
          refine va_iald hx hb hK hP 20 1 rfl rfl (vp_in_nI (by omega) (by decide)) dX7_end_60 ?_
          refine lv_ti (y := (en2 ir_15)) (by rw [nI_clamp (by omega)]) ?_
          refine lv_aload_n hx hb dX7_end_61 rfl (lv_at hl 0 rfl) ?_
          refine va_get (D := D) (ci := 7) (v := .ref (a 3)) (C := RX7) (T := TX7) (N := 12) hx hb hts inX7 hown hK hP 0 rfl rfl 1 (by decide) (hts _ tw_306) (fun _ h9 => h9) rfl dX7_end_62 ?_
          refine lv_iload_n hx hb dX7_end_65 rfl (lv_at hl 1 rfl) ?_
          refine va_aldq hx hb hK hP 1 3 rfl rfl (by unfold vp_in; decide) dX7_end_66 ?_
          refine lv_tr (y := .ref (a 14)) rfl ?_
          refine lv_iload_n hx hb dX7_end_67 rfl (lv_at hl 2 rfl) ?_
          refine ro_i (D := D) (va_runV (As := [.int (nI ir_15)]) (rest := [.int (en2 ir_15)]) ⟨hx, hb, hml, hown, hts⟩ ((x_garageOf l D k st lo (a 14) (a 15) (a 16) (a 17) (a 18) n2 see2 tm2 g2 fl2 ir_15 (by omega)) H.size) (cwV 1 hts (gV tw_649 tw_521 tw_522 tw_81 tw_523) rfl rfl rfl (by decide +kernel) ⟨Nat.le_of_ble_eq_true rfl, Nat.le_of_ble_eq_true rfl⟩) (pV hS hAlo hlo hP hK hDL hZ [11, 12, 14] (by decide) rfl (ci := 5) (q0 := 0) rfl rfl) rfl rfl hl.1 rfl (lv_room (Nat.le_of_ble_eq_true rfl)) dX7_end_68 ⟨Nat.le_of_ble_eq_true rfl, Nat.le_of_ble_eq_true rfl⟩) hS hA hP (fun r_18 H locs hw_18 hP hS => ?_)
          try dsimp only at hw_18
          refine lv_icmp_ge (tgt := 78) hx hb dX7_end_71 (by decide) (fun c_19 => ?_) (fun c_19 => ?_)
          · refine lv_iconst (v := 0) hx hb dX7_end_78 (by decide) ?_
            exact W.iret (v := 0) hx hb hr (fun t ht hW => ⟨⟨0, (), rfl, trivial, trivial⟩, hS.F ht⟩) hS.2.2 dX7_end_79
          · refine lv_iconst (v := 1) hx hb dX7_end_74 (by decide) ?_
            refine lv_goto (tgt := 79) hx hb dX7_end_75 (by decide) ?_
            exact W.iret (v := 1) hx hb hr (fun t ht hW => ⟨⟨1, (), rfl, trivial, trivial⟩, hS.F ht⟩) hS.2.2 dX7_end_79
        · refine lv_aload_n hx hb dX7_end_38 rfl (lv_at hl 0 rfl) ?_
          refine va_get (D := D) (ci := 7) (v := .ref (a 19)) (C := RX7) (T := TX7) (N := 12) hx hb hts inX7 hown hK hP 0 rfl rfl 2 (by decide) (hts _ tw_307) (fun _ h9 => h9) rfl dX7_end_39 ?_
          refine lv_iload_n hx hb dX7_end_42 rfl (lv_at hl 1 rfl) ?_
          refine va_aldq hx hb hK hP 2 4 rfl rfl (by unfold vp_in; decide) dX7_end_43 ?_
          refine lv_tr (y := .ref (a 30)) rfl ?_
          refine va_get (D := D) (ci := 0) (v := .ref (a 33)) (C := RX0) (T := TX0) (N := 5) hx hb hts inX0 hown hK hP 19 rfl rfl 3 (by decide) (hts _ tw_271) (fun _ h9 => h9) rfl dX7_end_44 ?_
          refine lv_iload_n hx hb dX7_end_47 rfl (lv_at hl 2 rfl) ?_
          refine va_iald hx hb hK hP 20 1 rfl rfl (vp_in_nI (by omega) (by decide)) dX7_end_48 ?_
          refine lv_ti (y := (en2 ir_15)) (by rw [nI_clamp (by omega)]) ?_
          exact W.iret (v := (en2 ir_15)) hx hb hr (fun t ht hW => ⟨⟨(en2 ir_15), (), rfl, trivial, trivial⟩, hS.F ht⟩) hS.2.2 dX7_end_49
      · refine lv_if_ne (tgt := 34) hx hb dX7_end_27 (by decide) (fun h => absurd (by decide) h) (fun _ => ?_)
        refine lv_sipush (v := (-1002)) hx hb dX7_end_30 (by decide) ?_
        exact W.iret (v := (-1002)) hx hb hr (fun t ht hW => ⟨⟨(-1002), (), rfl, trivial, trivial⟩, hS.F ht⟩) hS.2.2 dX7_end_33
    · refine lv_if_eq (tgt := 30) hx hb dX7_end_18 (by decide) (fun _ => ?_) (fun h => absurd (by decide) h)
      refine lv_sipush (v := (-1002)) hx hb dX7_end_30 (by decide) ?_
      exact W.iret (v := (-1002)) hx hb hr (fun t ht hW => ⟨⟨(-1002), (), rfl, trivial, trivial⟩, hS.F ht⟩) hS.2.2 dX7_end_33
  · refine lv_if_ne (tgt := 12) hx hb dX7_end_5 (by decide) (fun h => absurd (by decide) h) (fun _ => ?_)
    refine lv_sipush (v := (-1001)) hx hb dX7_end_8 (by decide) ?_
    exact W.iret (v := (-1001)) hx hb hr (fun t ht hW => ⟨⟨(-1001), (), rfl, trivial, trivial⟩, hS.F ht⟩) hS.2.2 dX7_end_11


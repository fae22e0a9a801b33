theorem dX7_takes_0 : decode cX7_takes 0 = .ok (.aload_n 0, 1) := by decide +kernel
theorem dX7_takes_1 : decode cX7_takes 1 = .ok (.iload_n 1, 1) := by decide +kernel
theorem dX7_takes_2 : decode cX7_takes 2 = .ok (.iload_n 2, 1) := by decide +kernel
theorem dX7_takes_3 : decode cX7_takes 3 = .ok (.iload_n 3, 1) := by decide +kernel
theorem dX7_takes_4 : decode cX7_takes 4 = .ok (.iload 4, 2) := by decide +kernel
theorem dX7_takes_6 : decode cX7_takes 6 = .ok (.invokevirtual 141, 3) := by decide +kernel
theorem dX7_takes_9 : decode cX7_takes 9 = .ok (.istore 5, 2) := by decide +kernel
theorem dX7_takes_11 : decode cX7_takes 11 = .ok (.iload 5, 2) := by decide +kernel
theorem dX7_takes_13 : decode cX7_takes 13 = .ok (.ifCond .eq 6, 3) := by decide +kernel
theorem dX7_takes_16 : decode cX7_takes 16 = .ok (.iload 5, 2) := by decide +kernel
theorem dX7_takes_18 : decode cX7_takes 18 = .ok (.ireturn, 1) := by decide +kernel
theorem dX7_takes_19 : decode cX7_takes 19 = .ok (.iload 4, 2) := by decide +kernel
theorem dX7_takes_21 : decode cX7_takes 21 = .ok (.iconst 1, 1) := by decide +kernel
theorem dX7_takes_22 : decode cX7_takes 22 = .ok (.iand, 1) := by decide +kernel
theorem dX7_takes_23 : decode cX7_takes 23 = .ok (.ifCond .ne 7, 3) := by decide +kernel
theorem dX7_takes_26 : decode cX7_takes 26 = .ok (.sipush (-1003), 3) := by decide +kernel
theorem dX7_takes_29 : decode cX7_takes 29 = .ok (.ireturn, 1) := by decide +kernel
theorem dX7_takes_30 : decode cX7_takes 30 = .ok (.aload_n 0, 1) := by decide +kernel
theorem dX7_takes_31 : decode cX7_takes 31 = .ok (.getfield 24, 3) := by decide +kernel
theorem dX7_takes_34 : decode cX7_takes 34 = .ok (.iload_n 1, 1) := by decide +kernel
theorem dX7_takes_35 : decode cX7_takes 35 = .ok (.aaload, 1) := by decide +kernel
theorem dX7_takes_36 : decode cX7_takes 36 = .ok (.iload_n 2, 1) := by decide +kernel
theorem dX7_takes_37 : decode cX7_takes 37 = .ok (.iload_n 3, 1) := by decide +kernel
theorem dX7_takes_38 : decode cX7_takes 38 = .ok (.iload 4, 2) := by decide +kernel
theorem dX7_takes_40 : decode cX7_takes 40 = .ok (.invokevirtual 152, 3) := by decide +kernel
theorem dX7_takes_43 : decode cX7_takes 43 = .ok (.ifCond .eq 7, 3) := by decide +kernel
theorem dX7_takes_46 : decode cX7_takes 46 = .ok (.iconst 1, 1) := by decide +kernel
theorem dX7_takes_47 : decode cX7_takes 47 = .ok (.goto 4, 3) := by decide +kernel
theorem dX7_takes_50 : decode cX7_takes 50 = .ok (.iconst 0, 1) := by decide +kernel
theorem dX7_takes_51 : decode cX7_takes 51 = .ok (.ireturn, 1) := by decide +kernel
set_option maxHeartbeats 4000000 in
set_option maxRecDepth 100000 in
theorem x_takes (l : Launch) (D : va_G) (k : Nat → ClassId) (st : Nat → Nat) (lo : Nat) (a : Nat → Nat) (rk : Nat) (lfa : Int32) (n0 : Nat) (see0 : Nat) (tm0 : Nat) (g0 : Nat → Int32) (fp0 : Nat → Int32) (fl0 : Nat → Int32) (n1 : Nat) (see1 : Nat) (tm1 : Nat) (g1 : Nat → Int32) (fp1 : Nat → Int32) (fl1 : Nat → Int32) (n2 : Nat) (see2 : Nat) (tm2 : Nat) (g2 : Nat → Int32) (fp2 : Nat → Int32) (fl2 : Nat → Int32) (on0 : Nat → Int32) (on1 : Nat → Int32) (on2 : Nat → Int32) (p0 : Int32) (p1 : Int32) (p2 : Int32) (p3 : Int32) (hn0 : n0 ≤ 24) (hse0 : see0 ≤ 2) (htm0 : tm0 ≤ 3) (hn1 : n1 ≤ 24) (hse1 : see1 ≤ 2) (htm1 : tm1 ≤ 3) (hn2 : n2 ≤ 24) (hse2 : see2 ≤ 2) (htm2 : tm2 ≤ 3) : CRi l D k st lo yX7_takes cX7_takes 6 (some .int) ({ frames := 4, cells := 0, slots := 0, locals := 106 }) [.ref (a 0), .int p0, .int p1, .int p2, .int p3] [((a 0), .inr (7, (fX7 (a 1) (a 3) (a 19) (a 35) (a 40) (nI rk) lfa (a 53) (a 56) (a 63) (a 64) (a 68)))), ((a 3), .inl (k 3, 3, .inr (.inr (.inr (.inr (a3 (a 4) (a 9) (a 14))))))), ((a 19), .inl (k 4, 3, .inr (.inr (.inr (.inr (a3 (a 20) (a 25) (a 30))))))), ((a 4), .inr (5, (fX5 (a 5) (a 6) (a 7) (a 8)))), (aI k (a 5) 10 (vv n0 see0 tm0 g0)), (aI k (a 7) 24 fp0), (aI k (a 8) 4 fl0), ((a 9), .inr (5, (fX5 (a 10) (a 11) (a 12) (a 13)))), (aI k (a 10) 10 (vv n1 see1 tm1 g1)), (aI k (a 12) 24 fp1), (aI k (a 13) 4 fl1), ((a 14), .inr (5, (fX5 (a 15) (a 16) (a 17) (a 18)))), (aI k (a 15) 10 (vv n2 see2 tm2 g2)), (aI k (a 17) 24 fp2), (aI k (a 18) 4 fl2), ((a 20), .inr (0, (fX0 (a 4) (a 21) (a 22) (a 23) (a 24)))), (aI k (a 21) 768 on0), ((a 25), .inr (0, (fX0 (a 9) (a 26) (a 27) (a 28) (a 29)))), (aI k (a 26) 768 on1), ((a 30), .inr (0, (fX0 (a 14) (a 31) (a 32) (a 33) (a 34)))), (aI k (a 31) 768 on2)] (fun _ => True) := by
  intro sz
  refine Met.ofW (cc := cX7_takes) (maxL := 6) (ret := (some .int)) (by decide) rfl ?_
  intro p e s m args below meth c s₁ B hml hv
  obtain ⟨rfl, hsz, hlo, hP, hK, hDL, hZ⟩ := hv
  have hx := B.exec
  have hb := B.bytes
  have hr := B.returns
  have hts := WS_ts B.pre
  have hown : s.vm.findClass RX7 = some m.cls := findClass_of_methodNamed B.named
  have hlocks := B.notSynchronized
  subst hsz
  have hA : ∀ q : Nat, s.heap.size ≤ q → (fun q : Nat => s.heap.size ≤ q) q := fun _ h => h
  have hAlo : ∀ q : Nat, (fun q : Nat => s.heap.size ≤ q) q → lo ≤ q := fun q h => Nat.le_trans hlo h
  have hS : va_S (fun q : Nat => s.heap.size ≤ q) s.heap s.heap [] := va_S.rf
  have hl := lv_entry ([.ref (a 0), .int p0, .int p1, .int p2, .int p3]) (n := 6) (Nat.le_of_ble_eq_true rfl)
  rw [lg_entry_eq]
  generalize (lg_sl ([.ref (a 0), .int p0, .int p1, .int p2, .int p3]) ++ List.replicate (6 - (lg_sl ([.ref (a 0), .int p0, .int p1, .int p2, .int p3])).length) Slot.unset).toArray = ls at hl ⊢
  have hl : lv_has ls 6 [(0, .ref (a 0)), (1, .int p0), (2, .int p1), (3, .int p2), (4, .int p3)] := hl
  refine lv_aload_n hx hb dX7_takes_0 rfl (lv_at hl 0 rfl) ?_
  refine lv_iload_n hx hb dX7_takes_1 rfl (lv_at hl 1 rfl) ?_
  refine lv_iload_n hx hb dX7_takes_2 rfl (lv_at hl 2 rfl) ?_
  refine lv_iload_n hx hb dX7_takes_3 rfl (lv_at hl 3 rfl) ?_
  refine lv_iload hx hb dX7_takes_4 (lv_at hl 4 rfl) ?_
  refine ro_i (D := D) (va_runV (As := [.int p0, .int p1, .int p2, .int p3]) (rest := []) ⟨hx, hb, hml, hown, hts⟩ ((x_refuseSight l D k st lo a rk lfa n0 see0 tm0 g0 n1 see1 tm1 g1 n2 see2 tm2 g2 p0 p1 p2 p3 (by omega) (by omega) (by omega) (by omega) (by omega) (by omega) (by omega) (by omega) (by omega)) s.heap.size) (cwV 4 hts (gV tw_622 tw_624 tw_11 tw_79 tw_625) rfl rfl rfl (by decide +kernel) ⟨Nat.le_of_ble_eq_true rfl, Nat.le_of_ble_eq_true rfl⟩) (pV hS hAlo hlo hP hK hDL hZ [0, 1, 3, 4, 7, 8, 11, 12] (by decide) rfl (ci := 7) (q := (RX7, TX7, 12)) (q0 := 0) rfl rfl) rfl rfl hl.1 rfl (lv_room (Nat.le_of_ble_eq_true rfl)) dX7_takes_6 ⟨Nat.le_of_ble_eq_true rfl, Nat.le_of_ble_eq_true rfl⟩) hS hA hP (fun r_1 H locs hw_1 hP hS => ?_)
  try dsimp only at hw_1
  rcases hw_1 with ⟨rfl, ⟨rfl, ir_2, id_2, ig_2, hir_2, hid_2, hig_2, rfl, rfl, rfl⟩ | ⟨rfl, ir_2, id_2, ig_2, hir_2, hid_2, hig_2, rfl, rfl, rfl⟩ | ⟨rfl, ir_2, id_2, ig_2, hir_2, hid_2, hig_2, rfl, rfl, rfl⟩⟩ | rfl | rfl
  · refine lv_istore (lv' := [(5, .int 0), (0, .ref (a 0)), (1, .int 0), (2, .int (nI ir_2)), (3, .int (nI id_2)), (4, .int (nI ig_2))]) hx hb dX7_takes_9 hl (by decide) rfl (fun ls hl => ?_)
    refine lv_iload hx hb dX7_takes_11 (lv_at hl 0 rfl) ?_
    refine lv_if_eq (tgt := 19) hx hb dX7_takes_13 (by decide) (fun _ => ?_) (fun h => absurd (by decide) h)
    refine lv_iload hx hb dX7_takes_19 (lv_at hl 5 rfl) ?_
    refine lv_iconst (v := 1) hx hb dX7_takes_21 (by decide) ?_
    refine lv_iand hx hb dX7_takes_22 ?_
    refine lv_topi (fun x_3 ex_3 => ?_)
    refine lv_if_ne (tgt := 30) hx hb dX7_takes_23 (by decide) (fun c_4 => ?_) (fun c_4 => ?_)
    · refine lv_aload_n hx hb dX7_takes_30 rfl (lv_at hl 1 rfl) ?_
      refine va_get (D := D) (ci := 7) (v := .ref (a 19)) (C := RX7) (T := TX7) (N := 12) hx hb hts inX7 hown hK hP 0 rfl rfl 2 (by decide) (hts _ tw_307) (fun _ h9 => h9) rfl dX7_takes_31 ?_
      refine lv_iload_n hx hb dX7_takes_34 rfl (lv_at hl 2 rfl) ?_
      refine va_aldq hx hb hK hP 2 4 rfl rfl (by unfold vp_in; decide) dX7_takes_35 ?_
      refine lv_tr (y := .ref (a 20)) rfl ?_
      refine lv_iload_n hx hb dX7_takes_36 rfl (lv_at hl 3 rfl) ?_
      refine lv_iload_n hx hb dX7_takes_37 rfl (lv_at hl 4 rfl) ?_
      refine lv_iload hx hb dX7_takes_38 (lv_at hl 5 rfl) ?_
      refine ro_i (D := D) (va_runV (As := [.int (nI ir_2), .int (nI id_2), .int (nI ig_2)]) (rest := []) ⟨hx, hb, hml, hown, hts⟩ ((x_isTaken l D k st lo (a 4) (a 5) (a 6) (a 7) (a 8) n0 see0 tm0 g0 fp0 fl0 (a 20) (a 21) (a 22) (a 23) (a 24) on0 ir_2 id_2 ig_2 (by omega) (by omega) (by omega)) H.size) (cwV 3 hts (gV tw_637 tw_638 tw_639 tw_85 tw_640) rfl rfl rfl (by decide +kernel) ⟨Nat.le_of_ble_eq_true rfl, Nat.le_of_ble_eq_true rfl⟩) (pV hS hAlo hlo hP hK hDL hZ [3, 4, 5, 6, 15, 16] (by decide) rfl (ci := 0) (q := (RX0, TX0, 5)) (q0 := 4) rfl rfl) rfl rfl hl.1 rfl (lv_room (Nat.le_of_ble_eq_true rfl)) dX7_takes_40 ⟨Nat.le_of_ble_eq_true rfl, Nat.le_of_ble_eq_true rfl⟩) hS hA hP (fun r_5 H locs hw_5 hP hS => ?_)
      try dsimp only at hw_5
      rcases hw_5 with rfl | rfl
      · refine lv_if_eq (tgt := 50) hx hb dX7_takes_43 (by decide) (fun h => absurd h (by decide)) (fun _ => ?_)
        refine lv_iconst (v := 1) hx hb dX7_takes_46 (by decide) ?_
        refine lv_goto (tgt := 51) hx hb dX7_takes_47 (by decide) ?_
        exact W.iret (v := 1) hx hb hr (fun t ht hW => ⟨⟨1, (), rfl, trivial, trivial⟩, hS.F ht⟩) hS.2.2 dX7_takes_51
      · refine lv_if_eq (tgt := 50) hx hb dX7_takes_43 (by decide) (fun _ => ?_) (fun h => absurd (by decide) h)
        refine lv_iconst (v := 0) hx hb dX7_takes_50 (by decide) ?_
        exact W.iret (v := 0) hx hb hr (fun t ht hW => ⟨⟨0, (), rfl, trivial, trivial⟩, hS.F ht⟩) hS.2.2 dX7_takes_51
    · refine lv_sipush (v := (-1003)) hx hb dX7_takes_26 (by decide) ?_
      exact W.iret (v := (-1003)) hx hb hr (fun t ht hW => ⟨⟨(-1003), (), rfl, trivial, trivial⟩, hS.F ht⟩) hS.2.2 dX7_takes_29
  · refine lv_istore (lv' := [(5, .int 0), (0, .ref (a 0)), (1, .int 1), (2, .int (nI ir_2)), (3, .int (nI id_2)), (4, .int (nI ig_2))]) hx hb dX7_takes_9 hl (by decide) rfl (fun ls hl => ?_)
    refine lv_iload hx hb dX7_takes_11 (lv_at hl 0 rfl) ?_
    refine lv_if_eq (tgt := 19) hx hb dX7_takes_13 (by decide) (fun _ => ?_) (fun h => absurd (by decide) h)
    refine lv_iload hx hb dX7_takes_19 (lv_at hl 5 rfl) ?_
    refine lv_iconst (v := 1) hx hb dX7_takes_21 (by decide) ?_
    refine lv_iand hx hb dX7_takes_22 ?_
    refine lv_topi (fun x_6 ex_6 => ?_)
    refine lv_if_ne (tgt := 30) hx hb dX7_takes_23 (by decide) (fun c_7 => ?_) (fun c_7 => ?_)
    · refine lv_aload_n hx hb dX7_takes_30 rfl (lv_at hl 1 rfl) ?_
      refine va_get (D := D) (ci := 7) (v := .ref (a 19)) (C := RX7) (T := TX7) (N := 12) hx hb hts inX7 hown hK hP 0 rfl rfl 2 (by decide) (hts _ tw_307) (fun _ h9 => h9) rfl dX7_takes_31 ?_
      refine lv_iload_n hx hb dX7_takes_34 rfl (lv_at hl 2 rfl) ?_
      refine va_aldq hx hb hK hP 2 4 rfl rfl (by unfold vp_in; decide) dX7_takes_35 ?_
      refine lv_tr (y := .ref (a 25)) rfl ?_
      refine lv_iload_n hx hb dX7_takes_36 rfl (lv_at hl 3 rfl) ?_
      refine lv_iload_n hx hb dX7_takes_37 rfl (lv_at hl 4 rfl) ?_
      refine lv_iload hx hb dX7_takes_38 (lv_at hl 5 rfl) ?_
      refine ro_i (D := D) (va_runV (As := [.int (nI ir_2), .int (nI id_2), .int (nI ig_2)]) (rest := []) ⟨hx, hb, hml, hown, hts⟩ ((x_isTaken l D k st lo (a 9) (a 10) (a 11) (a 12) (a 13) n1 see1 tm1 g1 fp1 fl1 (a 25) (a 26) (a 27) (a 28) (a 29) on1 ir_2 id_2 ig_2 (by omega) (by omega) (by omega)) H.size) (cwV 3 hts (gV tw_637 tw_638 tw_639 tw_85 tw_640) rfl rfl rfl (by decide +kernel) ⟨Nat.le_of_ble_eq_true rfl, Nat.le_of_ble_eq_true rfl⟩) (pV hS hAlo hlo hP hK hDL hZ [7, 8, 9, 10, 17, 18] (by decide) rfl (ci := 0) (q := (RX0, TX0, 5)) (q0 := 4) rfl rfl) rfl rfl hl.1 rfl (lv_room (Nat.le_of_ble_eq_true rfl)) dX7_takes_40 ⟨Nat.le_of_ble_eq_true rfl, Nat.le_of_ble_eq_true rfl⟩) hS hA hP (fun r_8 H locs hw_8 hP hS => ?_)
      try dsimp only at hw_8
      rcases hw_8 with rfl | rfl
      · refine lv_if_eq (tgt := 50) hx hb dX7_takes_43 (by decide) (fun h => absurd h (by decide)) (fun _ => ?_)
        refine lv_iconst (v := 1) hx hb dX7_takes_46 (by decide) ?_
        refine lv_goto (tgt := 51) hx hb dX7_takes_47 (by decide) ?_
        exact W.iret (v := 1) hx hb hr (fun t ht hW => ⟨⟨1, (), rfl, trivial, trivial⟩, hS.F ht⟩) hS.2.2 dX7_takes_51
      · refine lv_if_eq (tgt := 50) hx hb dX7_takes_43 (by decide) (fun _ => ?_) (fun h => absurd (by decide) h)
        refine lv_iconst (v := 0) hx hb dX7_takes_50 (by decide) ?_
        exact W.iret (v := 0) hx hb hr (fun t ht hW => ⟨⟨0, (), rfl, trivial, trivial⟩, hS.F ht⟩) hS.2.2 dX7_takes_51
    · refine lv_sipush (v := (-1003)) hx hb dX7_takes_26 (by decide) ?_
      exact W.iret (v := (-1003)) hx hb hr (fun t ht hW => ⟨⟨(-1003), (), rfl, trivial, trivial⟩, hS.F ht⟩) hS.2.2 dX7_takes_29
  · refine lv_istore (lv' := [(5, .int 0), (0, .ref (a 0)), (1, .int 2), (2, .int (nI ir_2)), (3, .int (nI id_2)), (4, .int (nI ig_2))]) hx hb dX7_takes_9 hl (by decide) rfl (fun ls hl => ?_)
    refine lv_iload hx hb dX7_takes_11 (lv_at hl 0 rfl) ?_
    refine lv_if_eq (tgt := 19) hx hb dX7_takes_13 (by decide) (fun _ => ?_) (fun h => absurd (by decide) h)
    refine lv_iload hx hb dX7_takes_19 (lv_at hl 5 rfl) ?_
    refine lv_iconst (v := 1) hx hb dX7_takes_21 (by decide) ?_
    refine lv_iand hx hb dX7_takes_22 ?_
    refine lv_topi (fun x_9 ex_9 => ?_)
    refine lv_if_ne (tgt := 30) hx hb dX7_takes_23 (by decide) (fun c_10 => ?_) (fun c_10 => ?_)
    · refine lv_aload_n hx hb dX7_takes_30 rfl (lv_at hl 1 rfl) ?_
      refine va_get (D := D) (ci := 7) (v := .ref (a 19)) (C := RX7) (T := TX7) (N := 12) hx hb hts inX7 hown hK hP 0 rfl rfl 2 (by decide) (hts _ tw_307) (fun _ h9 => h9) rfl dX7_takes_31 ?_
      refine lv_iload_n hx hb dX7_takes_34 rfl (lv_at hl 2 rfl) ?_
      refine va_aldq hx hb hK hP 2 4 rfl rfl (by unfold vp_in; decide) dX7_takes_35 ?_
      refine lv_tr (y := .ref (a 30)) rfl ?_
      refine lv_iload_n hx hb dX7_takes_36 rfl (lv_at hl 3 rfl) ?_
      refine lv_iload_n hx hb dX7_takes_37 rfl (lv_at hl 4 rfl) ?_
      refine lv_iload hx hb dX7_takes_38 (lv_at hl 5 rfl) ?_
      refine ro_i (D := D) (va_runV (As := [.int (nI ir_2), .int (nI id_2), .int (nI ig_2)]) (rest := []) ⟨hx, hb, hml, hown, hts⟩ ((x_isTaken l D k st lo (a 14) (a 15) (a 16) (a 17) (a 18) n2 see2 tm2 g2 fp2 fl2 (a 30) (a 31) (a 32) (a 33) (a 34) on2 ir_2 id_2 ig_2 (by omega) (by omega) (by omega)) H.size) (cwV 3 hts (gV tw_637 tw_638 tw_639 tw_85 tw_640) rfl rfl rfl (by decide +kernel) ⟨Nat.le_of_ble_eq_true rfl, Nat.le_of_ble_eq_true rfl⟩) (pV hS hAlo hlo hP hK hDL hZ [11, 12, 13, 14, 19, 20] (by decide) rfl (ci := 0) (q := (RX0, TX0, 5)) (q0 := 4) rfl rfl) rfl rfl hl.1 rfl (lv_room (Nat.le_of_ble_eq_true rfl)) dX7_takes_40 ⟨Nat.le_of_ble_eq_true rfl, Nat.le_of_ble_eq_true rfl⟩) hS hA hP (fun r_11 H locs hw_11 hP hS => ?_)
      try dsimp only at hw_11
      rcases hw_11 with rfl | rfl
      · refine lv_if_eq (tgt := 50) hx hb dX7_takes_43 (by decide) (fun h => absurd h (by decide)) (fun _ => ?_)
        refine lv_iconst (v := 1) hx hb dX7_takes_46 (by decide) ?_
        refine lv_goto (tgt := 51) hx hb dX7_takes_47 (by decide) ?_
        exact W.iret (v := 1) hx hb hr (fun t ht hW => ⟨⟨1, (), rfl, trivial, trivial⟩, hS.F ht⟩) hS.2.2 dX7_takes_51
      · refine lv_if_eq (tgt := 50) hx hb dX7_takes_43 (by decide) (fun _ => ?_) (fun h => absurd (by decide) h)
        refine lv_iconst (v := 0) hx hb dX7_takes_50 (by decide) ?_
        exact W.iret (v := 0) hx hb hr (fun t ht hW => ⟨⟨0, (), rfl, trivial, trivial⟩, hS.F ht⟩) hS.2.2 dX7_takes_51
    · refine lv_sipush (v := (-1003)) hx hb dX7_takes_26 (by decide) ?_
      exact W.iret (v := (-1003)) hx hb hr (fun t ht hW => ⟨⟨(-1003), (), rfl, trivial, trivial⟩, hS.F ht⟩) hS.2.2 dX7_takes_29
  · refine lv_istore (lv' := [(5, .int (-1001)), (0, .ref (a 0)), (1, .int p0), (2, .int p1), (3, .int p2), (4, .int p3)]) hx hb dX7_takes_9 hl (by decide) rfl (fun ls hl => ?_)
    refine lv_iload hx hb dX7_takes_11 (lv_at hl 0 rfl) ?_
    refine lv_if_eq (tgt := 19) hx hb dX7_takes_13 (by decide) (fun h => absurd h (by decide)) (fun _ => ?_)
    refine lv_iload hx hb dX7_takes_16 (lv_at hl 0 rfl) ?_
    exact W.iret (v := (-1001)) hx hb hr (fun t ht hW => ⟨⟨(-1001), (), rfl, trivial, trivial⟩, hS.F ht⟩) hS.2.2 dX7_takes_18
  · refine lv_istore (lv' := [(5, .int (-1002)), (0, .ref (a 0)), (1, .int p0), (2, .int p1), (3, .int p2), (4, .int p3)]) hx hb dX7_takes_9 hl (by decide) rfl (fun ls hl => ?_)
    refine lv_iload hx hb dX7_takes_11 (lv_at hl 0 rfl) ?_
    refine lv_if_eq (tgt := 19) hx hb dX7_takes_13 (by decide) (fun h => absurd h (by decide)) (fun _ => ?_)
    refine lv_iload hx hb dX7_takes_16 (lv_at hl 0 rfl) ?_
    exact W.iret (v := (-1002)) hx hb hr (fun t ht hW => ⟨⟨(-1002), (), rfl, trivial, trivial⟩, hS.F ht⟩) hS.2.2 dX7_takes_18

theorem dX7_start_0 : decode cX7_start 0 = .ok (.aload_n 0, 1) := by decide +kernel
theorem dX7_start_1 : decode cX7_start 1 = .ok (.iload_n 1, 1) := by decide +kernel
theorem dX7_start_2 : decode cX7_start 2 = .ok (.invokevirtual 108, 3) := by decide +kernel
theorem dX7_start_5 : decode cX7_start 5 = .ok (.ifCond .ne 7, 3) := by decide +kernel
theorem dX7_start_8 : decode cX7_start 8 = .ok (.sipush (-1001), 3) := by decide +kernel
theorem dX7_start_11 : decode cX7_start 11 = .ok (.ireturn, 1) := by decide +kernel
theorem dX7_start_12 : decode cX7_start 12 = .ok (.aload_n 0, 1) := by decide +kernel
theorem dX7_start_13 : decode cX7_start 13 = .ok (.iload_n 1, 1) := by decide +kernel
theorem dX7_start_14 : decode cX7_start 14 = .ok (.iload_n 2, 1) := by decide +kernel
theorem dX7_start_15 : decode cX7_start 15 = .ok (.invokevirtual 134, 3) := by decide +kernel
theorem dX7_start_18 : decode cX7_start 18 = .ok (.ifCond .eq 17, 3) := by decide +kernel
theorem dX7_start_21 : decode cX7_start 21 = .ok (.aload_n 0, 1) := by decide +kernel
theorem dX7_start_22 : decode cX7_start 22 = .ok (.getfield 24, 3) := by decide +kernel
theorem dX7_start_25 : decode cX7_start 25 = .ok (.iload_n 1, 1) := by decide +kernel
theorem dX7_start_26 : decode cX7_start 26 = .ok (.aaload, 1) := by decide +kernel
theorem dX7_start_27 : decode cX7_start 27 = .ok (.getfield 155, 3) := by decide +kernel
theorem dX7_start_30 : decode cX7_start 30 = .ok (.iload_n 2, 1) := by decide +kernel
theorem dX7_start_31 : decode cX7_start 31 = .ok (.iaload, 1) := by decide +kernel
theorem dX7_start_32 : decode cX7_start 32 = .ok (.goto 6, 3) := by decide +kernel
theorem dX7_start_35 : decode cX7_start 35 = .ok (.sipush (-1002), 3) := by decide +kernel
theorem dX7_start_38 : decode cX7_start 38 = .ok (.ireturn, 1) := by decide +kernel
set_option maxHeartbeats 4000000 in
set_option maxRecDepth 100000 in
theorem x_start (l : Launch) (D : va_G) (k : Nat → ClassId) (st : Nat → Nat) (lo : Nat) (a : Nat → Nat) (rk : Nat) (lfa : Int32) (n0 : Nat) (see0 : Nat) (tm0 : Nat) (g0 : Nat → Int32) (fp0 : Nat → Int32) (fl0 : Nat → Int32) (n1 : Nat) (see1 : Nat) (tm1 : Nat) (g1 : Nat → Int32) (fp1 : Nat → Int32) (fl1 : Nat → Int32) (n2 : Nat) (see2 : Nat) (tm2 : Nat) (g2 : Nat → Int32) (fp2 : Nat → Int32) (fl2 : Nat → Int32) (sr0 : Nat → Int32) (sr1 : Nat → Int32) (sr2 : Nat → Int32) (p0 : Int32) (p1 : Int32) (hn0 : n0 ≤ 24) (hse0 : see0 ≤ 2) (htm0 : tm0 ≤ 3) (hn1 : n1 ≤ 24) (hse1 : see1 ≤ 2) (htm1 : tm1 ≤ 3) (hn2 : n2 ≤ 24) (hse2 : see2 ≤ 2) (htm2 : tm2 ≤ 3) : CRi l D k st lo yX7_start cX7_start 3 (some .int) ({ frames := 2, cells := 0, slots := 0, locals := 44 }) [.ref (a 0), .int p0, .int p1] [((a 0), .inr (7, (fX7 (a 1) (a 3) (a 19) (a 35) (a 40) (nI rk) lfa (a 53) (a 56) (a 63) (a 64) (a 68)))), ((a 3), .inl (k 3, 3, .inr (.inr (.inr (.inr (a3 (a 4) (a 9) (a 14))))))), ((a 19), .inl (k 4, 3, .inr (.inr (.inr (.inr (a3 (a 20) (a 25) (a 30))))))), ((a 4), .inr (5, (fX5 (a 5) (a 6) (a 7) (a 8)))), (aI k (a 5) 10 (vv n0 see0 tm0 g0)), (aI k (a 7) 24 fp0), (aI k (a 8) 4 fl0), ((a 9), .inr (5, (fX5 (a 10) (a 11) (a 12) (a 13)))), (aI k (a 10) 10 (vv n1 see1 tm1 g1)), (aI k (a 12) 24 fp1), (aI k (a 13) 4 fl1), ((a 14), .inr (5, (fX5 (a 15) (a 16) (a 17) (a 18)))), (aI k (a 15) 10 (vv n2 see2 tm2 g2)), (aI k (a 17) 24 fp2), (aI k (a 18) 4 fl2), ((a 20), .inr (0, (fX0 (a 4) (a 21) (a 22) (a 23) (a 24)))), (aI k (a 22) 4 sr0), ((a 25), .inr (0, (fX0 (a 9) (a 26) (a 27) (a 28) (a 29)))), (aI k (a 27) 4 sr1), ((a 30), .inr (0, (fX0 (a 14) (a 31) (a 32) (a 33) (a 34)))), (aI k (a 32) 4 sr2)] (fun _ => True) := by
  intro sz
  refine Met.ofW (cc := cX7_start) (maxL := 3) (ret := (some .int)) (by decide) rfl ?_
  intro p e s m args below meth c s₁ B hml hv
  obtain ⟨rfl, hsz, hlo, hP, hK, hDL, hZ⟩ := hv
  have hx := B.exec
  have hb := B.bytes
  have hr := B.returns
  have hts := WS_ts B.pre
  have hown : s.vm.findClass RX7 = some m.cls := findClass_of_methodNamed B.named
  have hlocks := B.notSynchronized
  subst hsz
  have hA : ∀ q : Nat, s.heap.size ≤ q → (fun q : Nat => s.heap.size ≤ q) q := fun _ h => h
  have hAlo : ∀ q : Nat, (fun q : Nat => s.heap.size ≤ q) q → lo ≤ q := fun q h => Nat.le_trans hlo h
  have hS : va_S (fun q : Nat => s.heap.size ≤ q) s.heap s.heap [] := va_S.rf
  have hl := lv_entry ([.ref (a 0), .int p0, .int p1]) (n := 3) (Nat.le_of_ble_eq_true rfl)
  rw [lg_entry_eq]
  generalize (lg_sl ([.ref (a 0), .int p0, .int p1]) ++ List.replicate (3 - (lg_sl ([.ref (a 0), .int p0, .int p1])).length) Slot.unset).toArray = ls at hl ⊢
  have hl : lv_has ls 3 [(0, .ref (a 0)), (1, .int p0), (2, .int p1)] := hl
  refine lv_aload_n hx hb dX7_start_0 rfl (lv_at hl 0 rfl) ?_
  refine lv_iload_n hx hb dX7_start_1 rfl (lv_at hl 1 rfl) ?_
  refine ro_i (D := D) (va_runV (As := [.int p0]) (rest := []) ⟨hx, hb, hml, hown, hts⟩ ((x_isStreet l D k st lo a rk lfa n0 see0 tm0 g0 n1 see1 tm1 g1 n2 see2 tm2 g2 p0 (by omega) (by omega) (by omega)) s.heap.size) (cwV 1 hts (gV tw_589 tw_591 tw_8 tw_79 tw_592) rfl rfl rfl (by decide +kernel) ⟨Nat.le_of_ble_eq_true rfl, Nat.le_of_ble_eq_true rfl⟩) (pV hS hAlo hlo hP hK hDL hZ [0, 1, 3, 4, 7, 8, 11, 12] (by decide) rfl (ci := 7) (q := (RX7, TX7, 12)) (q0 := 0) rfl rfl) rfl rfl hl.1 rfl (lv_room (Nat.le_of_ble_eq_true rfl)) dX7_start_2 ⟨Nat.le_of_ble_eq_true rfl, Nat.le_of_ble_eq_true rfl⟩) hS hA hP (fun r_1 H locs hw_1 hP hS => ?_)
  try dsimp only at hw_1
  rcases hw_1 with ⟨rfl, ⟨rfl, hw_1⟩ | ⟨rfl, hw_1⟩ | ⟨rfl, hw_1⟩⟩ | rfl
  · refine lv_if_ne (tgt := 12) hx hb dX7_start_5 (by decide) (fun _ => ?_) (fun h => absurd h (by decide))
    refine lv_aload_n hx hb dX7_start_12 rfl (lv_at hl 0 rfl) ?_
    refine lv_iload_n hx hb dX7_start_13 rfl (lv_at hl 1 rfl) ?_
    refine lv_iload_n hx hb dX7_start_14 rfl (lv_at hl 2 rfl) ?_
    refine ro_i (D := D) (va_runV (As := [.int 0, .int p1]) (rest := []) ⟨hx, hb, hml, hown, hts⟩ ((x_isRound_0 l D k st lo a rk lfa n0 see0 tm0 g0 p1 (by omega)) H.size) (cwV 2 hts (gV tw_613 tw_615 tw_10 tw_79 tw_616) rfl rfl rfl (by decide +kernel) ⟨Nat.le_of_ble_eq_true rfl, Nat.le_of_ble_eq_true rfl⟩) (pV hS hAlo hlo hP hK hDL hZ [0, 1, 3, 4] (by decide) rfl (ci := 7) (q := (RX7, TX7, 12)) (q0 := 0) rfl rfl) rfl rfl hl.1 rfl (lv_room (Nat.le_of_ble_eq_true rfl)) dX7_start_15 ⟨Nat.le_of_ble_eq_true rfl, Nat.le_of_ble_eq_true rfl⟩) hS hA hP (fun r_2 H locs hw_2 hP hS => ?_)
    try dsimp only at hw_2
    rcases hw_2 with ⟨rfl, ir_3, hir_3, rfl⟩ | rfl
    · refine lv_if_eq (tgt := 35) hx hb dX7_start_18 (by decide) (fun h => absurd h (by decide)) (fun _ => ?_)
      refine lv_aload_n hx hb dX7_start_21 rfl (lv_at hl 0 rfl) ?_
      refine va_get (D := D) (ci := 7) (v := .ref (a 19)) (C := RX7) (T := TX7) (N := 12) hx hb hts inX7 hown hK hP 0 rfl rfl 2 (by decide) (hts _ tw_307) (fun _ h9 => h9) rfl dX7_start_22 ?_
      refine lv_iload_n hx hb dX7_start_25 rfl (lv_at hl 1 rfl) ?_
      refine va_aldq hx hb hK hP 2 4 rfl rfl (by unfold vp_in; decide) dX7_start_26 ?_
      refine lv_tr (y := .ref (a 20)) rfl ?_
      refine va_get (D := D) (ci := 0) (v := .ref (a 22)) (C := RX0) (T := TX0) (N := 5) hx hb hts inX0 hown hK hP 15 rfl rfl 2 (by decide) (hts _ tw_269) (fun _ h9 => h9) rfl dX7_start_27 ?_
      refine lv_iload_n hx hb dX7_start_30 rfl (lv_at hl 2 rfl) ?_
      refine va_iald hx hb hK hP 16 1 rfl rfl (vp_in_nI (by omega) (by decide)) dX7_start_31 ?_
      refine lv_ti (y := (sr0 ir_3)) (by rw [nI_clamp (by omega)]) ?_
      refine lv_goto (tgt := 38) hx hb dX7_start_32 (by decide) ?_
      exact W.iret (v := (sr0 ir_3)) hx hb hr (fun t ht hW => ⟨⟨(sr0 ir_3), (), rfl, trivial, trivial⟩, hS.F ht⟩) hS.2.2 dX7_start_38
    · refine lv_if_eq (tgt := 35) hx hb dX7_start_18 (by decide) (fun _ => ?_) (fun h => absurd (by decide) h)
      refine lv_sipush (v := (-1002)) hx hb dX7_start_35 (by decide) ?_
      exact W.iret (v := (-1002)) hx hb hr (fun t ht hW => ⟨⟨(-1002), (), rfl, trivial, trivial⟩, hS.F ht⟩) hS.2.2 dX7_start_38
  · refine lv_if_ne (tgt := 12) hx hb dX7_start_5 (by decide) (fun _ => ?_) (fun h => absurd h (by decide))
    refine lv_aload_n hx hb dX7_start_12 rfl (lv_at hl 0 rfl) ?_
    refine lv_iload_n hx hb dX7_start_13 rfl (lv_at hl 1 rfl) ?_
    refine lv_iload_n hx hb dX7_start_14 rfl (lv_at hl 2 rfl) ?_
    refine ro_i (D := D) (va_runV (As := [.int 1, .int p1]) (rest := []) ⟨hx, hb, hml, hown, hts⟩ ((x_isRound_1 l D k st lo a rk lfa n1 see1 tm1 g1 p1 (by omega)) H.size) (cwV 2 hts (gV tw_613 tw_615 tw_10 tw_79 tw_616) rfl rfl rfl (by decide +kernel) ⟨Nat.le_of_ble_eq_true rfl, Nat.le_of_ble_eq_true rfl⟩) (pV hS hAlo hlo hP hK hDL hZ [0, 1, 7, 8] (by decide) rfl (ci := 7) (q := (RX7, TX7, 12)) (q0 := 0) rfl rfl) rfl rfl hl.1 rfl (lv_room (Nat.le_of_ble_eq_true rfl)) dX7_start_15 ⟨Nat.le_of_ble_eq_true rfl, Nat.le_of_ble_eq_true rfl⟩) hS hA hP (fun r_4 H locs hw_4 hP hS => ?_)
    try dsimp only at hw_4
    rcases hw_4 with ⟨rfl, ir_5, hir_5, rfl⟩ | rfl
    · refine lv_if_eq (tgt := 35) hx hb dX7_start_18 (by decide) (fun h => absurd h (by decide)) (fun _ => ?_)
      refine lv_aload_n hx hb dX7_start_21 rfl (lv_at hl 0 rfl) ?_
      refine va_get (D := D) (ci := 7) (v := .ref (a 19)) (C := RX7) (T := TX7) (N := 12) hx hb hts inX7 hown hK hP 0 rfl rfl 2 (by decide) (hts _ tw_307) (fun _ h9 => h9) rfl dX7_start_22 ?_
      refine lv_iload_n hx hb dX7_start_25 rfl (lv_at hl 1 rfl) ?_
      refine va_aldq hx hb hK hP 2 4 rfl rfl (by unfold vp_in; decide) dX7_start_26 ?_
      refine lv_tr (y := .ref (a 25)) rfl ?_
      refine va_get (D := D) (ci := 0) (v := .ref (a 27)) (C := RX0) (T := TX0) (N := 5) hx hb hts inX0 hown hK hP 17 rfl rfl 2 (by decide) (hts _ tw_269) (fun _ h9 => h9) rfl dX7_start_27 ?_
      refine lv_iload_n hx hb dX7_start_30 rfl (lv_at hl 2 rfl) ?_
      refine va_iald hx hb hK hP 18 1 rfl rfl (vp_in_nI (by omega) (by decide)) dX7_start_31 ?_
      refine lv_ti (y := (sr1 ir_5)) (by rw [nI_clamp (by omega)]) ?_
      refine lv_goto (tgt := 38) hx hb dX7_start_32 (by decide) ?_
      exact W.iret (v := (sr1 ir_5)) hx hb hr (fun t ht hW => ⟨⟨(sr1 ir_5), (), rfl, trivial, trivial⟩, hS.F ht⟩) hS.2.2 dX7_start_38
    · refine lv_if_eq (tgt := 35) hx hb dX7_start_18 (by decide) (fun _ => ?_) (fun h => absurd (by decide) h)
      refine lv_sipush (v := (-1002)) hx hb dX7_start_35 (by decide) ?_
      exact W.iret (v := (-1002)) hx hb hr (fun t ht hW => ⟨⟨(-1002), (), rfl, trivial, trivial⟩, hS.F ht⟩) hS.2.2 dX7_start_38
  · refine lv_if_ne (tgt := 12) hx hb dX7_start_5 (by decide) (fun _ => ?_) (fun h => absurd h (by decide))
    refine lv_aload_n hx hb dX7_start_12 rfl (lv_at hl 0 rfl) ?_
    refine lv_iload_n hx hb dX7_start_13 rfl (lv_at hl 1 rfl) ?_
    refine lv_iload_n hx hb dX7_start_14 rfl (lv_at hl 2 rfl) ?_
    refine ro_i (D := D) (va_runV (As := [.int 2, .int p1]) (rest := []) ⟨hx, hb, hml, hown, hts⟩ ((x_isRound_2 l D k st lo a rk lfa n2 see2 tm2 g2 p1 (by omega)) H.size) (cwV 2 hts (gV tw_613 tw_615 tw_10 tw_79 tw_616) rfl rfl rfl (by decide +kernel) ⟨Nat.le_of_ble_eq_true rfl, Nat.le_of_ble_eq_true rfl⟩) (pV hS hAlo hlo hP hK hDL hZ [0, 1, 11, 12] (by decide) rfl (ci := 7) (q := (RX7, TX7, 12)) (q0 := 0) rfl rfl) rfl rfl hl.1 rfl (lv_room (Nat.le_of_ble_eq_true rfl)) dX7_start_15 ⟨Nat.le_of_ble_eq_true rfl, Nat.le_of_ble_eq_true rfl⟩) hS hA hP (fun r_6 H locs hw_6 hP hS => ?_)
    try dsimp only at hw_6
    rcases hw_6 with ⟨rfl, ir_7, hir_7, rfl⟩ | rfl
    · refine lv_if_eq (tgt := 35) hx hb dX7_start_18 (by decide) (fun h => absurd h (by decide)) (fun _ => ?_)
      refine lv_aload_n hx hb dX7_start_21 rfl (lv_at hl 0 rfl) ?_
      refine va_get (D := D) (ci := 7) (v := .ref (a 19)) (C := RX7) (T := TX7) (N := 12) hx hb hts inX7 hown hK hP 0 rfl rfl 2 (by decide) (hts _ tw_307) (fun _ h9 => h9) rfl dX7_start_22 ?_
      refine lv_iload_n hx hb dX7_start_25 rfl (lv_at hl 1 rfl) ?_
      refine va_aldq hx hb hK hP 2 4 rfl rfl (by unfold vp_in; decide) dX7_start_26 ?_
      refine lv_tr (y := .ref (a 30)) rfl ?_
      refine va_get (D := D) (ci := 0) (v := .ref (a 32)) (C := RX0) (T := TX0) (N := 5) hx hb hts inX0 hown hK hP 19 rfl rfl 2 (by decide) (hts _ tw_269) (fun _ h9 => h9) rfl dX7_start_27 ?_
      refine lv_iload_n hx hb dX7_start_30 rfl (lv_at hl 2 rfl) ?_
      refine va_iald hx hb hK hP 20 1 rfl rfl (vp_in_nI (by omega) (by decide)) dX7_start_31 ?_
      refine lv_ti (y := (sr2 ir_7)) (by rw [nI_clamp (by omega)]) ?_
      refine lv_goto (tgt := 38) hx hb dX7_start_32 (by decide) ?_
      exact W.iret (v := (sr2 ir_7)) hx hb hr (fun t ht hW => ⟨⟨(sr2 ir_7), (), rfl, trivial, trivial⟩, hS.F ht⟩) hS.2.2 dX7_start_38
    · refine lv_if_eq (tgt := 35) hx hb dX7_start_18 (by decide) (fun _ => ?_) (fun h => absurd (by decide) h)
      refine lv_sipush (v := (-1002)) hx hb dX7_start_35 (by decide) ?_
      exact W.iret (v := (-1002)) hx hb hr (fun t ht hW => ⟨⟨(-1002), (), rfl, trivial, trivial⟩, hS.F ht⟩) hS.2.2 dX7_start_38
  · refine lv_if_ne (tgt := 12) hx hb dX7_start_5 (by decide) (fun h => absurd (by decide) h) (fun _ => ?_)
    refine lv_sipush (v := (-1001)) hx hb dX7_start_8 (by decide) ?_
    exact W.iret (v := (-1001)) hx hb hr (fun t ht hW => ⟨⟨(-1001), (), rfl, trivial, trivial⟩, hS.F ht⟩) hS.2.2 dX7_start_11

theorem dX7_end_0 : decode cX7_end 0 = .ok (.aload_n 0, 1) := by decide +kernel
theorem dX7_end_1 : decode cX7_end 1 = .ok (.iload_n 1, 1) := by decide +kernel
theorem dX7_end_2 : decode cX7_end 2 = .ok (.invokevirtual 108, 3) := by decide +kernel
theorem dX7_end_5 : decode cX7_end 5 = .ok (.ifCond .ne 7, 3) := by decide +kernel
theorem dX7_end_8 : decode cX7_end 8 = .ok (.sipush (-1001), 3) := by decide +kernel
theorem dX7_end_11 : decode cX7_end 11 = .ok (.ireturn, 1) := by decide +kernel
theorem dX7_end_12 : decode cX7_end 12 = .ok (.aload_n 0, 1) := by decide +kernel
theorem dX7_end_13 : decode cX7_end 13 = .ok (.iload_n 1, 1) := by decide +kernel
theorem dX7_end_14 : decode cX7_end 14 = .ok (.iload_n 2, 1) := by decide +kernel
theorem dX7_end_15 : decode cX7_end 15 = .ok (.invokevirtual 134, 3) := by decide +kernel
theorem dX7_end_18 : decode cX7_end 18 = .ok (.ifCond .eq 12, 3) := by decide +kernel
theorem dX7_end_21 : decode cX7_end 21 = .ok (.iload_n 3, 1) := by decide +kernel
theorem dX7_end_22 : decode cX7_end 22 = .ok (.iconst 0, 1) := by decide +kernel
theorem dX7_end_23 : decode cX7_end 23 = .ok (.iconst 1, 1) := by decide +kernel
theorem dX7_end_24 : decode cX7_end 24 = .ok (.invokestatic 112, 3) := by decide +kernel
theorem dX7_end_27 : decode cX7_end 27 = .ok (.ifCond .ne 7, 3) := by decide +kernel
theorem dX7_end_30 : decode cX7_end 30 = .ok (.sipush (-1002), 3) := by decide +kernel
theorem dX7_end_33 : decode cX7_end 33 = .ok (.ireturn, 1) := by decide +kernel
theorem dX7_end_34 : decode cX7_end 34 = .ok (.iload_n 3, 1) := by decide +kernel
theorem dX7_end_35 : decode cX7_end 35 = .ok (.ifCond .ne 15, 3) := by decide +kernel
theorem dX7_end_38 : decode cX7_end 38 = .ok (.aload_n 0, 1) := by decide +kernel
theorem dX7_end_39 : decode cX7_end 39 = .ok (.getfield 24, 3) := by decide +kernel
theorem dX7_end_42 : decode cX7_end 42 = .ok (.iload_n 1, 1) := by decide +kernel
theorem dX7_end_43 : decode cX7_end 43 = .ok (.aaload, 1) := by decide +kernel
theorem dX7_end_44 : decode cX7_end 44 = .ok (.getfield 158, 3) := by decide +kernel
theorem dX7_end_47 : decode cX7_end 47 = .ok (.iload_n 2, 1) := by decide +kernel
theorem dX7_end_48 : decode cX7_end 48 = .ok (.iaload, 1) := by decide +kernel
theorem dX7_end_49 : decode cX7_end 49 = .ok (.ireturn, 1) := by decide +kernel
theorem dX7_end_50 : decode cX7_end 50 = .ok (.aload_n 0, 1) := by decide +kernel
theorem dX7_end_51 : decode cX7_end 51 = .ok (.getfield 24, 3) := by decide +kernel
theorem dX7_end_54 : decode cX7_end 54 = .ok (.iload_n 1, 1) := by decide +kernel
theorem dX7_end_55 : decode cX7_end 55 = .ok (.aaload, 1) := by decide +kernel
theorem dX7_end_56 : decode cX7_end 56 = .ok (.getfield 158, 3) := by decide +kernel
theorem dX7_end_59 : decode cX7_end 59 = .ok (.iload_n 2, 1) := by decide +kernel
theorem dX7_end_60 : decode cX7_end 60 = .ok (.iaload, 1) := by decide +kernel
theorem dX7_end_61 : decode cX7_end 61 = .ok (.aload_n 0, 1) := by decide +kernel
theorem dX7_end_62 : decode cX7_end 62 = .ok (.getfield 18, 3) := by decide +kernel
theorem dX7_end_65 : decode cX7_end 65 = .ok (.iload_n 1, 1) := by decide +kernel
theorem dX7_end_66 : decode cX7_end 66 = .ok (.aaload, 1) := by decide +kernel
theorem dX7_end_67 : decode cX7_end 67 = .ok (.iload_n 2, 1) := by decide +kernel
theorem dX7_end_68 : decode cX7_end 68 = .ok (.invokevirtual 161, 3) := by decide +kernel
theorem dX7_end_71 : decode cX7_end 71 = .ok (.if_icmp .ge 7, 3) := by decide +kernel
theorem dX7_end_74 : decode cX7_end 74 = .ok (.iconst 1, 1) := by decide +kernel
theorem dX7_end_75 : decode cX7_end 75 = .ok (.goto 4, 3) := by decide +kernel
theorem dX7_end_78 : decode cX7_end 78 = .ok (.iconst 0, 1) := by decide +kernel
theorem dX7_end_79 : decode cX7_end 79 = .ok (.ireturn, 1) := by decide +kernel
set_option maxHeartbeats 4000000 in
set_option maxRecDepth 100000 in
theorem x_end (l : Launch) (D : va_G) (k : Nat → ClassId) (st : Nat → Nat) (lo : Nat) (a : Nat → Nat) (rk : Nat) (lfa : Int32) (n0 : Nat) (see0 : Nat) (tm0 : Nat) (g0 : Nat → Int32) (fp0 : Nat → Int32) (fl0 : Nat → Int32) (n1 : Nat) (see1 : Nat) (tm1 : Nat) (g1 : Nat → Int32) (fp1 : Nat → Int32) (fl1 : Nat → Int32) (n2 : Nat) (see2 : Nat) (tm2 : Nat) (g2 : Nat → Int32) (fp2 : Nat → Int32) (fl2 : Nat → Int32) (en0 : Nat → Int32) (en1 : Nat → Int32) (en2 : Nat → Int32) (p0 : Int32) (p1 : Int32) (p2 : Int32) (hn0 : n0 ≤ 24) (hse0 : see0 ≤ 2) (htm0 : tm0 ≤ 3) (hn1 : n1 ≤ 24) (hse1 : see1 ≤ 2) (htm1 : tm1 ≤ 3) (hn2 : n2 ≤ 24) (hse2 : see2 ≤ 2) (htm2 : tm2 ≤ 3) : CRi l D k st lo yX7_end cX7_end 4 (some .int) ({ frames := 2, cells := 0, slots := 0, locals := 44 }) [.ref (a 0), .int p0, .int p1, .int p2] [((a 0), .inr (7, (fX7 (a 1) (a 3) (a 19) (a 35) (a 40) (nI rk) lfa (a 53) (a 56) (a 63) (a 64) (a 68)))), ((a 3), .inl (k 3, 3, .inr (.inr (.inr (.inr (a3 (a 4) (a 9) (a 14))))))), ((a 19), .inl (k 4, 3, .inr (.inr (.inr (.inr (a3 (a 20) (a 25) (a 30))))))), ((a 4), .inr (5, (fX5 (a 5) (a 6) (a 7) (a 8)))), (aI k (a 5) 10 (vv n0 see0 tm0 g0)), (aI k (a 7) 24 fp0), (aI k (a 8) 4 fl0), ((a 9), .inr (5, (fX5 (a 10) (a 11) (a 12) (a 13)))), (aI k (a 10) 10 (vv n1 see1 tm1 g1)), (aI k (a 12) 24 fp1), (aI k (a 13) 4 fl1), ((a 14), .inr (5, (fX5 (a 15) (a 16) (a 17) (a 18)))), (aI k (a 15) 10 (vv n2 see2 tm2 g2)), (aI k (a 17) 24 fp2), (aI k (a 18) 4 fl2), ((a 20), .inr (0, (fX0 (a 4) (a 21) (a 22) (a 23) (a 24)))), (aI k (a 23) 4 en0), ((a 25), .inr (0, (fX0 (a 9) (a 26) (a 27) (a 28) (a 29)))), (aI k (a 28) 4 en1), ((a 30), .inr (0, (fX0 (a 14) (a 31) (a 32) (a 33) (a 34)))), (aI k (a 33) 4 en2)] (fun _ => True) := by
  intro sz
  refine Met.ofW (cc := cX7_end) (maxL := 4) (ret := (some .int)) (by decide) rfl ?_
  intro p e s m args below meth c s₁ B hml hv
  obtain ⟨rfl, hsz, hlo, hP, hK, hDL, hZ⟩ := hv
  have hx := B.exec
  have hb := B.bytes
  have hr := B.returns
  have hts := WS_ts B.pre
  have hown : s.vm.findClass RX7 = some m.cls := findClass_of_methodNamed B.named
  have hlocks := B.notSynchronized
  subst hsz
  have hA : ∀ q : Nat, s.heap.size ≤ q → (fun q : Nat => s.heap.size ≤ q) q := fun _ h => h
  have hAlo : ∀ q : Nat, (fun q : Nat => s.heap.size ≤ q) q → lo ≤ q := fun q h => Nat.le_trans hlo h
  have hS : va_S (fun q : Nat => s.heap.size ≤ q) s.heap s.heap [] := va_S.rf
  have hl := lv_entry ([.ref (a 0), .int p0, .int p1, .int p2]) (n := 4) (Nat.le_of_ble_eq_true rfl)
  rw [lg_entry_eq]
  generalize (lg_sl ([.ref (a 0), .int p0, .int p1, .int p2]) ++ List.replicate (4 - (lg_sl ([.ref (a 0), .int p0, .int p1, .int p2])).length) Slot.unset).toArray = ls at hl ⊢
  have hl : lv_has ls 4 [(0, .ref (a 0)), (1, .int p0), (2, .int p1), (3, .int p2)] := hl
  refine lv_aload_n hx hb dX7_end_0 rfl (lv_at hl 0 rfl) ?_
  refine lv_iload_n hx hb dX7_end_1 rfl (lv_at hl 1 rfl) ?_
  refine ro_i (D := D) (va_runV (As := [.int p0]) (rest := []) ⟨hx, hb, hml, hown, hts⟩ ((x_isStreet l D k st lo a rk lfa n0 see0 tm0 g0 n1 see1 tm1 g1 n2 see2 tm2 g2 p0 (by omega) (by omega) (by omega)) s.heap.size) (cwV 1 hts (gV tw_589 tw_591 tw_8 tw_79 tw_592) rfl rfl rfl (by decide +kernel) ⟨Nat.le_of_ble_eq_true rfl, Nat.le_of_ble_eq_true rfl⟩) (pV hS hAlo hlo hP hK hDL hZ [0, 1, 3, 4, 7, 8, 11, 12] (by decide) rfl (ci := 7) (q := (RX7, TX7, 12)) (q0 := 0) rfl rfl) rfl rfl hl.1 rfl (lv_room (Nat.le_of_ble_eq_true rfl)) dX7_end_2 ⟨Nat.le_of_ble_eq_true rfl, Nat.le_of_ble_eq_true rfl⟩) hS hA hP (fun r_1 H locs hw_1 hP hS => ?_)
  try dsimp only at hw_1
  rcases hw_1 with ⟨rfl, ⟨rfl, hw_1⟩ | ⟨rfl, hw_1⟩ | ⟨rfl, hw_1⟩⟩ | rfl
  · refine lv_if_ne (tgt := 12) hx hb dX7_end_5 (by decide) (fun _ => ?_) (fun h => absurd h (by decide))
    refine lv_aload_n hx hb dX7_end_12 rfl (lv_at hl 0 rfl) ?_
    refine lv_iload_n hx hb dX7_end_13 rfl (lv_at hl 1 rfl) ?_
    refine lv_iload_n hx hb dX7_end_14 rfl (lv_at hl 2 rfl) ?_
    refine ro_i (D := D) (va_runV (As := [.int 0, .int p1]) (rest := []) ⟨hx, hb, hml, hown, hts⟩ ((x_isRound_0 l D k st lo a rk lfa n0 see0 tm0 g0 p1 (by omega)) H.size) (cwV 2 hts (gV tw_613 tw_615 tw_10 tw_79 tw_616) rfl rfl rfl (by decide +kernel) ⟨Nat.le_of_ble_eq_true rfl, Nat.le_of_ble_eq_true rfl⟩) (pV hS hAlo hlo hP hK hDL hZ [0, 1, 3, 4] (by decide) rfl (ci := 7) (q := (RX7, TX7, 12)) (q0 := 0) rfl rfl) rfl rfl hl.1 rfl (lv_room (Nat.le_of_ble_eq_true rfl)) dX7_end_15 ⟨Nat.le_of_ble_eq_true rfl, Nat.le_of_ble_eq_true rfl⟩) hS hA hP (fun r_2 H locs hw_2 hP hS => ?_)
    try dsimp only at hw_2
    rcases hw_2 with ⟨rfl, ir_3, hir_3, rfl⟩ | rfl
    · refine lv_if_eq (tgt := 30) hx hb dX7_end_18 (by decide) (fun h => absurd h (by decide)) (fun _ => ?_)
      refine lv_iload_n hx hb dX7_end_21 rfl (lv_at hl 3 rfl) ?_
      refine lv_iconst (v := 0) hx hb dX7_end_22 (by decide) ?_
      refine lv_iconst (v := 1) hx hb dX7_end_23 (by decide) ?_
      refine ro_i (D := D) (va_runS (As := [.int p2, .int 0, .int 1]) (rest := []) ⟨hx, hb, hml, hown, hts⟩ ((k_isIn l D k st lo p2 0 1) H.size) (va_cwS 3 hts (gS tw_593 tw_594 tw_79 tw_595) rfl rfl rfl (by decide +kernel) ⟨Nat.le_of_ble_eq_true rfl, Nat.le_of_ble_eq_true rfl⟩) (pS hS hAlo hlo hP hK hDL hZ [] (by decide) rfl) rfl rfl hl.1 rfl (lv_room (Nat.le_of_ble_eq_true rfl)) dX7_end_24 ⟨Nat.le_of_ble_eq_true rfl, Nat.le_of_ble_eq_true rfl⟩) hS hA hP (fun r_4 H locs hw_4 hP hS => ?_)
      try dsimp only at hw_4
      rcases hw_4 with ⟨rfl, hw_4⟩ | ⟨rfl, hw_4⟩
      · refine lv_if_ne (tgt := 34) hx hb dX7_end_27 (by decide) (fun _ => ?_) (fun h => absurd h (by decide))
        refine lv_iload_n hx hb dX7_end_34 rfl (lv_at hl 3 rfl) ?_
        refine lv_if_ne (tgt := 50) hx hb dX7_end_35 (by decide) (fun c_5 => ?_) (fun c_5 => ?_)
        · refine lv_aload_n hx hb dX7_end_50 rfl (lv_at hl 0 rfl) ?_
          refine va_get (D := D) (ci := 7) (v := .ref (a 19)) (C := RX7) (T := TX7) (N := 12) hx hb hts inX7 hown hK hP 0 rfl rfl 2 (by decide) (hts _ tw_307) (fun _ h9 => h9) rfl dX7_end_51 ?_
          refine lv_iload_n hx hb dX7_end_54 rfl (lv_at hl 1 rfl) ?_
          refine va_aldq hx hb hK hP 2 4 rfl rfl (by unfold vp_in; decide) dX7_end_55 ?_
          refine lv_tr (y := .ref (a 20)) rfl ?_
          refine va_get (D := D) (ci := 0) (v := .ref (a 23)) (C := RX0) (T := TX0) (N := 5) hx hb hts inX0 hown hK hP 15 rfl rfl 3 (by decide) (hts _ tw_271) (fun _ h9 => h9) rfl dX7_end_56 ?_
          refine lv_iload_n hx hb dX7_end_59 rfl (lv_at hl 2 rfl) ?_
          refine va_iald hx hb hK hP 16 1 rfl rfl (vp_in_nI (by omega) (by decide)) dX7_end_60 ?_
          refine lv_ti (y := (en0 ir_3)) (by rw [nI_clamp (by omega)]) ?_
          refine lv_aload_n hx hb dX7_end_61 rfl (lv_at hl 0 rfl) ?_
          refine va_get (D := D) (ci := 7) (v := .ref (a 3)) (C := RX7) (T := TX7) (N := 12) hx hb hts inX7 hown hK hP 0 rfl rfl 1 (by decide) (hts _ tw_306) (fun _ h9 => h9) rfl dX7_end_62 ?_
          refine lv_iload_n hx hb dX7_end_65 rfl (lv_at hl 1 rfl) ?_
          refine va_aldq hx hb hK hP 1 3 rfl rfl (by unfold vp_in; decide) dX7_end_66 ?_
          refine lv_tr (y := .ref (a 4)) rfl ?_
          refine lv_iload_n hx hb dX7_end_67 rfl (lv_at hl 2 rfl) ?_
          refine ro_i (D := D) (va_runV (As := [.int (nI ir_3)]) (rest := [.int (en0 ir_3)]) ⟨hx, hb, hml, hown, hts⟩ ((x_garageOf l D k st lo (a 4) (a 5) (a 6) (a 7) (a 8) n0 see0 tm0 g0 fl0 ir_3 (by omega)) H.size) (cwV 1 hts (gV tw_649 tw_521 tw_522 tw_81 tw_523) rfl rfl rfl (by decide +kernel) ⟨Nat.le_of_ble_eq_true rfl, Nat.le_of_ble_eq_true rfl⟩) (pV hS hAlo hlo hP hK hDL hZ [3, 4, 6] (by decide) rfl (ci := 5) (q := (RX5, TX5, 4)) (q0 := 0) rfl rfl) rfl rfl hl.1 rfl (lv_room (Nat.le_of_ble_eq_true rfl)) dX7_end_68 ⟨Nat.le_of_ble_eq_true rfl, Nat.le_of_ble_eq_true rfl⟩) hS hA hP (fun r_6 H locs hw_6 hP hS => ?_)
          try dsimp only at hw_6
          refine lv_icmp_ge (tgt := 78) hx hb dX7_end_71 (by decide) (fun c_7 => ?_) (fun c_7 => ?_)
          · refine lv_iconst (v := 0) hx hb dX7_end_78 (by decide) ?_
            exact W.iret (v := 0) hx hb hr (fun t ht hW => ⟨⟨0, (), rfl, trivial, trivial⟩, hS.F ht⟩) hS.2.2 dX7_end_79
          · refine lv_iconst (v := 1) hx hb dX7_end_74 (by decide) ?_
            refine lv_goto (tgt := 79) hx hb dX7_end_75 (by decide) ?_
            exact W.iret (v := 1) hx hb hr (fun t ht hW => ⟨⟨1, (), rfl, trivial, trivial⟩, hS.F ht⟩) hS.2.2 dX7_end_79
        · refine lv_aload_n hx hb dX7_end_38 rfl (lv_at hl 0 rfl) ?_
          refine va_get (D := D) (ci := 7) (v := .ref (a 19)) (C := RX7) (T := TX7) (N := 12) hx hb hts inX7 hown hK hP 0 rfl rfl 2 (by decide) (hts _ tw_307) (fun _ h9 => h9) rfl dX7_end_39 ?_
          refine lv_iload_n hx hb dX7_end_42 rfl (lv_at hl 1 rfl) ?_
          refine va_aldq hx hb hK hP 2 4 rfl rfl (by unfold vp_in; decide) dX7_end_43 ?_
          refine lv_tr (y := .ref (a 20)) rfl ?_
          refine va_get (D := D) (ci := 0) (v := .ref (a 23)) (C := RX0) (T := TX0) (N := 5) hx hb hts inX0 hown hK hP 15 rfl rfl 3 (by decide) (hts _ tw_271) (fun _ h9 => h9) rfl dX7_end_44 ?_
          refine lv_iload_n hx hb dX7_end_47 rfl (lv_at hl 2 rfl) ?_
          refine va_iald hx hb hK hP 16 1 rfl rfl (vp_in_nI (by omega) (by decide)) dX7_end_48 ?_
          refine lv_ti (y := (en0 ir_3)) (by rw [nI_clamp (by omega)]) ?_
          exact W.iret (v := (en0 ir_3)) hx hb hr (fun t ht hW => ⟨⟨(en0 ir_3), (), rfl, trivial, trivial⟩, hS.F ht⟩) hS.2.2 dX7_end_49
      · refine lv_if_ne (tgt := 34) hx hb dX7_end_27 (by decide) (fun h => absurd (by decide) h) (fun _ => ?_)
        refine lv_sipush (v := (-1002)) hx hb dX7_end_30 (by decide) ?_
        exact W.iret (v := (-1002)) hx hb hr (fun t ht hW => ⟨⟨(-1002), (), rfl, trivial, trivial⟩, hS.F ht⟩) hS.2.2 dX7_end_33
    · refine lv_if_eq (tgt := 30) hx hb dX7_end_18 (by decide) (fun _ => ?_) (fun h => absurd (by decide) h)
      refine lv_sipush (v := (-1002)) hx hb dX7_end_30 (by decide) ?_
      exact W.iret (v := (-1002)) hx hb hr (fun t ht hW => ⟨⟨(-1002), (), rfl, trivial, trivial⟩, hS.F ht⟩) hS.2.2 dX7_end_33
  · refine lv_if_ne (tgt := 12) hx hb dX7_end_5 (by decide) (fun _ => ?_) (fun h => absurd h (by decide))
    refine lv_aload_n hx hb dX7_end_12 rfl (lv_at hl 0 rfl) ?_
    refine lv_iload_n hx hb dX7_end_13 rfl (lv_at hl 1 rfl) ?_
    refine lv_iload_n hx hb dX7_end_14 rfl (lv_at hl 2 rfl) ?_
    refine ro_i (D := D) (va_runV (As := [.int 1, .int p1]) (rest := []) ⟨hx, hb, hml, hown, hts⟩ ((x_isRound_1 l D k st lo a rk lfa n1 see1 tm1 g1 p1 (by omega)) H.size) (cwV 2 hts (gV tw_613 tw_615 tw_10 tw_79 tw_616) rfl rfl rfl (by decide +kernel) ⟨Nat.le_of_ble_eq_true rfl, Nat.le_of_ble_eq_true rfl⟩) (pV hS hAlo hlo hP hK hDL hZ [0, 1, 7, 8] (by decide) rfl (ci := 7) (q := (RX7, TX7, 12)) (q0 := 0) rfl rfl) rfl rfl hl.1 rfl (lv_room (Nat.le_of_ble_eq_true rfl)) dX7_end_15 ⟨Nat.le_of_ble_eq_true rfl, Nat.le_of_ble_eq_true rfl⟩) hS hA hP (fun r_8 H locs hw_8 hP hS => ?_)
    try dsimp only at hw_8
    rcases hw_8 with ⟨rfl, ir_9, hir_9, rfl⟩ | rfl
    · refine lv_if_eq (tgt := 30) hx hb dX7_end_18 (by decide) (fun h => absurd h (by decide)) (fun _ => ?_)
      refine lv_iload_n hx hb dX7_end_21 rfl (lv_at hl 3 rfl) ?_
      refine lv_iconst (v := 0) hx hb dX7_end_22 (by decide) ?_
      refine lv_iconst (v := 1) hx hb dX7_end_23 (by decide) ?_
      refine ro_i (D := D) (va_runS (As := [.int p2, .int 0, .int 1]) (rest := []) ⟨hx, hb, hml, hown, hts⟩ ((k_isIn l D k st lo p2 0 1) H.size) (va_cwS 3 hts (gS tw_593 tw_594 tw_79 tw_595) rfl rfl rfl (by decide +kernel) ⟨Nat.le_of_ble_eq_true rfl, Nat.le_of_ble_eq_true rfl⟩) (pS hS hAlo hlo hP hK hDL hZ [] (by decide) rfl) rfl rfl hl.1 rfl (lv_room (Nat.le_of_ble_eq_true rfl)) dX7_end_24 ⟨Nat.le_of_ble_eq_true rfl, Nat.le_of_ble_eq_true rfl⟩) hS hA hP (fun r_10 H locs hw_10 hP hS => ?_)
      try dsimp only at hw_10
      rcases hw_10 with ⟨rfl, hw_10⟩ | ⟨rfl, hw_10⟩
      · refine lv_if_ne (tgt := 34) hx hb dX7_end_27 (by decide) (fun _ => ?_) (fun h => absurd h (by decide))
        refine lv_iload_n hx hb dX7_end_34 rfl (lv_at hl 3 rfl) ?_
        refine lv_if_ne (tgt := 50) hx hb dX7_end_35 (by decide) (fun c_11 => ?_) (fun c_11 => ?_)
        · refine lv_aload_n hx hb dX7_end_50 rfl (lv_at hl 0 rfl) ?_
          refine va_get (D := D) (ci := 7) (v := .ref (a 19)) (C := RX7) (T := TX7) (N := 12) hx hb hts inX7 hown hK hP 0 rfl rfl 2 (by decide) (hts _ tw_307) (fun _ h9 => h9) rfl dX7_end_51 ?_
          refine lv_iload_n hx hb dX7_end_54 rfl (lv_at hl 1 rfl) ?_
          refine va_aldq hx hb hK hP 2 4 rfl rfl (by unfold vp_in; decide) dX7_end_55 ?_
          refine lv_tr (y := .ref (a 25)) rfl ?_
          refine va_get (D := D) (ci := 0) (v := .ref (a 28)) (C := RX0) (T := TX0) (N := 5) hx hb hts inX0 hown hK hP 17 rfl rfl 3 (by decide) (hts _ tw_271) (fun _ h9 => h9) rfl dX7_end_56 ?_
          refine lv_iload_n hx hb dX7_end_59 rfl (lv_at hl 2 rfl) ?_
          refine va_iald hx hb hK hP 18 1 rfl rfl (vp_in_nI (by omega) (by decide)) dX7_end_60 ?_
          refine lv_ti (y := (en1 ir_9)) (by rw [nI_clamp (by omega)]) ?_
          refine lv_aload_n hx hb dX7_end_61 rfl (lv_at hl 0 rfl) ?_
          refine va_get (D := D) (ci := 7) (v := .ref (a 3)) (C := RX7) (T := TX7) (N := 12) hx hb hts inX7 hown hK hP 0 rfl rfl 1 (by decide) (hts _ tw_306) (fun _ h9 => h9) rfl dX7_end_62 ?_
          refine lv_iload_n hx hb dX7_end_65 rfl (lv_at hl 1 rfl) ?_
          refine va_aldq hx hb hK hP 1 3 rfl rfl (by unfold vp_in; decide) dX7_end_66 ?_
          refine lv_tr (y := .ref (a 9)) rfl ?_
          refine lv_iload_n hx hb dX7_end_67 rfl (lv_at hl 2 rfl) ?_
          refine ro_i (D := D) (va_runV (As := [.int (nI ir_9)]) (rest := [.int (en1 ir_9)]) ⟨hx, hb, hml, hown, hts⟩ ((x_garageOf l D k st lo (a 9) (a 10) (a 11) (a 12) (a 13) n1 see1 tm1 g1 fl1 ir_9 (by omega)) H.size) (cwV 1 hts (gV tw_649 tw_521 tw_522 tw_81 tw_523) rfl rfl rfl (by decide +kernel) ⟨Nat.le_of_ble_eq_true rfl, Nat.le_of_ble_eq_true rfl⟩) (pV hS hAlo hlo hP hK hDL hZ [7, 8, 10] (by decide) rfl (ci := 5) (q := (RX5, TX5, 4)) (q0 := 0) rfl rfl) rfl rfl hl.1 rfl (lv_room (Nat.le_of_ble_eq_true rfl)) dX7_end_68 ⟨Nat.le_of_ble_eq_true rfl, Nat.le_of_ble_eq_true rfl⟩) hS hA hP (fun r_12 H locs hw_12 hP hS => ?_)
          try dsimp only at hw_12
          refine lv_icmp_ge (tgt := 78) hx hb dX7_end_71 (by decide) (fun c_13 => ?_) (fun c_13 => ?_)
          · refine lv_iconst (v := 0) hx hb dX7_end_78 (by decide) ?_
            exact W.iret (v := 0) hx hb hr (fun t ht hW => ⟨⟨0, (), rfl, trivial, trivial⟩, hS.F ht⟩) hS.2.2 dX7_end_79
          · refine lv_iconst (v := 1) hx hb dX7_end_74 (by decide) ?_
            refine lv_goto (tgt := 79) hx hb dX7_end_75 (by decide) ?_
            exact W.iret (v := 1) hx hb hr (fun t ht hW => ⟨⟨1, (), rfl, trivial, trivial⟩, hS.F ht⟩) hS.2.2 dX7_end_79
        · refine lv_aload_n hx hb dX7_end_38 rfl (lv_at hl 0 rfl) ?_
          refine va_get (D := D) (ci := 7) (v := .ref (a 19)) (C := RX7) (T := TX7) (N := 12) hx hb hts inX7 hown hK hP 0 rfl rfl 2 (by decide) (hts _ tw_307) (fun _ h9 => h9) rfl dX7_end_39 ?_
          refine lv_iload_n hx hb dX7_end_42 rfl (lv_at hl 1 rfl) ?_
          refine va_aldq hx hb hK hP 2 4 rfl rfl (by unfold vp_in; decide) dX7_end_43 ?_
          refine lv_tr (y := .ref (a 25)) rfl ?_
          refine va_get (D := D) (ci := 0) (v := .ref (a 28)) (C := RX0) (T := TX0) (N := 5) hx hb hts inX0 hown hK hP 17 rfl rfl 3 (by decide) (hts _ tw_271) (fun _ h9 => h9) rfl dX7_end_44 ?_
          refine lv_iload_n hx hb dX7_end_47 rfl (lv_at hl 2 rfl) ?_
          refine va_iald hx hb hK hP 18 1 rfl rfl (vp_in_nI (by omega) (by decide)) dX7_end_48 ?_
          refine lv_ti (y := (en1 ir_9)) (by rw [nI_clamp (by omega)]) ?_
          exact W.iret (v := (en1 ir_9)) hx hb hr (fun t ht hW => ⟨⟨(en1 ir_9), (), rfl, trivial, trivial⟩, hS.F ht⟩) hS.2.2 dX7_end_49
      · refine lv_if_ne (tgt := 34) hx hb dX7_end_27 (by decide) (fun h => absurd (by decide) h) (fun _ => ?_)
        refine lv_sipush (v := (-1002)) hx hb dX7_end_30 (by decide) ?_
        exact W.iret (v := (-1002)) hx hb hr (fun t ht hW => ⟨⟨(-1002), (), rfl, trivial, trivial⟩, hS.F ht⟩) hS.2.2 dX7_end_33
    · refine lv_if_eq (tgt := 30) hx hb dX7_end_18 (by decide) (fun _ => ?_) (fun h => absurd (by decide) h)
      refine lv_sipush (v := (-1002)) hx hb dX7_end_30 (by decide) ?_
      exact W.iret (v := (-1002)) hx hb hr (fun t ht hW => ⟨⟨(-1002), (), rfl, trivial, trivial⟩, hS.F ht⟩) hS.2.2 dX7_end_33
  · refine lv_if_ne (tgt := 12) hx hb dX7_end_5 (by decide) (fun _ => ?_) (fun h => absurd h (by decide))
    refine lv_aload_n hx hb dX7_end_12 rfl (lv_at hl 0 rfl) ?_
    refine lv_iload_n hx hb dX7_end_13 rfl (lv_at hl 1 rfl) ?_
    refine lv_iload_n hx hb dX7_end_14 rfl (lv_at hl 2 rfl) ?_
    refine ro_i (D := D) (va_runV (As := [.int 2, .int p1]) (rest := []) ⟨hx, hb, hml, hown, hts⟩ ((x_isRound_2 l D k st lo a rk lfa n2 see2 tm2 g2 p1 (by omega)) H.size) (cwV 2 hts (gV tw_613 tw_615 tw_10 tw_79 tw_616) rfl rfl rfl (by decide +kernel) ⟨Nat.le_of_ble_eq_true rfl, Nat.le_of_ble_eq_true rfl⟩) (pV hS hAlo hlo hP hK hDL hZ [0, 1, 11, 12] (by decide) rfl (ci := 7) (q := (RX7, TX7, 12)) (q0 := 0) rfl rfl) rfl rfl hl.1 rfl (lv_room (Nat.le_of_ble_eq_true rfl)) dX7_end_15 ⟨Nat.le_of_ble_eq_true rfl, Nat.le_of_ble_eq_true rfl⟩) hS hA hP (fun r_14 H locs hw_14 hP hS => ?_)
    try dsimp only at hw_14
    rcases hw_14 with ⟨rfl, ir_15, hir_15, rfl⟩ | rfl
    · refine lv_if_eq (tgt := 30) hx hb dX7_end_18 (by decide) (fun h => absurd h (by decide)) (fun _ => ?_)
      refine lv_iload_n hx hb dX7_end_21 rfl (lv_at hl 3 rfl) ?_
      refine lv_iconst (v := 0) hx hb dX7_end_22 (by decide) ?_
      refine lv_iconst (v := 1) hx hb dX7_end_23 (by decide) ?_
      refine ro_i (D := D) (va_runS (As := [.int p2, .int 0, .int 1]) (rest := []) ⟨hx, hb, hml, hown, hts⟩ ((k_isIn l D k st lo p2 0 1) H.size) (va_cwS 3 hts (gS tw_593 tw_594 tw_79 tw_595) rfl rfl rfl (by decide +kernel) ⟨Nat.le_of_ble_eq_true rfl, Nat.le_of_ble_eq_true rfl⟩) (pS hS hAlo hlo hP hK hDL hZ [] (by decide) rfl) rfl rfl hl.1 rfl (lv_room (Nat.le_of_ble_eq_true rfl)) dX7_end_24 ⟨Nat.le_of_ble_eq_true rfl, Nat.le_of_ble_eq_true rfl⟩) hS hA hP (fun r_16 H locs hw_16 hP hS => ?_)
      try dsimp only at hw_16
      rcases hw_16 with ⟨rfl, hw_16⟩ | ⟨rfl, hw_16⟩
      · refine lv_if_ne (tgt := 34) hx hb dX7_end_27 (by decide) (fun _ => ?_) (fun h => absurd h (by decide))
        refine lv_iload_n hx hb dX7_end_34 rfl (lv_at hl 3 rfl) ?_
        refine lv_if_ne (tgt := 50) hx hb dX7_end_35 (by decide) (fun c_17 => ?_) (fun c_17 => ?_)
        · refine lv_aload_n hx hb dX7_end_50 rfl (lv_at hl 0 rfl) ?_
          refine va_get (D := D) (ci := 7) (v := .ref (a 19)) (C := RX7) (T := TX7) (N := 12) hx hb hts inX7 hown hK hP 0 rfl rfl 2 (by decide) (hts _ tw_307) (fun _ h9 => h9) rfl dX7_end_51 ?_
          refine lv_iload_n hx hb dX7_end_54 rfl (lv_at hl 1 rfl) ?_
          refine va_aldq hx hb hK hP 2 4 rfl rfl (by unfold vp_in; decide) dX7_end_55 ?_
          refine lv_tr (y := .ref (a 30)) rfl ?_
          refine va_get (D := D) (ci := 0) (v := .ref (a 33)) (C := RX0) (T := TX0) (N := 5) hx hb hts inX0 hown hK hP 19 rfl rfl 3 (by decide) (hts _ tw_271) (fun _ h9 => h9) rfl dX7_end_56 ?_
          refine lv_iload_n hx hb dX7_end_59 rfl (lv_at hl 2 rfl) ?_
          refine va_iald hx hb hK hP 20 1 rfl rfl (vp_in_nI (by omega) (by decide)) dX7_end_60 ?_
          refine lv_ti (y := (en2 ir_15)) (by rw [nI_clamp (by omega)]) ?_
          refine lv_aload_n hx hb dX7_end_61 rfl (lv_at hl 0 rfl) ?_
          refine va_get (D := D) (ci := 7) (v := .ref (a 3)) (C := RX7) (T := TX7) (N := 12) hx hb hts inX7 hown hK hP 0 rfl rfl 1 (by decide) (hts _ tw_306) (fun _ h9 => h9) rfl dX7_end_62 ?_
          refine lv_iload_n hx hb dX7_end_65 rfl (lv_at hl 1 rfl) ?_
          refine va_aldq hx hb hK hP 1 3 rfl rfl (by unfold vp_in; decide) dX7_end_66 ?_
          refine lv_tr (y := .ref (a 14)) rfl ?_
          refine lv_iload_n hx hb dX7_end_67 rfl (lv_at hl 2 rfl) ?_
          refine ro_i (D := D) (va_runV (As := [.int (nI ir_15)]) (rest := [.int (en2 ir_15)]) ⟨hx, hb, hml, hown, hts⟩ ((x_garageOf l D k st lo (a 14) (a 15) (a 16) (a 17) (a 18) n2 see2 tm2 g2 fl2 ir_15 (by omega)) H.size) (cwV 1 hts (gV tw_649 tw_521 tw_522 tw_81 tw_523) rfl rfl rfl (by decide +kernel) ⟨Nat.le_of_ble_eq_true rfl, Nat.le_of_ble_eq_true rfl⟩) (pV hS hAlo hlo hP hK hDL hZ [11, 12, 14] (by decide) rfl (ci := 5) (q := (RX5, TX5, 4)) (q0 := 0) rfl rfl) rfl rfl hl.1 rfl (lv_room (Nat.le_of_ble_eq_true rfl)) dX7_end_68 ⟨Nat.le_of_ble_eq_true rfl, Nat.le_of_ble_eq_true rfl⟩) hS hA hP (fun r_18 H locs hw_18 hP hS => ?_)
          try dsimp only at hw_18
          refine lv_icmp_ge (tgt := 78) hx hb dX7_end_71 (by decide) (fun c_19 => ?_) (fun c_19 => ?_)
          · refine lv_iconst (v := 0) hx hb dX7_end_78 (by decide) ?_
            exact W.iret (v := 0) hx hb hr (fun t ht hW => ⟨⟨0, (), rfl, trivial, trivial⟩, hS.F ht⟩) hS.2.2 dX7_end_79
          · refine lv_iconst (v := 1) hx hb dX7_end_74 (by decide) ?_
            refine lv_goto (tgt := 79) hx hb dX7_end_75 (by decide) ?_
            exact W.iret (v := 1) hx hb hr (fun t ht hW => ⟨⟨1, (), rfl, trivial, trivial⟩, hS.F ht⟩) hS.2.2 dX7_end_79
        · refine lv_aload_n hx hb dX7_end_38 rfl (lv_at hl 0 rfl) ?_
          refine va_get (D := D) (ci := 7) (v := .ref (a 19)) (C := RX7) (T := TX7) (N := 12) hx hb hts inX7 hown hK hP 0 rfl rfl 2 (by decide) (hts _ tw_307) (fun _ h9 => h9) rfl dX7_end_39 ?_
          refine lv_iload_n hx hb dX7_end_42 rfl (lv_at hl 1 rfl) ?_
          refine va_aldq hx hb hK hP 2 4 rfl rfl (by unfold vp_in; decide) dX7_end_43 ?_
          refine lv_tr (y := .ref (a 30)) rfl ?_
          refine va_get (D := D) (ci := 0) (v := .ref (a 33)) (C := RX0) (T := TX0) (N := 5) hx hb hts inX0 hown hK hP 19 rfl rfl 3 (by decide) (hts _ tw_271) (fun _ h9 => h9) rfl dX7_end_44 ?_
          refine lv_iload_n hx hb dX7_end_47 rfl (lv_at hl 2 rfl) ?_
          refine va_iald hx hb hK hP 20 1 rfl rfl (vp_in_nI (by omega) (by decide)) dX7_end_48 ?_
          refine lv_ti (y := (en2 ir_15)) (by rw [nI_clamp (by omega)]) ?_
          exact W.iret (v := (en2 ir_15)) hx hb hr (fun t ht hW => ⟨⟨(en2 ir_15), (), rfl, trivial, trivial⟩, hS.F ht⟩) hS.2.2 dX7_end_49
      · refine lv_if_ne (tgt := 34) hx hb dX7_end_27 (by decide) (fun h => absurd (by decide) h) (fun _ => ?_)
        refine lv_sipush (v := (-1002)) hx hb dX7_end_30 (by decide) ?_
        exact W.iret (v := (-1002)) hx hb hr (fun t ht hW => ⟨⟨(-1002), (), rfl, trivial, trivial⟩, hS.F ht⟩) hS.2.2 dX7_end_33
    · refine lv_if_eq (tgt := 30) hx hb dX7_end_18 (by decide) (fun _ => ?_) (fun h => absurd (by decide) h)
      refine lv_sipush (v := (-1002)) hx hb dX7_end_30 (by decide) ?_
      exact W.iret (v := (-1002)) hx hb hr (fun t ht hW => ⟨⟨(-1002), (), rfl, trivial, trivial⟩, hS.F ht⟩) hS.2.2 dX7_end_33
  · refine lv_if_ne (tgt := 12) hx hb dX7_end_5 (by decide) (fun h => absurd (by decide) h) (fun _ => ?_)
    refine lv_sipush (v := (-1001)) hx hb dX7_end_8 (by decide) ?_
    exact W.iret (v := (-1001)) hx hb hr (fun t ht hW => ⟨⟨(-1001), (), rfl, trivial, trivial⟩, hS.F ht⟩) hS.2.2 dX7_end_11

theorem dX7_bar_0 : decode cX7_bar 0 = .ok (.aload_n 0, 1) := by decide +kernel
theorem dX7_bar_1 : decode cX7_bar 1 = .ok (.iload_n 1, 1) := by decide +kernel
theorem dX7_bar_2 : decode cX7_bar 2 = .ok (.invokevirtual 108, 3) := by decide +kernel
theorem dX7_bar_5 : decode cX7_bar 5 = .ok (.ifCond .ne 7, 3) := by decide +kernel
theorem dX7_bar_8 : decode cX7_bar 8 = .ok (.sipush (-1001), 3) := by decide +kernel
theorem dX7_bar_11 : decode cX7_bar 11 = .ok (.ireturn, 1) := by decide +kernel
theorem dX7_bar_12 : decode cX7_bar 12 = .ok (.aload_n 0, 1) := by decide +kernel
theorem dX7_bar_13 : decode cX7_bar 13 = .ok (.iload_n 1, 1) := by decide +kernel
theorem dX7_bar_14 : decode cX7_bar 14 = .ok (.iload_n 2, 1) := by decide +kernel
theorem dX7_bar_15 : decode cX7_bar 15 = .ok (.invokevirtual 134, 3) := by decide +kernel
theorem dX7_bar_18 : decode cX7_bar 18 = .ok (.ifCond .eq 16, 3) := by decide +kernel
theorem dX7_bar_21 : decode cX7_bar 21 = .ok (.aload_n 0, 1) := by decide +kernel
theorem dX7_bar_22 : decode cX7_bar 22 = .ok (.getfield 24, 3) := by decide +kernel
theorem dX7_bar_25 : decode cX7_bar 25 = .ok (.iload_n 1, 1) := by decide +kernel
theorem dX7_bar_26 : decode cX7_bar 26 = .ok (.aaload, 1) := by decide +kernel
theorem dX7_bar_27 : decode cX7_bar 27 = .ok (.iload_n 2, 1) := by decide +kernel
theorem dX7_bar_28 : decode cX7_bar 28 = .ok (.invokevirtual 165, 3) := by decide +kernel
theorem dX7_bar_31 : decode cX7_bar 31 = .ok (.goto 6, 3) := by decide +kernel
theorem dX7_bar_34 : decode cX7_bar 34 = .ok (.sipush (-1002), 3) := by decide +kernel
theorem dX7_bar_37 : decode cX7_bar 37 = .ok (.ireturn, 1) := by decide +kernel
set_option maxHeartbeats 4000000 in
set_option maxRecDepth 100000 in
theorem x_bar (l : Launch) (D : va_G) (k : Nat → ClassId) (st : Nat → Nat) (lo : Nat) (a : Nat → Nat) (rk : Nat) (lfa : Int32) (n0 : Nat) (see0 : Nat) (tm0 : Nat) (g0 : Nat → Int32) (fp0 : Nat → Int32) (fl0 : Nat → Int32) (n1 : Nat) (see1 : Nat) (tm1 : Nat) (g1 : Nat → Int32) (fp1 : Nat → Int32) (fl1 : Nat → Int32) (n2 : Nat) (see2 : Nat) (tm2 : Nat) (g2 : Nat → Int32) (fp2 : Nat → Int32) (fl2 : Nat → Int32) (on0 : Nat → Int32) (on1 : Nat → Int32) (on2 : Nat → Int32) (p0 : Int32) (p1 : Int32) (hn0 : n0 ≤ 24) (hse0 : see0 ≤ 2) (htm0 : tm0 ≤ 3) (hn1 : n1 ≤ 24) (hse1 : see1 ≤ 2) (htm1 : tm1 ≤ 3) (hn2 : n2 ≤ 24) (hse2 : see2 ≤ 2) (htm2 : tm2 ≤ 3) : CRi l D k st lo yX7_bar cX7_bar 3 (some .int) ({ frames := 5, cells := 0, slots := 0, locals := 127 }) [.ref (a 0), .int p0, .int p1] [((a 0), .inr (7, (fX7 (a 1) (a 3) (a 19) (a 35) (a 40) (nI rk) lfa (a 53) (a 56) (a 63) (a 64) (a 68)))), ((a 3), .inl (k 3, 3, .inr (.inr (.inr (.inr (a3 (a 4) (a 9) (a 14))))))), ((a 19), .inl (k 4, 3, .inr (.inr (.inr (.inr (a3 (a 20) (a 25) (a 30))))))), ((a 4), .inr (5, (fX5 (a 5) (a 6) (a 7) (a 8)))), (aI k (a 5) 10 (vv n0 see0 tm0 g0)), (aI k (a 7) 24 fp0), (aI k (a 8) 4 fl0), ((a 9), .inr (5, (fX5 (a 10) (a 11) (a 12) (a 13)))), (aI k (a 10) 10 (vv n1 see1 tm1 g1)), (aI k (a 12) 24 fp1), (aI k (a 13) 4 fl1), ((a 14), .inr (5, (fX5 (a 15) (a 16) (a 17) (a 18)))), (aI k (a 15) 10 (vv n2 see2 tm2 g2)), (aI k (a 17) 24 fp2), (aI k (a 18) 4 fl2), ((a 20), .inr (0, (fX0 (a 4) (a 21) (a 22) (a 23) (a 24)))), (aI k (a 21) 768 on0), ((a 25), .inr (0, (fX0 (a 9) (a 26) (a 27) (a 28) (a 29)))), (aI k (a 26) 768 on1), ((a 30), .inr (0, (fX0 (a 14) (a 31) (a 32) (a 33) (a 34)))), (aI k (a 31) 768 on2)] (fun _ => True) := by
  intro sz
  refine Met.ofW (cc := cX7_bar) (maxL := 3) (ret := (some .int)) (by decide) rfl ?_
  intro p e s m args below meth c s₁ B hml hv
  obtain ⟨rfl, hsz, hlo, hP, hK, hDL, hZ⟩ := hv
  have hx := B.exec
  have hb := B.bytes
  have hr := B.returns
  have hts := WS_ts B.pre
  have hown : s.vm.findClass RX7 = some m.cls := findClass_of_methodNamed B.named
  have hlocks := B.notSynchronized
  subst hsz
  have hA : ∀ q : Nat, s.heap.size ≤ q → (fun q : Nat => s.heap.size ≤ q) q := fun _ h => h
  have hAlo : ∀ q : Nat, (fun q : Nat => s.heap.size ≤ q) q → lo ≤ q := fun q h => Nat.le_trans hlo h
  have hS : va_S (fun q : Nat => s.heap.size ≤ q) s.heap s.heap [] := va_S.rf
  have hl := lv_entry ([.ref (a 0), .int p0, .int p1]) (n := 3) (Nat.le_of_ble_eq_true rfl)
  rw [lg_entry_eq]
  generalize (lg_sl ([.ref (a 0), .int p0, .int p1]) ++ List.replicate (3 - (lg_sl ([.ref (a 0), .int p0, .int p1])).length) Slot.unset).toArray = ls at hl ⊢
  have hl : lv_has ls 3 [(0, .ref (a 0)), (1, .int p0), (2, .int p1)] := hl
  refine lv_aload_n hx hb dX7_bar_0 rfl (lv_at hl 0 rfl) ?_
  refine lv_iload_n hx hb dX7_bar_1 rfl (lv_at hl 1 rfl) ?_
  refine ro_i (D := D) (va_runV (As := [.int p0]) (rest := []) ⟨hx, hb, hml, hown, hts⟩ ((x_isStreet l D k st lo a rk lfa n0 see0 tm0 g0 n1 see1 tm1 g1 n2 see2 tm2 g2 p0 (by omega) (by omega) (by omega)) s.heap.size) (cwV 1 hts (gV tw_589 tw_591 tw_8 tw_79 tw_592) rfl rfl rfl (by decide +kernel) ⟨Nat.le_of_ble_eq_true rfl, Nat.le_of_ble_eq_true rfl⟩) (pV hS hAlo hlo hP hK hDL hZ [0, 1, 3, 4, 7, 8, 11, 12] (by decide) rfl (ci := 7) (q := (RX7, TX7, 12)) (q0 := 0) rfl rfl) rfl rfl hl.1 rfl (lv_room (Nat.le_of_ble_eq_true rfl)) dX7_bar_2 ⟨Nat.le_of_ble_eq_true rfl, Nat.le_of_ble_eq_true rfl⟩) hS hA hP (fun r_1 H locs hw_1 hP hS => ?_)
  try dsimp only at hw_1
  rcases hw_1 with ⟨rfl, ⟨rfl, hw_1⟩ | ⟨rfl, hw_1⟩ | ⟨rfl, hw_1⟩⟩ | rfl
  · refine lv_if_ne (tgt := 12) hx hb dX7_bar_5 (by decide) (fun _ => ?_) (fun h => absurd h (by decide))
    refine lv_aload_n hx hb dX7_bar_12 rfl (lv_at hl 0 rfl) ?_
    refine lv_iload_n hx hb dX7_bar_13 rfl (lv_at hl 1 rfl) ?_
    refine lv_iload_n hx hb dX7_bar_14 rfl (lv_at hl 2 rfl) ?_
    refine ro_i (D := D) (va_runV (As := [.int 0, .int p1]) (rest := []) ⟨hx, hb, hml, hown, hts⟩ ((x_isRound_0 l D k st lo a rk lfa n0 see0 tm0 g0 p1 (by omega)) H.size) (cwV 2 hts (gV tw_613 tw_615 tw_10 tw_79 tw_616) rfl rfl rfl (by decide +kernel) ⟨Nat.le_of_ble_eq_true rfl, Nat.le_of_ble_eq_true rfl⟩) (pV hS hAlo hlo hP hK hDL hZ [0, 1, 3, 4] (by decide) rfl (ci := 7) (q := (RX7, TX7, 12)) (q0 := 0) rfl rfl) rfl rfl hl.1 rfl (lv_room (Nat.le_of_ble_eq_true rfl)) dX7_bar_15 ⟨Nat.le_of_ble_eq_true rfl, Nat.le_of_ble_eq_true rfl⟩) hS hA hP (fun r_2 H locs hw_2 hP hS => ?_)
    try dsimp only at hw_2
    rcases hw_2 with ⟨rfl, ir_3, hir_3, rfl⟩ | rfl
    · refine lv_if_eq (tgt := 34) hx hb dX7_bar_18 (by decide) (fun h => absurd h (by decide)) (fun _ => ?_)
      refine lv_aload_n hx hb dX7_bar_21 rfl (lv_at hl 0 rfl) ?_
      refine va_get (D := D) (ci := 7) (v := .ref (a 19)) (C := RX7) (T := TX7) (N := 12) hx hb hts inX7 hown hK hP 0 rfl rfl 2 (by decide) (hts _ tw_307) (fun _ h9 => h9) rfl dX7_bar_22 ?_
      refine lv_iload_n hx hb dX7_bar_25 rfl (lv_at hl 1 rfl) ?_
      refine va_aldq hx hb hK hP 2 4 rfl rfl (by unfold vp_in; decide) dX7_bar_26 ?_
      refine lv_tr (y := .ref (a 20)) rfl ?_
      refine lv_iload_n hx hb dX7_bar_27 rfl (lv_at hl 2 rfl) ?_
      refine ro_i (D := D) (va_runV (As := [.int (nI ir_3)]) (rest := []) ⟨hx, hb, hml, hown, hts⟩ ((x_barOf l D k st lo (a 4) (a 5) (a 6) (a 7) (a 8) n0 see0 tm0 g0 fp0 fl0 (a 20) (a 21) (a 22) (a 23) (a 24) on0 ir_3 (by omega) (by omega) (by omega)) H.size) (cwV 1 hts (gV tw_654 tw_655 tw_656 tw_85 tw_657) rfl rfl rfl (by decide +kernel) ⟨Nat.le_of_ble_eq_true rfl, Nat.le_of_ble_eq_true rfl⟩) (pV hS hAlo hlo hP hK hDL hZ [3, 4, 5, 6, 15, 16] (by decide) rfl (ci := 0) (q := (RX0, TX0, 5)) (q0 := 4) rfl rfl) rfl rfl hl.1 rfl (lv_room (Nat.le_of_ble_eq_true rfl)) dX7_bar_28 ⟨Nat.le_of_ble_eq_true rfl, Nat.le_of_ble_eq_true rfl⟩) hS hA hP (fun r_4 H locs hw_4 hP hS => ?_)
      try dsimp only at hw_4
      refine lv_goto (tgt := 37) hx hb dX7_bar_31 (by decide) ?_
      exact W.iret (v := r_4) hx hb hr (fun t ht hW => ⟨⟨r_4, (), rfl, trivial, trivial⟩, hS.F ht⟩) hS.2.2 dX7_bar_37
    · refine lv_if_eq (tgt := 34) hx hb dX7_bar_18 (by decide) (fun _ => ?_) (fun h => absurd (by decide) h)
      refine lv_sipush (v := (-1002)) hx hb dX7_bar_34 (by decide) ?_
      exact W.iret (v := (-1002)) hx hb hr (fun t ht hW => ⟨⟨(-1002), (), rfl, trivial, trivial⟩, hS.F ht⟩) hS.2.2 dX7_bar_37
  · refine lv_if_ne (tgt := 12) hx hb dX7_bar_5 (by decide) (fun _ => ?_) (fun h => absurd h (by decide))
    refine lv_aload_n hx hb dX7_bar_12 rfl (lv_at hl 0 rfl) ?_
    refine lv_iload_n hx hb dX7_bar_13 rfl (lv_at hl 1 rfl) ?_
    refine lv_iload_n hx hb dX7_bar_14 rfl (lv_at hl 2 rfl) ?_
    refine ro_i (D := D) (va_runV (As := [.int 1, .int p1]) (rest := []) ⟨hx, hb, hml, hown, hts⟩ ((x_isRound_1 l D k st lo a rk lfa n1 see1 tm1 g1 p1 (by omega)) H.size) (cwV 2 hts (gV tw_613 tw_615 tw_10 tw_79 tw_616) rfl rfl rfl (by decide +kernel) ⟨Nat.le_of_ble_eq_true rfl, Nat.le_of_ble_eq_true rfl⟩) (pV hS hAlo hlo hP hK hDL hZ [0, 1, 7, 8] (by decide) rfl (ci := 7) (q := (RX7, TX7, 12)) (q0 := 0) rfl rfl) rfl rfl hl.1 rfl (lv_room (Nat.le_of_ble_eq_true rfl)) dX7_bar_15 ⟨Nat.le_of_ble_eq_true rfl, Nat.le_of_ble_eq_true rfl⟩) hS hA hP (fun r_5 H locs hw_5 hP hS => ?_)
    try dsimp only at hw_5
    rcases hw_5 with ⟨rfl, ir_6, hir_6, rfl⟩ | rfl
    · refine lv_if_eq (tgt := 34) hx hb dX7_bar_18 (by decide) (fun h => absurd h (by decide)) (fun _ => ?_)
      refine lv_aload_n hx hb dX7_bar_21 rfl (lv_at hl 0 rfl) ?_
      refine va_get (D := D) (ci := 7) (v := .ref (a 19)) (C := RX7) (T := TX7) (N := 12) hx hb hts inX7 hown hK hP 0 rfl rfl 2 (by decide) (hts _ tw_307) (fun _ h9 => h9) rfl dX7_bar_22 ?_
      refine lv_iload_n hx hb dX7_bar_25 rfl (lv_at hl 1 rfl) ?_
      refine va_aldq hx hb hK hP 2 4 rfl rfl (by unfold vp_in; decide) dX7_bar_26 ?_
      refine lv_tr (y := .ref (a 25)) rfl ?_
      refine lv_iload_n hx hb dX7_bar_27 rfl (lv_at hl 2 rfl) ?_
      refine ro_i (D := D) (va_runV (As := [.int (nI ir_6)]) (rest := []) ⟨hx, hb, hml, hown, hts⟩ ((x_barOf l D k st lo (a 9) (a 10) (a 11) (a 12) (a 13) n1 see1 tm1 g1 fp1 fl1 (a 25) (a 26) (a 27) (a 28) (a 29) on1 ir_6 (by omega) (by omega) (by omega)) H.size) (cwV 1 hts (gV tw_654 tw_655 tw_656 tw_85 tw_657) rfl rfl rfl (by decide +kernel) ⟨Nat.le_of_ble_eq_true rfl, Nat.le_of_ble_eq_true rfl⟩) (pV hS hAlo hlo hP hK hDL hZ [7, 8, 9, 10, 17, 18] (by decide) rfl (ci := 0) (q := (RX0, TX0, 5)) (q0 := 4) rfl rfl) rfl rfl hl.1 rfl (lv_room (Nat.le_of_ble_eq_true rfl)) dX7_bar_28 ⟨Nat.le_of_ble_eq_true rfl, Nat.le_of_ble_eq_true rfl⟩) hS hA hP (fun r_7 H locs hw_7 hP hS => ?_)
      try dsimp only at hw_7
      refine lv_goto (tgt := 37) hx hb dX7_bar_31 (by decide) ?_
      exact W.iret (v := r_7) hx hb hr (fun t ht hW => ⟨⟨r_7, (), rfl, trivial, trivial⟩, hS.F ht⟩) hS.2.2 dX7_bar_37
    · refine lv_if_eq (tgt := 34) hx hb dX7_bar_18 (by decide) (fun _ => ?_) (fun h => absurd (by decide) h)
      refine lv_sipush (v := (-1002)) hx hb dX7_bar_34 (by decide) ?_
      exact W.iret (v := (-1002)) hx hb hr (fun t ht hW => ⟨⟨(-1002), (), rfl, trivial, trivial⟩, hS.F ht⟩) hS.2.2 dX7_bar_37
  · refine lv_if_ne (tgt := 12) hx hb dX7_bar_5 (by decide) (fun _ => ?_) (fun h => absurd h (by decide))
    refine lv_aload_n hx hb dX7_bar_12 rfl (lv_at hl 0 rfl) ?_
    refine lv_iload_n hx hb dX7_bar_13 rfl (lv_at hl 1 rfl) ?_
    refine lv_iload_n hx hb dX7_bar_14 rfl (lv_at hl 2 rfl) ?_
    refine ro_i (D := D) (va_runV (As := [.int 2, .int p1]) (rest := []) ⟨hx, hb, hml, hown, hts⟩ ((x_isRound_2 l D k st lo a rk lfa n2 see2 tm2 g2 p1 (by omega)) H.size) (cwV 2 hts (gV tw_613 tw_615 tw_10 tw_79 tw_616) rfl rfl rfl (by decide +kernel) ⟨Nat.le_of_ble_eq_true rfl, Nat.le_of_ble_eq_true rfl⟩) (pV hS hAlo hlo hP hK hDL hZ [0, 1, 11, 12] (by decide) rfl (ci := 7) (q := (RX7, TX7, 12)) (q0 := 0) rfl rfl) rfl rfl hl.1 rfl (lv_room (Nat.le_of_ble_eq_true rfl)) dX7_bar_15 ⟨Nat.le_of_ble_eq_true rfl, Nat.le_of_ble_eq_true rfl⟩) hS hA hP (fun r_8 H locs hw_8 hP hS => ?_)
    try dsimp only at hw_8
    rcases hw_8 with ⟨rfl, ir_9, hir_9, rfl⟩ | rfl
    · refine lv_if_eq (tgt := 34) hx hb dX7_bar_18 (by decide) (fun h => absurd h (by decide)) (fun _ => ?_)
      refine lv_aload_n hx hb dX7_bar_21 rfl (lv_at hl 0 rfl) ?_
      refine va_get (D := D) (ci := 7) (v := .ref (a 19)) (C := RX7) (T := TX7) (N := 12) hx hb hts inX7 hown hK hP 0 rfl rfl 2 (by decide) (hts _ tw_307) (fun _ h9 => h9) rfl dX7_bar_22 ?_
      refine lv_iload_n hx hb dX7_bar_25 rfl (lv_at hl 1 rfl) ?_
      refine va_aldq hx hb hK hP 2 4 rfl rfl (by unfold vp_in; decide) dX7_bar_26 ?_
      refine lv_tr (y := .ref (a 30)) rfl ?_
      refine lv_iload_n hx hb dX7_bar_27 rfl (lv_at hl 2 rfl) ?_
      refine ro_i (D := D) (va_runV (As := [.int (nI ir_9)]) (rest := []) ⟨hx, hb, hml, hown, hts⟩ ((x_barOf l D k st lo (a 14) (a 15) (a 16) (a 17) (a 18) n2 see2 tm2 g2 fp2 fl2 (a 30) (a 31) (a 32) (a 33) (a 34) on2 ir_9 (by omega) (by omega) (by omega)) H.size) (cwV 1 hts (gV tw_654 tw_655 tw_656 tw_85 tw_657) rfl rfl rfl (by decide +kernel) ⟨Nat.le_of_ble_eq_true rfl, Nat.le_of_ble_eq_true rfl⟩) (pV hS hAlo hlo hP hK hDL hZ [11, 12, 13, 14, 19, 20] (by decide) rfl (ci := 0) (q := (RX0, TX0, 5)) (q0 := 4) rfl rfl) rfl rfl hl.1 rfl (lv_room (Nat.le_of_ble_eq_true rfl)) dX7_bar_28 ⟨Nat.le_of_ble_eq_true rfl, Nat.le_of_ble_eq_true rfl⟩) hS hA hP (fun r_10 H locs hw_10 hP hS => ?_)
      try dsimp only at hw_10
      refine lv_goto (tgt := 37) hx hb dX7_bar_31 (by decide) ?_
      exact W.iret (v := r_10) hx hb hr (fun t ht hW => ⟨⟨r_10, (), rfl, trivial, trivial⟩, hS.F ht⟩) hS.2.2 dX7_bar_37
    · refine lv_if_eq (tgt := 34) hx hb dX7_bar_18 (by decide) (fun _ => ?_) (fun h => absurd (by decide) h)
      refine lv_sipush (v := (-1002)) hx hb dX7_bar_34 (by decide) ?_
      exact W.iret (v := (-1002)) hx hb hr (fun t ht hW => ⟨⟨(-1002), (), rfl, trivial, trivial⟩, hS.F ht⟩) hS.2.2 dX7_bar_37
  · refine lv_if_ne (tgt := 12) hx hb dX7_bar_5 (by decide) (fun h => absurd (by decide) h) (fun _ => ?_)
    refine lv_sipush (v := (-1001)) hx hb dX7_bar_8 (by decide) ?_
    exact W.iret (v := (-1001)) hx hb hr (fun t ht hW => ⟨⟨(-1001), (), rfl, trivial, trivial⟩, hS.F ht⟩) hS.2.2 dX7_bar_11

theorem dX7_which_0 : decode cX7_which 0 = .ok (.aload_n 0, 1) := by decide +kernel
theorem dX7_which_1 : decode cX7_which 1 = .ok (.iload_n 1, 1) := by decide +kernel
theorem dX7_which_2 : decode cX7_which 2 = .ok (.invokevirtual 108, 3) := by decide +kernel
theorem dX7_which_5 : decode cX7_which 5 = .ok (.ifCond .eq 11, 3) := by decide +kernel
theorem dX7_which_8 : decode cX7_which 8 = .ok (.aload_n 0, 1) := by decide +kernel
theorem dX7_which_9 : decode cX7_which 9 = .ok (.iload_n 2, 1) := by decide +kernel
theorem dX7_which_10 : decode cX7_which 10 = .ok (.invokevirtual 108, 3) := by decide +kernel
theorem dX7_which_13 : decode cX7_which 13 = .ok (.ifCond .ne 7, 3) := by decide +kernel
theorem dX7_which_16 : decode cX7_which 16 = .ok (.sipush (-1001), 3) := by decide +kernel
theorem dX7_which_19 : decode cX7_which 19 = .ok (.ireturn, 1) := by decide +kernel
theorem dX7_which_20 : decode cX7_which 20 = .ok (.aload_n 0, 1) := by decide +kernel
theorem dX7_which_21 : decode cX7_which 21 = .ok (.getfield 24, 3) := by decide +kernel
theorem dX7_which_24 : decode cX7_which 24 = .ok (.iload_n 2, 1) := by decide +kernel
theorem dX7_which_25 : decode cX7_which 25 = .ok (.aaload, 1) := by decide +kernel
theorem dX7_which_26 : decode cX7_which 26 = .ok (.getfield 155, 3) := by decide +kernel
theorem dX7_which_29 : decode cX7_which 29 = .ok (.iconst 0, 1) := by decide +kernel
theorem dX7_which_30 : decode cX7_which 30 = .ok (.iaload, 1) := by decide +kernel
theorem dX7_which_31 : decode cX7_which 31 = .ok (.aload_n 0, 1) := by decide +kernel
theorem dX7_which_32 : decode cX7_which 32 = .ok (.getfield 24, 3) := by decide +kernel
theorem dX7_which_35 : decode cX7_which 35 = .ok (.iload_n 1, 1) := by decide +kernel
theorem dX7_which_36 : decode cX7_which 36 = .ok (.aaload, 1) := by decide +kernel
theorem dX7_which_37 : decode cX7_which 37 = .ok (.getfield 155, 3) := by decide +kernel
theorem dX7_which_40 : decode cX7_which 40 = .ok (.iconst 0, 1) := by decide +kernel
theorem dX7_which_41 : decode cX7_which 41 = .ok (.iaload, 1) := by decide +kernel
theorem dX7_which_42 : decode cX7_which 42 = .ok (.if_icmp .ge 7, 3) := by decide +kernel
theorem dX7_which_45 : decode cX7_which 45 = .ok (.iload_n 2, 1) := by decide +kernel
theorem dX7_which_46 : decode cX7_which 46 = .ok (.goto 4, 3) := by decide +kernel
theorem dX7_which_49 : decode cX7_which 49 = .ok (.iload_n 1, 1) := by decide +kernel
theorem dX7_which_50 : decode cX7_which 50 = .ok (.ireturn, 1) := by decide +kernel
set_option maxHeartbeats 4000000 in
set_option maxRecDepth 100000 in
theorem x_which (l : Launch) (D : va_G) (k : Nat → ClassId) (st : Nat → Nat) (lo : Nat) (a : Nat → Nat) (rk : Nat) (lfa : Int32) (n0 : Nat) (see0 : Nat) (tm0 : Nat) (g0 : Nat → Int32) (n1 : Nat) (see1 : Nat) (tm1 : Nat) (g1 : Nat → Int32) (n2 : Nat) (see2 : Nat) (tm2 : Nat) (g2 : Nat → Int32) (sr0 : Nat → Int32) (sr1 : Nat → Int32) (sr2 : Nat → Int32) (p0 : Int32) (p1 : Int32) (hn0 : n0 ≤ 24) (hse0 : see0 ≤ 2) (htm0 : tm0 ≤ 3) (hn1 : n1 ≤ 24) (hse1 : see1 ≤ 2) (htm1 : tm1 ≤ 3) (hn2 : n2 ≤ 24) (hse2 : see2 ≤ 2) (htm2 : tm2 ≤ 3) : CRi l D k st lo yX7_which cX7_which 3 (some .int) ({ frames := 2, cells := 0, slots := 0, locals := 41 }) [.ref (a 0), .int p0, .int p1] [((a 0), .inr (7, (fX7 (a 1) (a 3) (a 19) (a 35) (a 40) (nI rk) lfa (a 53) (a 56) (a 63) (a 64) (a 68)))), ((a 3), .inl (k 3, 3, .inr (.inr (.inr (.inr (a3 (a 4) (a 9) (a 14))))))), ((a 19), .inl (k 4, 3, .inr (.inr (.inr (.inr (a3 (a 20) (a 25) (a 30))))))), ((a 4), .inr (5, (fX5 (a 5) (a 6) (a 7) (a 8)))), (aI k (a 5) 10 (vv n0 see0 tm0 g0)), ((a 9), .inr (5, (fX5 (a 10) (a 11) (a 12) (a 13)))), (aI k (a 10) 10 (vv n1 see1 tm1 g1)), ((a 14), .inr (5, (fX5 (a 15) (a 16) (a 17) (a 18)))), (aI k (a 15) 10 (vv n2 see2 tm2 g2)), ((a 20), .inr (0, (fX0 (a 4) (a 21) (a 22) (a 23) (a 24)))), (aI k (a 22) 4 sr0), ((a 25), .inr (0, (fX0 (a 9) (a 26) (a 27) (a 28) (a 29)))), (aI k (a 27) 4 sr1), ((a 30), .inr (0, (fX0 (a 14) (a 31) (a 32) (a 33) (a 34)))), (aI k (a 32) 4 sr2)] (fun _ => True) := by
  intro sz
  refine Met.ofW (cc := cX7_which) (maxL := 3) (ret := (some .int)) (by decide) rfl ?_
  intro p e s m args below meth c s₁ B hml hv
  obtain ⟨rfl, hsz, hlo, hP, hK, hDL, hZ⟩ := hv
  have hx := B.exec
  have hb := B.bytes
  have hr := B.returns
  have hts := WS_ts B.pre
  have hown : s.vm.findClass RX7 = some m.cls := findClass_of_methodNamed B.named
  have hlocks := B.notSynchronized
  subst hsz
  have hA : ∀ q : Nat, s.heap.size ≤ q → (fun q : Nat => s.heap.size ≤ q) q := fun _ h => h
  have hAlo : ∀ q : Nat, (fun q : Nat => s.heap.size ≤ q) q → lo ≤ q := fun q h => Nat.le_trans hlo h
  have hS : va_S (fun q : Nat => s.heap.size ≤ q) s.heap s.heap [] := va_S.rf
  have hl := lv_entry ([.ref (a 0), .int p0, .int p1]) (n := 3) (Nat.le_of_ble_eq_true rfl)
  rw [lg_entry_eq]
  generalize (lg_sl ([.ref (a 0), .int p0, .int p1]) ++ List.replicate (3 - (lg_sl ([.ref (a 0), .int p0, .int p1])).length) Slot.unset).toArray = ls at hl ⊢
  have hl : lv_has ls 3 [(0, .ref (a 0)), (1, .int p0), (2, .int p1)] := hl
  refine lv_aload_n hx hb dX7_which_0 rfl (lv_at hl 0 rfl) ?_
  refine lv_iload_n hx hb dX7_which_1 rfl (lv_at hl 1 rfl) ?_
  refine ro_i (D := D) (va_runV (As := [.int p0]) (rest := []) ⟨hx, hb, hml, hown, hts⟩ ((x_isStreet l D k st lo a rk lfa n0 see0 tm0 g0 n1 see1 tm1 g1 n2 see2 tm2 g2 p0 (by omega) (by omega) (by omega)) s.heap.size) (cwV 1 hts (gV tw_589 tw_591 tw_8 tw_79 tw_592) rfl rfl rfl (by decide +kernel) ⟨Nat.le_of_ble_eq_true rfl, Nat.le_of_ble_eq_true rfl⟩) (pV hS hAlo hlo hP hK hDL hZ [0, 1, 3, 4, 5, 6, 7, 8] (by decide) rfl (ci := 7) (q := (RX7, TX7, 12)) (q0 := 0) rfl rfl) rfl rfl hl.1 rfl (lv_room (Nat.le_of_ble_eq_true rfl)) dX7_which_2 ⟨Nat.le_of_ble_eq_true rfl, Nat.le_of_ble_eq_true rfl⟩) hS hA hP (fun r_1 H locs hw_1 hP hS => ?_)
  try dsimp only at hw_1
  rcases hw_1 with ⟨rfl, ⟨rfl, hw_1⟩ | ⟨rfl, hw_1⟩ | ⟨rfl, hw_1⟩⟩ | rfl
  · refine lv_if_eq (tgt := 16) hx hb dX7_which_5 (by decide) (fun h => absurd h (by decide)) (fun _ => ?_)
    refine lv_aload_n hx hb dX7_which_8 rfl (lv_at hl 0 rfl) ?_
    refine lv_iload_n hx hb dX7_which_9 rfl (lv_at hl 2 rfl) ?_
    refine ro_i (D := D) (va_runV (As := [.int p1]) (rest := []) ⟨hx, hb, hml, hown, hts⟩ ((x_isStreet l D k st lo a rk lfa n0 see0 tm0 g0 n1 see1 tm1 g1 n2 see2 tm2 g2 p1 (by omega) (by omega) (by omega)) H.size) (cwV 1 hts (gV tw_589 tw_591 tw_8 tw_79 tw_592) rfl rfl rfl (by decide +kernel) ⟨Nat.le_of_ble_eq_true rfl, Nat.le_of_ble_eq_true rfl⟩) (pV hS hAlo hlo hP hK hDL hZ [0, 1, 3, 4, 5, 6, 7, 8] (by decide) rfl (ci := 7) (q := (RX7, TX7, 12)) (q0 := 0) rfl rfl) rfl rfl hl.1 rfl (lv_room (Nat.le_of_ble_eq_true rfl)) dX7_which_10 ⟨Nat.le_of_ble_eq_true rfl, Nat.le_of_ble_eq_true rfl⟩) hS hA hP (fun r_2 H locs hw_2 hP hS => ?_)
    try dsimp only at hw_2
    rcases hw_2 with ⟨rfl, ⟨rfl, hw_2⟩ | ⟨rfl, hw_2⟩ | ⟨rfl, hw_2⟩⟩ | rfl
    · refine lv_if_ne (tgt := 20) hx hb dX7_which_13 (by decide) (fun _ => ?_) (fun h => absurd h (by decide))
      refine lv_aload_n hx hb dX7_which_20 rfl (lv_at hl 0 rfl) ?_
      refine va_get (D := D) (ci := 7) (v := .ref (a 19)) (C := RX7) (T := TX7) (N := 12) hx hb hts inX7 hown hK hP 0 rfl rfl 2 (by decide) (hts _ tw_307) (fun _ h9 => h9) rfl dX7_which_21 ?_
      refine lv_iload_n hx hb dX7_which_24 rfl (lv_at hl 2 rfl) ?_
      refine va_aldq hx hb hK hP 2 4 rfl rfl (by unfold vp_in; decide) dX7_which_25 ?_
      refine lv_tr (y := .ref (a 20)) rfl ?_
      refine va_get (D := D) (ci := 0) (v := .ref (a 22)) (C := RX0) (T := TX0) (N := 5) hx hb hts inX0 hown hK hP 9 rfl rfl 2 (by decide) (hts _ tw_269) (fun _ h9 => h9) rfl dX7_which_26 ?_
      refine lv_iconst (v := 0) hx hb dX7_which_29 (by decide) ?_
      refine va_iald hx hb hK hP 10 1 rfl rfl (by unfold vp_in; decide) dX7_which_30 ?_
      refine lv_ti (y := (sr0 0)) (by rfl) ?_
      refine lv_aload_n hx hb dX7_which_31 rfl (lv_at hl 0 rfl) ?_
      refine va_get (D := D) (ci := 7) (v := .ref (a 19)) (C := RX7) (T := TX7) (N := 12) hx hb hts inX7 hown hK hP 0 rfl rfl 2 (by decide) (hts _ tw_307) (fun _ h9 => h9) rfl dX7_which_32 ?_
      refine lv_iload_n hx hb dX7_which_35 rfl (lv_at hl 1 rfl) ?_
      refine va_aldq hx hb hK hP 2 4 rfl rfl (by unfold vp_in; decide) dX7_which_36 ?_
      refine lv_tr (y := .ref (a 20)) rfl ?_
      refine va_get (D := D) (ci := 0) (v := .ref (a 22)) (C := RX0) (T := TX0) (N := 5) hx hb hts inX0 hown hK hP 9 rfl rfl 2 (by decide) (hts _ tw_269) (fun _ h9 => h9) rfl dX7_which_37 ?_
      refine lv_iconst (v := 0) hx hb dX7_which_40 (by decide) ?_
      refine va_iald hx hb hK hP 10 1 rfl rfl (by unfold vp_in; decide) dX7_which_41 ?_
      refine lv_ti (y := (sr0 0)) (by rfl) ?_
      refine lv_icmp_ge (tgt := 49) hx hb dX7_which_42 (by decide) (fun c_3 => ?_) (fun c_3 => ?_)
      · refine lv_iload_n hx hb dX7_which_49 rfl (lv_at hl 1 rfl) ?_
        exact W.iret (v := 0) hx hb hr (fun t ht hW => ⟨⟨0, (), rfl, trivial, trivial⟩, hS.F ht⟩) hS.2.2 dX7_which_50
      · refine lv_iload_n hx hb dX7_which_45 rfl (lv_at hl 2 rfl) ?_
        refine lv_goto (tgt := 50) hx hb dX7_which_46 (by decide) ?_
        exact W.iret (v := 0) hx hb hr (fun t ht hW => ⟨⟨0, (), rfl, trivial, trivial⟩, hS.F ht⟩) hS.2.2 dX7_which_50
    · refine lv_if_ne (tgt := 20) hx hb dX7_which_13 (by decide) (fun _ => ?_) (fun h => absurd h (by decide))
      refine lv_aload_n hx hb dX7_which_20 rfl (lv_at hl 0 rfl) ?_
      refine va_get (D := D) (ci := 7) (v := .ref (a 19)) (C := RX7) (T := TX7) (N := 12) hx hb hts inX7 hown hK hP 0 rfl rfl 2 (by decide) (hts _ tw_307) (fun _ h9 => h9) rfl dX7_which_21 ?_
      refine lv_iload_n hx hb dX7_which_24 rfl (lv_at hl 2 rfl) ?_
      refine va_aldq hx hb hK hP 2 4 rfl rfl (by unfold vp_in; decide) dX7_which_25 ?_
      refine lv_tr (y := .ref (a 25)) rfl ?_
      refine va_get (D := D) (ci := 0) (v := .ref (a 27)) (C := RX0) (T := TX0) (N := 5) hx hb hts inX0 hown hK hP 11 rfl rfl 2 (by decide) (hts _ tw_269) (fun _ h9 => h9) rfl dX7_which_26 ?_
      refine lv_iconst (v := 0) hx hb dX7_which_29 (by decide) ?_
      refine va_iald hx hb hK hP 12 1 rfl rfl (by unfold vp_in; decide) dX7_which_30 ?_
      refine lv_ti (y := (sr1 0)) (by rfl) ?_
      refine lv_aload_n hx hb dX7_which_31 rfl (lv_at hl 0 rfl) ?_
      refine va_get (D := D) (ci := 7) (v := .ref (a 19)) (C := RX7) (T := TX7) (N := 12) hx hb hts inX7 hown hK hP 0 rfl rfl 2 (by decide) (hts _ tw_307) (fun _ h9 => h9) rfl dX7_which_32 ?_
      refine lv_iload_n hx hb dX7_which_35 rfl (lv_at hl 1 rfl) ?_
      refine va_aldq hx hb hK hP 2 4 rfl rfl (by unfold vp_in; decide) dX7_which_36 ?_
      refine lv_tr (y := .ref (a 20)) rfl ?_
      refine va_get (D := D) (ci := 0) (v := .ref (a 22)) (C := RX0) (T := TX0) (N := 5) hx hb hts inX0 hown hK hP 9 rfl rfl 2 (by decide) (hts _ tw_269) (fun _ h9 => h9) rfl dX7_which_37 ?_
      refine lv_iconst (v := 0) hx hb dX7_which_40 (by decide) ?_
      refine va_iald hx hb hK hP 10 1 rfl rfl (by unfold vp_in; decide) dX7_which_41 ?_
      refine lv_ti (y := (sr0 0)) (by rfl) ?_
      refine lv_icmp_ge (tgt := 49) hx hb dX7_which_42 (by decide) (fun c_4 => ?_) (fun c_4 => ?_)
      · refine lv_iload_n hx hb dX7_which_49 rfl (lv_at hl 1 rfl) ?_
        exact W.iret (v := 0) hx hb hr (fun t ht hW => ⟨⟨0, (), rfl, trivial, trivial⟩, hS.F ht⟩) hS.2.2 dX7_which_50
      · refine lv_iload_n hx hb dX7_which_45 rfl (lv_at hl 2 rfl) ?_
        refine lv_goto (tgt := 50) hx hb dX7_which_46 (by decide) ?_
        exact W.iret (v := 1) hx hb hr (fun t ht hW => ⟨⟨1, (), rfl, trivial, trivial⟩, hS.F ht⟩) hS.2.2 dX7_which_50
    · refine lv_if_ne (tgt := 20) hx hb dX7_which_13 (by decide) (fun _ => ?_) (fun h => absurd h (by decide))
      refine lv_aload_n hx hb dX7_which_20 rfl (lv_at hl 0 rfl) ?_
      refine va_get (D := D) (ci := 7) (v := .ref (a 19)) (C := RX7) (T := TX7) (N := 12) hx hb hts inX7 hown hK hP 0 rfl rfl 2 (by decide) (hts _ tw_307) (fun _ h9 => h9) rfl dX7_which_21 ?_
      refine lv_iload_n hx hb dX7_which_24 rfl (lv_at hl 2 rfl) ?_
      refine va_aldq hx hb hK hP 2 4 rfl rfl (by unfold vp_in; decide) dX7_which_25 ?_
      refine lv_tr (y := .ref (a 30)) rfl ?_
      refine va_get (D := D) (ci := 0) (v := .ref (a 32)) (C := RX0) (T := TX0) (N := 5) hx hb hts inX0 hown hK hP 13 rfl rfl 2 (by decide) (hts _ tw_269) (fun _ h9 => h9) rfl dX7_which_26 ?_
      refine lv_iconst (v := 0) hx hb dX7_which_29 (by decide) ?_
      refine va_iald hx hb hK hP 14 1 rfl rfl (by unfold vp_in; decide) dX7_which_30 ?_
      refine lv_ti (y := (sr2 0)) (by rfl) ?_
      refine lv_aload_n hx hb dX7_which_31 rfl (lv_at hl 0 rfl) ?_
      refine va_get (D := D) (ci := 7) (v := .ref (a 19)) (C := RX7) (T := TX7) (N := 12) hx hb hts inX7 hown hK hP 0 rfl rfl 2 (by decide) (hts _ tw_307) (fun _ h9 => h9) rfl dX7_which_32 ?_
      refine lv_iload_n hx hb dX7_which_35 rfl (lv_at hl 1 rfl) ?_
      refine va_aldq hx hb hK hP 2 4 rfl rfl (by unfold vp_in; decide) dX7_which_36 ?_
      refine lv_tr (y := .ref (a 20)) rfl ?_
      refine va_get (D := D) (ci := 0) (v := .ref (a 22)) (C := RX0) (T := TX0) (N := 5) hx hb hts inX0 hown hK hP 9 rfl rfl 2 (by decide) (hts _ tw_269) (fun _ h9 => h9) rfl dX7_which_37 ?_
      refine lv_iconst (v := 0) hx hb dX7_which_40 (by decide) ?_
      refine va_iald hx hb hK hP 10 1 rfl rfl (by unfold vp_in; decide) dX7_which_41 ?_
      refine lv_ti (y := (sr0 0)) (by rfl) ?_
      refine lv_icmp_ge (tgt := 49) hx hb dX7_which_42 (by decide) (fun c_5 => ?_) (fun c_5 => ?_)
      · refine lv_iload_n hx hb dX7_which_49 rfl (lv_at hl 1 rfl) ?_
        exact W.iret (v := 0) hx hb hr (fun t ht hW => ⟨⟨0, (), rfl, trivial, trivial⟩, hS.F ht⟩) hS.2.2 dX7_which_50
      · refine lv_iload_n hx hb dX7_which_45 rfl (lv_at hl 2 rfl) ?_
        refine lv_goto (tgt := 50) hx hb dX7_which_46 (by decide) ?_
        exact W.iret (v := 2) hx hb hr (fun t ht hW => ⟨⟨2, (), rfl, trivial, trivial⟩, hS.F ht⟩) hS.2.2 dX7_which_50
    · refine lv_if_ne (tgt := 20) hx hb dX7_which_13 (by decide) (fun h => absurd (by decide) h) (fun _ => ?_)
      refine lv_sipush (v := (-1001)) hx hb dX7_which_16 (by decide) ?_
      exact W.iret (v := (-1001)) hx hb hr (fun t ht hW => ⟨⟨(-1001), (), rfl, trivial, trivial⟩, hS.F ht⟩) hS.2.2 dX7_which_19
  · refine lv_if_eq (tgt := 16) hx hb dX7_which_5 (by decide) (fun h => absurd h (by decide)) (fun _ => ?_)
    refine lv_aload_n hx hb dX7_which_8 rfl (lv_at hl 0 rfl) ?_
    refine lv_iload_n hx hb dX7_which_9 rfl (lv_at hl 2 rfl) ?_
    refine ro_i (D := D) (va_runV (As := [.int p1]) (rest := []) ⟨hx, hb, hml, hown, hts⟩ ((x_isStreet l D k st lo a rk lfa n0 see0 tm0 g0 n1 see1 tm1 g1 n2 see2 tm2 g2 p1 (by omega) (by omega) (by omega)) H.size) (cwV 1 hts (gV tw_589 tw_591 tw_8 tw_79 tw_592) rfl rfl rfl (by decide +kernel) ⟨Nat.le_of_ble_eq_true rfl, Nat.le_of_ble_eq_true rfl⟩) (pV hS hAlo hlo hP hK hDL hZ [0, 1, 3, 4, 5, 6, 7, 8] (by decide) rfl (ci := 7) (q := (RX7, TX7, 12)) (q0 := 0) rfl rfl) rfl rfl hl.1 rfl (lv_room (Nat.le_of_ble_eq_true rfl)) dX7_which_10 ⟨Nat.le_of_ble_eq_true rfl, Nat.le_of_ble_eq_true rfl⟩) hS hA hP (fun r_6 H locs hw_6 hP hS => ?_)
    try dsimp only at hw_6
    rcases hw_6 with ⟨rfl, ⟨rfl, hw_6⟩ | ⟨rfl, hw_6⟩ | ⟨rfl, hw_6⟩⟩ | rfl
    · refine lv_if_ne (tgt := 20) hx hb dX7_which_13 (by decide) (fun _ => ?_) (fun h => absurd h (by decide))
      refine lv_aload_n hx hb dX7_which_20 rfl (lv_at hl 0 rfl) ?_
      refine va_get (D := D) (ci := 7) (v := .ref (a 19)) (C := RX7) (T := TX7) (N := 12) hx hb hts inX7 hown hK hP 0 rfl rfl 2 (by decide) (hts _ tw_307) (fun _ h9 => h9) rfl dX7_which_21 ?_
      refine lv_iload_n hx hb dX7_which_24 rfl (lv_at hl 2 rfl) ?_
      refine va_aldq hx hb hK hP 2 4 rfl rfl (by unfold vp_in; decide) dX7_which_25 ?_
      refine lv_tr (y := .ref (a 20)) rfl ?_
      refine va_get (D := D) (ci := 0) (v := .ref (a 22)) (C := RX0) (T := TX0) (N := 5) hx hb hts inX0 hown hK hP 9 rfl rfl 2 (by decide) (hts _ tw_269) (fun _ h9 => h9) rfl dX7_which_26 ?_
      refine lv_iconst (v := 0) hx hb dX7_which_29 (by decide) ?_
      refine va_iald hx hb hK hP 10 1 rfl rfl (by unfold vp_in; decide) dX7_which_30 ?_
      refine lv_ti (y := (sr0 0)) (by rfl) ?_
      refine lv_aload_n hx hb dX7_which_31 rfl (lv_at hl 0 rfl) ?_
      refine va_get (D := D) (ci := 7) (v := .ref (a 19)) (C := RX7) (T := TX7) (N := 12) hx hb hts inX7 hown hK hP 0 rfl rfl 2 (by decide) (hts _ tw_307) (fun _ h9 => h9) rfl dX7_which_32 ?_
      refine lv_iload_n hx hb dX7_which_35 rfl (lv_at hl 1 rfl) ?_
      refine va_aldq hx hb hK hP 2 4 rfl rfl (by unfold vp_in; decide) dX7_which_36 ?_
      refine lv_tr (y := .ref (a 25)) rfl ?_
      refine va_get (D := D) (ci := 0) (v := .ref (a 27)) (C := RX0) (T := TX0) (N := 5) hx hb hts inX0 hown hK hP 11 rfl rfl 2 (by decide) (hts _ tw_269) (fun _ h9 => h9) rfl dX7_which_37 ?_
      refine lv_iconst (v := 0) hx hb dX7_which_40 (by decide) ?_
      refine va_iald hx hb hK hP 12 1 rfl rfl (by unfold vp_in; decide) dX7_which_41 ?_
      refine lv_ti (y := (sr1 0)) (by rfl) ?_
      refine lv_icmp_ge (tgt := 49) hx hb dX7_which_42 (by decide) (fun c_7 => ?_) (fun c_7 => ?_)
      · refine lv_iload_n hx hb dX7_which_49 rfl (lv_at hl 1 rfl) ?_
        exact W.iret (v := 1) hx hb hr (fun t ht hW => ⟨⟨1, (), rfl, trivial, trivial⟩, hS.F ht⟩) hS.2.2 dX7_which_50
      · refine lv_iload_n hx hb dX7_which_45 rfl (lv_at hl 2 rfl) ?_
        refine lv_goto (tgt := 50) hx hb dX7_which_46 (by decide) ?_
        exact W.iret (v := 0) hx hb hr (fun t ht hW => ⟨⟨0, (), rfl, trivial, trivial⟩, hS.F ht⟩) hS.2.2 dX7_which_50
    · refine lv_if_ne (tgt := 20) hx hb dX7_which_13 (by decide) (fun _ => ?_) (fun h => absurd h (by decide))
      refine lv_aload_n hx hb dX7_which_20 rfl (lv_at hl 0 rfl) ?_
      refine va_get (D := D) (ci := 7) (v := .ref (a 19)) (C := RX7) (T := TX7) (N := 12) hx hb hts inX7 hown hK hP 0 rfl rfl 2 (by decide) (hts _ tw_307) (fun _ h9 => h9) rfl dX7_which_21 ?_
      refine lv_iload_n hx hb dX7_which_24 rfl (lv_at hl 2 rfl) ?_
      refine va_aldq hx hb hK hP 2 4 rfl rfl (by unfold vp_in; decide) dX7_which_25 ?_
      refine lv_tr (y := .ref (a 25)) rfl ?_
      refine va_get (D := D) (ci := 0) (v := .ref (a 27)) (C := RX0) (T := TX0) (N := 5) hx hb hts inX0 hown hK hP 11 rfl rfl 2 (by decide) (hts _ tw_269) (fun _ h9 => h9) rfl dX7_which_26 ?_
      refine lv_iconst (v := 0) hx hb dX7_which_29 (by decide) ?_
      refine va_iald hx hb hK hP 12 1 rfl rfl (by unfold vp_in; decide) dX7_which_30 ?_
      refine lv_ti (y := (sr1 0)) (by rfl) ?_
      refine lv_aload_n hx hb dX7_which_31 rfl (lv_at hl 0 rfl) ?_
      refine va_get (D := D) (ci := 7) (v := .ref (a 19)) (C := RX7) (T := TX7) (N := 12) hx hb hts inX7 hown hK hP 0 rfl rfl 2 (by decide) (hts _ tw_307) (fun _ h9 => h9) rfl dX7_which_32 ?_
      refine lv_iload_n hx hb dX7_which_35 rfl (lv_at hl 1 rfl) ?_
      refine va_aldq hx hb hK hP 2 4 rfl rfl (by unfold vp_in; decide) dX7_which_36 ?_
      refine lv_tr (y := .ref (a 25)) rfl ?_
      refine va_get (D := D) (ci := 0) (v := .ref (a 27)) (C := RX0) (T := TX0) (N := 5) hx hb hts inX0 hown hK hP 11 rfl rfl 2 (by decide) (hts _ tw_269) (fun _ h9 => h9) rfl dX7_which_37 ?_
      refine lv_iconst (v := 0) hx hb dX7_which_40 (by decide) ?_
      refine va_iald hx hb hK hP 12 1 rfl rfl (by unfold vp_in; decide) dX7_which_41 ?_
      refine lv_ti (y := (sr1 0)) (by rfl) ?_
      refine lv_icmp_ge (tgt := 49) hx hb dX7_which_42 (by decide) (fun c_8 => ?_) (fun c_8 => ?_)
      · refine lv_iload_n hx hb dX7_which_49 rfl (lv_at hl 1 rfl) ?_
        exact W.iret (v := 1) hx hb hr (fun t ht hW => ⟨⟨1, (), rfl, trivial, trivial⟩, hS.F ht⟩) hS.2.2 dX7_which_50
      · refine lv_iload_n hx hb dX7_which_45 rfl (lv_at hl 2 rfl) ?_
        refine lv_goto (tgt := 50) hx hb dX7_which_46 (by decide) ?_
        exact W.iret (v := 1) hx hb hr (fun t ht hW => ⟨⟨1, (), rfl, trivial, trivial⟩, hS.F ht⟩) hS.2.2 dX7_which_50
    · refine lv_if_ne (tgt := 20) hx hb dX7_which_13 (by decide) (fun _ => ?_) (fun h => absurd h (by decide))
      refine lv_aload_n hx hb dX7_which_20 rfl (lv_at hl 0 rfl) ?_
      refine va_get (D := D) (ci := 7) (v := .ref (a 19)) (C := RX7) (T := TX7) (N := 12) hx hb hts inX7 hown hK hP 0 rfl rfl 2 (by decide) (hts _ tw_307) (fun _ h9 => h9) rfl dX7_which_21 ?_
      refine lv_iload_n hx hb dX7_which_24 rfl (lv_at hl 2 rfl) ?_
      refine va_aldq hx hb hK hP 2 4 rfl rfl (by unfold vp_in; decide) dX7_which_25 ?_
      refine lv_tr (y := .ref (a 30)) rfl ?_
      refine va_get (D := D) (ci := 0) (v := .ref (a 32)) (C := RX0) (T := TX0) (N := 5) hx hb hts inX0 hown hK hP 13 rfl rfl 2 (by decide) (hts _ tw_269) (fun _ h9 => h9) rfl dX7_which_26 ?_
      refine lv_iconst (v := 0) hx hb dX7_which_29 (by decide) ?_
      refine va_iald hx hb hK hP 14 1 rfl rfl (by unfold vp_in; decide) dX7_which_30 ?_
      refine lv_ti (y := (sr2 0)) (by rfl) ?_
      refine lv_aload_n hx hb dX7_which_31 rfl (lv_at hl 0 rfl) ?_
      refine va_get (D := D) (ci := 7) (v := .ref (a 19)) (C := RX7) (T := TX7) (N := 12) hx hb hts inX7 hown hK hP 0 rfl rfl 2 (by decide) (hts _ tw_307) (fun _ h9 => h9) rfl dX7_which_32 ?_
      refine lv_iload_n hx hb dX7_which_35 rfl (lv_at hl 1 rfl) ?_
      refine va_aldq hx hb hK hP 2 4 rfl rfl (by unfold vp_in; decide) dX7_which_36 ?_
      refine lv_tr (y := .ref (a 25)) rfl ?_
      refine va_get (D := D) (ci := 0) (v := .ref (a 27)) (C := RX0) (T := TX0) (N := 5) hx hb hts inX0 hown hK hP 11 rfl rfl 2 (by decide) (hts _ tw_269) (fun _ h9 => h9) rfl dX7_which_37 ?_
      refine lv_iconst (v := 0) hx hb dX7_which_40 (by decide) ?_
      refine va_iald hx hb hK hP 12 1 rfl rfl (by unfold vp_in; decide) dX7_which_41 ?_
      refine lv_ti (y := (sr1 0)) (by rfl) ?_
      refine lv_icmp_ge (tgt := 49) hx hb dX7_which_42 (by decide) (fun c_9 => ?_) (fun c_9 => ?_)
      · refine lv_iload_n hx hb dX7_which_49 rfl (lv_at hl 1 rfl) ?_
        exact W.iret (v := 1) hx hb hr (fun t ht hW => ⟨⟨1, (), rfl, trivial, trivial⟩, hS.F ht⟩) hS.2.2 dX7_which_50
      · refine lv_iload_n hx hb dX7_which_45 rfl (lv_at hl 2 rfl) ?_
        refine lv_goto (tgt := 50) hx hb dX7_which_46 (by decide) ?_
        exact W.iret (v := 2) hx hb hr (fun t ht hW => ⟨⟨2, (), rfl, trivial, trivial⟩, hS.F ht⟩) hS.2.2 dX7_which_50
    · refine lv_if_ne (tgt := 20) hx hb dX7_which_13 (by decide) (fun h => absurd (by decide) h) (fun _ => ?_)
      refine lv_sipush (v := (-1001)) hx hb dX7_which_16 (by decide) ?_
      exact W.iret (v := (-1001)) hx hb hr (fun t ht hW => ⟨⟨(-1001), (), rfl, trivial, trivial⟩, hS.F ht⟩) hS.2.2 dX7_which_19
  · refine lv_if_eq (tgt := 16) hx hb dX7_which_5 (by decide) (fun h => absurd h (by decide)) (fun _ => ?_)
    refine lv_aload_n hx hb dX7_which_8 rfl (lv_at hl 0 rfl) ?_
    refine lv_iload_n hx hb dX7_which_9 rfl (lv_at hl 2 rfl) ?_
    refine ro_i (D := D) (va_runV (As := [.int p1]) (rest := []) ⟨hx, hb, hml, hown, hts⟩ ((x_isStreet l D k st lo a rk lfa n0 see0 tm0 g0 n1 see1 tm1 g1 n2 see2 tm2 g2 p1 (by omega) (by omega) (by omega)) H.size) (cwV 1 hts (gV tw_589 tw_591 tw_8 tw_79 tw_592) rfl rfl rfl (by decide +kernel) ⟨Nat.le_of_ble_eq_true rfl, Nat.le_of_ble_eq_true rfl⟩) (pV hS hAlo hlo hP hK hDL hZ [0, 1, 3, 4, 5, 6, 7, 8] (by decide) rfl (ci := 7) (q := (RX7, TX7, 12)) (q0 := 0) rfl rfl) rfl rfl hl.1 rfl (lv_room (Nat.le_of_ble_eq_true rfl)) dX7_which_10 ⟨Nat.le_of_ble_eq_true rfl, Nat.le_of_ble_eq_true rfl⟩) hS hA hP (fun r_10 H locs hw_10 hP hS => ?_)
    try dsimp only at hw_10
    rcases hw_10 with ⟨rfl, ⟨rfl, hw_10⟩ | ⟨rfl, hw_10⟩ | ⟨rfl, hw_10⟩⟩ | rfl
    · refine lv_if_ne (tgt := 20) hx hb dX7_which_13 (by decide) (fun _ => ?_) (fun h => absurd h (by decide))
      refine lv_aload_n hx hb dX7_which_20 rfl (lv_at hl 0 rfl) ?_
      refine va_get (D := D) (ci := 7) (v := .ref (a 19)) (C := RX7) (T := TX7) (N := 12) hx hb hts inX7 hown hK hP 0 rfl rfl 2 (by decide) (hts _ tw_307) (fun _ h9 => h9) rfl dX7_which_21 ?_
      refine lv_iload_n hx hb dX7_which_24 rfl (lv_at hl 2 rfl) ?_
      refine va_aldq hx hb hK hP 2 4 rfl rfl (by unfold vp_in; decide) dX7_which_25 ?_
      refine lv_tr (y := .ref (a 20)) rfl ?_
      refine va_get (D := D) (ci := 0) (v := .ref (a 22)) (C := RX0) (T := TX0) (N := 5) hx hb hts inX0 hown hK hP 9 rfl rfl 2 (by decide) (hts _ tw_269) (fun _ h9 => h9) rfl dX7_which_26 ?_
      refine lv_iconst (v := 0) hx hb dX7_which_29 (by decide) ?_
      refine va_iald hx hb hK hP 10 1 rfl rfl (by unfold vp_in; decide) dX7_which_30 ?_
      refine lv_ti (y := (sr0 0)) (by rfl) ?_
      refine lv_aload_n hx hb dX7_which_31 rfl (lv_at hl 0 rfl) ?_
      refine va_get (D := D) (ci := 7) (v := .ref (a 19)) (C := RX7) (T := TX7) (N := 12) hx hb hts inX7 hown hK hP 0 rfl rfl 2 (by decide) (hts _ tw_307) (fun _ h9 => h9) rfl dX7_which_32 ?_
      refine lv_iload_n hx hb dX7_which_35 rfl (lv_at hl 1 rfl) ?_
      refine va_aldq hx hb hK hP 2 4 rfl rfl (by unfold vp_in; decide) dX7_which_36 ?_
      refine lv_tr (y := .ref (a 30)) rfl ?_
      refine va_get (D := D) (ci := 0) (v := .ref (a 32)) (C := RX0) (T := TX0) (N := 5) hx hb hts inX0 hown hK hP 13 rfl rfl 2 (by decide) (hts _ tw_269) (fun _ h9 => h9) rfl dX7_which_37 ?_
      refine lv_iconst (v := 0) hx hb dX7_which_40 (by decide) ?_
      refine va_iald hx hb hK hP 14 1 rfl rfl (by unfold vp_in; decide) dX7_which_41 ?_
      refine lv_ti (y := (sr2 0)) (by rfl) ?_
      refine lv_icmp_ge (tgt := 49) hx hb dX7_which_42 (by decide) (fun c_11 => ?_) (fun c_11 => ?_)
      · refine lv_iload_n hx hb dX7_which_49 rfl (lv_at hl 1 rfl) ?_
        exact W.iret (v := 2) hx hb hr (fun t ht hW => ⟨⟨2, (), rfl, trivial, trivial⟩, hS.F ht⟩) hS.2.2 dX7_which_50
      · refine lv_iload_n hx hb dX7_which_45 rfl (lv_at hl 2 rfl) ?_
        refine lv_goto (tgt := 50) hx hb dX7_which_46 (by decide) ?_
        exact W.iret (v := 0) hx hb hr (fun t ht hW => ⟨⟨0, (), rfl, trivial, trivial⟩, hS.F ht⟩) hS.2.2 dX7_which_50
    · refine lv_if_ne (tgt := 20) hx hb dX7_which_13 (by decide) (fun _ => ?_) (fun h => absurd h (by decide))
      refine lv_aload_n hx hb dX7_which_20 rfl (lv_at hl 0 rfl) ?_
      refine va_get (D := D) (ci := 7) (v := .ref (a 19)) (C := RX7) (T := TX7) (N := 12) hx hb hts inX7 hown hK hP 0 rfl rfl 2 (by decide) (hts _ tw_307) (fun _ h9 => h9) rfl dX7_which_21 ?_
      refine lv_iload_n hx hb dX7_which_24 rfl (lv_at hl 2 rfl) ?_
      refine va_aldq hx hb hK hP 2 4 rfl rfl (by unfold vp_in; decide) dX7_which_25 ?_
      refine lv_tr (y := .ref (a 25)) rfl ?_
      refine va_get (D := D) (ci := 0) (v := .ref (a 27)) (C := RX0) (T := TX0) (N := 5) hx hb hts inX0 hown hK hP 11 rfl rfl 2 (by decide) (hts _ tw_269) (fun _ h9 => h9) rfl dX7_which_26 ?_
      refine lv_iconst (v := 0) hx hb dX7_which_29 (by decide) ?_
      refine va_iald hx hb hK hP 12 1 rfl rfl (by unfold vp_in; decide) dX7_which_30 ?_
      refine lv_ti (y := (sr1 0)) (by rfl) ?_
      refine lv_aload_n hx hb dX7_which_31 rfl (lv_at hl 0 rfl) ?_
      refine va_get (D := D) (ci := 7) (v := .ref (a 19)) (C := RX7) (T := TX7) (N := 12) hx hb hts inX7 hown hK hP 0 rfl rfl 2 (by decide) (hts _ tw_307) (fun _ h9 => h9) rfl dX7_which_32 ?_
      refine lv_iload_n hx hb dX7_which_35 rfl (lv_at hl 1 rfl) ?_
      refine va_aldq hx hb hK hP 2 4 rfl rfl (by unfold vp_in; decide) dX7_which_36 ?_
      refine lv_tr (y := .ref (a 30)) rfl ?_
      refine va_get (D := D) (ci := 0) (v := .ref (a 32)) (C := RX0) (T := TX0) (N := 5) hx hb hts inX0 hown hK hP 13 rfl rfl 2 (by decide) (hts _ tw_269) (fun _ h9 => h9) rfl dX7_which_37 ?_
      refine lv_iconst (v := 0) hx hb dX7_which_40 (by decide) ?_
      refine va_iald hx hb hK hP 14 1 rfl rfl (by unfold vp_in; decide) dX7_which_41 ?_
      refine lv_ti (y := (sr2 0)) (by rfl) ?_
      refine lv_icmp_ge (tgt := 49) hx hb dX7_which_42 (by decide) (fun c_12 => ?_) (fun c_12 => ?_)
      · refine lv_iload_n hx hb dX7_which_49 rfl (lv_at hl 1 rfl) ?_
        exact W.iret (v := 2) hx hb hr (fun t ht hW => ⟨⟨2, (), rfl, trivial, trivial⟩, hS.F ht⟩) hS.2.2 dX7_which_50
      · refine lv_iload_n hx hb dX7_which_45 rfl (lv_at hl 2 rfl) ?_
        refine lv_goto (tgt := 50) hx hb dX7_which_46 (by decide) ?_
        exact W.iret (v := 1) hx hb hr (fun t ht hW => ⟨⟨1, (), rfl, trivial, trivial⟩, hS.F ht⟩) hS.2.2 dX7_which_50
    · refine lv_if_ne (tgt := 20) hx hb dX7_which_13 (by decide) (fun _ => ?_) (fun h => absurd h (by decide))
      refine lv_aload_n hx hb dX7_which_20 rfl (lv_at hl 0 rfl) ?_
      refine va_get (D := D) (ci := 7) (v := .ref (a 19)) (C := RX7) (T := TX7) (N := 12) hx hb hts inX7 hown hK hP 0 rfl rfl 2 (by decide) (hts _ tw_307) (fun _ h9 => h9) rfl dX7_which_21 ?_
      refine lv_iload_n hx hb dX7_which_24 rfl (lv_at hl 2 rfl) ?_
      refine va_aldq hx hb hK hP 2 4 rfl rfl (by unfold vp_in; decide) dX7_which_25 ?_
      refine lv_tr (y := .ref (a 30)) rfl ?_
      refine va_get (D := D) (ci := 0) (v := .ref (a 32)) (C := RX0) (T := TX0) (N := 5) hx hb hts inX0 hown hK hP 13 rfl rfl 2 (by decide) (hts _ tw_269) (fun _ h9 => h9) rfl dX7_which_26 ?_
      refine lv_iconst (v := 0) hx hb dX7_which_29 (by decide) ?_
      refine va_iald hx hb hK hP 14 1 rfl rfl (by unfold vp_in; decide) dX7_which_30 ?_
      refine lv_ti (y := (sr2 0)) (by rfl) ?_
      refine lv_aload_n hx hb dX7_which_31 rfl (lv_at hl 0 rfl) ?_
      refine va_get (D := D) (ci := 7) (v := .ref (a 19)) (C := RX7) (T := TX7) (N := 12) hx hb hts inX7 hown hK hP 0 rfl rfl 2 (by decide) (hts _ tw_307) (fun _ h9 => h9) rfl dX7_which_32 ?_
      refine lv_iload_n hx hb dX7_which_35 rfl (lv_at hl 1 rfl) ?_
      refine va_aldq hx hb hK hP 2 4 rfl rfl (by unfold vp_in; decide) dX7_which_36 ?_
      refine lv_tr (y := .ref (a 30)) rfl ?_
      refine va_get (D := D) (ci := 0) (v := .ref (a 32)) (C := RX0) (T := TX0) (N := 5) hx hb hts inX0 hown hK hP 13 rfl rfl 2 (by decide) (hts _ tw_269) (fun _ h9 => h9) rfl dX7_which_37 ?_
      refine lv_iconst (v := 0) hx hb dX7_which_40 (by decide) ?_
      refine va_iald hx hb hK hP 14 1 rfl rfl (by unfold vp_in; decide) dX7_which_41 ?_
      refine lv_ti (y := (sr2 0)) (by rfl) ?_
      refine lv_icmp_ge (tgt := 49) hx hb dX7_which_42 (by decide) (fun c_13 => ?_) (fun c_13 => ?_)
      · refine lv_iload_n hx hb dX7_which_49 rfl (lv_at hl 1 rfl) ?_
        exact W.iret (v := 2) hx hb hr (fun t ht hW => ⟨⟨2, (), rfl, trivial, trivial⟩, hS.F ht⟩) hS.2.2 dX7_which_50
      · refine lv_iload_n hx hb dX7_which_45 rfl (lv_at hl 2 rfl) ?_
        refine lv_goto (tgt := 50) hx hb dX7_which_46 (by decide) ?_
        exact W.iret (v := 2) hx hb hr (fun t ht hW => ⟨⟨2, (), rfl, trivial, trivial⟩, hS.F ht⟩) hS.2.2 dX7_which_50
    · refine lv_if_ne (tgt := 20) hx hb dX7_which_13 (by decide) (fun h => absurd (by decide) h) (fun _ => ?_)
      refine lv_sipush (v := (-1001)) hx hb dX7_which_16 (by decide) ?_
      exact W.iret (v := (-1001)) hx hb hr (fun t ht hW => ⟨⟨(-1001), (), rfl, trivial, trivial⟩, hS.F ht⟩) hS.2.2 dX7_which_19
  · refine lv_if_eq (tgt := 16) hx hb dX7_which_5 (by decide) (fun _ => ?_) (fun h => absurd (by decide) h)
    refine lv_sipush (v := (-1001)) hx hb dX7_which_16 (by decide) ?_
    exact W.iret (v := (-1001)) hx hb hr (fun t ht hW => ⟨⟨(-1001), (), rfl, trivial, trivial⟩, hS.F ht⟩) hS.2.2 dX7_which_19

theorem dX7_judge_0 : decode cX7_judge 0 = .ok (.aload_n 0, 1) := by decide +kernel
theorem dX7_judge_1 : decode cX7_judge 1 = .ok (.iload_n 1, 1) := by decide +kernel
theorem dX7_judge_2 : decode cX7_judge 2 = .ok (.invokevirtual 108, 3) := by decide +kernel
theorem dX7_judge_5 : decode cX7_judge 5 = .ok (.ifCond .ne 7, 3) := by decide +kernel
theorem dX7_judge_8 : decode cX7_judge 8 = .ok (.sipush (-1001), 3) := by decide +kernel
theorem dX7_judge_11 : decode cX7_judge 11 = .ok (.ireturn, 1) := by decide +kernel
theorem dX7_judge_12 : decode cX7_judge 12 = .ok (.aload_n 0, 1) := by decide +kernel
theorem dX7_judge_13 : decode cX7_judge 13 = .ok (.iload_n 1, 1) := by decide +kernel
theorem dX7_judge_14 : decode cX7_judge 14 = .ok (.iload_n 2, 1) := by decide +kernel
theorem dX7_judge_15 : decode cX7_judge 15 = .ok (.invokevirtual 134, 3) := by decide +kernel
theorem dX7_judge_18 : decode cX7_judge 18 = .ok (.ifCond .ne 7, 3) := by decide +kernel
theorem dX7_judge_21 : decode cX7_judge 21 = .ok (.sipush (-1002), 3) := by decide +kernel
theorem dX7_judge_24 : decode cX7_judge 24 = .ok (.ireturn, 1) := by decide +kernel
theorem dX7_judge_25 : decode cX7_judge 25 = .ok (.aload_n 0, 1) := by decide +kernel
theorem dX7_judge_26 : decode cX7_judge 26 = .ok (.getfield 49, 3) := by decide +kernel
theorem dX7_judge_29 : decode cX7_judge 29 = .ok (.getfield 176, 3) := by decide +kernel
theorem dX7_judge_32 : decode cX7_judge 32 = .ok (.iconst 1, 1) := by decide +kernel
theorem dX7_judge_33 : decode cX7_judge 33 = .ok (.isub, 1) := by decide +kernel
theorem dX7_judge_34 : decode cX7_judge 34 = .ok (.istore 4, 2) := by decide +kernel
theorem dX7_judge_36 : decode cX7_judge 36 = .ok (.iload 4, 2) := by decide +kernel
theorem dX7_judge_38 : decode cX7_judge 38 = .ok (.ifCond .lt 33, 3) := by decide +kernel
theorem dX7_judge_41 : decode cX7_judge 41 = .ok (.iload 4, 2) := by decide +kernel
theorem dX7_judge_43 : decode cX7_judge 43 = .ok (.aload_n 0, 1) := by decide +kernel
theorem dX7_judge_44 : decode cX7_judge 44 = .ok (.getfield 18, 3) := by decide +kernel
theorem dX7_judge_47 : decode cX7_judge 47 = .ok (.iload_n 1, 1) := by decide +kernel
theorem dX7_judge_48 : decode cX7_judge 48 = .ok (.aaload, 1) := by decide +kernel
theorem dX7_judge_49 : decode cX7_judge 49 = .ok (.invokevirtual 105, 3) := by decide +kernel
theorem dX7_judge_52 : decode cX7_judge 52 = .ok (.if_icmp .ge 19, 3) := by decide +kernel
theorem dX7_judge_55 : decode cX7_judge 55 = .ok (.iload_n 3, 1) := by decide +kernel
theorem dX7_judge_56 : decode cX7_judge 56 = .ok (.ifCond .eq 19, 3) := by decide +kernel
theorem dX7_judge_59 : decode cX7_judge 59 = .ok (.aload_n 0, 1) := by decide +kernel
theorem dX7_judge_60 : decode cX7_judge 60 = .ok (.getfield 49, 3) := by decide +kernel
theorem dX7_judge_63 : decode cX7_judge 63 = .ok (.iload 4, 2) := by decide +kernel
theorem dX7_judge_65 : decode cX7_judge 65 = .ok (.invokevirtual 186, 3) := by decide +kernel
theorem dX7_judge_68 : decode cX7_judge 68 = .ok (.ifCond .ne 7, 3) := by decide +kernel
theorem dX7_judge_71 : decode cX7_judge 71 = .ok (.sipush (-1003), 3) := by decide +kernel
theorem dX7_judge_74 : decode cX7_judge 74 = .ok (.ireturn, 1) := by decide +kernel
theorem dX7_judge_75 : decode cX7_judge 75 = .ok (.aload_n 0, 1) := by decide +kernel
theorem dX7_judge_76 : decode cX7_judge 76 = .ok (.getfield 24, 3) := by decide +kernel
theorem dX7_judge_79 : decode cX7_judge 79 = .ok (.iload_n 1, 1) := by decide +kernel
theorem dX7_judge_80 : decode cX7_judge 80 = .ok (.aaload, 1) := by decide +kernel
theorem dX7_judge_81 : decode cX7_judge 81 = .ok (.iload_n 2, 1) := by decide +kernel
theorem dX7_judge_82 : decode cX7_judge 82 = .ok (.aload_n 0, 1) := by decide +kernel
theorem dX7_judge_83 : decode cX7_judge 83 = .ok (.getfield 49, 3) := by decide +kernel
theorem dX7_judge_86 : decode cX7_judge 86 = .ok (.iload_n 3, 1) := by decide +kernel
theorem dX7_judge_87 : decode cX7_judge 87 = .ok (.invokevirtual 189, 3) := by decide +kernel
theorem dX7_judge_90 : decode cX7_judge 90 = .ok (.ireturn, 1) := by decide +kernel
set_option maxHeartbeats 4000000 in
set_option maxRecDepth 100000 in
theorem x_judge (l : Launch) (D : va_G) (k : Nat → ClassId) (st : Nat → Nat) (lo : Nat) (a : Nat → Nat) (rk : Nat) (lfa : Int32) (n0 : Nat) (see0 : Nat) (tm0 : Nat) (g0 : Nat → Int32) (fp0 : Nat → Int32) (fl0 : Nat → Int32) (n1 : Nat) (see1 : Nat) (tm1 : Nat) (g1 : Nat → Int32) (fp1 : Nat → Int32) (fl1 : Nat → Int32) (n2 : Nat) (see2 : Nat) (tm2 : Nat) (g2 : Nat → Int32) (fp2 : Nat → Int32) (fl2 : Nat → Int32) (on0 : Nat → Int32) (on1 : Nat → Int32) (on2 : Nat → Int32) (cc : Nat) (rz : Nat) (ro : Int32) (sd : Int32) (p0 : Int32) (p1 : Int32) (p2 : Int32) (hn0 : n0 ≤ 24) (hse0 : see0 ≤ 2) (htm0 : tm0 ≤ 3) (hn1 : n1 ≤ 24) (hse1 : see1 ≤ 2) (htm1 : tm1 ≤ 3) (hn2 : n2 ≤ 24) (hse2 : see2 ≤ 2) (htm2 : tm2 ≤ 3) (hrz : rz ≤ 24) : CRi l D k st lo yX7_judge cX7_judge 5 (some .int) ({ frames := 4, cells := 0, slots := 0, locals := 109 }) [.ref (a 0), .int p0, .int p1, .int p2] [((a 0), .inr (7, (fX7 (a 1) (a 3) (a 19) (a 35) (a 40) (nI rk) lfa (a 53) (a 56) (a 63) (a 64) (a 68)))), ((a 3), .inl (k 3, 3, .inr (.inr (.inr (.inr (a3 (a 4) (a 9) (a 14))))))), ((a 19), .inl (k 4, 3, .inr (.inr (.inr (.inr (a3 (a 20) (a 25) (a 30))))))), ((a 4), .inr (5, (fX5 (a 5) (a 6) (a 7) (a 8)))), (aI k (a 5) 10 (vv n0 see0 tm0 g0)), (aI k (a 7) 24 fp0), (aI k (a 8) 4 fl0), ((a 9), .inr (5, (fX5 (a 10) (a 11) (a 12) (a 13)))), (aI k (a 10) 10 (vv n1 see1 tm1 g1)), (aI k (a 12) 24 fp1), (aI k (a 13) 4 fl1), ((a 14), .inr (5, (fX5 (a 15) (a 16) (a 17) (a 18)))), (aI k (a 15) 10 (vv n2 see2 tm2 g2)), (aI k (a 17) 24 fp2), (aI k (a 18) 4 fl2), ((a 20), .inr (0, (fX0 (a 4) (a 21) (a 22) (a 23) (a 24)))), (aI k (a 21) 768 on0), ((a 25), .inr (0, (fX0 (a 9) (a 26) (a 27) (a 28) (a 29)))), (aI k (a 26) 768 on1), ((a 30), .inr (0, (fX0 (a 14) (a 31) (a 32) (a 33) (a 34)))), (aI k (a 31) 768 on2), ((a 53), .inr (4, (fX4 (a 54) (a 55) (nI cc) (nI rz) ro sd)))] (fun _ => True) := by
  intro sz
  refine Met.ofW (cc := cX7_judge) (maxL := 5) (ret := (some .int)) (by decide) rfl ?_
  intro p e s m args below meth c s₁ B hml hv
  obtain ⟨rfl, hsz, hlo, hP, hK, hDL, hZ⟩ := hv
  have hx := B.exec
  have hb := B.bytes
  have hr := B.returns
  have hts := WS_ts B.pre
  have hown : s.vm.findClass RX7 = some m.cls := findClass_of_methodNamed B.named
  have hlocks := B.notSynchronized
  subst hsz
  have hA : ∀ q : Nat, s.heap.size ≤ q → (fun q : Nat => s.heap.size ≤ q) q := fun _ h => h
  have hAlo : ∀ q : Nat, (fun q : Nat => s.heap.size ≤ q) q → lo ≤ q := fun q h => Nat.le_trans hlo h
  have hS : va_S (fun q : Nat => s.heap.size ≤ q) s.heap s.heap [] := va_S.rf
  have hl := lv_entry ([.ref (a 0), .int p0, .int p1, .int p2]) (n := 5) (Nat.le_of_ble_eq_true rfl)
  rw [lg_entry_eq]
  generalize (lg_sl ([.ref (a 0), .int p0, .int p1, .int p2]) ++ List.replicate (5 - (lg_sl ([.ref (a 0), .int p0, .int p1, .int p2])).length) Slot.unset).toArray = ls at hl ⊢
  have hl : lv_has ls 5 [(0, .ref (a 0)), (1, .int p0), (2, .int p1), (3, .int p2)] := hl
  refine lv_aload_n hx hb dX7_judge_0 rfl (lv_at hl 0 rfl) ?_
  refine lv_iload_n hx hb dX7_judge_1 rfl (lv_at hl 1 rfl) ?_
  refine ro_i (D := D) (va_runV (As := [.int p0]) (rest := []) ⟨hx, hb, hml, hown, hts⟩ ((x_isStreet l D k st lo a rk lfa n0 see0 tm0 g0 n1 see1 tm1 g1 n2 see2 tm2 g2 p0 (by omega) (by omega) (by omega)) s.heap.size) (cwV 1 hts (gV tw_589 tw_591 tw_8 tw_79 tw_592) rfl rfl rfl (by decide +kernel) ⟨Nat.le_of_ble_eq_true rfl, Nat.le_of_ble_eq_true rfl⟩) (pV hS hAlo hlo hP hK hDL hZ [0, 1, 3, 4, 7, 8, 11, 12] (by decide) rfl (ci := 7) (q := (RX7, TX7, 12)) (q0 := 0) rfl rfl) rfl rfl hl.1 rfl (lv_room (Nat.le_of_ble_eq_true rfl)) dX7_judge_2 ⟨Nat.le_of_ble_eq_true rfl, Nat.le_of_ble_eq_true rfl⟩) hS hA hP (fun r_1 H locs hw_1 hP hS => ?_)
  try dsimp only at hw_1
  rcases hw_1 with ⟨rfl, ⟨rfl, hw_1⟩ | ⟨rfl, hw_1⟩ | ⟨rfl, hw_1⟩⟩ | rfl
  · refine lv_if_ne (tgt := 12) hx hb dX7_judge_5 (by decide) (fun _ => ?_) (fun h => absurd h (by decide))
    refine lv_aload_n hx hb dX7_judge_12 rfl (lv_at hl 0 rfl) ?_
    refine lv_iload_n hx hb dX7_judge_13 rfl (lv_at hl 1 rfl) ?_
    refine lv_iload_n hx hb dX7_judge_14 rfl (lv_at hl 2 rfl) ?_
    refine ro_i (D := D) (va_runV (As := [.int 0, .int p1]) (rest := []) ⟨hx, hb, hml, hown, hts⟩ ((x_isRound_0 l D k st lo a rk lfa n0 see0 tm0 g0 p1 (by omega)) H.size) (cwV 2 hts (gV tw_613 tw_615 tw_10 tw_79 tw_616) rfl rfl rfl (by decide +kernel) ⟨Nat.le_of_ble_eq_true rfl, Nat.le_of_ble_eq_true rfl⟩) (pV hS hAlo hlo hP hK hDL hZ [0, 1, 3, 4] (by decide) rfl (ci := 7) (q := (RX7, TX7, 12)) (q0 := 0) rfl rfl) rfl rfl hl.1 rfl (lv_room (Nat.le_of_ble_eq_true rfl)) dX7_judge_15 ⟨Nat.le_of_ble_eq_true rfl, Nat.le_of_ble_eq_true rfl⟩) hS hA hP (fun r_2 H locs hw_2 hP hS => ?_)
    try dsimp only at hw_2
    rcases hw_2 with ⟨rfl, ir_3, hir_3, rfl⟩ | rfl
    · refine lv_if_ne (tgt := 25) hx hb dX7_judge_18 (by decide) (fun _ => ?_) (fun h => absurd h (by decide))
      refine lv_aload_n hx hb dX7_judge_25 rfl (lv_at hl 0 rfl) ?_
      refine va_get (D := D) (ci := 7) (v := .ref (a 53)) (C := RX7) (T := TX7) (N := 12) hx hb hts inX7 hown hK hP 0 rfl rfl 7 (by decide) (hts _ tw_312) (fun _ h9 => h9) rfl dX7_judge_26 ?_
      refine va_get (D := D) (ci := 4) (v := .int (nI rz)) (C := RX4) (T := TX4) (N := 6) hx hb hts inX4 hown hK hP 21 rfl rfl 3 (by decide) (hts _ tw_184) (fun _ h9 => h9) rfl dX7_judge_29 ?_
      refine lv_iconst (v := 1) hx hb dX7_judge_32 (by decide) ?_
      refine lv_isub hx hb dX7_judge_33 ?_
      refine lv_ti (y := (nI rz - 1)) rfl ?_
      refine lv_istore (lv' := [(4, .int (nI rz - 1)), (0, .ref (a 0)), (1, .int 0), (2, .int (nI ir_3)), (3, .int p2)]) hx hb dX7_judge_34 hl (by decide) rfl (fun ls hl => ?_)
      refine lv_iload hx hb dX7_judge_36 (lv_at hl 0 rfl) ?_
      refine lv_if_lt (tgt := 71) hx hb dX7_judge_38 (by decide) (fun c_4 => ?_) (fun c_4 => ?_)
      · refine lv_sipush (v := (-1003)) hx hb dX7_judge_71 (by decide) ?_
        exact W.iret (v := (-1003)) hx hb hr (fun t ht hW => ⟨⟨(-1003), (), rfl, trivial, trivial⟩, hS.F ht⟩) hS.2.2 dX7_judge_74
      · refine lv_iload hx hb dX7_judge_41 (lv_at hl 0 rfl) ?_
        refine lv_aload_n hx hb dX7_judge_43 rfl (lv_at hl 1 rfl) ?_
        refine va_get (D := D) (ci := 7) (v := .ref (a 3)) (C := RX7) (T := TX7) (N := 12) hx hb hts inX7 hown hK hP 0 rfl rfl 1 (by decide) (hts _ tw_306) (fun _ h9 => h9) rfl dX7_judge_44 ?_
        refine lv_iload_n hx hb dX7_judge_47 rfl (lv_at hl 2 rfl) ?_
        refine va_aldq hx hb hK hP 1 3 rfl rfl (by unfold vp_in; decide) dX7_judge_48 ?_
        refine lv_tr (y := .ref (a 4)) rfl ?_
        refine ro_i (D := D) (va_runV (As := []) (rest := [.int (nI rz - 1)]) ⟨hx, hb, hml, hown, hts⟩ ((x_doors l D k st lo (a 4) (a 5) (a 6) (a 7) (a 8) n0 see0 tm0 g0) H.size) (cwV 0 hts (gV tw_580 tw_478 tw_479 tw_81 tw_480) rfl rfl rfl (by decide +kernel) ⟨Nat.le_of_ble_eq_true rfl, Nat.le_of_ble_eq_true rfl⟩) (pV hS hAlo hlo hP hK hDL hZ [3, 4] (by decide) rfl (ci := 5) (q := (RX5, TX5, 4)) (q0 := 0) rfl rfl) rfl rfl hl.1 rfl (lv_room (Nat.le_of_ble_eq_true rfl)) dX7_judge_49 ⟨Nat.le_of_ble_eq_true rfl, Nat.le_of_ble_eq_true rfl⟩) hS hA hP (fun r_5 H locs hw_5 hP hS => ?_)
        try dsimp only at hw_5
        subst hw_5
        refine lv_icmp_ge (tgt := 71) hx hb dX7_judge_52 (by decide) (fun c_6 => ?_) (fun c_6 => ?_)
        · refine lv_sipush (v := (-1003)) hx hb dX7_judge_71 (by decide) ?_
          exact W.iret (v := (-1003)) hx hb hr (fun t ht hW => ⟨⟨(-1003), (), rfl, trivial, trivial⟩, hS.F ht⟩) hS.2.2 dX7_judge_74
        · refine lv_iload_n hx hb dX7_judge_55 rfl (lv_at hl 4 rfl) ?_
          refine lv_if_eq (tgt := 75) hx hb dX7_judge_56 (by decide) (fun c_7 => ?_) (fun c_7 => ?_)
          · refine lv_aload_n hx hb dX7_judge_75 rfl (lv_at hl 1 rfl) ?_
            refine va_get (D := D) (ci := 7) (v := .ref (a 19)) (C := RX7) (T := TX7) (N := 12) hx hb hts inX7 hown hK hP 0 rfl rfl 2 (by decide) (hts _ tw_307) (fun _ h9 => h9) rfl dX7_judge_76 ?_
            refine lv_iload_n hx hb dX7_judge_79 rfl (lv_at hl 2 rfl) ?_
            refine va_aldq hx hb hK hP 2 4 rfl rfl (by unfold vp_in; decide) dX7_judge_80 ?_
            refine lv_tr (y := .ref (a 20)) rfl ?_
            refine lv_iload_n hx hb dX7_judge_81 rfl (lv_at hl 3 rfl) ?_
            refine lv_aload_n hx hb dX7_judge_82 rfl (lv_at hl 1 rfl) ?_
            refine va_get (D := D) (ci := 7) (v := .ref (a 53)) (C := RX7) (T := TX7) (N := 12) hx hb hts inX7 hown hK hP 0 rfl rfl 7 (by decide) (hts _ tw_312) (fun _ h9 => h9) rfl dX7_judge_83 ?_
            refine lv_iload_n hx hb dX7_judge_86 rfl (lv_at hl 4 rfl) ?_
            refine ro_i (D := D) (va_runV (As := [.int (nI ir_3), .ref (a 53), .int p2]) (rest := []) ⟨hx, hb, hml, hown, hts⟩ ((x_firstWrong l D k st lo (a 4) (a 5) (a 6) (a 7) (a 8) n0 see0 tm0 g0 fp0 fl0 (a 20) (a 21) (a 22) (a 23) (a 24) on0 (a 53) (a 54) (a 55) cc rz ro sd ir_3 p2 (by omega) (by omega) (by omega) (by omega)) H.size) (cwV 3 hts (gV tw_756 tw_757 tw_758 tw_85 tw_759) rfl rfl rfl (by decide +kernel) ⟨Nat.le_of_ble_eq_true rfl, Nat.le_of_ble_eq_true rfl⟩) (pV hS hAlo hlo hP hK hDL hZ [3, 4, 5, 6, 15, 16, 21] (by decide) rfl (ci := 0) (q := (RX0, TX0, 5)) (q0 := 4) rfl rfl) rfl rfl hl.1 rfl (lv_room (Nat.le_of_ble_eq_true rfl)) dX7_judge_87 ⟨Nat.le_of_ble_eq_true rfl, Nat.le_of_ble_eq_true rfl⟩) hS hA hP (fun r_8 H locs hw_8 hP hS => ?_)
            try dsimp only at hw_8
            exact W.iret (v := r_8) hx hb hr (fun t ht hW => ⟨⟨r_8, (), rfl, trivial, trivial⟩, hS.F ht⟩) hS.2.2 dX7_judge_90
          · refine lv_aload_n hx hb dX7_judge_59 rfl (lv_at hl 1 rfl) ?_
            refine va_get (D := D) (ci := 7) (v := .ref (a 53)) (C := RX7) (T := TX7) (N := 12) hx hb hts inX7 hown hK hP 0 rfl rfl 7 (by decide) (hts _ tw_312) (fun _ h9 => h9) rfl dX7_judge_60 ?_
            refine lv_iload hx hb dX7_judge_63 (lv_at hl 0 rfl) ?_
            refine ro_i (D := D) (va_runV (As := [.int (nI rz - 1)]) (rest := []) ⟨hx, hb, hml, hown, hts⟩ ((x_sawFree l D k st lo (a 53) (a 54) (a 55) cc rz ro sd (nI rz - 1)) H.size) (cwV 1 hts (gV tw_752 tw_753 tw_754 tw_82 tw_755) rfl rfl rfl (by decide +kernel) ⟨Nat.le_of_ble_eq_true rfl, Nat.le_of_ble_eq_true rfl⟩) (pV hS hAlo hlo hP hK hDL hZ [21] (by decide) rfl (ci := 4) (q := (RX4, TX4, 6)) (q0 := 0) rfl rfl) rfl rfl hl.1 rfl (lv_room (Nat.le_of_ble_eq_true rfl)) dX7_judge_65 ⟨Nat.le_of_ble_eq_true rfl, Nat.le_of_ble_eq_true rfl⟩) hS hA hP (fun r_9 H locs hw_9 hP hS => ?_)
            try dsimp only at hw_9
            rcases hw_9 with rfl | rfl
            · refine lv_if_ne (tgt := 75) hx hb dX7_judge_68 (by decide) (fun _ => ?_) (fun h => absurd h (by decide))
              refine lv_aload_n hx hb dX7_judge_75 rfl (lv_at hl 1 rfl) ?_
              refine va_get (D := D) (ci := 7) (v := .ref (a 19)) (C := RX7) (T := TX7) (N := 12) hx hb hts inX7 hown hK hP 0 rfl rfl 2 (by decide) (hts _ tw_307) (fun _ h9 => h9) rfl dX7_judge_76 ?_
              refine lv_iload_n hx hb dX7_judge_79 rfl (lv_at hl 2 rfl) ?_
              refine va_aldq hx hb hK hP 2 4 rfl rfl (by unfold vp_in; decide) dX7_judge_80 ?_
              refine lv_tr (y := .ref (a 20)) rfl ?_
              refine lv_iload_n hx hb dX7_judge_81 rfl (lv_at hl 3 rfl) ?_
              refine lv_aload_n hx hb dX7_judge_82 rfl (lv_at hl 1 rfl) ?_
              refine va_get (D := D) (ci := 7) (v := .ref (a 53)) (C := RX7) (T := TX7) (N := 12) hx hb hts inX7 hown hK hP 0 rfl rfl 7 (by decide) (hts _ tw_312) (fun _ h9 => h9) rfl dX7_judge_83 ?_
              refine lv_iload_n hx hb dX7_judge_86 rfl (lv_at hl 4 rfl) ?_
              refine ro_i (D := D) (va_runV (As := [.int (nI ir_3), .ref (a 53), .int p2]) (rest := []) ⟨hx, hb, hml, hown, hts⟩ ((x_firstWrong l D k st lo (a 4) (a 5) (a 6) (a 7) (a 8) n0 see0 tm0 g0 fp0 fl0 (a 20) (a 21) (a 22) (a 23) (a 24) on0 (a 53) (a 54) (a 55) cc rz ro sd ir_3 p2 (by omega) (by omega) (by omega) (by omega)) H.size) (cwV 3 hts (gV tw_756 tw_757 tw_758 tw_85 tw_759) rfl rfl rfl (by decide +kernel) ⟨Nat.le_of_ble_eq_true rfl, Nat.le_of_ble_eq_true rfl⟩) (pV hS hAlo hlo hP hK hDL hZ [3, 4, 5, 6, 15, 16, 21] (by decide) rfl (ci := 0) (q := (RX0, TX0, 5)) (q0 := 4) rfl rfl) rfl rfl hl.1 rfl (lv_room (Nat.le_of_ble_eq_true rfl)) dX7_judge_87 ⟨Nat.le_of_ble_eq_true rfl, Nat.le_of_ble_eq_true rfl⟩) hS hA hP (fun r_10 H locs hw_10 hP hS => ?_)
              try dsimp only at hw_10
              exact W.iret (v := r_10) hx hb hr (fun t ht hW => ⟨⟨r_10, (), rfl, trivial, trivial⟩, hS.F ht⟩) hS.2.2 dX7_judge_90
            · refine lv_if_ne (tgt := 75) hx hb dX7_judge_68 (by decide) (fun h => absurd (by decide) h) (fun _ => ?_)
              refine lv_sipush (v := (-1003)) hx hb dX7_judge_71 (by decide) ?_
              exact W.iret (v := (-1003)) hx hb hr (fun t ht hW => ⟨⟨(-1003), (), rfl, trivial, trivial⟩, hS.F ht⟩) hS.2.2 dX7_judge_74
    · refine lv_if_ne (tgt := 25) hx hb dX7_judge_18 (by decide) (fun h => absurd (by decide) h) (fun _ => ?_)
      refine lv_sipush (v := (-1002)) hx hb dX7_judge_21 (by decide) ?_
      exact W.iret (v := (-1002)) hx hb hr (fun t ht hW => ⟨⟨(-1002), (), rfl, trivial, trivial⟩, hS.F ht⟩) hS.2.2 dX7_judge_24
  · refine lv_if_ne (tgt := 12) hx hb dX7_judge_5 (by decide) (fun _ => ?_) (fun h => absurd h (by decide))
    refine lv_aload_n hx hb dX7_judge_12 rfl (lv_at hl 0 rfl) ?_
    refine lv_iload_n hx hb dX7_judge_13 rfl (lv_at hl 1 rfl) ?_
    refine lv_iload_n hx hb dX7_judge_14 rfl (lv_at hl 2 rfl) ?_
    refine ro_i (D := D) (va_runV (As := [.int 1, .int p1]) (rest := []) ⟨hx, hb, hml, hown, hts⟩ ((x_isRound_1 l D k st lo a rk lfa n1 see1 tm1 g1 p1 (by omega)) H.size) (cwV 2 hts (gV tw_613 tw_615 tw_10 tw_79 tw_616) rfl rfl rfl (by decide +kernel) ⟨Nat.le_of_ble_eq_true rfl, Nat.le_of_ble_eq_true rfl⟩) (pV hS hAlo hlo hP hK hDL hZ [0, 1, 7, 8] (by decide) rfl (ci := 7) (q := (RX7, TX7, 12)) (q0 := 0) rfl rfl) rfl rfl hl.1 rfl (lv_room (Nat.le_of_ble_eq_true rfl)) dX7_judge_15 ⟨Nat.le_of_ble_eq_true rfl, Nat.le_of_ble_eq_true rfl⟩) hS hA hP (fun r_11 H locs hw_11 hP hS => ?_)
    try dsimp only at hw_11
    rcases hw_11 with ⟨rfl, ir_12, hir_12, rfl⟩ | rfl
    · refine lv_if_ne (tgt := 25) hx hb dX7_judge_18 (by decide) (fun _ => ?_) (fun h => absurd h (by decide))
      refine lv_aload_n hx hb dX7_judge_25 rfl (lv_at hl 0 rfl) ?_
      refine va_get (D := D) (ci := 7) (v := .ref (a 53)) (C := RX7) (T := TX7) (N := 12) hx hb hts inX7 hown hK hP 0 rfl rfl 7 (by decide) (hts _ tw_312) (fun _ h9 => h9) rfl dX7_judge_26 ?_
      refine va_get (D := D) (ci := 4) (v := .int (nI rz)) (C := RX4) (T := TX4) (N := 6) hx hb hts inX4 hown hK hP 21 rfl rfl 3 (by decide) (hts _ tw_184) (fun _ h9 => h9) rfl dX7_judge_29 ?_
      refine lv_iconst (v := 1) hx hb dX7_judge_32 (by decide) ?_
      refine lv_isub hx hb dX7_judge_33 ?_
      refine lv_ti (y := (nI rz - 1)) rfl ?_
      refine lv_istore (lv' := [(4, .int (nI rz - 1)), (0, .ref (a 0)), (1, .int 1), (2, .int (nI ir_12)), (3, .int p2)]) hx hb dX7_judge_34 hl (by decide) rfl (fun ls hl => ?_)
      refine lv_iload hx hb dX7_judge_36 (lv_at hl 0 rfl) ?_
      refine lv_if_lt (tgt := 71) hx hb dX7_judge_38 (by decide) (fun c_13 => ?_) (fun c_13 => ?_)
      · refine lv_sipush (v := (-1003)) hx hb dX7_judge_71 (by decide) ?_
        exact W.iret (v := (-1003)) hx hb hr (fun t ht hW => ⟨⟨(-1003), (), rfl, trivial, trivial⟩, hS.F ht⟩) hS.2.2 dX7_judge_74
      · refine lv_iload hx hb dX7_judge_41 (lv_at hl 0 rfl) ?_
        refine lv_aload_n hx hb dX7_judge_43 rfl (lv_at hl 1 rfl) ?_
        refine va_get (D := D) (ci := 7) (v := .ref (a 3)) (C := RX7) (T := TX7) (N := 12) hx hb hts inX7 hown hK hP 0 rfl rfl 1 (by decide) (hts _ tw_306) (fun _ h9 => h9) rfl dX7_judge_44 ?_
        refine lv_iload_n hx hb dX7_judge_47 rfl (lv_at hl 2 rfl) ?_
        refine va_aldq hx hb hK hP 1 3 rfl rfl (by unfold vp_in; decide) dX7_judge_48 ?_
        refine lv_tr (y := .ref (a 9)) rfl ?_
        refine ro_i (D := D) (va_runV (As := []) (rest := [.int (nI rz - 1)]) ⟨hx, hb, hml, hown, hts⟩ ((x_doors l D k st lo (a 9) (a 10) (a 11) (a 12) (a 13) n1 see1 tm1 g1) H.size) (cwV 0 hts (gV tw_580 tw_478 tw_479 tw_81 tw_480) rfl rfl rfl (by decide +kernel) ⟨Nat.le_of_ble_eq_true rfl, Nat.le_of_ble_eq_true rfl⟩) (pV hS hAlo hlo hP hK hDL hZ [7, 8] (by decide) rfl (ci := 5) (q := (RX5, TX5, 4)) (q0 := 0) rfl rfl) rfl rfl hl.1 rfl (lv_room (Nat.le_of_ble_eq_true rfl)) dX7_judge_49 ⟨Nat.le_of_ble_eq_true rfl, Nat.le_of_ble_eq_true rfl⟩) hS hA hP (fun r_14 H locs hw_14 hP hS => ?_)
        try dsimp only at hw_14
        subst hw_14
        refine lv_icmp_ge (tgt := 71) hx hb dX7_judge_52 (by decide) (fun c_15 => ?_) (fun c_15 => ?_)
        · refine lv_sipush (v := (-1003)) hx hb dX7_judge_71 (by decide) ?_
          exact W.iret (v := (-1003)) hx hb hr (fun t ht hW => ⟨⟨(-1003), (), rfl, trivial, trivial⟩, hS.F ht⟩) hS.2.2 dX7_judge_74
        · refine lv_iload_n hx hb dX7_judge_55 rfl (lv_at hl 4 rfl) ?_
          refine lv_if_eq (tgt := 75) hx hb dX7_judge_56 (by decide) (fun c_16 => ?_) (fun c_16 => ?_)
          · refine lv_aload_n hx hb dX7_judge_75 rfl (lv_at hl 1 rfl) ?_
            refine va_get (D := D) (ci := 7) (v := .ref (a 19)) (C := RX7) (T := TX7) (N := 12) hx hb hts inX7 hown hK hP 0 rfl rfl 2 (by decide) (hts _ tw_307) (fun _ h9 => h9) rfl dX7_judge_76 ?_
            refine lv_iload_n hx hb dX7_judge_79 rfl (lv_at hl 2 rfl) ?_
            refine va_aldq hx hb hK hP 2 4 rfl rfl (by unfold vp_in; decide) dX7_judge_80 ?_
            refine lv_tr (y := .ref (a 25)) rfl ?_
            refine lv_iload_n hx hb dX7_judge_81 rfl (lv_at hl 3 rfl) ?_
            refine lv_aload_n hx hb dX7_judge_82 rfl (lv_at hl 1 rfl) ?_
            refine va_get (D := D) (ci := 7) (v := .ref (a 53)) (C := RX7) (T := TX7) (N := 12) hx hb hts inX7 hown hK hP 0 rfl rfl 7 (by decide) (hts _ tw_312) (fun _ h9 => h9) rfl dX7_judge_83 ?_
            refine lv_iload_n hx hb dX7_judge_86 rfl (lv_at hl 4 rfl) ?_
            refine ro_i (D := D) (va_runV (As := [.int (nI ir_12), .ref (a 53), .int p2]) (rest := []) ⟨hx, hb, hml, hown, hts⟩ ((x_firstWrong l D k st lo (a 9) (a 10) (a 11) (a 12) (a 13) n1 see1 tm1 g1 fp1 fl1 (a 25) (a 26) (a 27) (a 28) (a 29) on1 (a 53) (a 54) (a 55) cc rz ro sd ir_12 p2 (by omega) (by omega) (by omega) (by omega)) H.size) (cwV 3 hts (gV tw_756 tw_757 tw_758 tw_85 tw_759) rfl rfl rfl (by decide +kernel) ⟨Nat.le_of_ble_eq_true rfl, Nat.le_of_ble_eq_true rfl⟩) (pV hS hAlo hlo hP hK hDL hZ [7, 8, 9, 10, 17, 18, 21] (by decide) rfl (ci := 0) (q := (RX0, TX0, 5)) (q0 := 4) rfl rfl) rfl rfl hl.1 rfl (lv_room (Nat.le_of_ble_eq_true rfl)) dX7_judge_87 ⟨Nat.le_of_ble_eq_true rfl, Nat.le_of_ble_eq_true rfl⟩) hS hA hP (fun r_17 H locs hw_17 hP hS => ?_)
            try dsimp only at hw_17
            exact W.iret (v := r_17) hx hb hr (fun t ht hW => ⟨⟨r_17, (), rfl, trivial, trivial⟩, hS.F ht⟩) hS.2.2 dX7_judge_90
          · refine lv_aload_n hx hb dX7_judge_59 rfl (lv_at hl 1 rfl) ?_
            refine va_get (D := D) (ci := 7) (v := .ref (a 53)) (C := RX7) (T := TX7) (N := 12) hx hb hts inX7 hown hK hP 0 rfl rfl 7 (by decide) (hts _ tw_312) (fun _ h9 => h9) rfl dX7_judge_60 ?_
            refine lv_iload hx hb dX7_judge_63 (lv_at hl 0 rfl) ?_
            refine ro_i (D := D) (va_runV (As := [.int (nI rz - 1)]) (rest := []) ⟨hx, hb, hml, hown, hts⟩ ((x_sawFree l D k st lo (a 53) (a 54) (a 55) cc rz ro sd (nI rz - 1)) H.size) (cwV 1 hts (gV tw_752 tw_753 tw_754 tw_82 tw_755) rfl rfl rfl (by decide +kernel) ⟨Nat.le_of_ble_eq_true rfl, Nat.le_of_ble_eq_true rfl⟩) (pV hS hAlo hlo hP hK hDL hZ [21] (by decide) rfl (ci := 4) (q := (RX4, TX4, 6)) (q0 := 0) rfl rfl) rfl rfl hl.1 rfl (lv_room (Nat.le_of_ble_eq_true rfl)) dX7_judge_65 ⟨Nat.le_of_ble_eq_true rfl, Nat.le_of_ble_eq_true rfl⟩) hS hA hP (fun r_18 H locs hw_18 hP hS => ?_)
            try dsimp only at hw_18
            rcases hw_18 with rfl | rfl
            · refine lv_if_ne (tgt := 75) hx hb dX7_judge_68 (by decide) (fun _ => ?_) (fun h => absurd h (by decide))
              refine lv_aload_n hx hb dX7_judge_75 rfl (lv_at hl 1 rfl) ?_
              refine va_get (D := D) (ci := 7) (v := .ref (a 19)) (C := RX7) (T := TX7) (N := 12) hx hb hts inX7 hown hK hP 0 rfl rfl 2 (by decide) (hts _ tw_307) (fun _ h9 => h9) rfl dX7_judge_76 ?_
              refine lv_iload_n hx hb dX7_judge_79 rfl (lv_at hl 2 rfl) ?_
              refine va_aldq hx hb hK hP 2 4 rfl rfl (by unfold vp_in; decide) dX7_judge_80 ?_
              refine lv_tr (y := .ref (a 25)) rfl ?_
              refine lv_iload_n hx hb dX7_judge_81 rfl (lv_at hl 3 rfl) ?_
              refine lv_aload_n hx hb dX7_judge_82 rfl (lv_at hl 1 rfl) ?_
              refine va_get (D := D) (ci := 7) (v := .ref (a 53)) (C := RX7) (T := TX7) (N := 12) hx hb hts inX7 hown hK hP 0 rfl rfl 7 (by decide) (hts _ tw_312) (fun _ h9 => h9) rfl dX7_judge_83 ?_
              refine lv_iload_n hx hb dX7_judge_86 rfl (lv_at hl 4 rfl) ?_
              refine ro_i (D := D) (va_runV (As := [.int (nI ir_12), .ref (a 53), .int p2]) (rest := []) ⟨hx, hb, hml, hown, hts⟩ ((x_firstWrong l D k st lo (a 9) (a 10) (a 11) (a 12) (a 13) n1 see1 tm1 g1 fp1 fl1 (a 25) (a 26) (a 27) (a 28) (a 29) on1 (a 53) (a 54) (a 55) cc rz ro sd ir_12 p2 (by omega) (by omega) (by omega) (by omega)) H.size) (cwV 3 hts (gV tw_756 tw_757 tw_758 tw_85 tw_759) rfl rfl rfl (by decide +kernel) ⟨Nat.le_of_ble_eq_true rfl, Nat.le_of_ble_eq_true rfl⟩) (pV hS hAlo hlo hP hK hDL hZ [7, 8, 9, 10, 17, 18, 21] (by decide) rfl (ci := 0) (q := (RX0, TX0, 5)) (q0 := 4) rfl rfl) rfl rfl hl.1 rfl (lv_room (Nat.le_of_ble_eq_true rfl)) dX7_judge_87 ⟨Nat.le_of_ble_eq_true rfl, Nat.le_of_ble_eq_true rfl⟩) hS hA hP (fun r_19 H locs hw_19 hP hS => ?_)
              try dsimp only at hw_19
              exact W.iret (v := r_19) hx hb hr (fun t ht hW => ⟨⟨r_19, (), rfl, trivial, trivial⟩, hS.F ht⟩) hS.2.2 dX7_judge_90
            · refine lv_if_ne (tgt := 75) hx hb dX7_judge_68 (by decide) (fun h => absurd (by decide) h) (fun _ => ?_)
              refine lv_sipush (v := (-1003)) hx hb dX7_judge_71 (by decide) ?_
              exact W.iret (v := (-1003)) hx hb hr (fun t ht hW => ⟨⟨(-1003), (), rfl, trivial, trivial⟩, hS.F ht⟩) hS.2.2 dX7_judge_74
    · refine lv_if_ne (tgt := 25) hx hb dX7_judge_18 (by decide) (fun h => absurd (by decide) h) (fun _ => ?_)
      refine lv_sipush (v := (-1002)) hx hb dX7_judge_21 (by decide) ?_
      exact W.iret (v := (-1002)) hx hb hr (fun t ht hW => ⟨⟨(-1002), (), rfl, trivial, trivial⟩, hS.F ht⟩) hS.2.2 dX7_judge_24
  · refine lv_if_ne (tgt := 12) hx hb dX7_judge_5 (by decide) (fun _ => ?_) (fun h => absurd h (by decide))
    refine lv_aload_n hx hb dX7_judge_12 rfl (lv_at hl 0 rfl) ?_
    refine lv_iload_n hx hb dX7_judge_13 rfl (lv_at hl 1 rfl) ?_
    refine lv_iload_n hx hb dX7_judge_14 rfl (lv_at hl 2 rfl) ?_
    refine ro_i (D := D) (va_runV (As := [.int 2, .int p1]) (rest := []) ⟨hx, hb, hml, hown, hts⟩ ((x_isRound_2 l D k st lo a rk lfa n2 see2 tm2 g2 p1 (by omega)) H.size) (cwV 2 hts (gV tw_613 tw_615 tw_10 tw_79 tw_616) rfl rfl rfl (by decide +kernel) ⟨Nat.le_of_ble_eq_true rfl, Nat.le_of_ble_eq_true rfl⟩) (pV hS hAlo hlo hP hK hDL hZ [0, 1, 11, 12] (by decide) rfl (ci := 7) (q := (RX7, TX7, 12)) (q0 := 0) rfl rfl) rfl rfl hl.1 rfl (lv_room (Nat.le_of_ble_eq_true rfl)) dX7_judge_15 ⟨Nat.le_of_ble_eq_true rfl, Nat.le_of_ble_eq_true rfl⟩) hS hA hP (fun r_20 H locs hw_20 hP hS => ?_)
    try dsimp only at hw_20
    rcases hw_20 with ⟨rfl, ir_21, hir_21, rfl⟩ | rfl
    · refine lv_if_ne (tgt := 25) hx hb dX7_judge_18 (by decide) (fun _ => ?_) (fun h => absurd h (by decide))
      refine lv_aload_n hx hb dX7_judge_25 rfl (lv_at hl 0 rfl) ?_
      refine va_get (D := D) (ci := 7) (v := .ref (a 53)) (C := RX7) (T := TX7) (N := 12) hx hb hts inX7 hown hK hP 0 rfl rfl 7 (by decide) (hts _ tw_312) (fun _ h9 => h9) rfl dX7_judge_26 ?_
      refine va_get (D := D) (ci := 4) (v := .int (nI rz)) (C := RX4) (T := TX4) (N := 6) hx hb hts inX4 hown hK hP 21 rfl rfl 3 (by decide) (hts _ tw_184) (fun _ h9 => h9) rfl dX7_judge_29 ?_
      refine lv_iconst (v := 1) hx hb dX7_judge_32 (by decide) ?_
      refine lv_isub hx hb dX7_judge_33 ?_
      refine lv_ti (y := (nI rz - 1)) rfl ?_
      refine lv_istore (lv' := [(4, .int (nI rz - 1)), (0, .ref (a 0)), (1, .int 2), (2, .int (nI ir_21)), (3, .int p2)]) hx hb dX7_judge_34 hl (by decide) rfl (fun ls hl => ?_)
      refine lv_iload hx hb dX7_judge_36 (lv_at hl 0 rfl) ?_
      refine lv_if_lt (tgt := 71) hx hb dX7_judge_38 (by decide) (fun c_22 => ?_) (fun c_22 => ?_)
      · refine lv_sipush (v := (-1003)) hx hb dX7_judge_71 (by decide) ?_
        exact W.iret (v := (-1003)) hx hb hr (fun t ht hW => ⟨⟨(-1003), (), rfl, trivial, trivial⟩, hS.F ht⟩) hS.2.2 dX7_judge_74
      · refine lv_iload hx hb dX7_judge_41 (lv_at hl 0 rfl) ?_
        refine lv_aload_n hx hb dX7_judge_43 rfl (lv_at hl 1 rfl) ?_
        refine va_get (D := D) (ci := 7) (v := .ref (a 3)) (C := RX7) (T := TX7) (N := 12) hx hb hts inX7 hown hK hP 0 rfl rfl 1 (by decide) (hts _ tw_306) (fun _ h9 => h9) rfl dX7_judge_44 ?_
        refine lv_iload_n hx hb dX7_judge_47 rfl (lv_at hl 2 rfl) ?_
        refine va_aldq hx hb hK hP 1 3 rfl rfl (by unfold vp_in; decide) dX7_judge_48 ?_
        refine lv_tr (y := .ref (a 14)) rfl ?_
        refine ro_i (D := D) (va_runV (As := []) (rest := [.int (nI rz - 1)]) ⟨hx, hb, hml, hown, hts⟩ ((x_doors l D k st lo (a 14) (a 15) (a 16) (a 17) (a 18) n2 see2 tm2 g2) H.size) (cwV 0 hts (gV tw_580 tw_478 tw_479 tw_81 tw_480) rfl rfl rfl (by decide +kernel) ⟨Nat.le_of_ble_eq_true rfl, Nat.le_of_ble_eq_true rfl⟩) (pV hS hAlo hlo hP hK hDL hZ [11, 12] (by decide) rfl (ci := 5) (q := (RX5, TX5, 4)) (q0 := 0) rfl rfl) rfl rfl hl.1 rfl (lv_room (Nat.le_of_ble_eq_true rfl)) dX7_judge_49 ⟨Nat.le_of_ble_eq_true rfl, Nat.le_of_ble_eq_true rfl⟩) hS hA hP (fun r_23 H locs hw_23 hP hS => ?_)
        try dsimp only at hw_23
        subst hw_23
        refine lv_icmp_ge (tgt := 71) hx hb dX7_judge_52 (by decide) (fun c_24 => ?_) (fun c_24 => ?_)
        · refine lv_sipush (v := (-1003)) hx hb dX7_judge_71 (by decide) ?_
          exact W.iret (v := (-1003)) hx hb hr (fun t ht hW => ⟨⟨(-1003), (), rfl, trivial, trivial⟩, hS.F ht⟩) hS.2.2 dX7_judge_74
        · refine lv_iload_n hx hb dX7_judge_55 rfl (lv_at hl 4 rfl) ?_
          refine lv_if_eq (tgt := 75) hx hb dX7_judge_56 (by decide) (fun c_25 => ?_) (fun c_25 => ?_)
          · refine lv_aload_n hx hb dX7_judge_75 rfl (lv_at hl 1 rfl) ?_
            refine va_get (D := D) (ci := 7) (v := .ref (a 19)) (C := RX7) (T := TX7) (N := 12) hx hb hts inX7 hown hK hP 0 rfl rfl 2 (by decide) (hts _ tw_307) (fun _ h9 => h9) rfl dX7_judge_76 ?_
            refine lv_iload_n hx hb dX7_judge_79 rfl (lv_at hl 2 rfl) ?_
            refine va_aldq hx hb hK hP 2 4 rfl rfl (by unfold vp_in; decide) dX7_judge_80 ?_
            refine lv_tr (y := .ref (a 30)) rfl ?_
            refine lv_iload_n hx hb dX7_judge_81 rfl (lv_at hl 3 rfl) ?_
            refine lv_aload_n hx hb dX7_judge_82 rfl (lv_at hl 1 rfl) ?_
            refine va_get (D := D) (ci := 7) (v := .ref (a 53)) (C := RX7) (T := TX7) (N := 12) hx hb hts inX7 hown hK hP 0 rfl rfl 7 (by decide) (hts _ tw_312) (fun _ h9 => h9) rfl dX7_judge_83 ?_
            refine lv_iload_n hx hb dX7_judge_86 rfl (lv_at hl 4 rfl) ?_
            refine ro_i (D := D) (va_runV (As := [.int (nI ir_21), .ref (a 53), .int p2]) (rest := []) ⟨hx, hb, hml, hown, hts⟩ ((x_firstWrong l D k st lo (a 14) (a 15) (a 16) (a 17) (a 18) n2 see2 tm2 g2 fp2 fl2 (a 30) (a 31) (a 32) (a 33) (a 34) on2 (a 53) (a 54) (a 55) cc rz ro sd ir_21 p2 (by omega) (by omega) (by omega) (by omega)) H.size) (cwV 3 hts (gV tw_756 tw_757 tw_758 tw_85 tw_759) rfl rfl rfl (by decide +kernel) ⟨Nat.le_of_ble_eq_true rfl, Nat.le_of_ble_eq_true rfl⟩) (pV hS hAlo hlo hP hK hDL hZ [11, 12, 13, 14, 19, 20, 21] (by decide) rfl (ci := 0) (q := (RX0, TX0, 5)) (q0 := 4) rfl rfl) rfl rfl hl.1 rfl (lv_room (Nat.le_of_ble_eq_true rfl)) dX7_judge_87 ⟨Nat.le_of_ble_eq_true rfl, Nat.le_of_ble_eq_true rfl⟩) hS hA hP (fun r_26 H locs hw_26 hP hS => ?_)
            try dsimp only at hw_26
            exact W.iret (v := r_26) hx hb hr (fun t ht hW => ⟨⟨r_26, (), rfl, trivial, trivial⟩, hS.F ht⟩) hS.2.2 dX7_judge_90
          · refine lv_aload_n hx hb dX7_judge_59 rfl (lv_at hl 1 rfl) ?_
            refine va_get (D := D) (ci := 7) (v := .ref (a 53)) (C := RX7) (T := TX7) (N := 12) hx hb hts inX7 hown hK hP 0 rfl rfl 7 (by decide) (hts _ tw_312) (fun _ h9 => h9) rfl dX7_judge_60 ?_
            refine lv_iload hx hb dX7_judge_63 (lv_at hl 0 rfl) ?_
            refine ro_i (D := D) (va_runV (As := [.int (nI rz - 1)]) (rest := []) ⟨hx, hb, hml, hown, hts⟩ ((x_sawFree l D k st lo (a 53) (a 54) (a 55) cc rz ro sd (nI rz - 1)) H.size) (cwV 1 hts (gV tw_752 tw_753 tw_754 tw_82 tw_755) rfl rfl rfl (by decide +kernel) ⟨Nat.le_of_ble_eq_true rfl, Nat.le_of_ble_eq_true rfl⟩) (pV hS hAlo hlo hP hK hDL hZ [21] (by decide) rfl (ci := 4) (q := (RX4, TX4, 6)) (q0 := 0) rfl rfl) rfl rfl hl.1 rfl (lv_room (Nat.le_of_ble_eq_true rfl)) dX7_judge_65 ⟨Nat.le_of_ble_eq_true rfl, Nat.le_of_ble_eq_true rfl⟩) hS hA hP (fun r_27 H locs hw_27 hP hS => ?_)
            try dsimp only at hw_27
            rcases hw_27 with rfl | rfl
            · refine lv_if_ne (tgt := 75) hx hb dX7_judge_68 (by decide) (fun _ => ?_) (fun h => absurd h (by decide))
              refine lv_aload_n hx hb dX7_judge_75 rfl (lv_at hl 1 rfl) ?_
              refine va_get (D := D) (ci := 7) (v := .ref (a 19)) (C := RX7) (T := TX7) (N := 12) hx hb hts inX7 hown hK hP 0 rfl rfl 2 (by decide) (hts _ tw_307) (fun _ h9 => h9) rfl dX7_judge_76 ?_
              refine lv_iload_n hx hb dX7_judge_79 rfl (lv_at hl 2 rfl) ?_
              refine va_aldq hx hb hK hP 2 4 rfl rfl (by unfold vp_in; decide) dX7_judge_80 ?_
              refine lv_tr (y := .ref (a 30)) rfl ?_
              refine lv_iload_n hx hb dX7_judge_81 rfl (lv_at hl 3 rfl) ?_
              refine lv_aload_n hx hb dX7_judge_82 rfl (lv_at hl 1 rfl) ?_
              refine va_get (D := D) (ci := 7) (v := .ref (a 53)) (C := RX7) (T := TX7) (N := 12) hx hb hts inX7 hown hK hP 0 rfl rfl 7 (by decide) (hts _ tw_312) (fun _ h9 => h9) rfl dX7_judge_83 ?_
              refine lv_iload_n hx hb dX7_judge_86 rfl (lv_at hl 4 rfl) ?_
              refine ro_i (D := D) (va_runV (As := [.int (nI ir_21), .ref (a 53), .int p2]) (rest := []) ⟨hx, hb, hml, hown, hts⟩ ((x_firstWrong l D k st lo (a 14) (a 15) (a 16) (a 17) (a 18) n2 see2 tm2 g2 fp2 fl2 (a 30) (a 31) (a 32) (a 33) (a 34) on2 (a 53) (a 54) (a 55) cc rz ro sd ir_21 p2 (by omega) (by omega) (by omega) (by omega)) H.size) (cwV 3 hts (gV tw_756 tw_757 tw_758 tw_85 tw_759) rfl rfl rfl (by decide +kernel) ⟨Nat.le_of_ble_eq_true rfl, Nat.le_of_ble_eq_true rfl⟩) (pV hS hAlo hlo hP hK hDL hZ [11, 12, 13, 14, 19, 20, 21] (by decide) rfl (ci := 0) (q := (RX0, TX0, 5)) (q0 := 4) rfl rfl) rfl rfl hl.1 rfl (lv_room (Nat.le_of_ble_eq_true rfl)) dX7_judge_87 ⟨Nat.le_of_ble_eq_true rfl, Nat.le_of_ble_eq_true rfl⟩) hS hA hP (fun r_28 H locs hw_28 hP hS => ?_)
              try dsimp only at hw_28
              exact W.iret (v := r_28) hx hb hr (fun t ht hW => ⟨⟨r_28, (), rfl, trivial, trivial⟩, hS.F ht⟩) hS.2.2 dX7_judge_90
            · refine lv_if_ne (tgt := 75) hx hb dX7_judge_68 (by decide) (fun h => absurd (by decide) h) (fun _ => ?_)
              refine lv_sipush (v := (-1003)) hx hb dX7_judge_71 (by decide) ?_
              exact W.iret (v := (-1003)) hx hb hr (fun t ht hW => ⟨⟨(-1003), (), rfl, trivial, trivial⟩, hS.F ht⟩) hS.2.2 dX7_judge_74
    · refine lv_if_ne (tgt := 25) hx hb dX7_judge_18 (by decide) (fun h => absurd (by decide) h) (fun _ => ?_)
      refine lv_sipush (v := (-1002)) hx hb dX7_judge_21 (by decide) ?_
      exact W.iret (v := (-1002)) hx hb hr (fun t ht hW => ⟨⟨(-1002), (), rfl, trivial, trivial⟩, hS.F ht⟩) hS.2.2 dX7_judge_24
  · refine lv_if_ne (tgt := 12) hx hb dX7_judge_5 (by decide) (fun h => absurd (by decide) h) (fun _ => ?_)
    refine lv_sipush (v := (-1001)) hx hb dX7_judge_8 (by decide) ?_
    exact W.iret (v := (-1001)) hx hb hr (fun t ht hW => ⟨⟨(-1001), (), rfl, trivial, trivial⟩, hS.F ht⟩) hS.2.2 dX7_judge_11


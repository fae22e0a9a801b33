theorem dX7_which_0 : decode cX7_which 0 = .ok (.aload_n 0, 1) := by decide +kernel
theorem dX7_which_1 : decode cX7_which 1 = .ok (.iload_n 1, 1) := by decide +kernel
theorem dX7_which_2 : decode cX7_which 2 = .ok (.invokevirtual 108, 3) := by decide +kernel
theorem dX7_which_5 : decode cX7_which 5 = .ok (.ifCond .eq 11, 3) := by decide +kernel
theorem dX7_which_8 : decode cX7_which 8 = .ok (.aload_n 0, 1) := by decide +kernel
theorem dX7_which_9 : decode cX7_which 9 = .ok (.iload_n 2, 1) := by decide +kernel
theorem dX7_which_10 : decode cX7_which 10 = .ok (.invokevirtual 108, 3) := by decide +kernel
theorem dX7_which_13 : decode cX7_which 13 = .ok (.ifCond .ne 7, 3) := by decide +kernel
theorem dX7_which_16 : decode cX7_which 16 = .ok (.sipush (-1001), 3) := by decide +kernel
theorem dX7_which_19 : decode cX7_which 19 = .ok (.ireturn, 1) := by decide +kernel
theorem dX7_which_20 : decode cX7_which 20 = .ok (.aload_n 0, 1) := by decide +kernel
theorem dX7_which_21 : decode cX7_which 21 = .ok (.getfield 24, 3) := by decide +kernel
theorem dX7_which_24 : decode cX7_which 24 = .ok (.iload_n 2, 1) := by decide +kernel
theorem dX7_which_25 : decode cX7_which 25 = .ok (.aaload, 1) := by decide +kernel
theorem dX7_which_26 : decode cX7_which 26 = .ok (.getfield 155, 3) := by decide +kernel
theorem dX7_which_29 : decode cX7_which 29 = .ok (.iconst 0, 1) := by decide +kernel
theorem dX7_which_30 : decode cX7_which 30 = .ok (.iaload, 1) := by decide +kernel
theorem dX7_which_31 : decode cX7_which 31 = .ok (.aload_n 0, 1) := by decide +kernel
theorem dX7_which_32 : decode cX7_which 32 = .ok (.getfield 24, 3) := by decide +kernel
theorem dX7_which_35 : decode cX7_which 35 = .ok (.iload_n 1, 1) := by decide +kernel
theorem dX7_which_36 : decode cX7_which 36 = .ok (.aaload, 1) := by decide +kernel
theorem dX7_which_37 : decode cX7_which 37 = .ok (.getfield 155, 3) := by decide +kernel
theorem dX7_which_40 : decode cX7_which 40 = .ok (.iconst 0, 1) := by decide +kernel
theorem dX7_which_41 : decode cX7_which 41 = .ok (.iaload, 1) := by decide +kernel
theorem dX7_which_42 : decode cX7_which 42 = .ok (.if_icmp .ge 7, 3) := by decide +kernel
theorem dX7_which_45 : decode cX7_which 45 = .ok (.iload_n 2, 1) := by decide +kernel
theorem dX7_which_46 : decode cX7_which 46 = .ok (.goto 4, 3) := by decide +kernel
theorem dX7_which_49 : decode cX7_which 49 = .ok (.iload_n 1, 1) := by decide +kernel
theorem dX7_which_50 : decode cX7_which 50 = .ok (.ireturn, 1) := by decide +kernel
set_option maxHeartbeats 4000000 in
set_option maxRecDepth 100000 in
theorem x_which (l : Launch) (D : va_G) (k : Nat → ClassId) (st : Nat → Nat) (lo : Nat) (a : Nat → Nat) (rk : Nat) (lfa : Int32) (n0 : Nat) (see0 : Nat) (tm0 : Nat) (g0 : Nat → Int32) (n1 : Nat) (see1 : Nat) (tm1 : Nat) (g1 : Nat → Int32) (n2 : Nat) (see2 : Nat) (tm2 : Nat) (g2 : Nat → Int32) (sr0 : Nat → Int32) (sr1 : Nat → Int32) (sr2 : Nat → Int32) (p0 : Int32) (p1 : Int32) (hn0 : n0 ≤ 24) (hse0 : see0 ≤ 2) (htm0 : tm0 ≤ 3) (hn1 : n1 ≤ 24) (hse1 : see1 ≤ 2) (htm1 : tm1 ≤ 3) (hn2 : n2 ≤ 24) (hse2 : see2 ≤ 2) (htm2 : tm2 ≤ 3) : CRi l D k st lo yX7_which cX7_which 3 (some .int) ({ frames := 2, cells := 0, slots := 0, locals := 41 }) [.ref (a 0), .int p0, .int p1] [((a 0), .inr (7, [.ref (a 1), .ref (a 3), .ref (a 19), .ref (a 35), .ref (a 40), .int (nI rk), .int lfa, .ref (a 53), .ref (a 56), .ref (a 63), .ref (a 64), .ref (a 68)])), ((a 3), .inl (k 3, 3, .inr (.inr (.inr (.inr (a3 (a 4) (a 9) (a 14))))))), ((a 19), .inl (k 4, 3, .inr (.inr (.inr (.inr (a3 (a 20) (a 25) (a 30))))))), ((a 4), .inr (5, [.ref (a 5), .ref (a 6), .ref (a 7), .ref (a 8)])), ((a 5), .inl (k 1, 10, .inl (vv n0 see0 tm0 g0))), ((a 9), .inr (5, [.ref (a 10), .ref (a 11), .ref (a 12), .ref (a 13)])), ((a 10), .inl (k 1, 10, .inl (vv n1 see1 tm1 g1))), ((a 14), .inr (5, [.ref (a 15), .ref (a 16), .ref (a 17), .ref (a 18)])), ((a 15), .inl (k 1, 10, .inl (vv n2 see2 tm2 g2))), ((a 20), .inr (0, [.ref (a 4), .ref (a 21), .ref (a 22), .ref (a 23), .ref (a 24)])), ((a 22), .inl (k 1, 4, .inl sr0)), ((a 25), .inr (0, [.ref (a 9), .ref (a 26), .ref (a 27), .ref (a 28), .ref (a 29)])), ((a 27), .inl (k 1, 4, .inl sr1)), ((a 30), .inr (0, [.ref (a 14), .ref (a 31), .ref (a 32), .ref (a 33), .ref (a 34)])), ((a 32), .inl (k 1, 4, .inl sr2))] (fun _ => True) := by
  intro sz
  refine Met.ofW (cc := cX7_which) (maxL := 3) (ret := (some .int)) (by decide) rfl ?_
  intro p e s m args below meth c s₁ B hml hv
  obtain ⟨rfl, hsz, hlo, hP, hK, hDL, hZ⟩ := hv
  have hx := B.exec
  have hb := B.bytes
  have hr := B.returns
  have hts := WS_ts B.pre
  have hown : s.vm.findClass RX7 = some m.cls := findClass_of_methodNamed B.named
  have hlocks := B.notSynchronized
  subst hsz
  have hA : ∀ q : Nat, s.heap.size ≤ q → (fun q : Nat => s.heap.size ≤ q) q := fun _ h => h
  have hAlo : ∀ q : Nat, (fun q : Nat => s.heap.size ≤ q) q → lo ≤ q := fun q h => Nat.le_trans hlo h
  have hS : va_S (fun q : Nat => s.heap.size ≤ q) s.heap s.heap [] := va_S.rf
  have hl := lv_entry ([.ref (a 0), .int p0, .int p1]) (n := 3) (Nat.le_of_ble_eq_true rfl)
  rw [lg_entry_eq]
  generalize (lg_sl ([.ref (a 0), .int p0, .int p1]) ++ List.replicate (3 - (lg_sl ([.ref (a 0), .int p0, .int p1])).length) Slot.unset).toArray = ls at hl ⊢
  have hl : lv_has ls 3 [(0, .ref (a 0)), (1, .int p0), (2, .int p1)] := hl
  refine lv_aload_n hx hb dX7_which_0 rfl (lv_at hl 0 rfl) ?_
  refine lv_iload_n hx hb dX7_which_1 rfl (lv_at hl 1 rfl) ?_
  refine ro_i (D := D) (va_runV (As := [.int p0]) (rest := []) ⟨hx, hb, hml, hown, hts⟩ ((x_isStreet l D k st lo a rk lfa n0 see0 tm0 g0 n1 see1 tm1 g1 n2 see2 tm2 g2 p0 (by omega) (by omega) (by omega)) s.heap.size) (cwV 1 hts (gV tw_589 tw_591 tw_8 tw_79 tw_592) rfl rfl rfl (by decide +kernel) ⟨Nat.le_of_ble_eq_true rfl, Nat.le_of_ble_eq_true rfl⟩) (pV hS hAlo hlo hP hK hDL hZ [0, 1, 3, 4, 5, 6, 7, 8] (by decide) rfl (ci := 7) (q0 := 0) rfl rfl) rfl rfl hl.1 rfl (lv_room (Nat.le_of_ble_eq_true rfl)) dX7_which_2 ⟨Nat.le_of_ble_eq_true rfl, Nat.le_of_ble_eq_true rfl⟩) hS hA hP (fun r_1 H locs hw_1 hP hS => ?_)
  try dsimp only at hw_1
  rcases hw_1 with ⟨rfl, ⟨rfl, hw_1⟩ | ⟨rfl, hw_1⟩ | ⟨rfl, hw_1⟩⟩ | rfl
  · refine lv_if_eq (tgt := 16) hx hb dX7_which_5 (by decide) (fun h => absurd h (by decide)) (fun _ => ?_)
    refine lv_aload_n hx hb dX7_which_8 rfl (lv_at hl 0 rfl) ?_
    refine lv_iload_n hx hb dX7_which_9 rfl (lv_at hl 2 rfl) ?_
    refine ro_i (D := D) (va_runV (As := [.int p1]) (rest := []) ⟨hx, hb, hml, hown, hts⟩ ((x_isStreet l D k st lo a rk lfa n0 see0 tm0 g0 n1 see1 tm1 g1 n2 see2 tm2 g2 p1 (by omega) (by omega) (by omega)) H.size) (cwV 1 hts (gV tw_589 tw_591 tw_8 tw_79 tw_592) rfl rfl rfl (by decide +kernel) ⟨Nat.le_of_ble_eq_true rfl, Nat.le_of_ble_eq_true rfl⟩) (pV hS hAlo hlo hP hK hDL hZ [0, 1, 3, 4, 5, 6, 7, 8] (by decide) rfl (ci := 7) (q0 := 0) rfl rfl) rfl rfl hl.1 rfl (lv_room (Nat.le_of_ble_eq_true rfl)) dX7_which_10 ⟨Nat.le_of_ble_eq_true rfl, Nat.le_of_ble_eq_true rfl⟩) hS hA hP (fun r_2 H locs hw_2 hP hS => ?_)
    try dsimp only at hw_2
    rcases hw_2 with ⟨rfl, ⟨rfl, hw_2⟩ | ⟨rfl, hw_2⟩ | ⟨rfl, hw_2⟩⟩ | rfl
    · refine lv_if_ne (tgt := 20) hx hb dX7_which_13 (by decide) (fun _ => ?_) (fun h => absurd h (by decide))
      refine lv_aload_n hx hb dX7_which_20 rfl (lv_at hl 0 rfl) ?_
      refine va_get (D := D) (ci := 7) (v := .ref (a 19)) (C := RX7) (T := TX7) (N := 12) hx hb hts inX7 hown hK hP 0 rfl rfl 2 (by decide) (hts _ tw_307) (fun _ h9 => h9) rfl dX7_which_21 ?_
      refine lv_iload_n hx hb dX7_which_24 rfl (lv_at hl 2 rfl) ?_
      refine va_aldq hx hb hK hP 2 4 rfl rfl (by unfold vp_in; decide) dX7_which_25 ?_
      refine lv_tr (y := .ref (a 20)) rfl ?_
      refine va_get (D := D) (ci := 0) (v := .ref (a 22)) (C := RX0) (T := TX0) (N := 5) hx hb hts inX0 hown hK hP 9 rfl rfl 2 (by decide) (hts _ tw_269) (fun _ h9 => h9) rfl dX7_which_26 ?_
      refine lv_iconst (v := 0) hx hb dX7_which_29 (by decide) ?_
      refine va_iald hx hb hK hP 10 1 rfl rfl (by unfold vp_in; decide) dX7_which_30 ?_
      refine lv_ti (y := (sr0 0)) (by rfl) ?_
      refine lv_aload_n hx hb dX7_which_31 rfl (lv_at hl 0 rfl) ?_
      refine va_get (D := D) (ci := 7) (v := .ref (a 19)) (C := RX7) (T := TX7) (N := 12) hx hb hts inX7 hown hK hP 0 rfl rfl 2 (by decide) (hts _ tw_307) (fun _ h9 => h9) rfl dX7_which_32 ?_
      refine lv_iload_n hx hb dX7_which_35 rfl (lv_at hl 1 rfl) ?_
      refine va_aldq hx hb hK hP 2 4 rfl rfl (by unfold vp_in; decide) dX7_which_36 ?_
      refine lv_tr (y := .ref (a 20)) rfl ?_
      refine va_get (D := D) (ci := 0) (v := .ref (a 22)) (C := RX0) (T := TX0) (N := 5) hx hb hts inX0 hown hK hP 9 rfl rfl 2 (by decide) (hts _ tw_269) (fun _ h9 => h9) rfl dX7_which_37 ?_
      refine lv_iconst (v := 0) hx hb dX7_which_40 (by decide) ?_
      refine va_iald hx hb hK hP 10 1 rfl rfl (by unfold vp_in; decide) dX7_which_41 ?_
      refine lv_ti (y := (sr0 0)) (by rfl) ?_
      refine lv_icmp_ge (tgt := 49) hx hb dX7_which_42 (by decide) (fun c_3 => ?_) (fun c_3 => ?_)
      · refine lv_iload_n hx hb dX7_which_49 rfl (lv_at hl 1 rfl) ?_
        exact W.iret (v := 0) hx hb hr (fun t ht hW => ⟨⟨0, (), rfl, trivial, trivial⟩, hS.F ht⟩) hS.2.2 dX7_which_50
      · refine lv_iload_n hx hb dX7_which_45 rfl (lv_at hl 2 rfl) ?_
        refine lv_goto (tgt := 50) hx hb dX7_which_46 (by decide) ?_
        exact W.iret (v := 0) hx hb hr (fun t ht hW => ⟨⟨0, (), rfl, trivial, trivial⟩, hS.F ht⟩) hS.2.2 dX7_which_50
    · refine lv_if_ne (tgt := 20) hx hb dX7_which_13 (by decide) (fun _ => ?_) (fun h => absurd h (by decide))
      refine lv_aload_n hx hb dX7_which_20 rfl (lv_at hl 0 rfl) ?_
      refine va_get (D := D) (ci := 7) (v := .ref (a 19)) (C := RX7) (T := TX7) (N := 12) hx hb hts inX7 hown hK hP 0 rfl rfl 2 (by decide) (hts _ tw_307) (fun _ h9 => h9) rfl dX7_which_21 ?_
      refine lv_iload_n hx hb dX7_which_24 rfl (lv_at hl 2 rfl) ?_
      refine va_aldq hx hb hK hP 2 4 rfl rfl (by unfold vp_in; decide) dX7_which_25 ?_
      refine lv_tr (y := .ref (a 25)) rfl ?_
      refine va_get (D := D) (ci := 0) (v := .ref (a 27)) (C := RX0) (T := TX0) (N := 5) hx hb hts inX0 hown hK hP 11 rfl rfl 2 (by decide) (hts _ tw_269) (fun _ h9 => h9) rfl dX7_which_26 ?_
      refine lv_iconst (v := 0) hx hb dX7_which_29 (by decide) ?_
      refine va_iald hx hb hK hP 12 1 rfl rfl (by unfold vp_in; decide) dX7_which_30 ?_
      refine lv_ti (y := (sr1 0)) (by rfl) ?_
      refine lv_aload_n hx hb dX7_which_31 rfl (lv_at hl 0 rfl) ?_
      refine va_get (D := D) (ci := 7) (v := .ref (a 19)) (C := RX7) (T := TX7) (N := 12) hx hb hts inX7 hown hK hP 0 rfl rfl 2 (by decide) (hts _ tw_307) (fun _ h9 => h9) rfl dX7_which_32 ?_
      refine lv_iload_n hx hb dX7_which_35 rfl (lv_at hl 1 rfl) ?_
      refine va_aldq hx hb hK hP 2 4 rfl rfl (by unfold vp_in; decide) dX7_which_36 ?_
      refine lv_tr (y := .ref (a 20)) rfl ?_
      refine va_get (D := D) (ci := 0) (v := .ref (a 22)) (C := RX0) (T := TX0) (N := 5) hx hb hts inX0 hown hK hP 9 rfl rfl 2 (by decide) (hts _ tw_269) (fun _ h9 => h9) rfl dX7_which_37 ?_
      refine lv_iconst (v := 0) hx hb dX7_which_40 (by decide) ?_
      refine va_iald hx hb hK hP 10 1 rfl rfl (by unfold vp_in; decide) dX7_which_41 ?_
      refine lv_ti (y := (sr0 0)) (by rfl) ?_
      refine lv_icmp_ge (tgt := 49) hx hb dX7_which_42 (by decide) (fun c_4 => ?_) (fun c_4 => ?_)
      · refine lv_iload_n hx hb dX7_which_49 rfl (lv_at hl 1 rfl) ?_
        exact W.iret (v := 0) hx hb hr (fun t ht hW => ⟨⟨0, (), rfl, trivial, trivial⟩, hS.F ht⟩) hS.2.2 dX7_which_50
      · refine lv_iload_n hx hb dX7_which_45 rfl (lv_at hl 2 rfl) ?_
        refine lv_goto (tgt := 50) hx hb dX7_which_46 (by decide) ?_
        exact W.iret (v := 1) hx hb hr (fun t ht hW => ⟨⟨1, (), rfl, trivial, trivial⟩, hS.F ht⟩) hS.2.2 dX7_which_50
    · refine lv_if_ne (tgt := 20) hx hb dX7_which_13 (by decide) (fun _ => ?_) (fun h => absurd h (by decide))
      refine lv_aload_n hx hb dX7_which_20 rfl (lv_at hl 0 rfl) ?_
      refine va_get (D := D) (ci := 7) (v := .ref (a 19)) (C := RX7) (T := TX7) (N := 12) hx hb hts inX7 hown hK hP 0 rfl rfl 2 (by decide) (hts _ tw_307) (fun _ h9 => h9) rfl dX7_which_21 ?_
      refine lv_iload_n hx hb dX7_which_24 rfl (lv_at hl 2 rfl) ?_
      refine va_aldq hx hb hK hP 2 4 rfl rfl (by unfold vp_in; decide) dX7_which_25 ?_
      refine lv_tr (y := .ref (a 30)) rfl ?_
      refine va_get (D := D) (ci := 0) (v := .ref (a 32)) (C := RX0) (T := TX0) (N := 5) hx hb hts inX0 hown hK hP 13 rfl rfl 2 (by decide) (hts _ tw_269) (fun _ h9 => h9) rfl dX7_which_26 ?_
      refine lv_iconst (v := 0) hx hb dX7_which_29 (by decide) ?_
      refine va_iald hx hb hK hP 14 1 rfl rfl (by unfold vp_in; decide) dX7_which_30 ?_
      refine lv_ti (y := (sr2 0)) (by rfl) ?_
      refine lv_aload_n hx hb dX7_which_31 rfl (lv_at hl 0 rfl) ?_
      refine va_get (D := D) (ci := 7) (v := .ref (a 19)) (C := RX7) (T := TX7) (N := 12) hx hb hts inX7 hown hK hP 0 rfl rfl 2 (by decide) (hts _ tw_307) (fun _ h9 => h9) rfl dX7_which_32 ?_
      refine lv_iload_n hx hb dX7_which_35 rfl (lv_at hl 1 rfl) ?_
      refine va_aldq hx hb hK hP 2 4 rfl rfl (by unfold vp_in; decide) dX7_which_36 ?_
      refine lv_tr (y := .ref (a 20)) rfl ?_
      refine va_get (D := D) (ci := 0) (v := .ref (a 22)) (C := RX0) (T := TX0) (N := 5) hx hb hts inX0 hown hK hP 9 rfl rfl 2 (by decide) (hts _ tw_269) (fun _ h9 => h9) rfl dX7_which_37 ?_
      refine lv_iconst (v := 0) hx hb dX7_which_40 (by decide) ?_
      refine va_iald hx hb hK hP 10 1 rfl rfl (by unfold vp_in; decide) dX7_which_41 ?_
      refine lv_ti (y := (sr0 0)) (by rfl) ?_
      refine lv_icmp_ge (tgt := 49) hx hb dX7_which_42 (by decide) (fun c_5 => ?_) (fun c_5 => ?_)
      · refine lv_iload_n hx hb dX7_which_49 rfl (lv_at hl 1 rfl) ?_
        exact W.iret (v := 0) hx hb hr (fun t ht hW => ⟨⟨0, (), rfl, trivial, trivial⟩, hS.F ht⟩) hS.2.2 dX7_which_50
      · refine lv_iload_n hx hb dX7_which_45 rfl (lv_at hl 2 rfl) ?_
        refine lv_goto (tgt := 50) hx hb dX7_which_46 (by decide) ?_
        exact W.iret (v := 2) hx hb hr (fun t ht hW => ⟨⟨2, (), rfl, trivial, trivial⟩, hS.F ht⟩) hS.2.2 dX7_which_50
    · refine lv_if_ne (tgt := 20) hx hb dX7_which_13 (by decide) (fun h => absurd (by decide) h) (fun _ => ?_)
      refine lv_sipush (v := (-1001)) hx hb dX7_which_16 (by decide) ?_
      exact W.iret (v := (-1001)) hx hb hr (fun t ht hW => ⟨⟨(-1001), (), rfl, trivial, trivial⟩, hS.F ht⟩) hS.2.2 dX7_which_19
  · refine lv_if_eq (tgt := 16) hx hb dX7_which_5 (by decide) (fun h => absurd h (by decide)) (fun _ => ?_)
    refine lv_aload_n hx hb dX7_which_8 rfl (lv_at hl 0 rfl) ?_
    refine lv_iload_n hx hb dX7_which_9 rfl (lv_at hl 2 rfl) ?_
    refine ro_i (D := D) (va_runV (As := [.int p1]) (rest := []) ⟨hx, hb, hml, hown, hts⟩ ((x_isStreet l D k st lo a rk lfa n0 see0 tm0 g0 n1 see1 tm1 g1 n2 see2 tm2 g2 p1 (by omega) (by omega) (by omega)) H.size) (cwV 1 hts (gV tw_589 tw_591 tw_8 tw_79 tw_592) rfl rfl rfl (by decide +kernel) ⟨Nat.le_of_ble_eq_true rfl, Nat.le_of_ble_eq_true rfl⟩) (pV hS hAlo hlo hP hK hDL hZ [0, 1, 3, 4, 5, 6, 7, 8] (by decide) rfl (ci := 7) (q0 := 0) rfl rfl) rfl rfl hl.1 rfl (lv_room (Nat.le_of_ble_eq_true rfl)) dX7_which_10 ⟨Nat.le_of_ble_eq_true rfl, Nat.le_of_ble_eq_true rfl⟩) hS hA hP (fun r_6 H locs hw_6 hP hS => ?_)
    try dsimp only at hw_6
    rcases hw_6 with ⟨rfl, ⟨rfl, hw_6⟩ | ⟨rfl, hw_6⟩ | ⟨rfl, hw_6⟩⟩ | rfl
    · refine lv_if_ne (tgt := 20) hx hb dX7_which_13 (by decide) (fun _ => ?_) (fun h => absurd h (by decide))
      refine lv_aload_n hx hb dX7_which_20 rfl (lv_at hl 0 rfl) ?_
      refine va_get (D := D) (ci := 7) (v := .ref (a 19)) (C := RX7) (T := TX7) (N := 12) hx hb hts inX7 hown hK hP 0 rfl rfl 2 (by decide) (hts _ tw_307) (fun _ h9 => h9) rfl dX7_which_21 ?_
      refine lv_iload_n hx hb dX7_which_24 rfl (lv_at hl 2 rfl) ?_
      refine va_aldq hx hb hK hP 2 4 rfl rfl (by unfold vp_in; decide) dX7_which_25 ?_
      refine lv_tr (y := .ref (a 20)) rfl ?_
      refine va_get (D := D) (ci := 0) (v := .ref (a 22)) (C := RX0) (T := TX0) (N := 5) hx hb hts inX0 hown hK hP 9 rfl rfl 2 (by decide) (hts _ tw_269) (fun _ h9 => h9) rfl dX7_which_26 ?_
      refine lv_iconst (v := 0) hx hb dX7_which_29 (by decide) ?_
      refine va_iald hx hb hK hP 10 1 rfl rfl (by unfold vp_in; decide) dX7_which_30 ?_
      refine lv_ti (y := (sr0 0)) (by rfl) ?_
      refine lv_aload_n hx hb dX7_which_31 rfl (lv_at hl 0 rfl) ?_
      refine va_get (D := D) (ci := 7) (v := .ref (a 19)) (C := RX7) (T := TX7) (N := 12) hx hb hts inX7 hown hK hP 0 rfl rfl 2 (by decide) (hts _ tw_307) (fun _ h9 => h9) rfl dX7_which_32 ?_
      refine lv_iload_n hx hb dX7_which_35 rfl (lv_at hl 1 rfl) ?_
      refine va_aldq hx hb hK hP 2 4 rfl rfl (by unfold vp_in; decide) dX7_which_36 ?_
      refine lv_tr (y := .ref (a 25)) rfl ?_
      refine va_get (D := D) (ci := 0) (v := .ref (a 27)) (C := RX0) (T := TX0) (N := 5) hx hb hts inX0 hown hK hP 11 rfl rfl 2 (by decide) (hts _ tw_269) (fun _ h9 => h9) rfl dX7_which_37 ?_
      refine lv_iconst (v := 0) hx hb dX7_which_40 (by decide) ?_
      refine va_iald hx hb hK hP 12 1 rfl rfl (by unfold vp_in; decide) dX7_which_41 ?_
      refine lv_ti (y := (sr1 0)) (by rfl) ?_
      refine lv_icmp_ge (tgt := 49) hx hb dX7_which_42 (by decide) (fun c_7 => ?_) (fun c_7 => ?_)
      · refine lv_iload_n hx hb dX7_which_49 rfl (lv_at hl 1 rfl) ?_
        exact W.iret (v := 1) hx hb hr (fun t ht hW => ⟨⟨1, (), rfl, trivial, trivial⟩, hS.F ht⟩) hS.2.2 dX7_which_50
      · refine lv_iload_n hx hb dX7_which_45 rfl (lv_at hl 2 rfl) ?_
        refine lv_goto (tgt := 50) hx hb dX7_which_46 (by decide) ?_
        exact W.iret (v := 0) hx hb hr (fun t ht hW => ⟨⟨0, (), rfl, trivial, trivial⟩, hS.F ht⟩) hS.2.2 dX7_which_50
    · refine lv_if_ne (tgt := 20) hx hb dX7_which_13 (by decide) (fun _ => ?_) (fun h => absurd h (by decide))
      refine lv_aload_n hx hb dX7_which_20 rfl (lv_at hl 0 rfl) ?_
      refine va_get (D := D) (ci := 7) (v := .ref (a 19)) (C := RX7) (T := TX7) (N := 12) hx hb hts inX7 hown hK hP 0 rfl rfl 2 (by decide) (hts _ tw_307) (fun _ h9 => h9) rfl dX7_which_21 ?_
      refine lv_iload_n hx hb dX7_which_24 rfl (lv_at hl 2 rfl) ?_
      refine va_aldq hx hb hK hP 2 4 rfl rfl (by unfold vp_in; decide) dX7_which_25 ?_
      refine lv_tr (y := .ref (a 25)) rfl ?_
      refine va_get (D := D) (ci := 0) (v := .ref (a 27)) (C := RX0) (T := TX0) (N := 5) hx hb hts inX0 hown hK hP 11 rfl rfl 2 (by decide) (hts _ tw_269) (fun _ h9 => h9) rfl dX7_which_26 ?_
      refine lv_iconst (v := 0) hx hb dX7_which_29 (by decide) ?_
      refine va_iald hx hb hK hP 12 1 rfl rfl (by unfold vp_in; decide) dX7_which_30 ?_
      refine lv_ti (y := (sr1 0)) (by rfl) ?_
      refine lv_aload_n hx hb dX7_which_31 rfl (lv_at hl 0 rfl) ?_
      refine va_get (D := D) (ci := 7) (v := .ref (a 19)) (C := RX7) (T := TX7) (N := 12) hx hb hts inX7 hown hK hP 0 rfl rfl 2 (by decide) (hts _ tw_307) (fun _ h9 => h9) rfl dX7_which_32 ?_
      refine lv_iload_n hx hb dX7_which_35 rfl (lv_at hl 1 rfl) ?_
      refine va_aldq hx hb hK hP 2 4 rfl rfl (by unfold vp_in; decide) dX7_which_36 ?_
      refine lv_tr (y := .ref (a 25)) rfl ?_
      refine va_get (D := D) (ci := 0) (v := .ref (a 27)) (C := RX0) (T := TX0) (N := 5) hx hb hts inX0 hown hK hP 11 rfl rfl 2 (by decide) (hts _ tw_269) (fun _ h9 => h9) rfl dX7_which_37 ?_
      refine lv_iconst (v := 0) hx hb dX7_which_40 (by decide) ?_
      refine va_iald hx hb hK hP 12 1 rfl rfl (by unfold vp_in; decide) dX7_which_41 ?_
      refine lv_ti (y := (sr1 0)) (by rfl) ?_
      refine lv_icmp_ge (tgt := 49) hx hb dX7_which_42 (by decide) (fun c_8 => ?_) (fun c_8 => ?_)
      · refine lv_iload_n hx hb dX7_which_49 rfl (lv_at hl 1 rfl) ?_
        exact W.iret (v := 1) hx hb hr (fun t ht hW => ⟨⟨1, (), rfl, trivial, trivial⟩, hS.F ht⟩) hS.2.2 dX7_which_50
      · refine lv_iload_n hx hb dX7_which_45 rfl (lv_at hl 2 rfl) ?_
        refine lv_goto (tgt := 50) hx hb dX7_which_46 (by decide) ?_
        exact W.iret (v := 1) hx hb hr (fun t ht hW => ⟨⟨1, (), rfl, trivial, trivial⟩, hS.F ht⟩) hS.2.2 dX7_which_50
    · refine lv_if_ne (tgt := 20) hx hb dX7_which_13 (by decide) (fun _ => ?_) (fun h => absurd h (by decide))
      refine lv_aload_n hx hb dX7_which_20 rfl (lv_at hl 0 rfl) ?_
      refine va_get (D := D) (ci := 7) (v := .ref (a 19)) (C := RX7) (T := TX7) (N := 12) hx hb hts inX7 hown hK hP 0 rfl rfl 2 (by decide) (hts _ tw_307) (fun _ h9 => h9) rfl dX7_which_21 ?_
      refine lv_iload_n hx hb dX7_which_24 rfl (lv_at hl 2 rfl) ?_
      refine va_aldq hx hb hK hP 2 4 rfl rfl (by unfold vp_in; decide) dX7_which_25 ?_
      refine lv_tr (y := .ref (a 30)) rfl ?_
      refine va_get (D := D) (ci := 0) (v := .ref (a 32)) (C := RX0) (T := TX0) (N := 5) hx hb hts inX0 hown hK hP 13 rfl rfl 2 (by decide) (hts _ tw_269) (fun _ h9 => h9) rfl dX7_which_26 ?_
      refine lv_iconst (v := 0) hx hb dX7_which_29 (by decide) ?_
      refine va_iald hx hb hK hP 14 1 rfl rfl (by unfold vp_in; decide) dX7_which_30 ?_
      refine lv_ti (y := (sr2 0)) (by rfl) ?_
      refine lv_aload_n hx hb dX7_which_31 rfl (lv_at hl 0 rfl) ?_
      refine va_get (D := D) (ci := 7) (v := .ref (a 19)) (C := RX7) (T := TX7) (N := 12) hx hb hts inX7 hown hK hP 0 rfl rfl 2 (by decide) (hts _ tw_307) (fun _ h9 => h9) rfl dX7_which_32 ?_
      refine lv_iload_n hx hb dX7_which_35 rfl (lv_at hl 1 rfl) ?_
      refine va_aldq hx hb hK hP 2 4 rfl rfl (by unfold vp_in; decide) dX7_which_36 ?_
      refine lv_tr (y := .ref (a 25)) rfl ?_
      refine va_get (D := D) (ci := 0) (v := .ref (a 27)) (C := RX0) (T := TX0) (N := 5) hx hb hts inX0 hown hK hP 11 rfl rfl 2 (by decide) (hts _ tw_269) (fun _ h9 => h9) rfl dX7_which_37 ?_
      refine lv_iconst (v := 0) hx hb dX7_which_40 (by decide) ?_
      refine va_iald hx hb hK hP 12 1 rfl rfl (by unfold vp_in; decide) dX7_which_41 ?_
      refine lv_ti (y := (sr1 0)) (by rfl) ?_
      refine lv_icmp_ge (tgt := 49) hx hb dX7_which_42 (by decide) (fun c_9 => ?_) (fun c_9 => ?_)
      · refine lv_iload_n hx hb dX7_which_49 rfl (lv_at hl 1 rfl) ?_
        exact W.iret (v := 1) hx hb hr (fun t ht hW => ⟨⟨1, (), rfl, trivial, trivial⟩, hS.F ht⟩) hS.2.2 dX7_which_50
      · refine lv_iload_n hx hb dX7_which_45 rfl (lv_at hl 2 rfl) ?_
        refine lv_goto (tgt := 50) hx hb dX7_which_46 (by decide) ?_
        exact W.iret (v := 2) hx hb hr (fun t ht hW => ⟨⟨2, (), rfl, trivial, trivial⟩, hS.F ht⟩) hS.2.2 dX7_which_50
    · refine lv_if_ne (tgt := 20) hx hb dX7_which_13 (by decide) (fun h => absurd (by decide) h) (fun _ => ?_)
      refine lv_sipush (v := (-1001)) hx hb dX7_which_16 (by decide) ?_
      exact W.iret (v := (-1001)) hx hb hr (fun t ht hW => ⟨⟨(-1001), (), rfl, trivial, trivial⟩, hS.F ht⟩) hS.2.2 dX7_which_19
  · refine lv_if_eq (tgt := 16) hx hb dX7_which_5 (by decide) (fun h => absurd h (by decide)) (fun _ => ?_)
    refine lv_aload_n hx hb dX7_which_8 rfl (lv_at hl 0 rfl) ?_
    refine lv_iload_n hx hb dX7_which_9 rfl (lv_at hl 2 rfl) ?_
    refine ro_i (D := D) (va_runV (As := [.int p1]) (rest := []) ⟨hx, hb, hml, hown, hts⟩ ((x_isStreet l D k st lo a rk lfa n0 see0 tm0 g0 n1 see1 tm1 g1 n2 see2 tm2 g2 p1 (by omega) (by omega) (by omega)) H.size) (cwV 1 hts (gV tw_589 tw_591 tw_8 tw_79 tw_592) rfl rfl rfl (by decide +kernel) ⟨Nat.le_of_ble_eq_true rfl, Nat.le_of_ble_eq_true rfl⟩) (pV hS hAlo hlo hP hK hDL hZ [0, 1, 3, 4, 5, 6, 7, 8] (by decide) rfl (ci := 7) (q0 := 0) rfl rfl) rfl rfl hl.1 rfl (lv_room (Nat.le_of_ble_eq_true rfl)) dX7_which_10 ⟨Nat.le_of_ble_eq_true rfl, Nat.le_of_ble_eq_true rfl⟩) hS hA hP (fun r_10 H locs hw_10 hP hS => ?_)
    try dsimp only at hw_10
    rcases hw_10 with ⟨rfl, ⟨rfl, hw_10⟩ | ⟨rfl, hw_10⟩ | ⟨rfl, hw_10⟩⟩ | rfl
    · refine lv_if_ne (tgt := 20) hx hb dX7_which_13 (by decide) (fun _ => ?_) (fun h => absurd h (by decide))
      refine lv_aload_n hx hb dX7_which_20 rfl (lv_at hl 0 rfl) ?_
      refine va_get (D := D) (ci := 7) (v := .ref (a 19)) (C := RX7) (T := TX7) (N := 12) hx hb hts inX7 hown hK hP 0 rfl rfl 2 (by decide) (hts _ tw_307) (fun _ h9 => h9) rfl dX7_which_21 ?_
      refine lv_iload_n hx hb dX7_which_24 rfl (lv_at hl 2 rfl) ?_
      refine va_aldq hx hb hK hP 2 4 rfl rfl (by unfold vp_in; decide) dX7_which_25 ?_
      refine lv_tr (y := .ref (a 20)) rfl ?_
      refine va_get (D := D) (ci := 0) (v := .ref (a 22)) (C := RX0) (T := TX0) (N := 5) hx hb hts inX0 hown hK hP 9 rfl rfl 2 (by decide) (hts _ tw_269) (fun _ h9 => h9) rfl dX7_which_26 ?_
      refine lv_iconst (v := 0) hx hb dX7_which_29 (by decide) ?_
      refine va_iald hx hb hK hP 10 1 rfl rfl (by unfold vp_in; decide) dX7_which_30 ?_
      refine lv_ti (y := (sr0 0)) (by rfl) ?_
      refine lv_aload_n hx hb dX7_which_31 rfl (lv_at hl 0 rfl) ?_
      refine va_get (D := D) (ci := 7) (v := .ref (a 19)) (C := RX7) (T := TX7) (N := 12) hx hb hts inX7 hown hK hP 0 rfl rfl 2 (by decide) (hts _ tw_307) (fun _ h9 => h9) rfl dX7_which_32 ?_
      refine lv_iload_n hx hb dX7_which_35 rfl (lv_at hl 1 rfl) ?_
      refine va_aldq hx hb hK hP 2 4 rfl rfl (by unfold vp_in; decide) dX7_which_36 ?_
      refine lv_tr (y := .ref (a 30)) rfl ?_
      refine va_get (D := D) (ci := 0) (v := .ref (a 32)) (C := RX0) (T := TX0) (N := 5) hx hb hts inX0 hown hK hP 13 rfl rfl 2 (by decide) (hts _ tw_269) (fun _ h9 => h9) rfl dX7_which_37 ?_
      refine lv_iconst (v := 0) hx hb dX7_which_40 (by decide) ?_
      refine va_iald hx hb hK hP 14 1 rfl rfl (by unfold vp_in; decide) dX7_which_41 ?_
      refine lv_ti (y := (sr2 0)) (by rfl) ?_
      refine lv_icmp_ge (tgt := 49) hx hb dX7_which_42 (by decide) (fun c_11 => ?_) (fun c_11 => ?_)
      · refine lv_iload_n hx hb dX7_which_49 rfl (lv_at hl 1 rfl) ?_
        exact W.iret (v := 2) hx hb hr (fun t ht hW => ⟨⟨2, (), rfl, trivial, trivial⟩, hS.F ht⟩) hS.2.2 dX7_which_50
      · refine lv_iload_n hx hb dX7_which_45 rfl (lv_at hl 2 rfl) ?_
        refine lv_goto (tgt := 50) hx hb dX7_which_46 (by decide) ?_
        exact W.iret (v := 0) hx hb hr (fun t ht hW => ⟨⟨0, (), rfl, trivial, trivial⟩, hS.F ht⟩) hS.2.2 dX7_which_50
    · refine lv_if_ne (tgt := 20) hx hb dX7_which_13 (by decide) (fun _ => ?_) (fun h => absurd h (by decide))
      refine lv_aload_n hx hb dX7_which_20 rfl (lv_at hl 0 rfl) ?_
      refine va_get (D := D) (ci := 7) (v := .ref (a 19)) (C := RX7) (T := TX7) (N := 12) hx hb hts inX7 hown hK hP 0 rfl rfl 2 (by decide) (hts _ tw_307) (fun _ h9 => h9) rfl dX7_which_21 ?_
      refine lv_iload_n hx hb dX7_which_24 rfl (lv_at hl 2 rfl) ?_
      refine va_aldq hx hb hK hP 2 4 rfl rfl (by unfold vp_in; decide) dX7_which_25 ?_
      refine lv_tr (y := .ref (a 25)) rfl ?_
      refine va_get (D := D) (ci := 0) (v := .ref (a 27)) (C := RX0) (T := TX0) (N := 5) hx hb hts inX0 hown hK hP 11 rfl rfl 2 (by decide) (hts _ tw_269) (fun _ h9 => h9) rfl dX7_which_26 ?_
      refine lv_iconst (v := 0) hx hb dX7_which_29 (by decide) ?_
      refine va_iald hx hb hK hP 12 1 rfl rfl (by unfold vp_in; decide) dX7_which_30 ?_
      refine lv_ti (y := (sr1 0)) (by rfl) ?_
      refine lv_aload_n hx hb dX7_which_31 rfl (lv_at hl 0 rfl) ?_
      refine va_get (D := D) (ci := 7) (v := .ref (a 19)) (C := RX7) (T := TX7) (N := 12) hx hb hts inX7 hown hK hP 0 rfl rfl 2 (by decide) (hts _ tw_307) (fun _ h9 => h9) rfl dX7_which_32 ?_
      refine lv_iload_n hx hb dX7_which_35 rfl (lv_at hl 1 rfl) ?_
      refine va_aldq hx hb hK hP 2 4 rfl rfl (by unfold vp_in; decide) dX7_which_36 ?_
      refine lv_tr (y := .ref (a 30)) rfl ?_
      refine va_get (D := D) (ci := 0) (v := .ref (a 32)) (C := RX0) (T := TX0) (N := 5) hx hb hts inX0 hown hK hP 13 rfl rfl 2 (by decide) (hts _ tw_269) (fun _ h9 => h9) rfl dX7_which_37 ?_
      refine lv_iconst (v := 0) hx hb dX7_which_40 (by decide) ?_
      refine va_iald hx hb hK hP 14 1 rfl rfl (by unfold vp_in; decide) dX7_which_41 ?_
      refine lv_ti (y := (sr2 0)) (by rfl) ?_
      refine lv_icmp_ge (tgt := 49) hx hb dX7_which_42 (by decide) (fun c_12 => ?_) (fun c_12 => ?_)
      · refine lv_iload_n hx hb dX7_which_49 rfl (lv_at hl 1 rfl) ?_
        exact W.iret (v := 2) hx hb hr (fun t ht hW => ⟨⟨2, (), rfl, trivial, trivial⟩, hS.F ht⟩) hS.2.2 dX7_which_50
      · refine lv_iload_n hx hb dX7_which_45 rfl (lv_at hl 2 rfl) ?_
        refine lv_goto (tgt := 50) hx hb dX7_which_46 (by decide) ?_
        exact W.iret (v := 1) hx hb hr (fun t ht hW => ⟨⟨1, (), rfl, trivial, trivial⟩, hS.F ht⟩) hS.2.2 dX7_which_50
    · refine lv_if_ne (tgt := 20) hx hb dX7_which_13 (by decide) (fun _ => ?_) (fun h => absurd h (by decide))
      refine lv_aload_n hx hb dX7_which_20 rfl (lv_at hl 0 rfl) ?_
      refine va_get (D := D) (ci := 7) (v := .ref (a 19)) (C := RX7) (T := TX7) (N := 12) hx hb hts inX7 hown hK hP 0 rfl rfl 2 (by decide) (hts _ tw_307) (fun _ h9 => h9) rfl dX7_which_21 ?_
      refine lv_iload_n hx hb dX7_which_24 rfl (lv_at hl 2 rfl) ?_
      refine va_aldq hx hb hK hP 2 4 rfl rfl (by unfold vp_in; decide) dX7_which_25 ?_
      refine lv_tr (y := .ref (a 30)) rfl ?_
      refine va_get (D := D) (ci := 0) (v := .ref (a 32)) (C := RX0) (T := TX0) (N := 5) hx hb hts inX0 hown hK hP 13 rfl rfl 2 (by decide) (hts _ tw_269) (fun _ h9 => h9) rfl dX7_which_26 ?_
      refine lv_iconst (v := 0) hx hb dX7_which_29 (by decide) ?_
      refine va_iald hx hb hK hP 14 1 rfl rfl (by unfold vp_in; decide) dX7_which_30 ?_
      refine lv_ti (y := (sr2 0)) (by rfl) ?_
      refine lv_aload_n hx hb dX7_which_31 rfl (lv_at hl 0 rfl) ?_
      refine va_get (D := D) (ci := 7) (v := .ref (a 19)) (C := RX7) (T := TX7) (N := 12) hx hb hts inX7 hown hK hP 0 rfl rfl 2 (by decide) (hts _ tw_307) (fun _ h9 => h9) rfl dX7_which_32 ?_
      refine lv_iload_n hx hb dX7_which_35 rfl (lv_at hl 1 rfl) ?_
      refine va_aldq hx hb hK hP 2 4 rfl rfl (by unfold vp_in; decide) dX7_which_36 ?_
      refine lv_tr (y := .ref (a 30)) rfl ?_
      refine va_get (D := D) (ci := 0) (v := .ref (a 32)) (C := RX0) (T := TX0) (N := 5) hx hb hts inX0 hown hK hP 13 rfl rfl 2 (by decide) (hts _ tw_269) (fun _ h9 => h9) rfl dX7_which_37 ?_
      refine lv_iconst (v := 0) hx hb dX7_which_40 (by decide) ?_
      refine va_iald hx hb hK hP 14 1 rfl rfl (by unfold vp_in; decide) dX7_which_41 ?_
      refine lv_ti (y := (sr2 0)) (by rfl) ?_
      refine lv_icmp_ge (tgt := 49) hx hb dX7_which_42 (by decide) (fun c_13 => ?_) (fun c_13 => ?_)
      · refine lv_iload_n hx hb dX7_which_49 rfl (lv_at hl 1 rfl) ?_
        exact W.iret (v := 2) hx hb hr (fun t ht hW => ⟨⟨2, (), rfl, trivial, trivial⟩, hS.F ht⟩) hS.2.2 dX7_which_50
      · refine lv_iload_n hx hb dX7_which_45 rfl (lv_at hl 2 rfl) ?_
        refine lv_goto (tgt := 50) hx hb dX7_which_46 (by decide) ?_
        exact W.iret (v := 2) hx hb hr (fun t ht hW => ⟨⟨2, (), rfl, trivial, trivial⟩, hS.F ht⟩) hS.2.2 dX7_which_50
    · refine lv_if_ne (tgt := 20) hx hb dX7_which_13 (by decide) (fun h => absurd (by decide) h) (fun _ => ?_)
      refine lv_sipush (v := (-1001)) hx hb dX7_which_16 (by decide) ?_
      exact W.iret (v := (-1001)) hx hb hr (fun t ht hW => ⟨⟨(-1001), (), rfl, trivial, trivial⟩, hS.F ht⟩) hS.2.2 dX7_which_19
  · refine lv_if_eq (tgt := 16) hx hb dX7_which_5 (by decide) (fun _ => ?_) (fun h => absurd (by decide) h)
    refine lv_sipush (v := (-1001)) hx hb dX7_which_16 (by decide) ?_
    exact W.iret (v := (-1001)) hx hb hr (fun t ht hW => ⟨⟨(-1001), (), rfl, trivial, trivial⟩, hS.F ht⟩) hS.2.2 dX7_which_19


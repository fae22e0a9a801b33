theorem dX7_takes_0 : decode cX7_takes 0 = .ok (.aload_n 0, 1) := by decide +kernel
theorem dX7_takes_1 : decode cX7_takes 1 = .ok (.iload_n 1, 1) := by decide +kernel
theorem dX7_takes_2 : decode cX7_takes 2 = .ok (.iload_n 2, 1) := by decide +kernel
theorem dX7_takes_3 : decode cX7_takes 3 = .ok (.iload_n 3, 1) := by decide +kernel
theorem dX7_takes_4 : decode cX7_takes 4 = .ok (.iload 4, 2) := by decide +kernel
theorem dX7_takes_6 : decode cX7_takes 6 = .ok (.invokevirtual 141, 3) := by decide +kernel
theorem dX7_takes_9 : decode cX7_takes 9 = .ok (.istore 5, 2) := by decide +kernel
theorem dX7_takes_11 : decode cX7_takes 11 = .ok (.iload 5, 2) := by decide +kernel
theorem dX7_takes_13 : decode cX7_takes 13 = .ok (.ifCond .eq 6, 3) := by decide +kernel
theorem dX7_takes_16 : decode cX7_takes 16 = .ok (.iload 5, 2) := by decide +kernel
theorem dX7_takes_18 : decode cX7_takes 18 = .ok (.ireturn, 1) := by decide +kernel
theorem dX7_takes_19 : decode cX7_takes 19 = .ok (.iload 4, 2) := by decide +kernel
theorem dX7_takes_21 : decode cX7_takes 21 = .ok (.iconst 1, 1) := by decide +kernel
theorem dX7_takes_22 : decode cX7_takes 22 = .ok (.iand, 1) := by decide +kernel
theorem dX7_takes_23 : decode cX7_takes 23 = .ok (.ifCond .ne 7, 3) := by decide +kernel
theorem dX7_takes_26 : decode cX7_takes 26 = .ok (.sipush (-1003), 3) := by decide +kernel
theorem dX7_takes_29 : decode cX7_takes 29 = .ok (.ireturn, 1) := by decide +kernel
theorem dX7_takes_30 : decode cX7_takes 30 = .ok (.aload_n 0, 1) := by decide +kernel
theorem dX7_takes_31 : decode cX7_takes 31 = .ok (.getfield 24, 3) := by decide +kernel
theorem dX7_takes_34 : decode cX7_takes 34 = .ok (.iload_n 1, 1) := by decide +kernel
theorem dX7_takes_35 : decode cX7_takes 35 = .ok (.aaload, 1) := by decide +kernel
theorem dX7_takes_36 : decode cX7_takes 36 = .ok (.iload_n 2, 1) := by decide +kernel
theorem dX7_takes_37 : decode cX7_takes 37 = .ok (.iload_n 3, 1) := by decide +kernel
theorem dX7_takes_38 : decode cX7_takes 38 = .ok (.iload 4, 2) := by decide +kernel
theorem dX7_takes_40 : decode cX7_takes 40 = .ok (.invokevirtual 152, 3) := by decide +kernel
theorem dX7_takes_43 : decode cX7_takes 43 = .ok (.ifCond .eq 7, 3) := by decide +kernel
theorem dX7_takes_46 : decode cX7_takes 46 = .ok (.iconst 1, 1) := by decide +kernel
theorem dX7_takes_47 : decode cX7_takes 47 = .ok (.goto 4, 3) := by decide +kernel
theorem dX7_takes_50 : decode cX7_takes 50 = .ok (.iconst 0, 1) := by decide +kernel
theorem dX7_takes_51 : decode cX7_takes 51 = .ok (.ireturn, 1) := by decide +kernel
set_option maxHeartbeats 4000000 in
set_option maxRecDepth 100000 in
theorem x_takes (l : Launch) (D : va_G) (k : Nat → ClassId) (st : Nat → Nat) (lo : Nat) (a : Nat → Nat) (rk : Nat) (lfa : Int32) (n0 : Nat) (see0 : Nat) (tm0 : Nat) (g0 : Nat → Int32) (fp0 : Nat → Int32) (fl0 : Nat → Int32) (n1 : Nat) (see1 : Nat) (tm1 : Nat) (g1 : Nat → Int32) (fp1 : Nat → Int32) (fl1 : Nat → Int32) (n2 : Nat) (see2 : Nat) (tm2 : Nat) (g2 : Nat → Int32) (fp2 : Nat → Int32) (fl2 : Nat → Int32) (on0 : Nat → Int32) (on1 : Nat → Int32) (on2 : Nat → Int32) (p0 : Int32) (p1 : Int32) (p2 : Int32) (p3 : Int32) (hn0 : n0 ≤ 24) (hse0 : see0 ≤ 2) (htm0 : tm0 ≤ 3) (hn1 : n1 ≤ 24) (hse1 : see1 ≤ 2) (htm1 : tm1 ≤ 3) (hn2 : n2 ≤ 24) (hse2 : see2 ≤ 2) (htm2 : tm2 ≤ 3) : CRi l D k st lo yX7_takes cX7_takes 6 (some .int) ({ frames := 4, cells := 0, slots := 0, locals := 106 }) [.ref (a 0), .int p0, .int p1, .int p2, .int p3] [((a 0), .inr (7, [.ref (a 1), .ref (a 3), .ref (a 19), .ref (a 35), .ref (a 40), .int (nI rk), .int lfa, .ref (a 53), .ref (a 56), .ref (a 63), .ref (a 64), .ref (a 68)])), ((a 3), .inl (k 3, 3, .inr (.inr (.inr (.inr (a3 (a 4) (a 9) (a 14))))))), ((a 19), .inl (k 4, 3, .inr (.inr (.inr (.inr (a3 (a 20) (a 25) (a 30))))))), ((a 4), .inr (5, [.ref (a 5), .ref (a 6), .ref (a 7), .ref (a 8)])), ((a 5), .inl (k 1, 10, .inl (vv n0 see0 tm0 g0))), ((a 7), .inl (k 1, 24, .inl fp0)), ((a 8), .inl (k 1, 4, .inl fl0)), ((a 9), .inr (5, [.ref (a 10), .ref (a 11), .ref (a 12), .ref (a 13)])), ((a 10), .inl (k 1, 10, .inl (vv n1 see1 tm1 g1))), ((a 12), .inl (k 1, 24, .inl fp1)), ((a 13), .inl (k 1, 4, .inl fl1)), ((a 14), .inr (5, [.ref (a 15), .ref (a 16), .ref (a 17), .ref (a 18)])), ((a 15), .inl (k 1, 10, .inl (vv n2 see2 tm2 g2))), ((a 17), .inl (k 1, 24, .inl fp2)), ((a 18), .inl (k 1, 4, .inl fl2)), ((a 20), .inr (0, [.ref (a 4), .ref (a 21), .ref (a 22), .ref (a 23), .ref (a 24)])), ((a 21), .inl (k 1, 768, .inl on0)), ((a 25), .inr (0, [.ref (a 9), .ref (a 26), .ref (a 27), .ref (a 28), .ref (a 29)])), ((a 26), .inl (k 1, 768, .inl on1)), ((a 30), .inr (0, [.ref (a 14), .ref (a 31), .ref (a 32), .ref (a 33), .ref (a 34)])), ((a 31), .inl (k 1, 768, .inl on2))] (fun _ => True) := by
  intro sz
  refine Met.ofW (cc := cX7_takes) (maxL := 6) (ret := (some .int)) (by decide) rfl ?_
  intro p e s m args below meth c s₁ B hml hv
  obtain ⟨rfl, hsz, hlo, hP, hK, hDL, hZ⟩ := hv
  have hx := B.exec
  have hb := B.bytes
  have hr := B.returns
  have hts := WS_ts B.pre
  have hown : s.vm.findClass RX7 = some m.cls := findClass_of_methodNamed B.named
  have hlocks := B.notSynchronized
  subst hsz
  have hA : ∀ q : Nat, s.heap.size ≤ q → (fun q : Nat => s.heap.size ≤ q) q := fun _ h => h
  have hAlo : ∀ q : Nat, (fun q : Nat => s.heap.size ≤ q) q → lo ≤ q := fun q h => Nat.le_trans hlo h
  have hS : va_S (fun q : Nat => s.heap.size ≤ q) s.heap s.heap [] := va_S.rf
  have hl := lv_entry ([.ref (a 0), .int p0, .int p1, .int p2, .int p3]) (n := 6) (Nat.le_of_ble_eq_true rfl)
  rw [lg_entry_eq]
  generalize (lg_sl ([.ref (a 0), .int p0, .int p1, .int p2, .int p3]) ++ List.replicate (6 - (lg_sl ([.ref (a 0), .int p0, .int p1, .int p2, .int p3])).length) Slot.unset).toArray = ls at hl ⊢
  have hl : lv_has ls 6 [(0, .ref (a 0)), (1, .int p0), (2, .int p1), (3, .int p2), (4, .int p3)] := hl
  refine lv_aload_n hx hb dX7_takes_0 rfl (lv_at hl 0 rfl) ?_
  refine lv_iload_n hx hb dX7_takes_1 rfl (lv_at hl 1 rfl) ?_
  refine lv_iload_n hx hb dX7_takes_2 rfl (lv_at hl 2 rfl) ?_
  refine lv_iload_n hx hb dX7_takes_3 rfl (lv_at hl 3 rfl) ?_
  refine lv_iload hx hb dX7_takes_4 (lv_at hl 4 rfl) ?_
  refine ro_i (D := D) (va_runV (As := [.int p0, .int p1, .int p2, .int p3]) (rest := []) ⟨hx, hb, hml, hown, hts⟩ ((x_refuseSight l D k st lo a rk lfa n0 see0 tm0 g0 n1 see1 tm1 g1 n2 see2 tm2 g2 p0 p1 p2 p3 (by omega) (by omega) (by omega) (by omega) (by omega) (by omega) (by omega) (by omega) (by omega)) s.heap.size) (cwV 4 hts (gV tw_622 tw_624 tw_11 tw_79 tw_625) rfl rfl rfl (by decide +kernel) ⟨Nat.le_of_ble_eq_true rfl, Nat.le_of_ble_eq_true rfl⟩) (pV hS hAlo hlo hP hK hDL hZ [0, 1, 3, 4, 7, 8, 11, 12] (by decide) rfl (ci := 7) (q0 := 0) rfl rfl) rfl rfl hl.1 rfl (lv_room (Nat.le_of_ble_eq_true rfl)) dX7_takes_6 ⟨Nat.le_of_ble_eq_true rfl, Nat.le_of_ble_eq_true rfl⟩) hS hA hP (fun r_1 H locs hw_1 hP hS => ?_)
  try dsimp only at hw_1
  rcases hw_1 with ⟨rfl, ⟨rfl, ir_2, id_2, ig_2, hir_2, hid_2, hig_2, rfl, rfl, rfl⟩ | ⟨rfl, ir_2, id_2, ig_2, hir_2, hid_2, hig_2, rfl, rfl, rfl⟩ | ⟨rfl, ir_2, id_2, ig_2, hir_2, hid_2, hig_2, rfl, rfl, rfl⟩⟩ | rfl | rfl
  · refine lv_istore (lv' := [(5, .int 0), (0, .ref (a 0)), (1, .int 0), (2, .int (nI ir_2)), (3, .int (nI id_2)), (4, .int (nI ig_2))]) hx hb dX7_takes_9 hl (by decide) rfl (fun ls hl => ?_)
    refine lv_iload hx hb dX7_takes_11 (lv_at hl 0 rfl) ?_
    refine lv_if_eq (tgt := 19) hx hb dX7_takes_13 (by decide) (fun _ => ?_) (fun h => absurd (by decide) h)
    refine lv_iload hx hb dX7_takes_19 (lv_at hl 5 rfl) ?_
    refine lv_iconst (v := 1) hx hb dX7_takes_21 (by decide) ?_
    refine lv_iand hx hb dX7_takes_22 ?_
    refine lv_topi (fun x_3 ex_3 => ?_)
    refine lv_if_ne (tgt := 30) hx hb dX7_takes_23 (by decide) (fun c_4 => ?_) (fun c_4 => ?_)
    · refine lv_aload_n hx hb dX7_takes_30 rfl (lv_at hl 1 rfl) ?_
      refine va_get (D := D) (ci := 7) (v := .ref (a 19)) (C := RX7) (T := TX7) (N := 12) hx hb hts inX7 hown hK hP 0 rfl rfl 2 (by decide) (hts _ tw_307) (fun _ h9 => h9) rfl dX7_takes_31 ?_
      refine lv_iload_n hx hb dX7_takes_34 rfl (lv_at hl 2 rfl) ?_
      refine va_aldq hx hb hK hP 2 4 rfl rfl (by unfold vp_in; decide) dX7_takes_35 ?_
      refine lv_tr (y := .ref (a 20)) rfl ?_
      refine lv_iload_n hx hb dX7_takes_36 rfl (lv_at hl 3 rfl) ?_
      refine lv_iload_n hx hb dX7_takes_37 rfl (lv_at hl 4 rfl) ?_
      refine lv_iload hx hb dX7_takes_38 (lv_at hl 5 rfl) ?_
      refine ro_i (D := D) (va_runV (As := [.int (nI ir_2), .int (nI id_2), .int (nI ig_2)]) (rest := []) ⟨hx, hb, hml, hown, hts⟩ ((x_isTaken l D k st lo (a 4) (a 5) (a 6) (a 7) (a 8) n0 see0 tm0 g0 fp0 fl0 (a 20) (a 21) (a 22) (a 23) (a 24) on0 ir_2 id_2 ig_2 (by omega) (by omega) (by omega)) H.size) (cwV 3 hts (gV tw_637 tw_638 tw_639 tw_85 tw_640) rfl rfl rfl (by decide +kernel) ⟨Nat.le_of_ble_eq_true rfl, Nat.le_of_ble_eq_true rfl⟩) (pV hS hAlo hlo hP hK hDL hZ [3, 4, 5, 6, 15, 16] (by decide) rfl (ci := 0) (q0 := 4) rfl rfl) rfl rfl hl.1 rfl (lv_room (Nat.le_of_ble_eq_true rfl)) dX7_takes_40 ⟨Nat.le_of_ble_eq_true rfl, Nat.le_of_ble_eq_true rfl⟩) hS hA hP (fun r_5 H locs hw_5 hP hS => ?_)
      try dsimp only at hw_5
      rcases hw_5 with rfl | rfl
      · refine lv_if_eq (tgt := 50) hx hb dX7_takes_43 (by decide) (fun h => absurd h (by decide)) (fun _ => ?_)
        refine lv_iconst (v := 1) hx hb dX7_takes_46 (by decide) ?_
        refine lv_goto (tgt := 51) hx hb dX7_takes_47 (by decide) ?_
        exact W.iret (v := 1) hx hb hr (fun t ht hW => ⟨⟨1, (), rfl, trivial, trivial⟩, hS.F ht⟩) hS.2.2 dX7_takes_51
      · refine lv_if_eq (tgt := 50) hx hb dX7_takes_43 (by decide) (fun _ => ?_) (fun h => absurd (by decide) h)
        refine lv_iconst (v := 0) hx hb dX7_takes_50 (by decide) ?_
        exact W.iret (v := 0) hx hb hr (fun t ht hW => ⟨⟨0, (), rfl, trivial, trivial⟩, hS.F ht⟩) hS.2.2 dX7_takes_51
    · refine lv_sipush (v := (-1003)) hx hb dX7_takes_26 (by decide) ?_
      exact W.iret (v := (-1003)) hx hb hr (fun t ht hW => ⟨⟨(-1003), (), rfl, trivial, trivial⟩, hS.F ht⟩) hS.2.2 dX7_takes_29
  · refine lv_istore (lv' := [(5, .int 0), (0, .ref (a 0)), (1, .int 1), (2, .int (nI ir_2)), (3, .int (nI id_2)), (4, .int (nI ig_2))]) hx hb dX7_takes_9 hl (by decide) rfl (fun ls hl => ?_)
    refine lv_iload hx hb dX7_takes_11 (lv_at hl 0 rfl) ?_
    refine lv_if_eq (tgt := 19) hx hb dX7_takes_13 (by decide) (fun _ => ?_) (fun h => absurd (by decide) h)
    refine lv_iload hx hb dX7_takes_19 (lv_at hl 5 rfl) ?_
    refine lv_iconst (v := 1) hx hb dX7_takes_21 (by decide) ?_
    refine lv_iand hx hb dX7_takes_22 ?_
    refine lv_topi (fun x_6 ex_6 => ?_)
    refine lv_if_ne (tgt := 30) hx hb dX7_takes_23 (by decide) (fun c_7 => ?_) (fun c_7 => ?_)
    · refine lv_aload_n hx hb dX7_takes_30 rfl (lv_at hl 1 rfl) ?_
      refine va_get (D := D) (ci := 7) (v := .ref (a 19)) (C := RX7) (T := TX7) (N := 12) hx hb hts inX7 hown hK hP 0 rfl rfl 2 (by decide) (hts _ tw_307) (fun _ h9 => h9) rfl dX7_takes_31 ?_
      refine lv_iload_n hx hb dX7_takes_34 rfl (lv_at hl 2 rfl) ?_
      refine va_aldq hx hb hK hP 2 4 rfl rfl (by unfold vp_in; decide) dX7_takes_35 ?_
      refine lv_tr (y := .ref (a 25)) rfl ?_
      refine lv_iload_n hx hb dX7_takes_36 rfl (lv_at hl 3 rfl) ?_
      refine lv_iload_n hx hb dX7_takes_37 rfl (lv_at hl 4 rfl) ?_
      refine lv_iload hx hb dX7_takes_38 (lv_at hl 5 rfl) ?_
      refine ro_i (D := D) (va_runV (As := [.int (nI ir_2), .int (nI id_2), .int (nI ig_2)]) (rest := []) ⟨hx, hb, hml, hown, hts⟩ ((x_isTaken l D k st lo (a 9) (a 10) (a 11) (a 12) (a 13) n1 see1 tm1 g1 fp1 fl1 (a 25) (a 26) (a 27) (a 28) (a 29) on1 ir_2 id_2 ig_2 (by omega) (by omega) (by omega)) H.size) (cwV 3 hts (gV tw_637 tw_638 tw_639 tw_85 tw_640) rfl rfl rfl (by decide +kernel) ⟨Nat.le_of_ble_eq_true rfl, Nat.le_of_ble_eq_true rfl⟩) (pV hS hAlo hlo hP hK hDL hZ [7, 8, 9, 10, 17, 18] (by decide) rfl (ci := 0) (q0 := 4) rfl rfl) rfl rfl hl.1 rfl (lv_room (Nat.le_of_ble_eq_true rfl)) dX7_takes_40 ⟨Nat.le_of_ble_eq_true rfl, Nat.le_of_ble_eq_true rfl⟩) hS hA hP (fun r_8 H locs hw_8 hP hS => ?_)
      try dsimp only at hw_8
      rcases hw_8 with rfl | rfl
      · refine lv_if_eq (tgt := 50) hx hb dX7_takes_43 (by decide) (fun h => absurd h (by decide)) (fun _ => ?_)
        refine lv_iconst (v := 1) hx hb dX7_takes_46 (by decide) ?_
        refine lv_goto (tgt := 51) hx hb dX7_takes_47 (by decide) ?_
        exact W.iret (v := 1) hx hb hr (fun t ht hW => ⟨⟨1, (), rfl, trivial, trivial⟩, hS.F ht⟩) hS.2.2 dX7_takes_51
      · refine lv_if_eq (tgt := 50) hx hb dX7_takes_43 (by decide) (fun _ => ?_) (fun h => absurd (by decide) h)
        refine lv_iconst (v := 0) hx hb dX7_takes_50 (by decide) ?_
        exact W.iret (v := 0) hx hb hr (fun t ht hW => ⟨⟨0, (), rfl, trivial, trivial⟩, hS.F ht⟩) hS.2.2 dX7_takes_51
    · refine lv_sipush (v := (-1003)) hx hb dX7_takes_26 (by decide) ?_
      exact W.iret (v := (-1003)) hx hb hr (fun t ht hW => ⟨⟨(-1003), (), rfl, trivial, trivial⟩, hS.F ht⟩) hS.2.2 dX7_takes_29
  · refine lv_istore (lv' := [(5, .int 0), (0, .ref (a 0)), (1, .int 2), (2, .int (nI ir_2)), (3, .int (nI id_2)), (4, .int (nI ig_2))]) hx hb dX7_takes_9 hl (by decide) rfl (fun ls hl => ?_)
    refine lv_iload hx hb dX7_takes_11 (lv_at hl 0 rfl) ?_
    refine lv_if_eq (tgt := 19) hx hb dX7_takes_13 (by decide) (fun _ => ?_) (fun h => absurd (by decide) h)
    refine lv_iload hx hb dX7_takes_19 (lv_at hl 5 rfl) ?_
    refine lv_iconst (v := 1) hx hb dX7_takes_21 (by decide) ?_
    refine lv_iand hx hb dX7_takes_22 ?_
    refine lv_topi (fun x_9 ex_9 => ?_)
    refine lv_if_ne (tgt := 30) hx hb dX7_takes_23 (by decide) (fun c_10 => ?_) (fun c_10 => ?_)
    · refine lv_aload_n hx hb dX7_takes_30 rfl (lv_at hl 1 rfl) ?_
      refine va_get (D := D) (ci := 7) (v := .ref (a 19)) (C := RX7) (T := TX7) (N := 12) hx hb hts inX7 hown hK hP 0 rfl rfl 2 (by decide) (hts _ tw_307) (fun _ h9 => h9) rfl dX7_takes_31 ?_
      refine lv_iload_n hx hb dX7_takes_34 rfl (lv_at hl 2 rfl) ?_
      refine va_aldq hx hb hK hP 2 4 rfl rfl (by unfold vp_in; decide) dX7_takes_35 ?_
      refine lv_tr (y := .ref (a 30)) rfl ?_
      refine lv_iload_n hx hb dX7_takes_36 rfl (lv_at hl 3 rfl) ?_
      refine lv_iload_n hx hb dX7_takes_37 rfl (lv_at hl 4 rfl) ?_
      refine lv_iload hx hb dX7_takes_38 (lv_at hl 5 rfl) ?_
      refine ro_i (D := D) (va_runV (As := [.int (nI ir_2), .int (nI id_2), .int (nI ig_2)]) (rest := []) ⟨hx, hb, hml, hown, hts⟩ ((x_isTaken l D k st lo (a 14) (a 15) (a 16) (a 17) (a 18) n2 see2 tm2 g2 fp2 fl2 (a 30) (a 31) (a 32) (a 33) (a 34) on2 ir_2 id_2 ig_2 (by omega) (by omega) (by omega)) H.size) (cwV 3 hts (gV tw_637 tw_638 tw_639 tw_85 tw_640) rfl rfl rfl (by decide +kernel) ⟨Nat.le_of_ble_eq_true rfl, Nat.le_of_ble_eq_true rfl⟩) (pV hS hAlo hlo hP hK hDL hZ [11, 12, 13, 14, 19, 20] (by decide) rfl (ci := 0) (q0 := 4) rfl rfl) rfl rfl hl.1 rfl (lv_room (Nat.le_of_ble_eq_true rfl)) dX7_takes_40 ⟨Nat.le_of_ble_eq_true rfl, Nat.le_of_ble_eq_true rfl⟩) hS hA hP (fun r_11 H locs hw_11 hP hS => ?_)
      try dsimp only at hw_11
      rcases hw_11 with rfl | rfl
      · refine lv_if_eq (tgt := 50) hx hb dX7_takes_43 (by decide) (fun h => absurd h (by decide)) (fun _ => ?_)
        refine lv_iconst (v := 1) hx hb dX7_takes_46 (by decide) ?_
        refine lv_goto (tgt := 51) hx hb dX7_takes_47 (by decide) ?_
        exact W.iret (v := 1) hx hb hr (fun t ht hW => ⟨⟨1, (), rfl, trivial, trivial⟩, hS.F ht⟩) hS.2.2 dX7_takes_51
      · refine lv_if_eq (tgt := 50) hx hb dX7_takes_43 (by decide) (fun _ => ?_) (fun h => absurd (by decide) h)
        refine lv_iconst (v := 0) hx hb dX7_takes_50 (by decide) ?_
        exact W.iret (v := 0) hx hb hr (fun t ht hW => ⟨⟨0, (), rfl, trivial, trivial⟩, hS.F ht⟩) hS.2.2 dX7_takes_51
    · refine lv_sipush (v := (-1003)) hx hb dX7_takes_26 (by decide) ?_
      exact W.iret (v := (-1003)) hx hb hr (fun t ht hW => ⟨⟨(-1003), (), rfl, trivial, trivial⟩, hS.F ht⟩) hS.2.2 dX7_takes_29
  · refine lv_istore (lv' := [(5, .int (-1001)), (0, .ref (a 0)), (1, .int p0), (2, .int p1), (3, .int p2), (4, .int p3)]) hx hb dX7_takes_9 hl (by decide) rfl (fun ls hl => ?_)
    refine lv_iload hx hb dX7_takes_11 (lv_at hl 0 rfl) ?_
    refine lv_if_eq (tgt := 19) hx hb dX7_takes_13 (by decide) (fun h => absurd h (by decide)) (fun _ => ?_)
    refine lv_iload hx hb dX7_takes_16 (lv_at hl 0 rfl) ?_
    exact W.iret (v := (-1001)) hx hb hr (fun t ht hW => ⟨⟨(-1001), (), rfl, trivial, trivial⟩, hS.F ht⟩) hS.2.2 dX7_takes_18
  · refine lv_istore (lv' := [(5, .int (-1002)), (0, .ref (a 0)), (1, .int p0), (2, .int p1), (3, .int p2), (4, .int p3)]) hx hb dX7_takes_9 hl (by decide) rfl (fun ls hl => ?_)
    refine lv_iload hx hb dX7_takes_11 (lv_at hl 0 rfl) ?_
    refine lv_if_eq (tgt := 19) hx hb dX7_takes_13 (by decide) (fun h => absurd h (by decide)) (fun _ => ?_)
    refine lv_iload hx hb dX7_takes_16 (lv_at hl 0 rfl) ?_
    exact W.iret (v := (-1002)) hx hb hr (fun t ht hW => ⟨⟨(-1002), (), rfl, trivial, trivial⟩, hS.F ht⟩) hS.2.2 dX7_takes_18


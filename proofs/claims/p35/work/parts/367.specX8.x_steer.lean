theorem dX7_steer_0 : decode cX7_steer 0 = .ok (.aload_n 0, 1) := by decide +kernel
theorem dX7_steer_1 : decode cX7_steer 1 = .ok (.iload_n 1, 1) := by decide +kernel
theorem dX7_steer_2 : decode cX7_steer 2 = .ok (.invokevirtual 220, 3) := by decide +kernel
theorem dX7_steer_5 : decode cX7_steer 5 = .ok (.ifCond .ne 7, 3) := by decide +kernel
theorem dX7_steer_8 : decode cX7_steer 8 = .ok (.sipush (-1001), 3) := by decide +kernel
theorem dX7_steer_11 : decode cX7_steer 11 = .ok (.ireturn, 1) := by decide +kernel
theorem dX7_steer_12 : decode cX7_steer 12 = .ok (.iload_n 2, 1) := by decide +kernel
theorem dX7_steer_13 : decode cX7_steer 13 = .ok (.iconst 0, 1) := by decide +kernel
theorem dX7_steer_14 : decode cX7_steer 14 = .ok (.bipush 24, 2) := by decide +kernel
theorem dX7_steer_16 : decode cX7_steer 16 = .ok (.invokestatic 112, 3) := by decide +kernel
theorem dX7_steer_19 : decode cX7_steer 19 = .ok (.ifCond .ne 7, 3) := by decide +kernel
theorem dX7_steer_22 : decode cX7_steer 22 = .ok (.sipush (-1002), 3) := by decide +kernel
theorem dX7_steer_25 : decode cX7_steer 25 = .ok (.ireturn, 1) := by decide +kernel
theorem dX7_steer_26 : decode cX7_steer 26 = .ok (.aload_n 0, 1) := by decide +kernel
theorem dX7_steer_27 : decode cX7_steer 27 = .ok (.getfield 49, 3) := by decide +kernel
theorem dX7_steer_30 : decode cX7_steer 30 = .ok (.getfield 223, 3) := by decide +kernel
theorem dX7_steer_33 : decode cX7_steer 33 = .ok (.iload_n 1, 1) := by decide +kernel
theorem dX7_steer_34 : decode cX7_steer 34 = .ok (.iaload, 1) := by decide +kernel
theorem dX7_steer_35 : decode cX7_steer 35 = .ok (.istore_n 3, 1) := by decide +kernel
theorem dX7_steer_36 : decode cX7_steer 36 = .ok (.aload_n 0, 1) := by decide +kernel
theorem dX7_steer_37 : decode cX7_steer 37 = .ok (.getfield 49, 3) := by decide +kernel
theorem dX7_steer_40 : decode cX7_steer 40 = .ok (.getfield 223, 3) := by decide +kernel
theorem dX7_steer_43 : decode cX7_steer 43 = .ok (.iload_n 1, 1) := by decide +kernel
theorem dX7_steer_44 : decode cX7_steer 44 = .ok (.iload_n 2, 1) := by decide +kernel
theorem dX7_steer_45 : decode cX7_steer 45 = .ok (.iastore, 1) := by decide +kernel
theorem dX7_steer_46 : decode cX7_steer 46 = .ok (.iload_n 3, 1) := by decide +kernel
theorem dX7_steer_47 : decode cX7_steer 47 = .ok (.ireturn, 1) := by decide +kernel
set_option maxHeartbeats 4000000 in
set_option maxRecDepth 100000 in
theorem x_steer (l : Launch) (D : va_G) (k : Nat → ClassId) (st : Nat → Nat) (lo : Nat) (a : Nat → Nat) (rk : Nat) (lfa : Int32) (cc : Nat) (rz : Nat) (ro : Int32) (sd : Int32) (wk : Nat → Int32) (br : Nat → Nat) (p0 : Int32) (p1 : Int32) (hcc : cc ≤ 4) (hbr : ∀ j, br j ≤ 24) : CWi l D k st lo yX7_steer cX7_steer 4 (some .int) ({ frames := 1, cells := 0, slots := 0, locals := 22 }) 0 0 [.ref (a 0), .int p0, .int p1] [((a 0), .inr (7, [.ref (a 1), .ref (a 3), .ref (a 19), .ref (a 35), .ref (a 40), .int (nI rk), .int lfa, .ref (a 53), .ref (a 56), .ref (a 63), .ref (a 64), .ref (a 68)])), ((a 53), .inr (4, [.ref (a 54), .ref (a 55), .int (nI cc), .int (nI rz), .int ro, .int sd])), ((a 54), .inl (k 1, 4, .inl wk)), ((a 55), .inl (k 1, 4, .inl (nF br)))] (fun (r : Int32) (br_ : (Nat → Nat)) => ∀ j, br_ j ≤ 24) (fun (br_ : (Nat → Nat)) => [((a 0), .inr (7, [.ref (a 1), .ref (a 3), .ref (a 19), .ref (a 35), .ref (a 40), .int (nI rk), .int lfa, .ref (a 53), .ref (a 56), .ref (a 63), .ref (a 64), .ref (a 68)])), ((a 53), .inr (4, [.ref (a 54), .ref (a 55), .int (nI cc), .int (nI rz), .int ro, .int sd])), ((a 54), .inl (k 1, 4, .inl wk)), ((a 55), .inl (k 1, 4, .inl (nF br_)))]) := by
  intro sz
  refine Met.ofW (cc := cX7_steer) (maxL := 4) (ret := (some .int)) (by decide) rfl ?_
  intro p e s m args below meth c s₁ B hml hv
  obtain ⟨rfl, hsz, hlo, hP, hK, hDL, hZ⟩ := hv
  have hx := B.exec
  have hb := B.bytes
  have hr := B.returns
  have hts := WS_ts B.pre
  have hown : s.vm.findClass RX7 = some m.cls := findClass_of_methodNamed B.named
  have hlocks := B.notSynchronized
  subst hsz
  have hD := hDL.self (sz := s.heap.size)
  have hAlo := A_lo hDL hlo
  generalize hAe : va_A [((a 0), .inr (7, [.ref (a 1), .ref (a 3), .ref (a 19), .ref (a 35), .ref (a 40), .int (nI rk), .int lfa, .ref (a 53), .ref (a 56), .ref (a 63), .ref (a 64), .ref (a 68)])), ((a 53), .inr (4, [.ref (a 54), .ref (a 55), .int (nI cc), .int (nI rz), .int ro, .int sd])), ((a 54), .inl (k 1, 4, .inl wk)), ((a 55), .inl (k 1, 4, .inl (nF br)))] s.heap.size = A at hD hAlo ⊢
  have hA : ∀ q : Nat, s.heap.size ≤ q → A q := fun q h => by rw [← hAe]; exact Or.inr h
  have hS : va_S A s.heap s.heap [] := va_S.rf
  have hl := lv_entry ([.ref (a 0), .int p0, .int p1]) (n := 4) (Nat.le_of_ble_eq_true rfl)
  rw [lg_entry_eq]
  generalize (lg_sl ([.ref (a 0), .int p0, .int p1]) ++ List.replicate (4 - (lg_sl ([.ref (a 0), .int p0, .int p1])).length) Slot.unset).toArray = ls at hl ⊢
  have hl : lv_has ls 4 [(0, .ref (a 0)), (1, .int p0), (2, .int p1)] := hl
  refine lv_aload_n hx hb dX7_steer_0 rfl (lv_at hl 0 rfl) ?_
  refine lv_iload_n hx hb dX7_steer_1 rfl (lv_at hl 1 rfl) ?_
  refine ro_i (D := D) (va_runV (As := [.int p0]) (rest := []) ⟨hx, hb, hml, hown, hts⟩ ((x_isCar l D k st lo a rk lfa cc rz ro sd p0 (by omega)) s.heap.size) (cwV 1 hts (gV tw_809 tw_811 tw_17 tw_79 tw_812) rfl rfl rfl (by decide +kernel) ⟨Nat.le_of_ble_eq_true rfl, Nat.le_of_ble_eq_true rfl⟩) (pV hS hAlo hlo hP hK (va_Dlo hD hAlo) hZ [0, 1] (by decide) rfl (ci := 7) (q0 := 0) rfl rfl) rfl rfl hl.1 rfl (lv_room (Nat.le_of_ble_eq_true rfl)) dX7_steer_2 ⟨Nat.le_of_ble_eq_true rfl, Nat.le_of_ble_eq_true rfl⟩) hS hA hP (fun r_1 H locs hw_1 hP hS => ?_)
  try dsimp only at hw_1
  rcases hw_1 with ⟨rfl, ic_2, hic_2, rfl⟩ | rfl
  · refine lv_if_ne (tgt := 12) hx hb dX7_steer_5 (by decide) (fun _ => ?_) (fun h => absurd h (by decide))
    refine lv_iload_n hx hb dX7_steer_12 rfl (lv_at hl 2 rfl) ?_
    refine lv_iconst (v := 0) hx hb dX7_steer_13 (by decide) ?_
    refine lv_bipush (v := 24) hx hb dX7_steer_14 (by decide) ?_
    refine ro_i (D := D) (va_runS (As := [.int p1, .int 0, .int 24]) (rest := []) ⟨hx, hb, hml, hown, hts⟩ ((k_isIn l D k st lo p1 0 24) H.size) (va_cwS 3 hts (gS tw_593 tw_594 tw_79 tw_595) rfl rfl rfl (by decide +kernel) ⟨Nat.le_of_ble_eq_true rfl, Nat.le_of_ble_eq_true rfl⟩) (pS hS hAlo hlo hP hK (va_Dlo hD hAlo) hZ [] (by decide) rfl) rfl rfl hl.1 rfl (lv_room (Nat.le_of_ble_eq_true rfl)) dX7_steer_16 ⟨Nat.le_of_ble_eq_true rfl, Nat.le_of_ble_eq_true rfl⟩) hS hA hP (fun r_3 H locs hw_3 hP hS => ?_)
    try dsimp only at hw_3
    rcases hw_3 with ⟨rfl, hw_3⟩ | ⟨rfl, hw_3⟩
    · refine lv_if_ne (tgt := 26) hx hb dX7_steer_19 (by decide) (fun _ => ?_) (fun h => absurd h (by decide))
      obtain ⟨nb_4, hnl_4, hnh_4, rfl⟩ := inB_ofc (a := 0) (b := 24) (by omega) (by omega) hw_3
      refine lv_aload_n hx hb dX7_steer_26 rfl (lv_at hl 0 rfl) ?_
      refine va_get (D := D) (ci := 7) (v := .ref (a 53)) (C := RX7) (T := TX7) (N := 12) hx hb hts inX7 hown hK hP 0 rfl rfl 7 (by decide) (hts _ tw_312) (fun _ h9 => h9) rfl dX7_steer_27 ?_
      refine va_get (D := D) (ci := 4) (v := .ref (a 55)) (C := RX4) (T := TX4) (N := 6) hx hb hts inX4 hown hK hP 1 rfl rfl 1 (by decide) (hts _ tw_177) (fun _ h9 => h9) rfl dX7_steer_30 ?_
      refine lv_iload_n hx hb dX7_steer_33 rfl (lv_at hl 1 rfl) ?_
      refine va_iald hx hb hK hP 3 1 rfl rfl (vp_in_nI (by omega) (by decide)) dX7_steer_34 ?_
      have hq_5 := hbr ic_2
      have hq_6 := hbr ic_2
      refine lv_ti (y := (nI (br ic_2))) (by rw [nI_clamp (by omega)]; rfl) ?_
      refine lv_istore_n (lv' := [(3, .int (nI (br ic_2))), (0, .ref (a 0)), (1, .int (nI ic_2)), (2, .int (nI nb_4))]) hx hb dX7_steer_35 rfl hl (by decide) rfl (fun ls hl => ?_)
      refine lv_aload_n hx hb dX7_steer_36 rfl (lv_at hl 1 rfl) ?_
      refine va_get (D := D) (ci := 7) (v := .ref (a 53)) (C := RX7) (T := TX7) (N := 12) hx hb hts inX7 hown hK hP 0 rfl rfl 7 (by decide) (hts _ tw_312) (fun _ h9 => h9) rfl dX7_steer_37 ?_
      refine va_get (D := D) (ci := 4) (v := .ref (a 55)) (C := RX4) (T := TX4) (N := 6) hx hb hts inX4 hown hK hP 1 rfl rfl 1 (by decide) (hts _ tw_177) (fun _ h9 => h9) rfl dX7_steer_40 ?_
      refine lv_iload_n hx hb dX7_steer_43 rfl (lv_at hl 2 rfl) ?_
      refine lv_iload_n hx hb dX7_steer_44 rfl (lv_at hl 3 rfl) ?_
      refine va_iast hx hb hK hP hD hS 3 1 rfl rfl (vp_in_nI (by omega) (by decide)) dX7_steer_45 (fun H locs hP hD hS => ?_)
      replace hP : va_P D classes [((a 0), .inr (7, [.ref (a 1), .ref (a 3), .ref (a 19), .ref (a 35), .ref (a 40), .int (nI rk), .int lfa, .ref (a 53), .ref (a 56), .ref (a 63), .ref (a 64), .ref (a 68)])), ((a 53), .inr (4, [.ref (a 54), .ref (a 55), .int (nI cc), .int (nI rz), .int ro, .int sd])), ((a 54), .inl (k 1, 4, .inl wk)), ((a 55), .inl (k 1, 4, .inl (upd (nF br) (Int32.toNatClampNeg (nI ic_2)) (nI nb_4))))] H := hP
      replace hD : va_D A [((a 0), .inr (7, [.ref (a 1), .ref (a 3), .ref (a 19), .ref (a 35), .ref (a 40), .int (nI rk), .int lfa, .ref (a 53), .ref (a 56), .ref (a 63), .ref (a 64), .ref (a 68)])), ((a 53), .inr (4, [.ref (a 54), .ref (a 55), .int (nI cc), .int (nI rz), .int ro, .int sd])), ((a 54), .inl (k 1, 4, .inl wk)), ((a 55), .inl (k 1, 4, .inl (upd (nF br) (Int32.toNatClampNeg (nI ic_2)) (nI nb_4))))] := hD
      rw [nI_clamp (n := ic_2) (by omega)] at hP hD
      rw [show upd (nF br) ic_2 (nI nb_4) = nF (fun j => if j = ic_2 then nb_4 else br j) from nF_upd _ _ _] at hP hD
      obtain ⟨d_8, hd_8⟩ : ∃ z : Nat → Nat, z = (fun j => if j = ic_2 then nb_4 else br j) := ⟨_, rfl⟩
      rw [← hd_8] at hP hD
      have hbb_8 : ∀ j, d_8 j ≤ 24 := by rw [hd_8]; exact up_le hbr (by omega)
      refine lv_iload_n hx hb dX7_steer_46 rfl (lv_at hl 0 rfl) ?_
      have hP9 := hP.sub (ws' := [((a 0), .inr (7, [.ref (a 1), .ref (a 3), .ref (a 19), .ref (a 35), .ref (a 40), .int (nI rk), .int lfa, .ref (a 53), .ref (a 56), .ref (a 63), .ref (a 64), .ref (a 68)])), ((a 53), .inr (4, [.ref (a 54), .ref (a 55), .int (nI cc), .int (nI rz), .int ro, .int sd])), ((a 54), .inl (k 1, 4, .inl wk)), ((a 55), .inl (k 1, 4, .inl (nF d_8)))]) [0, 1, 2, 3] rfl
      have hD9 := hD.sub (ws' := [((a 0), .inr (7, [.ref (a 1), .ref (a 3), .ref (a 19), .ref (a 35), .ref (a 40), .int (nI rk), .int lfa, .ref (a 53), .ref (a 56), .ref (a 63), .ref (a 64), .ref (a 68)])), ((a 53), .inr (4, [.ref (a 54), .ref (a 55), .int (nI cc), .int (nI rz), .int ro, .int sd])), ((a 54), .inl (k 1, 4, .inl wk)), ((a 55), .inl (k 1, 4, .inl (nF d_8)))]) [0, 1, 2, 3] (by decide) rfl
      exact W.iret (v := (nI (br ic_2))) hx hb hr (fun t ht hW => ⟨⟨(nI (br ic_2)), d_8, rfl, hbb_8, by rw [ht]; exact hP9, hD9⟩, hS.F ht⟩) hS.2.2 dX7_steer_47
    · refine lv_if_ne (tgt := 26) hx hb dX7_steer_19 (by decide) (fun h => absurd (by decide) h) (fun _ => ?_)
      refine lv_sipush (v := (-1002)) hx hb dX7_steer_22 (by decide) ?_
      have hP9 := hP.sub (ws' := [((a 0), .inr (7, [.ref (a 1), .ref (a 3), .ref (a 19), .ref (a 35), .ref (a 40), .int (nI rk), .int lfa, .ref (a 53), .ref (a 56), .ref (a 63), .ref (a 64), .ref (a 68)])), ((a 53), .inr (4, [.ref (a 54), .ref (a 55), .int (nI cc), .int (nI rz), .int ro, .int sd])), ((a 54), .inl (k 1, 4, .inl wk)), ((a 55), .inl (k 1, 4, .inl (nF br)))]) [0, 1, 2, 3] rfl
      have hD9 := hD.sub (ws' := [((a 0), .inr (7, [.ref (a 1), .ref (a 3), .ref (a 19), .ref (a 35), .ref (a 40), .int (nI rk), .int lfa, .ref (a 53), .ref (a 56), .ref (a 63), .ref (a 64), .ref (a 68)])), ((a 53), .inr (4, [.ref (a 54), .ref (a 55), .int (nI cc), .int (nI rz), .int ro, .int sd])), ((a 54), .inl (k 1, 4, .inl wk)), ((a 55), .inl (k 1, 4, .inl (nF br)))]) [0, 1, 2, 3] (by decide) rfl
      exact W.iret (v := (-1002)) hx hb hr (fun t ht hW => ⟨⟨(-1002), br, rfl, hbr, by rw [ht]; exact hP9, hD9⟩, hS.F ht⟩) hS.2.2 dX7_steer_25
  · refine lv_if_ne (tgt := 12) hx hb dX7_steer_5 (by decide) (fun h => absurd (by decide) h) (fun _ => ?_)
    refine lv_sipush (v := (-1001)) hx hb dX7_steer_8 (by decide) ?_
    have hP9 := hP.sub (ws' := [((a 0), .inr (7, [.ref (a 1), .ref (a 3), .ref (a 19), .ref (a 35), .ref (a 40), .int (nI rk), .int lfa, .ref (a 53), .ref (a 56), .ref (a 63), .ref (a 64), .ref (a 68)])), ((a 53), .inr (4, [.ref (a 54), .ref (a 55), .int (nI cc), .int (nI rz), .int ro, .int sd])), ((a 54), .inl (k 1, 4, .inl wk)), ((a 55), .inl (k 1, 4, .inl (nF br)))]) [0, 1, 2, 3] rfl
    have hD9 := hD.sub (ws' := [((a 0), .inr (7, [.ref (a 1), .ref (a 3), .ref (a 19), .ref (a 35), .ref (a 40), .int (nI rk), .int lfa, .ref (a 53), .ref (a 56), .ref (a 63), .ref (a 64), .ref (a 68)])), ((a 53), .inr (4, [.ref (a 54), .ref (a 55), .int (nI cc), .int (nI rz), .int ro, .int sd])), ((a 54), .inl (k 1, 4, .inl wk)), ((a 55), .inl (k 1, 4, .inl (nF br)))]) [0, 1, 2, 3] (by decide) rfl
    exact W.iret (v := (-1001)) hx hb hr (fun t ht hW => ⟨⟨(-1001), br, rfl, hbr, by rw [ht]; exact hP9, hD9⟩, hS.F ht⟩) hS.2.2 dX7_steer_11


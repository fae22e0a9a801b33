theorem dX8_steer_0 : decode cX8_steer 0 = .ok (.aload_n 0, 1) := by decide +kernel
theorem dX8_steer_1 : decode cX8_steer 1 = .ok (.iload_n 1, 1) := by decide +kernel
theorem dX8_steer_2 : decode cX8_steer 2 = .ok (.invokevirtual 318, 3) := by decide +kernel
theorem dX8_steer_5 : decode cX8_steer 5 = .ok (.ifCond .ne 7, 3) := by decide +kernel
theorem dX8_steer_8 : decode cX8_steer 8 = .ok (.sipush (-1001), 3) := by decide +kernel
theorem dX8_steer_11 : decode cX8_steer 11 = .ok (.ireturn, 1) := by decide +kernel
theorem dX8_steer_12 : decode cX8_steer 12 = .ok (.iload_n 2, 1) := by decide +kernel
theorem dX8_steer_13 : decode cX8_steer 13 = .ok (.i2l, 1) := by decide +kernel
theorem dX8_steer_14 : decode cX8_steer 14 = .ok (.lconst 0, 1) := by decide +kernel
theorem dX8_steer_15 : decode cX8_steer 15 = .ok (.ldc2_w 313, 3) := by decide +kernel
theorem dX8_steer_18 : decode cX8_steer 18 = .ok (.invokestatic 107, 3) := by decide +kernel
theorem dX8_steer_21 : decode cX8_steer 21 = .ok (.ifCond .ne 7, 3) := by decide +kernel
theorem dX8_steer_24 : decode cX8_steer 24 = .ok (.sipush (-1002), 3) := by decide +kernel
theorem dX8_steer_27 : decode cX8_steer 27 = .ok (.ireturn, 1) := by decide +kernel
theorem dX8_steer_28 : decode cX8_steer 28 = .ok (.aload_n 0, 1) := by decide +kernel
theorem dX8_steer_29 : decode cX8_steer 29 = .ok (.getfield 87, 3) := by decide +kernel
theorem dX8_steer_32 : decode cX8_steer 32 = .ok (.iload_n 1, 1) := by decide +kernel
theorem dX8_steer_33 : decode cX8_steer 33 = .ok (.iaload, 1) := by decide +kernel
theorem dX8_steer_34 : decode cX8_steer 34 = .ok (.istore_n 3, 1) := by decide +kernel
theorem dX8_steer_35 : decode cX8_steer 35 = .ok (.aload_n 0, 1) := by decide +kernel
theorem dX8_steer_36 : decode cX8_steer 36 = .ok (.getfield 87, 3) := by decide +kernel
theorem dX8_steer_39 : decode cX8_steer 39 = .ok (.iload_n 1, 1) := by decide +kernel
theorem dX8_steer_40 : decode cX8_steer 40 = .ok (.iload_n 2, 1) := by decide +kernel
theorem dX8_steer_41 : decode cX8_steer 41 = .ok (.iastore, 1) := by decide +kernel
theorem dX8_steer_42 : decode cX8_steer 42 = .ok (.iload_n 3, 1) := by decide +kernel
theorem dX8_steer_43 : decode cX8_steer 43 = .ok (.ireturn, 1) := by decide +kernel
set_option maxHeartbeats 4000000 in
set_option maxRecDepth 100000 in
theorem m_steer (l : Launch) (D : va_G) (k : Nat → ClassId) (st : Nat → Nat) (lo : Nat) (a : Nat → Nat) (tx : Nat) (t0 : Nat) (we : Nat) (rd : Nat) (ru : Nat) (rw : Nat) (ca : Nat) (fp : Int32) (wd : Int64) (nu : Int32) (na : Int32) (ts : Int32) (df : Int32) (db : Int32) (sd : Int32) (br : Nat → Nat) (p0 : Int32) (p1 : Int32) (hca : ca ≤ 4) (hbr : ∀ j, br j ≤ 24) : CWi l D k st lo yX8_steer cX8_steer 4 (some .int) ({ frames := 2, cells := 0, slots := 0, locals := 46 }) 0 0 [.ref (a 0), .int p0, .int p1] [((a 0), .inr (8, [.ref (a 1), .ref (a 2), .ref (a 3), .ref (a 4), .ref (a 5), .int (nI tx), .int fp, .int (nI t0), .long wd, .int (nI we), .int nu, .int na, .int (nI rd), .ref (a 14), .ref (a 15), .ref (a 16), .int ts, .ref (a 18), .ref (a 19), .ref (a 20), .ref (a 21), .ref (a 22), .ref (a 23), .int (nI ru), .ref (a 25), .ref (a 26), .ref (a 27), .ref (a 28), .ref (a 29), .ref (a 30), .int (nI rw), .ref (a 32), .ref (a 33), .ref (a 34), .int (nI ca), .ref (a 36), .ref (a 37), .int df, .int db, .ref (a 40), .ref (a 41), .int sd, .ref (a 43), .ref (a 44)])), ((a 37), .inl (k 1, 4, .inl (nF br)))] (fun (r : Int32) (br_ : (Nat → Nat)) => ∀ j, br_ j ≤ 24) (fun (br_ : (Nat → Nat)) => [((a 0), .inr (8, [.ref (a 1), .ref (a 2), .ref (a 3), .ref (a 4), .ref (a 5), .int (nI tx), .int fp, .int (nI t0), .long wd, .int (nI we), .int nu, .int na, .int (nI rd), .ref (a 14), .ref (a 15), .ref (a 16), .int ts, .ref (a 18), .ref (a 19), .ref (a 20), .ref (a 21), .ref (a 22), .ref (a 23), .int (nI ru), .ref (a 25), .ref (a 26), .ref (a 27), .ref (a 28), .ref (a 29), .ref (a 30), .int (nI rw), .ref (a 32), .ref (a 33), .ref (a 34), .int (nI ca), .ref (a 36), .ref (a 37), .int df, .int db, .ref (a 40), .ref (a 41), .int sd, .ref (a 43), .ref (a 44)])), ((a 37), .inl (k 1, 4, .inl (nF br_)))]) := by
  intro sz
  refine Met.ofW (cc := cX8_steer) (maxL := 4) (ret := (some .int)) (by decide) rfl ?_
  intro p e s m args below meth c s₁ B hml hv
  obtain ⟨rfl, hsz, hlo, hP, hK, hDL, hZ⟩ := hv
  have hx := B.exec
  have hb := B.bytes
  have hr := B.returns
  have hts := WS_ts B.pre
  have hown : s.vm.findClass RX8 = some m.cls := findClass_of_methodNamed B.named
  have hlocks := B.notSynchronized
  subst hsz
  have hD := hDL.self (sz := s.heap.size)
  have hAlo := A_lo hDL hlo
  generalize hAe : va_A [((a 0), .inr (8, [.ref (a 1), .ref (a 2), .ref (a 3), .ref (a 4), .ref (a 5), .int (nI tx), .int fp, .int (nI t0), .long wd, .int (nI we), .int nu, .int na, .int (nI rd), .ref (a 14), .ref (a 15), .ref (a 16), .int ts, .ref (a 18), .ref (a 19), .ref (a 20), .ref (a 21), .ref (a 22), .ref (a 23), .int (nI ru), .ref (a 25), .ref (a 26), .ref (a 27), .ref (a 28), .ref (a 29), .ref (a 30), .int (nI rw), .ref (a 32), .ref (a 33), .ref (a 34), .int (nI ca), .ref (a 36), .ref (a 37), .int df, .int db, .ref (a 40), .ref (a 41), .int sd, .ref (a 43), .ref (a 44)])), ((a 37), .inl (k 1, 4, .inl (nF br)))] s.heap.size = A at hD hAlo ⊢
  have hA : ∀ q : Nat, s.heap.size ≤ q → A q := fun q h => by rw [← hAe]; exact Or.inr h
  have hS : va_S A s.heap s.heap [] := va_S.rf
  have hl := lv_entry ([.ref (a 0), .int p0, .int p1]) (n := 4) (Nat.le_of_ble_eq_true rfl)
  rw [lg_entry_eq]
  generalize (lg_sl ([.ref (a 0), .int p0, .int p1]) ++ List.replicate (4 - (lg_sl ([.ref (a 0), .int p0, .int p1])).length) Slot.unset).toArray = ls at hl ⊢
  have hl : lv_has ls 4 [(0, .ref (a 0)), (1, .int p0), (2, .int p1)] := hl
  refine lv_aload_n hx hb dX8_steer_0 rfl (lv_at hl 0 rfl) ?_
  refine lv_iload_n hx hb dX8_steer_1 rfl (lv_at hl 1 rfl) ?_
  refine ro_i (D := D) (va_runV (As := [.int p0]) (rest := []) ⟨hx, hb, hml, hown, hts⟩ ((m_isCar l D k st lo a tx t0 we rd ru rw ca fp wd nu na ts df db sd p0 (by omega)) s.heap.size) (cwV 1 hts (gV tw_1382 tw_1384 tw_63 tw_87 tw_1385) rfl rfl rfl (by decide +kernel) ⟨Nat.le_of_ble_eq_true rfl, Nat.le_of_ble_eq_true rfl⟩) (pV hS hAlo hlo hP hK (va_Dlo hD hAlo) hZ [0] (by decide) rfl (ci := 8) (q0 := 0) rfl rfl) rfl rfl hl.1 rfl (lv_room (Nat.le_of_ble_eq_true rfl)) dX8_steer_2 ⟨Nat.le_of_ble_eq_true rfl, Nat.le_of_ble_eq_true rfl⟩) hS hA hP (fun r_1 H locs hw_1 hP hS => ?_)
  try dsimp only at hw_1
  rcases hw_1 with ⟨rfl, j_2, hj_2, rfl, hw_1⟩ | rfl
  · refine lv_if_ne (tgt := 12) hx hb dX8_steer_5 (by decide) (fun _ => ?_) (fun h => absurd h (by decide))
    refine lv_iload_n hx hb dX8_steer_12 rfl (lv_at hl 2 rfl) ?_
    refine lv_i2l (v := p1.toInt64) hx hb dX8_steer_13 rfl ?_
    refine lv_lconst (v := (0 : Int32).toInt64) hx hb dX8_steer_14 (by decide) ?_
    refine lv_ldc2 hx hb hown (hts _ tw_1377) dX8_steer_15 ?_
    refine lv_tl (y := ((24 : Int32).toInt64)) (by decide) ?_
    refine ro_i (D := D) (va_runS (As := [.long (p1.toInt64), .long ((0 : Int32).toInt64), .long ((24 : Int32).toInt64)]) (rest := []) ⟨hx, hb, hml, hown, hts⟩ ((k_in l D k st lo p1 (0 : Int32) (24 : Int32)) H.size) (va_cwS 3 hts (gS tw_1111 tw_1112 tw_87 tw_1113) rfl rfl rfl (by decide +kernel) ⟨Nat.le_of_ble_eq_true rfl, Nat.le_of_ble_eq_true rfl⟩) (pS hS hAlo hlo hP hK (va_Dlo hD hAlo) hZ [] (by decide) rfl) rfl rfl hl.1 rfl (lv_room (Nat.le_of_ble_eq_true rfl)) dX8_steer_18 ⟨Nat.le_of_ble_eq_true rfl, Nat.le_of_ble_eq_true rfl⟩) hS hA hP (fun r_3 H locs hw_3 hP hS => ?_)
    try dsimp only at hw_3
    rcases hw_3 with ⟨rfl, hw_3⟩ | ⟨rfl, hw_3⟩
    · refine lv_if_ne (tgt := 28) hx hb dX8_steer_21 (by decide) (fun _ => ?_) (fun h => absurd h (by decide))
      obtain ⟨nb_4, hnl_4, hnh_4, rfl⟩ := inB_ofc (a := 0) (b := 24) (by omega) (by omega) hw_3
      refine lv_aload_n hx hb dX8_steer_28 rfl (lv_at hl 0 rfl) ?_
      refine va_get (D := D) (ci := 8) (v := .ref (a 37)) (C := RX8) (T := TX8) (N := 44) hx hb hts inX8 hown hK hP 0 rfl rfl 36 (by decide) (hts _ tw_1009) (fun _ h9 => h9) rfl dX8_steer_29 ?_
      refine lv_iload_n hx hb dX8_steer_32 rfl (lv_at hl 1 rfl) ?_
      refine va_iald hx hb hK hP 1 1 rfl rfl (vp_in_nI (by omega) (by decide)) dX8_steer_33 ?_
      have hq_5 := hbr j_2
      refine lv_ti (y := (nI (br j_2))) (by rw [nI_clamp (by omega)]; rfl) ?_
      refine lv_istore_n (lv' := [(3, .int (nI (br j_2))), (0, .ref (a 0)), (1, .int (nI j_2)), (2, .int (nI nb_4))]) hx hb dX8_steer_34 rfl hl (by decide) rfl (fun ls hl => ?_)
      refine lv_aload_n hx hb dX8_steer_35 rfl (lv_at hl 1 rfl) ?_
      refine va_get (D := D) (ci := 8) (v := .ref (a 37)) (C := RX8) (T := TX8) (N := 44) hx hb hts inX8 hown hK hP 0 rfl rfl 36 (by decide) (hts _ tw_1009) (fun _ h9 => h9) rfl dX8_steer_36 ?_
      refine lv_iload_n hx hb dX8_steer_39 rfl (lv_at hl 2 rfl) ?_
      refine lv_iload_n hx hb dX8_steer_40 rfl (lv_at hl 3 rfl) ?_
      refine va_iast hx hb hK hP hD hS 1 1 rfl rfl (vp_in_nI (by omega) (by decide)) dX8_steer_41 (fun H locs hP hD hS => ?_)
      replace hP : va_P D classes [((a 0), .inr (8, [.ref (a 1), .ref (a 2), .ref (a 3), .ref (a 4), .ref (a 5), .int (nI tx), .int fp, .int (nI t0), .long wd, .int (nI we), .int nu, .int na, .int (nI rd), .ref (a 14), .ref (a 15), .ref (a 16), .int ts, .ref (a 18), .ref (a 19), .ref (a 20), .ref (a 21), .ref (a 22), .ref (a 23), .int (nI ru), .ref (a 25), .ref (a 26), .ref (a 27), .ref (a 28), .ref (a 29), .ref (a 30), .int (nI rw), .ref (a 32), .ref (a 33), .ref (a 34), .int (nI ca), .ref (a 36), .ref (a 37), .int df, .int db, .ref (a 40), .ref (a 41), .int sd, .ref (a 43), .ref (a 44)])), ((a 37), .inl (k 1, 4, .inl (upd (nF br) (Int32.toNatClampNeg (nI j_2)) (nI nb_4))))] H := hP
      replace hD : va_D A [((a 0), .inr (8, [.ref (a 1), .ref (a 2), .ref (a 3), .ref (a 4), .ref (a 5), .int (nI tx), .int fp, .int (nI t0), .long wd, .int (nI we), .int nu, .int na, .int (nI rd), .ref (a 14), .ref (a 15), .ref (a 16), .int ts, .ref (a 18), .ref (a 19), .ref (a 20), .ref (a 21), .ref (a 22), .ref (a 23), .int (nI ru), .ref (a 25), .ref (a 26), .ref (a 27), .ref (a 28), .ref (a 29), .ref (a 30), .int (nI rw), .ref (a 32), .ref (a 33), .ref (a 34), .int (nI ca), .ref (a 36), .ref (a 37), .int df, .int db, .ref (a 40), .ref (a 41), .int sd, .ref (a 43), .ref (a 44)])), ((a 37), .inl (k 1, 4, .inl (upd (nF br) (Int32.toNatClampNeg (nI j_2)) (nI nb_4))))] := hD
      rw [nI_clamp (n := j_2) (by omega)] at hP hD
      rw [show upd (nF br) j_2 (nI nb_4) = nF (fun j => if j = j_2 then nb_4 else br j) from nF_upd _ _ _] at hP hD
      obtain ⟨d_6, hd_6⟩ : ∃ z : Nat → Nat, z = (fun j => if j = j_2 then nb_4 else br j) := ⟨_, rfl⟩
      rw [← hd_6] at hP hD
      refine lv_iload_n hx hb dX8_steer_42 rfl (lv_at hl 0 rfl) ?_
      have hP9 := hP.sub (ws' := [((a 0), .inr (8, [.ref (a 1), .ref (a 2), .ref (a 3), .ref (a 4), .ref (a 5), .int (nI tx), .int fp, .int (nI t0), .long wd, .int (nI we), .int nu, .int na, .int (nI rd), .ref (a 14), .ref (a 15), .ref (a 16), .int ts, .ref (a 18), .ref (a 19), .ref (a 20), .ref (a 21), .ref (a 22), .ref (a 23), .int (nI ru), .ref (a 25), .ref (a 26), .ref (a 27), .ref (a 28), .ref (a 29), .ref (a 30), .int (nI rw), .ref (a 32), .ref (a 33), .ref (a 34), .int (nI ca), .ref (a 36), .ref (a 37), .int df, .int db, .ref (a 40), .ref (a 41), .int sd, .ref (a 43), .ref (a 44)])), ((a 37), .inl (k 1, 4, .inl (nF d_6)))]) [0, 1] rfl
      have hD9 := hD.sub (ws' := [((a 0), .inr (8, [.ref (a 1), .ref (a 2), .ref (a 3), .ref (a 4), .ref (a 5), .int (nI tx), .int fp, .int (nI t0), .long wd, .int (nI we), .int nu, .int na, .int (nI rd), .ref (a 14), .ref (a 15), .ref (a 16), .int ts, .ref (a 18), .ref (a 19), .ref (a 20), .ref (a 21), .ref (a 22), .ref (a 23), .int (nI ru), .ref (a 25), .ref (a 26), .ref (a 27), .ref (a 28), .ref (a 29), .ref (a 30), .int (nI rw), .ref (a 32), .ref (a 33), .ref (a 34), .int (nI ca), .ref (a 36), .ref (a 37), .int df, .int db, .ref (a 40), .ref (a 41), .int sd, .ref (a 43), .ref (a 44)])), ((a 37), .inl (k 1, 4, .inl (nF d_6)))]) [0, 1] (by decide) rfl
      exact W.iret (v := (nI (br j_2))) hx hb hr (fun t ht hW => ⟨⟨(nI (br j_2)), d_6, rfl, (by rw [hd_6]; exact up_le hbr (by omega)), by rw [ht]; exact hP9, hD9⟩, hS.F ht⟩) hS.2.2 dX8_steer_43
    · refine lv_if_ne (tgt := 28) hx hb dX8_steer_21 (by decide) (fun h => absurd (by decide) h) (fun _ => ?_)
      refine lv_sipush (v := (-1002)) hx hb dX8_steer_24 (by decide) ?_
      have hP9 := hP.sub (ws' := [((a 0), .inr (8, [.ref (a 1), .ref (a 2), .ref (a 3), .ref (a 4), .ref (a 5), .int (nI tx), .int fp, .int (nI t0), .long wd, .int (nI we), .int nu, .int na, .int (nI rd), .ref (a 14), .ref (a 15), .ref (a 16), .int ts, .ref (a 18), .ref (a 19), .ref (a 20), .ref (a 21), .ref (a 22), .ref (a 23), .int (nI ru), .ref (a 25), .ref (a 26), .ref (a 27), .ref (a 28), .ref (a 29), .ref (a 30), .int (nI rw), .ref (a 32), .ref (a 33), .ref (a 34), .int (nI ca), .ref (a 36), .ref (a 37), .int df, .int db, .ref (a 40), .ref (a 41), .int sd, .ref (a 43), .ref (a 44)])), ((a 37), .inl (k 1, 4, .inl (nF br)))]) [0, 1] rfl
      have hD9 := hD.sub (ws' := [((a 0), .inr (8, [.ref (a 1), .ref (a 2), .ref (a 3), .ref (a 4), .ref (a 5), .int (nI tx), .int fp, .int (nI t0), .long wd, .int (nI we), .int nu, .int na, .int (nI rd), .ref (a 14), .ref (a 15), .ref (a 16), .int ts, .ref (a 18), .ref (a 19), .ref (a 20), .ref (a 21), .ref (a 22), .ref (a 23), .int (nI ru), .ref (a 25), .ref (a 26), .ref (a 27), .ref (a 28), .ref (a 29), .ref (a 30), .int (nI rw), .ref (a 32), .ref (a 33), .ref (a 34), .int (nI ca), .ref (a 36), .ref (a 37), .int df, .int db, .ref (a 40), .ref (a 41), .int sd, .ref (a 43), .ref (a 44)])), ((a 37), .inl (k 1, 4, .inl (nF br)))]) [0, 1] (by decide) rfl
      exact W.iret (v := (-1002)) hx hb hr (fun t ht hW => ⟨⟨(-1002), br, rfl, hbr, by rw [ht]; exact hP9, hD9⟩, hS.F ht⟩) hS.2.2 dX8_steer_27
  · refine lv_if_ne (tgt := 12) hx hb dX8_steer_5 (by decide) (fun h => absurd (by decide) h) (fun _ => ?_)
    refine lv_sipush (v := (-1001)) hx hb dX8_steer_8 (by decide) ?_
    have hP9 := hP.sub (ws' := [((a 0), .inr (8, [.ref (a 1), .ref (a 2), .ref (a 3), .ref (a 4), .ref (a 5), .int (nI tx), .int fp, .int (nI t0), .long wd, .int (nI we), .int nu, .int na, .int (nI rd), .ref (a 14), .ref (a 15), .ref (a 16), .int ts, .ref (a 18), .ref (a 19), .ref (a 20), .ref (a 21), .ref (a 22), .ref (a 23), .int (nI ru), .ref (a 25), .ref (a 26), .ref (a 27), .ref (a 28), .ref (a 29), .ref (a 30), .int (nI rw), .ref (a 32), .ref (a 33), .ref (a 34), .int (nI ca), .ref (a 36), .ref (a 37), .int df, .int db, .ref (a 40), .ref (a 41), .int sd, .ref (a 43), .ref (a 44)])), ((a 37), .inl (k 1, 4, .inl (nF br)))]) [0, 1] rfl
    have hD9 := hD.sub (ws' := [((a 0), .inr (8, [.ref (a 1), .ref (a 2), .ref (a 3), .ref (a 4), .ref (a 5), .int (nI tx), .int fp, .int (nI t0), .long wd, .int (nI we), .int nu, .int na, .int (nI rd), .ref (a 14), .ref (a 15), .ref (a 16), .int ts, .ref (a 18), .ref (a 19), .ref (a 20), .ref (a 21), .ref (a 22), .ref (a 23), .int (nI ru), .ref (a 25), .ref (a 26), .ref (a 27), .ref (a 28), .ref (a 29), .ref (a 30), .int (nI rw), .ref (a 32), .ref (a 33), .ref (a 34), .int (nI ca), .ref (a 36), .ref (a 37), .int df, .int db, .ref (a 40), .ref (a 41), .int sd, .ref (a 43), .ref (a 44)])), ((a 37), .inl (k 1, 4, .inl (nF br)))]) [0, 1] (by decide) rfl
    exact W.iret (v := (-1001)) hx hb hr (fun t ht hW => ⟨⟨(-1001), br, rfl, hbr, by rw [ht]; exact hP9, hD9⟩, hS.F ht⟩) hS.2.2 dX8_steer_11


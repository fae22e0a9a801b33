theorem m_glue9 : True := trivial
/-- no door, or one of 24 -/
def dvOK (f : Nat → Int32) : Prop := ∀ j, f j < 0 ∨ ∃ d : Nat, d < 24 ∧ f j = nI d
theorem dvOK_upd {f : Nat → Int32} (h : dvOK f) (i : Nat) (x : Int32) (hx : x < 0 ∨ ∃ d : Nat, d < 24 ∧ x = nI d) : dvOK (upd f i x) := by
  intro j
  unfold upd
  by_cases hj : j = i
  · rw [if_pos hj]
    exact hx
  · rw [if_neg hj]
    exact h j

theorem f_m_car_rows : True := trivial
theorem dX8_car_0 : decode cX8_car 0 = .ok (.iload_n 1, 1) := by decide +kernel
theorem dX8_car_1 : decode cX8_car 1 = .ok (.i2l, 1) := by decide +kernel
theorem dX8_car_2 : decode cX8_car 2 = .ok (.lconst 0, 1) := by decide +kernel
theorem dX8_car_3 : decode cX8_car 3 = .ok (.ldc2_w 311, 3) := by decide +kernel
theorem dX8_car_6 : decode cX8_car 6 = .ok (.invokestatic 107, 3) := by decide +kernel
theorem dX8_car_9 : decode cX8_car 9 = .ok (.ifCond .eq 15, 3) := by decide +kernel
theorem dX8_car_12 : decode cX8_car 12 = .ok (.iload_n 2, 1) := by decide +kernel
theorem dX8_car_13 : decode cX8_car 13 = .ok (.i2l, 1) := by decide +kernel
theorem dX8_car_14 : decode cX8_car 14 = .ok (.lconst 0, 1) := by decide +kernel
theorem dX8_car_15 : decode cX8_car 15 = .ok (.ldc2_w 313, 3) := by decide +kernel
theorem dX8_car_18 : decode cX8_car 18 = .ok (.invokestatic 107, 3) := by decide +kernel
theorem dX8_car_21 : decode cX8_car 21 = .ok (.ifCond .ne 7, 3) := by decide +kernel
theorem dX8_car_24 : decode cX8_car 24 = .ok (.sipush (-1002), 3) := by decide +kernel
theorem dX8_car_27 : decode cX8_car 27 = .ok (.ireturn, 1) := by decide +kernel
theorem dX8_car_28 : decode cX8_car 28 = .ok (.aload_n 0, 1) := by decide +kernel
theorem dX8_car_29 : decode cX8_car 29 = .ok (.getfield 315, 3) := by decide +kernel
theorem dX8_car_32 : decode cX8_car 32 = .ok (.iconst 4, 1) := by decide +kernel
theorem dX8_car_33 : decode cX8_car 33 = .ok (.if_icmp .ne 7, 3) := by decide +kernel
theorem dX8_car_36 : decode cX8_car 36 = .ok (.sipush (-1004), 3) := by decide +kernel
theorem dX8_car_39 : decode cX8_car 39 = .ok (.ireturn, 1) := by decide +kernel
theorem dX8_car_40 : decode cX8_car 40 = .ok (.aload_n 0, 1) := by decide +kernel
theorem dX8_car_41 : decode cX8_car 41 = .ok (.getfield 84, 3) := by decide +kernel
theorem dX8_car_44 : decode cX8_car 44 = .ok (.aload_n 0, 1) := by decide +kernel
theorem dX8_car_45 : decode cX8_car 45 = .ok (.getfield 315, 3) := by decide +kernel
theorem dX8_car_48 : decode cX8_car 48 = .ok (.iload_n 1, 1) := by decide +kernel
theorem dX8_car_49 : decode cX8_car 49 = .ok (.iastore, 1) := by decide +kernel
theorem dX8_car_50 : decode cX8_car 50 = .ok (.aload_n 0, 1) := by decide +kernel
theorem dX8_car_51 : decode cX8_car 51 = .ok (.getfield 87, 3) := by decide +kernel
theorem dX8_car_54 : decode cX8_car 54 = .ok (.aload_n 0, 1) := by decide +kernel
theorem dX8_car_55 : decode cX8_car 55 = .ok (.getfield 315, 3) := by decide +kernel
theorem dX8_car_58 : decode cX8_car 58 = .ok (.iload_n 2, 1) := by decide +kernel
theorem dX8_car_59 : decode cX8_car 59 = .ok (.iastore, 1) := by decide +kernel
theorem dX8_car_60 : decode cX8_car 60 = .ok (.aload_n 0, 1) := by decide +kernel
theorem dX8_car_61 : decode cX8_car 61 = .ok (.dup, 1) := by decide +kernel
theorem dX8_car_62 : decode cX8_car 62 = .ok (.getfield 315, 3) := by decide +kernel
theorem dX8_car_65 : decode cX8_car 65 = .ok (.iconst 1, 1) := by decide +kernel
theorem dX8_car_66 : decode cX8_car 66 = .ok (.iadd, 1) := by decide +kernel
theorem dX8_car_67 : decode cX8_car 67 = .ok (.putfield 315, 3) := by decide +kernel
theorem dX8_car_70 : decode cX8_car 70 = .ok (.aload_n 0, 1) := by decide +kernel
theorem dX8_car_71 : decode cX8_car 71 = .ok (.getfield 315, 3) := by decide +kernel
theorem dX8_car_74 : decode cX8_car 74 = .ok (.iconst 1, 1) := by decide +kernel
theorem dX8_car_75 : decode cX8_car 75 = .ok (.isub, 1) := by decide +kernel
theorem dX8_car_76 : decode cX8_car 76 = .ok (.ireturn, 1) := by decide +kernel
theorem dX8_steer_0 : decode cX8_steer 0 = .ok (.aload_n 0, 1) := by decide +kernel
theorem dX8_steer_1 : decode cX8_steer 1 = .ok (.iload_n 1, 1) := by decide +kernel
theorem dX8_steer_2 : decode cX8_steer 2 = .ok (.invokevirtual 318, 3) := by decide +kernel
theorem dX8_steer_5 : decode cX8_steer 5 = .ok (.ifCond .ne 7, 3) := by decide +kernel
theorem dX8_steer_8 : decode cX8_steer 8 = .ok (.sipush (-1001), 3) := by decide +kernel
theorem dX8_steer_11 : decode cX8_steer 11 = .ok (.ireturn, 1) := by decide +kernel
theorem dX8_steer_12 : decode cX8_steer 12 = .ok (.iload_n 2, 1) := by decide +kernel
theorem dX8_steer_13 : decode cX8_steer 13 = .ok (.i2l, 1) := by decide +kernel
theorem dX8_steer_14 : decode cX8_steer 14 = .ok (.lconst 0, 1) := by decide +kernel
theorem dX8_steer_15 : decode cX8_steer 15 = .ok (.ldc2_w 313, 3) := by decide +kernel
theorem dX8_steer_18 : decode cX8_steer 18 = .ok (.invokestatic 107, 3) := by decide +kernel
theorem dX8_steer_21 : decode cX8_steer 21 = .ok (.ifCond .ne 7, 3) := by decide +kernel
theorem dX8_steer_24 : decode cX8_steer 24 = .ok (.sipush (-1002), 3) := by decide +kernel
theorem dX8_steer_27 : decode cX8_steer 27 = .ok (.ireturn, 1) := by decide +kernel
theorem dX8_steer_28 : decode cX8_steer 28 = .ok (.aload_n 0, 1) := by decide +kernel
theorem dX8_steer_29 : decode cX8_steer 29 = .ok (.getfield 87, 3) := by decide +kernel
theorem dX8_steer_32 : decode cX8_steer 32 = .ok (.iload_n 1, 1) := by decide +kernel
theorem dX8_steer_33 : decode cX8_steer 33 = .ok (.iaload, 1) := by decide +kernel
theorem dX8_steer_34 : decode cX8_steer 34 = .ok (.istore_n 3, 1) := by decide +kernel
theorem dX8_steer_35 : decode cX8_steer 35 = .ok (.aload_n 0, 1) := by decide +kernel
theorem dX8_steer_36 : decode cX8_steer 36 = .ok (.getfield 87, 3) := by decide +kernel
theorem dX8_steer_39 : decode cX8_steer 39 = .ok (.iload_n 1, 1) := by decide +kernel
theorem dX8_steer_40 : decode cX8_steer 40 = .ok (.iload_n 2, 1) := by decide +kernel
theorem dX8_steer_41 : decode cX8_steer 41 = .ok (.iastore, 1) := by decide +kernel
theorem dX8_steer_42 : decode cX8_steer 42 = .ok (.iload_n 3, 1) := by decide +kernel
theorem dX8_steer_43 : decode cX8_steer 43 = .ok (.ireturn, 1) := by decide +kernel
set_option maxHeartbeats 4000000 in
set_option maxRecDepth 100000 in
theorem m_steer (l : Launch) (D : va_G) (k : Nat → ClassId) (st : Nat → Nat) (lo : Nat) (a : Nat → Nat) (tx : Nat) (t0 : Nat) (we : Nat) (rd : Nat) (ru : Nat) (rw : Nat) (ca : Nat) (fp : Int32) (wd : Int64) (nu : Int32) (na : Int32) (ts : Int32) (df : Int32) (db : Int32) (sd : Int32) (br : Nat → Nat) (p0 : Int32) (p1 : Int32) (hca : ca ≤ 4) (hbr : ∀ j, br j ≤ 24) : CWi l D k st lo yX8_steer cX8_steer 4 (some .int) ({ frames := 2, cells := 0, slots := 0, locals := 46 }) 0 0 [.ref (a 0), .int p0, .int p1] [((a 0), .inr (8, (fX8 a (nI tx) fp (nI t0) wd (nI we) nu na (nI rd) ts (nI ru) (nI rw) (nI ca) df db sd))), (aI k (a 37) 4 (nF br))] (fun (r : Int32) (br_ : (Nat → Nat)) => ∀ j, br_ j ≤ 24) (fun (br_ : (Nat → Nat)) => [((a 0), .inr (8, (fX8 a (nI tx) fp (nI t0) wd (nI we) nu na (nI rd) ts (nI ru) (nI rw) (nI ca) df db sd))), (aI k (a 37) 4 (nF br_))]) := by
  intro sz
  refine Met.ofW (cc := cX8_steer) (maxL := 4) (ret := (some .int)) (by decide) rfl ?_
  intro p e s m args below meth c s₁ B hml hv
  obtain ⟨rfl, hsz, hlo, hP, hK, hDL, hZ⟩ := hv
  have hx := B.exec
  have hb := B.bytes
  have hr := B.returns
  have hts := WS_ts B.pre
  have hown : s.vm.findClass RX8 = some m.cls := findClass_of_methodNamed B.named
  have hlocks := B.notSynchronized
  subst hsz
  have hD := hDL.self (sz := s.heap.size)
  have hAlo := A_lo hDL hlo
  generalize hAe : va_A [((a 0), .inr (8, (fX8 a (nI tx) fp (nI t0) wd (nI we) nu na (nI rd) ts (nI ru) (nI rw) (nI ca) df db sd))), (aI k (a 37) 4 (nF br))] s.heap.size = A at hD hAlo ⊢
  have hA : ∀ q : Nat, s.heap.size ≤ q → A q := fun q h => by rw [← hAe]; exact Or.inr h
  have hS : va_S A s.heap s.heap [] := va_S.rf
  have hl := lv_entry ([.ref (a 0), .int p0, .int p1]) (n := 4) (Nat.le_of_ble_eq_true rfl)
  rw [lg_entry_eq]
  generalize (lg_sl ([.ref (a 0), .int p0, .int p1]) ++ List.replicate (4 - (lg_sl ([.ref (a 0), .int p0, .int p1])).length) Slot.unset).toArray = ls at hl ⊢
  have hl : lv_has ls 4 [(0, .ref (a 0)), (1, .int p0), (2, .int p1)] := hl
  refine lv_aload_n hx hb dX8_steer_0 rfl (lv_at hl 0 rfl) ?_
  refine lv_iload_n hx hb dX8_steer_1 rfl (lv_at hl 1 rfl) ?_
  refine ro_i (D := D) (va_runV (As := [.int p0]) (rest := []) ⟨hx, hb, hml, hown, hts⟩ ((m_isCar l D k st lo a tx t0 we rd ru rw ca fp wd nu na ts df db sd p0 (by first | assumption | omega)) s.heap.size) (cwV 1 hts (gV tw_1382 tw_1384 tw_63 tw_87 tw_1385) rfl rfl rfl (by decide +kernel) ⟨Nat.le_of_ble_eq_true rfl, Nat.le_of_ble_eq_true rfl⟩) (pV hS hAlo hlo hP hK (va_Dlo hD hAlo) hZ [0] (by decide) rfl (ci := 8) (q := (RX8, TX8, 44)) (q0 := 0) rfl rfl) rfl rfl hl.1 rfl (lv_room (Nat.le_of_ble_eq_true rfl)) dX8_steer_2 ⟨Nat.le_of_ble_eq_true rfl, Nat.le_of_ble_eq_true rfl⟩) hS hA hP (fun r_1 H locs hw_1 hP hS => ?_)
  try dsimp only at hw_1
  rcases hw_1 with ⟨rfl, j_2, hj_2, rfl, hw_1⟩ | rfl
  · refine lv_if_ne (tgt := 12) hx hb dX8_steer_5 (by decide) (fun _ => ?_) (fun h => absurd h (by decide))
    refine lv_iload_n hx hb dX8_steer_12 rfl (lv_at hl 2 rfl) ?_
    refine lv_i2l (v := p1.toInt64) hx hb dX8_steer_13 rfl ?_
    refine lv_lconst (v := (0 : Int32).toInt64) hx hb dX8_steer_14 (by decide) ?_
    refine lv_ldc2 hx hb hown (hts _ tw_1377) dX8_steer_15 ?_
    refine lv_tl (y := ((24 : Int32).toInt64)) (by decide) ?_
    refine ro_i (D := D) (va_runS (As := [.long (p1.toInt64), .long ((0 : Int32).toInt64), .long ((24 : Int32).toInt64)]) (rest := []) ⟨hx, hb, hml, hown, hts⟩ ((k_in l D k st lo p1 (0 : Int32) (24 : Int32)) H.size) (va_cwS 3 hts (gS tw_1111 tw_1112 tw_87 tw_1113) rfl rfl rfl (by decide +kernel) ⟨Nat.le_of_ble_eq_true rfl, Nat.le_of_ble_eq_true rfl⟩) (pS hS hAlo hlo hP hK (va_Dlo hD hAlo) hZ [] (by decide) rfl) rfl rfl hl.1 rfl (lv_room (Nat.le_of_ble_eq_true rfl)) dX8_steer_18 ⟨Nat.le_of_ble_eq_true rfl, Nat.le_of_ble_eq_true rfl⟩) hS hA hP (fun r_3 H locs hw_3 hP hS => ?_)
    try dsimp only at hw_3
    rcases hw_3 with ⟨rfl, hw_3⟩ | ⟨rfl, hw_3⟩
    · refine lv_if_ne (tgt := 28) hx hb dX8_steer_21 (by decide) (fun _ => ?_) (fun h => absurd h (by decide))
      obtain ⟨nb_4, hnl_4, hnh_4, rfl⟩ := inB_ofc (a := 0) (b := 24) (by omega) (by omega) hw_3
      refine lv_aload_n hx hb dX8_steer_28 rfl (lv_at hl 0 rfl) ?_
      refine va_get (D := D) (ci := 8) (v := .ref (a 37)) (C := RX8) (T := TX8) (N := 44) hx hb hts inX8 hown hK hP 0 rfl rfl 36 (by decide) (hts _ tw_1009) (fun _ h9 => h9) rfl dX8_steer_29 ?_
      refine lv_iload_n hx hb dX8_steer_32 rfl (lv_at hl 1 rfl) ?_
      refine va_iald hx hb hK hP 1 1 rfl rfl (vp_in_nI (by omega) (by decide)) dX8_steer_33 ?_
      have hq_5 := hbr j_2
      refine lv_ti (y := (nI (br j_2))) (by rw [nI_clamp (by omega)]; rfl) ?_
      refine lv_istore_n (lv' := [(3, .int (nI (br j_2))), (0, .ref (a 0)), (1, .int (nI j_2)), (2, .int (nI nb_4))]) hx hb dX8_steer_34 rfl hl (by decide) rfl (fun ls hl => ?_)
      refine lv_aload_n hx hb dX8_steer_35 rfl (lv_at hl 1 rfl) ?_
      refine va_get (D := D) (ci := 8) (v := .ref (a 37)) (C := RX8) (T := TX8) (N := 44) hx hb hts inX8 hown hK hP 0 rfl rfl 36 (by decide) (hts _ tw_1009) (fun _ h9 => h9) rfl dX8_steer_36 ?_
      refine lv_iload_n hx hb dX8_steer_39 rfl (lv_at hl 2 rfl) ?_
      refine lv_iload_n hx hb dX8_steer_40 rfl (lv_at hl 3 rfl) ?_
      refine va_iast hx hb hK hP hD hS 1 1 rfl rfl (vp_in_nI (by omega) (by decide)) dX8_steer_41 (fun H locs hP hD hS => ?_)
      replace hP : va_P D classes [((a 0), .inr (8, (fX8 a (nI tx) fp (nI t0) wd (nI we) nu na (nI rd) ts (nI ru) (nI rw) (nI ca) df db sd))), (aI k (a 37) 4 (upd (nF br) (Int32.toNatClampNeg (nI j_2)) (nI nb_4)))] H := hP
      replace hD : va_D A [((a 0), .inr (8, (fX8 a (nI tx) fp (nI t0) wd (nI we) nu na (nI rd) ts (nI ru) (nI rw) (nI ca) df db sd))), (aI k (a 37) 4 (upd (nF br) (Int32.toNatClampNeg (nI j_2)) (nI nb_4)))] := hD
      rw [nI_clamp (n := j_2) (by omega)] at hP hD
      rw [show upd (nF br) j_2 (nI nb_4) = nF (fun j => if j = j_2 then nb_4 else br j) from nF_upd _ _ _] at hP hD
      obtain ⟨d_6, hd_6⟩ : ∃ z : Nat → Nat, z = (fun j => if j = j_2 then nb_4 else br j) := ⟨_, rfl⟩
      rw [← hd_6] at hP hD
      refine lv_iload_n hx hb dX8_steer_42 rfl (lv_at hl 0 rfl) ?_
      have hP9 := hP.sub (ws' := [((a 0), .inr (8, (fX8 a (nI tx) fp (nI t0) wd (nI we) nu na (nI rd) ts (nI ru) (nI rw) (nI ca) df db sd))), (aI k (a 37) 4 (nF d_6))]) [0, 1] rfl
      have hD9 := hD.sub (ws' := [((a 0), .inr (8, (fX8 a (nI tx) fp (nI t0) wd (nI we) nu na (nI rd) ts (nI ru) (nI rw) (nI ca) df db sd))), (aI k (a 37) 4 (nF d_6))]) [0, 1] (by decide) rfl
      exact W.iret (v := (nI (br j_2))) hx hb hr (fun t ht hW => ⟨⟨(nI (br j_2)), d_6, rfl, (by rw [hd_6]; exact up_le hbr (by omega)), by rw [ht]; exact hP9, hD9⟩, hS.F ht⟩) hS.2.2 dX8_steer_43
    · refine lv_if_ne (tgt := 28) hx hb dX8_steer_21 (by decide) (fun h => absurd (by decide) h) (fun _ => ?_)
      refine lv_sipush (v := (-1002)) hx hb dX8_steer_24 (by decide) ?_
      have hP9 := hP.sub (ws' := [((a 0), .inr (8, (fX8 a (nI tx) fp (nI t0) wd (nI we) nu na (nI rd) ts (nI ru) (nI rw) (nI ca) df db sd))), (aI k (a 37) 4 (nF br))]) [0, 1] rfl
      have hD9 := hD.sub (ws' := [((a 0), .inr (8, (fX8 a (nI tx) fp (nI t0) wd (nI we) nu na (nI rd) ts (nI ru) (nI rw) (nI ca) df db sd))), (aI k (a 37) 4 (nF br))]) [0, 1] (by decide) rfl
      exact W.iret (v := (-1002)) hx hb hr (fun t ht hW => ⟨⟨(-1002), br, rfl, hbr, by rw [ht]; exact hP9, hD9⟩, hS.F ht⟩) hS.2.2 dX8_steer_27
  · refine lv_if_ne (tgt := 12) hx hb dX8_steer_5 (by decide) (fun h => absurd (by decide) h) (fun _ => ?_)
    refine lv_sipush (v := (-1001)) hx hb dX8_steer_8 (by decide) ?_
    have hP9 := hP.sub (ws' := [((a 0), .inr (8, (fX8 a (nI tx) fp (nI t0) wd (nI we) nu na (nI rd) ts (nI ru) (nI rw) (nI ca) df db sd))), (aI k (a 37) 4 (nF br))]) [0, 1] rfl
    have hD9 := hD.sub (ws' := [((a 0), .inr (8, (fX8 a (nI tx) fp (nI t0) wd (nI we) nu na (nI rd) ts (nI ru) (nI rw) (nI ca) df db sd))), (aI k (a 37) 4 (nF br))]) [0, 1] (by decide) rfl
    exact W.iret (v := (-1001)) hx hb hr (fun t ht hW => ⟨⟨(-1001), br, rfl, hbr, by rw [ht]; exact hP9, hD9⟩, hS.F ht⟩) hS.2.2 dX8_steer_11

theorem dX8_isSet_0 : decode cX8_isSet 0 = .ok (.iload_n 2, 1) := by decide +kernel
theorem dX8_isSet_1 : decode cX8_isSet 1 = .ok (.i2l, 1) := by decide +kernel
theorem dX8_isSet_2 : decode cX8_isSet 2 = .ok (.lconst 0, 1) := by decide +kernel
theorem dX8_isSet_3 : decode cX8_isSet 3 = .ok (.iconst 1, 1) := by decide +kernel
theorem dX8_isSet_4 : decode cX8_isSet 4 = .ok (.aload_n 0, 1) := by decide +kernel
theorem dX8_isSet_5 : decode cX8_isSet 5 = .ok (.getfield 7, 3) := by decide +kernel
theorem dX8_isSet_8 : decode cX8_isSet 8 = .ok (.iload_n 1, 1) := by decide +kernel
theorem dX8_isSet_9 : decode cX8_isSet 9 = .ok (.iaload, 1) := by decide +kernel
theorem dX8_isSet_10 : decode cX8_isSet 10 = .ok (.ishl, 1) := by decide +kernel
theorem dX8_isSet_11 : decode cX8_isSet 11 = .ok (.iconst 1, 1) := by decide +kernel
theorem dX8_isSet_12 : decode cX8_isSet 12 = .ok (.isub, 1) := by decide +kernel
theorem dX8_isSet_13 : decode cX8_isSet 13 = .ok (.i2l, 1) := by decide +kernel
theorem dX8_isSet_14 : decode cX8_isSet 14 = .ok (.invokestatic 107, 3) := by decide +kernel
theorem dX8_isSet_17 : decode cX8_isSet 17 = .ok (.ireturn, 1) := by decide +kernel
set_option maxHeartbeats 4000000 in
set_option maxRecDepth 100000 in
theorem m_isSet (l : Launch) (D : va_G) (k : Nat → ClassId) (st : Nat → Nat) (lo : Nat) (a : Nat → Nat) (tx : Nat) (t0 : Nat) (we : Nat) (rd : Nat) (ru : Nat) (rw : Nat) (ca : Nat) (fp : Int32) (wd : Int64) (nu : Int32) (na : Int32) (ts : Int32) (df : Int32) (db : Int32) (sd : Int32) (dn : Nat → Nat) (sn : Nat) (p1 : Int32) (hdn : ∀ j, dn j ≤ 24) (hs : sn < 3) : CRi l D k st lo yX8_isSet cX8_isSet 3 (some .boolean) ({ frames := 1, cells := 0, slots := 0, locals := 25 }) [.ref (a 0), .int (nI sn), .int p1] [((a 0), .inr (8, (fX8 a (nI tx) fp (nI t0) wd (nI we) nu na (nI rd) ts (nI ru) (nI rw) (nI ca) df db sd))), (aI k (a 1) 3 (nF dn))] (fun r => True) := by
  intro sz
  refine Met.ofW (cc := cX8_isSet) (maxL := 3) (ret := (some .boolean)) (by decide) rfl ?_
  intro p e s m args below meth c s₁ B hml hv
  obtain ⟨rfl, hsz, hlo, hP, hK, hDL, hZ⟩ := hv
  have hx := B.exec
  have hb := B.bytes
  have hr := B.returns
  have hts := WS_ts B.pre
  have hown : s.vm.findClass RX8 = some m.cls := findClass_of_methodNamed B.named
  have hlocks := B.notSynchronized
  subst hsz
  have hA : ∀ q : Nat, s.heap.size ≤ q → (fun q : Nat => s.heap.size ≤ q) q := fun _ h => h
  have hAlo : ∀ q : Nat, (fun q : Nat => s.heap.size ≤ q) q → lo ≤ q := fun q h => Nat.le_trans hlo h
  have hS : va_S (fun q : Nat => s.heap.size ≤ q) s.heap s.heap [] := va_S.rf
  have hl := lv_entry ([.ref (a 0), .int (nI sn), .int p1]) (n := 3) (Nat.le_of_ble_eq_true rfl)
  rw [lg_entry_eq]
  generalize (lg_sl ([.ref (a 0), .int (nI sn), .int p1]) ++ List.replicate (3 - (lg_sl ([.ref (a 0), .int (nI sn), .int p1])).length) Slot.unset).toArray = ls at hl ⊢
  have hl : lv_has ls 3 [(0, .ref (a 0)), (1, .int (nI sn)), (2, .int p1)] := hl
  have hd_9 := hdn sn
  refine lv_iload_n hx hb dX8_isSet_0 rfl (lv_at hl 2 rfl) ?_
  refine lv_i2l (v := p1.toInt64) hx hb dX8_isSet_1 rfl ?_
  refine lv_lconst (v := (0 : Int32).toInt64) hx hb dX8_isSet_2 (by decide) ?_
  refine lv_iconst (v := 1) hx hb dX8_isSet_3 (by decide) ?_
  refine lv_aload_n hx hb dX8_isSet_4 rfl (lv_at hl 0 rfl) ?_
  refine va_get (D := D) (ci := 8) (v := .ref (a 1)) (C := RX8) (T := TX8) (N := 44) hx hb hts inX8 hown hK hP 0 rfl rfl 0 (by decide) (hts _ tw_973) (fun _ h9 => h9) rfl dX8_isSet_5 ?_
  refine lv_iload_n hx hb dX8_isSet_8 rfl (lv_at hl 1 rfl) ?_
  refine va_iald hx hb hK hP 1 1 rfl rfl (vp_in_nI (by omega) (by decide)) dX8_isSet_9 ?_
  refine lv_ti (y := (nI (dn sn))) (by rw [nI_clamp (by omega)]; rfl) ?_
  obtain ⟨pw_1, epw_1⟩ : ∃ z : Nat, z = 2 ^ (dn sn) := ⟨_, rfl⟩
  have hpw_1 : 1 ≤ pw_1 ∧ pw_1 ≤ 16777216 := by rw [epw_1]; exact pw24 (by omega)
  refine lv_ishl hx hb dX8_isSet_10 ?_
  refine lv_ti (y := (nI pw_1)) (by rw [epw_1]; exact shl1 (dn sn) (by omega)) ?_
  refine lv_iconst (v := 1) hx hb dX8_isSet_11 (by decide) ?_
  refine lv_isub hx hb dX8_isSet_12 ?_
  refine lv_topi (fun x_2 ex_2 => ?_)
  refine lv_i2l (v := x_2.toInt64) hx hb dX8_isSet_13 rfl ?_
  refine ro_i (D := D) (va_runS (As := [.long (p1.toInt64), .long ((0 : Int32).toInt64), .long (x_2.toInt64)]) (rest := []) ⟨hx, hb, hml, hown, hts⟩ ((k_in l D k st lo p1 (0 : Int32) x_2) s.heap.size) (va_cwS 3 hts (gS tw_1111 tw_1112 tw_87 tw_1113) rfl rfl rfl (by decide +kernel) ⟨Nat.le_of_ble_eq_true rfl, Nat.le_of_ble_eq_true rfl⟩) (pS hS hAlo hlo hP hK hDL hZ [] (by decide) rfl) rfl rfl hl.1 rfl (lv_room (Nat.le_of_ble_eq_true rfl)) dX8_isSet_14 ⟨Nat.le_of_ble_eq_true rfl, Nat.le_of_ble_eq_true rfl⟩) hS hA hP (fun r_3 H locs hw_3 hP hS => ?_)
  try dsimp only at hw_3
  rcases hw_3 with ⟨rfl, hw_3⟩ | ⟨rfl, hw_3⟩
  · exact W.zret (v := 1) (ty := .boolean) hx hb hr rfl (fun t ht hW => ⟨⟨1, (), rfl, trivial, trivial⟩, hS.F ht⟩) hS.2.2 dX8_isSet_17
  · exact W.zret (v := 0) (ty := .boolean) hx hb hr rfl (fun t ht hW => ⟨⟨0, (), rfl, trivial, trivial⟩, hS.F ht⟩) hS.2.2 dX8_isSet_17

theorem dX8_costAt_0 : decode cX8_costAt 0 = .ok (.iload_n 3, 1) := by decide +kernel
theorem dX8_costAt_1 : decode cX8_costAt 1 = .ok (.ifCond .ge 28, 3) := by decide +kernel
theorem dX8_costAt_4 : decode cX8_costAt 4 = .ok (.aload_n 0, 1) := by decide +kernel
theorem dX8_costAt_5 : decode cX8_costAt 5 = .ok (.iload_n 1, 1) := by decide +kernel
theorem dX8_costAt_6 : decode cX8_costAt 6 = .ok (.iconst 0, 1) := by decide +kernel
theorem dX8_costAt_7 : decode cX8_costAt 7 = .ok (.invokevirtual 248, 3) := by decide +kernel
theorem dX8_costAt_10 : decode cX8_costAt 10 = .ok (.aload_n 0, 1) := by decide +kernel
theorem dX8_costAt_11 : decode cX8_costAt 11 = .ok (.iload_n 1, 1) := by decide +kernel
theorem dX8_costAt_12 : decode cX8_costAt 12 = .ok (.iconst 2, 1) := by decide +kernel
theorem dX8_costAt_13 : decode cX8_costAt 13 = .ok (.invokevirtual 212, 3) := by decide +kernel
theorem dX8_costAt_16 : decode cX8_costAt 16 = .ok (.sipush 1000, 3) := by decide +kernel
theorem dX8_costAt_19 : decode cX8_costAt 19 = .ok (.imul, 1) := by decide +kernel
theorem dX8_costAt_20 : decode cX8_costAt 20 = .ok (.aload_n 0, 1) := by decide +kernel
theorem dX8_costAt_21 : decode cX8_costAt 21 = .ok (.getfield 7, 3) := by decide +kernel
theorem dX8_costAt_24 : decode cX8_costAt 24 = .ok (.iload_n 1, 1) := by decide +kernel
theorem dX8_costAt_25 : decode cX8_costAt 25 = .ok (.iaload, 1) := by decide +kernel
theorem dX8_costAt_26 : decode cX8_costAt 26 = .ok (.imul, 1) := by decide +kernel
theorem dX8_costAt_27 : decode cX8_costAt 27 = .ok (.iadd, 1) := by decide +kernel
theorem dX8_costAt_28 : decode cX8_costAt 28 = .ok (.ireturn, 1) := by decide +kernel
theorem dX8_costAt_29 : decode cX8_costAt 29 = .ok (.iload_n 3, 1) := by decide +kernel
theorem dX8_costAt_30 : decode cX8_costAt 30 = .ok (.aload_n 0, 1) := by decide +kernel
theorem dX8_costAt_31 : decode cX8_costAt 31 = .ok (.getfield 321, 3) := by decide +kernel
theorem dX8_costAt_34 : decode cX8_costAt 34 = .ok (.if_icmp .lt 14, 3) := by decide +kernel
theorem dX8_costAt_37 : decode cX8_costAt 37 = .ok (.aload_n 0, 1) := by decide +kernel
theorem dX8_costAt_38 : decode cX8_costAt 38 = .ok (.getfield 324, 3) := by decide +kernel
theorem dX8_costAt_41 : decode cX8_costAt 41 = .ok (.sipush 1000, 3) := by decide +kernel
theorem dX8_costAt_44 : decode cX8_costAt 44 = .ok (.imul, 1) := by decide +kernel
theorem dX8_costAt_45 : decode cX8_costAt 45 = .ok (.goto 4, 3) := by decide +kernel
theorem dX8_costAt_48 : decode cX8_costAt 48 = .ok (.iconst 0, 1) := by decide +kernel
theorem dX8_costAt_49 : decode cX8_costAt 49 = .ok (.istore 4, 2) := by decide +kernel
theorem dX8_costAt_51 : decode cX8_costAt 51 = .ok (.aload_n 0, 1) := by decide +kernel
theorem dX8_costAt_52 : decode cX8_costAt 52 = .ok (.iload_n 1, 1) := by decide +kernel
theorem dX8_costAt_53 : decode cX8_costAt 53 = .ok (.iconst 0, 1) := by decide +kernel
theorem dX8_costAt_54 : decode cX8_costAt 54 = .ok (.iload_n 3, 1) := by decide +kernel
theorem dX8_costAt_55 : decode cX8_costAt 55 = .ok (.aload_n 0, 1) := by decide +kernel
theorem dX8_costAt_56 : decode cX8_costAt 56 = .ok (.getfield 84, 3) := by decide +kernel
theorem dX8_costAt_59 : decode cX8_costAt 59 = .ok (.iload_n 2, 1) := by decide +kernel
theorem dX8_costAt_60 : decode cX8_costAt 60 = .ok (.iaload, 1) := by decide +kernel
theorem dX8_costAt_61 : decode cX8_costAt 61 = .ok (.invokevirtual 230, 3) := by decide +kernel
theorem dX8_costAt_64 : decode cX8_costAt 64 = .ok (.iload 4, 2) := by decide +kernel
theorem dX8_costAt_66 : decode cX8_costAt 66 = .ok (.iadd, 1) := by decide +kernel
theorem dX8_costAt_67 : decode cX8_costAt 67 = .ok (.aload_n 0, 1) := by decide +kernel
theorem dX8_costAt_68 : decode cX8_costAt 68 = .ok (.iload_n 1, 1) := by decide +kernel
theorem dX8_costAt_69 : decode cX8_costAt 69 = .ok (.iconst 2, 1) := by decide +kernel
theorem dX8_costAt_70 : decode cX8_costAt 70 = .ok (.invokevirtual 212, 3) := by decide +kernel
theorem dX8_costAt_73 : decode cX8_costAt 73 = .ok (.sipush 1000, 3) := by decide +kernel
theorem dX8_costAt_76 : decode cX8_costAt 76 = .ok (.imul, 1) := by decide +kernel
theorem dX8_costAt_77 : decode cX8_costAt 77 = .ok (.iload_n 3, 1) := by decide +kernel
theorem dX8_costAt_78 : decode cX8_costAt 78 = .ok (.imul, 1) := by decide +kernel
theorem dX8_costAt_79 : decode cX8_costAt 79 = .ok (.iadd, 1) := by decide +kernel
theorem dX8_costAt_80 : decode cX8_costAt 80 = .ok (.ireturn, 1) := by decide +kernel
set_option maxHeartbeats 4000000 in
set_option maxRecDepth 100000 in
theorem m_costAt (l : Launch) (D : va_G) (k : Nat → ClassId) (st : Nat → Nat) (lo : Nat) (a : Nat → Nat) (tx : Nat) (t0 : Nat) (we : Nat) (rd : Nat) (ru : Nat) (rw : Nat) (ca : Nat) (fp : Int32) (wd : Int64) (nu : Int32) (na : Int32) (ts : Int32) (df : Int32) (db : Int32) (sd : Int32) (dn : Nat → Nat) (se : Nat → Nat) (tm : Nat → Nat) (gs : Nat → Int32) (fprices : Nat → Int32) (fwalks : Nat → Int32) (sn : Nat) (cn : Nat) (pz : Int32)  (hs : sn < 3) (hcn : cn < 4) (hpz : pz < 0 ∨ ∃ d : Nat, d < 24 ∧ pz = nI d) : CRi l D k st lo yX8_costAt cX8_costAt 5 (some .int) ({ frames := 3, cells := 0, slots := 0, locals := 70 }) [.ref (a 0), .int (nI sn), .int (nI cn), .int pz] [((a 0), .inr (8, (fX8 a (nI tx) fp (nI t0) wd (nI we) nu na (nI rd) ts (nI ru) (nI rw) (nI ca) df db sd))), (aI k (a 1) 3 (nF dn)), (aI k (a 4) 27 (sg se tm gs)), (aI k (a 3) 72 fprices), (aI k (a 36) 4 fwalks)] (fun r => True) := by
  intro sz
  refine Met.ofW (cc := cX8_costAt) (maxL := 5) (ret := (some .int)) (by decide) rfl ?_
  intro p e s m args below meth c s₁ B hml hv
  obtain ⟨rfl, hsz, hlo, hP, hK, hDL, hZ⟩ := hv
  have hx := B.exec
  have hb := B.bytes
  have hr := B.returns
  have hts := WS_ts B.pre
  have hown : s.vm.findClass RX8 = some m.cls := findClass_of_methodNamed B.named
  have hlocks := B.notSynchronized
  subst hsz
  have hA : ∀ q : Nat, s.heap.size ≤ q → (fun q : Nat => s.heap.size ≤ q) q := fun _ h => h
  have hAlo : ∀ q : Nat, (fun q : Nat => s.heap.size ≤ q) q → lo ≤ q := fun q h => Nat.le_trans hlo h
  have hS : va_S (fun q : Nat => s.heap.size ≤ q) s.heap s.heap [] := va_S.rf
  have hl := lv_entry ([.ref (a 0), .int (nI sn), .int (nI cn), .int pz]) (n := 5) (Nat.le_of_ble_eq_true rfl)
  rw [lg_entry_eq]
  generalize (lg_sl ([.ref (a 0), .int (nI sn), .int (nI cn), .int pz]) ++ List.replicate (5 - (lg_sl ([.ref (a 0), .int (nI sn), .int (nI cn), .int pz])).length) Slot.unset).toArray = ls at hl ⊢
  have hl : lv_has ls 5 [(0, .ref (a 0)), (1, .int (nI sn)), (2, .int (nI cn)), (3, .int pz)] := hl
  refine lv_iload_n hx hb dX8_costAt_0 rfl (lv_at hl 3 rfl) ?_
  refine lv_if_ge (tgt := 29) hx hb dX8_costAt_1 (by decide) (fun c_1 => ?_) (fun c_1 => ?_)
  · obtain ⟨d_9, hd_9, rfl⟩ := hpz.resolve_left (fun h => absurd c_1 (Int32.not_le.mpr h))
    refine lv_iload_n hx hb dX8_costAt_29 rfl (lv_at hl 3 rfl) ?_
    refine lv_aload_n hx hb dX8_costAt_30 rfl (lv_at hl 0 rfl) ?_
    refine va_get (D := D) (ci := 8) (v := .int df) (C := RX8) (T := TX8) (N := 44) hx hb hts inX8 hown hK hP 0 rfl rfl 37 (by decide) (hts _ tw_1010) (fun _ h9 => h9) rfl dX8_costAt_31 ?_
    refine lv_icmp_lt (tgt := 48) hx hb dX8_costAt_34 (by decide) (fun c_2 => ?_) (fun c_2 => ?_)
    · refine lv_iconst (v := 0) hx hb dX8_costAt_48 (by decide) ?_
      refine lv_istore (lv' := [(4, .int 0), (0, .ref (a 0)), (1, .int (nI sn)), (2, .int (nI cn)), (3, .int (nI d_9))]) hx hb dX8_costAt_49 hl (by decide) rfl (fun ls hl => ?_)
      refine lv_aload_n hx hb dX8_costAt_51 rfl (lv_at hl 1 rfl) ?_
      refine lv_iload_n hx hb dX8_costAt_52 rfl (lv_at hl 2 rfl) ?_
      refine lv_iconst (v := 0) hx hb dX8_costAt_53 (by decide) ?_
      refine lv_iload_n hx hb dX8_costAt_54 rfl (lv_at hl 4 rfl) ?_
      refine lv_aload_n hx hb dX8_costAt_55 rfl (lv_at hl 1 rfl) ?_
      refine va_get (D := D) (ci := 8) (v := .ref (a 36)) (C := RX8) (T := TX8) (N := 44) hx hb hts inX8 hown hK hP 0 rfl rfl 35 (by decide) (hts _ tw_1008) (fun _ h9 => h9) rfl dX8_costAt_56 ?_
      refine lv_iload_n hx hb dX8_costAt_59 rfl (lv_at hl 3 rfl) ?_
      refine va_iald hx hb hK hP 4 1 rfl rfl (vp_in_nI (by omega) (by decide)) dX8_costAt_60 ?_
      refine lv_ti (y := (fwalks cn)) (by rw [nI_clamp (by omega)]) ?_
      refine ro_i (D := D) (va_runV (As := [.int (nI sn), .int 0, .int (nI d_9), .int (fwalks cn)]) (rest := []) ⟨hx, hb, hml, hown, hts⟩ ((m_takingBy l D k st lo a tx t0 we rd ru rw ca fp wd nu na ts df db sd dn se tm gs fprices sn d_9 0 (fwalks cn) (by first | assumption | omega) (by first | assumption | omega)) s.heap.size) (cwV 4 hts (gV tw_1226 tw_1228 tw_44 tw_87 tw_1229) rfl rfl rfl (by decide +kernel) ⟨Nat.le_of_ble_eq_true rfl, Nat.le_of_ble_eq_true rfl⟩) (pV hS hAlo hlo hP hK hDL hZ [0, 1, 2, 3] (by decide) rfl (ci := 8) (q := (RX8, TX8, 44)) (q0 := 0) rfl rfl) rfl rfl hl.1 rfl (lv_room (Nat.le_of_ble_eq_true rfl)) dX8_costAt_61 ⟨Nat.le_of_ble_eq_true rfl, Nat.le_of_ble_eq_true rfl⟩) hS hA hP (fun r_3 H locs hw_3 hP hS => ?_)
      try dsimp only at hw_3
      refine lv_iload hx hb dX8_costAt_64 (lv_at hl 0 rfl) ?_
      refine lv_iadd hx hb dX8_costAt_66 ?_
      refine lv_topi (fun x_4 ex_4 => ?_)
      refine lv_aload_n hx hb dX8_costAt_67 rfl (lv_at hl 1 rfl) ?_
      refine lv_iload_n hx hb dX8_costAt_68 rfl (lv_at hl 2 rfl) ?_
      refine lv_iconst (v := 2) hx hb dX8_costAt_69 (by decide) ?_
      refine ro_i (D := D) (va_runV (As := [.int (nI sn), .int 2]) (rest := [.int x_4]) ⟨hx, hb, hml, hown, hts⟩ ((m_of l D k st lo a tx t0 we rd ru rw ca fp wd nu na ts df db sd se tm gs sn 2 (by first | assumption | omega) (by first | assumption | omega)) H.size) (cwV 2 hts (gV tw_1194 tw_1196 tw_39 tw_87 tw_1197) rfl rfl rfl (by decide +kernel) ⟨Nat.le_of_ble_eq_true rfl, Nat.le_of_ble_eq_true rfl⟩) (pV hS hAlo hlo hP hK hDL hZ [0, 2] (by decide) rfl (ci := 8) (q := (RX8, TX8, 44)) (q0 := 0) rfl rfl) rfl rfl hl.1 rfl (lv_room (Nat.le_of_ble_eq_true rfl)) dX8_costAt_70 ⟨Nat.le_of_ble_eq_true rfl, Nat.le_of_ble_eq_true rfl⟩) hS hA hP (fun r_5 H locs hw_5 hP hS => ?_)
      try dsimp only at hw_5
      refine lv_sipush (v := 1000) hx hb dX8_costAt_73 (by decide) ?_
      refine lv_imul hx hb dX8_costAt_76 ?_
      refine lv_topi (fun x_6 ex_6 => ?_)
      refine lv_iload_n hx hb dX8_costAt_77 rfl (lv_at hl 4 rfl) ?_
      refine lv_imul hx hb dX8_costAt_78 ?_
      refine lv_topi (fun x_7 ex_7 => ?_)
      refine lv_iadd hx hb dX8_costAt_79 ?_
      refine lv_topi (fun x_8 ex_8 => ?_)
      exact W.iret (v := x_8) hx hb hr (fun t ht hW => ⟨⟨x_8, (), rfl, trivial, trivial⟩, hS.F ht⟩) hS.2.2 dX8_costAt_80
    · refine lv_aload_n hx hb dX8_costAt_37 rfl (lv_at hl 0 rfl) ?_
      refine va_get (D := D) (ci := 8) (v := .int db) (C := RX8) (T := TX8) (N := 44) hx hb hts inX8 hown hK hP 0 rfl rfl 38 (by decide) (hts _ tw_1011) (fun _ h9 => h9) rfl dX8_costAt_38 ?_
      refine lv_sipush (v := 1000) hx hb dX8_costAt_41 (by decide) ?_
      refine lv_imul hx hb dX8_costAt_44 ?_
      refine lv_topi (fun x_9 ex_9 => ?_)
      refine lv_goto (tgt := 49) hx hb dX8_costAt_45 (by decide) ?_
      refine lv_istore (lv' := [(4, .int x_9), (0, .ref (a 0)), (1, .int (nI sn)), (2, .int (nI cn)), (3, .int (nI d_9))]) hx hb dX8_costAt_49 hl (by decide) rfl (fun ls hl => ?_)
      refine lv_aload_n hx hb dX8_costAt_51 rfl (lv_at hl 1 rfl) ?_
      refine lv_iload_n hx hb dX8_costAt_52 rfl (lv_at hl 2 rfl) ?_
      refine lv_iconst (v := 0) hx hb dX8_costAt_53 (by decide) ?_
      refine lv_iload_n hx hb dX8_costAt_54 rfl (lv_at hl 4 rfl) ?_
      refine lv_aload_n hx hb dX8_costAt_55 rfl (lv_at hl 1 rfl) ?_
      refine va_get (D := D) (ci := 8) (v := .ref (a 36)) (C := RX8) (T := TX8) (N := 44) hx hb hts inX8 hown hK hP 0 rfl rfl 35 (by decide) (hts _ tw_1008) (fun _ h9 => h9) rfl dX8_costAt_56 ?_
      refine lv_iload_n hx hb dX8_costAt_59 rfl (lv_at hl 3 rfl) ?_
      refine va_iald hx hb hK hP 4 1 rfl rfl (vp_in_nI (by omega) (by decide)) dX8_costAt_60 ?_
      refine lv_ti (y := (fwalks cn)) (by rw [nI_clamp (by omega)]) ?_
      refine ro_i (D := D) (va_runV (As := [.int (nI sn), .int 0, .int (nI d_9), .int (fwalks cn)]) (rest := []) ⟨hx, hb, hml, hown, hts⟩ ((m_takingBy l D k st lo a tx t0 we rd ru rw ca fp wd nu na ts df db sd dn se tm gs fprices sn d_9 0 (fwalks cn) (by first | assumption | omega) (by first | assumption | omega)) s.heap.size) (cwV 4 hts (gV tw_1226 tw_1228 tw_44 tw_87 tw_1229) rfl rfl rfl (by decide +kernel) ⟨Nat.le_of_ble_eq_true rfl, Nat.le_of_ble_eq_true rfl⟩) (pV hS hAlo hlo hP hK hDL hZ [0, 1, 2, 3] (by decide) rfl (ci := 8) (q := (RX8, TX8, 44)) (q0 := 0) rfl rfl) rfl rfl hl.1 rfl (lv_room (Nat.le_of_ble_eq_true rfl)) dX8_costAt_61 ⟨Nat.le_of_ble_eq_true rfl, Nat.le_of_ble_eq_true rfl⟩) hS hA hP (fun r_10 H locs hw_10 hP hS => ?_)
      try dsimp only at hw_10
      refine lv_iload hx hb dX8_costAt_64 (lv_at hl 0 rfl) ?_
      refine lv_iadd hx hb dX8_costAt_66 ?_
      refine lv_topi (fun x_11 ex_11 => ?_)
      refine lv_aload_n hx hb dX8_costAt_67 rfl (lv_at hl 1 rfl) ?_
      refine lv_iload_n hx hb dX8_costAt_68 rfl (lv_at hl 2 rfl) ?_
      refine lv_iconst (v := 2) hx hb dX8_costAt_69 (by decide) ?_
      refine ro_i (D := D) (va_runV (As := [.int (nI sn), .int 2]) (rest := [.int x_11]) ⟨hx, hb, hml, hown, hts⟩ ((m_of l D k st lo a tx t0 we rd ru rw ca fp wd nu na ts df db sd se tm gs sn 2 (by first | assumption | omega) (by first | assumption | omega)) H.size) (cwV 2 hts (gV tw_1194 tw_1196 tw_39 tw_87 tw_1197) rfl rfl rfl (by decide +kernel) ⟨Nat.le_of_ble_eq_true rfl, Nat.le_of_ble_eq_true rfl⟩) (pV hS hAlo hlo hP hK hDL hZ [0, 2] (by decide) rfl (ci := 8) (q := (RX8, TX8, 44)) (q0 := 0) rfl rfl) rfl rfl hl.1 rfl (lv_room (Nat.le_of_ble_eq_true rfl)) dX8_costAt_70 ⟨Nat.le_of_ble_eq_true rfl, Nat.le_of_ble_eq_true rfl⟩) hS hA hP (fun r_12 H locs hw_12 hP hS => ?_)
      try dsimp only at hw_12
      refine lv_sipush (v := 1000) hx hb dX8_costAt_73 (by decide) ?_
      refine lv_imul hx hb dX8_costAt_76 ?_
      refine lv_topi (fun x_13 ex_13 => ?_)
      refine lv_iload_n hx hb dX8_costAt_77 rfl (lv_at hl 4 rfl) ?_
      refine lv_imul hx hb dX8_costAt_78 ?_
      refine lv_topi (fun x_14 ex_14 => ?_)
      refine lv_iadd hx hb dX8_costAt_79 ?_
      refine lv_topi (fun x_15 ex_15 => ?_)
      exact W.iret (v := x_15) hx hb hr (fun t ht hW => ⟨⟨x_15, (), rfl, trivial, trivial⟩, hS.F ht⟩) hS.2.2 dX8_costAt_80
  · refine lv_aload_n hx hb dX8_costAt_4 rfl (lv_at hl 0 rfl) ?_
    refine lv_iload_n hx hb dX8_costAt_5 rfl (lv_at hl 1 rfl) ?_
    refine lv_iconst (v := 0) hx hb dX8_costAt_6 (by decide) ?_
    refine ro_i (D := D) (va_runV (As := [.int (nI sn), .int 0]) (rest := []) ⟨hx, hb, hml, hown, hts⟩ ((m_garageOf l D k st lo a tx t0 we rd ru rw ca fp wd nu na ts df db sd dn se tm gs sn 0 (by first | assumption | omega)) s.heap.size) (cwV 2 hts (gV tw_1258 tw_1260 tw_51 tw_87 tw_1261) rfl rfl rfl (by decide +kernel) ⟨Nat.le_of_ble_eq_true rfl, Nat.le_of_ble_eq_true rfl⟩) (pV hS hAlo hlo hP hK hDL hZ [0, 1, 2] (by decide) rfl (ci := 8) (q := (RX8, TX8, 44)) (q0 := 0) rfl rfl) rfl rfl hl.1 rfl (lv_room (Nat.le_of_ble_eq_true rfl)) dX8_costAt_7 ⟨Nat.le_of_ble_eq_true rfl, Nat.le_of_ble_eq_true rfl⟩) hS hA hP (fun r_16 H locs hw_16 hP hS => ?_)
    try dsimp only at hw_16
    refine lv_aload_n hx hb dX8_costAt_10 rfl (lv_at hl 0 rfl) ?_
    refine lv_iload_n hx hb dX8_costAt_11 rfl (lv_at hl 1 rfl) ?_
    refine lv_iconst (v := 2) hx hb dX8_costAt_12 (by decide) ?_
    refine ro_i (D := D) (va_runV (As := [.int (nI sn), .int 2]) (rest := [.int r_16]) ⟨hx, hb, hml, hown, hts⟩ ((m_of l D k st lo a tx t0 we rd ru rw ca fp wd nu na ts df db sd se tm gs sn 2 (by first | assumption | omega) (by first | assumption | omega)) H.size) (cwV 2 hts (gV tw_1194 tw_1196 tw_39 tw_87 tw_1197) rfl rfl rfl (by decide +kernel) ⟨Nat.le_of_ble_eq_true rfl, Nat.le_of_ble_eq_true rfl⟩) (pV hS hAlo hlo hP hK hDL hZ [0, 2] (by decide) rfl (ci := 8) (q := (RX8, TX8, 44)) (q0 := 0) rfl rfl) rfl rfl hl.1 rfl (lv_room (Nat.le_of_ble_eq_true rfl)) dX8_costAt_13 ⟨Nat.le_of_ble_eq_true rfl, Nat.le_of_ble_eq_true rfl⟩) hS hA hP (fun r_17 H locs hw_17 hP hS => ?_)
    try dsimp only at hw_17
    refine lv_sipush (v := 1000) hx hb dX8_costAt_16 (by decide) ?_
    refine lv_imul hx hb dX8_costAt_19 ?_
    refine lv_topi (fun x_18 ex_18 => ?_)
    refine lv_aload_n hx hb dX8_costAt_20 rfl (lv_at hl 0 rfl) ?_
    refine va_get (D := D) (ci := 8) (v := .ref (a 1)) (C := RX8) (T := TX8) (N := 44) hx hb hts inX8 hown hK hP 0 rfl rfl 0 (by decide) (hts _ tw_973) (fun _ h9 => h9) rfl dX8_costAt_21 ?_
    refine lv_iload_n hx hb dX8_costAt_24 rfl (lv_at hl 1 rfl) ?_
    refine va_iald hx hb hK hP 1 1 rfl rfl (vp_in_nI (by omega) (by decide)) dX8_costAt_25 ?_
    refine lv_ti (y := (nI (dn sn))) (by rw [nI_clamp (by omega)]; rfl) ?_
    refine lv_imul hx hb dX8_costAt_26 ?_
    refine lv_topi (fun x_19 ex_19 => ?_)
    refine lv_iadd hx hb dX8_costAt_27 ?_
    refine lv_topi (fun x_20 ex_20 => ?_)
    exact W.iret (v := x_20) hx hb hr (fun t ht hW => ⟨⟨x_20, (), rfl, trivial, trivial⟩, hS.F ht⟩) hS.2.2 dX8_costAt_28

theorem dX8_parkAll_0 : decode cX8_parkAll 0 = .ok (.iload_n 2, 1) := by decide +kernel
theorem dX8_parkAll_1 : decode cX8_parkAll 1 = .ok (.istore_n 3, 1) := by decide +kernel
theorem dX8_parkAll_2 : decode cX8_parkAll 2 = .ok (.iconst 0, 1) := by decide +kernel
theorem dX8_parkAll_3 : decode cX8_parkAll 3 = .ok (.istore 4, 2) := by decide +kernel
theorem dX8_parkAll_5 : decode cX8_parkAll 5 = .ok (.iload 4, 2) := by decide +kernel
theorem dX8_parkAll_7 : decode cX8_parkAll 7 = .ok (.aload_n 0, 1) := by decide +kernel
theorem dX8_parkAll_8 : decode cX8_parkAll 8 = .ok (.getfield 315, 3) := by decide +kernel
theorem dX8_parkAll_11 : decode cX8_parkAll 11 = .ok (.if_icmp .ge 107, 3) := by decide +kernel
theorem dX8_parkAll_14 : decode cX8_parkAll 14 = .ok (.aload_n 0, 1) := by decide +kernel
theorem dX8_parkAll_15 : decode cX8_parkAll 15 = .ok (.getfield 90, 3) := by decide +kernel
theorem dX8_parkAll_18 : decode cX8_parkAll 18 = .ok (.iload 4, 2) := by decide +kernel
theorem dX8_parkAll_20 : decode cX8_parkAll 20 = .ok (.iconst (-1), 1) := by decide +kernel
theorem dX8_parkAll_21 : decode cX8_parkAll 21 = .ok (.iastore, 1) := by decide +kernel
theorem dX8_parkAll_22 : decode cX8_parkAll 22 = .ok (.aload_n 0, 1) := by decide +kernel
theorem dX8_parkAll_23 : decode cX8_parkAll 23 = .ok (.getfield 7, 3) := by decide +kernel
theorem dX8_parkAll_26 : decode cX8_parkAll 26 = .ok (.iload_n 1, 1) := by decide +kernel
theorem dX8_parkAll_27 : decode cX8_parkAll 27 = .ok (.iaload, 1) := by decide +kernel
theorem dX8_parkAll_28 : decode cX8_parkAll 28 = .ok (.iconst 1, 1) := by decide +kernel
theorem dX8_parkAll_29 : decode cX8_parkAll 29 = .ok (.isub, 1) := by decide +kernel
theorem dX8_parkAll_30 : decode cX8_parkAll 30 = .ok (.istore 5, 2) := by decide +kernel
theorem dX8_parkAll_32 : decode cX8_parkAll 32 = .ok (.iload 5, 2) := by decide +kernel
theorem dX8_parkAll_34 : decode cX8_parkAll 34 = .ok (.ifCond .lt 50, 3) := by decide +kernel
theorem dX8_parkAll_37 : decode cX8_parkAll 37 = .ok (.iload 5, 2) := by decide +kernel
theorem dX8_parkAll_39 : decode cX8_parkAll 39 = .ok (.aload_n 0, 1) := by decide +kernel
theorem dX8_parkAll_40 : decode cX8_parkAll 40 = .ok (.getfield 87, 3) := by decide +kernel
theorem dX8_parkAll_43 : decode cX8_parkAll 43 = .ok (.iload 4, 2) := by decide +kernel
theorem dX8_parkAll_45 : decode cX8_parkAll 45 = .ok (.iaload, 1) := by decide +kernel
theorem dX8_parkAll_46 : decode cX8_parkAll 46 = .ok (.if_icmp .lt 38, 3) := by decide +kernel
theorem dX8_parkAll_49 : decode cX8_parkAll 49 = .ok (.aload_n 0, 1) := by decide +kernel
theorem dX8_parkAll_50 : decode cX8_parkAll 50 = .ok (.getfield 90, 3) := by decide +kernel
theorem dX8_parkAll_53 : decode cX8_parkAll 53 = .ok (.iload 4, 2) := by decide +kernel
theorem dX8_parkAll_55 : decode cX8_parkAll 55 = .ok (.iload_n 3, 1) := by decide +kernel
theorem dX8_parkAll_56 : decode cX8_parkAll 56 = .ok (.iload 5, 2) := by decide +kernel
theorem dX8_parkAll_58 : decode cX8_parkAll 58 = .ok (.ishr, 1) := by decide +kernel
theorem dX8_parkAll_59 : decode cX8_parkAll 59 = .ok (.iconst 1, 1) := by decide +kernel
theorem dX8_parkAll_60 : decode cX8_parkAll 60 = .ok (.iand, 1) := by decide +kernel
theorem dX8_parkAll_61 : decode cX8_parkAll 61 = .ok (.iconst 1, 1) := by decide +kernel
theorem dX8_parkAll_62 : decode cX8_parkAll 62 = .ok (.if_icmp .ne 8, 3) := by decide +kernel
theorem dX8_parkAll_65 : decode cX8_parkAll 65 = .ok (.iload 5, 2) := by decide +kernel
theorem dX8_parkAll_67 : decode cX8_parkAll 67 = .ok (.goto 10, 3) := by decide +kernel
theorem dX8_parkAll_70 : decode cX8_parkAll 70 = .ok (.aload_n 0, 1) := by decide +kernel
theorem dX8_parkAll_71 : decode cX8_parkAll 71 = .ok (.getfield 90, 3) := by decide +kernel
theorem dX8_parkAll_74 : decode cX8_parkAll 74 = .ok (.iload 4, 2) := by decide +kernel
theorem dX8_parkAll_76 : decode cX8_parkAll 76 = .ok (.iaload, 1) := by decide +kernel
theorem dX8_parkAll_77 : decode cX8_parkAll 77 = .ok (.iastore, 1) := by decide +kernel
theorem dX8_parkAll_78 : decode cX8_parkAll 78 = .ok (.iinc 5 (-1), 3) := by decide +kernel
theorem dX8_parkAll_81 : decode cX8_parkAll 81 = .ok (.goto (-49), 3) := by decide +kernel
theorem dX8_parkAll_84 : decode cX8_parkAll 84 = .ok (.iload_n 3, 1) := by decide +kernel
theorem dX8_parkAll_85 : decode cX8_parkAll 85 = .ok (.aload_n 0, 1) := by decide +kernel
theorem dX8_parkAll_86 : decode cX8_parkAll 86 = .ok (.getfield 90, 3) := by decide +kernel
theorem dX8_parkAll_89 : decode cX8_parkAll 89 = .ok (.iload 4, 2) := by decide +kernel
theorem dX8_parkAll_91 : decode cX8_parkAll 91 = .ok (.iaload, 1) := by decide +kernel
theorem dX8_parkAll_92 : decode cX8_parkAll 92 = .ok (.ifCond .ge 7, 3) := by decide +kernel
theorem dX8_parkAll_95 : decode cX8_parkAll 95 = .ok (.iconst (-1), 1) := by decide +kernel
theorem dX8_parkAll_96 : decode cX8_parkAll 96 = .ok (.goto 14, 3) := by decide +kernel
theorem dX8_parkAll_99 : decode cX8_parkAll 99 = .ok (.iconst 1, 1) := by decide +kernel
theorem dX8_parkAll_100 : decode cX8_parkAll 100 = .ok (.aload_n 0, 1) := by decide +kernel
theorem dX8_parkAll_101 : decode cX8_parkAll 101 = .ok (.getfield 90, 3) := by decide +kernel
theorem dX8_parkAll_104 : decode cX8_parkAll 104 = .ok (.iload 4, 2) := by decide +kernel
theorem dX8_parkAll_106 : decode cX8_parkAll 106 = .ok (.iaload, 1) := by decide +kernel
theorem dX8_parkAll_107 : decode cX8_parkAll 107 = .ok (.ishl, 1) := by decide +kernel
theorem dX8_parkAll_108 : decode cX8_parkAll 108 = .ok (.iconst (-1), 1) := by decide +kernel
theorem dX8_parkAll_109 : decode cX8_parkAll 109 = .ok (.ixor, 1) := by decide +kernel
theorem dX8_parkAll_110 : decode cX8_parkAll 110 = .ok (.iand, 1) := by decide +kernel
theorem dX8_parkAll_111 : decode cX8_parkAll 111 = .ok (.istore_n 3, 1) := by decide +kernel
theorem dX8_parkAll_112 : decode cX8_parkAll 112 = .ok (.iinc 4 1, 3) := by decide +kernel
theorem dX8_parkAll_115 : decode cX8_parkAll 115 = .ok (.goto (-110), 3) := by decide +kernel
theorem dX8_parkAll_118 : decode cX8_parkAll 118 = .ok (.return_, 1) := by decide +kernel
set_option maxHeartbeats 4000000 in
set_option maxRecDepth 100000 in
theorem m_parkAll (l : Launch) (D : va_G) (k : Nat → ClassId) (st : Nat → Nat) (lo : Nat) (a : Nat → Nat) (tx : Nat) (t0 : Nat) (we : Nat) (rd : Nat) (ru : Nat) (rw : Nat) (ca : Nat) (fp : Int32) (wd : Int64) (nu : Int32) (na : Int32) (ts : Int32) (df : Int32) (db : Int32) (sd : Int32) (dn : Nat → Nat) (br : Nat → Nat) (fdoorsOf : Nat → Int32) (sn : Nat) (p1 : Int32) (hdn : ∀ j, dn j ≤ 24) (hca : ca ≤ 4) (hbr : ∀ j, br j ≤ 24) (hs : sn < 3) (hdv : dvOK fdoorsOf) : CWv l D k st lo yX8_parkAll cX8_parkAll 6 none ({ frames := 0, cells := 0, slots := 0, locals := 0 }) 0 0 [.ref (a 0), .int (nI sn), .int p1] [((a 0), .inr (8, (fX8 a (nI tx) fp (nI t0) wd (nI we) nu na (nI rd) ts (nI ru) (nI rw) (nI ca) df db sd))), (aI k (a 1) 3 (nF dn)), (aI k (a 37) 4 (nF br)), (aI k (a 40) 4 fdoorsOf)] (fun (fdoorsOf_ : (Nat → Int32)) => dvOK fdoorsOf_) (fun (fdoorsOf_ : (Nat → Int32)) => [((a 0), .inr (8, (fX8 a (nI tx) fp (nI t0) wd (nI we) nu na (nI rd) ts (nI ru) (nI rw) (nI ca) df db sd))), (aI k (a 1) 3 (nF dn)), (aI k (a 37) 4 (nF br)), (aI k (a 40) 4 fdoorsOf_)]) := by
  intro sz
  refine Met.ofW (cc := cX8_parkAll) (maxL := 6) (ret := none) (by decide) rfl ?_
  intro p e s m args below meth c s₁ B hml hv
  obtain ⟨rfl, hsz, hlo, hP, hK, hDL, hZ⟩ := hv
  have hx := B.exec
  have hb := B.bytes
  have hr := B.returns
  have hts := WS_ts B.pre
  have hown : s.vm.findClass RX8 = some m.cls := findClass_of_methodNamed B.named
  have hlocks := B.notSynchronized
  subst hsz
  have hD := hDL.self (sz := s.heap.size)
  have hAlo := A_lo hDL hlo
  generalize hAe : va_A [((a 0), .inr (8, (fX8 a (nI tx) fp (nI t0) wd (nI we) nu na (nI rd) ts (nI ru) (nI rw) (nI ca) df db sd))), (aI k (a 1) 3 (nF dn)), (aI k (a 37) 4 (nF br)), (aI k (a 40) 4 fdoorsOf)] s.heap.size = A at hD hAlo ⊢
  have hA : ∀ q : Nat, s.heap.size ≤ q → A q := fun q h => by rw [← hAe]; exact Or.inr h
  have hS : va_S A s.heap s.heap [] := va_S.rf
  have hl := lv_entry ([.ref (a 0), .int (nI sn), .int p1]) (n := 6) (Nat.le_of_ble_eq_true rfl)
  rw [lg_entry_eq]
  generalize (lg_sl ([.ref (a 0), .int (nI sn), .int p1]) ++ List.replicate (6 - (lg_sl ([.ref (a 0), .int (nI sn), .int p1])).length) Slot.unset).toArray = ls at hl ⊢
  have hl : lv_has ls 6 [(0, .ref (a 0)), (1, .int (nI sn)), (2, .int p1)] := hl
  have hd_9 := hdn sn
  refine lv_iload_n hx hb dX8_parkAll_0 rfl (lv_at hl 2 rfl) ?_
  refine lv_istore_n (lv' := [(3, .int p1), (0, .ref (a 0)), (1, .int (nI sn)), (2, .int p1)]) hx hb dX8_parkAll_1 rfl hl (by decide) rfl (fun ls hl => ?_)
  refine lv_iconst (v := 0) hx hb dX8_parkAll_2 (by decide) ?_
  refine lv_istore (lv' := [(4, .int 0), (3, .int p1), (0, .ref (a 0)), (1, .int (nI sn)), (2, .int p1)]) hx hb dX8_parkAll_3 hl (by decide) rfl (fun ls hl => ?_)
  refine W_loop (σ := Nat × Int32 × (Nat → Int32)) (fun (n_ : Nat) (x_ : Nat × Int32 × (Nat → Int32)) (H : Heap) (locs : List Loc) (ls : Array Slot) => match x_ with | (cc_1, lf_1, fd_1) => n_ = 4 - cc_1 ∧ (cc_1 ≤ 4 ∧ dvOK fd_1) ∧ va_P D classes [((a 0), .inr (8, (fX8 a (nI tx) fp (nI t0) wd (nI we) nu na (nI rd) ts (nI ru) (nI rw) (nI ca) df db sd))), (aI k (a 1) 3 (nF dn)), (aI k (a 37) 4 (nF br)), (aI k (a 40) 4 fd_1)] H ∧ va_D A [((a 0), .inr (8, (fX8 a (nI tx) fp (nI t0) wd (nI we) nu na (nI rd) ts (nI ru) (nI rw) (nI ca) df db sd))), (aI k (a 1) 3 (nF dn)), (aI k (a 37) 4 (nF br)), (aI k (a 40) 4 fd_1)] ∧ va_S A s.heap H locs ∧ lv_has ls 6 [(4, .int (nI cc_1)), (3, .int lf_1), (0, .ref (a 0)), (1, .int (nI sn)), (2, .int p1)]) (fun n_1 x_1 H locs ls hI ih_1 => ?_) _ (0, p1, fdoorsOf) ⟨rfl, ⟨by omega, hdv⟩, hP, hD, hS, (lv_sub hl [0, 1, 2, 3, 4] rfl)⟩
  obtain ⟨cc_1, lf_1, fd_1⟩ := x_1
  obtain ⟨hm_1, hv_1, hP, hD, hS, hl⟩ := hI
  subst hm_1
  have hdvl_1 := hv_1.2
  refine lv_iload hx hb dX8_parkAll_5 (lv_at hl 0 rfl) ?_
  refine lv_aload_n hx hb dX8_parkAll_7 rfl (lv_at hl 2 rfl) ?_
  refine va_get (D := D) (ci := 8) (v := .int (nI ca)) (C := RX8) (T := TX8) (N := 44) hx hb hts inX8 hown hK hP 0 rfl rfl 34 (by decide) (hts _ tw_1007) (fun _ h9 => h9) rfl dX8_parkAll_8 ?_
  refine lv_icmp_ge (tgt := 118) hx hb dX8_parkAll_11 (by decide) (fun c_2 => ?_) (fun c_2 => ?_)
  · have c_2 := (nI_leI (a := ca) (b := cc_1) (by omega) (by omega)).mp c_2
    have hP9 := hP.sub (ws' := [((a 0), .inr (8, (fX8 a (nI tx) fp (nI t0) wd (nI we) nu na (nI rd) ts (nI ru) (nI rw) (nI ca) df db sd))), (aI k (a 1) 3 (nF dn)), (aI k (a 37) 4 (nF br)), (aI k (a 40) 4 fd_1)]) [0, 1, 2, 3] rfl
    have hD9 := hD.sub (ws' := [((a 0), .inr (8, (fX8 a (nI tx) fp (nI t0) wd (nI we) nu na (nI rd) ts (nI ru) (nI rw) (nI ca) df db sd))), (aI k (a 1) 3 (nF dn)), (aI k (a 37) 4 (nF br)), (aI k (a 40) 4 fd_1)]) [0, 1, 2, 3] (by decide) rfl
    exact W.vret hx hb hr (fun t ht hW => ⟨⟨fd_1, rfl, hdvl_1, by rw [ht]; exact hP9, hD9⟩, hS.F ht⟩) hS.2.2 dX8_parkAll_118
  · have c_2 : ¬ (ca ≤ cc_1) := fun h => c_2 ((nI_leI (a := ca) (b := cc_1) (by omega) (by omega)).mpr h)
    refine lv_aload_n hx hb dX8_parkAll_14 rfl (lv_at hl 2 rfl) ?_
    refine va_get (D := D) (ci := 8) (v := .ref (a 40)) (C := RX8) (T := TX8) (N := 44) hx hb hts inX8 hown hK hP 0 rfl rfl 39 (by decide) (hts _ tw_1012) (fun _ h9 => h9) rfl dX8_parkAll_15 ?_
    refine lv_iload hx hb dX8_parkAll_18 (lv_at hl 0 rfl) ?_
    refine lv_iconst (v := (-1)) hx hb dX8_parkAll_20 (by decide) ?_
    refine va_iast hx hb hK hP hD hS 3 1 rfl rfl (vp_in_nI (by omega) (by decide)) dX8_parkAll_21 (fun H locs hP hD hS => ?_)
    replace hP : va_P D classes [((a 0), .inr (8, (fX8 a (nI tx) fp (nI t0) wd (nI we) nu na (nI rd) ts (nI ru) (nI rw) (nI ca) df db sd))), (aI k (a 1) 3 (nF dn)), (aI k (a 37) 4 (nF br)), (aI k (a 40) 4 (upd fd_1 (Int32.toNatClampNeg (nI cc_1)) (-1)))] H := hP
    replace hD : va_D A [((a 0), .inr (8, (fX8 a (nI tx) fp (nI t0) wd (nI we) nu na (nI rd) ts (nI ru) (nI rw) (nI ca) df db sd))), (aI k (a 1) 3 (nF dn)), (aI k (a 37) 4 (nF br)), (aI k (a 40) 4 (upd fd_1 (Int32.toNatClampNeg (nI cc_1)) (-1)))] := hD
    rw [nI_clamp (n := cc_1) (by omega)] at hP hD
    replace hP : va_P D classes [((a 0), .inr (8, (fX8 a (nI tx) fp (nI t0) wd (nI we) nu na (nI rd) ts (nI ru) (nI rw) (nI ca) df db sd))), (aI k (a 1) 3 (nF dn)), (aI k (a 37) 4 (nF br)), (aI k (a 40) 4 (upd fd_1 cc_1 (-1)))] H := hP
    replace hD : va_D A [((a 0), .inr (8, (fX8 a (nI tx) fp (nI t0) wd (nI we) nu na (nI rd) ts (nI ru) (nI rw) (nI ca) df db sd))), (aI k (a 1) 3 (nF dn)), (aI k (a 37) 4 (nF br)), (aI k (a 40) 4 (upd fd_1 cc_1 (-1)))] := hD
    have hdv_4 : dvOK (upd fd_1 cc_1 (-1)) := dvOK_upd hdvl_1 cc_1 (-1) (.inl (by decide))
    generalize (upd fd_1 cc_1 (-1)) = f_4 at hP hD hdv_4
    refine lv_aload_n hx hb dX8_parkAll_22 rfl (lv_at hl 2 rfl) ?_
    refine va_get (D := D) (ci := 8) (v := .ref (a 1)) (C := RX8) (T := TX8) (N := 44) hx hb hts inX8 hown hK hP 0 rfl rfl 0 (by decide) (hts _ tw_973) (fun _ h9 => h9) rfl dX8_parkAll_23 ?_
    refine lv_iload_n hx hb dX8_parkAll_26 rfl (lv_at hl 3 rfl) ?_
    refine va_iald hx hb hK hP 1 1 rfl rfl (vp_in_nI (by omega) (by decide)) dX8_parkAll_27 ?_
    refine lv_ti (y := (nI (dn sn))) (by rw [nI_clamp (by omega)]; rfl) ?_
    refine lv_iconst (v := 1) hx hb dX8_parkAll_28 (by decide) ?_
    refine lv_isub hx hb dX8_parkAll_29 ?_
    refine lv_ti (y := (nI (dn sn) - 1)) rfl ?_
    refine lv_istore (lv' := [(5, .int (nI (dn sn) - 1)), (4, .int (nI cc_1)), (3, .int lf_1), (0, .ref (a 0)), (1, .int (nI sn)), (2, .int p1)]) hx hb dX8_parkAll_30 hl (by decide) rfl (fun ls hl => ?_)
    refine W_loop (σ := Nat × (Nat → Int32)) (fun (n_ : Nat) (x_ : Nat × (Nat → Int32)) (H : Heap) (locs : List Loc) (ls : Array Slot) => match x_ with | (q_5, fd_5) => n_ = 2 * q_5 ∧ (q_5 ≤ 24 ∧ dvOK fd_5) ∧ va_P D classes [((a 0), .inr (8, (fX8 a (nI tx) fp (nI t0) wd (nI we) nu na (nI rd) ts (nI ru) (nI rw) (nI ca) df db sd))), (aI k (a 1) 3 (nF dn)), (aI k (a 37) 4 (nF br)), (aI k (a 40) 4 fd_5)] H ∧ va_D A [((a 0), .inr (8, (fX8 a (nI tx) fp (nI t0) wd (nI we) nu na (nI rd) ts (nI ru) (nI rw) (nI ca) df db sd))), (aI k (a 1) 3 (nF dn)), (aI k (a 37) 4 (nF br)), (aI k (a 40) 4 fd_5)] ∧ va_S A s.heap H locs ∧ lv_has ls 6 [(5, .int (nI q_5 - 1)), (4, .int (nI cc_1)), (3, .int lf_1), (0, .ref (a 0)), (1, .int (nI sn)), (2, .int p1)]) (fun n_5 x_5 H locs ls hI ih_5 => ?_) _ (dn sn, f_4) ⟨rfl, ⟨by omega, hdv_4⟩, hP, hD, hS, (lv_sub hl [0, 1, 2, 3, 4, 5] rfl)⟩
    obtain ⟨q_5, fd_5⟩ := x_5
    obtain ⟨hm_5, hv_5, hP, hD, hS, hl⟩ := hI
    subst hm_5
    have hdvl_5 := hv_5.2
    rcases q_5 with _ | q_5
    · rw [dn0] at hl
      refine lv_iload hx hb dX8_parkAll_32 (lv_at hl 0 rfl) ?_
      refine lv_if_lt (tgt := 84) hx hb dX8_parkAll_34 (by decide) (fun _ => ?_) (fun h => absurd (by decide) h)
      refine lv_iload_n hx hb dX8_parkAll_84 rfl (lv_at hl 2 rfl) ?_
      refine lv_aload_n hx hb dX8_parkAll_85 rfl (lv_at hl 3 rfl) ?_
      refine va_get (D := D) (ci := 8) (v := .ref (a 40)) (C := RX8) (T := TX8) (N := 44) hx hb hts inX8 hown hK hP 0 rfl rfl 39 (by decide) (hts _ tw_1012) (fun _ h9 => h9) rfl dX8_parkAll_86 ?_
      refine lv_iload hx hb dX8_parkAll_89 (lv_at hl 1 rfl) ?_
      refine va_iald hx hb hK hP 3 1 rfl rfl (vp_in_nI (by omega) (by decide)) dX8_parkAll_91 ?_
      refine lv_ti (y := (fd_5 cc_1)) (by rw [nI_clamp (by omega)]) ?_
      refine lv_if_ge (tgt := 99) hx hb dX8_parkAll_92 (by decide) (fun c_6 => ?_) (fun c_6 => ?_)
      · refine lv_iconst (v := 1) hx hb dX8_parkAll_99 (by decide) ?_
        refine lv_aload_n hx hb dX8_parkAll_100 rfl (lv_at hl 3 rfl) ?_
        refine va_get (D := D) (ci := 8) (v := .ref (a 40)) (C := RX8) (T := TX8) (N := 44) hx hb hts inX8 hown hK hP 0 rfl rfl 39 (by decide) (hts _ tw_1012) (fun _ h9 => h9) rfl dX8_parkAll_101 ?_
        refine lv_iload hx hb dX8_parkAll_104 (lv_at hl 1 rfl) ?_
        refine va_iald hx hb hK hP 3 1 rfl rfl (vp_in_nI (by omega) (by decide)) dX8_parkAll_106 ?_
        refine lv_ti (y := (fd_5 cc_1)) (by rw [nI_clamp (by omega)]) ?_
        refine lv_ishl hx hb dX8_parkAll_107 ?_
        refine lv_topi (fun x_7 ex_7 => ?_)
        refine lv_iconst (v := (-1)) hx hb dX8_parkAll_108 (by decide) ?_
        refine lv_ixor hx hb dX8_parkAll_109 ?_
        refine lv_topi (fun x_8 ex_8 => ?_)
        refine lv_iand hx hb dX8_parkAll_110 ?_
        refine lv_topi (fun x_9 ex_9 => ?_)
        refine lv_istore_n (lv' := [(3, .int x_9), (5, .int (-1)), (4, .int (nI cc_1)), (0, .ref (a 0)), (1, .int (nI sn)), (2, .int p1)]) hx hb dX8_parkAll_111 rfl hl (by decide) rfl (fun ls hl => ?_)
        refine lv_iinc (v := (nI (cc_1 + 1))) (lv' := [(4, .int (nI (cc_1 + 1))), (3, .int x_9), (5, .int (-1)), (0, .ref (a 0)), (1, .int (nI sn)), (2, .int p1)]) hx hb dX8_parkAll_112 hl (k := 2) rfl (nI_add cc_1 1) (by decide) rfl (fun ls hl => ?_)
        refine lv_goto (tgt := 5) hx hb dX8_parkAll_115 (by decide) ?_
        exact ih_1 _ (cc_1 + 1, x_9, fd_5) _ _ _ (by omega) ⟨rfl, ⟨by omega, hdvl_5⟩, hP, hD, hS, (lv_sub hl [0, 1, 3, 4, 5] rfl)⟩
      · refine lv_iconst (v := (-1)) hx hb dX8_parkAll_95 (by decide) ?_
        refine lv_goto (tgt := 110) hx hb dX8_parkAll_96 (by decide) ?_
        refine lv_iand hx hb dX8_parkAll_110 ?_
        refine lv_topi (fun x_10 ex_10 => ?_)
        refine lv_istore_n (lv' := [(3, .int x_10), (5, .int (-1)), (4, .int (nI cc_1)), (0, .ref (a 0)), (1, .int (nI sn)), (2, .int p1)]) hx hb dX8_parkAll_111 rfl hl (by decide) rfl (fun ls hl => ?_)
        refine lv_iinc (v := (nI (cc_1 + 1))) (lv' := [(4, .int (nI (cc_1 + 1))), (3, .int x_10), (5, .int (-1)), (0, .ref (a 0)), (1, .int (nI sn)), (2, .int p1)]) hx hb dX8_parkAll_112 hl (k := 2) rfl (nI_add cc_1 1) (by decide) rfl (fun ls hl => ?_)
        refine lv_goto (tgt := 5) hx hb dX8_parkAll_115 (by decide) ?_
        exact ih_1 _ (cc_1 + 1, x_10, fd_5) _ _ _ (by omega) ⟨rfl, ⟨by omega, hdvl_5⟩, hP, hD, hS, (lv_sub hl [0, 1, 3, 4, 5] rfl)⟩
    · rw [nI_pred] at hl
      refine lv_iload hx hb dX8_parkAll_32 (lv_at hl 0 rfl) ?_
      refine lv_if_lt (tgt := 84) hx hb dX8_parkAll_34 (by decide) (fun h => absurd h (nI_pos0 (by omega))) (fun _ => ?_)
      refine lv_iload hx hb dX8_parkAll_37 (lv_at hl 0 rfl) ?_
      refine lv_aload_n hx hb dX8_parkAll_39 rfl (lv_at hl 3 rfl) ?_
      refine va_get (D := D) (ci := 8) (v := .ref (a 37)) (C := RX8) (T := TX8) (N := 44) hx hb hts inX8 hown hK hP 0 rfl rfl 36 (by decide) (hts _ tw_1009) (fun _ h9 => h9) rfl dX8_parkAll_40 ?_
      refine lv_iload hx hb dX8_parkAll_43 (lv_at hl 1 rfl) ?_
      refine va_iald hx hb hK hP 2 1 rfl rfl (vp_in_nI (by omega) (by decide)) dX8_parkAll_45 ?_
      have hq_11 := hbr cc_1
      refine lv_ti (y := (nI (br cc_1))) (by rw [nI_clamp (by omega)]; rfl) ?_
      refine lv_icmp_lt (tgt := 84) hx hb dX8_parkAll_46 (by decide) (fun c_12 => ?_) (fun c_12 => ?_)
      · have c_12 := (nI_ltI (a := q_5) (b := (br cc_1)) (by omega) (by omega)).mp c_12
        refine lv_iload_n hx hb dX8_parkAll_84 rfl (lv_at hl 2 rfl) ?_
        refine lv_aload_n hx hb dX8_parkAll_85 rfl (lv_at hl 3 rfl) ?_
        refine va_get (D := D) (ci := 8) (v := .ref (a 40)) (C := RX8) (T := TX8) (N := 44) hx hb hts inX8 hown hK hP 0 rfl rfl 39 (by decide) (hts _ tw_1012) (fun _ h9 => h9) rfl dX8_parkAll_86 ?_
        refine lv_iload hx hb dX8_parkAll_89 (lv_at hl 1 rfl) ?_
        refine va_iald hx hb hK hP 3 1 rfl rfl (vp_in_nI (by omega) (by decide)) dX8_parkAll_91 ?_
        refine lv_ti (y := (fd_5 cc_1)) (by rw [nI_clamp (by omega)]) ?_
        refine lv_if_ge (tgt := 99) hx hb dX8_parkAll_92 (by decide) (fun c_13 => ?_) (fun c_13 => ?_)
        · refine lv_iconst (v := 1) hx hb dX8_parkAll_99 (by decide) ?_
          refine lv_aload_n hx hb dX8_parkAll_100 rfl (lv_at hl 3 rfl) ?_
          refine va_get (D := D) (ci := 8) (v := .ref (a 40)) (C := RX8) (T := TX8) (N := 44) hx hb hts inX8 hown hK hP 0 rfl rfl 39 (by decide) (hts _ tw_1012) (fun _ h9 => h9) rfl dX8_parkAll_101 ?_
          refine lv_iload hx hb dX8_parkAll_104 (lv_at hl 1 rfl) ?_
          refine va_iald hx hb hK hP 3 1 rfl rfl (vp_in_nI (by omega) (by decide)) dX8_parkAll_106 ?_
          refine lv_ti (y := (fd_5 cc_1)) (by rw [nI_clamp (by omega)]) ?_
          refine lv_ishl hx hb dX8_parkAll_107 ?_
          refine lv_topi (fun x_14 ex_14 => ?_)
          refine lv_iconst (v := (-1)) hx hb dX8_parkAll_108 (by decide) ?_
          refine lv_ixor hx hb dX8_parkAll_109 ?_
          refine lv_topi (fun x_15 ex_15 => ?_)
          refine lv_iand hx hb dX8_parkAll_110 ?_
          refine lv_topi (fun x_16 ex_16 => ?_)
          refine lv_istore_n (lv' := [(3, .int x_16), (5, .int (nI q_5)), (4, .int (nI cc_1)), (0, .ref (a 0)), (1, .int (nI sn)), (2, .int p1)]) hx hb dX8_parkAll_111 rfl hl (by decide) rfl (fun ls hl => ?_)
          refine lv_iinc (v := (nI (cc_1 + 1))) (lv' := [(4, .int (nI (cc_1 + 1))), (3, .int x_16), (5, .int (nI q_5)), (0, .ref (a 0)), (1, .int (nI sn)), (2, .int p1)]) hx hb dX8_parkAll_112 hl (k := 2) rfl (nI_add cc_1 1) (by decide) rfl (fun ls hl => ?_)
          refine lv_goto (tgt := 5) hx hb dX8_parkAll_115 (by decide) ?_
          exact ih_1 _ (cc_1 + 1, x_16, fd_5) _ _ _ (by omega) ⟨rfl, ⟨by omega, hdvl_5⟩, hP, hD, hS, (lv_sub hl [0, 1, 3, 4, 5] rfl)⟩
        · refine lv_iconst (v := (-1)) hx hb dX8_parkAll_95 (by decide) ?_
          refine lv_goto (tgt := 110) hx hb dX8_parkAll_96 (by decide) ?_
          refine lv_iand hx hb dX8_parkAll_110 ?_
          refine lv_topi (fun x_17 ex_17 => ?_)
          refine lv_istore_n (lv' := [(3, .int x_17), (5, .int (nI q_5)), (4, .int (nI cc_1)), (0, .ref (a 0)), (1, .int (nI sn)), (2, .int p1)]) hx hb dX8_parkAll_111 rfl hl (by decide) rfl (fun ls hl => ?_)
          refine lv_iinc (v := (nI (cc_1 + 1))) (lv' := [(4, .int (nI (cc_1 + 1))), (3, .int x_17), (5, .int (nI q_5)), (0, .ref (a 0)), (1, .int (nI sn)), (2, .int p1)]) hx hb dX8_parkAll_112 hl (k := 2) rfl (nI_add cc_1 1) (by decide) rfl (fun ls hl => ?_)
          refine lv_goto (tgt := 5) hx hb dX8_parkAll_115 (by decide) ?_
          exact ih_1 _ (cc_1 + 1, x_17, fd_5) _ _ _ (by omega) ⟨rfl, ⟨by omega, hdvl_5⟩, hP, hD, hS, (lv_sub hl [0, 1, 3, 4, 5] rfl)⟩
      · have c_12 : ¬ (q_5 < (br cc_1)) := fun h => c_12 ((nI_ltI (a := q_5) (b := (br cc_1)) (by omega) (by omega)).mpr h)
        refine lv_aload_n hx hb dX8_parkAll_49 rfl (lv_at hl 3 rfl) ?_
        refine va_get (D := D) (ci := 8) (v := .ref (a 40)) (C := RX8) (T := TX8) (N := 44) hx hb hts inX8 hown hK hP 0 rfl rfl 39 (by decide) (hts _ tw_1012) (fun _ h9 => h9) rfl dX8_parkAll_50 ?_
        refine lv_iload hx hb dX8_parkAll_53 (lv_at hl 1 rfl) ?_
        refine lv_iload_n hx hb dX8_parkAll_55 rfl (lv_at hl 2 rfl) ?_
        refine lv_iload hx hb dX8_parkAll_56 (lv_at hl 0 rfl) ?_
        refine lv_ishr hx hb dX8_parkAll_58 ?_
        refine lv_topi (fun x_18 ex_18 => ?_)
        refine lv_iconst (v := 1) hx hb dX8_parkAll_59 (by decide) ?_
        refine lv_iand hx hb dX8_parkAll_60 ?_
        refine lv_topi (fun x_19 ex_19 => ?_)
        refine lv_iconst (v := 1) hx hb dX8_parkAll_61 (by decide) ?_
        refine lv_icmp_ne (tgt := 70) hx hb dX8_parkAll_62 (by decide) (fun c_20 => ?_) (fun c_20 => ?_)
        · refine lv_aload_n hx hb dX8_parkAll_70 rfl (lv_at hl 3 rfl) ?_
          refine va_get (D := D) (ci := 8) (v := .ref (a 40)) (C := RX8) (T := TX8) (N := 44) hx hb hts inX8 hown hK hP 0 rfl rfl 39 (by decide) (hts _ tw_1012) (fun _ h9 => h9) rfl dX8_parkAll_71 ?_
          refine lv_iload hx hb dX8_parkAll_74 (lv_at hl 1 rfl) ?_
          refine va_iald hx hb hK hP 3 1 rfl rfl (vp_in_nI (by omega) (by decide)) dX8_parkAll_76 ?_
          refine lv_ti (y := (fd_5 cc_1)) (by rw [nI_clamp (by omega)]) ?_
          refine va_iast hx hb hK hP hD hS 3 1 rfl rfl (vp_in_nI (by omega) (by decide)) dX8_parkAll_77 (fun H locs hP hD hS => ?_)
          replace hP : va_P D classes [((a 0), .inr (8, (fX8 a (nI tx) fp (nI t0) wd (nI we) nu na (nI rd) ts (nI ru) (nI rw) (nI ca) df db sd))), (aI k (a 1) 3 (nF dn)), (aI k (a 37) 4 (nF br)), (aI k (a 40) 4 (upd fd_5 (Int32.toNatClampNeg (nI cc_1)) (fd_5 cc_1)))] H := hP
          replace hD : va_D A [((a 0), .inr (8, (fX8 a (nI tx) fp (nI t0) wd (nI we) nu na (nI rd) ts (nI ru) (nI rw) (nI ca) df db sd))), (aI k (a 1) 3 (nF dn)), (aI k (a 37) 4 (nF br)), (aI k (a 40) 4 (upd fd_5 (Int32.toNatClampNeg (nI cc_1)) (fd_5 cc_1)))] := hD
          rw [nI_clamp (n := cc_1) (by omega)] at hP hD
          replace hP : va_P D classes [((a 0), .inr (8, (fX8 a (nI tx) fp (nI t0) wd (nI we) nu na (nI rd) ts (nI ru) (nI rw) (nI ca) df db sd))), (aI k (a 1) 3 (nF dn)), (aI k (a 37) 4 (nF br)), (aI k (a 40) 4 (upd fd_5 cc_1 (fd_5 cc_1)))] H := hP
          replace hD : va_D A [((a 0), .inr (8, (fX8 a (nI tx) fp (nI t0) wd (nI we) nu na (nI rd) ts (nI ru) (nI rw) (nI ca) df db sd))), (aI k (a 1) 3 (nF dn)), (aI k (a 37) 4 (nF br)), (aI k (a 40) 4 (upd fd_5 cc_1 (fd_5 cc_1)))] := hD
          have hdv_22 : dvOK (upd fd_5 cc_1 (fd_5 cc_1)) := dvOK_upd hdvl_5 cc_1 (fd_5 cc_1) (hdvl_5 _)
          generalize (upd fd_5 cc_1 (fd_5 cc_1)) = f_22 at hP hD hdv_22
          refine lv_iinc (v := (nI q_5 - 1)) (lv' := [(5, .int (nI q_5 - 1)), (4, .int (nI cc_1)), (3, .int lf_1), (0, .ref (a 0)), (1, .int (nI sn)), (2, .int p1)]) hx hb dX8_parkAll_78 hl (k := 0) rfl (dn1 _) (by decide) rfl (fun ls hl => ?_)
          refine lv_goto (tgt := 32) hx hb dX8_parkAll_81 (by decide) ?_
          exact ih_5 _ (q_5, f_22) _ _ _ (by omega) ⟨rfl, ⟨by omega, hdv_22⟩, hP, hD, hS, (lv_sub hl [0, 1, 2, 3, 4, 5] rfl)⟩
        · refine lv_iload hx hb dX8_parkAll_65 (lv_at hl 0 rfl) ?_
          refine lv_goto (tgt := 77) hx hb dX8_parkAll_67 (by decide) ?_
          refine va_iast hx hb hK hP hD hS 3 1 rfl rfl (vp_in_nI (by omega) (by decide)) dX8_parkAll_77 (fun H locs hP hD hS => ?_)
          replace hP : va_P D classes [((a 0), .inr (8, (fX8 a (nI tx) fp (nI t0) wd (nI we) nu na (nI rd) ts (nI ru) (nI rw) (nI ca) df db sd))), (aI k (a 1) 3 (nF dn)), (aI k (a 37) 4 (nF br)), (aI k (a 40) 4 (upd fd_5 (Int32.toNatClampNeg (nI cc_1)) (nI q_5)))] H := hP
          replace hD : va_D A [((a 0), .inr (8, (fX8 a (nI tx) fp (nI t0) wd (nI we) nu na (nI rd) ts (nI ru) (nI rw) (nI ca) df db sd))), (aI k (a 1) 3 (nF dn)), (aI k (a 37) 4 (nF br)), (aI k (a 40) 4 (upd fd_5 (Int32.toNatClampNeg (nI cc_1)) (nI q_5)))] := hD
          rw [nI_clamp (n := cc_1) (by omega)] at hP hD
          replace hP : va_P D classes [((a 0), .inr (8, (fX8 a (nI tx) fp (nI t0) wd (nI we) nu na (nI rd) ts (nI ru) (nI rw) (nI ca) df db sd))), (aI k (a 1) 3 (nF dn)), (aI k (a 37) 4 (nF br)), (aI k (a 40) 4 (upd fd_5 cc_1 (nI q_5)))] H := hP
          replace hD : va_D A [((a 0), .inr (8, (fX8 a (nI tx) fp (nI t0) wd (nI we) nu na (nI rd) ts (nI ru) (nI rw) (nI ca) df db sd))), (aI k (a 1) 3 (nF dn)), (aI k (a 37) 4 (nF br)), (aI k (a 40) 4 (upd fd_5 cc_1 (nI q_5)))] := hD
          have hdv_24 : dvOK (upd fd_5 cc_1 (nI q_5)) := dvOK_upd hdvl_5 cc_1 (nI q_5) (.inr ⟨q_5, by omega, rfl⟩)
          generalize (upd fd_5 cc_1 (nI q_5)) = f_24 at hP hD hdv_24
          refine lv_iinc (v := (nI q_5 - 1)) (lv' := [(5, .int (nI q_5 - 1)), (4, .int (nI cc_1)), (3, .int lf_1), (0, .ref (a 0)), (1, .int (nI sn)), (2, .int p1)]) hx hb dX8_parkAll_78 hl (k := 0) rfl (dn1 _) (by decide) rfl (fun ls hl => ?_)
          refine lv_goto (tgt := 32) hx hb dX8_parkAll_81 (by decide) ?_
          exact ih_5 _ (q_5, f_24) _ _ _ (by omega) ⟨rfl, ⟨by omega, hdv_24⟩, hP, hD, hS, (lv_sub hl [0, 1, 2, 3, 4, 5] rfl)⟩

theorem dX8_costOf_0 : decode cX8_costOf 0 = .ok (.aload_n 0, 1) := by decide +kernel
theorem dX8_costOf_1 : decode cX8_costOf 1 = .ok (.iload_n 1, 1) := by decide +kernel
theorem dX8_costOf_2 : decode cX8_costOf 2 = .ok (.iload_n 2, 1) := by decide +kernel
theorem dX8_costOf_3 : decode cX8_costOf 3 = .ok (.invokevirtual 327, 3) := by decide +kernel
theorem dX8_costOf_6 : decode cX8_costOf 6 = .ok (.aload_n 0, 1) := by decide +kernel
theorem dX8_costOf_7 : decode cX8_costOf 7 = .ok (.iload_n 1, 1) := by decide +kernel
theorem dX8_costOf_8 : decode cX8_costOf 8 = .ok (.iload_n 3, 1) := by decide +kernel
theorem dX8_costOf_9 : decode cX8_costOf 9 = .ok (.aload_n 0, 1) := by decide +kernel
theorem dX8_costOf_10 : decode cX8_costOf 10 = .ok (.getfield 90, 3) := by decide +kernel
theorem dX8_costOf_13 : decode cX8_costOf 13 = .ok (.iload_n 3, 1) := by decide +kernel
theorem dX8_costOf_14 : decode cX8_costOf 14 = .ok (.iaload, 1) := by decide +kernel
theorem dX8_costOf_15 : decode cX8_costOf 15 = .ok (.invokevirtual 330, 3) := by decide +kernel
theorem dX8_costOf_18 : decode cX8_costOf 18 = .ok (.ireturn, 1) := by decide +kernel
set_option maxHeartbeats 4000000 in
set_option maxRecDepth 100000 in
theorem m_costOf (l : Launch) (D : va_G) (k : Nat → ClassId) (st : Nat → Nat) (lo : Nat) (a : Nat → Nat) (tx : Nat) (t0 : Nat) (we : Nat) (rd : Nat) (ru : Nat) (rw : Nat) (ca : Nat) (fp : Int32) (wd : Int64) (nu : Int32) (na : Int32) (ts : Int32) (df : Int32) (db : Int32) (sd : Int32) (dn : Nat → Nat) (se : Nat → Nat) (tm : Nat → Nat) (gs : Nat → Int32) (fprices : Nat → Int32) (fwalks : Nat → Int32) (br : Nat → Nat) (fdoorsOf : Nat → Int32) (sn : Nat) (cn : Nat) (p1 : Int32) (hdn : ∀ j, dn j ≤ 24) (hca : ca ≤ 4) (hbr : ∀ j, br j ≤ 24) (hs : sn < 3) (hcn : cn < 4) (hdv : dvOK fdoorsOf) : CWi l D k st lo yX8_costOf cX8_costOf 4 (some .int) ({ frames := 4, cells := 0, slots := 0, locals := 94 }) 0 0 [.ref (a 0), .int (nI sn), .int p1, .int (nI cn)] [((a 0), .inr (8, (fX8 a (nI tx) fp (nI t0) wd (nI we) nu na (nI rd) ts (nI ru) (nI rw) (nI ca) df db sd))), (aI k (a 1) 3 (nF dn)), (aI k (a 4) 27 (sg se tm gs)), (aI k (a 3) 72 fprices), (aI k (a 36) 4 fwalks), (aI k (a 37) 4 (nF br)), (aI k (a 40) 4 fdoorsOf)] (fun (r : Int32) (fdoorsOf_ : (Nat → Int32)) => dvOK fdoorsOf_) (fun (fdoorsOf_ : (Nat → Int32)) => [((a 0), .inr (8, (fX8 a (nI tx) fp (nI t0) wd (nI we) nu na (nI rd) ts (nI ru) (nI rw) (nI ca) df db sd))), (aI k (a 1) 3 (nF dn)), (aI k (a 4) 27 (sg se tm gs)), (aI k (a 3) 72 fprices), (aI k (a 36) 4 fwalks), (aI k (a 37) 4 (nF br)), (aI k (a 40) 4 fdoorsOf_)]) := by
  intro sz
  refine Met.ofW (cc := cX8_costOf) (maxL := 4) (ret := (some .int)) (by decide) rfl ?_
  intro p e s m args below meth c s₁ B hml hv
  obtain ⟨rfl, hsz, hlo, hP, hK, hDL, hZ⟩ := hv
  have hx := B.exec
  have hb := B.bytes
  have hr := B.returns
  have hts := WS_ts B.pre
  have hown : s.vm.findClass RX8 = some m.cls := findClass_of_methodNamed B.named
  have hlocks := B.notSynchronized
  subst hsz
  have hD := hDL.self (sz := s.heap.size)
  have hAlo := A_lo hDL hlo
  generalize hAe : va_A [((a 0), .inr (8, (fX8 a (nI tx) fp (nI t0) wd (nI we) nu na (nI rd) ts (nI ru) (nI rw) (nI ca) df db sd))), (aI k (a 1) 3 (nF dn)), (aI k (a 4) 27 (sg se tm gs)), (aI k (a 3) 72 fprices), (aI k (a 36) 4 fwalks), (aI k (a 37) 4 (nF br)), (aI k (a 40) 4 fdoorsOf)] s.heap.size = A at hD hAlo ⊢
  have hA : ∀ q : Nat, s.heap.size ≤ q → A q := fun q h => by rw [← hAe]; exact Or.inr h
  have hS : va_S A s.heap s.heap [] := va_S.rf
  have hl := lv_entry ([.ref (a 0), .int (nI sn), .int p1, .int (nI cn)]) (n := 4) (Nat.le_of_ble_eq_true rfl)
  rw [lg_entry_eq]
  generalize (lg_sl ([.ref (a 0), .int (nI sn), .int p1, .int (nI cn)]) ++ List.replicate (4 - (lg_sl ([.ref (a 0), .int (nI sn), .int p1, .int (nI cn)])).length) Slot.unset).toArray = ls at hl ⊢
  have hl : lv_has ls 4 [(0, .ref (a 0)), (1, .int (nI sn)), (2, .int p1), (3, .int (nI cn))] := hl
  refine lv_aload_n hx hb dX8_costOf_0 rfl (lv_at hl 0 rfl) ?_
  refine lv_iload_n hx hb dX8_costOf_1 rfl (lv_at hl 1 rfl) ?_
  refine lv_iload_n hx hb dX8_costOf_2 rfl (lv_at hl 2 rfl) ?_
  refine rw_v (D := D) (wr := [(aI k (a 4) 27 (sg se tm gs)), (aI k (a 3) 72 fprices), (aI k (a 36) 4 fwalks)]) (va_runV (As := [.int (nI sn), .int p1]) (rest := []) ⟨hx, hb, hml, hown, hts⟩ ((m_parkAll l D k st lo a tx t0 we rd ru rw ca fp wd nu na ts df db sd dn br fdoorsOf sn p1 hdn (by first | assumption | omega) hbr (by first | assumption | omega) (by first | assumption | omega)) s.heap.size) (cwV 2 hts (gV tw_1398 tw_1400 tw_66 tw_87 tw_1401) rfl rfl rfl (by decide +kernel) ⟨Nat.le_of_ble_eq_true rfl, Nat.le_of_ble_eq_true rfl⟩) (pV hS hAlo hlo hP hK (va_Dlo hD hAlo) hZ [0, 1, 5, 6] (by decide) rfl (ci := 8) (q := (RX8, TX8, 44)) (q0 := 0) rfl rfl) rfl rfl hl.1 rfl (lv_room (Nat.le_of_ble_eq_true rfl)) dX8_costOf_3 ⟨Nat.le_of_ble_eq_true rfl, Nat.le_of_ble_eq_true rfl⟩) hS hA hP hD [0, 1, 5, 6] [2, 3, 4] rfl rfl (by decide) (by decide) (fun u H locs hw_1 hP hD hS => ?_)
  obtain ⟨fdoorsOf__1, rfl⟩ : ∃ z, z = u := ⟨_, rfl⟩
  replace hP : va_P D classes [(aI k (a 4) 27 (sg se tm gs)), (aI k (a 3) 72 fprices), (aI k (a 36) 4 fwalks), ((a 0), .inr (8, (fX8 a (nI tx) fp (nI t0) wd (nI we) nu na (nI rd) ts (nI ru) (nI rw) (nI ca) df db sd))), (aI k (a 1) 3 (nF dn)), (aI k (a 37) 4 (nF br)), (aI k (a 40) 4 fdoorsOf__1)] H := hP
  replace hD : va_D A [(aI k (a 4) 27 (sg se tm gs)), (aI k (a 3) 72 fprices), (aI k (a 36) 4 fwalks), ((a 0), .inr (8, (fX8 a (nI tx) fp (nI t0) wd (nI we) nu na (nI rd) ts (nI ru) (nI rw) (nI ca) df db sd))), (aI k (a 1) 3 (nF dn)), (aI k (a 37) 4 (nF br)), (aI k (a 40) 4 fdoorsOf__1)] := hD
  try dsimp only at hw_1
  refine lv_aload_n hx hb dX8_costOf_6 rfl (lv_at hl 0 rfl) ?_
  refine lv_iload_n hx hb dX8_costOf_7 rfl (lv_at hl 1 rfl) ?_
  refine lv_iload_n hx hb dX8_costOf_8 rfl (lv_at hl 3 rfl) ?_
  refine lv_aload_n hx hb dX8_costOf_9 rfl (lv_at hl 0 rfl) ?_
  refine va_get (D := D) (ci := 8) (v := .ref (a 40)) (C := RX8) (T := TX8) (N := 44) hx hb hts inX8 hown hK hP 3 rfl rfl 39 (by decide) (hts _ tw_1012) (fun _ h9 => h9) rfl dX8_costOf_10 ?_
  refine lv_iload_n hx hb dX8_costOf_13 rfl (lv_at hl 3 rfl) ?_
  refine va_iald hx hb hK hP 6 1 rfl rfl (vp_in_nI (by omega) (by decide)) dX8_costOf_14 ?_
  refine lv_ti (y := (fdoorsOf__1 cn)) (by rw [nI_clamp (by omega)]) ?_
  refine ro_i (D := D) (va_runV (As := [.int (nI sn), .int (nI cn), .int (fdoorsOf__1 cn)]) (rest := []) ⟨hx, hb, hml, hown, hts⟩ ((m_costAt l D k st lo a tx t0 we rd ru rw ca fp wd nu na ts df db sd dn se tm gs fprices fwalks sn cn (fdoorsOf__1 cn) (by first | assumption | omega) (by first | assumption | omega) (hw_1 _)) H.size) (cwV 3 hts (gV tw_1402 tw_1404 tw_67 tw_87 tw_1405) rfl rfl rfl (by decide +kernel) ⟨Nat.le_of_ble_eq_true rfl, Nat.le_of_ble_eq_true rfl⟩) (pV hS hAlo hlo hP hK (va_Dlo hD hAlo) hZ [3, 4, 0, 1, 2] (by decide) rfl (ci := 8) (q := (RX8, TX8, 44)) (q0 := 0) rfl rfl) rfl rfl hl.1 rfl (lv_room (Nat.le_of_ble_eq_true rfl)) dX8_costOf_15 ⟨Nat.le_of_ble_eq_true rfl, Nat.le_of_ble_eq_true rfl⟩) hS hA hP (fun r_2 H locs hw_2 hP hS => ?_)
  try dsimp only at hw_2
  have hP9 := hP.sub (ws' := [((a 0), .inr (8, (fX8 a (nI tx) fp (nI t0) wd (nI we) nu na (nI rd) ts (nI ru) (nI rw) (nI ca) df db sd))), (aI k (a 1) 3 (nF dn)), (aI k (a 4) 27 (sg se tm gs)), (aI k (a 3) 72 fprices), (aI k (a 36) 4 fwalks), (aI k (a 37) 4 (nF br)), (aI k (a 40) 4 fdoorsOf__1)]) [3, 4, 0, 1, 2, 5, 6] rfl
  have hD9 := hD.sub (ws' := [((a 0), .inr (8, (fX8 a (nI tx) fp (nI t0) wd (nI we) nu na (nI rd) ts (nI ru) (nI rw) (nI ca) df db sd))), (aI k (a 1) 3 (nF dn)), (aI k (a 4) 27 (sg se tm gs)), (aI k (a 3) 72 fprices), (aI k (a 36) 4 fwalks), (aI k (a 37) 4 (nF br)), (aI k (a 40) 4 fdoorsOf__1)]) [3, 4, 0, 1, 2, 5, 6] (by decide) rfl
  exact W.iret (v := r_2) hx hb hr (fun t ht hW => ⟨⟨r_2, fdoorsOf__1, rfl, hw_1, by rw [ht]; exact hP9, hD9⟩, hS.F ht⟩) hS.2.2 dX8_costOf_18

theorem dX8_allCosts_0 : decode cX8_allCosts 0 = .ok (.aload_n 0, 1) := by decide +kernel
theorem dX8_allCosts_1 : decode cX8_allCosts 1 = .ok (.iload_n 1, 1) := by decide +kernel
theorem dX8_allCosts_2 : decode cX8_allCosts 2 = .ok (.iload_n 2, 1) := by decide +kernel
theorem dX8_allCosts_3 : decode cX8_allCosts 3 = .ok (.invokevirtual 327, 3) := by decide +kernel
theorem dX8_allCosts_6 : decode cX8_allCosts 6 = .ok (.iconst 0, 1) := by decide +kernel
theorem dX8_allCosts_7 : decode cX8_allCosts 7 = .ok (.istore_n 3, 1) := by decide +kernel
theorem dX8_allCosts_8 : decode cX8_allCosts 8 = .ok (.iconst 0, 1) := by decide +kernel
theorem dX8_allCosts_9 : decode cX8_allCosts 9 = .ok (.istore 4, 2) := by decide +kernel
theorem dX8_allCosts_11 : decode cX8_allCosts 11 = .ok (.iload 4, 2) := by decide +kernel
theorem dX8_allCosts_13 : decode cX8_allCosts 13 = .ok (.aload_n 0, 1) := by decide +kernel
theorem dX8_allCosts_14 : decode cX8_allCosts 14 = .ok (.getfield 315, 3) := by decide +kernel
theorem dX8_allCosts_17 : decode cX8_allCosts 17 = .ok (.if_icmp .ge 26, 3) := by decide +kernel
theorem dX8_allCosts_20 : decode cX8_allCosts 20 = .ok (.iload_n 3, 1) := by decide +kernel
theorem dX8_allCosts_21 : decode cX8_allCosts 21 = .ok (.aload_n 0, 1) := by decide +kernel
theorem dX8_allCosts_22 : decode cX8_allCosts 22 = .ok (.iload_n 1, 1) := by decide +kernel
theorem dX8_allCosts_23 : decode cX8_allCosts 23 = .ok (.iload 4, 2) := by decide +kernel
theorem dX8_allCosts_25 : decode cX8_allCosts 25 = .ok (.aload_n 0, 1) := by decide +kernel
theorem dX8_allCosts_26 : decode cX8_allCosts 26 = .ok (.getfield 90, 3) := by decide +kernel
theorem dX8_allCosts_29 : decode cX8_allCosts 29 = .ok (.iload 4, 2) := by decide +kernel
theorem dX8_allCosts_31 : decode cX8_allCosts 31 = .ok (.iaload, 1) := by decide +kernel
theorem dX8_allCosts_32 : decode cX8_allCosts 32 = .ok (.invokevirtual 330, 3) := by decide +kernel
theorem dX8_allCosts_35 : decode cX8_allCosts 35 = .ok (.iadd, 1) := by decide +kernel
theorem dX8_allCosts_36 : decode cX8_allCosts 36 = .ok (.istore_n 3, 1) := by decide +kernel
theorem dX8_allCosts_37 : decode cX8_allCosts 37 = .ok (.iinc 4 1, 3) := by decide +kernel
theorem dX8_allCosts_40 : decode cX8_allCosts 40 = .ok (.goto (-29), 3) := by decide +kernel
theorem dX8_allCosts_43 : decode cX8_allCosts 43 = .ok (.iload_n 3, 1) := by decide +kernel
theorem dX8_allCosts_44 : decode cX8_allCosts 44 = .ok (.ireturn, 1) := by decide +kernel
set_option maxHeartbeats 4000000 in
set_option maxRecDepth 100000 in
theorem m_allCosts (l : Launch) (D : va_G) (k : Nat → ClassId) (st : Nat → Nat) (lo : Nat) (a : Nat → Nat) (tx : Nat) (t0 : Nat) (we : Nat) (rd : Nat) (ru : Nat) (rw : Nat) (ca : Nat) (fp : Int32) (wd : Int64) (nu : Int32) (na : Int32) (ts : Int32) (df : Int32) (db : Int32) (sd : Int32) (dn : Nat → Nat) (se : Nat → Nat) (tm : Nat → Nat) (gs : Nat → Int32) (fprices : Nat → Int32) (fwalks : Nat → Int32) (br : Nat → Nat) (fdoorsOf : Nat → Int32) (sn : Nat) (p1 : Int32) (hdn : ∀ j, dn j ≤ 24) (hca : ca ≤ 4) (hbr : ∀ j, br j ≤ 24) (hs : sn < 3) (hdv : dvOK fdoorsOf) : CWi l D k st lo yX8_allCosts cX8_allCosts 5 (some .int) ({ frames := 4, cells := 0, slots := 0, locals := 94 }) 0 0 [.ref (a 0), .int (nI sn), .int p1] [((a 0), .inr (8, (fX8 a (nI tx) fp (nI t0) wd (nI we) nu na (nI rd) ts (nI ru) (nI rw) (nI ca) df db sd))), (aI k (a 1) 3 (nF dn)), (aI k (a 4) 27 (sg se tm gs)), (aI k (a 3) 72 fprices), (aI k (a 36) 4 fwalks), (aI k (a 37) 4 (nF br)), (aI k (a 40) 4 fdoorsOf)] (fun (r : Int32) (fdoorsOf_ : (Nat → Int32)) => dvOK fdoorsOf_) (fun (fdoorsOf_ : (Nat → Int32)) => [((a 0), .inr (8, (fX8 a (nI tx) fp (nI t0) wd (nI we) nu na (nI rd) ts (nI ru) (nI rw) (nI ca) df db sd))), (aI k (a 1) 3 (nF dn)), (aI k (a 4) 27 (sg se tm gs)), (aI k (a 3) 72 fprices), (aI k (a 36) 4 fwalks), (aI k (a 37) 4 (nF br)), (aI k (a 40) 4 fdoorsOf_)]) := by
  intro sz
  refine Met.ofW (cc := cX8_allCosts) (maxL := 5) (ret := (some .int)) (by decide) rfl ?_
  intro p e s m args below meth c s₁ B hml hv
  obtain ⟨rfl, hsz, hlo, hP, hK, hDL, hZ⟩ := hv
  have hx := B.exec
  have hb := B.bytes
  have hr := B.returns
  have hts := WS_ts B.pre
  have hown : s.vm.findClass RX8 = some m.cls := findClass_of_methodNamed B.named
  have hlocks := B.notSynchronized
  subst hsz
  have hD := hDL.self (sz := s.heap.size)
  have hAlo := A_lo hDL hlo
  generalize hAe : va_A [((a 0), .inr (8, (fX8 a (nI tx) fp (nI t0) wd (nI we) nu na (nI rd) ts (nI ru) (nI rw) (nI ca) df db sd))), (aI k (a 1) 3 (nF dn)), (aI k (a 4) 27 (sg se tm gs)), (aI k (a 3) 72 fprices), (aI k (a 36) 4 fwalks), (aI k (a 37) 4 (nF br)), (aI k (a 40) 4 fdoorsOf)] s.heap.size = A at hD hAlo ⊢
  have hA : ∀ q : Nat, s.heap.size ≤ q → A q := fun q h => by rw [← hAe]; exact Or.inr h
  have hS : va_S A s.heap s.heap [] := va_S.rf
  have hl := lv_entry ([.ref (a 0), .int (nI sn), .int p1]) (n := 5) (Nat.le_of_ble_eq_true rfl)
  rw [lg_entry_eq]
  generalize (lg_sl ([.ref (a 0), .int (nI sn), .int p1]) ++ List.replicate (5 - (lg_sl ([.ref (a 0), .int (nI sn), .int p1])).length) Slot.unset).toArray = ls at hl ⊢
  have hl : lv_has ls 5 [(0, .ref (a 0)), (1, .int (nI sn)), (2, .int p1)] := hl
  refine lv_aload_n hx hb dX8_allCosts_0 rfl (lv_at hl 0 rfl) ?_
  refine lv_iload_n hx hb dX8_allCosts_1 rfl (lv_at hl 1 rfl) ?_
  refine lv_iload_n hx hb dX8_allCosts_2 rfl (lv_at hl 2 rfl) ?_
  refine rw_v (D := D) (wr := [(aI k (a 4) 27 (sg se tm gs)), (aI k (a 3) 72 fprices), (aI k (a 36) 4 fwalks)]) (va_runV (As := [.int (nI sn), .int p1]) (rest := []) ⟨hx, hb, hml, hown, hts⟩ ((m_parkAll l D k st lo a tx t0 we rd ru rw ca fp wd nu na ts df db sd dn br fdoorsOf sn p1 hdn (by first | assumption | omega) hbr (by first | assumption | omega) (by first | assumption | omega)) s.heap.size) (cwV 2 hts (gV tw_1398 tw_1400 tw_66 tw_87 tw_1401) rfl rfl rfl (by decide +kernel) ⟨Nat.le_of_ble_eq_true rfl, Nat.le_of_ble_eq_true rfl⟩) (pV hS hAlo hlo hP hK (va_Dlo hD hAlo) hZ [0, 1, 5, 6] (by decide) rfl (ci := 8) (q := (RX8, TX8, 44)) (q0 := 0) rfl rfl) rfl rfl hl.1 rfl (lv_room (Nat.le_of_ble_eq_true rfl)) dX8_allCosts_3 ⟨Nat.le_of_ble_eq_true rfl, Nat.le_of_ble_eq_true rfl⟩) hS hA hP hD [0, 1, 5, 6] [2, 3, 4] rfl rfl (by decide) (by decide) (fun u H locs hw_1 hP hD hS => ?_)
  obtain ⟨fdoorsOf__1, rfl⟩ : ∃ z, z = u := ⟨_, rfl⟩
  replace hP : va_P D classes [(aI k (a 4) 27 (sg se tm gs)), (aI k (a 3) 72 fprices), (aI k (a 36) 4 fwalks), ((a 0), .inr (8, (fX8 a (nI tx) fp (nI t0) wd (nI we) nu na (nI rd) ts (nI ru) (nI rw) (nI ca) df db sd))), (aI k (a 1) 3 (nF dn)), (aI k (a 37) 4 (nF br)), (aI k (a 40) 4 fdoorsOf__1)] H := hP
  replace hD : va_D A [(aI k (a 4) 27 (sg se tm gs)), (aI k (a 3) 72 fprices), (aI k (a 36) 4 fwalks), ((a 0), .inr (8, (fX8 a (nI tx) fp (nI t0) wd (nI we) nu na (nI rd) ts (nI ru) (nI rw) (nI ca) df db sd))), (aI k (a 1) 3 (nF dn)), (aI k (a 37) 4 (nF br)), (aI k (a 40) 4 fdoorsOf__1)] := hD
  try dsimp only at hw_1
  refine lv_iconst (v := 0) hx hb dX8_allCosts_6 (by decide) ?_
  refine lv_istore_n (lv' := [(3, .int 0), (0, .ref (a 0)), (1, .int (nI sn)), (2, .int p1)]) hx hb dX8_allCosts_7 rfl hl (by decide) rfl (fun ls hl => ?_)
  refine lv_iconst (v := 0) hx hb dX8_allCosts_8 (by decide) ?_
  refine lv_istore (lv' := [(4, .int 0), (3, .int 0), (0, .ref (a 0)), (1, .int (nI sn)), (2, .int p1)]) hx hb dX8_allCosts_9 hl (by decide) rfl (fun ls hl => ?_)
  refine W_loop (σ := Nat × Int32) (fun (n_ : Nat) (x_ : Nat × Int32) (H : Heap) (locs : List Loc) (ls : Array Slot) => match x_ with | (cc_2, su_2) => n_ = 4 - cc_2 ∧ (cc_2 ≤ 4) ∧ va_P D classes [(aI k (a 4) 27 (sg se tm gs)), (aI k (a 3) 72 fprices), (aI k (a 36) 4 fwalks), ((a 0), .inr (8, (fX8 a (nI tx) fp (nI t0) wd (nI we) nu na (nI rd) ts (nI ru) (nI rw) (nI ca) df db sd))), (aI k (a 1) 3 (nF dn)), (aI k (a 37) 4 (nF br)), (aI k (a 40) 4 fdoorsOf__1)] H ∧ va_D A [(aI k (a 4) 27 (sg se tm gs)), (aI k (a 3) 72 fprices), (aI k (a 36) 4 fwalks), ((a 0), .inr (8, (fX8 a (nI tx) fp (nI t0) wd (nI we) nu na (nI rd) ts (nI ru) (nI rw) (nI ca) df db sd))), (aI k (a 1) 3 (nF dn)), (aI k (a 37) 4 (nF br)), (aI k (a 40) 4 fdoorsOf__1)] ∧ va_S A s.heap H locs ∧ lv_has ls 5 [(4, .int (nI cc_2)), (3, .int su_2), (0, .ref (a 0)), (1, .int (nI sn)), (2, .int p1)]) (fun n_2 x_2 H locs ls hI ih_2 => ?_) _ (0, 0) ⟨rfl, (by omega), hP, hD, hS, (lv_sub hl [0, 1, 2, 3, 4] rfl)⟩
  obtain ⟨cc_2, su_2⟩ := x_2
  obtain ⟨hm_2, hv_2, hP, hD, hS, hl⟩ := hI
  subst hm_2
  refine lv_iload hx hb dX8_allCosts_11 (lv_at hl 0 rfl) ?_
  refine lv_aload_n hx hb dX8_allCosts_13 rfl (lv_at hl 2 rfl) ?_
  refine va_get (D := D) (ci := 8) (v := .int (nI ca)) (C := RX8) (T := TX8) (N := 44) hx hb hts inX8 hown hK hP 3 rfl rfl 34 (by decide) (hts _ tw_1007) (fun _ h9 => h9) rfl dX8_allCosts_14 ?_
  refine lv_icmp_ge (tgt := 43) hx hb dX8_allCosts_17 (by decide) (fun c_3 => ?_) (fun c_3 => ?_)
  · have c_3 := (nI_leI (a := ca) (b := cc_2) (by omega) (by omega)).mp c_3
    refine lv_iload_n hx hb dX8_allCosts_43 rfl (lv_at hl 1 rfl) ?_
    have hP9 := hP.sub (ws' := [((a 0), .inr (8, (fX8 a (nI tx) fp (nI t0) wd (nI we) nu na (nI rd) ts (nI ru) (nI rw) (nI ca) df db sd))), (aI k (a 1) 3 (nF dn)), (aI k (a 4) 27 (sg se tm gs)), (aI k (a 3) 72 fprices), (aI k (a 36) 4 fwalks), (aI k (a 37) 4 (nF br)), (aI k (a 40) 4 fdoorsOf__1)]) [3, 4, 0, 1, 2, 5, 6] rfl
    have hD9 := hD.sub (ws' := [((a 0), .inr (8, (fX8 a (nI tx) fp (nI t0) wd (nI we) nu na (nI rd) ts (nI ru) (nI rw) (nI ca) df db sd))), (aI k (a 1) 3 (nF dn)), (aI k (a 4) 27 (sg se tm gs)), (aI k (a 3) 72 fprices), (aI k (a 36) 4 fwalks), (aI k (a 37) 4 (nF br)), (aI k (a 40) 4 fdoorsOf__1)]) [3, 4, 0, 1, 2, 5, 6] (by decide) rfl
    exact W.iret (v := su_2) hx hb hr (fun t ht hW => ⟨⟨su_2, fdoorsOf__1, rfl, hw_1, by rw [ht]; exact hP9, hD9⟩, hS.F ht⟩) hS.2.2 dX8_allCosts_44
  · have c_3 : ¬ (ca ≤ cc_2) := fun h => c_3 ((nI_leI (a := ca) (b := cc_2) (by omega) (by omega)).mpr h)
    refine lv_iload_n hx hb dX8_allCosts_20 rfl (lv_at hl 1 rfl) ?_
    refine lv_aload_n hx hb dX8_allCosts_21 rfl (lv_at hl 2 rfl) ?_
    refine lv_iload_n hx hb dX8_allCosts_22 rfl (lv_at hl 3 rfl) ?_
    refine lv_iload hx hb dX8_allCosts_23 (lv_at hl 0 rfl) ?_
    refine lv_aload_n hx hb dX8_allCosts_25 rfl (lv_at hl 2 rfl) ?_
    refine va_get (D := D) (ci := 8) (v := .ref (a 40)) (C := RX8) (T := TX8) (N := 44) hx hb hts inX8 hown hK hP 3 rfl rfl 39 (by decide) (hts _ tw_1012) (fun _ h9 => h9) rfl dX8_allCosts_26 ?_
    refine lv_iload hx hb dX8_allCosts_29 (lv_at hl 0 rfl) ?_
    refine va_iald hx hb hK hP 6 1 rfl rfl (vp_in_nI (by omega) (by decide)) dX8_allCosts_31 ?_
    refine lv_ti (y := (fdoorsOf__1 cc_2)) (by rw [nI_clamp (by omega)]) ?_
    refine ro_i (D := D) (va_runV (As := [.int (nI sn), .int (nI cc_2), .int (fdoorsOf__1 cc_2)]) (rest := [.int su_2]) ⟨hx, hb, hml, hown, hts⟩ ((m_costAt l D k st lo a tx t0 we rd ru rw ca fp wd nu na ts df db sd dn se tm gs fprices fwalks sn cc_2 (fdoorsOf__1 cc_2) (by first | assumption | omega) (by first | assumption | omega) (hw_1 _)) H.size) (cwV 3 hts (gV tw_1402 tw_1404 tw_67 tw_87 tw_1405) rfl rfl rfl (by decide +kernel) ⟨Nat.le_of_ble_eq_true rfl, Nat.le_of_ble_eq_true rfl⟩) (pV hS hAlo hlo hP hK (va_Dlo hD hAlo) hZ [3, 4, 0, 1, 2] (by decide) rfl (ci := 8) (q := (RX8, TX8, 44)) (q0 := 0) rfl rfl) rfl rfl hl.1 rfl (lv_room (Nat.le_of_ble_eq_true rfl)) dX8_allCosts_32 ⟨Nat.le_of_ble_eq_true rfl, Nat.le_of_ble_eq_true rfl⟩) hS hA hP (fun r_4 H locs hw_4 hP hS => ?_)
    try dsimp only at hw_4
    refine lv_iadd hx hb dX8_allCosts_35 ?_
    refine lv_topi (fun x_5 ex_5 => ?_)
    refine lv_istore_n (lv' := [(3, .int x_5), (4, .int (nI cc_2)), (0, .ref (a 0)), (1, .int (nI sn)), (2, .int p1)]) hx hb dX8_allCosts_36 rfl hl (by decide) rfl (fun ls hl => ?_)
    refine lv_iinc (v := (nI (cc_2 + 1))) (lv' := [(4, .int (nI (cc_2 + 1))), (3, .int x_5), (0, .ref (a 0)), (1, .int (nI sn)), (2, .int p1)]) hx hb dX8_allCosts_37 hl (k := 1) rfl (nI_add cc_2 1) (by decide) rfl (fun ls hl => ?_)
    refine lv_goto (tgt := 11) hx hb dX8_allCosts_40 (by decide) ?_
    exact ih_2 _ (cc_2 + 1, x_5) _ _ _ (by omega) ⟨rfl, (by omega), hP, hD, hS, (lv_sub hl [0, 1, 2, 3, 4] rfl)⟩

theorem dX8_parks_0 : decode cX8_parks 0 = .ok (.aload_n 0, 1) := by decide +kernel
theorem dX8_parks_1 : decode cX8_parks 1 = .ok (.iload_n 1, 1) := by decide +kernel
theorem dX8_parks_2 : decode cX8_parks 2 = .ok (.invokevirtual 206, 3) := by decide +kernel
theorem dX8_parks_5 : decode cX8_parks 5 = .ok (.ifCond .eq 11, 3) := by decide +kernel
theorem dX8_parks_8 : decode cX8_parks 8 = .ok (.aload_n 0, 1) := by decide +kernel
theorem dX8_parks_9 : decode cX8_parks 9 = .ok (.iload_n 3, 1) := by decide +kernel
theorem dX8_parks_10 : decode cX8_parks 10 = .ok (.invokevirtual 318, 3) := by decide +kernel
theorem dX8_parks_13 : decode cX8_parks 13 = .ok (.ifCond .ne 7, 3) := by decide +kernel
theorem dX8_parks_16 : decode cX8_parks 16 = .ok (.sipush (-1001), 3) := by decide +kernel
theorem dX8_parks_19 : decode cX8_parks 19 = .ok (.ireturn, 1) := by decide +kernel
theorem dX8_parks_20 : decode cX8_parks 20 = .ok (.aload_n 0, 1) := by decide +kernel
theorem dX8_parks_21 : decode cX8_parks 21 = .ok (.iload_n 1, 1) := by decide +kernel
theorem dX8_parks_22 : decode cX8_parks 22 = .ok (.iload_n 2, 1) := by decide +kernel
theorem dX8_parks_23 : decode cX8_parks 23 = .ok (.invokevirtual 333, 3) := by decide +kernel
theorem dX8_parks_26 : decode cX8_parks 26 = .ok (.ifCond .eq 14, 3) := by decide +kernel
theorem dX8_parks_29 : decode cX8_parks 29 = .ok (.iload 4, 2) := by decide +kernel
theorem dX8_parks_31 : decode cX8_parks 31 = .ok (.i2l, 1) := by decide +kernel
theorem dX8_parks_32 : decode cX8_parks 32 = .ok (.lconst 0, 1) := by decide +kernel
theorem dX8_parks_33 : decode cX8_parks 33 = .ok (.lconst 1, 1) := by decide +kernel
theorem dX8_parks_34 : decode cX8_parks 34 = .ok (.invokestatic 107, 3) := by decide +kernel
theorem dX8_parks_37 : decode cX8_parks 37 = .ok (.ifCond .ne 7, 3) := by decide +kernel
theorem dX8_parks_40 : decode cX8_parks 40 = .ok (.sipush (-1002), 3) := by decide +kernel
theorem dX8_parks_43 : decode cX8_parks 43 = .ok (.ireturn, 1) := by decide +kernel
theorem dX8_parks_44 : decode cX8_parks 44 = .ok (.aload_n 0, 1) := by decide +kernel
theorem dX8_parks_45 : decode cX8_parks 45 = .ok (.iload_n 1, 1) := by decide +kernel
theorem dX8_parks_46 : decode cX8_parks 46 = .ok (.iload_n 2, 1) := by decide +kernel
theorem dX8_parks_47 : decode cX8_parks 47 = .ok (.iload_n 3, 1) := by decide +kernel
theorem dX8_parks_48 : decode cX8_parks 48 = .ok (.invokevirtual 336, 3) := by decide +kernel
theorem dX8_parks_51 : decode cX8_parks 51 = .ok (.istore 5, 2) := by decide +kernel
theorem dX8_parks_53 : decode cX8_parks 53 = .ok (.iload 4, 2) := by decide +kernel
theorem dX8_parks_55 : decode cX8_parks 55 = .ok (.ifCond .ne 12, 3) := by decide +kernel
theorem dX8_parks_58 : decode cX8_parks 58 = .ok (.aload_n 0, 1) := by decide +kernel
theorem dX8_parks_59 : decode cX8_parks 59 = .ok (.getfield 90, 3) := by decide +kernel
theorem dX8_parks_62 : decode cX8_parks 62 = .ok (.iload_n 3, 1) := by decide +kernel
theorem dX8_parks_63 : decode cX8_parks 63 = .ok (.iaload, 1) := by decide +kernel
theorem dX8_parks_64 : decode cX8_parks 64 = .ok (.goto 5, 3) := by decide +kernel
theorem dX8_parks_67 : decode cX8_parks 67 = .ok (.iload 5, 2) := by decide +kernel
theorem dX8_parks_69 : decode cX8_parks 69 = .ok (.ireturn, 1) := by decide +kernel
set_option maxHeartbeats 4000000 in
set_option maxRecDepth 100000 in
theorem m_parks (l : Launch) (D : va_G) (k : Nat → ClassId) (st : Nat → Nat) (lo : Nat) (a : Nat → Nat) (tx : Nat) (t0 : Nat) (we : Nat) (rd : Nat) (ru : Nat) (rw : Nat) (ca : Nat) (fp : Int32) (wd : Int64) (nu : Int32) (na : Int32) (ts : Int32) (df : Int32) (db : Int32) (sd : Int32) (dn : Nat → Nat) (se : Nat → Nat) (tm : Nat → Nat) (gs : Nat → Int32) (fprices : Nat → Int32) (fwalks : Nat → Int32) (br : Nat → Nat) (fdoorsOf : Nat → Int32) (p0 : Int32) (p1 : Int32) (p2 : Int32) (p3 : Int32) (hdn : ∀ j, dn j ≤ 24) (hca : ca ≤ 4) (hbr : ∀ j, br j ≤ 24) (hdv : dvOK fdoorsOf) : CWi l D k st lo yX8_parks cX8_parks 6 (some .int) ({ frames := 5, cells := 0, slots := 0, locals := 117 }) 0 0 [.ref (a 0), .int p0, .int p1, .int p2, .int p3] [((a 0), .inr (8, (fX8 a (nI tx) fp (nI t0) wd (nI we) nu na (nI rd) ts (nI ru) (nI rw) (nI ca) df db sd))), (aI k (a 1) 3 (nF dn)), (aI k (a 4) 27 (sg se tm gs)), (aI k (a 3) 72 fprices), (aI k (a 36) 4 fwalks), (aI k (a 37) 4 (nF br)), (aI k (a 40) 4 fdoorsOf)] (fun (r : Int32) (fdoorsOf_ : (Nat → Int32)) => dvOK fdoorsOf_) (fun (fdoorsOf_ : (Nat → Int32)) => [((a 0), .inr (8, (fX8 a (nI tx) fp (nI t0) wd (nI we) nu na (nI rd) ts (nI ru) (nI rw) (nI ca) df db sd))), (aI k (a 1) 3 (nF dn)), (aI k (a 4) 27 (sg se tm gs)), (aI k (a 3) 72 fprices), (aI k (a 36) 4 fwalks), (aI k (a 37) 4 (nF br)), (aI k (a 40) 4 fdoorsOf_)]) := by
  intro sz
  refine Met.ofW (cc := cX8_parks) (maxL := 6) (ret := (some .int)) (by decide) rfl ?_
  intro p e s m args below meth c s₁ B hml hv
  obtain ⟨rfl, hsz, hlo, hP, hK, hDL, hZ⟩ := hv
  have hx := B.exec
  have hb := B.bytes
  have hr := B.returns
  have hts := WS_ts B.pre
  have hown : s.vm.findClass RX8 = some m.cls := findClass_of_methodNamed B.named
  have hlocks := B.notSynchronized
  subst hsz
  have hD := hDL.self (sz := s.heap.size)
  have hAlo := A_lo hDL hlo
  generalize hAe : va_A [((a 0), .inr (8, (fX8 a (nI tx) fp (nI t0) wd (nI we) nu na (nI rd) ts (nI ru) (nI rw) (nI ca) df db sd))), (aI k (a 1) 3 (nF dn)), (aI k (a 4) 27 (sg se tm gs)), (aI k (a 3) 72 fprices), (aI k (a 36) 4 fwalks), (aI k (a 37) 4 (nF br)), (aI k (a 40) 4 fdoorsOf)] s.heap.size = A at hD hAlo ⊢
  have hA : ∀ q : Nat, s.heap.size ≤ q → A q := fun q h => by rw [← hAe]; exact Or.inr h
  have hS : va_S A s.heap s.heap [] := va_S.rf
  have hl := lv_entry ([.ref (a 0), .int p0, .int p1, .int p2, .int p3]) (n := 6) (Nat.le_of_ble_eq_true rfl)
  rw [lg_entry_eq]
  generalize (lg_sl ([.ref (a 0), .int p0, .int p1, .int p2, .int p3]) ++ List.replicate (6 - (lg_sl ([.ref (a 0), .int p0, .int p1, .int p2, .int p3])).length) Slot.unset).toArray = ls at hl ⊢
  have hl : lv_has ls 6 [(0, .ref (a 0)), (1, .int p0), (2, .int p1), (3, .int p2), (4, .int p3)] := hl
  refine lv_aload_n hx hb dX8_parks_0 rfl (lv_at hl 0 rfl) ?_
  refine lv_iload_n hx hb dX8_parks_1 rfl (lv_at hl 1 rfl) ?_
  refine ro_i (D := D) (va_runV (As := [.int p0]) (rest := []) ⟨hx, hb, hml, hown, hts⟩ ((m_isStreet l D k st lo a tx t0 we rd ru rw ca fp wd nu na ts df db sd dn p0 hdn) s.heap.size) (cwV 1 hts (gV tw_1189 tw_1191 tw_38 tw_87 tw_1192) rfl rfl rfl (by decide +kernel) ⟨Nat.le_of_ble_eq_true rfl, Nat.le_of_ble_eq_true rfl⟩) (pV hS hAlo hlo hP hK (va_Dlo hD hAlo) hZ [0, 1] (by decide) rfl (ci := 8) (q := (RX8, TX8, 44)) (q0 := 0) rfl rfl) rfl rfl hl.1 rfl (lv_room (Nat.le_of_ble_eq_true rfl)) dX8_parks_2 ⟨Nat.le_of_ble_eq_true rfl, Nat.le_of_ble_eq_true rfl⟩) hS hA hP (fun r_1 H locs hw_1 hP hS => ?_)
  try dsimp only at hw_1
  rcases hw_1 with ⟨rfl, j_2, hj_2, rfl, hw_1⟩ | rfl
  · have hdj_2 := hdn j_2
    refine lv_if_eq (tgt := 16) hx hb dX8_parks_5 (by decide) (fun h => absurd h (by decide)) (fun _ => ?_)
    refine lv_aload_n hx hb dX8_parks_8 rfl (lv_at hl 0 rfl) ?_
    refine lv_iload_n hx hb dX8_parks_9 rfl (lv_at hl 3 rfl) ?_
    refine ro_i (D := D) (va_runV (As := [.int p2]) (rest := []) ⟨hx, hb, hml, hown, hts⟩ ((m_isCar l D k st lo a tx t0 we rd ru rw ca fp wd nu na ts df db sd p2 (by first | assumption | omega)) H.size) (cwV 1 hts (gV tw_1382 tw_1384 tw_63 tw_87 tw_1385) rfl rfl rfl (by decide +kernel) ⟨Nat.le_of_ble_eq_true rfl, Nat.le_of_ble_eq_true rfl⟩) (pV hS hAlo hlo hP hK (va_Dlo hD hAlo) hZ [0] (by decide) rfl (ci := 8) (q := (RX8, TX8, 44)) (q0 := 0) rfl rfl) rfl rfl hl.1 rfl (lv_room (Nat.le_of_ble_eq_true rfl)) dX8_parks_10 ⟨Nat.le_of_ble_eq_true rfl, Nat.le_of_ble_eq_true rfl⟩) hS hA hP (fun r_3 H locs hw_3 hP hS => ?_)
    try dsimp only at hw_3
    rcases hw_3 with ⟨rfl, j_4, hj_4, rfl, hw_3⟩ | rfl
    · refine lv_if_ne (tgt := 20) hx hb dX8_parks_13 (by decide) (fun _ => ?_) (fun h => absurd h (by decide))
      refine lv_aload_n hx hb dX8_parks_20 rfl (lv_at hl 0 rfl) ?_
      refine lv_iload_n hx hb dX8_parks_21 rfl (lv_at hl 1 rfl) ?_
      refine lv_iload_n hx hb dX8_parks_22 rfl (lv_at hl 2 rfl) ?_
      refine ro_i (D := D) (va_runV (As := [.int (nI j_2), .int p1]) (rest := []) ⟨hx, hb, hml, hown, hts⟩ ((m_isSet l D k st lo a tx t0 we rd ru rw ca fp wd nu na ts df db sd dn j_2 p1 hdn (by first | assumption | omega)) H.size) (cwV 2 hts (gV tw_1390 tw_1392 tw_64 tw_87 tw_1393) rfl rfl rfl (by decide +kernel) ⟨Nat.le_of_ble_eq_true rfl, Nat.le_of_ble_eq_true rfl⟩) (pV hS hAlo hlo hP hK (va_Dlo hD hAlo) hZ [0, 1] (by decide) rfl (ci := 8) (q := (RX8, TX8, 44)) (q0 := 0) rfl rfl) rfl rfl hl.1 rfl (lv_room (Nat.le_of_ble_eq_true rfl)) dX8_parks_23 ⟨Nat.le_of_ble_eq_true rfl, Nat.le_of_ble_eq_true rfl⟩) hS hA hP (fun r_5 H locs hw_5 hP hS => ?_)
      try dsimp only at hw_5
      refine lv_if_eq (tgt := 40) hx hb dX8_parks_26 (by decide) (fun c_6 => ?_) (fun c_6 => ?_)
      · refine lv_sipush (v := (-1002)) hx hb dX8_parks_40 (by decide) ?_
        have hP9 := hP.sub (ws' := [((a 0), .inr (8, (fX8 a (nI tx) fp (nI t0) wd (nI we) nu na (nI rd) ts (nI ru) (nI rw) (nI ca) df db sd))), (aI k (a 1) 3 (nF dn)), (aI k (a 4) 27 (sg se tm gs)), (aI k (a 3) 72 fprices), (aI k (a 36) 4 fwalks), (aI k (a 37) 4 (nF br)), (aI k (a 40) 4 fdoorsOf)]) [0, 1, 2, 3, 4, 5, 6] rfl
        have hD9 := hD.sub (ws' := [((a 0), .inr (8, (fX8 a (nI tx) fp (nI t0) wd (nI we) nu na (nI rd) ts (nI ru) (nI rw) (nI ca) df db sd))), (aI k (a 1) 3 (nF dn)), (aI k (a 4) 27 (sg se tm gs)), (aI k (a 3) 72 fprices), (aI k (a 36) 4 fwalks), (aI k (a 37) 4 (nF br)), (aI k (a 40) 4 fdoorsOf)]) [0, 1, 2, 3, 4, 5, 6] (by decide) rfl
        exact W.iret (v := (-1002)) hx hb hr (fun t ht hW => ⟨⟨(-1002), fdoorsOf, rfl, hdv, by rw [ht]; exact hP9, hD9⟩, hS.F ht⟩) hS.2.2 dX8_parks_43
      · refine lv_iload hx hb dX8_parks_29 (lv_at hl 4 rfl) ?_
        refine lv_i2l (v := p3.toInt64) hx hb dX8_parks_31 rfl ?_
        refine lv_lconst (v := (0 : Int32).toInt64) hx hb dX8_parks_32 (by decide) ?_
        refine lv_lconst (v := (1 : Int32).toInt64) hx hb dX8_parks_33 (by decide) ?_
        refine ro_i (D := D) (va_runS (As := [.long (p3.toInt64), .long ((0 : Int32).toInt64), .long ((1 : Int32).toInt64)]) (rest := []) ⟨hx, hb, hml, hown, hts⟩ ((k_in l D k st lo p3 (0 : Int32) (1 : Int32)) H.size) (va_cwS 3 hts (gS tw_1111 tw_1112 tw_87 tw_1113) rfl rfl rfl (by decide +kernel) ⟨Nat.le_of_ble_eq_true rfl, Nat.le_of_ble_eq_true rfl⟩) (pS hS hAlo hlo hP hK (va_Dlo hD hAlo) hZ [] (by decide) rfl) rfl rfl hl.1 rfl (lv_room (Nat.le_of_ble_eq_true rfl)) dX8_parks_34 ⟨Nat.le_of_ble_eq_true rfl, Nat.le_of_ble_eq_true rfl⟩) hS hA hP (fun r_7 H locs hw_7 hP hS => ?_)
        try dsimp only at hw_7
        rcases hw_7 with ⟨rfl, hw_7⟩ | ⟨rfl, hw_7⟩
        · refine lv_if_ne (tgt := 44) hx hb dX8_parks_37 (by decide) (fun _ => ?_) (fun h => absurd h (by decide))
          refine lv_aload_n hx hb dX8_parks_44 rfl (lv_at hl 0 rfl) ?_
          refine lv_iload_n hx hb dX8_parks_45 rfl (lv_at hl 1 rfl) ?_
          refine lv_iload_n hx hb dX8_parks_46 rfl (lv_at hl 2 rfl) ?_
          refine lv_iload_n hx hb dX8_parks_47 rfl (lv_at hl 3 rfl) ?_
          refine rw_i (D := D) (wr := []) (va_runV (As := [.int (nI j_2), .int p1, .int (nI j_4)]) (rest := []) ⟨hx, hb, hml, hown, hts⟩ ((m_costOf l D k st lo a tx t0 we rd ru rw ca fp wd nu na ts df db sd dn se tm gs fprices fwalks br fdoorsOf j_2 j_4 p1 hdn (by first | assumption | omega) hbr (by first | assumption | omega) (by first | assumption | omega) hdv) H.size) (cwV 3 hts (gV tw_1394 tw_1396 tw_65 tw_87 tw_1397) rfl rfl rfl (by decide +kernel) ⟨Nat.le_of_ble_eq_true rfl, Nat.le_of_ble_eq_true rfl⟩) (pV hS hAlo hlo hP hK (va_Dlo hD hAlo) hZ [0, 1, 2, 3, 4, 5, 6] (by decide) rfl (ci := 8) (q := (RX8, TX8, 44)) (q0 := 0) rfl rfl) rfl rfl hl.1 rfl (lv_room (Nat.le_of_ble_eq_true rfl)) dX8_parks_48 ⟨Nat.le_of_ble_eq_true rfl, Nat.le_of_ble_eq_true rfl⟩) hS hA hP hD [0, 1, 2, 3, 4, 5, 6] [] rfl rfl (by decide) (by decide) (fun r_8 u H locs hw_8 hP hD hS => ?_)
          obtain ⟨fdoorsOf__8, rfl⟩ : ∃ z, z = u := ⟨_, rfl⟩
          replace hP : va_P D classes [((a 0), .inr (8, (fX8 a (nI tx) fp (nI t0) wd (nI we) nu na (nI rd) ts (nI ru) (nI rw) (nI ca) df db sd))), (aI k (a 1) 3 (nF dn)), (aI k (a 4) 27 (sg se tm gs)), (aI k (a 3) 72 fprices), (aI k (a 36) 4 fwalks), (aI k (a 37) 4 (nF br)), (aI k (a 40) 4 fdoorsOf__8)] H := hP
          replace hD : va_D A [((a 0), .inr (8, (fX8 a (nI tx) fp (nI t0) wd (nI we) nu na (nI rd) ts (nI ru) (nI rw) (nI ca) df db sd))), (aI k (a 1) 3 (nF dn)), (aI k (a 4) 27 (sg se tm gs)), (aI k (a 3) 72 fprices), (aI k (a 36) 4 fwalks), (aI k (a 37) 4 (nF br)), (aI k (a 40) 4 fdoorsOf__8)] := hD
          try dsimp only at hw_8
          refine lv_istore (lv' := [(5, .int r_8), (0, .ref (a 0)), (1, .int (nI j_2)), (2, .int p1), (3, .int (nI j_4)), (4, .int p3)]) hx hb dX8_parks_51 hl (by decide) rfl (fun ls hl => ?_)
          refine lv_iload hx hb dX8_parks_53 (lv_at hl 5 rfl) ?_
          refine lv_if_ne (tgt := 67) hx hb dX8_parks_55 (by decide) (fun c_9 => ?_) (fun c_9 => ?_)
          · refine lv_iload hx hb dX8_parks_67 (lv_at hl 0 rfl) ?_
            have hP9 := hP.sub (ws' := [((a 0), .inr (8, (fX8 a (nI tx) fp (nI t0) wd (nI we) nu na (nI rd) ts (nI ru) (nI rw) (nI ca) df db sd))), (aI k (a 1) 3 (nF dn)), (aI k (a 4) 27 (sg se tm gs)), (aI k (a 3) 72 fprices), (aI k (a 36) 4 fwalks), (aI k (a 37) 4 (nF br)), (aI k (a 40) 4 fdoorsOf__8)]) [0, 1, 2, 3, 4, 5, 6] rfl
            have hD9 := hD.sub (ws' := [((a 0), .inr (8, (fX8 a (nI tx) fp (nI t0) wd (nI we) nu na (nI rd) ts (nI ru) (nI rw) (nI ca) df db sd))), (aI k (a 1) 3 (nF dn)), (aI k (a 4) 27 (sg se tm gs)), (aI k (a 3) 72 fprices), (aI k (a 36) 4 fwalks), (aI k (a 37) 4 (nF br)), (aI k (a 40) 4 fdoorsOf__8)]) [0, 1, 2, 3, 4, 5, 6] (by decide) rfl
            exact W.iret (v := r_8) hx hb hr (fun t ht hW => ⟨⟨r_8, fdoorsOf__8, rfl, hw_8, by rw [ht]; exact hP9, hD9⟩, hS.F ht⟩) hS.2.2 dX8_parks_69
          · refine lv_aload_n hx hb dX8_parks_58 rfl (lv_at hl 1 rfl) ?_
            refine va_get (D := D) (ci := 8) (v := .ref (a 40)) (C := RX8) (T := TX8) (N := 44) hx hb hts inX8 hown hK hP 0 rfl rfl 39 (by decide) (hts _ tw_1012) (fun _ h9 => h9) rfl dX8_parks_59 ?_
            refine lv_iload_n hx hb dX8_parks_62 rfl (lv_at hl 4 rfl) ?_
            refine va_iald hx hb hK hP 6 1 rfl rfl (vp_in_nI (by omega) (by decide)) dX8_parks_63 ?_
            refine lv_ti (y := (fdoorsOf__8 j_4)) (by rw [nI_clamp (by omega)]) ?_
            refine lv_goto (tgt := 69) hx hb dX8_parks_64 (by decide) ?_
            have hP9 := hP.sub (ws' := [((a 0), .inr (8, (fX8 a (nI tx) fp (nI t0) wd (nI we) nu na (nI rd) ts (nI ru) (nI rw) (nI ca) df db sd))), (aI k (a 1) 3 (nF dn)), (aI k (a 4) 27 (sg se tm gs)), (aI k (a 3) 72 fprices), (aI k (a 36) 4 fwalks), (aI k (a 37) 4 (nF br)), (aI k (a 40) 4 fdoorsOf__8)]) [0, 1, 2, 3, 4, 5, 6] rfl
            have hD9 := hD.sub (ws' := [((a 0), .inr (8, (fX8 a (nI tx) fp (nI t0) wd (nI we) nu na (nI rd) ts (nI ru) (nI rw) (nI ca) df db sd))), (aI k (a 1) 3 (nF dn)), (aI k (a 4) 27 (sg se tm gs)), (aI k (a 3) 72 fprices), (aI k (a 36) 4 fwalks), (aI k (a 37) 4 (nF br)), (aI k (a 40) 4 fdoorsOf__8)]) [0, 1, 2, 3, 4, 5, 6] (by decide) rfl
            exact W.iret (v := (fdoorsOf__8 j_4)) hx hb hr (fun t ht hW => ⟨⟨(fdoorsOf__8 j_4), fdoorsOf__8, rfl, hw_8, by rw [ht]; exact hP9, hD9⟩, hS.F ht⟩) hS.2.2 dX8_parks_69
        · refine lv_if_ne (tgt := 44) hx hb dX8_parks_37 (by decide) (fun h => absurd (by decide) h) (fun _ => ?_)
          refine lv_sipush (v := (-1002)) hx hb dX8_parks_40 (by decide) ?_
          have hP9 := hP.sub (ws' := [((a 0), .inr (8, (fX8 a (nI tx) fp (nI t0) wd (nI we) nu na (nI rd) ts (nI ru) (nI rw) (nI ca) df db sd))), (aI k (a 1) 3 (nF dn)), (aI k (a 4) 27 (sg se tm gs)), (aI k (a 3) 72 fprices), (aI k (a 36) 4 fwalks), (aI k (a 37) 4 (nF br)), (aI k (a 40) 4 fdoorsOf)]) [0, 1, 2, 3, 4, 5, 6] rfl
          have hD9 := hD.sub (ws' := [((a 0), .inr (8, (fX8 a (nI tx) fp (nI t0) wd (nI we) nu na (nI rd) ts (nI ru) (nI rw) (nI ca) df db sd))), (aI k (a 1) 3 (nF dn)), (aI k (a 4) 27 (sg se tm gs)), (aI k (a 3) 72 fprices), (aI k (a 36) 4 fwalks), (aI k (a 37) 4 (nF br)), (aI k (a 40) 4 fdoorsOf)]) [0, 1, 2, 3, 4, 5, 6] (by decide) rfl
          exact W.iret (v := (-1002)) hx hb hr (fun t ht hW => ⟨⟨(-1002), fdoorsOf, rfl, hdv, by rw [ht]; exact hP9, hD9⟩, hS.F ht⟩) hS.2.2 dX8_parks_43
    · refine lv_if_ne (tgt := 20) hx hb dX8_parks_13 (by decide) (fun h => absurd (by decide) h) (fun _ => ?_)
      refine lv_sipush (v := (-1001)) hx hb dX8_parks_16 (by decide) ?_
      have hP9 := hP.sub (ws' := [((a 0), .inr (8, (fX8 a (nI tx) fp (nI t0) wd (nI we) nu na (nI rd) ts (nI ru) (nI rw) (nI ca) df db sd))), (aI k (a 1) 3 (nF dn)), (aI k (a 4) 27 (sg se tm gs)), (aI k (a 3) 72 fprices), (aI k (a 36) 4 fwalks), (aI k (a 37) 4 (nF br)), (aI k (a 40) 4 fdoorsOf)]) [0, 1, 2, 3, 4, 5, 6] rfl
      have hD9 := hD.sub (ws' := [((a 0), .inr (8, (fX8 a (nI tx) fp (nI t0) wd (nI we) nu na (nI rd) ts (nI ru) (nI rw) (nI ca) df db sd))), (aI k (a 1) 3 (nF dn)), (aI k (a 4) 27 (sg se tm gs)), (aI k (a 3) 72 fprices), (aI k (a 36) 4 fwalks), (aI k (a 37) 4 (nF br)), (aI k (a 40) 4 fdoorsOf)]) [0, 1, 2, 3, 4, 5, 6] (by decide) rfl
      exact W.iret (v := (-1001)) hx hb hr (fun t ht hW => ⟨⟨(-1001), fdoorsOf, rfl, hdv, by rw [ht]; exact hP9, hD9⟩, hS.F ht⟩) hS.2.2 dX8_parks_19
  · refine lv_if_eq (tgt := 16) hx hb dX8_parks_5 (by decide) (fun _ => ?_) (fun h => absurd (by decide) h)
    refine lv_sipush (v := (-1001)) hx hb dX8_parks_16 (by decide) ?_
    have hP9 := hP.sub (ws' := [((a 0), .inr (8, (fX8 a (nI tx) fp (nI t0) wd (nI we) nu na (nI rd) ts (nI ru) (nI rw) (nI ca) df db sd))), (aI k (a 1) 3 (nF dn)), (aI k (a 4) 27 (sg se tm gs)), (aI k (a 3) 72 fprices), (aI k (a 36) 4 fwalks), (aI k (a 37) 4 (nF br)), (aI k (a 40) 4 fdoorsOf)]) [0, 1, 2, 3, 4, 5, 6] rfl
    have hD9 := hD.sub (ws' := [((a 0), .inr (8, (fX8 a (nI tx) fp (nI t0) wd (nI we) nu na (nI rd) ts (nI ru) (nI rw) (nI ca) df db sd))), (aI k (a 1) 3 (nF dn)), (aI k (a 4) 27 (sg se tm gs)), (aI k (a 3) 72 fprices), (aI k (a 36) 4 fwalks), (aI k (a 37) 4 (nF br)), (aI k (a 40) 4 fdoorsOf)]) [0, 1, 2, 3, 4, 5, 6] (by decide) rfl
    exact W.iret (v := (-1001)) hx hb hr (fun t ht hW => ⟨⟨(-1001), fdoorsOf, rfl, hdv, by rw [ht]; exact hP9, hD9⟩, hS.F ht⟩) hS.2.2 dX8_parks_19


theorem dX8_steer_0 : decode cX8_steer 0 = .ok (.aload_n 0, 1) := by decide +kernel
theorem dX8_steer_1 : decode cX8_steer 1 = .ok (.iload_n 1, 1) := by decide +kernel
theorem dX8_steer_2 : decode cX8_steer 2 = .ok (.invokevirtual 318, 3) := by decide +kernel
theorem dX8_steer_5 : decode cX8_steer 5 = .ok (.ifCond .ne 7, 3) := by decide +kernel
theorem dX8_steer_8 : decode cX8_steer 8 = .ok (.sipush (-1001), 3) := by decide +kernel
theorem dX8_steer_11 : decode cX8_steer 11 = .ok (.ireturn, 1) := by decide +kernel
theorem dX8_steer_12 : decode cX8_steer 12 = .ok (.iload_n 2, 1) := by decide +kernel
theorem dX8_steer_13 : decode cX8_steer 13 = .ok (.i2l, 1) := by decide +kernel
theorem dX8_steer_14 : decode cX8_steer 14 = .ok (.lconst 0, 1) := by decide +kernel
theorem dX8_steer_15 : decode cX8_steer 15 = .ok (.ldc2_w 313, 3) := by decide +kernel
theorem dX8_steer_18 : decode cX8_steer 18 = .ok (.invokestatic 107, 3) := by decide +kernel
theorem dX8_steer_21 : decode cX8_steer 21 = .ok (.ifCond .ne 7, 3) := by decide +kernel
theorem dX8_steer_24 : decode cX8_steer 24 = .ok (.sipush (-1002), 3) := by decide +kernel
theorem dX8_steer_27 : decode cX8_steer 27 = .ok (.ireturn, 1) := by decide +kernel
theorem dX8_steer_28 : decode cX8_steer 28 = .ok (.aload_n 0, 1) := by decide +kernel
theorem dX8_steer_29 : decode cX8_steer 29 = .ok (.getfield 87, 3) := by decide +kernel
theorem dX8_steer_32 : decode cX8_steer 32 = .ok (.iload_n 1, 1) := by decide +kernel
theorem dX8_steer_33 : decode cX8_steer 33 = .ok (.iaload, 1) := by decide +kernel
theorem dX8_steer_34 : decode cX8_steer 34 = .ok (.istore_n 3, 1) := by decide +kernel
theorem dX8_steer_35 : decode cX8_steer 35 = .ok (.aload_n 0, 1) := by decide +kernel
theorem dX8_steer_36 : decode cX8_steer 36 = .ok (.getfield 87, 3) := by decide +kernel
theorem dX8_steer_39 : decode cX8_steer 39 = .ok (.iload_n 1, 1) := by decide +kernel
theorem dX8_steer_40 : decode cX8_steer 40 = .ok (.iload_n 2, 1) := by decide +kernel
theorem dX8_steer_41 : decode cX8_steer 41 = .ok (.iastore, 1) := by decide +kernel
theorem dX8_steer_42 : decode cX8_steer 42 = .ok (.iload_n 3, 1) := by decide +kernel
theorem dX8_steer_43 : decode cX8_steer 43 = .ok (.ireturn, 1) := by decide +kernel
set_option maxHeartbeats 4000000 in
set_option maxRecDepth 100000 in
theorem m_steer (l : Launch) (D : va_G) (k : Nat → ClassId) (st : Nat → Nat) (lo : Nat) (a : Nat → Nat) (tx : Nat) (t0 : Nat) (we : Nat) (rd : Nat) (ru : Nat) (rw : Nat) (ca : Nat) (fp : Int32) (wd : Int64) (nu : Int32) (na : Int32) (ts : Int32) (df : Int32) (db : Int32) (sd : Int32) (br : Nat → Nat) (p0 : Int32) (p1 : Int32) (hca : ca ≤ 4) (hbr : ∀ j, br j ≤ 24) : CWi l D k st lo yX8_steer cX8_steer 4 (some .int) ({ frames := 2, cells := 0, slots := 0, locals := 46 }) 0 0 [.ref (a 0), .int p0, .int p1] [((a 0), .inr (8, (fX8 a (nI tx) fp (nI t0) wd (nI we) nu na (nI rd) ts (nI ru) (nI rw) (nI ca) df db sd))), (aI k (a 37) 4 (nF br))] (fun (r : Int32) (br_ : (Nat → Nat)) => ∀ j, br_ j ≤ 24) (fun (br_ : (Nat → Nat)) => [((a 0), .inr (8, (fX8 a (nI tx) fp (nI t0) wd (nI we) nu na (nI rd) ts (nI ru) (nI rw) (nI ca) df db sd))), (aI k (a 37) 4 (nF br_))]) := by
  intro sz
  refine Met.ofW (cc := cX8_steer) (maxL := 4) (ret := (some .int)) (by decide) rfl ?_
  intro p e s m args below meth c s₁ B hml hv
  obtain ⟨rfl, hsz, hlo, hP, hK, hDL, hZ⟩ := hv
  have hx := B.exec
  have hb := B.bytes
  have hr := B.returns
  have hts := WS_ts B.pre
  have hown : s.vm.findClass RX8 = some m.cls := findClass_of_methodNamed B.named
  have hlocks := B.notSynchronized
  subst hsz
  have hD := hDL.self (sz := s.heap.size)
  have hAlo := A_lo hDL hlo
  generalize hAe : va_A [((a 0), .inr (8, (fX8 a (nI tx) fp (nI t0) wd (nI we) nu na (nI rd) ts (nI ru) (nI rw) (nI ca) df db sd))), (aI k (a 37) 4 (nF br))] s.heap.size = A at hD hAlo ⊢
  have hA : ∀ q : Nat, s.heap.size ≤ q → A q := fun q h => by rw [← hAe]; exact Or.inr h
  have hS : va_S A s.heap s.heap [] := va_S.rf
  have hl := lv_entry ([.ref (a 0), .int p0, .int p1]) (n := 4) (Nat.le_of_ble_eq_true rfl)
  rw [lg_entry_eq]
  generalize (lg_sl ([.ref (a 0), .int p0, .int p1]) ++ List.replicate (4 - (lg_sl ([.ref (a 0), .int p0, .int p1])).length) Slot.unset).toArray = ls at hl ⊢
  have hl : lv_has ls 4 [(0, .ref (a 0)), (1, .int p0), (2, .int p1)] := hl
  refine lv_aload_n hx hb dX8_steer_0 rfl (lv_at hl 0 rfl) ?_
  refine lv_iload_n hx hb dX8_steer_1 rfl (lv_at hl 1 rfl) ?_
  refine ro_i (D := D) (va_runV (As := [.int p0]) (rest := []) ⟨hx, hb, hml, hown, hts⟩ ((m_isCar l D k st lo a tx t0 we rd ru rw ca fp wd nu na ts df db sd p0 (by first | assumption | omega)) s.heap.size) (cwV 1 hts (gV tw_1382 tw_1384 tw_63 tw_87 tw_1385) rfl rfl rfl (by decide +kernel) ⟨Nat.le_of_ble_eq_true rfl, Nat.le_of_ble_eq_true rfl⟩) (pV hS hAlo hlo hP hK (va_Dlo hD hAlo) hZ [0] (by decide) rfl (ci := 8) (q := (RX8, TX8, 44)) (q0 := 0) rfl rfl) rfl rfl hl.1 rfl (lv_room (Nat.le_of_ble_eq_true rfl)) dX8_steer_2 ⟨Nat.le_of_ble_eq_true rfl, Nat.le_of_ble_eq_true rfl⟩) hS hA hP (fun r_1 H locs hw_1 hP hS => ?_)
  try dsimp only at hw_1
  rcases hw_1 with ⟨rfl, j_2, hj_2, rfl, hw_1⟩ | rfl
  · refine lv_if_ne (tgt := 12) hx hb dX8_steer_5 (by decide) (fun _ => ?_) (fun h => absurd h (by decide))
    refine lv_iload_n hx hb dX8_steer_12 rfl (lv_at hl 2 rfl) ?_
    refine lv_i2l (v := p1.toInt64) hx hb dX8_steer_13 rfl ?_
    refine lv_lconst (v := (0 : Int32).toInt64) hx hb dX8_steer_14 (by decide) ?_
    refine lv_ldc2 hx hb hown (hts _ tw_1377) dX8_steer_15 ?_
    refine lv_tl (y := ((24 : Int32).toInt64)) (by decide) ?_
    refine ro_i (D := D) (va_runS (As := [.long (p1.toInt64), .long ((0 : Int32).toInt64), .long ((24 : Int32).toInt64)]) (rest := []) ⟨hx, hb, hml, hown, hts⟩ ((k_in l D k st lo p1 (0 : Int32) (24 : Int32)) H.size) (va_cwS 3 hts (gS tw_1111 tw_1112 tw_87 tw_1113) rfl rfl rfl (by decide +kernel) ⟨Nat.le_of_ble_eq_true rfl, Nat.le_of_ble_eq_true rfl⟩) (pS hS hAlo hlo hP hK (va_Dlo hD hAlo) hZ [] (by decide) rfl) rfl rfl hl.1 rfl (lv_room (Nat.le_of_ble_eq_true rfl)) dX8_steer_18 ⟨Nat.le_of_ble_eq_true rfl, Nat.le_of_ble_eq_true rfl⟩) hS hA hP (fun r_3 H locs hw_3 hP hS => ?_)
    try dsimp only at hw_3
    rcases hw_3 with ⟨rfl, hw_3⟩ | ⟨rfl, hw_3⟩
    · refine lv_if_ne (tgt := 28) hx hb dX8_steer_21 (by decide) (fun _ => ?_) (fun h => absurd h (by decide))
      obtain ⟨nb_4, hnl_4, hnh_4, rfl⟩ := inB_ofc (a := 0) (b := 24) (by omega) (by omega) hw_3
      refine lv_aload_n hx hb dX8_steer_28 rfl (lv_at hl 0 rfl) ?_
      refine va_get (D := D) (ci := 8) (v := .ref (a 37)) (C := RX8) (T := TX8) (N := 44) hx hb hts inX8 hown hK hP 0 rfl rfl 36 (by decide) (hts _ tw_1009) (fun _ h9 => h9) rfl dX8_steer_29 ?_
      refine lv_iload_n hx hb dX8_steer_32 rfl (lv_at hl 1 rfl) ?_
      refine va_iald hx hb hK hP 1 1 rfl rfl (vp_in_nI (by omega) (by decide)) dX8_steer_33 ?_
      have hq_5 := hbr j_2
      refine lv_ti (y := (nI (br j_2))) (by rw [nI_clamp (by omega)]; rfl) ?_
      refine lv_istore_n (lv' := [(3, .int (nI (br j_2))), (0, .ref (a 0)), (1, .int (nI j_2)), (2, .int (nI nb_4))]) hx hb dX8_steer_34 rfl hl (by decide) rfl (fun ls hl => ?_)
      refine lv_aload_n hx hb dX8_steer_35 rfl (lv_at hl 1 rfl) ?_
      refine va_get (D := D) (ci := 8) (v := .ref (a 37)) (C := RX8) (T := TX8) (N := 44) hx hb hts inX8 hown hK hP 0 rfl rfl 36 (by decide) (hts _ tw_1009) (fun _ h9 => h9) rfl dX8_steer_36 ?_
      refine lv_iload_n hx hb dX8_steer_39 rfl (lv_at hl 2 rfl) ?_
      refine lv_iload_n hx hb dX8_steer_40 rfl (lv_at hl 3 rfl) ?_
      refine va_iast hx hb hK hP hD hS 1 1 rfl rfl (vp_in_nI (by omega) (by decide)) dX8_steer_41 (fun H locs hP hD hS => ?_)
      have hQ9 := pd_mk [((a 0), .inr (8, (fX8 a (nI tx) fp (nI t0) wd (nI we) nu na (nI rd) ts (nI ru) (nI rw) (nI ca) df db sd))), (aI k (a 37) 4 (upd (nF br) (Int32.toNatClampNeg (nI j_2)) (nI nb_4)))] hP hD
      clear hP hD
      obtain ⟨hP, hD⟩ := hQ9
      rw [nI_clamp (n := j_2) (by omega)] at hP hD
      rw [show upd (nF br) j_2 (nI nb_4) = nF (fun j => if j = j_2 then nb_4 else br j) from nF_upd _ _ _] at hP hD
      obtain ⟨d_6, hd_6⟩ : ∃ z : Nat → Nat, z = (fun j => if j = j_2 then nb_4 else br j) := ⟨_, rfl⟩
      rw [← hd_6] at hP hD
      refine lv_iload_n hx hb dX8_steer_42 rfl (lv_at hl 0 rfl) ?_
      obtain ⟨hP9, hD9⟩ := pd_sub [((a 0), .inr (8, (fX8 a (nI tx) fp (nI t0) wd (nI we) nu na (nI rd) ts (nI ru) (nI rw) (nI ca) df db sd))), (aI k (a 37) 4 (nF d_6))] [0, 1] hP hD (by decide) rfl
      exact W.iret (v := (nI (br j_2))) hx hb hr (fun t ht hW => ⟨⟨(nI (br j_2)), d_6, rfl, (by rw [hd_6]; exact up_le hbr (by omega)), by rw [ht]; exact hP9, hD9⟩, hS.F ht⟩) hS.2.2 dX8_steer_43
    · refine lv_if_ne (tgt := 28) hx hb dX8_steer_21 (by decide) (fun h => absurd (by decide) h) (fun _ => ?_)
      refine lv_sipush (v := (-1002)) hx hb dX8_steer_24 (by decide) ?_
      obtain ⟨hP9, hD9⟩ := pd_sub [((a 0), .inr (8, (fX8 a (nI tx) fp (nI t0) wd (nI we) nu na (nI rd) ts (nI ru) (nI rw) (nI ca) df db sd))), (aI k (a 37) 4 (nF br))] [0, 1] hP hD (by decide) rfl
      exact W.iret (v := (-1002)) hx hb hr (fun t ht hW => ⟨⟨(-1002), br, rfl, hbr, by rw [ht]; exact hP9, hD9⟩, hS.F ht⟩) hS.2.2 dX8_steer_27
  · refine lv_if_ne (tgt := 12) hx hb dX8_steer_5 (by decide) (fun h => absurd (by decide) h) (fun _ => ?_)
    refine lv_sipush (v := (-1001)) hx hb dX8_steer_8 (by decide) ?_
    obtain ⟨hP9, hD9⟩ := pd_sub [((a 0), .inr (8, (fX8 a (nI tx) fp (nI t0) wd (nI we) nu na (nI rd) ts (nI ru) (nI rw) (nI ca) df db sd))), (aI k (a 37) 4 (nF br))] [0, 1] hP hD (by decide) rfl
    exact W.iret (v := (-1001)) hx hb hr (fun t ht hW => ⟨⟨(-1001), br, rfl, hbr, by rw [ht]; exact hP9, hD9⟩, hS.F ht⟩) hS.2.2 dX8_steer_11

theorem dX8_isSet_0 : decode cX8_isSet 0 = .ok (.iload_n 2, 1) := by decide +kernel
theorem dX8_isSet_1 : decode cX8_isSet 1 = .ok (.i2l, 1) := by decide +kernel
theorem dX8_isSet_2 : decode cX8_isSet 2 = .ok (.lconst 0, 1) := by decide +kernel
theorem dX8_isSet_3 : decode cX8_isSet 3 = .ok (.iconst 1, 1) := by decide +kernel
theorem dX8_isSet_4 : decode cX8_isSet 4 = .ok (.aload_n 0, 1) := by decide +kernel
theorem dX8_isSet_5 : decode cX8_isSet 5 = .ok (.getfield 7, 3) := by decide +kernel
theorem dX8_isSet_8 : decode cX8_isSet 8 = .ok (.iload_n 1, 1) := by decide +kernel
theorem dX8_isSet_9 : decode cX8_isSet 9 = .ok (.iaload, 1) := by decide +kernel
theorem dX8_isSet_10 : decode cX8_isSet 10 = .ok (.ishl, 1) := by decide +kernel
theorem dX8_isSet_11 : decode cX8_isSet 11 = .ok (.iconst 1, 1) := by decide +kernel
theorem dX8_isSet_12 : decode cX8_isSet 12 = .ok (.isub, 1) := by decide +kernel
theorem dX8_isSet_13 : decode cX8_isSet 13 = .ok (.i2l, 1) := by decide +kernel
theorem dX8_isSet_14 : decode cX8_isSet 14 = .ok (.invokestatic 107, 3) := by decide +kernel
theorem dX8_isSet_17 : decode cX8_isSet 17 = .ok (.ireturn, 1) := by decide +kernel
set_option maxHeartbeats 4000000 in
set_option maxRecDepth 100000 in
theorem m_isSet (l : Launch) (D : va_G) (k : Nat → ClassId) (st : Nat → Nat) (lo : Nat) (a : Nat → Nat) (tx : Nat) (t0 : Nat) (we : Nat) (rd : Nat) (ru : Nat) (rw : Nat) (ca : Nat) (fp : Int32) (wd : Int64) (nu : Int32) (na : Int32) (ts : Int32) (df : Int32) (db : Int32) (sd : Int32) (dn : Nat → Nat) (sn : Nat) (p1 : Int32) (hdn : ∀ j, dn j ≤ 24) (hs : sn < 3) : CRi l D k st lo yX8_isSet cX8_isSet 3 (some .boolean) ({ frames := 1, cells := 0, slots := 0, locals := 25 }) [.ref (a 0), .int (nI sn), .int p1] [((a 0), .inr (8, (fX8 a (nI tx) fp (nI t0) wd (nI we) nu na (nI rd) ts (nI ru) (nI rw) (nI ca) df db sd))), (aI k (a 1) 3 (nF dn))] (fun r => True) := by
  intro sz
  refine Met.ofW (cc := cX8_isSet) (maxL := 3) (ret := (some .boolean)) (by decide) rfl ?_
  intro p e s m args below meth c s₁ B hml hv
  obtain ⟨rfl, hsz, hlo, hP, hK, hDL, hZ⟩ := hv
  have hx := B.exec
  have hb := B.bytes
  have hr := B.returns
  have hts := WS_ts B.pre
  have hown : s.vm.findClass RX8 = some m.cls := findClass_of_methodNamed B.named
  have hlocks := B.notSynchronized
  subst hsz
  have hA : ∀ q : Nat, s.heap.size ≤ q → (fun q : Nat => s.heap.size ≤ q) q := fun _ h => h
  have hAlo : ∀ q : Nat, (fun q : Nat => s.heap.size ≤ q) q → lo ≤ q := fun q h => Nat.le_trans hlo h
  have hS : va_S (fun q : Nat => s.heap.size ≤ q) s.heap s.heap [] := va_S.rf
  have hl := lv_entry ([.ref (a 0), .int (nI sn), .int p1]) (n := 3) (Nat.le_of_ble_eq_true rfl)
  rw [lg_entry_eq]
  generalize (lg_sl ([.ref (a 0), .int (nI sn), .int p1]) ++ List.replicate (3 - (lg_sl ([.ref (a 0), .int (nI sn), .int p1])).length) Slot.unset).toArray = ls at hl ⊢
  have hl : lv_has ls 3 [(0, .ref (a 0)), (1, .int (nI sn)), (2, .int p1)] := hl
  have hd_9 := hdn sn
  refine lv_iload_n hx hb dX8_isSet_0 rfl (lv_at hl 2 rfl) ?_
  refine lv_i2l (v := p1.toInt64) hx hb dX8_isSet_1 rfl ?_
  refine lv_lconst (v := (0 : Int32).toInt64) hx hb dX8_isSet_2 (by decide) ?_
  refine lv_iconst (v := 1) hx hb dX8_isSet_3 (by decide) ?_
  refine lv_aload_n hx hb dX8_isSet_4 rfl (lv_at hl 0 rfl) ?_
  refine va_get (D := D) (ci := 8) (v := .ref (a 1)) (C := RX8) (T := TX8) (N := 44) hx hb hts inX8 hown hK hP 0 rfl rfl 0 (by decide) (hts _ tw_973) (fun _ h9 => h9) rfl dX8_isSet_5 ?_
  refine lv_iload_n hx hb dX8_isSet_8 rfl (lv_at hl 1 rfl) ?_
  refine va_iald hx hb hK hP 1 1 rfl rfl (vp_in_nI (by omega) (by decide)) dX8_isSet_9 ?_
  refine lv_ti (y := (nI (dn sn))) (by rw [nI_clamp (by omega)]; rfl) ?_
  obtain ⟨pw_1, epw_1⟩ : ∃ z : Nat, z = 2 ^ (dn sn) := ⟨_, rfl⟩
  have hpw_1 : 1 ≤ pw_1 ∧ pw_1 ≤ 16777216 := by rw [epw_1]; exact pw24 (by omega)
  refine lv_ishl hx hb dX8_isSet_10 ?_
  refine lv_ti (y := (nI pw_1)) (by rw [epw_1]; exact shl1 (dn sn) (by omega)) ?_
  refine lv_iconst (v := 1) hx hb dX8_isSet_11 (by decide) ?_
  refine lv_isub hx hb dX8_isSet_12 ?_
  refine lv_topi (fun x_2 ex_2 => ?_)
  refine lv_i2l (v := x_2.toInt64) hx hb dX8_isSet_13 rfl ?_
  refine ro_i (D := D) (va_runS (As := [.long (p1.toInt64), .long ((0 : Int32).toInt64), .long (x_2.toInt64)]) (rest := []) ⟨hx, hb, hml, hown, hts⟩ ((k_in l D k st lo p1 (0 : Int32) x_2) s.heap.size) (va_cwS 3 hts (gS tw_1111 tw_1112 tw_87 tw_1113) rfl rfl rfl (by decide +kernel) ⟨Nat.le_of_ble_eq_true rfl, Nat.le_of_ble_eq_true rfl⟩) (pS hS hAlo hlo hP hK hDL hZ [] (by decide) rfl) rfl rfl hl.1 rfl (lv_room (Nat.le_of_ble_eq_true rfl)) dX8_isSet_14 ⟨Nat.le_of_ble_eq_true rfl, Nat.le_of_ble_eq_true rfl⟩) hS hA hP (fun r_3 H locs hw_3 hP hS => ?_)
  try dsimp only at hw_3
  rcases hw_3 with ⟨rfl, hw_3⟩ | ⟨rfl, hw_3⟩
  · exact W.zret (v := 1) (ty := .boolean) hx hb hr rfl (fun t ht hW => ⟨⟨1, (), rfl, trivial, trivial⟩, hS.F ht⟩) hS.2.2 dX8_isSet_17
  · exact W.zret (v := 0) (ty := .boolean) hx hb hr rfl (fun t ht hW => ⟨⟨0, (), rfl, trivial, trivial⟩, hS.F ht⟩) hS.2.2 dX8_isSet_17

theorem dX8_costAt_0 : decode cX8_costAt 0 = .ok (.iload_n 3, 1) := by decide +kernel
theorem dX8_costAt_1 : decode cX8_costAt 1 = .ok (.ifCond .ge 28, 3) := by decide +kernel
theorem dX8_costAt_4 : decode cX8_costAt 4 = .ok (.aload_n 0, 1) := by decide +kernel
theorem dX8_costAt_5 : decode cX8_costAt 5 = .ok (.iload_n 1, 1) := by decide +kernel
theorem dX8_costAt_6 : decode cX8_costAt 6 = .ok (.iconst 0, 1) := by decide +kernel
theorem dX8_costAt_7 : decode cX8_costAt 7 = .ok (.invokevirtual 248, 3) := by decide +kernel
theorem dX8_costAt_10 : decode cX8_costAt 10 = .ok (.aload_n 0, 1) := by decide +kernel
theorem dX8_costAt_11 : decode cX8_costAt 11 = .ok (.iload_n 1, 1) := by decide +kernel
theorem dX8_costAt_12 : decode cX8_costAt 12 = .ok (.iconst 2, 1) := by decide +kernel
theorem dX8_costAt_13 : decode cX8_costAt 13 = .ok (.invokevirtual 212, 3) := by decide +kernel
theorem dX8_costAt_16 : decode cX8_costAt 16 = .ok (.sipush 1000, 3) := by decide +kernel
theorem dX8_costAt_19 : decode cX8_costAt 19 = .ok (.imul, 1) := by decide +kernel
theorem dX8_costAt_20 : decode cX8_costAt 20 = .ok (.aload_n 0, 1) := by decide +kernel
theorem dX8_costAt_21 : decode cX8_costAt 21 = .ok (.getfield 7, 3) := by decide +kernel
theorem dX8_costAt_24 : decode cX8_costAt 24 = .ok (.iload_n 1, 1) := by decide +kernel
theorem dX8_costAt_25 : decode cX8_costAt 25 = .ok (.iaload, 1) := by decide +kernel
theorem dX8_costAt_26 : decode cX8_costAt 26 = .ok (.imul, 1) := by decide +kernel
theorem dX8_costAt_27 : decode cX8_costAt 27 = .ok (.iadd, 1) := by decide +kernel
theorem dX8_costAt_28 : decode cX8_costAt 28 = .ok (.ireturn, 1) := by decide +kernel
theorem dX8_costAt_29 : decode cX8_costAt 29 = .ok (.iload_n 3, 1) := by decide +kernel
theorem dX8_costAt_30 : decode cX8_costAt 30 = .ok (.aload_n 0, 1) := by decide +kernel
theorem dX8_costAt_31 : decode cX8_costAt 31 = .ok (.getfield 321, 3) := by decide +kernel
theorem dX8_costAt_34 : decode cX8_costAt 34 = .ok (.if_icmp .lt 14, 3) := by decide +kernel
theorem dX8_costAt_37 : decode cX8_costAt 37 = .ok (.aload_n 0, 1) := by decide +kernel
theorem dX8_costAt_38 : decode cX8_costAt 38 = .ok (.getfield 324, 3) := by decide +kernel
theorem dX8_costAt_41 : decode cX8_costAt 41 = .ok (.sipush 1000, 3) := by decide +kernel
theorem dX8_costAt_44 : decode cX8_costAt 44 = .ok (.imul, 1) := by decide +kernel
theorem dX8_costAt_45 : decode cX8_costAt 45 = .ok (.goto 4, 3) := by decide +kernel
theorem dX8_costAt_48 : decode cX8_costAt 48 = .ok (.iconst 0, 1) := by decide +kernel
theorem dX8_costAt_49 : decode cX8_costAt 49 = .ok (.istore 4, 2) := by decide +kernel
theorem dX8_costAt_51 : decode cX8_costAt 51 = .ok (.aload_n 0, 1) := by decide +kernel
theorem dX8_costAt_52 : decode cX8_costAt 52 = .ok (.iload_n 1, 1) := by decide +kernel
theorem dX8_costAt_53 : decode cX8_costAt 53 = .ok (.iconst 0, 1) := by decide +kernel
theorem dX8_costAt_54 : decode cX8_costAt 54 = .ok (.iload_n 3, 1) := by decide +kernel
theorem dX8_costAt_55 : decode cX8_costAt 55 = .ok (.aload_n 0, 1) := by decide +kernel
theorem dX8_costAt_56 : decode cX8_costAt 56 = .ok (.getfield 84, 3) := by decide +kernel
theorem dX8_costAt_59 : decode cX8_costAt 59 = .ok (.iload_n 2, 1) := by decide +kernel
theorem dX8_costAt_60 : decode cX8_costAt 60 = .ok (.iaload, 1) := by decide +kernel
theorem dX8_costAt_61 : decode cX8_costAt 61 = .ok (.invokevirtual 230, 3) := by decide +kernel
theorem dX8_costAt_64 : decode cX8_costAt 64 = .ok (.iload 4, 2) := by decide +kernel
theorem dX8_costAt_66 : decode cX8_costAt 66 = .ok (.iadd, 1) := by decide +kernel
theorem dX8_costAt_67 : decode cX8_costAt 67 = .ok (.aload_n 0, 1) := by decide +kernel
theorem dX8_costAt_68 : decode cX8_costAt 68 = .ok (.iload_n 1, 1) := by decide +kernel
theorem dX8_costAt_69 : decode cX8_costAt 69 = .ok (.iconst 2, 1) := by decide +kernel
theorem dX8_costAt_70 : decode cX8_costAt 70 = .ok (.invokevirtual 212, 3) := by decide +kernel
theorem dX8_costAt_73 : decode cX8_costAt 73 = .ok (.sipush 1000, 3) := by decide +kernel
theorem dX8_costAt_76 : decode cX8_costAt 76 = .ok (.imul, 1) := by decide +kernel
theorem dX8_costAt_77 : decode cX8_costAt 77 = .ok (.iload_n 3, 1) := by decide +kernel
theorem dX8_costAt_78 : decode cX8_costAt 78 = .ok (.imul, 1) := by decide +kernel
theorem dX8_costAt_79 : decode cX8_costAt 79 = .ok (.iadd, 1) := by decide +kernel
theorem dX8_costAt_80 : decode cX8_costAt 80 = .ok (.ireturn, 1) := by decide +kernel
set_option maxHeartbeats 4000000 in
set_option maxRecDepth 100000 in
theorem m_costAt (l : Launch) (D : va_G) (k : Nat → ClassId) (st : Nat → Nat) (lo : Nat) (a : Nat → Nat) (tx : Nat) (t0 : Nat) (we : Nat) (rd : Nat) (ru : Nat) (rw : Nat) (ca : Nat) (fp : Int32) (wd : Int64) (nu : Int32) (na : Int32) (ts : Int32) (df : Int32) (db : Int32) (sd : Int32) (dn : Nat → Nat) (se : Nat → Nat) (tm : Nat → Nat) (gs : Nat → Int32) (fprices : Nat → Int32) (fwalks : Nat → Int32) (sn : Nat) (cn : Nat) (pz : Int32)  (hs : sn < 3) (hcn : cn < 4) (hpz : pz < 0 ∨ ∃ d : Nat, d < 24 ∧ pz = nI d) : CRi l D k st lo yX8_costAt cX8_costAt 5 (some .int) ({ frames := 3, cells := 0, slots := 0, locals := 70 }) [.ref (a 0), .int (nI sn), .int (nI cn), .int pz] [((a 0), .inr (8, (fX8 a (nI tx) fp (nI t0) wd (nI we) nu na (nI rd) ts (nI ru) (nI rw) (nI ca) df db sd))), (aI k (a 1) 3 (nF dn)), (aI k (a 4) 27 (sg se tm gs)), (aI k (a 3) 72 fprices), (aI k (a 36) 4 fwalks)] (fun r => True) := by
  intro sz
  refine Met.ofW (cc := cX8_costAt) (maxL := 5) (ret := (some .int)) (by decide) rfl ?_
  intro p e s m args below meth c s₁ B hml hv
  obtain ⟨rfl, hsz, hlo, hP, hK, hDL, hZ⟩ := hv
  have hx := B.exec
  have hb := B.bytes
  have hr := B.returns
  have hts := WS_ts B.pre
  have hown : s.vm.findClass RX8 = some m.cls := findClass_of_methodNamed B.named
  have hlocks := B.notSynchronized
  subst hsz
  have hA : ∀ q : Nat, s.heap.size ≤ q → (fun q : Nat => s.heap.size ≤ q) q := fun _ h => h
  have hAlo : ∀ q : Nat, (fun q : Nat => s.heap.size ≤ q) q → lo ≤ q := fun q h => Nat.le_trans hlo h
  have hS : va_S (fun q : Nat => s.heap.size ≤ q) s.heap s.heap [] := va_S.rf
  have hl := lv_entry ([.ref (a 0), .int (nI sn), .int (nI cn), .int pz]) (n := 5) (Nat.le_of_ble_eq_true rfl)
  rw [lg_entry_eq]
  generalize (lg_sl ([.ref (a 0), .int (nI sn), .int (nI cn), .int pz]) ++ List.replicate (5 - (lg_sl ([.ref (a 0), .int (nI sn), .int (nI cn), .int pz])).length) Slot.unset).toArray = ls at hl ⊢
  have hl : lv_has ls 5 [(0, .ref (a 0)), (1, .int (nI sn)), (2, .int (nI cn)), (3, .int pz)] := hl
  refine lv_iload_n hx hb dX8_costAt_0 rfl (lv_at hl 3 rfl) ?_
  refine lv_if_ge (tgt := 29) hx hb dX8_costAt_1 (by decide) (fun c_1 => ?_) (fun c_1 => ?_)
  · obtain ⟨d_9, hd_9, rfl⟩ := hpz.resolve_left (fun h => absurd c_1 (Int32.not_le.mpr h))
    refine lv_iload_n hx hb dX8_costAt_29 rfl (lv_at hl 3 rfl) ?_
    refine lv_aload_n hx hb dX8_costAt_30 rfl (lv_at hl 0 rfl) ?_
    refine va_get (D := D) (ci := 8) (v := .int df) (C := RX8) (T := TX8) (N := 44) hx hb hts inX8 hown hK hP 0 rfl rfl 37 (by decide) (hts _ tw_1010) (fun _ h9 => h9) rfl dX8_costAt_31 ?_
    refine lv_icmp_lt (tgt := 48) hx hb dX8_costAt_34 (by decide) (fun c_2 => ?_) (fun c_2 => ?_)
    · refine lv_iconst (v := 0) hx hb dX8_costAt_48 (by decide) ?_
      refine lv_istore (lv' := [(4, .int 0), (0, .ref (a 0)), (1, .int (nI sn)), (2, .int (nI cn)), (3, .int (nI d_9))]) hx hb dX8_costAt_49 hl (by decide) rfl (fun ls hl => ?_)
      refine lv_aload_n hx hb dX8_costAt_51 rfl (lv_at hl 1 rfl) ?_
      refine lv_iload_n hx hb dX8_costAt_52 rfl (lv_at hl 2 rfl) ?_
      refine lv_iconst (v := 0) hx hb dX8_costAt_53 (by decide) ?_
      refine lv_iload_n hx hb dX8_costAt_54 rfl (lv_at hl 4 rfl) ?_
      refine lv_aload_n hx hb dX8_costAt_55 rfl (lv_at hl 1 rfl) ?_
      refine va_get (D := D) (ci := 8) (v := .ref (a 36)) (C := RX8) (T := TX8) (N := 44) hx hb hts inX8 hown hK hP 0 rfl rfl 35 (by decide) (hts _ tw_1008) (fun _ h9 => h9) rfl dX8_costAt_56 ?_
      refine lv_iload_n hx hb dX8_costAt_59 rfl (lv_at hl 3 rfl) ?_
      refine va_iald hx hb hK hP 4 1 rfl rfl (vp_in_nI (by omega) (by decide)) dX8_costAt_60 ?_
      refine lv_ti (y := (fwalks cn)) (by rw [nI_clamp (by omega)]) ?_
      refine ro_i (D := D) (va_runV (As := [.int (nI sn), .int 0, .int (nI d_9), .int (fwalks cn)]) (rest := []) ⟨hx, hb, hml, hown, hts⟩ ((m_takingBy l D k st lo a tx t0 we rd ru rw ca fp wd nu na ts df db sd dn se tm gs fprices sn d_9 0 (fwalks cn) (by first | assumption | omega) (by first | assumption | omega)) s.heap.size) (cwV 4 hts (gV tw_1226 tw_1228 tw_44 tw_87 tw_1229) rfl rfl rfl (by decide +kernel) ⟨Nat.le_of_ble_eq_true rfl, Nat.le_of_ble_eq_true rfl⟩) (pV hS hAlo hlo hP hK hDL hZ [0, 1, 2, 3] (by decide) rfl (ci := 8) (q := (RX8, TX8, 44)) (q0 := 0) rfl rfl) rfl rfl hl.1 rfl (lv_room (Nat.le_of_ble_eq_true rfl)) dX8_costAt_61 ⟨Nat.le_of_ble_eq_true rfl, Nat.le_of_ble_eq_true rfl⟩) hS hA hP (fun r_3 H locs hw_3 hP hS => ?_)
      try dsimp only at hw_3
      refine lv_iload hx hb dX8_costAt_64 (lv_at hl 0 rfl) ?_
      refine lv_iadd hx hb dX8_costAt_66 ?_
      refine lv_topi (fun x_4 ex_4 => ?_)
      refine lv_aload_n hx hb dX8_costAt_67 rfl (lv_at hl 1 rfl) ?_
      refine lv_iload_n hx hb dX8_costAt_68 rfl (lv_at hl 2 rfl) ?_
      refine lv_iconst (v := 2) hx hb dX8_costAt_69 (by decide) ?_
      refine ro_i (D := D) (va_runV (As := [.int (nI sn), .int 2]) (rest := [.int x_4]) ⟨hx, hb, hml, hown, hts⟩ ((m_of l D k st lo a tx t0 we rd ru rw ca fp wd nu na ts df db sd se tm gs sn 2 (by first | assumption | omega) (by first | assumption | omega)) H.size) (cwV 2 hts (gV tw_1194 tw_1196 tw_39 tw_87 tw_1197) rfl rfl rfl (by decide +kernel) ⟨Nat.le_of_ble_eq_true rfl, Nat.le_of_ble_eq_true rfl⟩) (pV hS hAlo hlo hP hK hDL hZ [0, 2] (by decide) rfl (ci := 8) (q := (RX8, TX8, 44)) (q0 := 0) rfl rfl) rfl rfl hl.1 rfl (lv_room (Nat.le_of_ble_eq_true rfl)) dX8_costAt_70 ⟨Nat.le_of_ble_eq_true rfl, Nat.le_of_ble_eq_true rfl⟩) hS hA hP (fun r_5 H locs hw_5 hP hS => ?_)
      try dsimp only at hw_5
      refine lv_sipush (v := 1000) hx hb dX8_costAt_73 (by decide) ?_
      refine lv_imul hx hb dX8_costAt_76 ?_
      refine lv_topi (fun x_6 ex_6 => ?_)
      refine lv_iload_n hx hb dX8_costAt_77 rfl (lv_at hl 4 rfl) ?_
      refine lv_imul hx hb dX8_costAt_78 ?_
      refine lv_topi (fun x_7 ex_7 => ?_)
      refine lv_iadd hx hb dX8_costAt_79 ?_
      refine lv_topi (fun x_8 ex_8 => ?_)
      exact W.iret (v := x_8) hx hb hr (fun t ht hW => ⟨⟨x_8, (), rfl, trivial, trivial⟩, hS.F ht⟩) hS.2.2 dX8_costAt_80
    · refine lv_aload_n hx hb dX8_costAt_37 rfl (lv_at hl 0 rfl) ?_
      refine va_get (D := D) (ci := 8) (v := .int db) (C := RX8) (T := TX8) (N := 44) hx hb hts inX8 hown hK hP 0 rfl rfl 38 (by decide) (hts _ tw_1011) (fun _ h9 => h9) rfl dX8_costAt_38 ?_
      refine lv_sipush (v := 1000) hx hb dX8_costAt_41 (by decide) ?_
      refine lv_imul hx hb dX8_costAt_44 ?_
      refine lv_topi (fun x_9 ex_9 => ?_)
      refine lv_goto (tgt := 49) hx hb dX8_costAt_45 (by decide) ?_
      refine lv_istore (lv' := [(4, .int x_9), (0, .ref (a 0)), (1, .int (nI sn)), (2, .int (nI cn)), (3, .int (nI d_9))]) hx hb dX8_costAt_49 hl (by decide) rfl (fun ls hl => ?_)
      refine lv_aload_n hx hb dX8_costAt_51 rfl (lv_at hl 1 rfl) ?_
      refine lv_iload_n hx hb dX8_costAt_52 rfl (lv_at hl 2 rfl) ?_
      refine lv_iconst (v := 0) hx hb dX8_costAt_53 (by decide) ?_
      refine lv_iload_n hx hb dX8_costAt_54 rfl (lv_at hl 4 rfl) ?_
      refine lv_aload_n hx hb dX8_costAt_55 rfl (lv_at hl 1 rfl) ?_
      refine va_get (D := D) (ci := 8) (v := .ref (a 36)) (C := RX8) (T := TX8) (N := 44) hx hb hts inX8 hown hK hP 0 rfl rfl 35 (by decide) (hts _ tw_1008) (fun _ h9 => h9) rfl dX8_costAt_56 ?_
      refine lv_iload_n hx hb dX8_costAt_59 rfl (lv_at hl 3 rfl) ?_
      refine va_iald hx hb hK hP 4 1 rfl rfl (vp_in_nI (by omega) (by decide)) dX8_costAt_60 ?_
      refine lv_ti (y := (fwalks cn)) (by rw [nI_clamp (by omega)]) ?_
      refine ro_i (D := D) (va_runV (As := [.int (nI sn), .int 0, .int (nI d_9), .int (fwalks cn)]) (rest := []) ⟨hx, hb, hml, hown, hts⟩ ((m_takingBy l D k st lo a tx t0 we rd ru rw ca fp wd nu na ts df db sd dn se tm gs fprices sn d_9 0 (fwalks cn) (by first | assumption | omega) (by first | assumption | omega)) s.heap.size) (cwV 4 hts (gV tw_1226 tw_1228 tw_44 tw_87 tw_1229) rfl rfl rfl (by decide +kernel) ⟨Nat.le_of_ble_eq_true rfl, Nat.le_of_ble_eq_true rfl⟩) (pV hS hAlo hlo hP hK hDL hZ [0, 1, 2, 3] (by decide) rfl (ci := 8) (q := (RX8, TX8, 44)) (q0 := 0) rfl rfl) rfl rfl hl.1 rfl (lv_room (Nat.le_of_ble_eq_true rfl)) dX8_costAt_61 ⟨Nat.le_of_ble_eq_true rfl, Nat.le_of_ble_eq_true rfl⟩) hS hA hP (fun r_10 H locs hw_10 hP hS => ?_)
      try dsimp only at hw_10
      refine lv_iload hx hb dX8_costAt_64 (lv_at hl 0 rfl) ?_
      refine lv_iadd hx hb dX8_costAt_66 ?_
      refine lv_topi (fun x_11 ex_11 => ?_)
      refine lv_aload_n hx hb dX8_costAt_67 rfl (lv_at hl 1 rfl) ?_
      refine lv_iload_n hx hb dX8_costAt_68 rfl (lv_at hl 2 rfl) ?_
      refine lv_iconst (v := 2) hx hb dX8_costAt_69 (by decide) ?_
      refine ro_i (D := D) (va_runV (As := [.int (nI sn), .int 2]) (rest := [.int x_11]) ⟨hx, hb, hml, hown, hts⟩ ((m_of l D k st lo a tx t0 we rd ru rw ca fp wd nu na ts df db sd se tm gs sn 2 (by first | assumption | omega) (by first | assumption | omega)) H.size) (cwV 2 hts (gV tw_1194 tw_1196 tw_39 tw_87 tw_1197) rfl rfl rfl (by decide +kernel) ⟨Nat.le_of_ble_eq_true rfl, Nat.le_of_ble_eq_true rfl⟩) (pV hS hAlo hlo hP hK hDL hZ [0, 2] (by decide) rfl (ci := 8) (q := (RX8, TX8, 44)) (q0 := 0) rfl rfl) rfl rfl hl.1 rfl (lv_room (Nat.le_of_ble_eq_true rfl)) dX8_costAt_70 ⟨Nat.le_of_ble_eq_true rfl, Nat.le_of_ble_eq_true rfl⟩) hS hA hP (fun r_12 H locs hw_12 hP hS => ?_)
      try dsimp only at hw_12
      refine lv_sipush (v := 1000) hx hb dX8_costAt_73 (by decide) ?_
      refine lv_imul hx hb dX8_costAt_76 ?_
      refine lv_topi (fun x_13 ex_13 => ?_)
      refine lv_iload_n hx hb dX8_costAt_77 rfl (lv_at hl 4 rfl) ?_
      refine lv_imul hx hb dX8_costAt_78 ?_
      refine lv_topi (fun x_14 ex_14 => ?_)
      refine lv_iadd hx hb dX8_costAt_79 ?_
      refine lv_topi (fun x_15 ex_15 => ?_)
      exact W.iret (v := x_15) hx hb hr (fun t ht hW => ⟨⟨x_15, (), rfl, trivial, trivial⟩, hS.F ht⟩) hS.2.2 dX8_costAt_80
  · refine lv_aload_n hx hb dX8_costAt_4 rfl (lv_at hl 0 rfl) ?_
    refine lv_iload_n hx hb dX8_costAt_5 rfl (lv_at hl 1 rfl) ?_
    refine lv_iconst (v := 0) hx hb dX8_costAt_6 (by decide) ?_
    refine ro_i (D := D) (va_runV (As := [.int (nI sn), .int 0]) (rest := []) ⟨hx, hb, hml, hown, hts⟩ ((m_garageOf l D k st lo a tx t0 we rd ru rw ca fp wd nu na ts df db sd dn se tm gs sn 0 (by first | assumption | omega)) s.heap.size) (cwV 2 hts (gV tw_1258 tw_1260 tw_51 tw_87 tw_1261) rfl rfl rfl (by decide +kernel) ⟨Nat.le_of_ble_eq_true rfl, Nat.le_of_ble_eq_true rfl⟩) (pV hS hAlo hlo hP hK hDL hZ [0, 1, 2] (by decide) rfl (ci := 8) (q := (RX8, TX8, 44)) (q0 := 0) rfl rfl) rfl rfl hl.1 rfl (lv_room (Nat.le_of_ble_eq_true rfl)) dX8_costAt_7 ⟨Nat.le_of_ble_eq_true rfl, Nat.le_of_ble_eq_true rfl⟩) hS hA hP (fun r_16 H locs hw_16 hP hS => ?_)
    try dsimp only at hw_16
    refine lv_aload_n hx hb dX8_costAt_10 rfl (lv_at hl 0 rfl) ?_
    refine lv_iload_n hx hb dX8_costAt_11 rfl (lv_at hl 1 rfl) ?_
    refine lv_iconst (v := 2) hx hb dX8_costAt_12 (by decide) ?_
    refine ro_i (D := D) (va_runV (As := [.int (nI sn), .int 2]) (rest := [.int r_16]) ⟨hx, hb, hml, hown, hts⟩ ((m_of l D k st lo a tx t0 we rd ru rw ca fp wd nu na ts df db sd se tm gs sn 2 (by first | assumption | omega) (by first | assumption | omega)) H.size) (cwV 2 hts (gV tw_1194 tw_1196 tw_39 tw_87 tw_1197) rfl rfl rfl (by decide +kernel) ⟨Nat.le_of_ble_eq_true rfl, Nat.le_of_ble_eq_true rfl⟩) (pV hS hAlo hlo hP hK hDL hZ [0, 2] (by decide) rfl (ci := 8) (q := (RX8, TX8, 44)) (q0 := 0) rfl rfl) rfl rfl hl.1 rfl (lv_room (Nat.le_of_ble_eq_true rfl)) dX8_costAt_13 ⟨Nat.le_of_ble_eq_true rfl, Nat.le_of_ble_eq_true rfl⟩) hS hA hP (fun r_17 H locs hw_17 hP hS => ?_)
    try dsimp only at hw_17
    refine lv_sipush (v := 1000) hx hb dX8_costAt_16 (by decide) ?_
    refine lv_imul hx hb dX8_costAt_19 ?_
    refine lv_topi (fun x_18 ex_18 => ?_)
    refine lv_aload_n hx hb dX8_costAt_20 rfl (lv_at hl 0 rfl) ?_
    refine va_get (D := D) (ci := 8) (v := .ref (a 1)) (C := RX8) (T := TX8) (N := 44) hx hb hts inX8 hown hK hP 0 rfl rfl 0 (by decide) (hts _ tw_973) (fun _ h9 => h9) rfl dX8_costAt_21 ?_
    refine lv_iload_n hx hb dX8_costAt_24 rfl (lv_at hl 1 rfl) ?_
    refine va_iald hx hb hK hP 1 1 rfl rfl (vp_in_nI (by omega) (by decide)) dX8_costAt_25 ?_
    refine lv_ti (y := (nI (dn sn))) (by rw [nI_clamp (by omega)]; rfl) ?_
    refine lv_imul hx hb dX8_costAt_26 ?_
    refine lv_topi (fun x_19 ex_19 => ?_)
    refine lv_iadd hx hb dX8_costAt_27 ?_
    refine lv_topi (fun x_20 ex_20 => ?_)
    exact W.iret (v := x_20) hx hb hr (fun t ht hW => ⟨⟨x_20, (), rfl, trivial, trivial⟩, hS.F ht⟩) hS.2.2 dX8_costAt_28

theorem dX8_parkAll_0 : decode cX8_parkAll 0 = .ok (.iload_n 2, 1) := by decide +kernel
theorem dX8_parkAll_1 : decode cX8_parkAll 1 = .ok (.istore_n 3, 1) := by decide +kernel
theorem dX8_parkAll_2 : decode cX8_parkAll 2 = .ok (.iconst 0, 1) := by decide +kernel
theorem dX8_parkAll_3 : decode cX8_parkAll 3 = .ok (.istore 4, 2) := by decide +kernel
theorem dX8_parkAll_5 : decode cX8_parkAll 5 = .ok (.iload 4, 2) := by decide +kernel
theorem dX8_parkAll_7 : decode cX8_parkAll 7 = .ok (.aload_n 0, 1) := by decide +kernel
theorem dX8_parkAll_8 : decode cX8_parkAll 8 = .ok (.getfield 315, 3) := by decide +kernel
theorem dX8_parkAll_11 : decode cX8_parkAll 11 = .ok (.if_icmp .ge 107, 3) := by decide +kernel
theorem dX8_parkAll_14 : decode cX8_parkAll 14 = .ok (.aload_n 0, 1) := by decide +kernel
theorem dX8_parkAll_15 : decode cX8_parkAll 15 = .ok (.getfield 90, 3) := by decide +kernel
theorem dX8_parkAll_18 : decode cX8_parkAll 18 = .ok (.iload 4, 2) := by decide +kernel
theorem dX8_parkAll_20 : decode cX8_parkAll 20 = .ok (.iconst (-1), 1) := by decide +kernel
theorem dX8_parkAll_21 : decode cX8_parkAll 21 = .ok (.iastore, 1) := by decide +kernel
theorem dX8_parkAll_22 : decode cX8_parkAll 22 = .ok (.aload_n 0, 1) := by decide +kernel
theorem dX8_parkAll_23 : decode cX8_parkAll 23 = .ok (.getfield 7, 3) := by decide +kernel
theorem dX8_parkAll_26 : decode cX8_parkAll 26 = .ok (.iload_n 1, 1) := by decide +kernel
theorem dX8_parkAll_27 : decode cX8_parkAll 27 = .ok (.iaload, 1) := by decide +kernel
theorem dX8_parkAll_28 : decode cX8_parkAll 28 = .ok (.iconst 1, 1) := by decide +kernel
theorem dX8_parkAll_29 : decode cX8_parkAll 29 = .ok (.isub, 1) := by decide +kernel
theorem dX8_parkAll_30 : decode cX8_parkAll 30 = .ok (.istore 5, 2) := by decide +kernel
theorem dX8_parkAll_32 : decode cX8_parkAll 32 = .ok (.iload 5, 2) := by decide +kernel
theorem dX8_parkAll_34 : decode cX8_parkAll 34 = .ok (.ifCond .lt 50, 3) := by decide +kernel
theorem dX8_parkAll_37 : decode cX8_parkAll 37 = .ok (.iload 5, 2) := by decide +kernel
theorem dX8_parkAll_39 : decode cX8_parkAll 39 = .ok (.aload_n 0, 1) := by decide +kernel
theorem dX8_parkAll_40 : decode cX8_parkAll 40 = .ok (.getfield 87, 3) := by decide +kernel
theorem dX8_parkAll_43 : decode cX8_parkAll 43 = .ok (.iload 4, 2) := by decide +kernel
theorem dX8_parkAll_45 : decode cX8_parkAll 45 = .ok (.iaload, 1) := by decide +kernel
theorem dX8_parkAll_46 : decode cX8_parkAll 46 = .ok (.if_icmp .lt 38, 3) := by decide +kernel
theorem dX8_parkAll_49 : decode cX8_parkAll 49 = .ok (.aload_n 0, 1) := by decide +kernel
theorem dX8_parkAll_50 : decode cX8_parkAll 50 = .ok (.getfield 90, 3) := by decide +kernel
theorem dX8_parkAll_53 : decode cX8_parkAll 53 = .ok (.iload 4, 2) := by decide +kernel
theorem dX8_parkAll_55 : decode cX8_parkAll 55 = .ok (.iload_n 3, 1) := by decide +kernel
theorem dX8_parkAll_56 : decode cX8_parkAll 56 = .ok (.iload 5, 2) := by decide +kernel
theorem dX8_parkAll_58 : decode cX8_parkAll 58 = .ok (.ishr, 1) := by decide +kernel
theorem dX8_parkAll_59 : decode cX8_parkAll 59 = .ok (.iconst 1, 1) := by decide +kernel
theorem dX8_parkAll_60 : decode cX8_parkAll 60 = .ok (.iand, 1) := by decide +kernel
theorem dX8_parkAll_61 : decode cX8_parkAll 61 = .ok (.iconst 1, 1) := by decide +kernel
theorem dX8_parkAll_62 : decode cX8_parkAll 62 = .ok (.if_icmp .ne 8, 3) := by decide +kernel
theorem dX8_parkAll_65 : decode cX8_parkAll 65 = .ok (.iload 5, 2) := by decide +kernel
theorem dX8_parkAll_67 : decode cX8_parkAll 67 = .ok (.goto 10, 3) := by decide +kernel
theorem dX8_parkAll_70 : decode cX8_parkAll 70 = .ok (.aload_n 0, 1) := by decide +kernel
theorem dX8_parkAll_71 : decode cX8_parkAll 71 = .ok (.getfield 90, 3) := by decide +kernel
theorem dX8_parkAll_74 : decode cX8_parkAll 74 = .ok (.iload 4, 2) := by decide +kernel
theorem dX8_parkAll_76 : decode cX8_parkAll 76 = .ok (.iaload, 1) := by decide +kernel
theorem dX8_parkAll_77 : decode cX8_parkAll 77 = .ok (.iastore, 1) := by decide +kernel
theorem dX8_parkAll_78 : decode cX8_parkAll 78 = .ok (.iinc 5 (-1), 3) := by decide +kernel
theorem dX8_parkAll_81 : decode cX8_parkAll 81 = .ok (.goto (-49), 3) := by decide +kernel
theorem dX8_parkAll_84 : decode cX8_parkAll 84 = .ok (.iload_n 3, 1) := by decide +kernel
theorem dX8_parkAll_85 : decode cX8_parkAll 85 = .ok (.aload_n 0, 1) := by decide +kernel
theorem dX8_parkAll_86 : decode cX8_parkAll 86 = .ok (.getfield 90, 3) := by decide +kernel
theorem dX8_parkAll_89 : decode cX8_parkAll 89 = .ok (.iload 4, 2) := by decide +kernel
theorem dX8_parkAll_91 : decode cX8_parkAll 91 = .ok (.iaload, 1) := by decide +kernel
theorem dX8_parkAll_92 : decode cX8_parkAll 92 = .ok (.ifCond .ge 7, 3) := by decide +kernel
theorem dX8_parkAll_95 : decode cX8_parkAll 95 = .ok (.iconst (-1), 1) := by decide +kernel
theorem dX8_parkAll_96 : decode cX8_parkAll 96 = .ok (.goto 14, 3) := by decide +kernel
theorem dX8_parkAll_99 : decode cX8_parkAll 99 = .ok (.iconst 1, 1) := by decide +kernel
theorem dX8_parkAll_100 : decode cX8_parkAll 100 = .ok (.aload_n 0, 1) := by decide +kernel
theorem dX8_parkAll_101 : decode cX8_parkAll 101 = .ok (.getfield 90, 3) := by decide +kernel
theorem dX8_parkAll_104 : decode cX8_parkAll 104 = .ok (.iload 4, 2) := by decide +kernel
theorem dX8_parkAll_106 : decode cX8_parkAll 106 = .ok (.iaload, 1) := by decide +kernel
theorem dX8_parkAll_107 : decode cX8_parkAll 107 = .ok (.ishl, 1) := by decide +kernel
theorem dX8_parkAll_108 : decode cX8_parkAll 108 = .ok (.iconst (-1), 1) := by decide +kernel
theorem dX8_parkAll_109 : decode cX8_parkAll 109 = .ok (.ixor, 1) := by decide +kernel
theorem dX8_parkAll_110 : decode cX8_parkAll 110 = .ok (.iand, 1) := by decide +kernel
theorem dX8_parkAll_111 : decode cX8_parkAll 111 = .ok (.istore_n 3, 1) := by decide +kernel
theorem dX8_parkAll_112 : decode cX8_parkAll 112 = .ok (.iinc 4 1, 3) := by decide +kernel
theorem dX8_parkAll_115 : decode cX8_parkAll 115 = .ok (.goto (-110), 3) := by decide +kernel
theorem dX8_parkAll_118 : decode cX8_parkAll 118 = .ok (.return_, 1) := by decide +kernel
set_option maxHeartbeats 4000000 in
set_option maxRecDepth 100000 in
theorem m_parkAll (l : Launch) (D : va_G) (k : Nat → ClassId) (st : Nat → Nat) (lo : Nat) (a : Nat → Nat) (tx : Nat) (t0 : Nat) (we : Nat) (rd : Nat) (ru : Nat) (rw : Nat) (ca : Nat) (fp : Int32) (wd : Int64) (nu : Int32) (na : Int32) (ts : Int32) (df : Int32) (db : Int32) (sd : Int32) (dn : Nat → Nat) (br : Nat → Nat) (fdoorsOf : Nat → Int32) (sn : Nat) (p1 : Int32) (hdn : ∀ j, dn j ≤ 24) (hca : ca ≤ 4) (hbr : ∀ j, br j ≤ 24) (hs : sn < 3) (hdv : dvOK fdoorsOf) : CWv l D k st lo yX8_parkAll cX8_parkAll 6 none ({ frames := 0, cells := 0, slots := 0, locals := 0 }) 0 0 [.ref (a 0), .int (nI sn), .int p1] [((a 0), .inr (8, (fX8 a (nI tx) fp (nI t0) wd (nI we) nu na (nI rd) ts (nI ru) (nI rw) (nI ca) df db sd))), (aI k (a 1) 3 (nF dn)), (aI k (a 37) 4 (nF br)), (aI k (a 40) 4 fdoorsOf)] (fun (fdoorsOf_ : (Nat → Int32)) => dvOK fdoorsOf_) (fun (fdoorsOf_ : (Nat → Int32)) => [((a 0), .inr (8, (fX8 a (nI tx) fp (nI t0) wd (nI we) nu na (nI rd) ts (nI ru) (nI rw) (nI ca) df db sd))), (aI k (a 1) 3 (nF dn)), (aI k (a 37) 4 (nF br)), (aI k (a 40) 4 fdoorsOf_)]) := by
  intro sz
  refine Met.ofW (cc := cX8_parkAll) (maxL := 6) (ret := none) (by decide) rfl ?_
  intro p e s m args below meth c s₁ B hml hv
  obtain ⟨rfl, hsz, hlo, hP, hK, hDL, hZ⟩ := hv
  have hx := B.exec
  have hb := B.bytes
  have hr := B.returns
  have hts := WS_ts B.pre
  have hown : s.vm.findClass RX8 = some m.cls := findClass_of_methodNamed B.named
  have hlocks := B.notSynchronized
  subst hsz
  have hD := hDL.self (sz := s.heap.size)
  have hAlo := A_lo hDL hlo
  generalize hAe : va_A [((a 0), .inr (8, (fX8 a (nI tx) fp (nI t0) wd (nI we) nu na (nI rd) ts (nI ru) (nI rw) (nI ca) df db sd))), (aI k (a 1) 3 (nF dn)), (aI k (a 37) 4 (nF br)), (aI k (a 40) 4 fdoorsOf)] s.heap.size = A at hD hAlo ⊢
  have hA : ∀ q : Nat, s.heap.size ≤ q → A q := fun q h => by rw [← hAe]; exact Or.inr h
  have hS : va_S A s.heap s.heap [] := va_S.rf
  have hl := lv_entry ([.ref (a 0), .int (nI sn), .int p1]) (n := 6) (Nat.le_of_ble_eq_true rfl)
  rw [lg_entry_eq]
  generalize (lg_sl ([.ref (a 0), .int (nI sn), .int p1]) ++ List.replicate (6 - (lg_sl ([.ref (a 0), .int (nI sn), .int p1])).length) Slot.unset).toArray = ls at hl ⊢
  have hl : lv_has ls 6 [(0, .ref (a 0)), (1, .int (nI sn)), (2, .int p1)] := hl
  have hd_9 := hdn sn
  refine lv_iload_n hx hb dX8_parkAll_0 rfl (lv_at hl 2 rfl) ?_
  refine lv_istore_n (lv' := [(3, .int p1), (0, .ref (a 0)), (1, .int (nI sn)), (2, .int p1)]) hx hb dX8_parkAll_1 rfl hl (by decide) rfl (fun ls hl => ?_)
  refine lv_iconst (v := 0) hx hb dX8_parkAll_2 (by decide) ?_
  refine lv_istore (lv' := [(4, .int 0), (3, .int p1), (0, .ref (a 0)), (1, .int (nI sn)), (2, .int p1)]) hx hb dX8_parkAll_3 hl (by decide) rfl (fun ls hl => ?_)
  refine W_loop (σ := Nat × Int32 × (Nat → Int32)) (fun (n_ : Nat) (x_ : Nat × Int32 × (Nat → Int32)) (H : Heap) (locs : List Loc) (ls : Array Slot) => match x_ with | (cc_1, lf_1, fd_1) => n_ = 4 - cc_1 ∧ (cc_1 ≤ 4 ∧ dvOK fd_1) ∧ va_P D classes [((a 0), .inr (8, (fX8 a (nI tx) fp (nI t0) wd (nI we) nu na (nI rd) ts (nI ru) (nI rw) (nI ca) df db sd))), (aI k (a 1) 3 (nF dn)), (aI k (a 37) 4 (nF br)), (aI k (a 40) 4 fd_1)] H ∧ va_D A [((a 0), .inr (8, (fX8 a (nI tx) fp (nI t0) wd (nI we) nu na (nI rd) ts (nI ru) (nI rw) (nI ca) df db sd))), (aI k (a 1) 3 (nF dn)), (aI k (a 37) 4 (nF br)), (aI k (a 40) 4 fd_1)] ∧ va_S A s.heap H locs ∧ lv_has ls 6 [(4, .int (nI cc_1)), (3, .int lf_1), (0, .ref (a 0)), (1, .int (nI sn)), (2, .int p1)]) (fun n_1 x_1 H locs ls hI ih_1 => ?_) _ (0, p1, fdoorsOf) ⟨rfl, ⟨by omega, hdv⟩, hP, hD, hS, (lv_sub hl [0, 1, 2, 3, 4] rfl)⟩
  obtain ⟨cc_1, lf_1, fd_1⟩ := x_1
  obtain ⟨hm_1, hv_1, hP, hD, hS, hl⟩ := hI
  subst hm_1
  have hdvl_1 := hv_1.2
  refine lv_iload hx hb dX8_parkAll_5 (lv_at hl 0 rfl) ?_
  refine lv_aload_n hx hb dX8_parkAll_7 rfl (lv_at hl 2 rfl) ?_
  refine va_get (D := D) (ci := 8) (v := .int (nI ca)) (C := RX8) (T := TX8) (N := 44) hx hb hts inX8 hown hK hP 0 rfl rfl 34 (by decide) (hts _ tw_1007) (fun _ h9 => h9) rfl dX8_parkAll_8 ?_
  refine lv_icmp_ge (tgt := 118) hx hb dX8_parkAll_11 (by decide) (fun c_2 => ?_) (fun c_2 => ?_)
  · have c_2 := (nI_leI (a := ca) (b := cc_1) (by omega) (by omega)).mp c_2
    obtain ⟨hP9, hD9⟩ := pd_sub [((a 0), .inr (8, (fX8 a (nI tx) fp (nI t0) wd (nI we) nu na (nI rd) ts (nI ru) (nI rw) (nI ca) df db sd))), (aI k (a 1) 3 (nF dn)), (aI k (a 37) 4 (nF br)), (aI k (a 40) 4 fd_1)] [0, 1, 2, 3] hP hD (by decide) rfl
    exact W.vret hx hb hr (fun t ht hW => ⟨⟨fd_1, rfl, hdvl_1, by rw [ht]; exact hP9, hD9⟩, hS.F ht⟩) hS.2.2 dX8_parkAll_118
  · have c_2 : ¬ (ca ≤ cc_1) := fun h => c_2 ((nI_leI (a := ca) (b := cc_1) (by omega) (by omega)).mpr h)
    refine lv_aload_n hx hb dX8_parkAll_14 rfl (lv_at hl 2 rfl) ?_
    refine va_get (D := D) (ci := 8) (v := .ref (a 40)) (C := RX8) (T := TX8) (N := 44) hx hb hts inX8 hown hK hP 0 rfl rfl 39 (by decide) (hts _ tw_1012) (fun _ h9 => h9) rfl dX8_parkAll_15 ?_
    refine lv_iload hx hb dX8_parkAll_18 (lv_at hl 0 rfl) ?_
    refine lv_iconst (v := (-1)) hx hb dX8_parkAll_20 (by decide) ?_
    refine va_iast hx hb hK hP hD hS 3 1 rfl rfl (vp_in_nI (by omega) (by decide)) dX8_parkAll_21 (fun H locs hP hD hS => ?_)
    have hQ9 := pd_mk [((a 0), .inr (8, (fX8 a (nI tx) fp (nI t0) wd (nI we) nu na (nI rd) ts (nI ru) (nI rw) (nI ca) df db sd))), (aI k (a 1) 3 (nF dn)), (aI k (a 37) 4 (nF br)), (aI k (a 40) 4 (upd fd_1 (Int32.toNatClampNeg (nI cc_1)) (-1)))] hP hD
    clear hP hD
    obtain ⟨hP, hD⟩ := hQ9
    rw [nI_clamp (n := cc_1) (by omega)] at hP hD
    have hQ9 := pd_mk [((a 0), .inr (8, (fX8 a (nI tx) fp (nI t0) wd (nI we) nu na (nI rd) ts (nI ru) (nI rw) (nI ca) df db sd))), (aI k (a 1) 3 (nF dn)), (aI k (a 37) 4 (nF br)), (aI k (a 40) 4 (upd fd_1 cc_1 (-1)))] hP hD
    clear hP hD
    obtain ⟨hP, hD⟩ := hQ9
    have hdv_4 : dvOK (upd fd_1 cc_1 (-1)) := dvOK_upd hdvl_1 cc_1 (-1) (.inl (by decide))
    generalize (upd fd_1 cc_1 (-1)) = f_4 at hP hD hdv_4
    refine lv_aload_n hx hb dX8_parkAll_22 rfl (lv_at hl 2 rfl) ?_
    refine va_get (D := D) (ci := 8) (v := .ref (a 1)) (C := RX8) (T := TX8) (N := 44) hx hb hts inX8 hown hK hP 0 rfl rfl 0 (by decide) (hts _ tw_973) (fun _ h9 => h9) rfl dX8_parkAll_23 ?_
    refine lv_iload_n hx hb dX8_parkAll_26 rfl (lv_at hl 3 rfl) ?_
    refine va_iald hx hb hK hP 1 1 rfl rfl (vp_in_nI (by omega) (by decide)) dX8_parkAll_27 ?_
    refine lv_ti (y := (nI (dn sn))) (by rw [nI_clamp (by omega)]; rfl) ?_
    refine lv_iconst (v := 1) hx hb dX8_parkAll_28 (by decide) ?_
    refine lv_isub hx hb dX8_parkAll_29 ?_
    refine lv_ti (y := (nI (dn sn) - 1)) rfl ?_
    refine lv_istore (lv' := [(5, .int (nI (dn sn) - 1)), (4, .int (nI cc_1)), (3, .int lf_1), (0, .ref (a 0)), (1, .int (nI sn)), (2, .int p1)]) hx hb dX8_parkAll_30 hl (by decide) rfl (fun ls hl => ?_)
    refine W_loop (σ := Nat × (Nat → Int32)) (fun (n_ : Nat) (x_ : Nat × (Nat → Int32)) (H : Heap) (locs : List Loc) (ls : Array Slot) => match x_ with | (q_5, fd_5) => n_ = 2 * q_5 ∧ (q_5 ≤ 24 ∧ dvOK fd_5) ∧ va_P D classes [((a 0), .inr (8, (fX8 a (nI tx) fp (nI t0) wd (nI we) nu na (nI rd) ts (nI ru) (nI rw) (nI ca) df db sd))), (aI k (a 1) 3 (nF dn)), (aI k (a 37) 4 (nF br)), (aI k (a 40) 4 fd_5)] H ∧ va_D A [((a 0), .inr (8, (fX8 a (nI tx) fp (nI t0) wd (nI we) nu na (nI rd) ts (nI ru) (nI rw) (nI ca) df db sd))), (aI k (a 1) 3 (nF dn)), (aI k (a 37) 4 (nF br)), (aI k (a 40) 4 fd_5)] ∧ va_S A s.heap H locs ∧ lv_has ls 6 [(5, .int (nI q_5 - 1)), (4, .int (nI cc_1)), (3, .int lf_1), (0, .ref (a 0)), (1, .int (nI sn)), (2, .int p1)]) (fun n_5 x_5 H locs ls hI ih_5 => ?_) _ (dn sn, f_4) ⟨rfl, ⟨by omega, hdv_4⟩, hP, hD, hS, (lv_sub hl [0, 1, 2, 3, 4, 5] rfl)⟩
    obtain ⟨q_5, fd_5⟩ := x_5
    obtain ⟨hm_5, hv_5, hP, hD, hS, hl⟩ := hI
    subst hm_5
    have hdvl_5 := hv_5.2
    rcases q_5 with _ | q_5
    · rw [dn0] at hl
      refine lv_iload hx hb dX8_parkAll_32 (lv_at hl 0 rfl) ?_
      refine lv_if_lt (tgt := 84) hx hb dX8_parkAll_34 (by decide) (fun _ => ?_) (fun h => absurd (by decide) h)
      refine lv_iload_n hx hb dX8_parkAll_84 rfl (lv_at hl 2 rfl) ?_
      refine lv_aload_n hx hb dX8_parkAll_85 rfl (lv_at hl 3 rfl) ?_
      refine va_get (D := D) (ci := 8) (v := .ref (a 40)) (C := RX8) (T := TX8) (N := 44) hx hb hts inX8 hown hK hP 0 rfl rfl 39 (by decide) (hts _ tw_1012) (fun _ h9 => h9) rfl dX8_parkAll_86 ?_
      refine lv_iload hx hb dX8_parkAll_89 (lv_at hl 1 rfl) ?_
      refine va_iald hx hb hK hP 3 1 rfl rfl (vp_in_nI (by omega) (by decide)) dX8_parkAll_91 ?_
      refine lv_ti (y := (fd_5 cc_1)) (by rw [nI_clamp (by omega)]) ?_
      refine lv_if_ge (tgt := 99) hx hb dX8_parkAll_92 (by decide) (fun c_6 => ?_) (fun c_6 => ?_)
      · refine lv_iconst (v := 1) hx hb dX8_parkAll_99 (by decide) ?_
        refine lv_aload_n hx hb dX8_parkAll_100 rfl (lv_at hl 3 rfl) ?_
        refine va_get (D := D) (ci := 8) (v := .ref (a 40)) (C := RX8) (T := TX8) (N := 44) hx hb hts inX8 hown hK hP 0 rfl rfl 39 (by decide) (hts _ tw_1012) (fun _ h9 => h9) rfl dX8_parkAll_101 ?_
        refine lv_iload hx hb dX8_parkAll_104 (lv_at hl 1 rfl) ?_
        refine va_iald hx hb hK hP 3 1 rfl rfl (vp_in_nI (by omega) (by decide)) dX8_parkAll_106 ?_
        refine lv_ti (y := (fd_5 cc_1)) (by rw [nI_clamp (by omega)]) ?_
        refine lv_ishl hx hb dX8_parkAll_107 ?_
        refine lv_topi (fun x_7 ex_7 => ?_)
        refine lv_iconst (v := (-1)) hx hb dX8_parkAll_108 (by decide) ?_
        refine lv_ixor hx hb dX8_parkAll_109 ?_
        refine lv_topi (fun x_8 ex_8 => ?_)
        refine lv_iand hx hb dX8_parkAll_110 ?_
        refine lv_topi (fun x_9 ex_9 => ?_)
        refine lv_istore_n (lv' := [(3, .int x_9), (5, .int (-1)), (4, .int (nI cc_1)), (0, .ref (a 0)), (1, .int (nI sn)), (2, .int p1)]) hx hb dX8_parkAll_111 rfl hl (by decide) rfl (fun ls hl => ?_)
        refine lv_iinc (v := (nI (cc_1 + 1))) (lv' := [(4, .int (nI (cc_1 + 1))), (3, .int x_9), (5, .int (-1)), (0, .ref (a 0)), (1, .int (nI sn)), (2, .int p1)]) hx hb dX8_parkAll_112 hl (k := 2) rfl (nI_add cc_1 1) (by decide) rfl (fun ls hl => ?_)
        refine lv_goto (tgt := 5) hx hb dX8_parkAll_115 (by decide) ?_
        exact ih_1 _ (cc_1 + 1, x_9, fd_5) _ _ _ (by omega) ⟨rfl, ⟨by omega, hdvl_5⟩, hP, hD, hS, (lv_sub hl [0, 1, 3, 4, 5] rfl)⟩
      · refine lv_iconst (v := (-1)) hx hb dX8_parkAll_95 (by decide) ?_
        refine lv_goto (tgt := 110) hx hb dX8_parkAll_96 (by decide) ?_
        refine lv_iand hx hb dX8_parkAll_110 ?_
        refine lv_topi (fun x_10 ex_10 => ?_)
        refine lv_istore_n (lv' := [(3, .int x_10), (5, .int (-1)), (4, .int (nI cc_1)), (0, .ref (a 0)), (1, .int (nI sn)), (2, .int p1)]) hx hb dX8_parkAll_111 rfl hl (by decide) rfl (fun ls hl => ?_)
        refine lv_iinc (v := (nI (cc_1 + 1))) (lv' := [(4, .int (nI (cc_1 + 1))), (3, .int x_10), (5, .int (-1)), (0, .ref (a 0)), (1, .int (nI sn)), (2, .int p1)]) hx hb dX8_parkAll_112 hl (k := 2) rfl (nI_add cc_1 1) (by decide) rfl (fun ls hl => ?_)
        refine lv_goto (tgt := 5) hx hb dX8_parkAll_115 (by decide) ?_
        exact ih_1 _ (cc_1 + 1, x_10, fd_5) _ _ _ (by omega) ⟨rfl, ⟨by omega, hdvl_5⟩, hP, hD, hS, (lv_sub hl [0, 1, 3, 4, 5] rfl)⟩
    · rw [nI_pred] at hl
      refine lv_iload hx hb dX8_parkAll_32 (lv_at hl 0 rfl) ?_
      refine lv_if_lt (tgt := 84) hx hb dX8_parkAll_34 (by decide) (fun h => absurd h (nI_pos0 (by omega))) (fun _ => ?_)
      refine lv_iload hx hb dX8_parkAll_37 (lv_at hl 0 rfl) ?_
      refine lv_aload_n hx hb dX8_parkAll_39 rfl (lv_at hl 3 rfl) ?_
      refine va_get (D := D) (ci := 8) (v := .ref (a 37)) (C := RX8) (T := TX8) (N := 44) hx hb hts inX8 hown hK hP 0 rfl rfl 36 (by decide) (hts _ tw_1009) (fun _ h9 => h9) rfl dX8_parkAll_40 ?_
      refine lv_iload hx hb dX8_parkAll_43 (lv_at hl 1 rfl) ?_
      refine va_iald hx hb hK hP 2 1 rfl rfl (vp_in_nI (by omega) (by decide)) dX8_parkAll_45 ?_
      have hq_11 := hbr cc_1
      refine lv_ti (y := (nI (br cc_1))) (by rw [nI_clamp (by omega)]; rfl) ?_
      refine lv_icmp_lt (tgt := 84) hx hb dX8_parkAll_46 (by decide) (fun c_12 => ?_) (fun c_12 => ?_)
      · have c_12 := (nI_ltI (a := q_5) (b := (br cc_1)) (by omega) (by omega)).mp c_12
        refine lv_iload_n hx hb dX8_parkAll_84 rfl (lv_at hl 2 rfl) ?_
        refine lv_aload_n hx hb dX8_parkAll_85 rfl (lv_at hl 3 rfl) ?_
        refine va_get (D := D) (ci := 8) (v := .ref (a 40)) (C := RX8) (T := TX8) (N := 44) hx hb hts inX8 hown hK hP 0 rfl rfl 39 (by decide) (hts _ tw_1012) (fun _ h9 => h9) rfl dX8_parkAll_86 ?_
        refine lv_iload hx hb dX8_parkAll_89 (lv_at hl 1 rfl) ?_
        refine va_iald hx hb hK hP 3 1 rfl rfl (vp_in_nI (by omega) (by decide)) dX8_parkAll_91 ?_
        refine lv_ti (y := (fd_5 cc_1)) (by rw [nI_clamp (by omega)]) ?_
        refine lv_if_ge (tgt := 99) hx hb dX8_parkAll_92 (by decide) (fun c_13 => ?_) (fun c_13 => ?_)
        · refine lv_iconst (v := 1) hx hb dX8_parkAll_99 (by decide) ?_
          refine lv_aload_n hx hb dX8_parkAll_100 rfl (lv_at hl 3 rfl) ?_
          refine va_get (D := D) (ci := 8) (v := .ref (a 40)) (C := RX8) (T := TX8) (N := 44) hx hb hts inX8 hown hK hP 0 rfl rfl 39 (by decide) (hts _ tw_1012) (fun _ h9 => h9) rfl dX8_parkAll_101 ?_
          refine lv_iload hx hb dX8_parkAll_104 (lv_at hl 1 rfl) ?_
          refine va_iald hx hb hK hP 3 1 rfl rfl (vp_in_nI (by omega) (by decide)) dX8_parkAll_106 ?_
          refine lv_ti (y := (fd_5 cc_1)) (by rw [nI_clamp (by omega)]) ?_
          refine lv_ishl hx hb dX8_parkAll_107 ?_
          refine lv_topi (fun x_14 ex_14 => ?_)
          refine lv_iconst (v := (-1)) hx hb dX8_parkAll_108 (by decide) ?_
          refine lv_ixor hx hb dX8_parkAll_109 ?_
          refine lv_topi (fun x_15 ex_15 => ?_)
          refine lv_iand hx hb dX8_parkAll_110 ?_
          refine lv_topi (fun x_16 ex_16 => ?_)
          refine lv_istore_n (lv' := [(3, .int x_16), (5, .int (nI q_5)), (4, .int (nI cc_1)), (0, .ref (a 0)), (1, .int (nI sn)), (2, .int p1)]) hx hb dX8_parkAll_111 rfl hl (by decide) rfl (fun ls hl => ?_)
          refine lv_iinc (v := (nI (cc_1 + 1))) (lv' := [(4, .int (nI (cc_1 + 1))), (3, .int x_16), (5, .int (nI q_5)), (0, .ref (a 0)), (1, .int (nI sn)), (2, .int p1)]) hx hb dX8_parkAll_112 hl (k := 2) rfl (nI_add cc_1 1) (by decide) rfl (fun ls hl => ?_)
          refine lv_goto (tgt := 5) hx hb dX8_parkAll_115 (by decide) ?_
          exact ih_1 _ (cc_1 + 1, x_16, fd_5) _ _ _ (by omega) ⟨rfl, ⟨by omega, hdvl_5⟩, hP, hD, hS, (lv_sub hl [0, 1, 3, 4, 5] rfl)⟩
        · refine lv_iconst (v := (-1)) hx hb dX8_parkAll_95 (by decide) ?_
          refine lv_goto (tgt := 110) hx hb dX8_parkAll_96 (by decide) ?_
          refine lv_iand hx hb dX8_parkAll_110 ?_
          refine lv_topi (fun x_17 ex_17 => ?_)
          refine lv_istore_n (lv' := [(3, .int x_17), (5, .int (nI q_5)), (4, .int (nI cc_1)), (0, .ref (a 0)), (1, .int (nI sn)), (2, .int p1)]) hx hb dX8_parkAll_111 rfl hl (by decide) rfl (fun ls hl => ?_)
          refine lv_iinc (v := (nI (cc_1 + 1))) (lv' := [(4, .int (nI (cc_1 + 1))), (3, .int x_17), (5, .int (nI q_5)), (0, .ref (a 0)), (1, .int (nI sn)), (2, .int p1)]) hx hb dX8_parkAll_112 hl (k := 2) rfl (nI_add cc_1 1) (by decide) rfl (fun ls hl => ?_)
          refine lv_goto (tgt := 5) hx hb dX8_parkAll_115 (by decide) ?_
          exact ih_1 _ (cc_1 + 1, x_17, fd_5) _ _ _ (by omega) ⟨rfl, ⟨by omega, hdvl_5⟩, hP, hD, hS, (lv_sub hl [0, 1, 3, 4, 5] rfl)⟩
      · have c_12 : ¬ (q_5 < (br cc_1)) := fun h => c_12 ((nI_ltI (a := q_5) (b := (br cc_1)) (by omega) (by omega)).mpr h)
        refine lv_aload_n hx hb dX8_parkAll_49 rfl (lv_at hl 3 rfl) ?_
        refine va_get (D := D) (ci := 8) (v := .ref (a 40)) (C := RX8) (T := TX8) (N := 44) hx hb hts inX8 hown hK hP 0 rfl rfl 39 (by decide) (hts _ tw_1012) (fun _ h9 => h9) rfl dX8_parkAll_50 ?_
        refine lv_iload hx hb dX8_parkAll_53 (lv_at hl 1 rfl) ?_
        refine lv_iload_n hx hb dX8_parkAll_55 rfl (lv_at hl 2 rfl) ?_
        refine lv_iload hx hb dX8_parkAll_56 (lv_at hl 0 rfl) ?_
        refine lv_ishr hx hb dX8_parkAll_58 ?_
        refine lv_topi (fun x_18 ex_18 => ?_)
        refine lv_iconst (v := 1) hx hb dX8_parkAll_59 (by decide) ?_
        refine lv_iand hx hb dX8_parkAll_60 ?_
        refine lv_topi (fun x_19 ex_19 => ?_)
        refine lv_iconst (v := 1) hx hb dX8_parkAll_61 (by decide) ?_
        refine lv_icmp_ne (tgt := 70) hx hb dX8_parkAll_62 (by decide) (fun c_20 => ?_) (fun c_20 => ?_)
        · refine lv_aload_n hx hb dX8_parkAll_70 rfl (lv_at hl 3 rfl) ?_
          refine va_get (D := D) (ci := 8) (v := .ref (a 40)) (C := RX8) (T := TX8) (N := 44) hx hb hts inX8 hown hK hP 0 rfl rfl 39 (by decide) (hts _ tw_1012) (fun _ h9 => h9) rfl dX8_parkAll_71 ?_
          refine lv_iload hx hb dX8_parkAll_74 (lv_at hl 1 rfl) ?_
          refine va_iald hx hb hK hP 3 1 rfl rfl (vp_in_nI (by omega) (by decide)) dX8_parkAll_76 ?_
          refine lv_ti (y := (fd_5 cc_1)) (by rw [nI_clamp (by omega)]) ?_
          refine va_iast hx hb hK hP hD hS 3 1 rfl rfl (vp_in_nI (by omega) (by decide)) dX8_parkAll_77 (fun H locs hP hD hS => ?_)
          have hQ9 := pd_mk [((a 0), .inr (8, (fX8 a (nI tx) fp (nI t0) wd (nI we) nu na (nI rd) ts (nI ru) (nI rw) (nI ca) df db sd))), (aI k (a 1) 3 (nF dn)), (aI k (a 37) 4 (nF br)), (aI k (a 40) 4 (upd fd_5 (Int32.toNatClampNeg (nI cc_1)) (fd_5 cc_1)))] hP hD
          clear hP hD
          obtain ⟨hP, hD⟩ := hQ9
          rw [nI_clamp (n := cc_1) (by omega)] at hP hD
          have hQ9 := pd_mk [((a 0), .inr (8, (fX8 a (nI tx) fp (nI t0) wd (nI we) nu na (nI rd) ts (nI ru) (nI rw) (nI ca) df db sd))), (aI k (a 1) 3 (nF dn)), (aI k (a 37) 4 (nF br)), (aI k (a 40) 4 (upd fd_5 cc_1 (fd_5 cc_1)))] hP hD
          clear hP hD
          obtain ⟨hP, hD⟩ := hQ9
          have hdv_22 : dvOK (upd fd_5 cc_1 (fd_5 cc_1)) := dvOK_upd hdvl_5 cc_1 (fd_5 cc_1) (hdvl_5 _)
          generalize (upd fd_5 cc_1 (fd_5 cc_1)) = f_22 at hP hD hdv_22
          refine lv_iinc (v := (nI q_5 - 1)) (lv' := [(5, .int (nI q_5 - 1)), (4, .int (nI cc_1)), (3, .int lf_1), (0, .ref (a 0)), (1, .int (nI sn)), (2, .int p1)]) hx hb dX8_parkAll_78 hl (k := 0) rfl (dn1 _) (by decide) rfl (fun ls hl => ?_)
          refine lv_goto (tgt := 32) hx hb dX8_parkAll_81 (by decide) ?_
          exact ih_5 _ (q_5, f_22) _ _ _ (by omega) ⟨rfl, ⟨by omega, hdv_22⟩, hP, hD, hS, (lv_sub hl [0, 1, 2, 3, 4, 5] rfl)⟩
        · refine lv_iload hx hb dX8_parkAll_65 (lv_at hl 0 rfl) ?_
          refine lv_goto (tgt := 77) hx hb dX8_parkAll_67 (by decide) ?_
          refine va_iast hx hb hK hP hD hS 3 1 rfl rfl (vp_in_nI (by omega) (by decide)) dX8_parkAll_77 (fun H locs hP hD hS => ?_)
          have hQ9 := pd_mk [((a 0), .inr (8, (fX8 a (nI tx) fp (nI t0) wd (nI we) nu na (nI rd) ts (nI ru) (nI rw) (nI ca) df db sd))), (aI k (a 1) 3 (nF dn)), (aI k (a 37) 4 (nF br)), (aI k (a 40) 4 (upd fd_5 (Int32.toNatClampNeg (nI cc_1)) (nI q_5)))] hP hD
          clear hP hD
          obtain ⟨hP, hD⟩ := hQ9
          rw [nI_clamp (n := cc_1) (by omega)] at hP hD
          have hQ9 := pd_mk [((a 0), .inr (8, (fX8 a (nI tx) fp (nI t0) wd (nI we) nu na (nI rd) ts (nI ru) (nI rw) (nI ca) df db sd))), (aI k (a 1) 3 (nF dn)), (aI k (a 37) 4 (nF br)), (aI k (a 40) 4 (upd fd_5 cc_1 (nI q_5)))] hP hD
          clear hP hD
          obtain ⟨hP, hD⟩ := hQ9
          have hdv_24 : dvOK (upd fd_5 cc_1 (nI q_5)) := dvOK_upd hdvl_5 cc_1 (nI q_5) (.inr ⟨q_5, by omega, rfl⟩)
          generalize (upd fd_5 cc_1 (nI q_5)) = f_24 at hP hD hdv_24
          refine lv_iinc (v := (nI q_5 - 1)) (lv' := [(5, .int (nI q_5 - 1)), (4, .int (nI cc_1)), (3, .int lf_1), (0, .ref (a 0)), (1, .int (nI sn)), (2, .int p1)]) hx hb dX8_parkAll_78 hl (k := 0) rfl (dn1 _) (by decide) rfl (fun ls hl => ?_)
          refine lv_goto (tgt := 32) hx hb dX8_parkAll_81 (by decide) ?_
          exact ih_5 _ (q_5, f_24) _ _ _ (by omega) ⟨rfl, ⟨by omega, hdv_24⟩, hP, hD, hS, (lv_sub hl [0, 1, 2, 3, 4, 5] rfl)⟩

theorem dX8_costOf_0 : decode cX8_costOf 0 = .ok (.aload_n 0, 1) := by decide +kernel
theorem dX8_costOf_1 : decode cX8_costOf 1 = .ok (.iload_n 1, 1) := by decide +kernel
theorem dX8_costOf_2 : decode cX8_costOf 2 = .ok (.iload_n 2, 1) := by decide +kernel
theorem dX8_costOf_3 : decode cX8_costOf 3 = .ok (.invokevirtual 327, 3) := by decide +kernel
theorem dX8_costOf_6 : decode cX8_costOf 6 = .ok (.aload_n 0, 1) := by decide +kernel
theorem dX8_costOf_7 : decode cX8_costOf 7 = .ok (.iload_n 1, 1) := by decide +kernel
theorem dX8_costOf_8 : decode cX8_costOf 8 = .ok (.iload_n 3, 1) := by decide +kernel
theorem dX8_costOf_9 : decode cX8_costOf 9 = .ok (.aload_n 0, 1) := by decide +kernel
theorem dX8_costOf_10 : decode cX8_costOf 10 = .ok (.getfield 90, 3) := by decide +kernel
theorem dX8_costOf_13 : decode cX8_costOf 13 = .ok (.iload_n 3, 1) := by decide +kernel
theorem dX8_costOf_14 : decode cX8_costOf 14 = .ok (.iaload, 1) := by decide +kernel
theorem dX8_costOf_15 : decode cX8_costOf 15 = .ok (.invokevirtual 330, 3) := by decide +kernel
theorem dX8_costOf_18 : decode cX8_costOf 18 = .ok (.ireturn, 1) := by decide +kernel
set_option maxHeartbeats 4000000 in
set_option maxRecDepth 100000 in
theorem m_costOf (l : Launch) (D : va_G) (k : Nat → ClassId) (st : Nat → Nat) (lo : Nat) (a : Nat → Nat) (tx : Nat) (t0 : Nat) (we : Nat) (rd : Nat) (ru : Nat) (rw : Nat) (ca : Nat) (fp : Int32) (wd : Int64) (nu : Int32) (na : Int32) (ts : Int32) (df : Int32) (db : Int32) (sd : Int32) (dn : Nat → Nat) (se : Nat → Nat) (tm : Nat → Nat) (gs : Nat → Int32) (fprices : Nat → Int32) (fwalks : Nat → Int32) (br : Nat → Nat) (fdoorsOf : Nat → Int32) (sn : Nat) (cn : Nat) (p1 : Int32) (hdn : ∀ j, dn j ≤ 24) (hca : ca ≤ 4) (hbr : ∀ j, br j ≤ 24) (hs : sn < 3) (hcn : cn < 4) (hdv : dvOK fdoorsOf) : CWi l D k st lo yX8_costOf cX8_costOf 4 (some .int) ({ frames := 4, cells := 0, slots := 0, locals := 94 }) 0 0 [.ref (a 0), .int (nI sn), .int p1, .int (nI cn)] [((a 0), .inr (8, (fX8 a (nI tx) fp (nI t0) wd (nI we) nu na (nI rd) ts (nI ru) (nI rw) (nI ca) df db sd))), (aI k (a 1) 3 (nF dn)), (aI k (a 4) 27 (sg se tm gs)), (aI k (a 3) 72 fprices), (aI k (a 36) 4 fwalks), (aI k (a 37) 4 (nF br)), (aI k (a 40) 4 fdoorsOf)] (fun (r : Int32) (fdoorsOf_ : (Nat → Int32)) => dvOK fdoorsOf_) (fun (fdoorsOf_ : (Nat → Int32)) => [((a 0), .inr (8, (fX8 a (nI tx) fp (nI t0) wd (nI we) nu na (nI rd) ts (nI ru) (nI rw) (nI ca) df db sd))), (aI k (a 1) 3 (nF dn)), (aI k (a 4) 27 (sg se tm gs)), (aI k (a 3) 72 fprices), (aI k (a 36) 4 fwalks), (aI k (a 37) 4 (nF br)), (aI k (a 40) 4 fdoorsOf_)]) := by
  intro sz
  refine Met.ofW (cc := cX8_costOf) (maxL := 4) (ret := (some .int)) (by decide) rfl ?_
  intro p e s m args below meth c s₁ B hml hv
  obtain ⟨rfl, hsz, hlo, hP, hK, hDL, hZ⟩ := hv
  have hx := B.exec
  have hb := B.bytes
  have hr := B.returns
  have hts := WS_ts B.pre
  have hown : s.vm.findClass RX8 = some m.cls := findClass_of_methodNamed B.named
  have hlocks := B.notSynchronized
  subst hsz
  have hD := hDL.self (sz := s.heap.size)
  have hAlo := A_lo hDL hlo
  generalize hAe : va_A [((a 0), .inr (8, (fX8 a (nI tx) fp (nI t0) wd (nI we) nu na (nI rd) ts (nI ru) (nI rw) (nI ca) df db sd))), (aI k (a 1) 3 (nF dn)), (aI k (a 4) 27 (sg se tm gs)), (aI k (a 3) 72 fprices), (aI k (a 36) 4 fwalks), (aI k (a 37) 4 (nF br)), (aI k (a 40) 4 fdoorsOf)] s.heap.size = A at hD hAlo ⊢
  have hA : ∀ q : Nat, s.heap.size ≤ q → A q := fun q h => by rw [← hAe]; exact Or.inr h
  have hS : va_S A s.heap s.heap [] := va_S.rf
  have hl := lv_entry ([.ref (a 0), .int (nI sn), .int p1, .int (nI cn)]) (n := 4) (Nat.le_of_ble_eq_true rfl)
  rw [lg_entry_eq]
  generalize (lg_sl ([.ref (a 0), .int (nI sn), .int p1, .int (nI cn)]) ++ List.replicate (4 - (lg_sl ([.ref (a 0), .int (nI sn), .int p1, .int (nI cn)])).length) Slot.unset).toArray = ls at hl ⊢
  have hl : lv_has ls 4 [(0, .ref (a 0)), (1, .int (nI sn)), (2, .int p1), (3, .int (nI cn))] := hl
  refine lv_aload_n hx hb dX8_costOf_0 rfl (lv_at hl 0 rfl) ?_
  refine lv_iload_n hx hb dX8_costOf_1 rfl (lv_at hl 1 rfl) ?_
  refine lv_iload_n hx hb dX8_costOf_2 rfl (lv_at hl 2 rfl) ?_
  refine rw_v (D := D) (wr := [(aI k (a 4) 27 (sg se tm gs)), (aI k (a 3) 72 fprices), (aI k (a 36) 4 fwalks)]) (va_runV (As := [.int (nI sn), .int p1]) (rest := []) ⟨hx, hb, hml, hown, hts⟩ ((m_parkAll l D k st lo a tx t0 we rd ru rw ca fp wd nu na ts df db sd dn br fdoorsOf sn p1 hdn (by first | assumption | omega) hbr (by first | assumption | omega) (by first | assumption | omega)) s.heap.size) (cwV 2 hts (gV tw_1398 tw_1400 tw_66 tw_87 tw_1401) rfl rfl rfl (by decide +kernel) ⟨Nat.le_of_ble_eq_true rfl, Nat.le_of_ble_eq_true rfl⟩) (pV hS hAlo hlo hP hK (va_Dlo hD hAlo) hZ [0, 1, 5, 6] (by decide) rfl (ci := 8) (q := (RX8, TX8, 44)) (q0 := 0) rfl rfl) rfl rfl hl.1 rfl (lv_room (Nat.le_of_ble_eq_true rfl)) dX8_costOf_3 ⟨Nat.le_of_ble_eq_true rfl, Nat.le_of_ble_eq_true rfl⟩) hS hA hP hD [0, 1, 5, 6] [2, 3, 4] rfl rfl (by decide) (by decide) (fun u H locs hw_1 hP hD hS => ?_)
  obtain ⟨fdoorsOf__1, rfl⟩ : ∃ z, z = u := ⟨_, rfl⟩
  have hQ9 := pd_mk [(aI k (a 4) 27 (sg se tm gs)), (aI k (a 3) 72 fprices), (aI k (a 36) 4 fwalks), ((a 0), .inr (8, (fX8 a (nI tx) fp (nI t0) wd (nI we) nu na (nI rd) ts (nI ru) (nI rw) (nI ca) df db sd))), (aI k (a 1) 3 (nF dn)), (aI k (a 37) 4 (nF br)), (aI k (a 40) 4 fdoorsOf__1)] hP hD
  clear hP hD
  obtain ⟨hP, hD⟩ := hQ9
  try dsimp only at hw_1
  refine lv_aload_n hx hb dX8_costOf_6 rfl (lv_at hl 0 rfl) ?_
  refine lv_iload_n hx hb dX8_costOf_7 rfl (lv_at hl 1 rfl) ?_
  refine lv_iload_n hx hb dX8_costOf_8 rfl (lv_at hl 3 rfl) ?_
  refine lv_aload_n hx hb dX8_costOf_9 rfl (lv_at hl 0 rfl) ?_
  refine va_get (D := D) (ci := 8) (v := .ref (a 40)) (C := RX8) (T := TX8) (N := 44) hx hb hts inX8 hown hK hP 3 rfl rfl 39 (by decide) (hts _ tw_1012) (fun _ h9 => h9) rfl dX8_costOf_10 ?_
  refine lv_iload_n hx hb dX8_costOf_13 rfl (lv_at hl 3 rfl) ?_
  refine va_iald hx hb hK hP 6 1 rfl rfl (vp_in_nI (by omega) (by decide)) dX8_costOf_14 ?_
  refine lv_ti (y := (fdoorsOf__1 cn)) (by rw [nI_clamp (by omega)]) ?_
  refine ro_i (D := D) (va_runV (As := [.int (nI sn), .int (nI cn), .int (fdoorsOf__1 cn)]) (rest := []) ⟨hx, hb, hml, hown, hts⟩ ((m_costAt l D k st lo a tx t0 we rd ru rw ca fp wd nu na ts df db sd dn se tm gs fprices fwalks sn cn (fdoorsOf__1 cn) (by first | assumption | omega) (by first | assumption | omega) (hw_1 _)) H.size) (cwV 3 hts (gV tw_1402 tw_1404 tw_67 tw_87 tw_1405) rfl rfl rfl (by decide +kernel) ⟨Nat.le_of_ble_eq_true rfl, Nat.le_of_ble_eq_true rfl⟩) (pV hS hAlo hlo hP hK (va_Dlo hD hAlo) hZ [3, 4, 0, 1, 2] (by decide) rfl (ci := 8) (q := (RX8, TX8, 44)) (q0 := 0) rfl rfl) rfl rfl hl.1 rfl (lv_room (Nat.le_of_ble_eq_true rfl)) dX8_costOf_15 ⟨Nat.le_of_ble_eq_true rfl, Nat.le_of_ble_eq_true rfl⟩) hS hA hP (fun r_2 H locs hw_2 hP hS => ?_)
  try dsimp only at hw_2
  obtain ⟨hP9, hD9⟩ := pd_sub [((a 0), .inr (8, (fX8 a (nI tx) fp (nI t0) wd (nI we) nu na (nI rd) ts (nI ru) (nI rw) (nI ca) df db sd))), (aI k (a 1) 3 (nF dn)), (aI k (a 4) 27 (sg se tm gs)), (aI k (a 3) 72 fprices), (aI k (a 36) 4 fwalks), (aI k (a 37) 4 (nF br)), (aI k (a 40) 4 fdoorsOf__1)] [3, 4, 0, 1, 2, 5, 6] hP hD (by decide) rfl
  exact W.iret (v := r_2) hx hb hr (fun t ht hW => ⟨⟨r_2, fdoorsOf__1, rfl, hw_1, by rw [ht]; exact hP9, hD9⟩, hS.F ht⟩) hS.2.2 dX8_costOf_18

theorem dX8_allCosts_0 : decode cX8_allCosts 0 = .ok (.aload_n 0, 1) := by decide +kernel
theorem dX8_allCosts_1 : decode cX8_allCosts 1 = .ok (.iload_n 1, 1) := by decide +kernel
theorem dX8_allCosts_2 : decode cX8_allCosts 2 = .ok (.iload_n 2, 1) := by decide +kernel
theorem dX8_allCosts_3 : decode cX8_allCosts 3 = .ok (.invokevirtual 327, 3) := by decide +kernel
theorem dX8_allCosts_6 : decode cX8_allCosts 6 = .ok (.iconst 0, 1) := by decide +kernel
theorem dX8_allCosts_7 : decode cX8_allCosts 7 = .ok (.istore_n 3, 1) := by decide +kernel
theorem dX8_allCosts_8 : decode cX8_allCosts 8 = .ok (.iconst 0, 1) := by decide +kernel
theorem dX8_allCosts_9 : decode cX8_allCosts 9 = .ok (.istore 4, 2) := by decide +kernel
theorem dX8_allCosts_11 : decode cX8_allCosts 11 = .ok (.iload 4, 2) := by decide +kernel
theorem dX8_allCosts_13 : decode cX8_allCosts 13 = .ok (.aload_n 0, 1) := by decide +kernel
theorem dX8_allCosts_14 : decode cX8_allCosts 14 = .ok (.getfield 315, 3) := by decide +kernel
theorem dX8_allCosts_17 : decode cX8_allCosts 17 = .ok (.if_icmp .ge 26, 3) := by decide +kernel
theorem dX8_allCosts_20 : decode cX8_allCosts 20 = .ok (.iload_n 3, 1) := by decide +kernel
theorem dX8_allCosts_21 : decode cX8_allCosts 21 = .ok (.aload_n 0, 1) := by decide +kernel
theorem dX8_allCosts_22 : decode cX8_allCosts 22 = .ok (.iload_n 1, 1) := by decide +kernel
theorem dX8_allCosts_23 : decode cX8_allCosts 23 = .ok (.iload 4, 2) := by decide +kernel
theorem dX8_allCosts_25 : decode cX8_allCosts 25 = .ok (.aload_n 0, 1) := by decide +kernel
theorem dX8_allCosts_26 : decode cX8_allCosts 26 = .ok (.getfield 90, 3) := by decide +kernel
theorem dX8_allCosts_29 : decode cX8_allCosts 29 = .ok (.iload 4, 2) := by decide +kernel
theorem dX8_allCosts_31 : decode cX8_allCosts 31 = .ok (.iaload, 1) := by decide +kernel
theorem dX8_allCosts_32 : decode cX8_allCosts 32 = .ok (.invokevirtual 330, 3) := by decide +kernel
theorem dX8_allCosts_35 : decode cX8_allCosts 35 = .ok (.iadd, 1) := by decide +kernel
theorem dX8_allCosts_36 : decode cX8_allCosts 36 = .ok (.istore_n 3, 1) := by decide +kernel
theorem dX8_allCosts_37 : decode cX8_allCosts 37 = .ok (.iinc 4 1, 3) := by decide +kernel
theorem dX8_allCosts_40 : decode cX8_allCosts 40 = .ok (.goto (-29), 3) := by decide +kernel
theorem dX8_allCosts_43 : decode cX8_allCosts 43 = .ok (.iload_n 3, 1) := by decide +kernel
theorem dX8_allCosts_44 : decode cX8_allCosts 44 = .ok (.ireturn, 1) := by decide +kernel
set_option maxHeartbeats 4000000 in
set_option maxRecDepth 100000 in
theorem m_allCosts (l : Launch) (D : va_G) (k : Nat → ClassId) (st : Nat → Nat) (lo : Nat) (a : Nat → Nat) (tx : Nat) (t0 : Nat) (we : Nat) (rd : Nat) (ru : Nat) (rw : Nat) (ca : Nat) (fp : Int32) (wd : Int64) (nu : Int32) (na : Int32) (ts : Int32) (df : Int32) (db : Int32) (sd : Int32) (dn : Nat → Nat) (se : Nat → Nat) (tm : Nat → Nat) (gs : Nat → Int32) (fprices : Nat → Int32) (fwalks : Nat → Int32) (br : Nat → Nat) (fdoorsOf : Nat → Int32) (sn : Nat) (p1 : Int32) (hdn : ∀ j, dn j ≤ 24) (hca : ca ≤ 4) (hbr : ∀ j, br j ≤ 24) (hs : sn < 3) (hdv : dvOK fdoorsOf) : CWi l D k st lo yX8_allCosts cX8_allCosts 5 (some .int) ({ frames := 4, cells := 0, slots := 0, locals := 94 }) 0 0 [.ref (a 0), .int (nI sn), .int p1] [((a 0), .inr (8, (fX8 a (nI tx) fp (nI t0) wd (nI we) nu na (nI rd) ts (nI ru) (nI rw) (nI ca) df db sd))), (aI k (a 1) 3 (nF dn)), (aI k (a 4) 27 (sg se tm gs)), (aI k (a 3) 72 fprices), (aI k (a 36) 4 fwalks), (aI k (a 37) 4 (nF br)), (aI k (a 40) 4 fdoorsOf)] (fun (r : Int32) (fdoorsOf_ : (Nat → Int32)) => dvOK fdoorsOf_) (fun (fdoorsOf_ : (Nat → Int32)) => [((a 0), .inr (8, (fX8 a (nI tx) fp (nI t0) wd (nI we) nu na (nI rd) ts (nI ru) (nI rw) (nI ca) df db sd))), (aI k (a 1) 3 (nF dn)), (aI k (a 4) 27 (sg se tm gs)), (aI k (a 3) 72 fprices), (aI k (a 36) 4 fwalks), (aI k (a 37) 4 (nF br)), (aI k (a 40) 4 fdoorsOf_)]) := by
  intro sz
  refine Met.ofW (cc := cX8_allCosts) (maxL := 5) (ret := (some .int)) (by decide) rfl ?_
  intro p e s m args below meth c s₁ B hml hv
  obtain ⟨rfl, hsz, hlo, hP, hK, hDL, hZ⟩ := hv
  have hx := B.exec
  have hb := B.bytes
  have hr := B.returns
  have hts := WS_ts B.pre
  have hown : s.vm.findClass RX8 = some m.cls := findClass_of_methodNamed B.named
  have hlocks := B.notSynchronized
  subst hsz
  have hD := hDL.self (sz := s.heap.size)
  have hAlo := A_lo hDL hlo
  generalize hAe : va_A [((a 0), .inr (8, (fX8 a (nI tx) fp (nI t0) wd (nI we) nu na (nI rd) ts (nI ru) (nI rw) (nI ca) df db sd))), (aI k (a 1) 3 (nF dn)), (aI k (a 4) 27 (sg se tm gs)), (aI k (a 3) 72 fprices), (aI k (a 36) 4 fwalks), (aI k (a 37) 4 (nF br)), (aI k (a 40) 4 fdoorsOf)] s.heap.size = A at hD hAlo ⊢
  have hA : ∀ q : Nat, s.heap.size ≤ q → A q := fun q h => by rw [← hAe]; exact Or.inr h
  have hS : va_S A s.heap s.heap [] := va_S.rf
  have hl := lv_entry ([.ref (a 0), .int (nI sn), .int p1]) (n := 5) (Nat.le_of_ble_eq_true rfl)
  rw [lg_entry_eq]
  generalize (lg_sl ([.ref (a 0), .int (nI sn), .int p1]) ++ List.replicate (5 - (lg_sl ([.ref (a 0), .int (nI sn), .int p1])).length) Slot.unset).toArray = ls at hl ⊢
  have hl : lv_has ls 5 [(0, .ref (a 0)), (1, .int (nI sn)), (2, .int p1)] := hl
  refine lv_aload_n hx hb dX8_allCosts_0 rfl (lv_at hl 0 rfl) ?_
  refine lv_iload_n hx hb dX8_allCosts_1 rfl (lv_at hl 1 rfl) ?_
  refine lv_iload_n hx hb dX8_allCosts_2 rfl (lv_at hl 2 rfl) ?_
  refine rw_v (D := D) (wr := [(aI k (a 4) 27 (sg se tm gs)), (aI k (a 3) 72 fprices), (aI k (a 36) 4 fwalks)]) (va_runV (As := [.int (nI sn), .int p1]) (rest := []) ⟨hx, hb, hml, hown, hts⟩ ((m_parkAll l D k st lo a tx t0 we rd ru rw ca fp wd nu na ts df db sd dn br fdoorsOf sn p1 hdn (by first | assumption | omega) hbr (by first | assumption | omega) (by first | assumption | omega)) s.heap.size) (cwV 2 hts (gV tw_1398 tw_1400 tw_66 tw_87 tw_1401) rfl rfl rfl (by decide +kernel) ⟨Nat.le_of_ble_eq_true rfl, Nat.le_of_ble_eq_true rfl⟩) (pV hS hAlo hlo hP hK (va_Dlo hD hAlo) hZ [0, 1, 5, 6] (by decide) rfl (ci := 8) (q := (RX8, TX8, 44)) (q0 := 0) rfl rfl) rfl rfl hl.1 rfl (lv_room (Nat.le_of_ble_eq_true rfl)) dX8_allCosts_3 ⟨Nat.le_of_ble_eq_true rfl, Nat.le_of_ble_eq_true rfl⟩) hS hA hP hD [0, 1, 5, 6] [2, 3, 4] rfl rfl (by decide) (by decide) (fun u H locs hw_1 hP hD hS => ?_)
  obtain ⟨fdoorsOf__1, rfl⟩ : ∃ z, z = u := ⟨_, rfl⟩
  have hQ9 := pd_mk [(aI k (a 4) 27 (sg se tm gs)), (aI k (a 3) 72 fprices), (aI k (a 36) 4 fwalks), ((a 0), .inr (8, (fX8 a (nI tx) fp (nI t0) wd (nI we) nu na (nI rd) ts (nI ru) (nI rw) (nI ca) df db sd))), (aI k (a 1) 3 (nF dn)), (aI k (a 37) 4 (nF br)), (aI k (a 40) 4 fdoorsOf__1)] hP hD
  clear hP hD
  obtain ⟨hP, hD⟩ := hQ9
  try dsimp only at hw_1
  refine lv_iconst (v := 0) hx hb dX8_allCosts_6 (by decide) ?_
  refine lv_istore_n (lv' := [(3, .int 0), (0, .ref (a 0)), (1, .int (nI sn)), (2, .int p1)]) hx hb dX8_allCosts_7 rfl hl (by decide) rfl (fun ls hl => ?_)
  refine lv_iconst (v := 0) hx hb dX8_allCosts_8 (by decide) ?_
  refine lv_istore (lv' := [(4, .int 0), (3, .int 0), (0, .ref (a 0)), (1, .int (nI sn)), (2, .int p1)]) hx hb dX8_allCosts_9 hl (by decide) rfl (fun ls hl => ?_)
  refine W_loop (σ := Nat × Int32) (fun (n_ : Nat) (x_ : Nat × Int32) (H : Heap) (locs : List Loc) (ls : Array Slot) => match x_ with | (cc_2, su_2) => n_ = 4 - cc_2 ∧ (cc_2 ≤ 4) ∧ va_P D classes [(aI k (a 4) 27 (sg se tm gs)), (aI k (a 3) 72 fprices), (aI k (a 36) 4 fwalks), ((a 0), .inr (8, (fX8 a (nI tx) fp (nI t0) wd (nI we) nu na (nI rd) ts (nI ru) (nI rw) (nI ca) df db sd))), (aI k (a 1) 3 (nF dn)), (aI k (a 37) 4 (nF br)), (aI k (a 40) 4 fdoorsOf__1)] H ∧ va_D A [(aI k (a 4) 27 (sg se tm gs)), (aI k (a 3) 72 fprices), (aI k (a 36) 4 fwalks), ((a 0), .inr (8, (fX8 a (nI tx) fp (nI t0) wd (nI we) nu na (nI rd) ts (nI ru) (nI rw) (nI ca) df db sd))), (aI k (a 1) 3 (nF dn)), (aI k (a 37) 4 (nF br)), (aI k (a 40) 4 fdoorsOf__1)] ∧ va_S A s.heap H locs ∧ lv_has ls 5 [(4, .int (nI cc_2)), (3, .int su_2), (0, .ref (a 0)), (1, .int (nI sn)), (2, .int p1)]) (fun n_2 x_2 H locs ls hI ih_2 => ?_) _ (0, 0) ⟨rfl, (by omega), hP, hD, hS, (lv_sub hl [0, 1, 2, 3, 4] rfl)⟩
  obtain ⟨cc_2, su_2⟩ := x_2
  obtain ⟨hm_2, hv_2, hP, hD, hS, hl⟩ := hI
  subst hm_2
  refine lv_iload hx hb dX8_allCosts_11 (lv_at hl 0 rfl) ?_
  refine lv_aload_n hx hb dX8_allCosts_13 rfl (lv_at hl 2 rfl) ?_
  refine va_get (D := D) (ci := 8) (v := .int (nI ca)) (C := RX8) (T := TX8) (N := 44) hx hb hts inX8 hown hK hP 3 rfl rfl 34 (by decide) (hts _ tw_1007) (fun _ h9 => h9) rfl dX8_allCosts_14 ?_
  refine lv_icmp_ge (tgt := 43) hx hb dX8_allCosts_17 (by decide) (fun c_3 => ?_) (fun c_3 => ?_)
  · have c_3 := (nI_leI (a := ca) (b := cc_2) (by omega) (by omega)).mp c_3
    refine lv_iload_n hx hb dX8_allCosts_43 rfl (lv_at hl 1 rfl) ?_
    obtain ⟨hP9, hD9⟩ := pd_sub [((a 0), .inr (8, (fX8 a (nI tx) fp (nI t0) wd (nI we) nu na (nI rd) ts (nI ru) (nI rw) (nI ca) df db sd))), (aI k (a 1) 3 (nF dn)), (aI k (a 4) 27 (sg se tm gs)), (aI k (a 3) 72 fprices), (aI k (a 36) 4 fwalks), (aI k (a 37) 4 (nF br)), (aI k (a 40) 4 fdoorsOf__1)] [3, 4, 0, 1, 2, 5, 6] hP hD (by decide) rfl
    exact W.iret (v := su_2) hx hb hr (fun t ht hW => ⟨⟨su_2, fdoorsOf__1, rfl, hw_1, by rw [ht]; exact hP9, hD9⟩, hS.F ht⟩) hS.2.2 dX8_allCosts_44
  · have c_3 : ¬ (ca ≤ cc_2) := fun h => c_3 ((nI_leI (a := ca) (b := cc_2) (by omega) (by omega)).mpr h)
    refine lv_iload_n hx hb dX8_allCosts_20 rfl (lv_at hl 1 rfl) ?_
    refine lv_aload_n hx hb dX8_allCosts_21 rfl (lv_at hl 2 rfl) ?_
    refine lv_iload_n hx hb dX8_allCosts_22 rfl (lv_at hl 3 rfl) ?_
    refine lv_iload hx hb dX8_allCosts_23 (lv_at hl 0 rfl) ?_
    refine lv_aload_n hx hb dX8_allCosts_25 rfl (lv_at hl 2 rfl) ?_
    refine va_get (D := D) (ci := 8) (v := .ref (a 40)) (C := RX8) (T := TX8) (N := 44) hx hb hts inX8 hown hK hP 3 rfl rfl 39 (by decide) (hts _ tw_1012) (fun _ h9 => h9) rfl dX8_allCosts_26 ?_
    refine lv_iload hx hb dX8_allCosts_29 (lv_at hl 0 rfl) ?_
    refine va_iald hx hb hK hP 6 1 rfl rfl (vp_in_nI (by omega) (by decide)) dX8_allCosts_31 ?_
    refine lv_ti (y := (fdoorsOf__1 cc_2)) (by rw [nI_clamp (by omega)]) ?_
    refine ro_i (D := D) (va_runV (As := [.int (nI sn), .int (nI cc_2), .int (fdoorsOf__1 cc_2)]) (rest := [.int su_2]) ⟨hx, hb, hml, hown, hts⟩ ((m_costAt l D k st lo a tx t0 we rd ru rw ca fp wd nu na ts df db sd dn se tm gs fprices fwalks sn cc_2 (fdoorsOf__1 cc_2) (by first | assumption | omega) (by first | assumption | omega) (hw_1 _)) H.size) (cwV 3 hts (gV tw_1402 tw_1404 tw_67 tw_87 tw_1405) rfl rfl rfl (by decide +kernel) ⟨Nat.le_of_ble_eq_true rfl, Nat.le_of_ble_eq_true rfl⟩) (pV hS hAlo hlo hP hK (va_Dlo hD hAlo) hZ [3, 4, 0, 1, 2] (by decide) rfl (ci := 8) (q := (RX8, TX8, 44)) (q0 := 0) rfl rfl) rfl rfl hl.1 rfl (lv_room (Nat.le_of_ble_eq_true rfl)) dX8_allCosts_32 ⟨Nat.le_of_ble_eq_true rfl, Nat.le_of_ble_eq_true rfl⟩) hS hA hP (fun r_4 H locs hw_4 hP hS => ?_)
    try dsimp only at hw_4
    refine lv_iadd hx hb dX8_allCosts_35 ?_
    refine lv_topi (fun x_5 ex_5 => ?_)
    refine lv_istore_n (lv' := [(3, .int x_5), (4, .int (nI cc_2)), (0, .ref (a 0)), (1, .int (nI sn)), (2, .int p1)]) hx hb dX8_allCosts_36 rfl hl (by decide) rfl (fun ls hl => ?_)
    refine lv_iinc (v := (nI (cc_2 + 1))) (lv' := [(4, .int (nI (cc_2 + 1))), (3, .int x_5), (0, .ref (a 0)), (1, .int (nI sn)), (2, .int p1)]) hx hb dX8_allCosts_37 hl (k := 1) rfl (nI_add cc_2 1) (by decide) rfl (fun ls hl => ?_)
    refine lv_goto (tgt := 11) hx hb dX8_allCosts_40 (by decide) ?_
    exact ih_2 _ (cc_2 + 1, x_5) _ _ _ (by omega) ⟨rfl, (by omega), hP, hD, hS, (lv_sub hl [0, 1, 2, 3, 4] rfl)⟩

theorem dX8_parks_0 : decode cX8_parks 0 = .ok (.aload_n 0, 1) := by decide +kernel
theorem dX8_parks_1 : decode cX8_parks 1 = .ok (.iload_n 1, 1) := by decide +kernel
theorem dX8_parks_2 : decode cX8_parks 2 = .ok (.invokevirtual 206, 3) := by decide +kernel
theorem dX8_parks_5 : decode cX8_parks 5 = .ok (.ifCond .eq 11, 3) := by decide +kernel
theorem dX8_parks_8 : decode cX8_parks 8 = .ok (.aload_n 0, 1) := by decide +kernel
theorem dX8_parks_9 : decode cX8_parks 9 = .ok (.iload_n 3, 1) := by decide +kernel
theorem dX8_parks_10 : decode cX8_parks 10 = .ok (.invokevirtual 318, 3) := by decide +kernel
theorem dX8_parks_13 : decode cX8_parks 13 = .ok (.ifCond .ne 7, 3) := by decide +kernel
theorem dX8_parks_16 : decode cX8_parks 16 = .ok (.sipush (-1001), 3) := by decide +kernel
theorem dX8_parks_19 : decode cX8_parks 19 = .ok (.ireturn, 1) := by decide +kernel
theorem dX8_parks_20 : decode cX8_parks 20 = .ok (.aload_n 0, 1) := by decide +kernel
theorem dX8_parks_21 : decode cX8_parks 21 = .ok (.iload_n 1, 1) := by decide +kernel
theorem dX8_parks_22 : decode cX8_parks 22 = .ok (.iload_n 2, 1) := by decide +kernel
theorem dX8_parks_23 : decode cX8_parks 23 = .ok (.invokevirtual 333, 3) := by decide +kernel
theorem dX8_parks_26 : decode cX8_parks 26 = .ok (.ifCond .eq 14, 3) := by decide +kernel
theorem dX8_parks_29 : decode cX8_parks 29 = .ok (.iload 4, 2) := by decide +kernel
theorem dX8_parks_31 : decode cX8_parks 31 = .ok (.i2l, 1) := by decide +kernel
theorem dX8_parks_32 : decode cX8_parks 32 = .ok (.lconst 0, 1) := by decide +kernel
theorem dX8_parks_33 : decode cX8_parks 33 = .ok (.lconst 1, 1) := by decide +kernel
theorem dX8_parks_34 : decode cX8_parks 34 = .ok (.invokestatic 107, 3) := by decide +kernel
theorem dX8_parks_37 : decode cX8_parks 37 = .ok (.ifCond .ne 7, 3) := by decide +kernel
theorem dX8_parks_40 : decode cX8_parks 40 = .ok (.sipush (-1002), 3) := by decide +kernel
theorem dX8_parks_43 : decode cX8_parks 43 = .ok (.ireturn, 1) := by decide +kernel
theorem dX8_parks_44 : decode cX8_parks 44 = .ok (.aload_n 0, 1) := by decide +kernel
theorem dX8_parks_45 : decode cX8_parks 45 = .ok (.iload_n 1, 1) := by decide +kernel
theorem dX8_parks_46 : decode cX8_parks 46 = .ok (.iload_n 2, 1) := by decide +kernel
theorem dX8_parks_47 : decode cX8_parks 47 = .ok (.iload_n 3, 1) := by decide +kernel
theorem dX8_parks_48 : decode cX8_parks 48 = .ok (.invokevirtual 336, 3) := by decide +kernel
theorem dX8_parks_51 : decode cX8_parks 51 = .ok (.istore 5, 2) := by decide +kernel
theorem dX8_parks_53 : decode cX8_parks 53 = .ok (.iload 4, 2) := by decide +kernel
theorem dX8_parks_55 : decode cX8_parks 55 = .ok (.ifCond .ne 12, 3) := by decide +kernel
theorem dX8_parks_58 : decode cX8_parks 58 = .ok (.aload_n 0, 1) := by decide +kernel
theorem dX8_parks_59 : decode cX8_parks 59 = .ok (.getfield 90, 3) := by decide +kernel
theorem dX8_parks_62 : decode cX8_parks 62 = .ok (.iload_n 3, 1) := by decide +kernel
theorem dX8_parks_63 : decode cX8_parks 63 = .ok (.iaload, 1) := by decide +kernel
theorem dX8_parks_64 : decode cX8_parks 64 = .ok (.goto 5, 3) := by decide +kernel
theorem dX8_parks_67 : decode cX8_parks 67 = .ok (.iload 5, 2) := by decide +kernel
theorem dX8_parks_69 : decode cX8_parks 69 = .ok (.ireturn, 1) := by decide +kernel
set_option maxHeartbeats 4000000 in
set_option maxRecDepth 100000 in
theorem m_parks (l : Launch) (D : va_G) (k : Nat → ClassId) (st : Nat → Nat) (lo : Nat) (a : Nat → Nat) (tx : Nat) (t0 : Nat) (we : Nat) (rd : Nat) (ru : Nat) (rw : Nat) (ca : Nat) (fp : Int32) (wd : Int64) (nu : Int32) (na : Int32) (ts : Int32) (df : Int32) (db : Int32) (sd : Int32) (dn : Nat → Nat) (se : Nat → Nat) (tm : Nat → Nat) (gs : Nat → Int32) (fprices : Nat → Int32) (fwalks : Nat → Int32) (br : Nat → Nat) (fdoorsOf : Nat → Int32) (p0 : Int32) (p1 : Int32) (p2 : Int32) (p3 : Int32) (hdn : ∀ j, dn j ≤ 24) (hca : ca ≤ 4) (hbr : ∀ j, br j ≤ 24) (hdv : dvOK fdoorsOf) : CWi l D k st lo yX8_parks cX8_parks 6 (some .int) ({ frames := 5, cells := 0, slots := 0, locals := 117 }) 0 0 [.ref (a 0), .int p0, .int p1, .int p2, .int p3] [((a 0), .inr (8, (fX8 a (nI tx) fp (nI t0) wd (nI we) nu na (nI rd) ts (nI ru) (nI rw) (nI ca) df db sd))), (aI k (a 1) 3 (nF dn)), (aI k (a 4) 27 (sg se tm gs)), (aI k (a 3) 72 fprices), (aI k (a 36) 4 fwalks), (aI k (a 37) 4 (nF br)), (aI k (a 40) 4 fdoorsOf)] (fun (r : Int32) (fdoorsOf_ : (Nat → Int32)) => dvOK fdoorsOf_) (fun (fdoorsOf_ : (Nat → Int32)) => [((a 0), .inr (8, (fX8 a (nI tx) fp (nI t0) wd (nI we) nu na (nI rd) ts (nI ru) (nI rw) (nI ca) df db sd))), (aI k (a 1) 3 (nF dn)), (aI k (a 4) 27 (sg se tm gs)), (aI k (a 3) 72 fprices), (aI k (a 36) 4 fwalks), (aI k (a 37) 4 (nF br)), (aI k (a 40) 4 fdoorsOf_)]) := by
  intro sz
  refine Met.ofW (cc := cX8_parks) (maxL := 6) (ret := (some .int)) (by decide) rfl ?_
  intro p e s m args below meth c s₁ B hml hv
  obtain ⟨rfl, hsz, hlo, hP, hK, hDL, hZ⟩ := hv
  have hx := B.exec
  have hb := B.bytes
  have hr := B.returns
  have hts := WS_ts B.pre
  have hown : s.vm.findClass RX8 = some m.cls := findClass_of_methodNamed B.named
  have hlocks := B.notSynchronized
  subst hsz
  have hD := hDL.self (sz := s.heap.size)
  have hAlo := A_lo hDL hlo
  generalize hAe : va_A [((a 0), .inr (8, (fX8 a (nI tx) fp (nI t0) wd (nI we) nu na (nI rd) ts (nI ru) (nI rw) (nI ca) df db sd))), (aI k (a 1) 3 (nF dn)), (aI k (a 4) 27 (sg se tm gs)), (aI k (a 3) 72 fprices), (aI k (a 36) 4 fwalks), (aI k (a 37) 4 (nF br)), (aI k (a 40) 4 fdoorsOf)] s.heap.size = A at hD hAlo ⊢
  have hA : ∀ q : Nat, s.heap.size ≤ q → A q := fun q h => by rw [← hAe]; exact Or.inr h
  have hS : va_S A s.heap s.heap [] := va_S.rf
  have hl := lv_entry ([.ref (a 0), .int p0, .int p1, .int p2, .int p3]) (n := 6) (Nat.le_of_ble_eq_true rfl)
  rw [lg_entry_eq]
  generalize (lg_sl ([.ref (a 0), .int p0, .int p1, .int p2, .int p3]) ++ List.replicate (6 - (lg_sl ([.ref (a 0), .int p0, .int p1, .int p2, .int p3])).length) Slot.unset).toArray = ls at hl ⊢
  have hl : lv_has ls 6 [(0, .ref (a 0)), (1, .int p0), (2, .int p1), (3, .int p2), (4, .int p3)] := hl
  refine lv_aload_n hx hb dX8_parks_0 rfl (lv_at hl 0 rfl) ?_
  refine lv_iload_n hx hb dX8_parks_1 rfl (lv_at hl 1 rfl) ?_
  refine ro_i (D := D) (va_runV (As := [.int p0]) (rest := []) ⟨hx, hb, hml, hown, hts⟩ ((m_isStreet l D k st lo a tx t0 we rd ru rw ca fp wd nu na ts df db sd dn p0 hdn) s.heap.size) (cwV 1 hts (gV tw_1189 tw_1191 tw_38 tw_87 tw_1192) rfl rfl rfl (by decide +kernel) ⟨Nat.le_of_ble_eq_true rfl, Nat.le_of_ble_eq_true rfl⟩) (pV hS hAlo hlo hP hK (va_Dlo hD hAlo) hZ [0, 1] (by decide) rfl (ci := 8) (q := (RX8, TX8, 44)) (q0 := 0) rfl rfl) rfl rfl hl.1 rfl (lv_room (Nat.le_of_ble_eq_true rfl)) dX8_parks_2 ⟨Nat.le_of_ble_eq_true rfl, Nat.le_of_ble_eq_true rfl⟩) hS hA hP (fun r_1 H locs hw_1 hP hS => ?_)
  try dsimp only at hw_1
  rcases hw_1 with ⟨rfl, j_2, hj_2, rfl, hw_1⟩ | rfl
  · have hdj_2 := hdn j_2
    refine lv_if_eq (tgt := 16) hx hb dX8_parks_5 (by decide) (fun h => absurd h (by decide)) (fun _ => ?_)
    refine lv_aload_n hx hb dX8_parks_8 rfl (lv_at hl 0 rfl) ?_
    refine lv_iload_n hx hb dX8_parks_9 rfl (lv_at hl 3 rfl) ?_
    refine ro_i (D := D) (va_runV (As := [.int p2]) (rest := []) ⟨hx, hb, hml, hown, hts⟩ ((m_isCar l D k st lo a tx t0 we rd ru rw ca fp wd nu na ts df db sd p2 (by first | assumption | omega)) H.size) (cwV 1 hts (gV tw_1382 tw_1384 tw_63 tw_87 tw_1385) rfl rfl rfl (by decide +kernel) ⟨Nat.le_of_ble_eq_true rfl, Nat.le_of_ble_eq_true rfl⟩) (pV hS hAlo hlo hP hK (va_Dlo hD hAlo) hZ [0] (by decide) rfl (ci := 8) (q := (RX8, TX8, 44)) (q0 := 0) rfl rfl) rfl rfl hl.1 rfl (lv_room (Nat.le_of_ble_eq_true rfl)) dX8_parks_10 ⟨Nat.le_of_ble_eq_true rfl, Nat.le_of_ble_eq_true rfl⟩) hS hA hP (fun r_3 H locs hw_3 hP hS => ?_)
    try dsimp only at hw_3
    rcases hw_3 with ⟨rfl, j_4, hj_4, rfl, hw_3⟩ | rfl
    · refine lv_if_ne (tgt := 20) hx hb dX8_parks_13 (by decide) (fun _ => ?_) (fun h => absurd h (by decide))
      refine lv_aload_n hx hb dX8_parks_20 rfl (lv_at hl 0 rfl) ?_
      refine lv_iload_n hx hb dX8_parks_21 rfl (lv_at hl 1 rfl) ?_
      refine lv_iload_n hx hb dX8_parks_22 rfl (lv_at hl 2 rfl) ?_
      refine ro_i (D := D) (va_runV (As := [.int (nI j_2), .int p1]) (rest := []) ⟨hx, hb, hml, hown, hts⟩ ((m_isSet l D k st lo a tx t0 we rd ru rw ca fp wd nu na ts df db sd dn j_2 p1 hdn (by first | assumption | omega)) H.size) (cwV 2 hts (gV tw_1390 tw_1392 tw_64 tw_87 tw_1393) rfl rfl rfl (by decide +kernel) ⟨Nat.le_of_ble_eq_true rfl, Nat.le_of_ble_eq_true rfl⟩) (pV hS hAlo hlo hP hK (va_Dlo hD hAlo) hZ [0, 1] (by decide) rfl (ci := 8) (q := (RX8, TX8, 44)) (q0 := 0) rfl rfl) rfl rfl hl.1 rfl (lv_room (Nat.le_of_ble_eq_true rfl)) dX8_parks_23 ⟨Nat.le_of_ble_eq_true rfl, Nat.le_of_ble_eq_true rfl⟩) hS hA hP (fun r_5 H locs hw_5 hP hS => ?_)
      try dsimp only at hw_5
      refine lv_if_eq (tgt := 40) hx hb dX8_parks_26 (by decide) (fun c_6 => ?_) (fun c_6 => ?_)
      · refine lv_sipush (v := (-1002)) hx hb dX8_parks_40 (by decide) ?_
        obtain ⟨hP9, hD9⟩ := pd_sub [((a 0), .inr (8, (fX8 a (nI tx) fp (nI t0) wd (nI we) nu na (nI rd) ts (nI ru) (nI rw) (nI ca) df db sd))), (aI k (a 1) 3 (nF dn)), (aI k (a 4) 27 (sg se tm gs)), (aI k (a 3) 72 fprices), (aI k (a 36) 4 fwalks), (aI k (a 37) 4 (nF br)), (aI k (a 40) 4 fdoorsOf)] [0, 1, 2, 3, 4, 5, 6] hP hD (by decide) rfl
        exact W.iret (v := (-1002)) hx hb hr (fun t ht hW => ⟨⟨(-1002), fdoorsOf, rfl, hdv, by rw [ht]; exact hP9, hD9⟩, hS.F ht⟩) hS.2.2 dX8_parks_43
      · refine lv_iload hx hb dX8_parks_29 (lv_at hl 4 rfl) ?_
        refine lv_i2l (v := p3.toInt64) hx hb dX8_parks_31 rfl ?_
        refine lv_lconst (v := (0 : Int32).toInt64) hx hb dX8_parks_32 (by decide) ?_
        refine lv_lconst (v := (1 : Int32).toInt64) hx hb dX8_parks_33 (by decide) ?_
        refine ro_i (D := D) (va_runS (As := [.long (p3.toInt64), .long ((0 : Int32).toInt64), .long ((1 : Int32).toInt64)]) (rest := []) ⟨hx, hb, hml, hown, hts⟩ ((k_in l D k st lo p3 (0 : Int32) (1 : Int32)) H.size) (va_cwS 3 hts (gS tw_1111 tw_1112 tw_87 tw_1113) rfl rfl rfl (by decide +kernel) ⟨Nat.le_of_ble_eq_true rfl, Nat.le_of_ble_eq_true rfl⟩) (pS hS hAlo hlo hP hK (va_Dlo hD hAlo) hZ [] (by decide) rfl) rfl rfl hl.1 rfl (lv_room (Nat.le_of_ble_eq_true rfl)) dX8_parks_34 ⟨Nat.le_of_ble_eq_true rfl, Nat.le_of_ble_eq_true rfl⟩) hS hA hP (fun r_7 H locs hw_7 hP hS => ?_)
        try dsimp only at hw_7
        rcases hw_7 with ⟨rfl, hw_7⟩ | ⟨rfl, hw_7⟩
        · refine lv_if_ne (tgt := 44) hx hb dX8_parks_37 (by decide) (fun _ => ?_) (fun h => absurd h (by decide))
          refine lv_aload_n hx hb dX8_parks_44 rfl (lv_at hl 0 rfl) ?_
          refine lv_iload_n hx hb dX8_parks_45 rfl (lv_at hl 1 rfl) ?_
          refine lv_iload_n hx hb dX8_parks_46 rfl (lv_at hl 2 rfl) ?_
          refine lv_iload_n hx hb dX8_parks_47 rfl (lv_at hl 3 rfl) ?_
          refine rw_i (D := D) (wr := []) (va_runV (As := [.int (nI j_2), .int p1, .int (nI j_4)]) (rest := []) ⟨hx, hb, hml, hown, hts⟩ ((m_costOf l D k st lo a tx t0 we rd ru rw ca fp wd nu na ts df db sd dn se tm gs fprices fwalks br fdoorsOf j_2 j_4 p1 hdn (by first | assumption | omega) hbr (by first | assumption | omega) (by first | assumption | omega) hdv) H.size) (cwV 3 hts (gV tw_1394 tw_1396 tw_65 tw_87 tw_1397) rfl rfl rfl (by decide +kernel) ⟨Nat.le_of_ble_eq_true rfl, Nat.le_of_ble_eq_true rfl⟩) (pV hS hAlo hlo hP hK (va_Dlo hD hAlo) hZ [0, 1, 2, 3, 4, 5, 6] (by decide) rfl (ci := 8) (q := (RX8, TX8, 44)) (q0 := 0) rfl rfl) rfl rfl hl.1 rfl (lv_room (Nat.le_of_ble_eq_true rfl)) dX8_parks_48 ⟨Nat.le_of_ble_eq_true rfl, Nat.le_of_ble_eq_true rfl⟩) hS hA hP hD [0, 1, 2, 3, 4, 5, 6] [] rfl rfl (by decide) (by decide) (fun r_8 u H locs hw_8 hP hD hS => ?_)
          obtain ⟨fdoorsOf__8, rfl⟩ : ∃ z, z = u := ⟨_, rfl⟩
          have hQ9 := pd_mk [((a 0), .inr (8, (fX8 a (nI tx) fp (nI t0) wd (nI we) nu na (nI rd) ts (nI ru) (nI rw) (nI ca) df db sd))), (aI k (a 1) 3 (nF dn)), (aI k (a 4) 27 (sg se tm gs)), (aI k (a 3) 72 fprices), (aI k (a 36) 4 fwalks), (aI k (a 37) 4 (nF br)), (aI k (a 40) 4 fdoorsOf__8)] hP hD
          clear hP hD
          obtain ⟨hP, hD⟩ := hQ9
          try dsimp only at hw_8
          refine lv_istore (lv' := [(5, .int r_8), (0, .ref (a 0)), (1, .int (nI j_2)), (2, .int p1), (3, .int (nI j_4)), (4, .int p3)]) hx hb dX8_parks_51 hl (by decide) rfl (fun ls hl => ?_)
          refine lv_iload hx hb dX8_parks_53 (lv_at hl 5 rfl) ?_
          refine lv_if_ne (tgt := 67) hx hb dX8_parks_55 (by decide) (fun c_9 => ?_) (fun c_9 => ?_)
          · refine lv_iload hx hb dX8_parks_67 (lv_at hl 0 rfl) ?_
            obtain ⟨hP9, hD9⟩ := pd_sub [((a 0), .inr (8, (fX8 a (nI tx) fp (nI t0) wd (nI we) nu na (nI rd) ts (nI ru) (nI rw) (nI ca) df db sd))), (aI k (a 1) 3 (nF dn)), (aI k (a 4) 27 (sg se tm gs)), (aI k (a 3) 72 fprices), (aI k (a 36) 4 fwalks), (aI k (a 37) 4 (nF br)), (aI k (a 40) 4 fdoorsOf__8)] [0, 1, 2, 3, 4, 5, 6] hP hD (by decide) rfl
            exact W.iret (v := r_8) hx hb hr (fun t ht hW => ⟨⟨r_8, fdoorsOf__8, rfl, hw_8, by rw [ht]; exact hP9, hD9⟩, hS.F ht⟩) hS.2.2 dX8_parks_69
          · refine lv_aload_n hx hb dX8_parks_58 rfl (lv_at hl 1 rfl) ?_
            refine va_get (D := D) (ci := 8) (v := .ref (a 40)) (C := RX8) (T := TX8) (N := 44) hx hb hts inX8 hown hK hP 0 rfl rfl 39 (by decide) (hts _ tw_1012) (fun _ h9 => h9) rfl dX8_parks_59 ?_
            refine lv_iload_n hx hb dX8_parks_62 rfl (lv_at hl 4 rfl) ?_
            refine va_iald hx hb hK hP 6 1 rfl rfl (vp_in_nI (by omega) (by decide)) dX8_parks_63 ?_
            refine lv_ti (y := (fdoorsOf__8 j_4)) (by rw [nI_clamp (by omega)]) ?_
            refine lv_goto (tgt := 69) hx hb dX8_parks_64 (by decide) ?_
            obtain ⟨hP9, hD9⟩ := pd_sub [((a 0), .inr (8, (fX8 a (nI tx) fp (nI t0) wd (nI we) nu na (nI rd) ts (nI ru) (nI rw) (nI ca) df db sd))), (aI k (a 1) 3 (nF dn)), (aI k (a 4) 27 (sg se tm gs)), (aI k (a 3) 72 fprices), (aI k (a 36) 4 fwalks), (aI k (a 37) 4 (nF br)), (aI k (a 40) 4 fdoorsOf__8)] [0, 1, 2, 3, 4, 5, 6] hP hD (by decide) rfl
            exact W.iret (v := (fdoorsOf__8 j_4)) hx hb hr (fun t ht hW => ⟨⟨(fdoorsOf__8 j_4), fdoorsOf__8, rfl, hw_8, by rw [ht]; exact hP9, hD9⟩, hS.F ht⟩) hS.2.2 dX8_parks_69
        · refine lv_if_ne (tgt := 44) hx hb dX8_parks_37 (by decide) (fun h => absurd (by decide) h) (fun _ => ?_)
          refine lv_sipush (v := (-1002)) hx hb dX8_parks_40 (by decide) ?_
          obtain ⟨hP9, hD9⟩ := pd_sub [((a 0), .inr (8, (fX8 a (nI tx) fp (nI t0) wd (nI we) nu na (nI rd) ts (nI ru) (nI rw) (nI ca) df db sd))), (aI k (a 1) 3 (nF dn)), (aI k (a 4) 27 (sg se tm gs)), (aI k (a 3) 72 fprices), (aI k (a 36) 4 fwalks), (aI k (a 37) 4 (nF br)), (aI k (a 40) 4 fdoorsOf)] [0, 1, 2, 3, 4, 5, 6] hP hD (by decide) rfl
          exact W.iret (v := (-1002)) hx hb hr (fun t ht hW => ⟨⟨(-1002), fdoorsOf, rfl, hdv, by rw [ht]; exact hP9, hD9⟩, hS.F ht⟩) hS.2.2 dX8_parks_43
    · refine lv_if_ne (tgt := 20) hx hb dX8_parks_13 (by decide) (fun h => absurd (by decide) h) (fun _ => ?_)
      refine lv_sipush (v := (-1001)) hx hb dX8_parks_16 (by decide) ?_
      obtain ⟨hP9, hD9⟩ := pd_sub [((a 0), .inr (8, (fX8 a (nI tx) fp (nI t0) wd (nI we) nu na (nI rd) ts (nI ru) (nI rw) (nI ca) df db sd))), (aI k (a 1) 3 (nF dn)), (aI k (a 4) 27 (sg se tm gs)), (aI k (a 3) 72 fprices), (aI k (a 36) 4 fwalks), (aI k (a 37) 4 (nF br)), (aI k (a 40) 4 fdoorsOf)] [0, 1, 2, 3, 4, 5, 6] hP hD (by decide) rfl
      exact W.iret (v := (-1001)) hx hb hr (fun t ht hW => ⟨⟨(-1001), fdoorsOf, rfl, hdv, by rw [ht]; exact hP9, hD9⟩, hS.F ht⟩) hS.2.2 dX8_parks_19
  · refine lv_if_eq (tgt := 16) hx hb dX8_parks_5 (by decide) (fun _ => ?_) (fun h => absurd (by decide) h)
    refine lv_sipush (v := (-1001)) hx hb dX8_parks_16 (by decide) ?_
    obtain ⟨hP9, hD9⟩ := pd_sub [((a 0), .inr (8, (fX8 a (nI tx) fp (nI t0) wd (nI we) nu na (nI rd) ts (nI ru) (nI rw) (nI ca) df db sd))), (aI k (a 1) 3 (nF dn)), (aI k (a 4) 27 (sg se tm gs)), (aI k (a 3) 72 fprices), (aI k (a 36) 4 fwalks), (aI k (a 37) 4 (nF br)), (aI k (a 40) 4 fdoorsOf)] [0, 1, 2, 3, 4, 5, 6] hP hD (by decide) rfl
    exact W.iret (v := (-1001)) hx hb hr (fun t ht hW => ⟨⟨(-1001), fdoorsOf, rfl, hdv, by rw [ht]; exact hP9, hD9⟩, hS.F ht⟩) hS.2.2 dX8_parks_19

theorem tw_69 : Cond.selects RX8 yX8_bestBar yX8_bestBar ∈ LW := LWm (i := 69) (by decide +kernel) rfl
theorem tw_70 : Cond.selects RX8 yX8_turnAll yX8_turnAll ∈ LW := LWm (i := 70) (by decide +kernel) rfl
theorem tw_1013 : Cond.fieldLink RX8 93 "LastPlaceModel" "wasBars" "[I" ∈ LW := LWm4 (i := 215) (by decide +kernel) rfl
theorem tw_1414 : Cond.methodLink RX8 339 yX8_bestBar ∈ LW := LWm6 (i := 136) (by decide +kernel) rfl
theorem tw_1416 : Cond.instanceMethod yX8_bestBar ∈ LW := LWm6 (i := 138) (by decide +kernel) rfl
set_option maxRecDepth 100000 in theorem tw_1417 : Cond.code yX8_bestBar cX8_bestBar 9 (some .int) ∈ LW := LWm6 (i := 139) rfl rfl
theorem tw_1422 : Cond.methodLink RX8 345 yX8_turnAll ∈ LW := LWm6 (i := 144) (by decide +kernel) rfl
theorem tw_1424 : Cond.instanceMethod yX8_turnAll ∈ LW := LWm6 (i := 146) (by decide +kernel) rfl
set_option maxRecDepth 100000 in theorem tw_1425 : Cond.code yX8_turnAll cX8_turnAll 7 (some .int) ∈ LW := LWm6 (i := 147) rfl rfl
theorem dX8_bestBar_0 : decode cX8_bestBar 0 = .ok (.aload_n 0, 1) := by decide +kernel
theorem dX8_bestBar_1 : decode cX8_bestBar 1 = .ok (.getfield 87, 3) := by decide +kernel
theorem dX8_bestBar_4 : decode cX8_bestBar 4 = .ok (.iload_n 3, 1) := by decide +kernel
theorem dX8_bestBar_5 : decode cX8_bestBar 5 = .ok (.iaload, 1) := by decide +kernel
theorem dX8_bestBar_6 : decode cX8_bestBar 6 = .ok (.istore 4, 2) := by decide +kernel
theorem dX8_bestBar_8 : decode cX8_bestBar 8 = .ok (.iload 4, 2) := by decide +kernel
theorem dX8_bestBar_10 : decode cX8_bestBar 10 = .ok (.istore 5, 2) := by decide +kernel
theorem dX8_bestBar_12 : decode cX8_bestBar 12 = .ok (.aload_n 0, 1) := by decide +kernel
theorem dX8_bestBar_13 : decode cX8_bestBar 13 = .ok (.iload_n 1, 1) := by decide +kernel
theorem dX8_bestBar_14 : decode cX8_bestBar 14 = .ok (.iload_n 2, 1) := by decide +kernel
theorem dX8_bestBar_15 : decode cX8_bestBar 15 = .ok (.iload_n 3, 1) := by decide +kernel
theorem dX8_bestBar_16 : decode cX8_bestBar 16 = .ok (.invokevirtual 336, 3) := by decide +kernel
theorem dX8_bestBar_19 : decode cX8_bestBar 19 = .ok (.istore 6, 2) := by decide +kernel
theorem dX8_bestBar_21 : decode cX8_bestBar 21 = .ok (.iconst 0, 1) := by decide +kernel
theorem dX8_bestBar_22 : decode cX8_bestBar 22 = .ok (.istore 7, 2) := by decide +kernel
theorem dX8_bestBar_24 : decode cX8_bestBar 24 = .ok (.iload 7, 2) := by decide +kernel
theorem dX8_bestBar_26 : decode cX8_bestBar 26 = .ok (.aload_n 0, 1) := by decide +kernel
theorem dX8_bestBar_27 : decode cX8_bestBar 27 = .ok (.getfield 7, 3) := by decide +kernel
theorem dX8_bestBar_30 : decode cX8_bestBar 30 = .ok (.iload_n 1, 1) := by decide +kernel
theorem dX8_bestBar_31 : decode cX8_bestBar 31 = .ok (.iaload, 1) := by decide +kernel
theorem dX8_bestBar_32 : decode cX8_bestBar 32 = .ok (.if_icmp .gt 58, 3) := by decide +kernel
theorem dX8_bestBar_35 : decode cX8_bestBar 35 = .ok (.aload_n 0, 1) := by decide +kernel
theorem dX8_bestBar_36 : decode cX8_bestBar 36 = .ok (.getfield 87, 3) := by decide +kernel
theorem dX8_bestBar_39 : decode cX8_bestBar 39 = .ok (.iload_n 3, 1) := by decide +kernel
theorem dX8_bestBar_40 : decode cX8_bestBar 40 = .ok (.iload 7, 2) := by decide +kernel
theorem dX8_bestBar_42 : decode cX8_bestBar 42 = .ok (.iastore, 1) := by decide +kernel
theorem dX8_bestBar_43 : decode cX8_bestBar 43 = .ok (.aload_n 0, 1) := by decide +kernel
theorem dX8_bestBar_44 : decode cX8_bestBar 44 = .ok (.iload_n 1, 1) := by decide +kernel
theorem dX8_bestBar_45 : decode cX8_bestBar 45 = .ok (.iload_n 2, 1) := by decide +kernel
theorem dX8_bestBar_46 : decode cX8_bestBar 46 = .ok (.iload_n 3, 1) := by decide +kernel
theorem dX8_bestBar_47 : decode cX8_bestBar 47 = .ok (.invokevirtual 336, 3) := by decide +kernel
theorem dX8_bestBar_50 : decode cX8_bestBar 50 = .ok (.istore 8, 2) := by decide +kernel
theorem dX8_bestBar_52 : decode cX8_bestBar 52 = .ok (.iload 8, 2) := by decide +kernel
theorem dX8_bestBar_54 : decode cX8_bestBar 54 = .ok (.iload 6, 2) := by decide +kernel
theorem dX8_bestBar_56 : decode cX8_bestBar 56 = .ok (.if_icmp .ge 8, 3) := by decide +kernel
theorem dX8_bestBar_59 : decode cX8_bestBar 59 = .ok (.iload 7, 2) := by decide +kernel
theorem dX8_bestBar_61 : decode cX8_bestBar 61 = .ok (.goto 5, 3) := by decide +kernel
theorem dX8_bestBar_64 : decode cX8_bestBar 64 = .ok (.iload 5, 2) := by decide +kernel
theorem dX8_bestBar_66 : decode cX8_bestBar 66 = .ok (.istore 5, 2) := by decide +kernel
theorem dX8_bestBar_68 : decode cX8_bestBar 68 = .ok (.iload 8, 2) := by decide +kernel
theorem dX8_bestBar_70 : decode cX8_bestBar 70 = .ok (.iload 6, 2) := by decide +kernel
theorem dX8_bestBar_72 : decode cX8_bestBar 72 = .ok (.if_icmp .ge 8, 3) := by decide +kernel
theorem dX8_bestBar_75 : decode cX8_bestBar 75 = .ok (.iload 8, 2) := by decide +kernel
theorem dX8_bestBar_77 : decode cX8_bestBar 77 = .ok (.goto 5, 3) := by decide +kernel
theorem dX8_bestBar_80 : decode cX8_bestBar 80 = .ok (.iload 6, 2) := by decide +kernel
theorem dX8_bestBar_82 : decode cX8_bestBar 82 = .ok (.istore 6, 2) := by decide +kernel
theorem dX8_bestBar_84 : decode cX8_bestBar 84 = .ok (.iinc 7 1, 3) := by decide +kernel
theorem dX8_bestBar_87 : decode cX8_bestBar 87 = .ok (.goto (-63), 3) := by decide +kernel
theorem dX8_bestBar_90 : decode cX8_bestBar 90 = .ok (.aload_n 0, 1) := by decide +kernel
theorem dX8_bestBar_91 : decode cX8_bestBar 91 = .ok (.getfield 87, 3) := by decide +kernel
theorem dX8_bestBar_94 : decode cX8_bestBar 94 = .ok (.iload_n 3, 1) := by decide +kernel
theorem dX8_bestBar_95 : decode cX8_bestBar 95 = .ok (.iload 4, 2) := by decide +kernel
theorem dX8_bestBar_97 : decode cX8_bestBar 97 = .ok (.iastore, 1) := by decide +kernel
theorem dX8_bestBar_98 : decode cX8_bestBar 98 = .ok (.iload 5, 2) := by decide +kernel
theorem dX8_bestBar_100 : decode cX8_bestBar 100 = .ok (.ireturn, 1) := by decide +kernel
set_option maxHeartbeats 4000000 in
set_option maxRecDepth 100000 in
theorem m_bestBar (l : Launch) (D : va_G) (k : Nat → ClassId) (st : Nat → Nat) (lo : Nat) (a : Nat → Nat) (tx : Nat) (t0 : Nat) (we : Nat) (rd : Nat) (ru : Nat) (rw : Nat) (ca : Nat) (fp : Int32) (wd : Int64) (nu : Int32) (na : Int32) (ts : Int32) (df : Int32) (db : Int32) (sd : Int32) (dn : Nat → Nat) (se : Nat → Nat) (tm : Nat → Nat) (gs : Nat → Int32) (fprices : Nat → Int32) (fwalks : Nat → Int32) (br : Nat → Nat) (fdoorsOf : Nat → Int32) (sn : Nat) (cn : Nat) (p1 : Int32) (hdn : ∀ j, dn j ≤ 24) (hca : ca ≤ 4) (hbr : ∀ j, br j ≤ 24) (hs : sn < 3) (hcn : cn < 4) (hdv : dvOK fdoorsOf) : CWi l D k st lo yX8_bestBar cX8_bestBar 9 (some .int) ({ frames := 5, cells := 0, slots := 0, locals := 117 }) 0 0 [.ref (a 0), .int (nI sn), .int p1, .int (nI cn)] [((a 0), .inr (8, (fX8 a (nI tx) fp (nI t0) wd (nI we) nu na (nI rd) ts (nI ru) (nI rw) (nI ca) df db sd))), (aI k (a 1) 3 (nF dn)), (aI k (a 4) 27 (sg se tm gs)), (aI k (a 3) 72 fprices), (aI k (a 36) 4 fwalks), (aI k (a 37) 4 (nF br)), (aI k (a 40) 4 fdoorsOf)] (fun (r : Int32) (u : (Nat → Nat) × (Nat → Int32) × Nat) => match u with | (br_, fdoorsOf_, er) => r = nI er ∧ er ≤ 24 ∧ (∀ j, br_ j ≤ 24) ∧ dvOK fdoorsOf_) (fun (u : (Nat → Nat) × (Nat → Int32) × Nat) => match u with | (br_, fdoorsOf_, er) => [((a 0), .inr (8, (fX8 a (nI tx) fp (nI t0) wd (nI we) nu na (nI rd) ts (nI ru) (nI rw) (nI ca) df db sd))), (aI k (a 1) 3 (nF dn)), (aI k (a 4) 27 (sg se tm gs)), (aI k (a 3) 72 fprices), (aI k (a 36) 4 fwalks), (aI k (a 37) 4 (nF br_)), (aI k (a 40) 4 fdoorsOf_)]) := by
  intro sz
  refine Met.ofW (cc := cX8_bestBar) (maxL := 9) (ret := (some .int)) (by decide) rfl ?_
  intro p e s m args below meth c s₁ B hml hv
  obtain ⟨rfl, hsz, hlo, hP, hK, hDL, hZ⟩ := hv
  have hx := B.exec
  have hb := B.bytes
  have hr := B.returns
  have hts := WS_ts B.pre
  have hown : s.vm.findClass RX8 = some m.cls := findClass_of_methodNamed B.named
  have hlocks := B.notSynchronized
  subst hsz
  have hD := hDL.self (sz := s.heap.size)
  have hAlo := A_lo hDL hlo
  generalize hAe : va_A [((a 0), .inr (8, (fX8 a (nI tx) fp (nI t0) wd (nI we) nu na (nI rd) ts (nI ru) (nI rw) (nI ca) df db sd))), (aI k (a 1) 3 (nF dn)), (aI k (a 4) 27 (sg se tm gs)), (aI k (a 3) 72 fprices), (aI k (a 36) 4 fwalks), (aI k (a 37) 4 (nF br)), (aI k (a 40) 4 fdoorsOf)] s.heap.size = A at hD hAlo ⊢
  have hA : ∀ q : Nat, s.heap.size ≤ q → A q := fun q h => by rw [← hAe]; exact Or.inr h
  have hS : va_S A s.heap s.heap [] := va_S.rf
  have hl := lv_entry ([.ref (a 0), .int (nI sn), .int p1, .int (nI cn)]) (n := 9) (Nat.le_of_ble_eq_true rfl)
  rw [lg_entry_eq]
  generalize (lg_sl ([.ref (a 0), .int (nI sn), .int p1, .int (nI cn)]) ++ List.replicate (9 - (lg_sl ([.ref (a 0), .int (nI sn), .int p1, .int (nI cn)])).length) Slot.unset).toArray = ls at hl ⊢
  have hl : lv_has ls 9 [(0, .ref (a 0)), (1, .int (nI sn)), (2, .int p1), (3, .int (nI cn))] := hl
  have hd_9 := hdn sn
  refine lv_aload_n hx hb dX8_bestBar_0 rfl (lv_at hl 0 rfl) ?_
  refine va_get (D := D) (ci := 8) (v := .ref (a 37)) (C := RX8) (T := TX8) (N := 44) hx hb hts inX8 hown hK hP 0 rfl rfl 36 (by decide) (hts _ tw_1009) (fun _ h9 => h9) rfl dX8_bestBar_1 ?_
  refine lv_iload_n hx hb dX8_bestBar_4 rfl (lv_at hl 3 rfl) ?_
  refine va_iald hx hb hK hP 5 1 rfl rfl (vp_in_nI (by omega) (by decide)) dX8_bestBar_5 ?_
  have hq_1 := hbr cn
  refine lv_ti (y := (nI (br cn))) (by rw [nI_clamp (by omega)]; rfl) ?_
  refine lv_istore (lv' := [(4, .int (nI (br cn))), (0, .ref (a 0)), (1, .int (nI sn)), (2, .int p1), (3, .int (nI cn))]) hx hb dX8_bestBar_6 hl (by decide) rfl (fun ls hl => ?_)
  refine lv_iload hx hb dX8_bestBar_8 (lv_at hl 0 rfl) ?_
  refine lv_istore (lv' := [(5, .int (nI (br cn))), (4, .int (nI (br cn))), (0, .ref (a 0)), (1, .int (nI sn)), (2, .int p1), (3, .int (nI cn))]) hx hb dX8_bestBar_10 hl (by decide) rfl (fun ls hl => ?_)
  refine lv_aload_n hx hb dX8_bestBar_12 rfl (lv_at hl 2 rfl) ?_
  refine lv_iload_n hx hb dX8_bestBar_13 rfl (lv_at hl 3 rfl) ?_
  refine lv_iload_n hx hb dX8_bestBar_14 rfl (lv_at hl 4 rfl) ?_
  refine lv_iload_n hx hb dX8_bestBar_15 rfl (lv_at hl 5 rfl) ?_
  refine rw_i (D := D) (wr := []) (va_runV (As := [.int (nI sn), .int p1, .int (nI cn)]) (rest := []) ⟨hx, hb, hml, hown, hts⟩ ((m_costOf l D k st lo a tx t0 we rd ru rw ca fp wd nu na ts df db sd dn se tm gs fprices fwalks br fdoorsOf sn cn p1 hdn (by first | assumption | omega) hbr (by first | assumption | omega) (by first | assumption | omega) hdv) s.heap.size) (cwV 3 hts (gV tw_1394 tw_1396 tw_65 tw_87 tw_1397) rfl rfl rfl (by decide +kernel) ⟨Nat.le_of_ble_eq_true rfl, Nat.le_of_ble_eq_true rfl⟩) (pV hS hAlo hlo hP hK (va_Dlo hD hAlo) hZ [0, 1, 2, 3, 4, 5, 6] (by decide) rfl (ci := 8) (q := (RX8, TX8, 44)) (q0 := 0) rfl rfl) rfl rfl hl.1 rfl (lv_room (Nat.le_of_ble_eq_true rfl)) dX8_bestBar_16 ⟨Nat.le_of_ble_eq_true rfl, Nat.le_of_ble_eq_true rfl⟩) hS hA hP hD [0, 1, 2, 3, 4, 5, 6] [] rfl rfl (by decide) (by decide) (fun r_2 u H locs hw_2 hP hD hS => ?_)
  obtain ⟨fdoorsOf__2, rfl⟩ : ∃ z, z = u := ⟨_, rfl⟩
  have hQ9 := pd_mk [((a 0), .inr (8, (fX8 a (nI tx) fp (nI t0) wd (nI we) nu na (nI rd) ts (nI ru) (nI rw) (nI ca) df db sd))), (aI k (a 1) 3 (nF dn)), (aI k (a 4) 27 (sg se tm gs)), (aI k (a 3) 72 fprices), (aI k (a 36) 4 fwalks), (aI k (a 37) 4 (nF br)), (aI k (a 40) 4 fdoorsOf__2)] hP hD
  clear hP hD
  obtain ⟨hP, hD⟩ := hQ9
  try dsimp only at hw_2
  refine lv_istore (lv' := [(6, .int r_2), (5, .int (nI (br cn))), (4, .int (nI (br cn))), (0, .ref (a 0)), (1, .int (nI sn)), (2, .int p1), (3, .int (nI cn))]) hx hb dX8_bestBar_19 hl (by decide) rfl (fun ls hl => ?_)
  refine lv_iconst (v := 0) hx hb dX8_bestBar_21 (by decide) ?_
  refine lv_istore (lv' := [(7, .int 0), (6, .int r_2), (5, .int (nI (br cn))), (4, .int (nI (br cn))), (0, .ref (a 0)), (1, .int (nI sn)), (2, .int p1), (3, .int (nI cn))]) hx hb dX8_bestBar_22 hl (by decide) rfl (fun ls hl => ?_)
  refine W_loop (σ := Nat × Nat × Int32 × (Nat → Nat) × (Nat → Int32)) (fun (n_ : Nat) (x_ : Nat × Nat × Int32 × (Nat → Nat) × (Nat → Int32)) (H : Heap) (locs : List Loc) (ls : Array Slot) => match x_ with | (bb_3, be_3, le_3, b2_3, fd_3) => n_ = 26 - bb_3 ∧ ((bb_3 ≤ 25 ∧ be_3 ≤ 24) ∧ (∀ j, b2_3 j ≤ 24) ∧ dvOK fd_3) ∧ va_P D classes [((a 0), .inr (8, (fX8 a (nI tx) fp (nI t0) wd (nI we) nu na (nI rd) ts (nI ru) (nI rw) (nI ca) df db sd))), (aI k (a 1) 3 (nF dn)), (aI k (a 4) 27 (sg se tm gs)), (aI k (a 3) 72 fprices), (aI k (a 36) 4 fwalks), (aI k (a 37) 4 (nF b2_3)), (aI k (a 40) 4 fd_3)] H ∧ va_D A [((a 0), .inr (8, (fX8 a (nI tx) fp (nI t0) wd (nI we) nu na (nI rd) ts (nI ru) (nI rw) (nI ca) df db sd))), (aI k (a 1) 3 (nF dn)), (aI k (a 4) 27 (sg se tm gs)), (aI k (a 3) 72 fprices), (aI k (a 36) 4 fwalks), (aI k (a 37) 4 (nF b2_3)), (aI k (a 40) 4 fd_3)] ∧ va_S A s.heap H locs ∧ lv_has ls 9 [(7, .int (nI bb_3)), (6, .int le_3), (5, .int (nI be_3)), (4, .int (nI (br cn))), (0, .ref (a 0)), (1, .int (nI sn)), (2, .int p1), (3, .int (nI cn))]) (fun n_3 x_3 H locs ls hI ih_3 => ?_) _ (0, br cn, r_2, br, fdoorsOf__2) ⟨rfl, ⟨by omega, hbr, hw_2⟩, hP, hD, hS, (lv_sub hl [0, 1, 2, 3, 4, 5, 6, 7] rfl)⟩
  obtain ⟨bb_3, be_3, le_3, b2_3, fd_3⟩ := x_3
  obtain ⟨hm_3, hv_3, hP, hD, hS, hl⟩ := hI
  subst hm_3
  have hbl_3 := hv_3.2.1
  have hdvl_3 := hv_3.2.2
  refine lv_iload hx hb dX8_bestBar_24 (lv_at hl 0 rfl) ?_
  refine lv_aload_n hx hb dX8_bestBar_26 rfl (lv_at hl 4 rfl) ?_
  refine va_get (D := D) (ci := 8) (v := .ref (a 1)) (C := RX8) (T := TX8) (N := 44) hx hb hts inX8 hown hK hP 0 rfl rfl 0 (by decide) (hts _ tw_973) (fun _ h9 => h9) rfl dX8_bestBar_27 ?_
  refine lv_iload_n hx hb dX8_bestBar_30 rfl (lv_at hl 5 rfl) ?_
  refine va_iald hx hb hK hP 1 1 rfl rfl (vp_in_nI (by omega) (by decide)) dX8_bestBar_31 ?_
  refine lv_ti (y := (nI (dn sn))) (by rw [nI_clamp (by omega)]; rfl) ?_
  refine lv_icmp_gt (tgt := 90) hx hb dX8_bestBar_32 (by decide) (fun c_4 => ?_) (fun c_4 => ?_)
  · have c_4 := (nI_ltI (a := (dn sn)) (b := bb_3) (by omega) (by omega)).mp c_4
    refine lv_aload_n hx hb dX8_bestBar_90 rfl (lv_at hl 4 rfl) ?_
    refine va_get (D := D) (ci := 8) (v := .ref (a 37)) (C := RX8) (T := TX8) (N := 44) hx hb hts inX8 hown hK hP 0 rfl rfl 36 (by decide) (hts _ tw_1009) (fun _ h9 => h9) rfl dX8_bestBar_91 ?_
    refine lv_iload_n hx hb dX8_bestBar_94 rfl (lv_at hl 7 rfl) ?_
    refine lv_iload hx hb dX8_bestBar_95 (lv_at hl 3 rfl) ?_
    refine va_iast hx hb hK hP hD hS 5 1 rfl rfl (vp_in_nI (by omega) (by decide)) dX8_bestBar_97 (fun H locs hP hD hS => ?_)
    have hQ9 := pd_mk [((a 0), .inr (8, (fX8 a (nI tx) fp (nI t0) wd (nI we) nu na (nI rd) ts (nI ru) (nI rw) (nI ca) df db sd))), (aI k (a 1) 3 (nF dn)), (aI k (a 4) 27 (sg se tm gs)), (aI k (a 3) 72 fprices), (aI k (a 36) 4 fwalks), (aI k (a 37) 4 (upd (nF b2_3) (Int32.toNatClampNeg (nI cn)) (nI (br cn)))), (aI k (a 40) 4 fd_3)] hP hD
    clear hP hD
    obtain ⟨hP, hD⟩ := hQ9
    rw [nI_clamp (n := cn) (by omega)] at hP hD
    rw [show upd (nF b2_3) cn (nI (br cn)) = nF (fun j => if j = cn then br cn else b2_3 j) from nF_upd _ _ _] at hP hD
    obtain ⟨d_6, hd_6⟩ : ∃ z : Nat → Nat, z = (fun j => if j = cn then br cn else b2_3 j) := ⟨_, rfl⟩
    rw [← hd_6] at hP hD
    have hbb_6 : ∀ j, d_6 j ≤ 24 := by rw [hd_6]; exact up_le hbl_3 (by omega)
    refine lv_iload hx hb dX8_bestBar_98 (lv_at hl 2 rfl) ?_
    obtain ⟨hP9, hD9⟩ := pd_sub [((a 0), .inr (8, (fX8 a (nI tx) fp (nI t0) wd (nI we) nu na (nI rd) ts (nI ru) (nI rw) (nI ca) df db sd))), (aI k (a 1) 3 (nF dn)), (aI k (a 4) 27 (sg se tm gs)), (aI k (a 3) 72 fprices), (aI k (a 36) 4 fwalks), (aI k (a 37) 4 (nF d_6)), (aI k (a 40) 4 fd_3)] [0, 1, 2, 3, 4, 5, 6] hP hD (by decide) rfl
    exact W.iret (v := (nI be_3)) hx hb hr (fun t ht hW => ⟨⟨(nI be_3), (d_6, fd_3, be_3), rfl, ⟨rfl, by omega, hbb_6, hdvl_3⟩, by rw [ht]; exact hP9, hD9⟩, hS.F ht⟩) hS.2.2 dX8_bestBar_100
  · have c_4 : ¬ ((dn sn) < bb_3) := fun h => c_4 ((nI_ltI (a := (dn sn)) (b := bb_3) (by omega) (by omega)).mpr h)
    refine lv_aload_n hx hb dX8_bestBar_35 rfl (lv_at hl 4 rfl) ?_
    refine va_get (D := D) (ci := 8) (v := .ref (a 37)) (C := RX8) (T := TX8) (N := 44) hx hb hts inX8 hown hK hP 0 rfl rfl 36 (by decide) (hts _ tw_1009) (fun _ h9 => h9) rfl dX8_bestBar_36 ?_
    refine lv_iload_n hx hb dX8_bestBar_39 rfl (lv_at hl 7 rfl) ?_
    refine lv_iload hx hb dX8_bestBar_40 (lv_at hl 0 rfl) ?_
    refine va_iast hx hb hK hP hD hS 5 1 rfl rfl (vp_in_nI (by omega) (by decide)) dX8_bestBar_42 (fun H locs hP hD hS => ?_)
    have hQ9 := pd_mk [((a 0), .inr (8, (fX8 a (nI tx) fp (nI t0) wd (nI we) nu na (nI rd) ts (nI ru) (nI rw) (nI ca) df db sd))), (aI k (a 1) 3 (nF dn)), (aI k (a 4) 27 (sg se tm gs)), (aI k (a 3) 72 fprices), (aI k (a 36) 4 fwalks), (aI k (a 37) 4 (upd (nF b2_3) (Int32.toNatClampNeg (nI cn)) (nI bb_3))), (aI k (a 40) 4 fd_3)] hP hD
    clear hP hD
    obtain ⟨hP, hD⟩ := hQ9
    rw [nI_clamp (n := cn) (by omega)] at hP hD
    rw [show upd (nF b2_3) cn (nI bb_3) = nF (fun j => if j = cn then bb_3 else b2_3 j) from nF_upd _ _ _] at hP hD
    obtain ⟨d_8, hd_8⟩ : ∃ z : Nat → Nat, z = (fun j => if j = cn then bb_3 else b2_3 j) := ⟨_, rfl⟩
    rw [← hd_8] at hP hD
    have hbb_8 : ∀ j, d_8 j ≤ 24 := by rw [hd_8]; exact up_le hbl_3 (by omega)
    refine lv_aload_n hx hb dX8_bestBar_43 rfl (lv_at hl 4 rfl) ?_
    refine lv_iload_n hx hb dX8_bestBar_44 rfl (lv_at hl 5 rfl) ?_
    refine lv_iload_n hx hb dX8_bestBar_45 rfl (lv_at hl 6 rfl) ?_
    refine lv_iload_n hx hb dX8_bestBar_46 rfl (lv_at hl 7 rfl) ?_
    refine rw_i (D := D) (wr := []) (va_runV (As := [.int (nI sn), .int p1, .int (nI cn)]) (rest := []) ⟨hx, hb, hml, hown, hts⟩ ((m_costOf l D k st lo a tx t0 we rd ru rw ca fp wd nu na ts df db sd dn se tm gs fprices fwalks d_8 fd_3 sn cn p1 hdn (by first | assumption | omega) hbb_8 (by first | assumption | omega) (by first | assumption | omega) hdvl_3) H.size) (cwV 3 hts (gV tw_1394 tw_1396 tw_65 tw_87 tw_1397) rfl rfl rfl (by decide +kernel) ⟨Nat.le_of_ble_eq_true rfl, Nat.le_of_ble_eq_true rfl⟩) (pV hS hAlo hlo hP hK (va_Dlo hD hAlo) hZ [0, 1, 2, 3, 4, 5, 6] (by decide) rfl (ci := 8) (q := (RX8, TX8, 44)) (q0 := 0) rfl rfl) rfl rfl hl.1 rfl (lv_room (Nat.le_of_ble_eq_true rfl)) dX8_bestBar_47 ⟨Nat.le_of_ble_eq_true rfl, Nat.le_of_ble_eq_true rfl⟩) hS hA hP hD [0, 1, 2, 3, 4, 5, 6] [] rfl rfl (by decide) (by decide) (fun r_9 u H locs hw_9 hP hD hS => ?_)
    obtain ⟨fdoorsOf__9, rfl⟩ : ∃ z, z = u := ⟨_, rfl⟩
    have hQ9 := pd_mk [((a 0), .inr (8, (fX8 a (nI tx) fp (nI t0) wd (nI we) nu na (nI rd) ts (nI ru) (nI rw) (nI ca) df db sd))), (aI k (a 1) 3 (nF dn)), (aI k (a 4) 27 (sg se tm gs)), (aI k (a 3) 72 fprices), (aI k (a 36) 4 fwalks), (aI k (a 37) 4 (nF d_8)), (aI k (a 40) 4 fdoorsOf__9)] hP hD
    clear hP hD
    obtain ⟨hP, hD⟩ := hQ9
    try dsimp only at hw_9
    refine lv_istore (lv' := [(8, .int r_9), (7, .int (nI bb_3)), (6, .int le_3), (5, .int (nI be_3)), (4, .int (nI (br cn))), (0, .ref (a 0)), (1, .int (nI sn)), (2, .int p1), (3, .int (nI cn))]) hx hb dX8_bestBar_50 hl (by decide) rfl (fun ls hl => ?_)
    refine lv_iload hx hb dX8_bestBar_52 (lv_at hl 0 rfl) ?_
    refine lv_iload hx hb dX8_bestBar_54 (lv_at hl 2 rfl) ?_
    refine lv_icmp_ge (tgt := 64) hx hb dX8_bestBar_56 (by decide) (fun c_10 => ?_) (fun c_10 => ?_)
    · refine lv_iload hx hb dX8_bestBar_64 (lv_at hl 3 rfl) ?_
      refine lv_istore (lv' := [(5, .int (nI be_3)), (8, .int r_9), (7, .int (nI bb_3)), (6, .int le_3), (4, .int (nI (br cn))), (0, .ref (a 0)), (1, .int (nI sn)), (2, .int p1), (3, .int (nI cn))]) hx hb dX8_bestBar_66 hl (by decide) rfl (fun ls hl => ?_)
      refine lv_iload hx hb dX8_bestBar_68 (lv_at hl 1 rfl) ?_
      refine lv_iload hx hb dX8_bestBar_70 (lv_at hl 3 rfl) ?_
      refine lv_icmp_ge (tgt := 80) hx hb dX8_bestBar_72 (by decide) (fun c_11 => ?_) (fun c_11 => ?_)
      · refine lv_iload hx hb dX8_bestBar_80 (lv_at hl 3 rfl) ?_
        refine lv_istore (lv' := [(6, .int le_3), (5, .int (nI be_3)), (8, .int r_9), (7, .int (nI bb_3)), (4, .int (nI (br cn))), (0, .ref (a 0)), (1, .int (nI sn)), (2, .int p1), (3, .int (nI cn))]) hx hb dX8_bestBar_82 hl (by decide) rfl (fun ls hl => ?_)
        refine lv_iinc (v := (nI (bb_3 + 1))) (lv' := [(7, .int (nI (bb_3 + 1))), (6, .int le_3), (5, .int (nI be_3)), (8, .int r_9), (4, .int (nI (br cn))), (0, .ref (a 0)), (1, .int (nI sn)), (2, .int p1), (3, .int (nI cn))]) hx hb dX8_bestBar_84 hl (k := 3) rfl (nI_add bb_3 1) (by decide) rfl (fun ls hl => ?_)
        refine lv_goto (tgt := 24) hx hb dX8_bestBar_87 (by decide) ?_
        exact ih_3 _ (bb_3 + 1, be_3, le_3, d_8, fdoorsOf__9) _ _ _ (by omega) ⟨rfl, ⟨by omega, hbb_8, hw_9⟩, hP, hD, hS, (lv_sub hl [0, 1, 2, 4, 5, 6, 7, 8] rfl)⟩
      · refine lv_iload hx hb dX8_bestBar_75 (lv_at hl 1 rfl) ?_
        refine lv_goto (tgt := 82) hx hb dX8_bestBar_77 (by decide) ?_
        refine lv_istore (lv' := [(6, .int r_9), (5, .int (nI be_3)), (8, .int r_9), (7, .int (nI bb_3)), (4, .int (nI (br cn))), (0, .ref (a 0)), (1, .int (nI sn)), (2, .int p1), (3, .int (nI cn))]) hx hb dX8_bestBar_82 hl (by decide) rfl (fun ls hl => ?_)
        refine lv_iinc (v := (nI (bb_3 + 1))) (lv' := [(7, .int (nI (bb_3 + 1))), (6, .int r_9), (5, .int (nI be_3)), (8, .int r_9), (4, .int (nI (br cn))), (0, .ref (a 0)), (1, .int (nI sn)), (2, .int p1), (3, .int (nI cn))]) hx hb dX8_bestBar_84 hl (k := 3) rfl (nI_add bb_3 1) (by decide) rfl (fun ls hl => ?_)
        refine lv_goto (tgt := 24) hx hb dX8_bestBar_87 (by decide) ?_
        exact ih_3 _ (bb_3 + 1, be_3, r_9, d_8, fdoorsOf__9) _ _ _ (by omega) ⟨rfl, ⟨by omega, hbb_8, hw_9⟩, hP, hD, hS, (lv_sub hl [0, 1, 2, 4, 5, 6, 7, 8] rfl)⟩
    · refine lv_iload hx hb dX8_bestBar_59 (lv_at hl 1 rfl) ?_
      refine lv_goto (tgt := 66) hx hb dX8_bestBar_61 (by decide) ?_
      refine lv_istore (lv' := [(5, .int (nI bb_3)), (8, .int r_9), (7, .int (nI bb_3)), (6, .int le_3), (4, .int (nI (br cn))), (0, .ref (a 0)), (1, .int (nI sn)), (2, .int p1), (3, .int (nI cn))]) hx hb dX8_bestBar_66 hl (by decide) rfl (fun ls hl => ?_)
      refine lv_iload hx hb dX8_bestBar_68 (lv_at hl 1 rfl) ?_
      refine lv_iload hx hb dX8_bestBar_70 (lv_at hl 3 rfl) ?_
      refine lv_icmp_ge (tgt := 80) hx hb dX8_bestBar_72 (by decide) (fun c_12 => ?_) (fun c_12 => ?_)
      · refine lv_iload hx hb dX8_bestBar_80 (lv_at hl 3 rfl) ?_
        refine lv_istore (lv' := [(6, .int le_3), (5, .int (nI bb_3)), (8, .int r_9), (7, .int (nI bb_3)), (4, .int (nI (br cn))), (0, .ref (a 0)), (1, .int (nI sn)), (2, .int p1), (3, .int (nI cn))]) hx hb dX8_bestBar_82 hl (by decide) rfl (fun ls hl => ?_)
        refine lv_iinc (v := (nI (bb_3 + 1))) (lv' := [(7, .int (nI (bb_3 + 1))), (6, .int le_3), (5, .int (nI bb_3)), (8, .int r_9), (4, .int (nI (br cn))), (0, .ref (a 0)), (1, .int (nI sn)), (2, .int p1), (3, .int (nI cn))]) hx hb dX8_bestBar_84 hl (k := 3) rfl (nI_add bb_3 1) (by decide) rfl (fun ls hl => ?_)
        refine lv_goto (tgt := 24) hx hb dX8_bestBar_87 (by decide) ?_
        exact ih_3 _ (bb_3 + 1, bb_3, le_3, d_8, fdoorsOf__9) _ _ _ (by omega) ⟨rfl, ⟨by omega, hbb_8, hw_9⟩, hP, hD, hS, (lv_sub hl [0, 1, 2, 4, 5, 6, 7, 8] rfl)⟩
      · refine lv_iload hx hb dX8_bestBar_75 (lv_at hl 1 rfl) ?_
        refine lv_goto (tgt := 82) hx hb dX8_bestBar_77 (by decide) ?_
        refine lv_istore (lv' := [(6, .int r_9), (5, .int (nI bb_3)), (8, .int r_9), (7, .int (nI bb_3)), (4, .int (nI (br cn))), (0, .ref (a 0)), (1, .int (nI sn)), (2, .int p1), (3, .int (nI cn))]) hx hb dX8_bestBar_82 hl (by decide) rfl (fun ls hl => ?_)
        refine lv_iinc (v := (nI (bb_3 + 1))) (lv' := [(7, .int (nI (bb_3 + 1))), (6, .int r_9), (5, .int (nI bb_3)), (8, .int r_9), (4, .int (nI (br cn))), (0, .ref (a 0)), (1, .int (nI sn)), (2, .int p1), (3, .int (nI cn))]) hx hb dX8_bestBar_84 hl (k := 3) rfl (nI_add bb_3 1) (by decide) rfl (fun ls hl => ?_)
        refine lv_goto (tgt := 24) hx hb dX8_bestBar_87 (by decide) ?_
        exact ih_3 _ (bb_3 + 1, bb_3, r_9, d_8, fdoorsOf__9) _ _ _ (by omega) ⟨rfl, ⟨by omega, hbb_8, hw_9⟩, hP, hD, hS, (lv_sub hl [0, 1, 2, 4, 5, 6, 7, 8] rfl)⟩

theorem dX8_turnAll_0 : decode cX8_turnAll 0 = .ok (.iconst 0, 1) := by decide +kernel
theorem dX8_turnAll_1 : decode cX8_turnAll 1 = .ok (.istore_n 3, 1) := by decide +kernel
theorem dX8_turnAll_2 : decode cX8_turnAll 2 = .ok (.iload_n 3, 1) := by decide +kernel
theorem dX8_turnAll_3 : decode cX8_turnAll 3 = .ok (.bipush 50, 2) := by decide +kernel
theorem dX8_turnAll_5 : decode cX8_turnAll 5 = .ok (.if_icmp .ge 80, 3) := by decide +kernel
theorem dX8_turnAll_8 : decode cX8_turnAll 8 = .ok (.iconst 0, 1) := by decide +kernel
theorem dX8_turnAll_9 : decode cX8_turnAll 9 = .ok (.istore 4, 2) := by decide +kernel
theorem dX8_turnAll_11 : decode cX8_turnAll 11 = .ok (.iconst 0, 1) := by decide +kernel
theorem dX8_turnAll_12 : decode cX8_turnAll 12 = .ok (.istore 5, 2) := by decide +kernel
theorem dX8_turnAll_14 : decode cX8_turnAll 14 = .ok (.iload 5, 2) := by decide +kernel
theorem dX8_turnAll_16 : decode cX8_turnAll 16 = .ok (.aload_n 0, 1) := by decide +kernel
theorem dX8_turnAll_17 : decode cX8_turnAll 17 = .ok (.getfield 315, 3) := by decide +kernel
theorem dX8_turnAll_20 : decode cX8_turnAll 20 = .ok (.if_icmp .ge 52, 3) := by decide +kernel
theorem dX8_turnAll_23 : decode cX8_turnAll 23 = .ok (.aload_n 0, 1) := by decide +kernel
theorem dX8_turnAll_24 : decode cX8_turnAll 24 = .ok (.iload_n 1, 1) := by decide +kernel
theorem dX8_turnAll_25 : decode cX8_turnAll 25 = .ok (.iload_n 2, 1) := by decide +kernel
theorem dX8_turnAll_26 : decode cX8_turnAll 26 = .ok (.iload 5, 2) := by decide +kernel
theorem dX8_turnAll_28 : decode cX8_turnAll 28 = .ok (.invokevirtual 339, 3) := by decide +kernel
theorem dX8_turnAll_31 : decode cX8_turnAll 31 = .ok (.istore 6, 2) := by decide +kernel
theorem dX8_turnAll_33 : decode cX8_turnAll 33 = .ok (.iload 4, 2) := by decide +kernel
theorem dX8_turnAll_35 : decode cX8_turnAll 35 = .ok (.ifCond .ne 15, 3) := by decide +kernel
theorem dX8_turnAll_38 : decode cX8_turnAll 38 = .ok (.iload 6, 2) := by decide +kernel
theorem dX8_turnAll_40 : decode cX8_turnAll 40 = .ok (.aload_n 0, 1) := by decide +kernel
theorem dX8_turnAll_41 : decode cX8_turnAll 41 = .ok (.getfield 87, 3) := by decide +kernel
theorem dX8_turnAll_44 : decode cX8_turnAll 44 = .ok (.iload 5, 2) := by decide +kernel
theorem dX8_turnAll_46 : decode cX8_turnAll 46 = .ok (.iaload, 1) := by decide +kernel
theorem dX8_turnAll_47 : decode cX8_turnAll 47 = .ok (.if_icmp .eq 7, 3) := by decide +kernel
theorem dX8_turnAll_50 : decode cX8_turnAll 50 = .ok (.iconst 1, 1) := by decide +kernel
theorem dX8_turnAll_51 : decode cX8_turnAll 51 = .ok (.goto 4, 3) := by decide +kernel
theorem dX8_turnAll_54 : decode cX8_turnAll 54 = .ok (.iconst 0, 1) := by decide +kernel
theorem dX8_turnAll_55 : decode cX8_turnAll 55 = .ok (.istore 4, 2) := by decide +kernel
theorem dX8_turnAll_57 : decode cX8_turnAll 57 = .ok (.aload_n 0, 1) := by decide +kernel
theorem dX8_turnAll_58 : decode cX8_turnAll 58 = .ok (.getfield 87, 3) := by decide +kernel
theorem dX8_turnAll_61 : decode cX8_turnAll 61 = .ok (.iload 5, 2) := by decide +kernel
theorem dX8_turnAll_63 : decode cX8_turnAll 63 = .ok (.iload 6, 2) := by decide +kernel
theorem dX8_turnAll_65 : decode cX8_turnAll 65 = .ok (.iastore, 1) := by decide +kernel
theorem dX8_turnAll_66 : decode cX8_turnAll 66 = .ok (.iinc 5 1, 3) := by decide +kernel
theorem dX8_turnAll_69 : decode cX8_turnAll 69 = .ok (.goto (-55), 3) := by decide +kernel
theorem dX8_turnAll_72 : decode cX8_turnAll 72 = .ok (.iload 4, 2) := by decide +kernel
theorem dX8_turnAll_74 : decode cX8_turnAll 74 = .ok (.ifCond .ne 5, 3) := by decide +kernel
theorem dX8_turnAll_77 : decode cX8_turnAll 77 = .ok (.iload_n 3, 1) := by decide +kernel
theorem dX8_turnAll_78 : decode cX8_turnAll 78 = .ok (.ireturn, 1) := by decide +kernel
theorem dX8_turnAll_79 : decode cX8_turnAll 79 = .ok (.iinc 3 1, 3) := by decide +kernel
theorem dX8_turnAll_82 : decode cX8_turnAll 82 = .ok (.goto (-80), 3) := by decide +kernel
theorem dX8_turnAll_85 : decode cX8_turnAll 85 = .ok (.iconst (-1), 1) := by decide +kernel
theorem dX8_turnAll_86 : decode cX8_turnAll 86 = .ok (.ireturn, 1) := by decide +kernel
set_option maxHeartbeats 4000000 in
set_option maxRecDepth 100000 in
theorem m_turnAll (l : Launch) (D : va_G) (k : Nat → ClassId) (st : Nat → Nat) (lo : Nat) (a : Nat → Nat) (tx : Nat) (t0 : Nat) (we : Nat) (rd : Nat) (ru : Nat) (rw : Nat) (ca : Nat) (fp : Int32) (wd : Int64) (nu : Int32) (na : Int32) (ts : Int32) (df : Int32) (db : Int32) (sd : Int32) (dn : Nat → Nat) (se : Nat → Nat) (tm : Nat → Nat) (gs : Nat → Int32) (fprices : Nat → Int32) (fwalks : Nat → Int32) (br : Nat → Nat) (fdoorsOf : Nat → Int32) (sn : Nat) (p1 : Int32) (hdn : ∀ j, dn j ≤ 24) (hca : ca ≤ 4) (hbr : ∀ j, br j ≤ 24) (hs : sn < 3) (hdv : dvOK fdoorsOf) : CWi l D k st lo yX8_turnAll cX8_turnAll 7 (some .int) ({ frames := 6, cells := 0, slots := 0, locals := 145 }) 0 0 [.ref (a 0), .int (nI sn), .int p1] [((a 0), .inr (8, (fX8 a (nI tx) fp (nI t0) wd (nI we) nu na (nI rd) ts (nI ru) (nI rw) (nI ca) df db sd))), (aI k (a 1) 3 (nF dn)), (aI k (a 4) 27 (sg se tm gs)), (aI k (a 3) 72 fprices), (aI k (a 36) 4 fwalks), (aI k (a 37) 4 (nF br)), (aI k (a 40) 4 fdoorsOf)] (fun (r : Int32) (u : (Nat → Nat) × (Nat → Int32)) => match u with | (br_, fdoorsOf_) => (∀ j, br_ j ≤ 24) ∧ dvOK fdoorsOf_) (fun (u : (Nat → Nat) × (Nat → Int32)) => match u with | (br_, fdoorsOf_) => [((a 0), .inr (8, (fX8 a (nI tx) fp (nI t0) wd (nI we) nu na (nI rd) ts (nI ru) (nI rw) (nI ca) df db sd))), (aI k (a 1) 3 (nF dn)), (aI k (a 4) 27 (sg se tm gs)), (aI k (a 3) 72 fprices), (aI k (a 36) 4 fwalks), (aI k (a 37) 4 (nF br_)), (aI k (a 40) 4 fdoorsOf_)]) := by
  intro sz
  refine Met.ofW (cc := cX8_turnAll) (maxL := 7) (ret := (some .int)) (by decide) rfl ?_
  intro p e s m args below meth c s₁ B hml hv
  obtain ⟨rfl, hsz, hlo, hP, hK, hDL, hZ⟩ := hv
  have hx := B.exec
  have hb := B.bytes
  have hr := B.returns
  have hts := WS_ts B.pre
  have hown : s.vm.findClass RX8 = some m.cls := findClass_of_methodNamed B.named
  have hlocks := B.notSynchronized
  subst hsz
  have hD := hDL.self (sz := s.heap.size)
  have hAlo := A_lo hDL hlo
  generalize hAe : va_A [((a 0), .inr (8, (fX8 a (nI tx) fp (nI t0) wd (nI we) nu na (nI rd) ts (nI ru) (nI rw) (nI ca) df db sd))), (aI k (a 1) 3 (nF dn)), (aI k (a 4) 27 (sg se tm gs)), (aI k (a 3) 72 fprices), (aI k (a 36) 4 fwalks), (aI k (a 37) 4 (nF br)), (aI k (a 40) 4 fdoorsOf)] s.heap.size = A at hD hAlo ⊢
  have hA : ∀ q : Nat, s.heap.size ≤ q → A q := fun q h => by rw [← hAe]; exact Or.inr h
  have hS : va_S A s.heap s.heap [] := va_S.rf
  have hl := lv_entry ([.ref (a 0), .int (nI sn), .int p1]) (n := 7) (Nat.le_of_ble_eq_true rfl)
  rw [lg_entry_eq]
  generalize (lg_sl ([.ref (a 0), .int (nI sn), .int p1]) ++ List.replicate (7 - (lg_sl ([.ref (a 0), .int (nI sn), .int p1])).length) Slot.unset).toArray = ls at hl ⊢
  have hl : lv_has ls 7 [(0, .ref (a 0)), (1, .int (nI sn)), (2, .int p1)] := hl
  refine lv_iconst (v := 0) hx hb dX8_turnAll_0 (by decide) ?_
  refine lv_istore_n (lv' := [(3, .int 0), (0, .ref (a 0)), (1, .int (nI sn)), (2, .int p1)]) hx hb dX8_turnAll_1 rfl hl (by decide) rfl (fun ls hl => ?_)
  refine W_loop (σ := Nat × (Nat → Nat) × (Nat → Int32)) (fun (n_ : Nat) (x_ : Nat × (Nat → Nat) × (Nat → Int32)) (H : Heap) (locs : List Loc) (ls : Array Slot) => match x_ with | (tt_1, b2_1, fd_1) => n_ = 50 - tt_1 ∧ (tt_1 ≤ 50 ∧ (∀ j, b2_1 j ≤ 24) ∧ dvOK fd_1) ∧ va_P D classes [((a 0), .inr (8, (fX8 a (nI tx) fp (nI t0) wd (nI we) nu na (nI rd) ts (nI ru) (nI rw) (nI ca) df db sd))), (aI k (a 1) 3 (nF dn)), (aI k (a 4) 27 (sg se tm gs)), (aI k (a 3) 72 fprices), (aI k (a 36) 4 fwalks), (aI k (a 37) 4 (nF b2_1)), (aI k (a 40) 4 fd_1)] H ∧ va_D A [((a 0), .inr (8, (fX8 a (nI tx) fp (nI t0) wd (nI we) nu na (nI rd) ts (nI ru) (nI rw) (nI ca) df db sd))), (aI k (a 1) 3 (nF dn)), (aI k (a 4) 27 (sg se tm gs)), (aI k (a 3) 72 fprices), (aI k (a 36) 4 fwalks), (aI k (a 37) 4 (nF b2_1)), (aI k (a 40) 4 fd_1)] ∧ va_S A s.heap H locs ∧ lv_has ls 7 [(3, .int (nI tt_1)), (0, .ref (a 0)), (1, .int (nI sn)), (2, .int p1)]) (fun n_1 x_1 H locs ls hI ih_1 => ?_) _ (0, br, fdoorsOf) ⟨rfl, ⟨by omega, hbr, hdv⟩, hP, hD, hS, (lv_sub hl [0, 1, 2, 3] rfl)⟩
  obtain ⟨tt_1, b2_1, fd_1⟩ := x_1
  obtain ⟨hm_1, hv_1, hP, hD, hS, hl⟩ := hI
  subst hm_1
  have hbl_1 := hv_1.2.1
  have hdvl_1 := hv_1.2.2
  refine lv_iload_n hx hb dX8_turnAll_2 rfl (lv_at hl 0 rfl) ?_
  refine lv_bipush (v := 50) hx hb dX8_turnAll_3 (by decide) ?_
  refine lv_icmp_ge (tgt := 85) hx hb dX8_turnAll_5 (by decide) (fun c_2 => ?_) (fun c_2 => ?_)
  · have c_2 := (nI_leI (a := 50) (b := tt_1) (by omega) (by omega)).mp c_2
    refine lv_iconst (v := (-1)) hx hb dX8_turnAll_85 (by decide) ?_
    obtain ⟨hP9, hD9⟩ := pd_sub [((a 0), .inr (8, (fX8 a (nI tx) fp (nI t0) wd (nI we) nu na (nI rd) ts (nI ru) (nI rw) (nI ca) df db sd))), (aI k (a 1) 3 (nF dn)), (aI k (a 4) 27 (sg se tm gs)), (aI k (a 3) 72 fprices), (aI k (a 36) 4 fwalks), (aI k (a 37) 4 (nF b2_1)), (aI k (a 40) 4 fd_1)] [0, 1, 2, 3, 4, 5, 6] hP hD (by decide) rfl
    exact W.iret (v := (-1)) hx hb hr (fun t ht hW => ⟨⟨(-1), (b2_1, fd_1), rfl, ⟨hbl_1, hdvl_1⟩, by rw [ht]; exact hP9, hD9⟩, hS.F ht⟩) hS.2.2 dX8_turnAll_86
  · have c_2 : ¬ (50 ≤ tt_1) := fun h => c_2 ((nI_leI (a := 50) (b := tt_1) (by omega) (by omega)).mpr h)
    refine lv_iconst (v := 0) hx hb dX8_turnAll_8 (by decide) ?_
    refine lv_istore (lv' := [(4, .int 0), (3, .int (nI tt_1)), (0, .ref (a 0)), (1, .int (nI sn)), (2, .int p1)]) hx hb dX8_turnAll_9 hl (by decide) rfl (fun ls hl => ?_)
    refine lv_iconst (v := 0) hx hb dX8_turnAll_11 (by decide) ?_
    refine lv_istore (lv' := [(5, .int 0), (4, .int 0), (3, .int (nI tt_1)), (0, .ref (a 0)), (1, .int (nI sn)), (2, .int p1)]) hx hb dX8_turnAll_12 hl (by decide) rfl (fun ls hl => ?_)
    refine W_loop (σ := Nat × Int32 × (Nat → Nat) × (Nat → Int32)) (fun (n_ : Nat) (x_ : Nat × Int32 × (Nat → Nat) × (Nat → Int32)) (H : Heap) (locs : List Loc) (ls : Array Slot) => match x_ with | (cc_3, chg_3, b2_3, fd_3) => n_ = 4 - cc_3 ∧ (cc_3 ≤ 4 ∧ (∀ j, b2_3 j ≤ 24) ∧ dvOK fd_3) ∧ va_P D classes [((a 0), .inr (8, (fX8 a (nI tx) fp (nI t0) wd (nI we) nu na (nI rd) ts (nI ru) (nI rw) (nI ca) df db sd))), (aI k (a 1) 3 (nF dn)), (aI k (a 4) 27 (sg se tm gs)), (aI k (a 3) 72 fprices), (aI k (a 36) 4 fwalks), (aI k (a 37) 4 (nF b2_3)), (aI k (a 40) 4 fd_3)] H ∧ va_D A [((a 0), .inr (8, (fX8 a (nI tx) fp (nI t0) wd (nI we) nu na (nI rd) ts (nI ru) (nI rw) (nI ca) df db sd))), (aI k (a 1) 3 (nF dn)), (aI k (a 4) 27 (sg se tm gs)), (aI k (a 3) 72 fprices), (aI k (a 36) 4 fwalks), (aI k (a 37) 4 (nF b2_3)), (aI k (a 40) 4 fd_3)] ∧ va_S A s.heap H locs ∧ lv_has ls 7 [(5, .int (nI cc_3)), (4, .int chg_3), (3, .int (nI tt_1)), (0, .ref (a 0)), (1, .int (nI sn)), (2, .int p1)]) (fun n_3 x_3 H locs ls hI ih_3 => ?_) _ (0, 0, b2_1, fd_1) ⟨rfl, ⟨by omega, hbl_1, hdvl_1⟩, hP, hD, hS, (lv_sub hl [0, 1, 2, 3, 4, 5] rfl)⟩
    obtain ⟨cc_3, chg_3, b2_3, fd_3⟩ := x_3
    obtain ⟨hm_3, hv_3, hP, hD, hS, hl⟩ := hI
    subst hm_3
    have hbl_3 := hv_3.2.1
    have hdvl_3 := hv_3.2.2
    refine lv_iload hx hb dX8_turnAll_14 (lv_at hl 0 rfl) ?_
    refine lv_aload_n hx hb dX8_turnAll_16 rfl (lv_at hl 3 rfl) ?_
    refine va_get (D := D) (ci := 8) (v := .int (nI ca)) (C := RX8) (T := TX8) (N := 44) hx hb hts inX8 hown hK hP 0 rfl rfl 34 (by decide) (hts _ tw_1007) (fun _ h9 => h9) rfl dX8_turnAll_17 ?_
    refine lv_icmp_ge (tgt := 72) hx hb dX8_turnAll_20 (by decide) (fun c_4 => ?_) (fun c_4 => ?_)
    · have c_4 := (nI_leI (a := ca) (b := cc_3) (by omega) (by omega)).mp c_4
      refine lv_iload hx hb dX8_turnAll_72 (lv_at hl 1 rfl) ?_
      refine lv_if_ne (tgt := 79) hx hb dX8_turnAll_74 (by decide) (fun c_5 => ?_) (fun c_5 => ?_)
      · refine lv_iinc (v := (nI (tt_1 + 1))) (lv' := [(3, .int (nI (tt_1 + 1))), (5, .int (nI cc_3)), (4, .int chg_3), (0, .ref (a 0)), (1, .int (nI sn)), (2, .int p1)]) hx hb dX8_turnAll_79 hl (k := 2) rfl (nI_add tt_1 1) (by decide) rfl (fun ls hl => ?_)
        refine lv_goto (tgt := 2) hx hb dX8_turnAll_82 (by decide) ?_
        exact ih_1 _ (tt_1 + 1, b2_3, fd_3) _ _ _ (by omega) ⟨rfl, ⟨by omega, hbl_3, hdvl_3⟩, hP, hD, hS, (lv_sub hl [0, 3, 4, 5] rfl)⟩
      · refine lv_iload_n hx hb dX8_turnAll_77 rfl (lv_at hl 2 rfl) ?_
        obtain ⟨hP9, hD9⟩ := pd_sub [((a 0), .inr (8, (fX8 a (nI tx) fp (nI t0) wd (nI we) nu na (nI rd) ts (nI ru) (nI rw) (nI ca) df db sd))), (aI k (a 1) 3 (nF dn)), (aI k (a 4) 27 (sg se tm gs)), (aI k (a 3) 72 fprices), (aI k (a 36) 4 fwalks), (aI k (a 37) 4 (nF b2_3)), (aI k (a 40) 4 fd_3)] [0, 1, 2, 3, 4, 5, 6] hP hD (by decide) rfl
        exact W.iret (v := (nI tt_1)) hx hb hr (fun t ht hW => ⟨⟨(nI tt_1), (b2_3, fd_3), rfl, ⟨hbl_3, hdvl_3⟩, by rw [ht]; exact hP9, hD9⟩, hS.F ht⟩) hS.2.2 dX8_turnAll_78
    · have c_4 : ¬ (ca ≤ cc_3) := fun h => c_4 ((nI_leI (a := ca) (b := cc_3) (by omega) (by omega)).mpr h)
      refine lv_aload_n hx hb dX8_turnAll_23 rfl (lv_at hl 3 rfl) ?_
      refine lv_iload_n hx hb dX8_turnAll_24 rfl (lv_at hl 4 rfl) ?_
      refine lv_iload_n hx hb dX8_turnAll_25 rfl (lv_at hl 5 rfl) ?_
      refine lv_iload hx hb dX8_turnAll_26 (lv_at hl 0 rfl) ?_
      refine rw_i (D := D) (wr := []) (va_runV (As := [.int (nI sn), .int p1, .int (nI cc_3)]) (rest := []) ⟨hx, hb, hml, hown, hts⟩ ((m_bestBar l D k st lo a tx t0 we rd ru rw ca fp wd nu na ts df db sd dn se tm gs fprices fwalks b2_3 fd_3 sn cc_3 p1 hdn (by first | assumption | omega) hbl_3 (by first | assumption | omega) (by first | assumption | omega) hdvl_3) H.size) (cwV 3 hts (gV tw_1414 tw_1416 tw_69 tw_87 tw_1417) rfl rfl rfl (by decide +kernel) ⟨Nat.le_of_ble_eq_true rfl, Nat.le_of_ble_eq_true rfl⟩) (pV hS hAlo hlo hP hK (va_Dlo hD hAlo) hZ [0, 1, 2, 3, 4, 5, 6] (by decide) rfl (ci := 8) (q := (RX8, TX8, 44)) (q0 := 0) rfl rfl) rfl rfl hl.1 rfl (lv_room (Nat.le_of_ble_eq_true rfl)) dX8_turnAll_28 ⟨Nat.le_of_ble_eq_true rfl, Nat.le_of_ble_eq_true rfl⟩) hS hA hP hD [0, 1, 2, 3, 4, 5, 6] [] rfl rfl (by decide) (by decide) (fun r_6 u H locs hw_6 hP hD hS => ?_)
      obtain ⟨br__6, fdoorsOf__6, er_6⟩ := u
      have hQ9 := pd_mk [((a 0), .inr (8, (fX8 a (nI tx) fp (nI t0) wd (nI we) nu na (nI rd) ts (nI ru) (nI rw) (nI ca) df db sd))), (aI k (a 1) 3 (nF dn)), (aI k (a 4) 27 (sg se tm gs)), (aI k (a 3) 72 fprices), (aI k (a 36) 4 fwalks), (aI k (a 37) 4 (nF br__6)), (aI k (a 40) 4 fdoorsOf__6)] hP hD
      clear hP hD
      obtain ⟨hP, hD⟩ := hQ9
      try dsimp only at hw_6
      obtain ⟨rfl, hw_6⟩ := hw_6
      refine lv_istore (lv' := [(6, .int (nI er_6)), (5, .int (nI cc_3)), (4, .int chg_3), (3, .int (nI tt_1)), (0, .ref (a 0)), (1, .int (nI sn)), (2, .int p1)]) hx hb dX8_turnAll_31 hl (by decide) rfl (fun ls hl => ?_)
      refine lv_iload hx hb dX8_turnAll_33 (lv_at hl 2 rfl) ?_
      refine lv_if_ne (tgt := 50) hx hb dX8_turnAll_35 (by decide) (fun c_7 => ?_) (fun c_7 => ?_)
      · refine lv_iconst (v := 1) hx hb dX8_turnAll_50 (by decide) ?_
        refine lv_goto (tgt := 55) hx hb dX8_turnAll_51 (by decide) ?_
        refine lv_istore (lv' := [(4, .int 1), (6, .int (nI er_6)), (5, .int (nI cc_3)), (3, .int (nI tt_1)), (0, .ref (a 0)), (1, .int (nI sn)), (2, .int p1)]) hx hb dX8_turnAll_55 hl (by decide) rfl (fun ls hl => ?_)
        refine lv_aload_n hx hb dX8_turnAll_57 rfl (lv_at hl 4 rfl) ?_
        refine va_get (D := D) (ci := 8) (v := .ref (a 37)) (C := RX8) (T := TX8) (N := 44) hx hb hts inX8 hown hK hP 0 rfl rfl 36 (by decide) (hts _ tw_1009) (fun _ h9 => h9) rfl dX8_turnAll_58 ?_
        refine lv_iload hx hb dX8_turnAll_61 (lv_at hl 2 rfl) ?_
        refine lv_iload hx hb dX8_turnAll_63 (lv_at hl 1 rfl) ?_
        refine va_iast hx hb hK hP hD hS 5 1 rfl rfl (vp_in_nI (by omega) (by decide)) dX8_turnAll_65 (fun H locs hP hD hS => ?_)
        have hQ9 := pd_mk [((a 0), .inr (8, (fX8 a (nI tx) fp (nI t0) wd (nI we) nu na (nI rd) ts (nI ru) (nI rw) (nI ca) df db sd))), (aI k (a 1) 3 (nF dn)), (aI k (a 4) 27 (sg se tm gs)), (aI k (a 3) 72 fprices), (aI k (a 36) 4 fwalks), (aI k (a 37) 4 (upd (nF br__6) (Int32.toNatClampNeg (nI cc_3)) (nI er_6))), (aI k (a 40) 4 fdoorsOf__6)] hP hD
        clear hP hD
        obtain ⟨hP, hD⟩ := hQ9
        rw [nI_clamp (n := cc_3) (by omega)] at hP hD
        rw [show upd (nF br__6) cc_3 (nI er_6) = nF (fun j => if j = cc_3 then er_6 else br__6 j) from nF_upd _ _ _] at hP hD
        obtain ⟨d_9, hd_9⟩ : ∃ z : Nat → Nat, z = (fun j => if j = cc_3 then er_6 else br__6 j) := ⟨_, rfl⟩
        rw [← hd_9] at hP hD
        have hbb_9 : ∀ j, d_9 j ≤ 24 := by rw [hd_9]; exact up_le hw_6.2.1 (by omega)
        refine lv_iinc (v := (nI (cc_3 + 1))) (lv' := [(5, .int (nI (cc_3 + 1))), (4, .int 1), (6, .int (nI er_6)), (3, .int (nI tt_1)), (0, .ref (a 0)), (1, .int (nI sn)), (2, .int p1)]) hx hb dX8_turnAll_66 hl (k := 2) rfl (nI_add cc_3 1) (by decide) rfl (fun ls hl => ?_)
        refine lv_goto (tgt := 14) hx hb dX8_turnAll_69 (by decide) ?_
        exact ih_3 _ (cc_3 + 1, 1, d_9, fdoorsOf__6) _ _ _ (by omega) ⟨rfl, ⟨by omega, hbb_9, hw_6.2.2⟩, hP, hD, hS, (lv_sub hl [0, 1, 3, 4, 5, 6] rfl)⟩
      · refine lv_iload hx hb dX8_turnAll_38 (lv_at hl 0 rfl) ?_
        refine lv_aload_n hx hb dX8_turnAll_40 rfl (lv_at hl 4 rfl) ?_
        refine va_get (D := D) (ci := 8) (v := .ref (a 37)) (C := RX8) (T := TX8) (N := 44) hx hb hts inX8 hown hK hP 0 rfl rfl 36 (by decide) (hts _ tw_1009) (fun _ h9 => h9) rfl dX8_turnAll_41 ?_
        refine lv_iload hx hb dX8_turnAll_44 (lv_at hl 1 rfl) ?_
        refine va_iald hx hb hK hP 5 1 rfl rfl (vp_in_nI (by omega) (by decide)) dX8_turnAll_46 ?_
        have hq_10 := hw_6.2.1 cc_3
        refine lv_ti (y := (nI (br__6 cc_3))) (by rw [nI_clamp (by omega)]; rfl) ?_
        refine lv_icmp_eq (tgt := 54) hx hb dX8_turnAll_47 (by decide) (fun c_11 => ?_) (fun c_11 => ?_)
        · have c_11 := (nI_eq (a := er_6) (b := (br__6 cc_3)) (by omega) (by omega)).mp c_11
          refine lv_iconst (v := 0) hx hb dX8_turnAll_54 (by decide) ?_
          refine lv_istore (lv' := [(4, .int 0), (6, .int (nI er_6)), (5, .int (nI cc_3)), (3, .int (nI tt_1)), (0, .ref (a 0)), (1, .int (nI sn)), (2, .int p1)]) hx hb dX8_turnAll_55 hl (by decide) rfl (fun ls hl => ?_)
          refine lv_aload_n hx hb dX8_turnAll_57 rfl (lv_at hl 4 rfl) ?_
          refine va_get (D := D) (ci := 8) (v := .ref (a 37)) (C := RX8) (T := TX8) (N := 44) hx hb hts inX8 hown hK hP 0 rfl rfl 36 (by decide) (hts _ tw_1009) (fun _ h9 => h9) rfl dX8_turnAll_58 ?_
          refine lv_iload hx hb dX8_turnAll_61 (lv_at hl 2 rfl) ?_
          refine lv_iload hx hb dX8_turnAll_63 (lv_at hl 1 rfl) ?_
          refine va_iast hx hb hK hP hD hS 5 1 rfl rfl (vp_in_nI (by omega) (by decide)) dX8_turnAll_65 (fun H locs hP hD hS => ?_)
          have hQ9 := pd_mk [((a 0), .inr (8, (fX8 a (nI tx) fp (nI t0) wd (nI we) nu na (nI rd) ts (nI ru) (nI rw) (nI ca) df db sd))), (aI k (a 1) 3 (nF dn)), (aI k (a 4) 27 (sg se tm gs)), (aI k (a 3) 72 fprices), (aI k (a 36) 4 fwalks), (aI k (a 37) 4 (upd (nF br__6) (Int32.toNatClampNeg (nI cc_3)) (nI er_6))), (aI k (a 40) 4 fdoorsOf__6)] hP hD
          clear hP hD
          obtain ⟨hP, hD⟩ := hQ9
          rw [nI_clamp (n := cc_3) (by omega)] at hP hD
          rw [show upd (nF br__6) cc_3 (nI er_6) = nF (fun j => if j = cc_3 then er_6 else br__6 j) from nF_upd _ _ _] at hP hD
          obtain ⟨d_13, hd_13⟩ : ∃ z : Nat → Nat, z = (fun j => if j = cc_3 then er_6 else br__6 j) := ⟨_, rfl⟩
          rw [← hd_13] at hP hD
          have hbb_13 : ∀ j, d_13 j ≤ 24 := by rw [hd_13]; exact up_le hw_6.2.1 (by omega)
          refine lv_iinc (v := (nI (cc_3 + 1))) (lv' := [(5, .int (nI (cc_3 + 1))), (4, .int 0), (6, .int (nI er_6)), (3, .int (nI tt_1)), (0, .ref (a 0)), (1, .int (nI sn)), (2, .int p1)]) hx hb dX8_turnAll_66 hl (k := 2) rfl (nI_add cc_3 1) (by decide) rfl (fun ls hl => ?_)
          refine lv_goto (tgt := 14) hx hb dX8_turnAll_69 (by decide) ?_
          exact ih_3 _ (cc_3 + 1, 0, d_13, fdoorsOf__6) _ _ _ (by omega) ⟨rfl, ⟨by omega, hbb_13, hw_6.2.2⟩, hP, hD, hS, (lv_sub hl [0, 1, 3, 4, 5, 6] rfl)⟩
        · have c_11 : ¬ (er_6 = (br__6 cc_3)) := fun h => c_11 ((nI_eq (a := er_6) (b := (br__6 cc_3)) (by omega) (by omega)).mpr h)
          refine lv_iconst (v := 1) hx hb dX8_turnAll_50 (by decide) ?_
          refine lv_goto (tgt := 55) hx hb dX8_turnAll_51 (by decide) ?_
          refine lv_istore (lv' := [(4, .int 1), (6, .int (nI er_6)), (5, .int (nI cc_3)), (3, .int (nI tt_1)), (0, .ref (a 0)), (1, .int (nI sn)), (2, .int p1)]) hx hb dX8_turnAll_55 hl (by decide) rfl (fun ls hl => ?_)
          refine lv_aload_n hx hb dX8_turnAll_57 rfl (lv_at hl 4 rfl) ?_
          refine va_get (D := D) (ci := 8) (v := .ref (a 37)) (C := RX8) (T := TX8) (N := 44) hx hb hts inX8 hown hK hP 0 rfl rfl 36 (by decide) (hts _ tw_1009) (fun _ h9 => h9) rfl dX8_turnAll_58 ?_
          refine lv_iload hx hb dX8_turnAll_61 (lv_at hl 2 rfl) ?_
          refine lv_iload hx hb dX8_turnAll_63 (lv_at hl 1 rfl) ?_
          refine va_iast hx hb hK hP hD hS 5 1 rfl rfl (vp_in_nI (by omega) (by decide)) dX8_turnAll_65 (fun H locs hP hD hS => ?_)
          have hQ9 := pd_mk [((a 0), .inr (8, (fX8 a (nI tx) fp (nI t0) wd (nI we) nu na (nI rd) ts (nI ru) (nI rw) (nI ca) df db sd))), (aI k (a 1) 3 (nF dn)), (aI k (a 4) 27 (sg se tm gs)), (aI k (a 3) 72 fprices), (aI k (a 36) 4 fwalks), (aI k (a 37) 4 (upd (nF br__6) (Int32.toNatClampNeg (nI cc_3)) (nI er_6))), (aI k (a 40) 4 fdoorsOf__6)] hP hD
          clear hP hD
          obtain ⟨hP, hD⟩ := hQ9
          rw [nI_clamp (n := cc_3) (by omega)] at hP hD
          rw [show upd (nF br__6) cc_3 (nI er_6) = nF (fun j => if j = cc_3 then er_6 else br__6 j) from nF_upd _ _ _] at hP hD
          obtain ⟨d_15, hd_15⟩ : ∃ z : Nat → Nat, z = (fun j => if j = cc_3 then er_6 else br__6 j) := ⟨_, rfl⟩
          rw [← hd_15] at hP hD
          have hbb_15 : ∀ j, d_15 j ≤ 24 := by rw [hd_15]; exact up_le hw_6.2.1 (by omega)
          refine lv_iinc (v := (nI (cc_3 + 1))) (lv' := [(5, .int (nI (cc_3 + 1))), (4, .int 1), (6, .int (nI er_6)), (3, .int (nI tt_1)), (0, .ref (a 0)), (1, .int (nI sn)), (2, .int p1)]) hx hb dX8_turnAll_66 hl (k := 2) rfl (nI_add cc_3 1) (by decide) rfl (fun ls hl => ?_)
          refine lv_goto (tgt := 14) hx hb dX8_turnAll_69 (by decide) ?_
          exact ih_3 _ (cc_3 + 1, 1, d_15, fdoorsOf__6) _ _ _ (by omega) ⟨rfl, ⟨by omega, hbb_15, hw_6.2.2⟩, hP, hD, hS, (lv_sub hl [0, 1, 3, 4, 5, 6] rfl)⟩

theorem dX8_turn_0 : decode cX8_turn 0 = .ok (.aload_n 0, 1) := by decide +kernel
theorem dX8_turn_1 : decode cX8_turn 1 = .ok (.iload_n 1, 1) := by decide +kernel
theorem dX8_turn_2 : decode cX8_turn 2 = .ok (.invokevirtual 206, 3) := by decide +kernel
theorem dX8_turn_5 : decode cX8_turn 5 = .ok (.ifCond .ne 7, 3) := by decide +kernel
theorem dX8_turn_8 : decode cX8_turn 8 = .ok (.sipush (-1001), 3) := by decide +kernel
theorem dX8_turn_11 : decode cX8_turn 11 = .ok (.ireturn, 1) := by decide +kernel
theorem dX8_turn_12 : decode cX8_turn 12 = .ok (.aload_n 0, 1) := by decide +kernel
theorem dX8_turn_13 : decode cX8_turn 13 = .ok (.iload_n 1, 1) := by decide +kernel
theorem dX8_turn_14 : decode cX8_turn 14 = .ok (.iload_n 2, 1) := by decide +kernel
theorem dX8_turn_15 : decode cX8_turn 15 = .ok (.invokevirtual 333, 3) := by decide +kernel
theorem dX8_turn_18 : decode cX8_turn 18 = .ok (.ifCond .eq 12, 3) := by decide +kernel
theorem dX8_turn_21 : decode cX8_turn 21 = .ok (.aload_n 0, 1) := by decide +kernel
theorem dX8_turn_22 : decode cX8_turn 22 = .ok (.iload_n 1, 1) := by decide +kernel
theorem dX8_turn_23 : decode cX8_turn 23 = .ok (.iload_n 2, 1) := by decide +kernel
theorem dX8_turn_24 : decode cX8_turn 24 = .ok (.invokevirtual 345, 3) := by decide +kernel
theorem dX8_turn_27 : decode cX8_turn 27 = .ok (.goto 6, 3) := by decide +kernel
theorem dX8_turn_30 : decode cX8_turn 30 = .ok (.sipush (-1002), 3) := by decide +kernel
theorem dX8_turn_33 : decode cX8_turn 33 = .ok (.ireturn, 1) := by decide +kernel
set_option maxHeartbeats 4000000 in
set_option maxRecDepth 100000 in
theorem m_turn (l : Launch) (D : va_G) (k : Nat → ClassId) (st : Nat → Nat) (lo : Nat) (a : Nat → Nat) (tx : Nat) (t0 : Nat) (we : Nat) (rd : Nat) (ru : Nat) (rw : Nat) (ca : Nat) (fp : Int32) (wd : Int64) (nu : Int32) (na : Int32) (ts : Int32) (df : Int32) (db : Int32) (sd : Int32) (dn : Nat → Nat) (se : Nat → Nat) (tm : Nat → Nat) (gs : Nat → Int32) (fprices : Nat → Int32) (fwalks : Nat → Int32) (br : Nat → Nat) (fdoorsOf : Nat → Int32) (p0 : Int32) (p1 : Int32) (hdn : ∀ j, dn j ≤ 24) (hca : ca ≤ 4) (hbr : ∀ j, br j ≤ 24) (hdv : dvOK fdoorsOf) : CWi l D k st lo yX8_turn cX8_turn 3 (some .int) ({ frames := 7, cells := 0, slots := 0, locals := 171 }) 0 0 [.ref (a 0), .int p0, .int p1] [((a 0), .inr (8, (fX8 a (nI tx) fp (nI t0) wd (nI we) nu na (nI rd) ts (nI ru) (nI rw) (nI ca) df db sd))), (aI k (a 1) 3 (nF dn)), (aI k (a 4) 27 (sg se tm gs)), (aI k (a 3) 72 fprices), (aI k (a 36) 4 fwalks), (aI k (a 37) 4 (nF br)), (aI k (a 40) 4 fdoorsOf)] (fun (r : Int32) (u : (Nat → Nat) × (Nat → Int32)) => match u with | (br_, fdoorsOf_) => (∀ j, br_ j ≤ 24) ∧ dvOK fdoorsOf_) (fun (u : (Nat → Nat) × (Nat → Int32)) => match u with | (br_, fdoorsOf_) => [((a 0), .inr (8, (fX8 a (nI tx) fp (nI t0) wd (nI we) nu na (nI rd) ts (nI ru) (nI rw) (nI ca) df db sd))), (aI k (a 1) 3 (nF dn)), (aI k (a 4) 27 (sg se tm gs)), (aI k (a 3) 72 fprices), (aI k (a 36) 4 fwalks), (aI k (a 37) 4 (nF br_)), (aI k (a 40) 4 fdoorsOf_)]) := by
  intro sz
  refine Met.ofW (cc := cX8_turn) (maxL := 3) (ret := (some .int)) (by decide) rfl ?_
  intro p e s m args below meth c s₁ B hml hv
  obtain ⟨rfl, hsz, hlo, hP, hK, hDL, hZ⟩ := hv
  have hx := B.exec
  have hb := B.bytes
  have hr := B.returns
  have hts := WS_ts B.pre
  have hown : s.vm.findClass RX8 = some m.cls := findClass_of_methodNamed B.named
  have hlocks := B.notSynchronized
  subst hsz
  have hD := hDL.self (sz := s.heap.size)
  have hAlo := A_lo hDL hlo
  generalize hAe : va_A [((a 0), .inr (8, (fX8 a (nI tx) fp (nI t0) wd (nI we) nu na (nI rd) ts (nI ru) (nI rw) (nI ca) df db sd))), (aI k (a 1) 3 (nF dn)), (aI k (a 4) 27 (sg se tm gs)), (aI k (a 3) 72 fprices), (aI k (a 36) 4 fwalks), (aI k (a 37) 4 (nF br)), (aI k (a 40) 4 fdoorsOf)] s.heap.size = A at hD hAlo ⊢
  have hA : ∀ q : Nat, s.heap.size ≤ q → A q := fun q h => by rw [← hAe]; exact Or.inr h
  have hS : va_S A s.heap s.heap [] := va_S.rf
  have hl := lv_entry ([.ref (a 0), .int p0, .int p1]) (n := 3) (Nat.le_of_ble_eq_true rfl)
  rw [lg_entry_eq]
  generalize (lg_sl ([.ref (a 0), .int p0, .int p1]) ++ List.replicate (3 - (lg_sl ([.ref (a 0), .int p0, .int p1])).length) Slot.unset).toArray = ls at hl ⊢
  have hl : lv_has ls 3 [(0, .ref (a 0)), (1, .int p0), (2, .int p1)] := hl
  refine lv_aload_n hx hb dX8_turn_0 rfl (lv_at hl 0 rfl) ?_
  refine lv_iload_n hx hb dX8_turn_1 rfl (lv_at hl 1 rfl) ?_
  refine ro_i (D := D) (va_runV (As := [.int p0]) (rest := []) ⟨hx, hb, hml, hown, hts⟩ ((m_isStreet l D k st lo a tx t0 we rd ru rw ca fp wd nu na ts df db sd dn p0 hdn) s.heap.size) (cwV 1 hts (gV tw_1189 tw_1191 tw_38 tw_87 tw_1192) rfl rfl rfl (by decide +kernel) ⟨Nat.le_of_ble_eq_true rfl, Nat.le_of_ble_eq_true rfl⟩) (pV hS hAlo hlo hP hK (va_Dlo hD hAlo) hZ [0, 1] (by decide) rfl (ci := 8) (q := (RX8, TX8, 44)) (q0 := 0) rfl rfl) rfl rfl hl.1 rfl (lv_room (Nat.le_of_ble_eq_true rfl)) dX8_turn_2 ⟨Nat.le_of_ble_eq_true rfl, Nat.le_of_ble_eq_true rfl⟩) hS hA hP (fun r_1 H locs hw_1 hP hS => ?_)
  try dsimp only at hw_1
  rcases hw_1 with ⟨rfl, j_2, hj_2, rfl, hw_1⟩ | rfl
  · have hdj_2 := hdn j_2
    refine lv_if_ne (tgt := 12) hx hb dX8_turn_5 (by decide) (fun _ => ?_) (fun h => absurd h (by decide))
    refine lv_aload_n hx hb dX8_turn_12 rfl (lv_at hl 0 rfl) ?_
    refine lv_iload_n hx hb dX8_turn_13 rfl (lv_at hl 1 rfl) ?_
    refine lv_iload_n hx hb dX8_turn_14 rfl (lv_at hl 2 rfl) ?_
    refine ro_i (D := D) (va_runV (As := [.int (nI j_2), .int p1]) (rest := []) ⟨hx, hb, hml, hown, hts⟩ ((m_isSet l D k st lo a tx t0 we rd ru rw ca fp wd nu na ts df db sd dn j_2 p1 hdn (by first | assumption | omega)) H.size) (cwV 2 hts (gV tw_1390 tw_1392 tw_64 tw_87 tw_1393) rfl rfl rfl (by decide +kernel) ⟨Nat.le_of_ble_eq_true rfl, Nat.le_of_ble_eq_true rfl⟩) (pV hS hAlo hlo hP hK (va_Dlo hD hAlo) hZ [0, 1] (by decide) rfl (ci := 8) (q := (RX8, TX8, 44)) (q0 := 0) rfl rfl) rfl rfl hl.1 rfl (lv_room (Nat.le_of_ble_eq_true rfl)) dX8_turn_15 ⟨Nat.le_of_ble_eq_true rfl, Nat.le_of_ble_eq_true rfl⟩) hS hA hP (fun r_3 H locs hw_3 hP hS => ?_)
    try dsimp only at hw_3
    refine lv_if_eq (tgt := 30) hx hb dX8_turn_18 (by decide) (fun c_4 => ?_) (fun c_4 => ?_)
    · refine lv_sipush (v := (-1002)) hx hb dX8_turn_30 (by decide) ?_
      obtain ⟨hP9, hD9⟩ := pd_sub [((a 0), .inr (8, (fX8 a (nI tx) fp (nI t0) wd (nI we) nu na (nI rd) ts (nI ru) (nI rw) (nI ca) df db sd))), (aI k (a 1) 3 (nF dn)), (aI k (a 4) 27 (sg se tm gs)), (aI k (a 3) 72 fprices), (aI k (a 36) 4 fwalks), (aI k (a 37) 4 (nF br)), (aI k (a 40) 4 fdoorsOf)] [0, 1, 2, 3, 4, 5, 6] hP hD (by decide) rfl
      exact W.iret (v := (-1002)) hx hb hr (fun t ht hW => ⟨⟨(-1002), (br, fdoorsOf), rfl, ⟨hbr, hdv⟩, by rw [ht]; exact hP9, hD9⟩, hS.F ht⟩) hS.2.2 dX8_turn_33
    · refine lv_aload_n hx hb dX8_turn_21 rfl (lv_at hl 0 rfl) ?_
      refine lv_iload_n hx hb dX8_turn_22 rfl (lv_at hl 1 rfl) ?_
      refine lv_iload_n hx hb dX8_turn_23 rfl (lv_at hl 2 rfl) ?_
      refine rw_i (D := D) (wr := []) (va_runV (As := [.int (nI j_2), .int p1]) (rest := []) ⟨hx, hb, hml, hown, hts⟩ ((m_turnAll l D k st lo a tx t0 we rd ru rw ca fp wd nu na ts df db sd dn se tm gs fprices fwalks br fdoorsOf j_2 p1 hdn (by first | assumption | omega) hbr (by first | assumption | omega) hdv) H.size) (cwV 2 hts (gV tw_1422 tw_1424 tw_70 tw_87 tw_1425) rfl rfl rfl (by decide +kernel) ⟨Nat.le_of_ble_eq_true rfl, Nat.le_of_ble_eq_true rfl⟩) (pV hS hAlo hlo hP hK (va_Dlo hD hAlo) hZ [0, 1, 2, 3, 4, 5, 6] (by decide) rfl (ci := 8) (q := (RX8, TX8, 44)) (q0 := 0) rfl rfl) rfl rfl hl.1 rfl (lv_room (Nat.le_of_ble_eq_true rfl)) dX8_turn_24 ⟨Nat.le_of_ble_eq_true rfl, Nat.le_of_ble_eq_true rfl⟩) hS hA hP hD [0, 1, 2, 3, 4, 5, 6] [] rfl rfl (by decide) (by decide) (fun r_5 u H locs hw_5 hP hD hS => ?_)
      obtain ⟨br__5, fdoorsOf__5⟩ := u
      have hQ9 := pd_mk [((a 0), .inr (8, (fX8 a (nI tx) fp (nI t0) wd (nI we) nu na (nI rd) ts (nI ru) (nI rw) (nI ca) df db sd))), (aI k (a 1) 3 (nF dn)), (aI k (a 4) 27 (sg se tm gs)), (aI k (a 3) 72 fprices), (aI k (a 36) 4 fwalks), (aI k (a 37) 4 (nF br__5)), (aI k (a 40) 4 fdoorsOf__5)] hP hD
      clear hP hD
      obtain ⟨hP, hD⟩ := hQ9
      try dsimp only at hw_5
      refine lv_goto (tgt := 33) hx hb dX8_turn_27 (by decide) ?_
      obtain ⟨hP9, hD9⟩ := pd_sub [((a 0), .inr (8, (fX8 a (nI tx) fp (nI t0) wd (nI we) nu na (nI rd) ts (nI ru) (nI rw) (nI ca) df db sd))), (aI k (a 1) 3 (nF dn)), (aI k (a 4) 27 (sg se tm gs)), (aI k (a 3) 72 fprices), (aI k (a 36) 4 fwalks), (aI k (a 37) 4 (nF br__5)), (aI k (a 40) 4 fdoorsOf__5)] [0, 1, 2, 3, 4, 5, 6] hP hD (by decide) rfl
      exact W.iret (v := r_5) hx hb hr (fun t ht hW => ⟨⟨r_5, (br__5, fdoorsOf__5), rfl, ⟨hw_5.1, hw_5.2⟩, by rw [ht]; exact hP9, hD9⟩, hS.F ht⟩) hS.2.2 dX8_turn_33
  · refine lv_if_ne (tgt := 12) hx hb dX8_turn_5 (by decide) (fun h => absurd (by decide) h) (fun _ => ?_)
    refine lv_sipush (v := (-1001)) hx hb dX8_turn_8 (by decide) ?_
    obtain ⟨hP9, hD9⟩ := pd_sub [((a 0), .inr (8, (fX8 a (nI tx) fp (nI t0) wd (nI we) nu na (nI rd) ts (nI ru) (nI rw) (nI ca) df db sd))), (aI k (a 1) 3 (nF dn)), (aI k (a 4) 27 (sg se tm gs)), (aI k (a 3) 72 fprices), (aI k (a 36) 4 fwalks), (aI k (a 37) 4 (nF br)), (aI k (a 40) 4 fdoorsOf)] [0, 1, 2, 3, 4, 5, 6] hP hD (by decide) rfl
    exact W.iret (v := (-1001)) hx hb hr (fun t ht hW => ⟨⟨(-1001), (br, fdoorsOf), rfl, ⟨hbr, hdv⟩, by rw [ht]; exact hP9, hD9⟩, hS.F ht⟩) hS.2.2 dX8_turn_11

theorem dX8_holdBars_0 : decode cX8_holdBars 0 = .ok (.iconst 0, 1) := by decide +kernel
theorem dX8_holdBars_1 : decode cX8_holdBars 1 = .ok (.istore_n 1, 1) := by decide +kernel
theorem dX8_holdBars_2 : decode cX8_holdBars 2 = .ok (.iload_n 1, 1) := by decide +kernel
theorem dX8_holdBars_3 : decode cX8_holdBars 3 = .ok (.iconst 4, 1) := by decide +kernel
theorem dX8_holdBars_4 : decode cX8_holdBars 4 = .ok (.if_icmp .ge 21, 3) := by decide +kernel
theorem dX8_holdBars_7 : decode cX8_holdBars 7 = .ok (.aload_n 0, 1) := by decide +kernel
theorem dX8_holdBars_8 : decode cX8_holdBars 8 = .ok (.getfield 93, 3) := by decide +kernel
theorem dX8_holdBars_11 : decode cX8_holdBars 11 = .ok (.iload_n 1, 1) := by decide +kernel
theorem dX8_holdBars_12 : decode cX8_holdBars 12 = .ok (.aload_n 0, 1) := by decide +kernel
theorem dX8_holdBars_13 : decode cX8_holdBars 13 = .ok (.getfield 87, 3) := by decide +kernel
theorem dX8_holdBars_16 : decode cX8_holdBars 16 = .ok (.iload_n 1, 1) := by decide +kernel
theorem dX8_holdBars_17 : decode cX8_holdBars 17 = .ok (.iaload, 1) := by decide +kernel
theorem dX8_holdBars_18 : decode cX8_holdBars 18 = .ok (.iastore, 1) := by decide +kernel
theorem dX8_holdBars_19 : decode cX8_holdBars 19 = .ok (.iinc 1 1, 3) := by decide +kernel
theorem dX8_holdBars_22 : decode cX8_holdBars 22 = .ok (.goto (-20), 3) := by decide +kernel
theorem dX8_holdBars_25 : decode cX8_holdBars 25 = .ok (.return_, 1) := by decide +kernel
set_option maxHeartbeats 4000000 in
set_option maxRecDepth 100000 in
theorem m_holdBars (l : Launch) (D : va_G) (k : Nat → ClassId) (st : Nat → Nat) (lo : Nat) (a : Nat → Nat) (tx : Nat) (t0 : Nat) (we : Nat) (rd : Nat) (ru : Nat) (rw : Nat) (ca : Nat) (fp : Int32) (wd : Int64) (nu : Int32) (na : Int32) (ts : Int32) (df : Int32) (db : Int32) (sd : Int32) (br : Nat → Nat) (wb : Nat → Nat) (hbr : ∀ j, br j ≤ 24) (hwb : ∀ j, wb j ≤ 24) : CWv l D k st lo yX8_holdBars cX8_holdBars 2 none ({ frames := 0, cells := 0, slots := 0, locals := 0 }) 0 0 [.ref (a 0)] [((a 0), .inr (8, (fX8 a (nI tx) fp (nI t0) wd (nI we) nu na (nI rd) ts (nI ru) (nI rw) (nI ca) df db sd))), (aI k (a 37) 4 (nF br)), (aI k (a 41) 4 (nF wb))] (fun (wb_ : (Nat → Nat)) => ∀ j, wb_ j ≤ 24) (fun (wb_ : (Nat → Nat)) => [((a 0), .inr (8, (fX8 a (nI tx) fp (nI t0) wd (nI we) nu na (nI rd) ts (nI ru) (nI rw) (nI ca) df db sd))), (aI k (a 37) 4 (nF br)), (aI k (a 41) 4 (nF wb_))]) := by
  intro sz
  refine Met.ofW (cc := cX8_holdBars) (maxL := 2) (ret := none) (by decide) rfl ?_
  intro p e s m args below meth c s₁ B hml hv
  obtain ⟨rfl, hsz, hlo, hP, hK, hDL, hZ⟩ := hv
  have hx := B.exec
  have hb := B.bytes
  have hr := B.returns
  have hts := WS_ts B.pre
  have hown : s.vm.findClass RX8 = some m.cls := findClass_of_methodNamed B.named
  have hlocks := B.notSynchronized
  subst hsz
  have hD := hDL.self (sz := s.heap.size)
  have hAlo := A_lo hDL hlo
  generalize hAe : va_A [((a 0), .inr (8, (fX8 a (nI tx) fp (nI t0) wd (nI we) nu na (nI rd) ts (nI ru) (nI rw) (nI ca) df db sd))), (aI k (a 37) 4 (nF br)), (aI k (a 41) 4 (nF wb))] s.heap.size = A at hD hAlo ⊢
  have hA : ∀ q : Nat, s.heap.size ≤ q → A q := fun q h => by rw [← hAe]; exact Or.inr h
  have hS : va_S A s.heap s.heap [] := va_S.rf
  have hl := lv_entry ([.ref (a 0)]) (n := 2) (Nat.le_of_ble_eq_true rfl)
  rw [lg_entry_eq]
  generalize (lg_sl ([.ref (a 0)]) ++ List.replicate (2 - (lg_sl ([.ref (a 0)])).length) Slot.unset).toArray = ls at hl ⊢
  have hl : lv_has ls 2 [(0, .ref (a 0))] := hl
  refine lv_iconst (v := 0) hx hb dX8_holdBars_0 (by decide) ?_
  refine lv_istore_n (lv' := [(1, .int 0), (0, .ref (a 0))]) hx hb dX8_holdBars_1 rfl hl (by decide) rfl (fun ls hl => ?_)
  refine lv_iload_n hx hb dX8_holdBars_2 rfl (lv_at hl 0 rfl) ?_
  refine lv_iconst (v := 4) hx hb dX8_holdBars_3 (by decide) ?_
  refine lv_icmp_ge (tgt := 25) hx hb dX8_holdBars_4 (by decide) (fun h => absurd h (by decide)) (fun _ => ?_)
  refine lv_aload_n hx hb dX8_holdBars_7 rfl (lv_at hl 1 rfl) ?_
  refine va_get (D := D) (ci := 8) (v := .ref (a 41)) (C := RX8) (T := TX8) (N := 44) hx hb hts inX8 hown hK hP 0 rfl rfl 40 (by decide) (hts _ tw_1013) (fun _ h9 => h9) rfl dX8_holdBars_8 ?_
  refine lv_iload_n hx hb dX8_holdBars_11 rfl (lv_at hl 0 rfl) ?_
  refine lv_aload_n hx hb dX8_holdBars_12 rfl (lv_at hl 1 rfl) ?_
  refine va_get (D := D) (ci := 8) (v := .ref (a 37)) (C := RX8) (T := TX8) (N := 44) hx hb hts inX8 hown hK hP 0 rfl rfl 36 (by decide) (hts _ tw_1009) (fun _ h9 => h9) rfl dX8_holdBars_13 ?_
  refine lv_iload_n hx hb dX8_holdBars_16 rfl (lv_at hl 0 rfl) ?_
  refine va_iald hx hb hK hP 1 1 rfl rfl (by unfold vp_in; decide) dX8_holdBars_17 ?_
  have hq_1 := hbr 0
  refine lv_ti (y := (nI (br 0))) (by rfl) ?_
  refine va_iast hx hb hK hP hD hS 2 1 rfl rfl (by unfold vp_in; decide) dX8_holdBars_18 (fun H locs hP hD hS => ?_)
  have hQ9 := pd_mk [((a 0), .inr (8, (fX8 a (nI tx) fp (nI t0) wd (nI we) nu na (nI rd) ts (nI ru) (nI rw) (nI ca) df db sd))), (aI k (a 37) 4 (nF br)), (aI k (a 41) 4 (upd (nF wb) (Int32.toNatClampNeg 0) (nI (br 0))))] hP hD
  clear hP hD
  obtain ⟨hP, hD⟩ := hQ9
  rw [show upd (nF wb) (Int32.toNatClampNeg 0) (nI (br 0)) = nF (fun j => if j = 0 then br 0 else wb j) from nF_upd _ _ _] at hP hD
  obtain ⟨d_3, hd_3⟩ : ∃ z : Nat → Nat, z = (fun j => if j = 0 then br 0 else wb j) := ⟨_, rfl⟩
  rw [← hd_3] at hP hD
  have hbb_3 : ∀ j, d_3 j ≤ 24 := by rw [hd_3]; exact up_le hwb (by omega)
  refine lv_iinc (v := 1) (lv' := [(1, .int 1), (0, .ref (a 0))]) hx hb dX8_holdBars_19 hl (k := 0) rfl (by decide) (by decide) rfl (fun ls hl => ?_)
  refine lv_goto (tgt := 2) hx hb dX8_holdBars_22 (by decide) ?_
  refine lv_iload_n hx hb dX8_holdBars_2 rfl (lv_at hl 0 rfl) ?_
  refine lv_iconst (v := 4) hx hb dX8_holdBars_3 (by decide) ?_
  refine lv_icmp_ge (tgt := 25) hx hb dX8_holdBars_4 (by decide) (fun h => absurd h (by decide)) (fun _ => ?_)
  refine lv_aload_n hx hb dX8_holdBars_7 rfl (lv_at hl 1 rfl) ?_
  refine va_get (D := D) (ci := 8) (v := .ref (a 41)) (C := RX8) (T := TX8) (N := 44) hx hb hts inX8 hown hK hP 0 rfl rfl 40 (by decide) (hts _ tw_1013) (fun _ h9 => h9) rfl dX8_holdBars_8 ?_
  refine lv_iload_n hx hb dX8_holdBars_11 rfl (lv_at hl 0 rfl) ?_
  refine lv_aload_n hx hb dX8_holdBars_12 rfl (lv_at hl 1 rfl) ?_
  refine va_get (D := D) (ci := 8) (v := .ref (a 37)) (C := RX8) (T := TX8) (N := 44) hx hb hts inX8 hown hK hP 0 rfl rfl 36 (by decide) (hts _ tw_1009) (fun _ h9 => h9) rfl dX8_holdBars_13 ?_
  refine lv_iload_n hx hb dX8_holdBars_16 rfl (lv_at hl 0 rfl) ?_
  refine va_iald hx hb hK hP 1 1 rfl rfl (by unfold vp_in; decide) dX8_holdBars_17 ?_
  have hq_4 := hbr 1
  refine lv_ti (y := (nI (br 1))) (by rfl) ?_
  refine va_iast hx hb hK hP hD hS 2 1 rfl rfl (by unfold vp_in; decide) dX8_holdBars_18 (fun H locs hP hD hS => ?_)
  have hQ9 := pd_mk [((a 0), .inr (8, (fX8 a (nI tx) fp (nI t0) wd (nI we) nu na (nI rd) ts (nI ru) (nI rw) (nI ca) df db sd))), (aI k (a 37) 4 (nF br)), (aI k (a 41) 4 (upd (nF d_3) (Int32.toNatClampNeg 1) (nI (br 1))))] hP hD
  clear hP hD
  obtain ⟨hP, hD⟩ := hQ9
  rw [show upd (nF d_3) (Int32.toNatClampNeg 1) (nI (br 1)) = nF (fun j => if j = 1 then br 1 else d_3 j) from nF_upd _ _ _] at hP hD
  obtain ⟨d_6, hd_6⟩ : ∃ z : Nat → Nat, z = (fun j => if j = 1 then br 1 else d_3 j) := ⟨_, rfl⟩
  rw [← hd_6] at hP hD
  have hbb_6 : ∀ j, d_6 j ≤ 24 := by rw [hd_6]; exact up_le hbb_3 (by omega)
  refine lv_iinc (v := 2) (lv' := [(1, .int 2), (0, .ref (a 0))]) hx hb dX8_holdBars_19 hl (k := 0) rfl (by decide) (by decide) rfl (fun ls hl => ?_)
  refine lv_goto (tgt := 2) hx hb dX8_holdBars_22 (by decide) ?_
  refine lv_iload_n hx hb dX8_holdBars_2 rfl (lv_at hl 0 rfl) ?_
  refine lv_iconst (v := 4) hx hb dX8_holdBars_3 (by decide) ?_
  refine lv_icmp_ge (tgt := 25) hx hb dX8_holdBars_4 (by decide) (fun h => absurd h (by decide)) (fun _ => ?_)
  refine lv_aload_n hx hb dX8_holdBars_7 rfl (lv_at hl 1 rfl) ?_
  refine va_get (D := D) (ci := 8) (v := .ref (a 41)) (C := RX8) (T := TX8) (N := 44) hx hb hts inX8 hown hK hP 0 rfl rfl 40 (by decide) (hts _ tw_1013) (fun _ h9 => h9) rfl dX8_holdBars_8 ?_
  refine lv_iload_n hx hb dX8_holdBars_11 rfl (lv_at hl 0 rfl) ?_
  refine lv_aload_n hx hb dX8_holdBars_12 rfl (lv_at hl 1 rfl) ?_
  refine va_get (D := D) (ci := 8) (v := .ref (a 37)) (C := RX8) (T := TX8) (N := 44) hx hb hts inX8 hown hK hP 0 rfl rfl 36 (by decide) (hts _ tw_1009) (fun _ h9 => h9) rfl dX8_holdBars_13 ?_
  refine lv_iload_n hx hb dX8_holdBars_16 rfl (lv_at hl 0 rfl) ?_
  refine va_iald hx hb hK hP 1 1 rfl rfl (by unfold vp_in; decide) dX8_holdBars_17 ?_
  have hq_7 := hbr 2
  refine lv_ti (y := (nI (br 2))) (by rfl) ?_
  refine va_iast hx hb hK hP hD hS 2 1 rfl rfl (by unfold vp_in; decide) dX8_holdBars_18 (fun H locs hP hD hS => ?_)
  have hQ9 := pd_mk [((a 0), .inr (8, (fX8 a (nI tx) fp (nI t0) wd (nI we) nu na (nI rd) ts (nI ru) (nI rw) (nI ca) df db sd))), (aI k (a 37) 4 (nF br)), (aI k (a 41) 4 (upd (nF d_6) (Int32.toNatClampNeg 2) (nI (br 2))))] hP hD
  clear hP hD
  obtain ⟨hP, hD⟩ := hQ9
  rw [show upd (nF d_6) (Int32.toNatClampNeg 2) (nI (br 2)) = nF (fun j => if j = 2 then br 2 else d_6 j) from nF_upd _ _ _] at hP hD
  obtain ⟨d_9, hd_9⟩ : ∃ z : Nat → Nat, z = (fun j => if j = 2 then br 2 else d_6 j) := ⟨_, rfl⟩
  rw [← hd_9] at hP hD
  have hbb_9 : ∀ j, d_9 j ≤ 24 := by rw [hd_9]; exact up_le hbb_6 (by omega)
  refine lv_iinc (v := 3) (lv' := [(1, .int 3), (0, .ref (a 0))]) hx hb dX8_holdBars_19 hl (k := 0) rfl (by decide) (by decide) rfl (fun ls hl => ?_)
  refine lv_goto (tgt := 2) hx hb dX8_holdBars_22 (by decide) ?_
  refine lv_iload_n hx hb dX8_holdBars_2 rfl (lv_at hl 0 rfl) ?_
  refine lv_iconst (v := 4) hx hb dX8_holdBars_3 (by decide) ?_
  refine lv_icmp_ge (tgt := 25) hx hb dX8_holdBars_4 (by decide) (fun h => absurd h (by decide)) (fun _ => ?_)
  refine lv_aload_n hx hb dX8_holdBars_7 rfl (lv_at hl 1 rfl) ?_
  refine va_get (D := D) (ci := 8) (v := .ref (a 41)) (C := RX8) (T := TX8) (N := 44) hx hb hts inX8 hown hK hP 0 rfl rfl 40 (by decide) (hts _ tw_1013) (fun _ h9 => h9) rfl dX8_holdBars_8 ?_
  refine lv_iload_n hx hb dX8_holdBars_11 rfl (lv_at hl 0 rfl) ?_
  refine lv_aload_n hx hb dX8_holdBars_12 rfl (lv_at hl 1 rfl) ?_
  refine va_get (D := D) (ci := 8) (v := .ref (a 37)) (C := RX8) (T := TX8) (N := 44) hx hb hts inX8 hown hK hP 0 rfl rfl 36 (by decide) (hts _ tw_1009) (fun _ h9 => h9) rfl dX8_holdBars_13 ?_
  refine lv_iload_n hx hb dX8_holdBars_16 rfl (lv_at hl 0 rfl) ?_
  refine va_iald hx hb hK hP 1 1 rfl rfl (by unfold vp_in; decide) dX8_holdBars_17 ?_
  have hq_10 := hbr 3
  refine lv_ti (y := (nI (br 3))) (by rfl) ?_
  refine va_iast hx hb hK hP hD hS 2 1 rfl rfl (by unfold vp_in; decide) dX8_holdBars_18 (fun H locs hP hD hS => ?_)
  have hQ9 := pd_mk [((a 0), .inr (8, (fX8 a (nI tx) fp (nI t0) wd (nI we) nu na (nI rd) ts (nI ru) (nI rw) (nI ca) df db sd))), (aI k (a 37) 4 (nF br)), (aI k (a 41) 4 (upd (nF d_9) (Int32.toNatClampNeg 3) (nI (br 3))))] hP hD
  clear hP hD
  obtain ⟨hP, hD⟩ := hQ9
  rw [show upd (nF d_9) (Int32.toNatClampNeg 3) (nI (br 3)) = nF (fun j => if j = 3 then br 3 else d_9 j) from nF_upd _ _ _] at hP hD
  obtain ⟨d_12, hd_12⟩ : ∃ z : Nat → Nat, z = (fun j => if j = 3 then br 3 else d_9 j) := ⟨_, rfl⟩
  rw [← hd_12] at hP hD
  have hbb_12 : ∀ j, d_12 j ≤ 24 := by rw [hd_12]; exact up_le hbb_9 (by omega)
  refine lv_iinc (v := 4) (lv' := [(1, .int 4), (0, .ref (a 0))]) hx hb dX8_holdBars_19 hl (k := 0) rfl (by decide) (by decide) rfl (fun ls hl => ?_)
  refine lv_goto (tgt := 2) hx hb dX8_holdBars_22 (by decide) ?_
  refine lv_iload_n hx hb dX8_holdBars_2 rfl (lv_at hl 0 rfl) ?_
  refine lv_iconst (v := 4) hx hb dX8_holdBars_3 (by decide) ?_
  refine lv_icmp_ge (tgt := 25) hx hb dX8_holdBars_4 (by decide) (fun _ => ?_) (fun h => absurd (by decide) h)
  obtain ⟨hP9, hD9⟩ := pd_sub [((a 0), .inr (8, (fX8 a (nI tx) fp (nI t0) wd (nI we) nu na (nI rd) ts (nI ru) (nI rw) (nI ca) df db sd))), (aI k (a 37) 4 (nF br)), (aI k (a 41) 4 (nF d_12))] [0, 1, 2] hP hD (by decide) rfl
  exact W.vret hx hb hr (fun t ht hW => ⟨⟨d_12, rfl, hbb_12, by rw [ht]; exact hP9, hD9⟩, hS.F ht⟩) hS.2.2 dX8_holdBars_25

theorem tw_68 : Cond.selects RX8 yX8_isAtRest yX8_isAtRest ∈ LW := LWm (i := 68) (by decide +kernel) rfl
theorem tw_71 : Cond.selects RX8 yX8_holdBars yX8_holdBars ∈ LW := LWm (i := 71) (by decide +kernel) rfl
theorem tw_72 : Cond.selects RX8 yX8_putBars yX8_putBars ∈ LW := LWm (i := 72) (by decide +kernel) rfl
theorem tw_73 : Cond.selects RX8 yX8_allCosts yX8_allCosts ∈ LW := LWm (i := 73) (by decide +kernel) rfl
theorem tw_1410 : Cond.methodLink RX8 342 yX8_isAtRest ∈ LW := LWm6 (i := 132) (by decide +kernel) rfl
theorem tw_1412 : Cond.instanceMethod yX8_isAtRest ∈ LW := LWm6 (i := 134) (by decide +kernel) rfl
set_option maxRecDepth 100000 in theorem tw_1413 : Cond.code yX8_isAtRest cX8_isAtRest 5 (some .boolean) ∈ LW := LWm6 (i := 135) rfl rfl
theorem tw_1430 : Cond.methodLink RX8 348 yX8_holdBars ∈ LW := LWm6 (i := 152) (by decide +kernel) rfl
theorem tw_1432 : Cond.instanceMethod yX8_holdBars ∈ LW := LWm6 (i := 154) (by decide +kernel) rfl
set_option maxRecDepth 100000 in theorem tw_1433 : Cond.code yX8_holdBars cX8_holdBars 2 none ∈ LW := LWm6 (i := 155) rfl rfl
theorem tw_1434 : Cond.methodLink RX8 351 yX8_putBars ∈ LW := LWm6 (i := 156) (by decide +kernel) rfl
theorem tw_1436 : Cond.instanceMethod yX8_putBars ∈ LW := LWm6 (i := 158) (by decide +kernel) rfl
set_option maxRecDepth 100000 in theorem tw_1437 : Cond.code yX8_putBars cX8_putBars 2 none ∈ LW := LWm6 (i := 159) rfl rfl
theorem tw_1442 : Cond.methodLink RX8 368 yX8_allCosts ∈ LW := LWm6 (i := 164) (by decide +kernel) rfl
theorem tw_1444 : Cond.instanceMethod yX8_allCosts ∈ LW := LWm6 (i := 166) (by decide +kernel) rfl
set_option maxRecDepth 100000 in theorem tw_1445 : Cond.code yX8_allCosts cX8_allCosts 5 (some .int) ∈ LW := LWm6 (i := 167) rfl rfl
theorem dX8_putBars_0 : decode cX8_putBars 0 = .ok (.iconst 0, 1) := by decide +kernel
theorem dX8_putBars_1 : decode cX8_putBars 1 = .ok (.istore_n 1, 1) := by decide +kernel
theorem dX8_putBars_2 : decode cX8_putBars 2 = .ok (.iload_n 1, 1) := by decide +kernel
theorem dX8_putBars_3 : decode cX8_putBars 3 = .ok (.iconst 4, 1) := by decide +kernel
theorem dX8_putBars_4 : decode cX8_putBars 4 = .ok (.if_icmp .ge 21, 3) := by decide +kernel
theorem dX8_putBars_7 : decode cX8_putBars 7 = .ok (.aload_n 0, 1) := by decide +kernel
theorem dX8_putBars_8 : decode cX8_putBars 8 = .ok (.getfield 87, 3) := by decide +kernel
theorem dX8_putBars_11 : decode cX8_putBars 11 = .ok (.iload_n 1, 1) := by decide +kernel
theorem dX8_putBars_12 : decode cX8_putBars 12 = .ok (.aload_n 0, 1) := by decide +kernel
theorem dX8_putBars_13 : decode cX8_putBars 13 = .ok (.getfield 93, 3) := by decide +kernel
theorem dX8_putBars_16 : decode cX8_putBars 16 = .ok (.iload_n 1, 1) := by decide +kernel
theorem dX8_putBars_17 : decode cX8_putBars 17 = .ok (.iaload, 1) := by decide +kernel
theorem dX8_putBars_18 : decode cX8_putBars 18 = .ok (.iastore, 1) := by decide +kernel
theorem dX8_putBars_19 : decode cX8_putBars 19 = .ok (.iinc 1 1, 3) := by decide +kernel
theorem dX8_putBars_22 : decode cX8_putBars 22 = .ok (.goto (-20), 3) := by decide +kernel
theorem dX8_putBars_25 : decode cX8_putBars 25 = .ok (.return_, 1) := by decide +kernel
set_option maxHeartbeats 4000000 in
set_option maxRecDepth 100000 in
theorem m_putBars (l : Launch) (D : va_G) (k : Nat → ClassId) (st : Nat → Nat) (lo : Nat) (a : Nat → Nat) (tx : Nat) (t0 : Nat) (we : Nat) (rd : Nat) (ru : Nat) (rw : Nat) (ca : Nat) (fp : Int32) (wd : Int64) (nu : Int32) (na : Int32) (ts : Int32) (df : Int32) (db : Int32) (sd : Int32) (wb : Nat → Nat) (br : Nat → Nat) (hbr : ∀ j, br j ≤ 24) (hwb : ∀ j, wb j ≤ 24) : CWv l D k st lo yX8_putBars cX8_putBars 2 none ({ frames := 0, cells := 0, slots := 0, locals := 0 }) 0 0 [.ref (a 0)] [((a 0), .inr (8, (fX8 a (nI tx) fp (nI t0) wd (nI we) nu na (nI rd) ts (nI ru) (nI rw) (nI ca) df db sd))), (aI k (a 41) 4 (nF wb)), (aI k (a 37) 4 (nF br))] (fun (br_ : (Nat → Nat)) => ∀ j, br_ j ≤ 24) (fun (br_ : (Nat → Nat)) => [((a 0), .inr (8, (fX8 a (nI tx) fp (nI t0) wd (nI we) nu na (nI rd) ts (nI ru) (nI rw) (nI ca) df db sd))), (aI k (a 41) 4 (nF wb)), (aI k (a 37) 4 (nF br_))]) := by
  intro sz
  refine Met.ofW (cc := cX8_putBars) (maxL := 2) (ret := none) (by decide) rfl ?_
  intro p e s m args below meth c s₁ B hml hv
  obtain ⟨rfl, hsz, hlo, hP, hK, hDL, hZ⟩ := hv
  have hx := B.exec
  have hb := B.bytes
  have hr := B.returns
  have hts := WS_ts B.pre
  have hown : s.vm.findClass RX8 = some m.cls := findClass_of_methodNamed B.named
  have hlocks := B.notSynchronized
  subst hsz
  have hD := hDL.self (sz := s.heap.size)
  have hAlo := A_lo hDL hlo
  generalize hAe : va_A [((a 0), .inr (8, (fX8 a (nI tx) fp (nI t0) wd (nI we) nu na (nI rd) ts (nI ru) (nI rw) (nI ca) df db sd))), (aI k (a 41) 4 (nF wb)), (aI k (a 37) 4 (nF br))] s.heap.size = A at hD hAlo ⊢
  have hA : ∀ q : Nat, s.heap.size ≤ q → A q := fun q h => by rw [← hAe]; exact Or.inr h
  have hS : va_S A s.heap s.heap [] := va_S.rf
  have hl := lv_entry ([.ref (a 0)]) (n := 2) (Nat.le_of_ble_eq_true rfl)
  rw [lg_entry_eq]
  generalize (lg_sl ([.ref (a 0)]) ++ List.replicate (2 - (lg_sl ([.ref (a 0)])).length) Slot.unset).toArray = ls at hl ⊢
  have hl : lv_has ls 2 [(0, .ref (a 0))] := hl
  refine lv_iconst (v := 0) hx hb dX8_putBars_0 (by decide) ?_
  refine lv_istore_n (lv' := [(1, .int 0), (0, .ref (a 0))]) hx hb dX8_putBars_1 rfl hl (by decide) rfl (fun ls hl => ?_)
  refine lv_iload_n hx hb dX8_putBars_2 rfl (lv_at hl 0 rfl) ?_
  refine lv_iconst (v := 4) hx hb dX8_putBars_3 (by decide) ?_
  refine lv_icmp_ge (tgt := 25) hx hb dX8_putBars_4 (by decide) (fun h => absurd h (by decide)) (fun _ => ?_)
  refine lv_aload_n hx hb dX8_putBars_7 rfl (lv_at hl 1 rfl) ?_
  refine va_get (D := D) (ci := 8) (v := .ref (a 37)) (C := RX8) (T := TX8) (N := 44) hx hb hts inX8 hown hK hP 0 rfl rfl 36 (by decide) (hts _ tw_1009) (fun _ h9 => h9) rfl dX8_putBars_8 ?_
  refine lv_iload_n hx hb dX8_putBars_11 rfl (lv_at hl 0 rfl) ?_
  refine lv_aload_n hx hb dX8_putBars_12 rfl (lv_at hl 1 rfl) ?_
  refine va_get (D := D) (ci := 8) (v := .ref (a 41)) (C := RX8) (T := TX8) (N := 44) hx hb hts inX8 hown hK hP 0 rfl rfl 40 (by decide) (hts _ tw_1013) (fun _ h9 => h9) rfl dX8_putBars_13 ?_
  refine lv_iload_n hx hb dX8_putBars_16 rfl (lv_at hl 0 rfl) ?_
  refine va_iald hx hb hK hP 1 1 rfl rfl (by unfold vp_in; decide) dX8_putBars_17 ?_
  have hq_1 := hwb 0
  refine lv_ti (y := (nI (wb 0))) (by rfl) ?_
  refine va_iast hx hb hK hP hD hS 2 1 rfl rfl (by unfold vp_in; decide) dX8_putBars_18 (fun H locs hP hD hS => ?_)
  have hQ9 := pd_mk [((a 0), .inr (8, (fX8 a (nI tx) fp (nI t0) wd (nI we) nu na (nI rd) ts (nI ru) (nI rw) (nI ca) df db sd))), (aI k (a 41) 4 (nF wb)), (aI k (a 37) 4 (upd (nF br) (Int32.toNatClampNeg 0) (nI (wb 0))))] hP hD
  clear hP hD
  obtain ⟨hP, hD⟩ := hQ9
  rw [show upd (nF br) (Int32.toNatClampNeg 0) (nI (wb 0)) = nF (fun j => if j = 0 then wb 0 else br j) from nF_upd _ _ _] at hP hD
  obtain ⟨d_3, hd_3⟩ : ∃ z : Nat → Nat, z = (fun j => if j = 0 then wb 0 else br j) := ⟨_, rfl⟩
  rw [← hd_3] at hP hD
  have hbb_3 : ∀ j, d_3 j ≤ 24 := by rw [hd_3]; exact up_le hbr (by omega)
  refine lv_iinc (v := 1) (lv' := [(1, .int 1), (0, .ref (a 0))]) hx hb dX8_putBars_19 hl (k := 0) rfl (by decide) (by decide) rfl (fun ls hl => ?_)
  refine lv_goto (tgt := 2) hx hb dX8_putBars_22 (by decide) ?_
  refine lv_iload_n hx hb dX8_putBars_2 rfl (lv_at hl 0 rfl) ?_
  refine lv_iconst (v := 4) hx hb dX8_putBars_3 (by decide) ?_
  refine lv_icmp_ge (tgt := 25) hx hb dX8_putBars_4 (by decide) (fun h => absurd h (by decide)) (fun _ => ?_)
  refine lv_aload_n hx hb dX8_putBars_7 rfl (lv_at hl 1 rfl) ?_
  refine va_get (D := D) (ci := 8) (v := .ref (a 37)) (C := RX8) (T := TX8) (N := 44) hx hb hts inX8 hown hK hP 0 rfl rfl 36 (by decide) (hts _ tw_1009) (fun _ h9 => h9) rfl dX8_putBars_8 ?_
  refine lv_iload_n hx hb dX8_putBars_11 rfl (lv_at hl 0 rfl) ?_
  refine lv_aload_n hx hb dX8_putBars_12 rfl (lv_at hl 1 rfl) ?_
  refine va_get (D := D) (ci := 8) (v := .ref (a 41)) (C := RX8) (T := TX8) (N := 44) hx hb hts inX8 hown hK hP 0 rfl rfl 40 (by decide) (hts _ tw_1013) (fun _ h9 => h9) rfl dX8_putBars_13 ?_
  refine lv_iload_n hx hb dX8_putBars_16 rfl (lv_at hl 0 rfl) ?_
  refine va_iald hx hb hK hP 1 1 rfl rfl (by unfold vp_in; decide) dX8_putBars_17 ?_
  have hq_4 := hwb 1
  refine lv_ti (y := (nI (wb 1))) (by rfl) ?_
  refine va_iast hx hb hK hP hD hS 2 1 rfl rfl (by unfold vp_in; decide) dX8_putBars_18 (fun H locs hP hD hS => ?_)
  have hQ9 := pd_mk [((a 0), .inr (8, (fX8 a (nI tx) fp (nI t0) wd (nI we) nu na (nI rd) ts (nI ru) (nI rw) (nI ca) df db sd))), (aI k (a 41) 4 (nF wb)), (aI k (a 37) 4 (upd (nF d_3) (Int32.toNatClampNeg 1) (nI (wb 1))))] hP hD
  clear hP hD
  obtain ⟨hP, hD⟩ := hQ9
  rw [show upd (nF d_3) (Int32.toNatClampNeg 1) (nI (wb 1)) = nF (fun j => if j = 1 then wb 1 else d_3 j) from nF_upd _ _ _] at hP hD
  obtain ⟨d_6, hd_6⟩ : ∃ z : Nat → Nat, z = (fun j => if j = 1 then wb 1 else d_3 j) := ⟨_, rfl⟩
  rw [← hd_6] at hP hD
  have hbb_6 : ∀ j, d_6 j ≤ 24 := by rw [hd_6]; exact up_le hbb_3 (by omega)
  refine lv_iinc (v := 2) (lv' := [(1, .int 2), (0, .ref (a 0))]) hx hb dX8_putBars_19 hl (k := 0) rfl (by decide) (by decide) rfl (fun ls hl => ?_)
  refine lv_goto (tgt := 2) hx hb dX8_putBars_22 (by decide) ?_
  refine lv_iload_n hx hb dX8_putBars_2 rfl (lv_at hl 0 rfl) ?_
  refine lv_iconst (v := 4) hx hb dX8_putBars_3 (by decide) ?_
  refine lv_icmp_ge (tgt := 25) hx hb dX8_putBars_4 (by decide) (fun h => absurd h (by decide)) (fun _ => ?_)
  refine lv_aload_n hx hb dX8_putBars_7 rfl (lv_at hl 1 rfl) ?_
  refine va_get (D := D) (ci := 8) (v := .ref (a 37)) (C := RX8) (T := TX8) (N := 44) hx hb hts inX8 hown hK hP 0 rfl rfl 36 (by decide) (hts _ tw_1009) (fun _ h9 => h9) rfl dX8_putBars_8 ?_
  refine lv_iload_n hx hb dX8_putBars_11 rfl (lv_at hl 0 rfl) ?_
  refine lv_aload_n hx hb dX8_putBars_12 rfl (lv_at hl 1 rfl) ?_
  refine va_get (D := D) (ci := 8) (v := .ref (a 41)) (C := RX8) (T := TX8) (N := 44) hx hb hts inX8 hown hK hP 0 rfl rfl 40 (by decide) (hts _ tw_1013) (fun _ h9 => h9) rfl dX8_putBars_13 ?_
  refine lv_iload_n hx hb dX8_putBars_16 rfl (lv_at hl 0 rfl) ?_
  refine va_iald hx hb hK hP 1 1 rfl rfl (by unfold vp_in; decide) dX8_putBars_17 ?_
  have hq_7 := hwb 2
  refine lv_ti (y := (nI (wb 2))) (by rfl) ?_
  refine va_iast hx hb hK hP hD hS 2 1 rfl rfl (by unfold vp_in; decide) dX8_putBars_18 (fun H locs hP hD hS => ?_)
  have hQ9 := pd_mk [((a 0), .inr (8, (fX8 a (nI tx) fp (nI t0) wd (nI we) nu na (nI rd) ts (nI ru) (nI rw) (nI ca) df db sd))), (aI k (a 41) 4 (nF wb)), (aI k (a 37) 4 (upd (nF d_6) (Int32.toNatClampNeg 2) (nI (wb 2))))] hP hD
  clear hP hD
  obtain ⟨hP, hD⟩ := hQ9
  rw [show upd (nF d_6) (Int32.toNatClampNeg 2) (nI (wb 2)) = nF (fun j => if j = 2 then wb 2 else d_6 j) from nF_upd _ _ _] at hP hD
  obtain ⟨d_9, hd_9⟩ : ∃ z : Nat → Nat, z = (fun j => if j = 2 then wb 2 else d_6 j) := ⟨_, rfl⟩
  rw [← hd_9] at hP hD
  have hbb_9 : ∀ j, d_9 j ≤ 24 := by rw [hd_9]; exact up_le hbb_6 (by omega)
  refine lv_iinc (v := 3) (lv' := [(1, .int 3), (0, .ref (a 0))]) hx hb dX8_putBars_19 hl (k := 0) rfl (by decide) (by decide) rfl (fun ls hl => ?_)
  refine lv_goto (tgt := 2) hx hb dX8_putBars_22 (by decide) ?_
  refine lv_iload_n hx hb dX8_putBars_2 rfl (lv_at hl 0 rfl) ?_
  refine lv_iconst (v := 4) hx hb dX8_putBars_3 (by decide) ?_
  refine lv_icmp_ge (tgt := 25) hx hb dX8_putBars_4 (by decide) (fun h => absurd h (by decide)) (fun _ => ?_)
  refine lv_aload_n hx hb dX8_putBars_7 rfl (lv_at hl 1 rfl) ?_
  refine va_get (D := D) (ci := 8) (v := .ref (a 37)) (C := RX8) (T := TX8) (N := 44) hx hb hts inX8 hown hK hP 0 rfl rfl 36 (by decide) (hts _ tw_1009) (fun _ h9 => h9) rfl dX8_putBars_8 ?_
  refine lv_iload_n hx hb dX8_putBars_11 rfl (lv_at hl 0 rfl) ?_
  refine lv_aload_n hx hb dX8_putBars_12 rfl (lv_at hl 1 rfl) ?_
  refine va_get (D := D) (ci := 8) (v := .ref (a 41)) (C := RX8) (T := TX8) (N := 44) hx hb hts inX8 hown hK hP 0 rfl rfl 40 (by decide) (hts _ tw_1013) (fun _ h9 => h9) rfl dX8_putBars_13 ?_
  refine lv_iload_n hx hb dX8_putBars_16 rfl (lv_at hl 0 rfl) ?_
  refine va_iald hx hb hK hP 1 1 rfl rfl (by unfold vp_in; decide) dX8_putBars_17 ?_
  have hq_10 := hwb 3
  refine lv_ti (y := (nI (wb 3))) (by rfl) ?_
  refine va_iast hx hb hK hP hD hS 2 1 rfl rfl (by unfold vp_in; decide) dX8_putBars_18 (fun H locs hP hD hS => ?_)
  have hQ9 := pd_mk [((a 0), .inr (8, (fX8 a (nI tx) fp (nI t0) wd (nI we) nu na (nI rd) ts (nI ru) (nI rw) (nI ca) df db sd))), (aI k (a 41) 4 (nF wb)), (aI k (a 37) 4 (upd (nF d_9) (Int32.toNatClampNeg 3) (nI (wb 3))))] hP hD
  clear hP hD
  obtain ⟨hP, hD⟩ := hQ9
  rw [show upd (nF d_9) (Int32.toNatClampNeg 3) (nI (wb 3)) = nF (fun j => if j = 3 then wb 3 else d_9 j) from nF_upd _ _ _] at hP hD
  obtain ⟨d_12, hd_12⟩ : ∃ z : Nat → Nat, z = (fun j => if j = 3 then wb 3 else d_9 j) := ⟨_, rfl⟩
  rw [← hd_12] at hP hD
  have hbb_12 : ∀ j, d_12 j ≤ 24 := by rw [hd_12]; exact up_le hbb_9 (by omega)
  refine lv_iinc (v := 4) (lv' := [(1, .int 4), (0, .ref (a 0))]) hx hb dX8_putBars_19 hl (k := 0) rfl (by decide) (by decide) rfl (fun ls hl => ?_)
  refine lv_goto (tgt := 2) hx hb dX8_putBars_22 (by decide) ?_
  refine lv_iload_n hx hb dX8_putBars_2 rfl (lv_at hl 0 rfl) ?_
  refine lv_iconst (v := 4) hx hb dX8_putBars_3 (by decide) ?_
  refine lv_icmp_ge (tgt := 25) hx hb dX8_putBars_4 (by decide) (fun _ => ?_) (fun h => absurd (by decide) h)
  obtain ⟨hP9, hD9⟩ := pd_sub [((a 0), .inr (8, (fX8 a (nI tx) fp (nI t0) wd (nI we) nu na (nI rd) ts (nI ru) (nI rw) (nI ca) df db sd))), (aI k (a 41) 4 (nF wb)), (aI k (a 37) 4 (nF d_12))] [0, 1, 2] hP hD (by decide) rfl
  exact W.vret hx hb hr (fun t ht hW => ⟨⟨d_12, rfl, hbb_12, by rw [ht]; exact hP9, hD9⟩, hS.F ht⟩) hS.2.2 dX8_putBars_25

theorem dX8_isAtRest_0 : decode cX8_isAtRest 0 = .ok (.iconst 1, 1) := by decide +kernel
theorem dX8_isAtRest_1 : decode cX8_isAtRest 1 = .ok (.istore_n 3, 1) := by decide +kernel
theorem dX8_isAtRest_2 : decode cX8_isAtRest 2 = .ok (.iconst 0, 1) := by decide +kernel
theorem dX8_isAtRest_3 : decode cX8_isAtRest 3 = .ok (.istore 4, 2) := by decide +kernel
theorem dX8_isAtRest_5 : decode cX8_isAtRest 5 = .ok (.iload 4, 2) := by decide +kernel
theorem dX8_isAtRest_7 : decode cX8_isAtRest 7 = .ok (.aload_n 0, 1) := by decide +kernel
theorem dX8_isAtRest_8 : decode cX8_isAtRest 8 = .ok (.getfield 315, 3) := by decide +kernel
theorem dX8_isAtRest_11 : decode cX8_isAtRest 11 = .ok (.if_icmp .ge 37, 3) := by decide +kernel
theorem dX8_isAtRest_14 : decode cX8_isAtRest 14 = .ok (.iload_n 3, 1) := by decide +kernel
theorem dX8_isAtRest_15 : decode cX8_isAtRest 15 = .ok (.ifCond .eq 33, 3) := by decide +kernel
theorem dX8_isAtRest_18 : decode cX8_isAtRest 18 = .ok (.aload_n 0, 1) := by decide +kernel
theorem dX8_isAtRest_19 : decode cX8_isAtRest 19 = .ok (.iload_n 1, 1) := by decide +kernel
theorem dX8_isAtRest_20 : decode cX8_isAtRest 20 = .ok (.iload_n 2, 1) := by decide +kernel
theorem dX8_isAtRest_21 : decode cX8_isAtRest 21 = .ok (.iload 4, 2) := by decide +kernel
theorem dX8_isAtRest_23 : decode cX8_isAtRest 23 = .ok (.invokevirtual 339, 3) := by decide +kernel
theorem dX8_isAtRest_26 : decode cX8_isAtRest 26 = .ok (.aload_n 0, 1) := by decide +kernel
theorem dX8_isAtRest_27 : decode cX8_isAtRest 27 = .ok (.getfield 87, 3) := by decide +kernel
theorem dX8_isAtRest_30 : decode cX8_isAtRest 30 = .ok (.iload 4, 2) := by decide +kernel
theorem dX8_isAtRest_32 : decode cX8_isAtRest 32 = .ok (.iaload, 1) := by decide +kernel
theorem dX8_isAtRest_33 : decode cX8_isAtRest 33 = .ok (.if_icmp .ne 7, 3) := by decide +kernel
theorem dX8_isAtRest_36 : decode cX8_isAtRest 36 = .ok (.iconst 1, 1) := by decide +kernel
theorem dX8_isAtRest_37 : decode cX8_isAtRest 37 = .ok (.goto 4, 3) := by decide +kernel
theorem dX8_isAtRest_40 : decode cX8_isAtRest 40 = .ok (.iconst 0, 1) := by decide +kernel
theorem dX8_isAtRest_41 : decode cX8_isAtRest 41 = .ok (.istore_n 3, 1) := by decide +kernel
theorem dX8_isAtRest_42 : decode cX8_isAtRest 42 = .ok (.iinc 4 1, 3) := by decide +kernel
theorem dX8_isAtRest_45 : decode cX8_isAtRest 45 = .ok (.goto (-40), 3) := by decide +kernel
theorem dX8_isAtRest_48 : decode cX8_isAtRest 48 = .ok (.iload_n 3, 1) := by decide +kernel
theorem dX8_isAtRest_49 : decode cX8_isAtRest 49 = .ok (.ireturn, 1) := by decide +kernel
set_option maxHeartbeats 4000000 in
set_option maxRecDepth 100000 in
theorem m_isAtRest (l : Launch) (D : va_G) (k : Nat → ClassId) (st : Nat → Nat) (lo : Nat) (a : Nat → Nat) (tx : Nat) (t0 : Nat) (we : Nat) (rd : Nat) (ru : Nat) (rw : Nat) (ca : Nat) (fp : Int32) (wd : Int64) (nu : Int32) (na : Int32) (ts : Int32) (df : Int32) (db : Int32) (sd : Int32) (dn : Nat → Nat) (se : Nat → Nat) (tm : Nat → Nat) (gs : Nat → Int32) (fprices : Nat → Int32) (fwalks : Nat → Int32) (br : Nat → Nat) (fdoorsOf : Nat → Int32) (sn : Nat) (p1 : Int32) (hdn : ∀ j, dn j ≤ 24) (hca : ca ≤ 4) (hbr : ∀ j, br j ≤ 24) (hs : sn < 3) (hdv : dvOK fdoorsOf) : CWi l D k st lo yX8_isAtRest cX8_isAtRest 5 (some .boolean) ({ frames := 6, cells := 0, slots := 0, locals := 145 }) 0 0 [.ref (a 0), .int (nI sn), .int p1] [((a 0), .inr (8, (fX8 a (nI tx) fp (nI t0) wd (nI we) nu na (nI rd) ts (nI ru) (nI rw) (nI ca) df db sd))), (aI k (a 1) 3 (nF dn)), (aI k (a 4) 27 (sg se tm gs)), (aI k (a 3) 72 fprices), (aI k (a 36) 4 fwalks), (aI k (a 37) 4 (nF br)), (aI k (a 40) 4 fdoorsOf)] (fun (r : Int32) (u : (Nat → Nat) × (Nat → Int32)) => match u with | (br_, fdoorsOf_) => (∀ j, br_ j ≤ 24) ∧ dvOK fdoorsOf_) (fun (u : (Nat → Nat) × (Nat → Int32)) => match u with | (br_, fdoorsOf_) => [((a 0), .inr (8, (fX8 a (nI tx) fp (nI t0) wd (nI we) nu na (nI rd) ts (nI ru) (nI rw) (nI ca) df db sd))), (aI k (a 1) 3 (nF dn)), (aI k (a 4) 27 (sg se tm gs)), (aI k (a 3) 72 fprices), (aI k (a 36) 4 fwalks), (aI k (a 37) 4 (nF br_)), (aI k (a 40) 4 fdoorsOf_)]) := by
  intro sz
  refine Met.ofW (cc := cX8_isAtRest) (maxL := 5) (ret := (some .boolean)) (by decide) rfl ?_
  intro p e s m args below meth c s₁ B hml hv
  obtain ⟨rfl, hsz, hlo, hP, hK, hDL, hZ⟩ := hv
  have hx := B.exec
  have hb := B.bytes
  have hr := B.returns
  have hts := WS_ts B.pre
  have hown : s.vm.findClass RX8 = some m.cls := findClass_of_methodNamed B.named
  have hlocks := B.notSynchronized
  subst hsz
  have hD := hDL.self (sz := s.heap.size)
  have hAlo := A_lo hDL hlo
  generalize hAe : va_A [((a 0), .inr (8, (fX8 a (nI tx) fp (nI t0) wd (nI we) nu na (nI rd) ts (nI ru) (nI rw) (nI ca) df db sd))), (aI k (a 1) 3 (nF dn)), (aI k (a 4) 27 (sg se tm gs)), (aI k (a 3) 72 fprices), (aI k (a 36) 4 fwalks), (aI k (a 37) 4 (nF br)), (aI k (a 40) 4 fdoorsOf)] s.heap.size = A at hD hAlo ⊢
  have hA : ∀ q : Nat, s.heap.size ≤ q → A q := fun q h => by rw [← hAe]; exact Or.inr h
  have hS : va_S A s.heap s.heap [] := va_S.rf
  have hl := lv_entry ([.ref (a 0), .int (nI sn), .int p1]) (n := 5) (Nat.le_of_ble_eq_true rfl)
  rw [lg_entry_eq]
  generalize (lg_sl ([.ref (a 0), .int (nI sn), .int p1]) ++ List.replicate (5 - (lg_sl ([.ref (a 0), .int (nI sn), .int p1])).length) Slot.unset).toArray = ls at hl ⊢
  have hl : lv_has ls 5 [(0, .ref (a 0)), (1, .int (nI sn)), (2, .int p1)] := hl
  refine lv_iconst (v := 1) hx hb dX8_isAtRest_0 (by decide) ?_
  refine lv_istore_n (lv' := [(3, .int 1), (0, .ref (a 0)), (1, .int (nI sn)), (2, .int p1)]) hx hb dX8_isAtRest_1 rfl hl (by decide) rfl (fun ls hl => ?_)
  refine lv_iconst (v := 0) hx hb dX8_isAtRest_2 (by decide) ?_
  refine lv_istore (lv' := [(4, .int 0), (3, .int 1), (0, .ref (a 0)), (1, .int (nI sn)), (2, .int p1)]) hx hb dX8_isAtRest_3 hl (by decide) rfl (fun ls hl => ?_)
  refine W_loop (σ := Nat × Int32 × (Nat → Nat) × (Nat → Int32)) (fun (n_ : Nat) (x_ : Nat × Int32 × (Nat → Nat) × (Nat → Int32)) (H : Heap) (locs : List Loc) (ls : Array Slot) => match x_ with | (cc_1, is_1, b2_1, fd_1) => n_ = 4 - cc_1 ∧ ((cc_1 ≤ 4 ∧ (is_1 = 1 ∨ is_1 = 0)) ∧ (∀ j, b2_1 j ≤ 24) ∧ dvOK fd_1) ∧ va_P D classes [((a 0), .inr (8, (fX8 a (nI tx) fp (nI t0) wd (nI we) nu na (nI rd) ts (nI ru) (nI rw) (nI ca) df db sd))), (aI k (a 1) 3 (nF dn)), (aI k (a 4) 27 (sg se tm gs)), (aI k (a 3) 72 fprices), (aI k (a 36) 4 fwalks), (aI k (a 37) 4 (nF b2_1)), (aI k (a 40) 4 fd_1)] H ∧ va_D A [((a 0), .inr (8, (fX8 a (nI tx) fp (nI t0) wd (nI we) nu na (nI rd) ts (nI ru) (nI rw) (nI ca) df db sd))), (aI k (a 1) 3 (nF dn)), (aI k (a 4) 27 (sg se tm gs)), (aI k (a 3) 72 fprices), (aI k (a 36) 4 fwalks), (aI k (a 37) 4 (nF b2_1)), (aI k (a 40) 4 fd_1)] ∧ va_S A s.heap H locs ∧ lv_has ls 5 [(4, .int (nI cc_1)), (3, .int is_1), (0, .ref (a 0)), (1, .int (nI sn)), (2, .int p1)]) (fun n_1 x_1 H locs ls hI ih_1 => ?_) _ (0, 1, br, fdoorsOf) ⟨rfl, ⟨⟨by omega, .inl rfl⟩, hbr, hdv⟩, hP, hD, hS, (lv_sub hl [0, 1, 2, 3, 4] rfl)⟩
  obtain ⟨cc_1, is_1, b2_1, fd_1⟩ := x_1
  obtain ⟨hm_1, hv_1, hP, hD, hS, hl⟩ := hI
  subst hm_1
  have hbl_1 := hv_1.2.1
  have hdvl_1 := hv_1.2.2
  refine lv_iload hx hb dX8_isAtRest_5 (lv_at hl 0 rfl) ?_
  refine lv_aload_n hx hb dX8_isAtRest_7 rfl (lv_at hl 2 rfl) ?_
  refine va_get (D := D) (ci := 8) (v := .int (nI ca)) (C := RX8) (T := TX8) (N := 44) hx hb hts inX8 hown hK hP 0 rfl rfl 34 (by decide) (hts _ tw_1007) (fun _ h9 => h9) rfl dX8_isAtRest_8 ?_
  refine lv_icmp_ge (tgt := 48) hx hb dX8_isAtRest_11 (by decide) (fun c_2 => ?_) (fun c_2 => ?_)
  · have c_2 := (nI_leI (a := ca) (b := cc_1) (by omega) (by omega)).mp c_2
    refine lv_iload_n hx hb dX8_isAtRest_48 rfl (lv_at hl 1 rfl) ?_
    rcases hv_1.1.2 with hE_9 | hE_9
    · refine lv_ti (y := 1) hE_9 ?_
      obtain ⟨hP9, hD9⟩ := pd_sub [((a 0), .inr (8, (fX8 a (nI tx) fp (nI t0) wd (nI we) nu na (nI rd) ts (nI ru) (nI rw) (nI ca) df db sd))), (aI k (a 1) 3 (nF dn)), (aI k (a 4) 27 (sg se tm gs)), (aI k (a 3) 72 fprices), (aI k (a 36) 4 fwalks), (aI k (a 37) 4 (nF b2_1)), (aI k (a 40) 4 fd_1)] [0, 1, 2, 3, 4, 5, 6] hP hD (by decide) rfl
      exact W.zret (v := 1) (ty := .boolean) hx hb hr rfl (fun t ht hW => ⟨⟨1, (b2_1, fd_1), rfl, ⟨hbl_1, hdvl_1⟩, by rw [ht]; exact hP9, hD9⟩, hS.F ht⟩) hS.2.2 dX8_isAtRest_49
    · refine lv_ti (y := 0) hE_9 ?_
      obtain ⟨hP9, hD9⟩ := pd_sub [((a 0), .inr (8, (fX8 a (nI tx) fp (nI t0) wd (nI we) nu na (nI rd) ts (nI ru) (nI rw) (nI ca) df db sd))), (aI k (a 1) 3 (nF dn)), (aI k (a 4) 27 (sg se tm gs)), (aI k (a 3) 72 fprices), (aI k (a 36) 4 fwalks), (aI k (a 37) 4 (nF b2_1)), (aI k (a 40) 4 fd_1)] [0, 1, 2, 3, 4, 5, 6] hP hD (by decide) rfl
      exact W.zret (v := 0) (ty := .boolean) hx hb hr rfl (fun t ht hW => ⟨⟨0, (b2_1, fd_1), rfl, ⟨hbl_1, hdvl_1⟩, by rw [ht]; exact hP9, hD9⟩, hS.F ht⟩) hS.2.2 dX8_isAtRest_49
  · have c_2 : ¬ (ca ≤ cc_1) := fun h => c_2 ((nI_leI (a := ca) (b := cc_1) (by omega) (by omega)).mpr h)
    refine lv_iload_n hx hb dX8_isAtRest_14 rfl (lv_at hl 1 rfl) ?_
    refine lv_if_eq (tgt := 48) hx hb dX8_isAtRest_15 (by decide) (fun c_3 => ?_) (fun c_3 => ?_)
    · refine lv_iload_n hx hb dX8_isAtRest_48 rfl (lv_at hl 1 rfl) ?_
      rcases hv_1.1.2 with hE_9 | hE_9
      · refine lv_ti (y := 1) hE_9 ?_
        obtain ⟨hP9, hD9⟩ := pd_sub [((a 0), .inr (8, (fX8 a (nI tx) fp (nI t0) wd (nI we) nu na (nI rd) ts (nI ru) (nI rw) (nI ca) df db sd))), (aI k (a 1) 3 (nF dn)), (aI k (a 4) 27 (sg se tm gs)), (aI k (a 3) 72 fprices), (aI k (a 36) 4 fwalks), (aI k (a 37) 4 (nF b2_1)), (aI k (a 40) 4 fd_1)] [0, 1, 2, 3, 4, 5, 6] hP hD (by decide) rfl
        exact W.zret (v := 1) (ty := .boolean) hx hb hr rfl (fun t ht hW => ⟨⟨1, (b2_1, fd_1), rfl, ⟨hbl_1, hdvl_1⟩, by rw [ht]; exact hP9, hD9⟩, hS.F ht⟩) hS.2.2 dX8_isAtRest_49
      · refine lv_ti (y := 0) hE_9 ?_
        obtain ⟨hP9, hD9⟩ := pd_sub [((a 0), .inr (8, (fX8 a (nI tx) fp (nI t0) wd (nI we) nu na (nI rd) ts (nI ru) (nI rw) (nI ca) df db sd))), (aI k (a 1) 3 (nF dn)), (aI k (a 4) 27 (sg se tm gs)), (aI k (a 3) 72 fprices), (aI k (a 36) 4 fwalks), (aI k (a 37) 4 (nF b2_1)), (aI k (a 40) 4 fd_1)] [0, 1, 2, 3, 4, 5, 6] hP hD (by decide) rfl
        exact W.zret (v := 0) (ty := .boolean) hx hb hr rfl (fun t ht hW => ⟨⟨0, (b2_1, fd_1), rfl, ⟨hbl_1, hdvl_1⟩, by rw [ht]; exact hP9, hD9⟩, hS.F ht⟩) hS.2.2 dX8_isAtRest_49
    · refine lv_aload_n hx hb dX8_isAtRest_18 rfl (lv_at hl 2 rfl) ?_
      refine lv_iload_n hx hb dX8_isAtRest_19 rfl (lv_at hl 3 rfl) ?_
      refine lv_iload_n hx hb dX8_isAtRest_20 rfl (lv_at hl 4 rfl) ?_
      refine lv_iload hx hb dX8_isAtRest_21 (lv_at hl 0 rfl) ?_
      refine rw_i (D := D) (wr := []) (va_runV (As := [.int (nI sn), .int p1, .int (nI cc_1)]) (rest := []) ⟨hx, hb, hml, hown, hts⟩ ((m_bestBar l D k st lo a tx t0 we rd ru rw ca fp wd nu na ts df db sd dn se tm gs fprices fwalks b2_1 fd_1 sn cc_1 p1 hdn (by first | assumption | omega) hbl_1 (by first | assumption | omega) (by first | assumption | omega) hdvl_1) H.size) (cwV 3 hts (gV tw_1414 tw_1416 tw_69 tw_87 tw_1417) rfl rfl rfl (by decide +kernel) ⟨Nat.le_of_ble_eq_true rfl, Nat.le_of_ble_eq_true rfl⟩) (pV hS hAlo hlo hP hK (va_Dlo hD hAlo) hZ [0, 1, 2, 3, 4, 5, 6] (by decide) rfl (ci := 8) (q := (RX8, TX8, 44)) (q0 := 0) rfl rfl) rfl rfl hl.1 rfl (lv_room (Nat.le_of_ble_eq_true rfl)) dX8_isAtRest_23 ⟨Nat.le_of_ble_eq_true rfl, Nat.le_of_ble_eq_true rfl⟩) hS hA hP hD [0, 1, 2, 3, 4, 5, 6] [] rfl rfl (by decide) (by decide) (fun r_4 u H locs hw_4 hP hD hS => ?_)
      obtain ⟨br__4, fdoorsOf__4, er_4⟩ := u
      have hQ9 := pd_mk [((a 0), .inr (8, (fX8 a (nI tx) fp (nI t0) wd (nI we) nu na (nI rd) ts (nI ru) (nI rw) (nI ca) df db sd))), (aI k (a 1) 3 (nF dn)), (aI k (a 4) 27 (sg se tm gs)), (aI k (a 3) 72 fprices), (aI k (a 36) 4 fwalks), (aI k (a 37) 4 (nF br__4)), (aI k (a 40) 4 fdoorsOf__4)] hP hD
      clear hP hD
      obtain ⟨hP, hD⟩ := hQ9
      try dsimp only at hw_4
      obtain ⟨rfl, hw_4⟩ := hw_4
      refine lv_aload_n hx hb dX8_isAtRest_26 rfl (lv_at hl 2 rfl) ?_
      refine va_get (D := D) (ci := 8) (v := .ref (a 37)) (C := RX8) (T := TX8) (N := 44) hx hb hts inX8 hown hK hP 0 rfl rfl 36 (by decide) (hts _ tw_1009) (fun _ h9 => h9) rfl dX8_isAtRest_27 ?_
      refine lv_iload hx hb dX8_isAtRest_30 (lv_at hl 0 rfl) ?_
      refine va_iald hx hb hK hP 5 1 rfl rfl (vp_in_nI (by omega) (by decide)) dX8_isAtRest_32 ?_
      have hq_5 := hw_4.2.1 cc_1
      refine lv_ti (y := (nI (br__4 cc_1))) (by rw [nI_clamp (by omega)]; rfl) ?_
      refine lv_icmp_ne (tgt := 40) hx hb dX8_isAtRest_33 (by decide) (fun c_6 => ?_) (fun c_6 => ?_)
      · have c_6 : ¬ (er_4 = (br__4 cc_1)) := fun h => c_6 ((nI_eq (a := er_4) (b := (br__4 cc_1)) (by omega) (by omega)).mpr h)
        refine lv_iconst (v := 0) hx hb dX8_isAtRest_40 (by decide) ?_
        refine lv_istore_n (lv' := [(3, .int 0), (4, .int (nI cc_1)), (0, .ref (a 0)), (1, .int (nI sn)), (2, .int p1)]) hx hb dX8_isAtRest_41 rfl hl (by decide) rfl (fun ls hl => ?_)
        refine lv_iinc (v := (nI (cc_1 + 1))) (lv' := [(4, .int (nI (cc_1 + 1))), (3, .int 0), (0, .ref (a 0)), (1, .int (nI sn)), (2, .int p1)]) hx hb dX8_isAtRest_42 hl (k := 1) rfl (nI_add cc_1 1) (by decide) rfl (fun ls hl => ?_)
        refine lv_goto (tgt := 5) hx hb dX8_isAtRest_45 (by decide) ?_
        exact ih_1 _ (cc_1 + 1, 0, br__4, fdoorsOf__4) _ _ _ (by omega) ⟨rfl, ⟨⟨by omega, .inr rfl⟩, hw_4.2.1, hw_4.2.2⟩, hP, hD, hS, (lv_sub hl [0, 1, 2, 3, 4] rfl)⟩
      · have c_6 := (nI_eq (a := er_4) (b := (br__4 cc_1)) (by omega) (by omega)).mp c_6
        refine lv_iconst (v := 1) hx hb dX8_isAtRest_36 (by decide) ?_
        refine lv_goto (tgt := 41) hx hb dX8_isAtRest_37 (by decide) ?_
        refine lv_istore_n (lv' := [(3, .int 1), (4, .int (nI cc_1)), (0, .ref (a 0)), (1, .int (nI sn)), (2, .int p1)]) hx hb dX8_isAtRest_41 rfl hl (by decide) rfl (fun ls hl => ?_)
        refine lv_iinc (v := (nI (cc_1 + 1))) (lv' := [(4, .int (nI (cc_1 + 1))), (3, .int 1), (0, .ref (a 0)), (1, .int (nI sn)), (2, .int p1)]) hx hb dX8_isAtRest_42 hl (k := 1) rfl (nI_add cc_1 1) (by decide) rfl (fun ls hl => ?_)
        refine lv_goto (tgt := 5) hx hb dX8_isAtRest_45 (by decide) ?_
        exact ih_1 _ (cc_1 + 1, 1, br__4, fdoorsOf__4) _ _ _ (by omega) ⟨rfl, ⟨⟨by omega, .inl rfl⟩, hw_4.2.1, hw_4.2.2⟩, hP, hD, hS, (lv_sub hl [0, 1, 2, 3, 4] rfl)⟩

theorem dX8_rests_0 : decode cX8_rests 0 = .ok (.aload_n 0, 1) := by decide +kernel
theorem dX8_rests_1 : decode cX8_rests 1 = .ok (.iload_n 1, 1) := by decide +kernel
theorem dX8_rests_2 : decode cX8_rests 2 = .ok (.invokevirtual 206, 3) := by decide +kernel
theorem dX8_rests_5 : decode cX8_rests 5 = .ok (.ifCond .ne 7, 3) := by decide +kernel
theorem dX8_rests_8 : decode cX8_rests 8 = .ok (.sipush (-1001), 3) := by decide +kernel
theorem dX8_rests_11 : decode cX8_rests 11 = .ok (.ireturn, 1) := by decide +kernel
theorem dX8_rests_12 : decode cX8_rests 12 = .ok (.aload_n 0, 1) := by decide +kernel
theorem dX8_rests_13 : decode cX8_rests 13 = .ok (.iload_n 1, 1) := by decide +kernel
theorem dX8_rests_14 : decode cX8_rests 14 = .ok (.iload_n 2, 1) := by decide +kernel
theorem dX8_rests_15 : decode cX8_rests 15 = .ok (.invokevirtual 333, 3) := by decide +kernel
theorem dX8_rests_18 : decode cX8_rests 18 = .ok (.ifCond .ne 9, 3) := by decide +kernel
theorem dX8_rests_21 : decode cX8_rests 21 = .ok (.sipush (-1002), 3) := by decide +kernel
theorem dX8_rests_24 : decode cX8_rests 24 = .ok (.goto 17, 3) := by decide +kernel
theorem dX8_rests_27 : decode cX8_rests 27 = .ok (.aload_n 0, 1) := by decide +kernel
theorem dX8_rests_28 : decode cX8_rests 28 = .ok (.iload_n 1, 1) := by decide +kernel
theorem dX8_rests_29 : decode cX8_rests 29 = .ok (.iload_n 2, 1) := by decide +kernel
theorem dX8_rests_30 : decode cX8_rests 30 = .ok (.invokevirtual 342, 3) := by decide +kernel
theorem dX8_rests_33 : decode cX8_rests 33 = .ok (.ifCond .eq 7, 3) := by decide +kernel
theorem dX8_rests_36 : decode cX8_rests 36 = .ok (.iconst 1, 1) := by decide +kernel
theorem dX8_rests_37 : decode cX8_rests 37 = .ok (.goto 4, 3) := by decide +kernel
theorem dX8_rests_40 : decode cX8_rests 40 = .ok (.iconst 0, 1) := by decide +kernel
theorem dX8_rests_41 : decode cX8_rests 41 = .ok (.ireturn, 1) := by decide +kernel
set_option maxHeartbeats 4000000 in
set_option maxRecDepth 100000 in
theorem m_rests (l : Launch) (D : va_G) (k : Nat → ClassId) (st : Nat → Nat) (lo : Nat) (a : Nat → Nat) (tx : Nat) (t0 : Nat) (we : Nat) (rd : Nat) (ru : Nat) (rw : Nat) (ca : Nat) (fp : Int32) (wd : Int64) (nu : Int32) (na : Int32) (ts : Int32) (df : Int32) (db : Int32) (sd : Int32) (dn : Nat → Nat) (se : Nat → Nat) (tm : Nat → Nat) (gs : Nat → Int32) (fprices : Nat → Int32) (fwalks : Nat → Int32) (br : Nat → Nat) (fdoorsOf : Nat → Int32) (p0 : Int32) (p1 : Int32) (hdn : ∀ j, dn j ≤ 24) (hca : ca ≤ 4) (hbr : ∀ j, br j ≤ 24) (hdv : dvOK fdoorsOf) : CWi l D k st lo yX8_rests cX8_rests 3 (some .int) ({ frames := 7, cells := 0, slots := 0, locals := 169 }) 0 0 [.ref (a 0), .int p0, .int p1] [((a 0), .inr (8, (fX8 a (nI tx) fp (nI t0) wd (nI we) nu na (nI rd) ts (nI ru) (nI rw) (nI ca) df db sd))), (aI k (a 1) 3 (nF dn)), (aI k (a 4) 27 (sg se tm gs)), (aI k (a 3) 72 fprices), (aI k (a 36) 4 fwalks), (aI k (a 37) 4 (nF br)), (aI k (a 40) 4 fdoorsOf)] (fun (r : Int32) (u : (Nat → Nat) × (Nat → Int32)) => match u with | (br_, fdoorsOf_) => (∀ j, br_ j ≤ 24) ∧ dvOK fdoorsOf_) (fun (u : (Nat → Nat) × (Nat → Int32)) => match u with | (br_, fdoorsOf_) => [((a 0), .inr (8, (fX8 a (nI tx) fp (nI t0) wd (nI we) nu na (nI rd) ts (nI ru) (nI rw) (nI ca) df db sd))), (aI k (a 1) 3 (nF dn)), (aI k (a 4) 27 (sg se tm gs)), (aI k (a 3) 72 fprices), (aI k (a 36) 4 fwalks), (aI k (a 37) 4 (nF br_)), (aI k (a 40) 4 fdoorsOf_)]) := by
  intro sz
  refine Met.ofW (cc := cX8_rests) (maxL := 3) (ret := (some .int)) (by decide) rfl ?_
  intro p e s m args below meth c s₁ B hml hv
  obtain ⟨rfl, hsz, hlo, hP, hK, hDL, hZ⟩ := hv
  have hx := B.exec
  have hb := B.bytes
  have hr := B.returns
  have hts := WS_ts B.pre
  have hown : s.vm.findClass RX8 = some m.cls := findClass_of_methodNamed B.named
  have hlocks := B.notSynchronized
  subst hsz
  have hD := hDL.self (sz := s.heap.size)
  have hAlo := A_lo hDL hlo
  generalize hAe : va_A [((a 0), .inr (8, (fX8 a (nI tx) fp (nI t0) wd (nI we) nu na (nI rd) ts (nI ru) (nI rw) (nI ca) df db sd))), (aI k (a 1) 3 (nF dn)), (aI k (a 4) 27 (sg se tm gs)), (aI k (a 3) 72 fprices), (aI k (a 36) 4 fwalks), (aI k (a 37) 4 (nF br)), (aI k (a 40) 4 fdoorsOf)] s.heap.size = A at hD hAlo ⊢
  have hA : ∀ q : Nat, s.heap.size ≤ q → A q := fun q h => by rw [← hAe]; exact Or.inr h
  have hS : va_S A s.heap s.heap [] := va_S.rf
  have hl := lv_entry ([.ref (a 0), .int p0, .int p1]) (n := 3) (Nat.le_of_ble_eq_true rfl)
  rw [lg_entry_eq]
  generalize (lg_sl ([.ref (a 0), .int p0, .int p1]) ++ List.replicate (3 - (lg_sl ([.ref (a 0), .int p0, .int p1])).length) Slot.unset).toArray = ls at hl ⊢
  have hl : lv_has ls 3 [(0, .ref (a 0)), (1, .int p0), (2, .int p1)] := hl
  refine lv_aload_n hx hb dX8_rests_0 rfl (lv_at hl 0 rfl) ?_
  refine lv_iload_n hx hb dX8_rests_1 rfl (lv_at hl 1 rfl) ?_
  refine ro_i (D := D) (va_runV (As := [.int p0]) (rest := []) ⟨hx, hb, hml, hown, hts⟩ ((m_isStreet l D k st lo a tx t0 we rd ru rw ca fp wd nu na ts df db sd dn p0 hdn) s.heap.size) (cwV 1 hts (gV tw_1189 tw_1191 tw_38 tw_87 tw_1192) rfl rfl rfl (by decide +kernel) ⟨Nat.le_of_ble_eq_true rfl, Nat.le_of_ble_eq_true rfl⟩) (pV hS hAlo hlo hP hK (va_Dlo hD hAlo) hZ [0, 1] (by decide) rfl (ci := 8) (q := (RX8, TX8, 44)) (q0 := 0) rfl rfl) rfl rfl hl.1 rfl (lv_room (Nat.le_of_ble_eq_true rfl)) dX8_rests_2 ⟨Nat.le_of_ble_eq_true rfl, Nat.le_of_ble_eq_true rfl⟩) hS hA hP (fun r_1 H locs hw_1 hP hS => ?_)
  try dsimp only at hw_1
  rcases hw_1 with ⟨rfl, j_2, hj_2, rfl, hw_1⟩ | rfl
  · have hdj_2 := hdn j_2
    refine lv_if_ne (tgt := 12) hx hb dX8_rests_5 (by decide) (fun _ => ?_) (fun h => absurd h (by decide))
    refine lv_aload_n hx hb dX8_rests_12 rfl (lv_at hl 0 rfl) ?_
    refine lv_iload_n hx hb dX8_rests_13 rfl (lv_at hl 1 rfl) ?_
    refine lv_iload_n hx hb dX8_rests_14 rfl (lv_at hl 2 rfl) ?_
    refine ro_i (D := D) (va_runV (As := [.int (nI j_2), .int p1]) (rest := []) ⟨hx, hb, hml, hown, hts⟩ ((m_isSet l D k st lo a tx t0 we rd ru rw ca fp wd nu na ts df db sd dn j_2 p1 hdn (by first | assumption | omega)) H.size) (cwV 2 hts (gV tw_1390 tw_1392 tw_64 tw_87 tw_1393) rfl rfl rfl (by decide +kernel) ⟨Nat.le_of_ble_eq_true rfl, Nat.le_of_ble_eq_true rfl⟩) (pV hS hAlo hlo hP hK (va_Dlo hD hAlo) hZ [0, 1] (by decide) rfl (ci := 8) (q := (RX8, TX8, 44)) (q0 := 0) rfl rfl) rfl rfl hl.1 rfl (lv_room (Nat.le_of_ble_eq_true rfl)) dX8_rests_15 ⟨Nat.le_of_ble_eq_true rfl, Nat.le_of_ble_eq_true rfl⟩) hS hA hP (fun r_3 H locs hw_3 hP hS => ?_)
    try dsimp only at hw_3
    refine lv_if_ne (tgt := 27) hx hb dX8_rests_18 (by decide) (fun c_4 => ?_) (fun c_4 => ?_)
    · refine lv_aload_n hx hb dX8_rests_27 rfl (lv_at hl 0 rfl) ?_
      refine lv_iload_n hx hb dX8_rests_28 rfl (lv_at hl 1 rfl) ?_
      refine lv_iload_n hx hb dX8_rests_29 rfl (lv_at hl 2 rfl) ?_
      refine rw_i (D := D) (wr := []) (va_runV (As := [.int (nI j_2), .int p1]) (rest := []) ⟨hx, hb, hml, hown, hts⟩ ((m_isAtRest l D k st lo a tx t0 we rd ru rw ca fp wd nu na ts df db sd dn se tm gs fprices fwalks br fdoorsOf j_2 p1 hdn (by first | assumption | omega) hbr (by first | assumption | omega) hdv) H.size) (cwV 2 hts (gV tw_1410 tw_1412 tw_68 tw_87 tw_1413) rfl rfl rfl (by decide +kernel) ⟨Nat.le_of_ble_eq_true rfl, Nat.le_of_ble_eq_true rfl⟩) (pV hS hAlo hlo hP hK (va_Dlo hD hAlo) hZ [0, 1, 2, 3, 4, 5, 6] (by decide) rfl (ci := 8) (q := (RX8, TX8, 44)) (q0 := 0) rfl rfl) rfl rfl hl.1 rfl (lv_room (Nat.le_of_ble_eq_true rfl)) dX8_rests_30 ⟨Nat.le_of_ble_eq_true rfl, Nat.le_of_ble_eq_true rfl⟩) hS hA hP hD [0, 1, 2, 3, 4, 5, 6] [] rfl rfl (by decide) (by decide) (fun r_5 u H locs hw_5 hP hD hS => ?_)
      obtain ⟨br__5, fdoorsOf__5⟩ := u
      have hQ9 := pd_mk [((a 0), .inr (8, (fX8 a (nI tx) fp (nI t0) wd (nI we) nu na (nI rd) ts (nI ru) (nI rw) (nI ca) df db sd))), (aI k (a 1) 3 (nF dn)), (aI k (a 4) 27 (sg se tm gs)), (aI k (a 3) 72 fprices), (aI k (a 36) 4 fwalks), (aI k (a 37) 4 (nF br__5)), (aI k (a 40) 4 fdoorsOf__5)] hP hD
      clear hP hD
      obtain ⟨hP, hD⟩ := hQ9
      try dsimp only at hw_5
      refine lv_if_eq (tgt := 40) hx hb dX8_rests_33 (by decide) (fun c_6 => ?_) (fun c_6 => ?_)
      · refine lv_iconst (v := 0) hx hb dX8_rests_40 (by decide) ?_
        obtain ⟨hP9, hD9⟩ := pd_sub [((a 0), .inr (8, (fX8 a (nI tx) fp (nI t0) wd (nI we) nu na (nI rd) ts (nI ru) (nI rw) (nI ca) df db sd))), (aI k (a 1) 3 (nF dn)), (aI k (a 4) 27 (sg se tm gs)), (aI k (a 3) 72 fprices), (aI k (a 36) 4 fwalks), (aI k (a 37) 4 (nF br__5)), (aI k (a 40) 4 fdoorsOf__5)] [0, 1, 2, 3, 4, 5, 6] hP hD (by decide) rfl
        exact W.iret (v := 0) hx hb hr (fun t ht hW => ⟨⟨0, (br__5, fdoorsOf__5), rfl, ⟨hw_5.1, hw_5.2⟩, by rw [ht]; exact hP9, hD9⟩, hS.F ht⟩) hS.2.2 dX8_rests_41
      · refine lv_iconst (v := 1) hx hb dX8_rests_36 (by decide) ?_
        refine lv_goto (tgt := 41) hx hb dX8_rests_37 (by decide) ?_
        obtain ⟨hP9, hD9⟩ := pd_sub [((a 0), .inr (8, (fX8 a (nI tx) fp (nI t0) wd (nI we) nu na (nI rd) ts (nI ru) (nI rw) (nI ca) df db sd))), (aI k (a 1) 3 (nF dn)), (aI k (a 4) 27 (sg se tm gs)), (aI k (a 3) 72 fprices), (aI k (a 36) 4 fwalks), (aI k (a 37) 4 (nF br__5)), (aI k (a 40) 4 fdoorsOf__5)] [0, 1, 2, 3, 4, 5, 6] hP hD (by decide) rfl
        exact W.iret (v := 1) hx hb hr (fun t ht hW => ⟨⟨1, (br__5, fdoorsOf__5), rfl, ⟨hw_5.1, hw_5.2⟩, by rw [ht]; exact hP9, hD9⟩, hS.F ht⟩) hS.2.2 dX8_rests_41
    · refine lv_sipush (v := (-1002)) hx hb dX8_rests_21 (by decide) ?_
      refine lv_goto (tgt := 41) hx hb dX8_rests_24 (by decide) ?_
      obtain ⟨hP9, hD9⟩ := pd_sub [((a 0), .inr (8, (fX8 a (nI tx) fp (nI t0) wd (nI we) nu na (nI rd) ts (nI ru) (nI rw) (nI ca) df db sd))), (aI k (a 1) 3 (nF dn)), (aI k (a 4) 27 (sg se tm gs)), (aI k (a 3) 72 fprices), (aI k (a 36) 4 fwalks), (aI k (a 37) 4 (nF br)), (aI k (a 40) 4 fdoorsOf)] [0, 1, 2, 3, 4, 5, 6] hP hD (by decide) rfl
      exact W.iret (v := (-1002)) hx hb hr (fun t ht hW => ⟨⟨(-1002), (br, fdoorsOf), rfl, ⟨hbr, hdv⟩, by rw [ht]; exact hP9, hD9⟩, hS.F ht⟩) hS.2.2 dX8_rests_41
  · refine lv_if_ne (tgt := 12) hx hb dX8_rests_5 (by decide) (fun h => absurd (by decide) h) (fun _ => ?_)
    refine lv_sipush (v := (-1001)) hx hb dX8_rests_8 (by decide) ?_
    obtain ⟨hP9, hD9⟩ := pd_sub [((a 0), .inr (8, (fX8 a (nI tx) fp (nI t0) wd (nI we) nu na (nI rd) ts (nI ru) (nI rw) (nI ca) df db sd))), (aI k (a 1) 3 (nF dn)), (aI k (a 4) 27 (sg se tm gs)), (aI k (a 3) 72 fprices), (aI k (a 36) 4 fwalks), (aI k (a 37) 4 (nF br)), (aI k (a 40) 4 fdoorsOf)] [0, 1, 2, 3, 4, 5, 6] hP hD (by decide) rfl
    exact W.iret (v := (-1001)) hx hb hr (fun t ht hW => ⟨⟨(-1001), (br, fdoorsOf), rfl, ⟨hbr, hdv⟩, by rw [ht]; exact hP9, hD9⟩, hS.F ht⟩) hS.2.2 dX8_rests_11

theorem f_m_allRests_rows : True := trivial
theorem dX8_allRests_0 : decode cX8_allRests 0 = .ok (.aload_n 0, 1) := by decide +kernel
theorem dX8_allRests_1 : decode cX8_allRests 1 = .ok (.iload_n 1, 1) := by decide +kernel
theorem dX8_allRests_2 : decode cX8_allRests 2 = .ok (.invokevirtual 206, 3) := by decide +kernel
theorem dX8_allRests_5 : decode cX8_allRests 5 = .ok (.ifCond .ne 7, 3) := by decide +kernel
theorem dX8_allRests_8 : decode cX8_allRests 8 = .ok (.sipush (-1001), 3) := by decide +kernel
theorem dX8_allRests_11 : decode cX8_allRests 11 = .ok (.ireturn, 1) := by decide +kernel
theorem dX8_allRests_12 : decode cX8_allRests 12 = .ok (.aload_n 0, 1) := by decide +kernel
theorem dX8_allRests_13 : decode cX8_allRests 13 = .ok (.iload_n 1, 1) := by decide +kernel
theorem dX8_allRests_14 : decode cX8_allRests 14 = .ok (.iload_n 2, 1) := by decide +kernel
theorem dX8_allRests_15 : decode cX8_allRests 15 = .ok (.invokevirtual 333, 3) := by decide +kernel
theorem dX8_allRests_18 : decode cX8_allRests 18 = .ok (.ifCond .ne 7, 3) := by decide +kernel
theorem dX8_allRests_21 : decode cX8_allRests 21 = .ok (.sipush (-1002), 3) := by decide +kernel
theorem dX8_allRests_24 : decode cX8_allRests 24 = .ok (.ireturn, 1) := by decide +kernel
theorem dX8_allRests_25 : decode cX8_allRests 25 = .ok (.aload_n 0, 1) := by decide +kernel
theorem dX8_allRests_26 : decode cX8_allRests 26 = .ok (.getfield 315, 3) := by decide +kernel
theorem dX8_allRests_29 : decode cX8_allRests 29 = .ok (.iconst 2, 1) := by decide +kernel
theorem dX8_allRests_30 : decode cX8_allRests 30 = .ok (.if_icmp .le 7, 3) := by decide +kernel
theorem dX8_allRests_33 : decode cX8_allRests 33 = .ok (.sipush (-1003), 3) := by decide +kernel
theorem dX8_allRests_36 : decode cX8_allRests 36 = .ok (.ireturn, 1) := by decide +kernel
theorem dX8_allRests_37 : decode cX8_allRests 37 = .ok (.aload_n 0, 1) := by decide +kernel
theorem dX8_allRests_38 : decode cX8_allRests 38 = .ok (.invokevirtual 348, 3) := by decide +kernel
theorem dX8_allRests_41 : decode cX8_allRests 41 = .ok (.aload_n 0, 1) := by decide +kernel
theorem dX8_allRests_42 : decode cX8_allRests 42 = .ok (.getfield 7, 3) := by decide +kernel
theorem dX8_allRests_45 : decode cX8_allRests 45 = .ok (.iload_n 1, 1) := by decide +kernel
theorem dX8_allRests_46 : decode cX8_allRests 46 = .ok (.iaload, 1) := by decide +kernel
theorem dX8_allRests_47 : decode cX8_allRests 47 = .ok (.istore_n 3, 1) := by decide +kernel
theorem dX8_allRests_48 : decode cX8_allRests 48 = .ok (.iconst 0, 1) := by decide +kernel
theorem dX8_allRests_49 : decode cX8_allRests 49 = .ok (.istore 4, 2) := by decide +kernel
theorem dX8_allRests_51 : decode cX8_allRests 51 = .ok (.iconst 0, 1) := by decide +kernel
theorem dX8_allRests_52 : decode cX8_allRests 52 = .ok (.istore 5, 2) := by decide +kernel
theorem dX8_allRests_54 : decode cX8_allRests 54 = .ok (.iload 5, 2) := by decide +kernel
theorem dX8_allRests_56 : decode cX8_allRests 56 = .ok (.aload_n 0, 1) := by decide +kernel
theorem dX8_allRests_57 : decode cX8_allRests 57 = .ok (.getfield 315, 3) := by decide +kernel
theorem dX8_allRests_60 : decode cX8_allRests 60 = .ok (.ifCond .le 7, 3) := by decide +kernel
theorem dX8_allRests_63 : decode cX8_allRests 63 = .ok (.iload_n 3, 1) := by decide +kernel
theorem dX8_allRests_64 : decode cX8_allRests 64 = .ok (.goto 4, 3) := by decide +kernel
theorem dX8_allRests_67 : decode cX8_allRests 67 = .ok (.iconst 0, 1) := by decide +kernel
theorem dX8_allRests_68 : decode cX8_allRests 68 = .ok (.if_icmp .gt 71, 3) := by decide +kernel
theorem dX8_allRests_71 : decode cX8_allRests 71 = .ok (.iconst 0, 1) := by decide +kernel
theorem dX8_allRests_72 : decode cX8_allRests 72 = .ok (.istore 6, 2) := by decide +kernel
theorem dX8_allRests_74 : decode cX8_allRests 74 = .ok (.iload 6, 2) := by decide +kernel
theorem dX8_allRests_76 : decode cX8_allRests 76 = .ok (.aload_n 0, 1) := by decide +kernel
theorem dX8_allRests_77 : decode cX8_allRests 77 = .ok (.getfield 315, 3) := by decide +kernel
theorem dX8_allRests_80 : decode cX8_allRests 80 = .ok (.iconst 1, 1) := by decide +kernel
theorem dX8_allRests_81 : decode cX8_allRests 81 = .ok (.if_icmp .le 7, 3) := by decide +kernel
theorem dX8_allRests_84 : decode cX8_allRests 84 = .ok (.iload_n 3, 1) := by decide +kernel
theorem dX8_allRests_85 : decode cX8_allRests 85 = .ok (.goto 4, 3) := by decide +kernel
theorem dX8_allRests_88 : decode cX8_allRests 88 = .ok (.iconst 0, 1) := by decide +kernel
theorem dX8_allRests_89 : decode cX8_allRests 89 = .ok (.if_icmp .gt 44, 3) := by decide +kernel
theorem dX8_allRests_92 : decode cX8_allRests 92 = .ok (.aload_n 0, 1) := by decide +kernel
theorem dX8_allRests_93 : decode cX8_allRests 93 = .ok (.getfield 87, 3) := by decide +kernel
theorem dX8_allRests_96 : decode cX8_allRests 96 = .ok (.iconst 0, 1) := by decide +kernel
theorem dX8_allRests_97 : decode cX8_allRests 97 = .ok (.iload 5, 2) := by decide +kernel
theorem dX8_allRests_99 : decode cX8_allRests 99 = .ok (.iastore, 1) := by decide +kernel
theorem dX8_allRests_100 : decode cX8_allRests 100 = .ok (.aload_n 0, 1) := by decide +kernel
theorem dX8_allRests_101 : decode cX8_allRests 101 = .ok (.getfield 87, 3) := by decide +kernel
theorem dX8_allRests_104 : decode cX8_allRests 104 = .ok (.iconst 1, 1) := by decide +kernel
theorem dX8_allRests_105 : decode cX8_allRests 105 = .ok (.iload 6, 2) := by decide +kernel
theorem dX8_allRests_107 : decode cX8_allRests 107 = .ok (.iastore, 1) := by decide +kernel
theorem dX8_allRests_108 : decode cX8_allRests 108 = .ok (.iload 4, 2) := by decide +kernel
theorem dX8_allRests_110 : decode cX8_allRests 110 = .ok (.aload_n 0, 1) := by decide +kernel
theorem dX8_allRests_111 : decode cX8_allRests 111 = .ok (.iload_n 1, 1) := by decide +kernel
theorem dX8_allRests_112 : decode cX8_allRests 112 = .ok (.iload_n 2, 1) := by decide +kernel
theorem dX8_allRests_113 : decode cX8_allRests 113 = .ok (.invokevirtual 342, 3) := by decide +kernel
theorem dX8_allRests_116 : decode cX8_allRests 116 = .ok (.ifCond .eq 7, 3) := by decide +kernel
theorem dX8_allRests_119 : decode cX8_allRests 119 = .ok (.iconst 1, 1) := by decide +kernel
theorem dX8_allRests_120 : decode cX8_allRests 120 = .ok (.goto 4, 3) := by decide +kernel
theorem dX8_allRests_123 : decode cX8_allRests 123 = .ok (.iconst 0, 1) := by decide +kernel
theorem dX8_allRests_124 : decode cX8_allRests 124 = .ok (.iadd, 1) := by decide +kernel
theorem dX8_allRests_125 : decode cX8_allRests 125 = .ok (.istore 4, 2) := by decide +kernel
theorem dX8_allRests_127 : decode cX8_allRests 127 = .ok (.iinc 6 1, 3) := by decide +kernel
theorem dX8_allRests_130 : decode cX8_allRests 130 = .ok (.goto (-56), 3) := by decide +kernel
theorem dX8_allRests_133 : decode cX8_allRests 133 = .ok (.iinc 5 1, 3) := by decide +kernel
theorem dX8_allRests_136 : decode cX8_allRests 136 = .ok (.goto (-82), 3) := by decide +kernel
theorem dX8_allRests_139 : decode cX8_allRests 139 = .ok (.aload_n 0, 1) := by decide +kernel
theorem dX8_allRests_140 : decode cX8_allRests 140 = .ok (.invokevirtual 351, 3) := by decide +kernel
theorem dX8_allRests_143 : decode cX8_allRests 143 = .ok (.iload 4, 2) := by decide +kernel
theorem dX8_allRests_145 : decode cX8_allRests 145 = .ok (.ireturn, 1) := by decide +kernel
theorem f_m_mend_rows : True := trivial
theorem dX8_mend_0 : decode cX8_mend 0 = .ok (.aload_n 0, 1) := by decide +kernel
theorem dX8_mend_1 : decode cX8_mend 1 = .ok (.iload_n 1, 1) := by decide +kernel
theorem dX8_mend_2 : decode cX8_mend 2 = .ok (.invokevirtual 206, 3) := by decide +kernel
theorem dX8_mend_5 : decode cX8_mend 5 = .ok (.ifCond .eq 12, 3) := by decide +kernel
theorem dX8_mend_8 : decode cX8_mend 8 = .ok (.aload_n 0, 1) := by decide +kernel
theorem dX8_mend_9 : decode cX8_mend 9 = .ok (.iload_n 1, 1) := by decide +kernel
theorem dX8_mend_10 : decode cX8_mend 10 = .ok (.iload_n 3, 1) := by decide +kernel
theorem dX8_mend_11 : decode cX8_mend 11 = .ok (.invokevirtual 215, 3) := by decide +kernel
theorem dX8_mend_14 : decode cX8_mend 14 = .ok (.ifCond .ne 7, 3) := by decide +kernel
theorem dX8_mend_17 : decode cX8_mend 17 = .ok (.sipush (-1001), 3) := by decide +kernel
theorem dX8_mend_20 : decode cX8_mend 20 = .ok (.ireturn, 1) := by decide +kernel
theorem dX8_mend_21 : decode cX8_mend 21 = .ok (.aload_n 0, 1) := by decide +kernel
theorem dX8_mend_22 : decode cX8_mend 22 = .ok (.iload_n 1, 1) := by decide +kernel
theorem dX8_mend_23 : decode cX8_mend 23 = .ok (.iload_n 2, 1) := by decide +kernel
theorem dX8_mend_24 : decode cX8_mend 24 = .ok (.invokevirtual 333, 3) := by decide +kernel
theorem dX8_mend_27 : decode cX8_mend 27 = .ok (.ifCond .ne 7, 3) := by decide +kernel
theorem dX8_mend_30 : decode cX8_mend 30 = .ok (.sipush (-1002), 3) := by decide +kernel
theorem dX8_mend_33 : decode cX8_mend 33 = .ok (.ireturn, 1) := by decide +kernel
theorem dX8_mend_34 : decode cX8_mend 34 = .ok (.aload_n 0, 1) := by decide +kernel
theorem dX8_mend_35 : decode cX8_mend 35 = .ok (.invokevirtual 348, 3) := by decide +kernel
theorem dX8_mend_38 : decode cX8_mend 38 = .ok (.iconst 0, 1) := by decide +kernel
theorem dX8_mend_39 : decode cX8_mend 39 = .ok (.istore 4, 2) := by decide +kernel
theorem dX8_mend_41 : decode cX8_mend 41 = .ok (.iconst 0, 1) := by decide +kernel
theorem dX8_mend_42 : decode cX8_mend 42 = .ok (.istore 5, 2) := by decide +kernel
theorem dX8_mend_44 : decode cX8_mend 44 = .ok (.iconst 0, 1) := by decide +kernel
theorem dX8_mend_45 : decode cX8_mend 45 = .ok (.istore 6, 2) := by decide +kernel
theorem dX8_mend_47 : decode cX8_mend 47 = .ok (.iload 6, 2) := by decide +kernel
theorem dX8_mend_49 : decode cX8_mend 49 = .ok (.bipush 20, 2) := by decide +kernel
theorem dX8_mend_51 : decode cX8_mend 51 = .ok (.if_icmp .gt 97, 3) := by decide +kernel
theorem dX8_mend_54 : decode cX8_mend 54 = .ok (.iconst 0, 1) := by decide +kernel
theorem dX8_mend_55 : decode cX8_mend 55 = .ok (.istore 7, 2) := by decide +kernel
theorem dX8_mend_57 : decode cX8_mend 57 = .ok (.iload 7, 2) := by decide +kernel
theorem dX8_mend_59 : decode cX8_mend 59 = .ok (.iconst 4, 1) := by decide +kernel
theorem dX8_mend_60 : decode cX8_mend 60 = .ok (.if_icmp .ge 17, 3) := by decide +kernel
theorem dX8_mend_63 : decode cX8_mend 63 = .ok (.aload_n 0, 1) := by decide +kernel
theorem dX8_mend_64 : decode cX8_mend 64 = .ok (.getfield 87, 3) := by decide +kernel
theorem dX8_mend_67 : decode cX8_mend 67 = .ok (.iload 7, 2) := by decide +kernel
theorem dX8_mend_69 : decode cX8_mend 69 = .ok (.iconst 0, 1) := by decide +kernel
theorem dX8_mend_70 : decode cX8_mend 70 = .ok (.iastore, 1) := by decide +kernel
theorem dX8_mend_71 : decode cX8_mend 71 = .ok (.iinc 7 1, 3) := by decide +kernel
theorem dX8_mend_74 : decode cX8_mend 74 = .ok (.goto (-17), 3) := by decide +kernel
theorem dX8_mend_77 : decode cX8_mend 77 = .ok (.aload_n 0, 1) := by decide +kernel
theorem dX8_mend_78 : decode cX8_mend 78 = .ok (.iload_n 3, 1) := by decide +kernel
theorem dX8_mend_79 : decode cX8_mend 79 = .ok (.putfield 321, 3) := by decide +kernel
theorem dX8_mend_82 : decode cX8_mend 82 = .ok (.aload_n 0, 1) := by decide +kernel
theorem dX8_mend_83 : decode cX8_mend 83 = .ok (.bipush 10, 2) := by decide +kernel
theorem dX8_mend_85 : decode cX8_mend 85 = .ok (.iload 6, 2) := by decide +kernel
theorem dX8_mend_87 : decode cX8_mend 87 = .ok (.imul, 1) := by decide +kernel
theorem dX8_mend_88 : decode cX8_mend 88 = .ok (.putfield 324, 3) := by decide +kernel
theorem dX8_mend_91 : decode cX8_mend 91 = .ok (.aload_n 0, 1) := by decide +kernel
theorem dX8_mend_92 : decode cX8_mend 92 = .ok (.iload_n 1, 1) := by decide +kernel
theorem dX8_mend_93 : decode cX8_mend 93 = .ok (.iload_n 2, 1) := by decide +kernel
theorem dX8_mend_94 : decode cX8_mend 94 = .ok (.invokevirtual 345, 3) := by decide +kernel
theorem dX8_mend_97 : decode cX8_mend 97 = .ok (.istore 7, 2) := by decide +kernel
theorem dX8_mend_99 : decode cX8_mend 99 = .ok (.aload_n 0, 1) := by decide +kernel
theorem dX8_mend_100 : decode cX8_mend 100 = .ok (.iconst 0, 1) := by decide +kernel
theorem dX8_mend_101 : decode cX8_mend 101 = .ok (.putfield 324, 3) := by decide +kernel
theorem dX8_mend_104 : decode cX8_mend 104 = .ok (.iload 7, 2) := by decide +kernel
theorem dX8_mend_106 : decode cX8_mend 106 = .ok (.iconst (-1), 1) := by decide +kernel
theorem dX8_mend_107 : decode cX8_mend 107 = .ok (.if_icmp .ge 7, 3) := by decide +kernel
theorem dX8_mend_114 : decode cX8_mend 114 = .ok (.aload_n 0, 1) := by decide +kernel
theorem dX8_mend_115 : decode cX8_mend 115 = .ok (.iload_n 1, 1) := by decide +kernel
theorem dX8_mend_116 : decode cX8_mend 116 = .ok (.iload_n 2, 1) := by decide +kernel
theorem dX8_mend_117 : decode cX8_mend 117 = .ok (.invokevirtual 368, 3) := by decide +kernel
theorem dX8_mend_120 : decode cX8_mend 120 = .ok (.istore 8, 2) := by decide +kernel
theorem dX8_mend_122 : decode cX8_mend 122 = .ok (.iload 6, 2) := by decide +kernel
theorem dX8_mend_124 : decode cX8_mend 124 = .ok (.ifCond .eq 10, 3) := by decide +kernel
theorem dX8_mend_127 : decode cX8_mend 127 = .ok (.iload 8, 2) := by decide +kernel
theorem dX8_mend_129 : decode cX8_mend 129 = .ok (.iload 5, 2) := by decide +kernel
theorem dX8_mend_131 : decode cX8_mend 131 = .ok (.if_icmp .ge 11, 3) := by decide +kernel
theorem dX8_mend_134 : decode cX8_mend 134 = .ok (.iload 6, 2) := by decide +kernel
theorem dX8_mend_136 : decode cX8_mend 136 = .ok (.istore 4, 2) := by decide +kernel
theorem dX8_mend_138 : decode cX8_mend 138 = .ok (.iload 8, 2) := by decide +kernel
theorem dX8_mend_140 : decode cX8_mend 140 = .ok (.istore 5, 2) := by decide +kernel
theorem dX8_mend_142 : decode cX8_mend 142 = .ok (.iinc 6 1, 3) := by decide +kernel
theorem dX8_mend_145 : decode cX8_mend 145 = .ok (.goto (-98), 3) := by decide +kernel
theorem dX8_mend_148 : decode cX8_mend 148 = .ok (.aload_n 0, 1) := by decide +kernel
theorem dX8_mend_149 : decode cX8_mend 149 = .ok (.invokevirtual 351, 3) := by decide +kernel
theorem dX8_mend_152 : decode cX8_mend 152 = .ok (.iload 4, 2) := by decide +kernel
theorem dX8_mend_154 : decode cX8_mend 154 = .ok (.ireturn, 1) := by decide +kernel
theorem tw_74 : Cond.selects RX8 yX8_leastAll yX8_leastAll ∈ LW := LWm (i := 74) (by decide +kernel) rfl
theorem tw_75 : Cond.selects RX8 yX8_sumAll yX8_sumAll ∈ LW := LWm (i := 75) (by decide +kernel) rfl
theorem tw_1446 : Cond.methodLink RX8 371 yX8_leastAll ∈ LW := LWm6 (i := 168) (by decide +kernel) rfl
theorem tw_1448 : Cond.instanceMethod yX8_leastAll ∈ LW := LWm6 (i := 170) (by decide +kernel) rfl
set_option maxRecDepth 100000 in theorem tw_1449 : Cond.code yX8_leastAll cX8_leastAll 10 (some .int) ∈ LW := LWm6 (i := 171) rfl rfl
theorem tw_1450 : Cond.methodLink RX8 354 yX8_canAll ∈ LW := LWm6 (i := 172) (by decide +kernel) rfl
theorem tw_1451 : Cond.static yX8_canAll ∈ LW := LWm6 (i := 173) (by decide +kernel) rfl
set_option maxRecDepth 100000 in theorem tw_1452 : Cond.code yX8_canAll cX8_canAll 6 (some .boolean) ∈ LW := LWm6 (i := 174) rfl rfl
theorem tw_1453 : Cond.methodLink RX8 362 yX8_canOne ∈ LW := LWm6 (i := 175) (by decide +kernel) rfl
theorem tw_1454 : Cond.static yX8_canOne ∈ LW := LWm6 (i := 176) (by decide +kernel) rfl
set_option maxRecDepth 100000 in theorem tw_1455 : Cond.code yX8_canOne cX8_canOne 2 (some .boolean) ∈ LW := LWm6 (i := 177) rfl rfl
theorem tw_1456 : Cond.methodLink RX8 365 yX8_areApart ∈ LW := LWm6 (i := 178) (by decide +kernel) rfl
theorem tw_1457 : Cond.static yX8_areApart ∈ LW := LWm6 (i := 179) (by decide +kernel) rfl
set_option maxRecDepth 100000 in theorem tw_1458 : Cond.code yX8_areApart cX8_areApart 2 (some .boolean) ∈ LW := LWm6 (i := 180) rfl rfl
theorem tw_1459 : Cond.methodLink RX8 358 yX8_sumAll ∈ LW := LWm6 (i := 181) (by decide +kernel) rfl
theorem tw_1461 : Cond.instanceMethod yX8_sumAll ∈ LW := LWm6 (i := 183) (by decide +kernel) rfl
set_option maxRecDepth 100000 in theorem tw_1462 : Cond.code yX8_sumAll cX8_sumAll 7 (some .int) ∈ LW := LWm6 (i := 184) rfl rfl
theorem m_glue12 : True := trivial
theorem dn_inc (q : Nat) : nI q - 1 + 1 = nI q := Int32.sub_add_cancel (nI q) 1
theorem dn_lt {q n : Nat} (hq : q ≤ 25) (hn : n ≤ 24) (c : ¬ nI n ≤ nI q - 1) : q ≤ n := by
  rcases q with _ | q
  · omega
  · rw [nI_pred] at c
    have h : ¬ n ≤ q := fun h => c ((nI_leI (a := n) (b := q) (by omega) (by omega)).mpr h)
    omega
theorem dn_hq {q : Nat} (hq : q ≤ 24) : nI q - 1 < 0 ∨ ∃ d : Nat, d < 24 ∧ nI q - 1 = nI d := by
  rcases q with _ | q
  · exact .inl (by decide)
  · exact .inr ⟨q, by omega, nI_pred q⟩

theorem dX8_canOne_0 : decode cX8_canOne 0 = .ok (.iload_n 1, 1) := by decide +kernel
theorem dX8_canOne_1 : decode cX8_canOne 1 = .ok (.ifCond .lt 12, 3) := by decide +kernel
theorem dX8_canOne_4 : decode cX8_canOne 4 = .ok (.iload_n 0, 1) := by decide +kernel
theorem dX8_canOne_5 : decode cX8_canOne 5 = .ok (.iload_n 1, 1) := by decide +kernel
theorem dX8_canOne_6 : decode cX8_canOne 6 = .ok (.ishr, 1) := by decide +kernel
theorem dX8_canOne_7 : decode cX8_canOne 7 = .ok (.iconst 1, 1) := by decide +kernel
theorem dX8_canOne_8 : decode cX8_canOne 8 = .ok (.iand, 1) := by decide +kernel
theorem dX8_canOne_9 : decode cX8_canOne 9 = .ok (.iconst 1, 1) := by decide +kernel
theorem dX8_canOne_10 : decode cX8_canOne 10 = .ok (.if_icmp .ne 7, 3) := by decide +kernel
theorem dX8_canOne_13 : decode cX8_canOne 13 = .ok (.iconst 1, 1) := by decide +kernel
theorem dX8_canOne_14 : decode cX8_canOne 14 = .ok (.goto 4, 3) := by decide +kernel
theorem dX8_canOne_17 : decode cX8_canOne 17 = .ok (.iconst 0, 1) := by decide +kernel
theorem dX8_canOne_18 : decode cX8_canOne 18 = .ok (.ireturn, 1) := by decide +kernel
set_option maxHeartbeats 4000000 in
set_option maxRecDepth 100000 in
theorem m_canOne (l : Launch) (D : va_G) (k : Nat → ClassId) (st : Nat → Nat) (lo : Nat) (p0 : Int32) (p1 : Int32)  : CRi l D k st lo yX8_canOne cX8_canOne 2 (some .boolean) ({ frames := 0, cells := 0, slots := 0, locals := 0 }) [.int p0, .int p1] [] (fun r => r = 1 ∨ r = 0) := by
  intro sz
  refine Met.ofW (cc := cX8_canOne) (maxL := 2) (ret := (some .boolean)) (by decide) rfl ?_
  intro p e s m args below meth c s₁ B hml hv
  obtain ⟨rfl, hsz, hlo, hP, hK, hDL, hZ⟩ := hv
  have hx := B.exec
  have hb := B.bytes
  have hr := B.returns
  have hts := WS_ts B.pre
  have hown : s.vm.findClass RX8 = some m.cls := findClass_of_methodNamed B.named
  have hlocks := B.notSynchronized
  subst hsz
  have hA : ∀ q : Nat, s.heap.size ≤ q → (fun q : Nat => s.heap.size ≤ q) q := fun _ h => h
  have hAlo : ∀ q : Nat, (fun q : Nat => s.heap.size ≤ q) q → lo ≤ q := fun q h => Nat.le_trans hlo h
  have hS : va_S (fun q : Nat => s.heap.size ≤ q) s.heap s.heap [] := va_S.rf
  have hl := lv_entry ([.int p0, .int p1]) (n := 2) (Nat.le_of_ble_eq_true rfl)
  rw [lg_entry_eq]
  generalize (lg_sl ([.int p0, .int p1]) ++ List.replicate (2 - (lg_sl ([.int p0, .int p1])).length) Slot.unset).toArray = ls at hl ⊢
  have hl : lv_has ls 2 [(0, .int p0), (1, .int p1)] := hl
  refine lv_iload_n hx hb dX8_canOne_0 rfl (lv_at hl 1 rfl) ?_
  refine lv_if_lt (tgt := 13) hx hb dX8_canOne_1 (by decide) (fun c_1 => ?_) (fun c_1 => ?_)
  · refine lv_iconst (v := 1) hx hb dX8_canOne_13 (by decide) ?_
    refine lv_goto (tgt := 18) hx hb dX8_canOne_14 (by decide) ?_
    exact W.zret (v := 1) (ty := .boolean) hx hb hr rfl (fun t ht hW => ⟨⟨1, (), rfl, .inl rfl, trivial⟩, hS.F ht⟩) hS.2.2 dX8_canOne_18
  · refine lv_iload_n hx hb dX8_canOne_4 rfl (lv_at hl 0 rfl) ?_
    refine lv_iload_n hx hb dX8_canOne_5 rfl (lv_at hl 1 rfl) ?_
    refine lv_ishr hx hb dX8_canOne_6 ?_
    refine lv_topi (fun x_2 ex_2 => ?_)
    refine lv_iconst (v := 1) hx hb dX8_canOne_7 (by decide) ?_
    refine lv_iand hx hb dX8_canOne_8 ?_
    refine lv_topi (fun x_3 ex_3 => ?_)
    refine lv_iconst (v := 1) hx hb dX8_canOne_9 (by decide) ?_
    refine lv_icmp_ne (tgt := 17) hx hb dX8_canOne_10 (by decide) (fun c_4 => ?_) (fun c_4 => ?_)
    · refine lv_iconst (v := 0) hx hb dX8_canOne_17 (by decide) ?_
      exact W.zret (v := 0) (ty := .boolean) hx hb hr rfl (fun t ht hW => ⟨⟨0, (), rfl, .inr rfl, trivial⟩, hS.F ht⟩) hS.2.2 dX8_canOne_18
    · refine lv_iconst (v := 1) hx hb dX8_canOne_13 (by decide) ?_
      refine lv_goto (tgt := 18) hx hb dX8_canOne_14 (by decide) ?_
      exact W.zret (v := 1) (ty := .boolean) hx hb hr rfl (fun t ht hW => ⟨⟨1, (), rfl, .inl rfl, trivial⟩, hS.F ht⟩) hS.2.2 dX8_canOne_18

theorem dX8_areApart_0 : decode cX8_areApart 0 = .ok (.iload_n 0, 1) := by decide +kernel
theorem dX8_areApart_1 : decode cX8_areApart 1 = .ok (.ifCond .lt 8, 3) := by decide +kernel
theorem dX8_areApart_4 : decode cX8_areApart 4 = .ok (.iload_n 0, 1) := by decide +kernel
theorem dX8_areApart_5 : decode cX8_areApart 5 = .ok (.iload_n 1, 1) := by decide +kernel
theorem dX8_areApart_6 : decode cX8_areApart 6 = .ok (.if_icmp .eq 7, 3) := by decide +kernel
theorem dX8_areApart_9 : decode cX8_areApart 9 = .ok (.iconst 1, 1) := by decide +kernel
theorem dX8_areApart_10 : decode cX8_areApart 10 = .ok (.goto 4, 3) := by decide +kernel
theorem dX8_areApart_13 : decode cX8_areApart 13 = .ok (.iconst 0, 1) := by decide +kernel
theorem dX8_areApart_14 : decode cX8_areApart 14 = .ok (.ireturn, 1) := by decide +kernel
set_option maxHeartbeats 4000000 in
set_option maxRecDepth 100000 in
theorem m_areApart (l : Launch) (D : va_G) (k : Nat → ClassId) (st : Nat → Nat) (lo : Nat) (p0 : Int32) (p1 : Int32)  : CRi l D k st lo yX8_areApart cX8_areApart 2 (some .boolean) ({ frames := 0, cells := 0, slots := 0, locals := 0 }) [.int p0, .int p1] [] (fun r => r = 1 ∨ r = 0) := by
  intro sz
  refine Met.ofW (cc := cX8_areApart) (maxL := 2) (ret := (some .boolean)) (by decide) rfl ?_
  intro p e s m args below meth c s₁ B hml hv
  obtain ⟨rfl, hsz, hlo, hP, hK, hDL, hZ⟩ := hv
  have hx := B.exec
  have hb := B.bytes
  have hr := B.returns
  have hts := WS_ts B.pre
  have hown : s.vm.findClass RX8 = some m.cls := findClass_of_methodNamed B.named
  have hlocks := B.notSynchronized
  subst hsz
  have hA : ∀ q : Nat, s.heap.size ≤ q → (fun q : Nat => s.heap.size ≤ q) q := fun _ h => h
  have hAlo : ∀ q : Nat, (fun q : Nat => s.heap.size ≤ q) q → lo ≤ q := fun q h => Nat.le_trans hlo h
  have hS : va_S (fun q : Nat => s.heap.size ≤ q) s.heap s.heap [] := va_S.rf
  have hl := lv_entry ([.int p0, .int p1]) (n := 2) (Nat.le_of_ble_eq_true rfl)
  rw [lg_entry_eq]
  generalize (lg_sl ([.int p0, .int p1]) ++ List.replicate (2 - (lg_sl ([.int p0, .int p1])).length) Slot.unset).toArray = ls at hl ⊢
  have hl : lv_has ls 2 [(0, .int p0), (1, .int p1)] := hl
  refine lv_iload_n hx hb dX8_areApart_0 rfl (lv_at hl 0 rfl) ?_
  refine lv_if_lt (tgt := 9) hx hb dX8_areApart_1 (by decide) (fun c_1 => ?_) (fun c_1 => ?_)
  · refine lv_iconst (v := 1) hx hb dX8_areApart_9 (by decide) ?_
    refine lv_goto (tgt := 14) hx hb dX8_areApart_10 (by decide) ?_
    exact W.zret (v := 1) (ty := .boolean) hx hb hr rfl (fun t ht hW => ⟨⟨1, (), rfl, .inl rfl, trivial⟩, hS.F ht⟩) hS.2.2 dX8_areApart_14
  · refine lv_iload_n hx hb dX8_areApart_4 rfl (lv_at hl 0 rfl) ?_
    refine lv_iload_n hx hb dX8_areApart_5 rfl (lv_at hl 1 rfl) ?_
    refine lv_icmp_eq (tgt := 13) hx hb dX8_areApart_6 (by decide) (fun c_2 => ?_) (fun c_2 => ?_)
    · refine lv_iconst (v := 0) hx hb dX8_areApart_13 (by decide) ?_
      exact W.zret (v := 0) (ty := .boolean) hx hb hr rfl (fun t ht hW => ⟨⟨0, (), rfl, .inr rfl, trivial⟩, hS.F ht⟩) hS.2.2 dX8_areApart_14
    · refine lv_iconst (v := 1) hx hb dX8_areApart_9 (by decide) ?_
      refine lv_goto (tgt := 14) hx hb dX8_areApart_10 (by decide) ?_
      exact W.zret (v := 1) (ty := .boolean) hx hb hr rfl (fun t ht hW => ⟨⟨1, (), rfl, .inl rfl, trivial⟩, hS.F ht⟩) hS.2.2 dX8_areApart_14

theorem dX8_canAll_0 : decode cX8_canAll 0 = .ok (.iload_n 0, 1) := by decide +kernel
theorem dX8_canAll_1 : decode cX8_canAll 1 = .ok (.iload_n 1, 1) := by decide +kernel
theorem dX8_canAll_2 : decode cX8_canAll 2 = .ok (.invokestatic 362, 3) := by decide +kernel
theorem dX8_canAll_5 : decode cX8_canAll 5 = .ok (.ifCond .eq 32, 3) := by decide +kernel
theorem dX8_canAll_8 : decode cX8_canAll 8 = .ok (.iload_n 0, 1) := by decide +kernel
theorem dX8_canAll_9 : decode cX8_canAll 9 = .ok (.iload_n 2, 1) := by decide +kernel
theorem dX8_canAll_10 : decode cX8_canAll 10 = .ok (.invokestatic 362, 3) := by decide +kernel
theorem dX8_canAll_13 : decode cX8_canAll 13 = .ok (.ifCond .eq 24, 3) := by decide +kernel
theorem dX8_canAll_16 : decode cX8_canAll 16 = .ok (.iload_n 0, 1) := by decide +kernel
theorem dX8_canAll_17 : decode cX8_canAll 17 = .ok (.iload_n 3, 1) := by decide +kernel
theorem dX8_canAll_18 : decode cX8_canAll 18 = .ok (.invokestatic 362, 3) := by decide +kernel
theorem dX8_canAll_21 : decode cX8_canAll 21 = .ok (.ifCond .eq 16, 3) := by decide +kernel
theorem dX8_canAll_24 : decode cX8_canAll 24 = .ok (.iload_n 0, 1) := by decide +kernel
theorem dX8_canAll_25 : decode cX8_canAll 25 = .ok (.iload 4, 2) := by decide +kernel
theorem dX8_canAll_27 : decode cX8_canAll 27 = .ok (.invokestatic 362, 3) := by decide +kernel
theorem dX8_canAll_30 : decode cX8_canAll 30 = .ok (.ifCond .eq 7, 3) := by decide +kernel
theorem dX8_canAll_33 : decode cX8_canAll 33 = .ok (.iconst 1, 1) := by decide +kernel
theorem dX8_canAll_34 : decode cX8_canAll 34 = .ok (.goto 4, 3) := by decide +kernel
theorem dX8_canAll_37 : decode cX8_canAll 37 = .ok (.iconst 0, 1) := by decide +kernel
theorem dX8_canAll_38 : decode cX8_canAll 38 = .ok (.istore 5, 2) := by decide +kernel
theorem dX8_canAll_40 : decode cX8_canAll 40 = .ok (.iload 5, 2) := by decide +kernel
theorem dX8_canAll_42 : decode cX8_canAll 42 = .ok (.ifCond .eq 58, 3) := by decide +kernel
theorem dX8_canAll_45 : decode cX8_canAll 45 = .ok (.iload_n 1, 1) := by decide +kernel
theorem dX8_canAll_46 : decode cX8_canAll 46 = .ok (.iload_n 2, 1) := by decide +kernel
theorem dX8_canAll_47 : decode cX8_canAll 47 = .ok (.invokestatic 365, 3) := by decide +kernel
theorem dX8_canAll_50 : decode cX8_canAll 50 = .ok (.ifCond .eq 50, 3) := by decide +kernel
theorem dX8_canAll_53 : decode cX8_canAll 53 = .ok (.iload_n 1, 1) := by decide +kernel
theorem dX8_canAll_54 : decode cX8_canAll 54 = .ok (.iload_n 3, 1) := by decide +kernel
theorem dX8_canAll_55 : decode cX8_canAll 55 = .ok (.invokestatic 365, 3) := by decide +kernel
theorem dX8_canAll_58 : decode cX8_canAll 58 = .ok (.ifCond .eq 42, 3) := by decide +kernel
theorem dX8_canAll_61 : decode cX8_canAll 61 = .ok (.iload_n 1, 1) := by decide +kernel
theorem dX8_canAll_62 : decode cX8_canAll 62 = .ok (.iload 4, 2) := by decide +kernel
theorem dX8_canAll_64 : decode cX8_canAll 64 = .ok (.invokestatic 365, 3) := by decide +kernel
theorem dX8_canAll_67 : decode cX8_canAll 67 = .ok (.ifCond .eq 33, 3) := by decide +kernel
theorem dX8_canAll_70 : decode cX8_canAll 70 = .ok (.iload_n 2, 1) := by decide +kernel
theorem dX8_canAll_71 : decode cX8_canAll 71 = .ok (.iload_n 3, 1) := by decide +kernel
theorem dX8_canAll_72 : decode cX8_canAll 72 = .ok (.invokestatic 365, 3) := by decide +kernel
theorem dX8_canAll_75 : decode cX8_canAll 75 = .ok (.ifCond .eq 25, 3) := by decide +kernel
theorem dX8_canAll_78 : decode cX8_canAll 78 = .ok (.iload_n 2, 1) := by decide +kernel
theorem dX8_canAll_79 : decode cX8_canAll 79 = .ok (.iload 4, 2) := by decide +kernel
theorem dX8_canAll_81 : decode cX8_canAll 81 = .ok (.invokestatic 365, 3) := by decide +kernel
theorem dX8_canAll_84 : decode cX8_canAll 84 = .ok (.ifCond .eq 16, 3) := by decide +kernel
theorem dX8_canAll_87 : decode cX8_canAll 87 = .ok (.iload_n 3, 1) := by decide +kernel
theorem dX8_canAll_88 : decode cX8_canAll 88 = .ok (.iload 4, 2) := by decide +kernel
theorem dX8_canAll_90 : decode cX8_canAll 90 = .ok (.invokestatic 365, 3) := by decide +kernel
theorem dX8_canAll_93 : decode cX8_canAll 93 = .ok (.ifCond .eq 7, 3) := by decide +kernel
theorem dX8_canAll_96 : decode cX8_canAll 96 = .ok (.iconst 1, 1) := by decide +kernel
theorem dX8_canAll_97 : decode cX8_canAll 97 = .ok (.goto 4, 3) := by decide +kernel
theorem dX8_canAll_100 : decode cX8_canAll 100 = .ok (.iconst 0, 1) := by decide +kernel
theorem dX8_canAll_101 : decode cX8_canAll 101 = .ok (.ireturn, 1) := by decide +kernel
set_option maxHeartbeats 4000000 in
set_option maxRecDepth 100000 in
theorem m_canAll (l : Launch) (D : va_G) (k : Nat → ClassId) (st : Nat → Nat) (lo : Nat) (p0 : Int32) (p1 : Int32) (p2 : Int32) (p3 : Int32) (p4 : Int32)  : CRi l D k st lo yX8_canAll cX8_canAll 6 (some .boolean) ({ frames := 1, cells := 0, slots := 0, locals := 21 }) [.int p0, .int p1, .int p2, .int p3, .int p4] [] (fun r => r = 1 ∨ r = 0) := by
  intro sz
  refine Met.ofW (cc := cX8_canAll) (maxL := 6) (ret := (some .boolean)) (by decide) rfl ?_
  intro p e s m args below meth c s₁ B hml hv
  obtain ⟨rfl, hsz, hlo, hP, hK, hDL, hZ⟩ := hv
  have hx := B.exec
  have hb := B.bytes
  have hr := B.returns
  have hts := WS_ts B.pre
  have hown : s.vm.findClass RX8 = some m.cls := findClass_of_methodNamed B.named
  have hlocks := B.notSynchronized
  subst hsz
  have hA : ∀ q : Nat, s.heap.size ≤ q → (fun q : Nat => s.heap.size ≤ q) q := fun _ h => h
  have hAlo : ∀ q : Nat, (fun q : Nat => s.heap.size ≤ q) q → lo ≤ q := fun q h => Nat.le_trans hlo h
  have hS : va_S (fun q : Nat => s.heap.size ≤ q) s.heap s.heap [] := va_S.rf
  have hl := lv_entry ([.int p0, .int p1, .int p2, .int p3, .int p4]) (n := 6) (Nat.le_of_ble_eq_true rfl)
  rw [lg_entry_eq]
  generalize (lg_sl ([.int p0, .int p1, .int p2, .int p3, .int p4]) ++ List.replicate (6 - (lg_sl ([.int p0, .int p1, .int p2, .int p3, .int p4])).length) Slot.unset).toArray = ls at hl ⊢
  have hl : lv_has ls 6 [(0, .int p0), (1, .int p1), (2, .int p2), (3, .int p3), (4, .int p4)] := hl
  refine lv_iload_n hx hb dX8_canAll_0 rfl (lv_at hl 0 rfl) ?_
  refine lv_iload_n hx hb dX8_canAll_1 rfl (lv_at hl 1 rfl) ?_
  refine ro_i (D := D) (va_runS (As := [.int p0, .int p1]) (rest := []) ⟨hx, hb, hml, hown, hts⟩ ((m_canOne l D k st lo p0 p1) s.heap.size) (va_cwS 2 hts (gS tw_1453 tw_1454 tw_87 tw_1455) rfl rfl rfl (by decide +kernel) ⟨Nat.le_of_ble_eq_true rfl, Nat.le_of_ble_eq_true rfl⟩) (pS hS hAlo hlo hP hK hDL hZ [] (by decide) rfl) rfl rfl hl.1 rfl (lv_room (Nat.le_of_ble_eq_true rfl)) dX8_canAll_2 ⟨Nat.le_of_ble_eq_true rfl, Nat.le_of_ble_eq_true rfl⟩) hS hA hP (fun r_1 H locs hw_1 hP hS => ?_)
  try dsimp only at hw_1
  refine lv_if_eq (tgt := 37) hx hb dX8_canAll_5 (by decide) (fun c_2 => ?_) (fun c_2 => ?_)
  · refine lv_iconst (v := 0) hx hb dX8_canAll_37 (by decide) ?_
    refine lv_istore (lv' := [(5, .int 0), (0, .int p0), (1, .int p1), (2, .int p2), (3, .int p3), (4, .int p4)]) hx hb dX8_canAll_38 hl (by decide) rfl (fun ls hl => ?_)
    refine lv_iload hx hb dX8_canAll_40 (lv_at hl 0 rfl) ?_
    refine lv_if_eq (tgt := 100) hx hb dX8_canAll_42 (by decide) (fun _ => ?_) (fun h => absurd (by decide) h)
    refine lv_iconst (v := 0) hx hb dX8_canAll_100 (by decide) ?_
    exact W.zret (v := 0) (ty := .boolean) hx hb hr rfl (fun t ht hW => ⟨⟨0, (), rfl, .inr rfl, trivial⟩, hS.F ht⟩) hS.2.2 dX8_canAll_101
  · refine lv_iload_n hx hb dX8_canAll_8 rfl (lv_at hl 0 rfl) ?_
    refine lv_iload_n hx hb dX8_canAll_9 rfl (lv_at hl 2 rfl) ?_
    refine ro_i (D := D) (va_runS (As := [.int p0, .int p2]) (rest := []) ⟨hx, hb, hml, hown, hts⟩ ((m_canOne l D k st lo p0 p2) H.size) (va_cwS 2 hts (gS tw_1453 tw_1454 tw_87 tw_1455) rfl rfl rfl (by decide +kernel) ⟨Nat.le_of_ble_eq_true rfl, Nat.le_of_ble_eq_true rfl⟩) (pS hS hAlo hlo hP hK hDL hZ [] (by decide) rfl) rfl rfl hl.1 rfl (lv_room (Nat.le_of_ble_eq_true rfl)) dX8_canAll_10 ⟨Nat.le_of_ble_eq_true rfl, Nat.le_of_ble_eq_true rfl⟩) hS hA hP (fun r_3 H locs hw_3 hP hS => ?_)
    try dsimp only at hw_3
    refine lv_if_eq (tgt := 37) hx hb dX8_canAll_13 (by decide) (fun c_4 => ?_) (fun c_4 => ?_)
    · refine lv_iconst (v := 0) hx hb dX8_canAll_37 (by decide) ?_
      refine lv_istore (lv' := [(5, .int 0), (0, .int p0), (1, .int p1), (2, .int p2), (3, .int p3), (4, .int p4)]) hx hb dX8_canAll_38 hl (by decide) rfl (fun ls hl => ?_)
      refine lv_iload hx hb dX8_canAll_40 (lv_at hl 0 rfl) ?_
      refine lv_if_eq (tgt := 100) hx hb dX8_canAll_42 (by decide) (fun _ => ?_) (fun h => absurd (by decide) h)
      refine lv_iconst (v := 0) hx hb dX8_canAll_100 (by decide) ?_
      exact W.zret (v := 0) (ty := .boolean) hx hb hr rfl (fun t ht hW => ⟨⟨0, (), rfl, .inr rfl, trivial⟩, hS.F ht⟩) hS.2.2 dX8_canAll_101
    · refine lv_iload_n hx hb dX8_canAll_16 rfl (lv_at hl 0 rfl) ?_
      refine lv_iload_n hx hb dX8_canAll_17 rfl (lv_at hl 3 rfl) ?_
      refine ro_i (D := D) (va_runS (As := [.int p0, .int p3]) (rest := []) ⟨hx, hb, hml, hown, hts⟩ ((m_canOne l D k st lo p0 p3) H.size) (va_cwS 2 hts (gS tw_1453 tw_1454 tw_87 tw_1455) rfl rfl rfl (by decide +kernel) ⟨Nat.le_of_ble_eq_true rfl, Nat.le_of_ble_eq_true rfl⟩) (pS hS hAlo hlo hP hK hDL hZ [] (by decide) rfl) rfl rfl hl.1 rfl (lv_room (Nat.le_of_ble_eq_true rfl)) dX8_canAll_18 ⟨Nat.le_of_ble_eq_true rfl, Nat.le_of_ble_eq_true rfl⟩) hS hA hP (fun r_5 H locs hw_5 hP hS => ?_)
      try dsimp only at hw_5
      refine lv_if_eq (tgt := 37) hx hb dX8_canAll_21 (by decide) (fun c_6 => ?_) (fun c_6 => ?_)
      · refine lv_iconst (v := 0) hx hb dX8_canAll_37 (by decide) ?_
        refine lv_istore (lv' := [(5, .int 0), (0, .int p0), (1, .int p1), (2, .int p2), (3, .int p3), (4, .int p4)]) hx hb dX8_canAll_38 hl (by decide) rfl (fun ls hl => ?_)
        refine lv_iload hx hb dX8_canAll_40 (lv_at hl 0 rfl) ?_
        refine lv_if_eq (tgt := 100) hx hb dX8_canAll_42 (by decide) (fun _ => ?_) (fun h => absurd (by decide) h)
        refine lv_iconst (v := 0) hx hb dX8_canAll_100 (by decide) ?_
        exact W.zret (v := 0) (ty := .boolean) hx hb hr rfl (fun t ht hW => ⟨⟨0, (), rfl, .inr rfl, trivial⟩, hS.F ht⟩) hS.2.2 dX8_canAll_101
      · refine lv_iload_n hx hb dX8_canAll_24 rfl (lv_at hl 0 rfl) ?_
        refine lv_iload hx hb dX8_canAll_25 (lv_at hl 4 rfl) ?_
        refine ro_i (D := D) (va_runS (As := [.int p0, .int p4]) (rest := []) ⟨hx, hb, hml, hown, hts⟩ ((m_canOne l D k st lo p0 p4) H.size) (va_cwS 2 hts (gS tw_1453 tw_1454 tw_87 tw_1455) rfl rfl rfl (by decide +kernel) ⟨Nat.le_of_ble_eq_true rfl, Nat.le_of_ble_eq_true rfl⟩) (pS hS hAlo hlo hP hK hDL hZ [] (by decide) rfl) rfl rfl hl.1 rfl (lv_room (Nat.le_of_ble_eq_true rfl)) dX8_canAll_27 ⟨Nat.le_of_ble_eq_true rfl, Nat.le_of_ble_eq_true rfl⟩) hS hA hP (fun r_7 H locs hw_7 hP hS => ?_)
        try dsimp only at hw_7
        refine lv_if_eq (tgt := 37) hx hb dX8_canAll_30 (by decide) (fun c_8 => ?_) (fun c_8 => ?_)
        · refine lv_iconst (v := 0) hx hb dX8_canAll_37 (by decide) ?_
          refine lv_istore (lv' := [(5, .int 0), (0, .int p0), (1, .int p1), (2, .int p2), (3, .int p3), (4, .int p4)]) hx hb dX8_canAll_38 hl (by decide) rfl (fun ls hl => ?_)
          refine lv_iload hx hb dX8_canAll_40 (lv_at hl 0 rfl) ?_
          refine lv_if_eq (tgt := 100) hx hb dX8_canAll_42 (by decide) (fun _ => ?_) (fun h => absurd (by decide) h)
          refine lv_iconst (v := 0) hx hb dX8_canAll_100 (by decide) ?_
          exact W.zret (v := 0) (ty := .boolean) hx hb hr rfl (fun t ht hW => ⟨⟨0, (), rfl, .inr rfl, trivial⟩, hS.F ht⟩) hS.2.2 dX8_canAll_101
        · refine lv_iconst (v := 1) hx hb dX8_canAll_33 (by decide) ?_
          refine lv_goto (tgt := 38) hx hb dX8_canAll_34 (by decide) ?_
          refine lv_istore (lv' := [(5, .int 1), (0, .int p0), (1, .int p1), (2, .int p2), (3, .int p3), (4, .int p4)]) hx hb dX8_canAll_38 hl (by decide) rfl (fun ls hl => ?_)
          refine lv_iload hx hb dX8_canAll_40 (lv_at hl 0 rfl) ?_
          refine lv_if_eq (tgt := 100) hx hb dX8_canAll_42 (by decide) (fun h => absurd h (by decide)) (fun _ => ?_)
          refine lv_iload_n hx hb dX8_canAll_45 rfl (lv_at hl 2 rfl) ?_
          refine lv_iload_n hx hb dX8_canAll_46 rfl (lv_at hl 3 rfl) ?_
          refine ro_i (D := D) (va_runS (As := [.int p1, .int p2]) (rest := []) ⟨hx, hb, hml, hown, hts⟩ ((m_areApart l D k st lo p1 p2) H.size) (va_cwS 2 hts (gS tw_1456 tw_1457 tw_87 tw_1458) rfl rfl rfl (by decide +kernel) ⟨Nat.le_of_ble_eq_true rfl, Nat.le_of_ble_eq_true rfl⟩) (pS hS hAlo hlo hP hK hDL hZ [] (by decide) rfl) rfl rfl hl.1 rfl (lv_room (Nat.le_of_ble_eq_true rfl)) dX8_canAll_47 ⟨Nat.le_of_ble_eq_true rfl, Nat.le_of_ble_eq_true rfl⟩) hS hA hP (fun r_9 H locs hw_9 hP hS => ?_)
          try dsimp only at hw_9
          refine lv_if_eq (tgt := 100) hx hb dX8_canAll_50 (by decide) (fun c_10 => ?_) (fun c_10 => ?_)
          · refine lv_iconst (v := 0) hx hb dX8_canAll_100 (by decide) ?_
            exact W.zret (v := 0) (ty := .boolean) hx hb hr rfl (fun t ht hW => ⟨⟨0, (), rfl, .inr rfl, trivial⟩, hS.F ht⟩) hS.2.2 dX8_canAll_101
          · refine lv_iload_n hx hb dX8_canAll_53 rfl (lv_at hl 2 rfl) ?_
            refine lv_iload_n hx hb dX8_canAll_54 rfl (lv_at hl 4 rfl) ?_
            refine ro_i (D := D) (va_runS (As := [.int p1, .int p3]) (rest := []) ⟨hx, hb, hml, hown, hts⟩ ((m_areApart l D k st lo p1 p3) H.size) (va_cwS 2 hts (gS tw_1456 tw_1457 tw_87 tw_1458) rfl rfl rfl (by decide +kernel) ⟨Nat.le_of_ble_eq_true rfl, Nat.le_of_ble_eq_true rfl⟩) (pS hS hAlo hlo hP hK hDL hZ [] (by decide) rfl) rfl rfl hl.1 rfl (lv_room (Nat.le_of_ble_eq_true rfl)) dX8_canAll_55 ⟨Nat.le_of_ble_eq_true rfl, Nat.le_of_ble_eq_true rfl⟩) hS hA hP (fun r_11 H locs hw_11 hP hS => ?_)
            try dsimp only at hw_11
            refine lv_if_eq (tgt := 100) hx hb dX8_canAll_58 (by decide) (fun c_12 => ?_) (fun c_12 => ?_)
            · refine lv_iconst (v := 0) hx hb dX8_canAll_100 (by decide) ?_
              exact W.zret (v := 0) (ty := .boolean) hx hb hr rfl (fun t ht hW => ⟨⟨0, (), rfl, .inr rfl, trivial⟩, hS.F ht⟩) hS.2.2 dX8_canAll_101
            · refine lv_iload_n hx hb dX8_canAll_61 rfl (lv_at hl 2 rfl) ?_
              refine lv_iload hx hb dX8_canAll_62 (lv_at hl 5 rfl) ?_
              refine ro_i (D := D) (va_runS (As := [.int p1, .int p4]) (rest := []) ⟨hx, hb, hml, hown, hts⟩ ((m_areApart l D k st lo p1 p4) H.size) (va_cwS 2 hts (gS tw_1456 tw_1457 tw_87 tw_1458) rfl rfl rfl (by decide +kernel) ⟨Nat.le_of_ble_eq_true rfl, Nat.le_of_ble_eq_true rfl⟩) (pS hS hAlo hlo hP hK hDL hZ [] (by decide) rfl) rfl rfl hl.1 rfl (lv_room (Nat.le_of_ble_eq_true rfl)) dX8_canAll_64 ⟨Nat.le_of_ble_eq_true rfl, Nat.le_of_ble_eq_true rfl⟩) hS hA hP (fun r_13 H locs hw_13 hP hS => ?_)
              try dsimp only at hw_13
              refine lv_if_eq (tgt := 100) hx hb dX8_canAll_67 (by decide) (fun c_14 => ?_) (fun c_14 => ?_)
              · refine lv_iconst (v := 0) hx hb dX8_canAll_100 (by decide) ?_
                exact W.zret (v := 0) (ty := .boolean) hx hb hr rfl (fun t ht hW => ⟨⟨0, (), rfl, .inr rfl, trivial⟩, hS.F ht⟩) hS.2.2 dX8_canAll_101
              · refine lv_iload_n hx hb dX8_canAll_70 rfl (lv_at hl 3 rfl) ?_
                refine lv_iload_n hx hb dX8_canAll_71 rfl (lv_at hl 4 rfl) ?_
                refine ro_i (D := D) (va_runS (As := [.int p2, .int p3]) (rest := []) ⟨hx, hb, hml, hown, hts⟩ ((m_areApart l D k st lo p2 p3) H.size) (va_cwS 2 hts (gS tw_1456 tw_1457 tw_87 tw_1458) rfl rfl rfl (by decide +kernel) ⟨Nat.le_of_ble_eq_true rfl, Nat.le_of_ble_eq_true rfl⟩) (pS hS hAlo hlo hP hK hDL hZ [] (by decide) rfl) rfl rfl hl.1 rfl (lv_room (Nat.le_of_ble_eq_true rfl)) dX8_canAll_72 ⟨Nat.le_of_ble_eq_true rfl, Nat.le_of_ble_eq_true rfl⟩) hS hA hP (fun r_15 H locs hw_15 hP hS => ?_)
                try dsimp only at hw_15
                refine lv_if_eq (tgt := 100) hx hb dX8_canAll_75 (by decide) (fun c_16 => ?_) (fun c_16 => ?_)
                · refine lv_iconst (v := 0) hx hb dX8_canAll_100 (by decide) ?_
                  exact W.zret (v := 0) (ty := .boolean) hx hb hr rfl (fun t ht hW => ⟨⟨0, (), rfl, .inr rfl, trivial⟩, hS.F ht⟩) hS.2.2 dX8_canAll_101
                · refine lv_iload_n hx hb dX8_canAll_78 rfl (lv_at hl 3 rfl) ?_
                  refine lv_iload hx hb dX8_canAll_79 (lv_at hl 5 rfl) ?_
                  refine ro_i (D := D) (va_runS (As := [.int p2, .int p4]) (rest := []) ⟨hx, hb, hml, hown, hts⟩ ((m_areApart l D k st lo p2 p4) H.size) (va_cwS 2 hts (gS tw_1456 tw_1457 tw_87 tw_1458) rfl rfl rfl (by decide +kernel) ⟨Nat.le_of_ble_eq_true rfl, Nat.le_of_ble_eq_true rfl⟩) (pS hS hAlo hlo hP hK hDL hZ [] (by decide) rfl) rfl rfl hl.1 rfl (lv_room (Nat.le_of_ble_eq_true rfl)) dX8_canAll_81 ⟨Nat.le_of_ble_eq_true rfl, Nat.le_of_ble_eq_true rfl⟩) hS hA hP (fun r_17 H locs hw_17 hP hS => ?_)
                  try dsimp only at hw_17
                  refine lv_if_eq (tgt := 100) hx hb dX8_canAll_84 (by decide) (fun c_18 => ?_) (fun c_18 => ?_)
                  · refine lv_iconst (v := 0) hx hb dX8_canAll_100 (by decide) ?_
                    exact W.zret (v := 0) (ty := .boolean) hx hb hr rfl (fun t ht hW => ⟨⟨0, (), rfl, .inr rfl, trivial⟩, hS.F ht⟩) hS.2.2 dX8_canAll_101
                  · refine lv_iload_n hx hb dX8_canAll_87 rfl (lv_at hl 4 rfl) ?_
                    refine lv_iload hx hb dX8_canAll_88 (lv_at hl 5 rfl) ?_
                    refine ro_i (D := D) (va_runS (As := [.int p3, .int p4]) (rest := []) ⟨hx, hb, hml, hown, hts⟩ ((m_areApart l D k st lo p3 p4) H.size) (va_cwS 2 hts (gS tw_1456 tw_1457 tw_87 tw_1458) rfl rfl rfl (by decide +kernel) ⟨Nat.le_of_ble_eq_true rfl, Nat.le_of_ble_eq_true rfl⟩) (pS hS hAlo hlo hP hK hDL hZ [] (by decide) rfl) rfl rfl hl.1 rfl (lv_room (Nat.le_of_ble_eq_true rfl)) dX8_canAll_90 ⟨Nat.le_of_ble_eq_true rfl, Nat.le_of_ble_eq_true rfl⟩) hS hA hP (fun r_19 H locs hw_19 hP hS => ?_)
                    try dsimp only at hw_19
                    refine lv_if_eq (tgt := 100) hx hb dX8_canAll_93 (by decide) (fun c_20 => ?_) (fun c_20 => ?_)
                    · refine lv_iconst (v := 0) hx hb dX8_canAll_100 (by decide) ?_
                      exact W.zret (v := 0) (ty := .boolean) hx hb hr rfl (fun t ht hW => ⟨⟨0, (), rfl, .inr rfl, trivial⟩, hS.F ht⟩) hS.2.2 dX8_canAll_101
                    · refine lv_iconst (v := 1) hx hb dX8_canAll_96 (by decide) ?_
                      refine lv_goto (tgt := 101) hx hb dX8_canAll_97 (by decide) ?_
                      exact W.zret (v := 1) (ty := .boolean) hx hb hr rfl (fun t ht hW => ⟨⟨1, (), rfl, .inl rfl, trivial⟩, hS.F ht⟩) hS.2.2 dX8_canAll_101

theorem dX8_sumAll_0 : decode cX8_sumAll 0 = .ok (.aload_n 0, 1) := by decide +kernel
theorem dX8_sumAll_1 : decode cX8_sumAll 1 = .ok (.getfield 315, 3) := by decide +kernel
theorem dX8_sumAll_4 : decode cX8_sumAll 4 = .ok (.ifCond .le 13, 3) := by decide +kernel
theorem dX8_sumAll_7 : decode cX8_sumAll 7 = .ok (.aload_n 0, 1) := by decide +kernel
theorem dX8_sumAll_8 : decode cX8_sumAll 8 = .ok (.iload_n 1, 1) := by decide +kernel
theorem dX8_sumAll_9 : decode cX8_sumAll 9 = .ok (.iconst 0, 1) := by decide +kernel
theorem dX8_sumAll_10 : decode cX8_sumAll 10 = .ok (.iload_n 2, 1) := by decide +kernel
theorem dX8_sumAll_11 : decode cX8_sumAll 11 = .ok (.invokevirtual 330, 3) := by decide +kernel
theorem dX8_sumAll_14 : decode cX8_sumAll 14 = .ok (.goto 4, 3) := by decide +kernel
theorem dX8_sumAll_17 : decode cX8_sumAll 17 = .ok (.iconst 0, 1) := by decide +kernel
theorem dX8_sumAll_18 : decode cX8_sumAll 18 = .ok (.istore 6, 2) := by decide +kernel
theorem dX8_sumAll_20 : decode cX8_sumAll 20 = .ok (.iload 6, 2) := by decide +kernel
theorem dX8_sumAll_22 : decode cX8_sumAll 22 = .ok (.aload_n 0, 1) := by decide +kernel
theorem dX8_sumAll_23 : decode cX8_sumAll 23 = .ok (.getfield 315, 3) := by decide +kernel
theorem dX8_sumAll_26 : decode cX8_sumAll 26 = .ok (.iconst 1, 1) := by decide +kernel
theorem dX8_sumAll_27 : decode cX8_sumAll 27 = .ok (.if_icmp .le 13, 3) := by decide +kernel
theorem dX8_sumAll_30 : decode cX8_sumAll 30 = .ok (.aload_n 0, 1) := by decide +kernel
theorem dX8_sumAll_31 : decode cX8_sumAll 31 = .ok (.iload_n 1, 1) := by decide +kernel
theorem dX8_sumAll_32 : decode cX8_sumAll 32 = .ok (.iconst 1, 1) := by decide +kernel
theorem dX8_sumAll_33 : decode cX8_sumAll 33 = .ok (.iload_n 3, 1) := by decide +kernel
theorem dX8_sumAll_34 : decode cX8_sumAll 34 = .ok (.invokevirtual 330, 3) := by decide +kernel
theorem dX8_sumAll_37 : decode cX8_sumAll 37 = .ok (.goto 4, 3) := by decide +kernel
theorem dX8_sumAll_40 : decode cX8_sumAll 40 = .ok (.iconst 0, 1) := by decide +kernel
theorem dX8_sumAll_41 : decode cX8_sumAll 41 = .ok (.iadd, 1) := by decide +kernel
theorem dX8_sumAll_42 : decode cX8_sumAll 42 = .ok (.istore 6, 2) := by decide +kernel
theorem dX8_sumAll_44 : decode cX8_sumAll 44 = .ok (.iload 6, 2) := by decide +kernel
theorem dX8_sumAll_46 : decode cX8_sumAll 46 = .ok (.aload_n 0, 1) := by decide +kernel
theorem dX8_sumAll_47 : decode cX8_sumAll 47 = .ok (.getfield 315, 3) := by decide +kernel
theorem dX8_sumAll_50 : decode cX8_sumAll 50 = .ok (.iconst 2, 1) := by decide +kernel
theorem dX8_sumAll_51 : decode cX8_sumAll 51 = .ok (.if_icmp .le 14, 3) := by decide +kernel
theorem dX8_sumAll_54 : decode cX8_sumAll 54 = .ok (.aload_n 0, 1) := by decide +kernel
theorem dX8_sumAll_55 : decode cX8_sumAll 55 = .ok (.iload_n 1, 1) := by decide +kernel
theorem dX8_sumAll_56 : decode cX8_sumAll 56 = .ok (.iconst 2, 1) := by decide +kernel
theorem dX8_sumAll_57 : decode cX8_sumAll 57 = .ok (.iload 4, 2) := by decide +kernel
theorem dX8_sumAll_59 : decode cX8_sumAll 59 = .ok (.invokevirtual 330, 3) := by decide +kernel
theorem dX8_sumAll_62 : decode cX8_sumAll 62 = .ok (.goto 4, 3) := by decide +kernel
theorem dX8_sumAll_65 : decode cX8_sumAll 65 = .ok (.iconst 0, 1) := by decide +kernel
theorem dX8_sumAll_66 : decode cX8_sumAll 66 = .ok (.iadd, 1) := by decide +kernel
theorem dX8_sumAll_67 : decode cX8_sumAll 67 = .ok (.istore 6, 2) := by decide +kernel
theorem dX8_sumAll_69 : decode cX8_sumAll 69 = .ok (.iload 6, 2) := by decide +kernel
theorem dX8_sumAll_71 : decode cX8_sumAll 71 = .ok (.aload_n 0, 1) := by decide +kernel
theorem dX8_sumAll_72 : decode cX8_sumAll 72 = .ok (.getfield 315, 3) := by decide +kernel
theorem dX8_sumAll_75 : decode cX8_sumAll 75 = .ok (.iconst 3, 1) := by decide +kernel
theorem dX8_sumAll_76 : decode cX8_sumAll 76 = .ok (.if_icmp .le 14, 3) := by decide +kernel
theorem dX8_sumAll_79 : decode cX8_sumAll 79 = .ok (.aload_n 0, 1) := by decide +kernel
theorem dX8_sumAll_80 : decode cX8_sumAll 80 = .ok (.iload_n 1, 1) := by decide +kernel
theorem dX8_sumAll_81 : decode cX8_sumAll 81 = .ok (.iconst 3, 1) := by decide +kernel
theorem dX8_sumAll_82 : decode cX8_sumAll 82 = .ok (.iload 5, 2) := by decide +kernel
theorem dX8_sumAll_84 : decode cX8_sumAll 84 = .ok (.invokevirtual 330, 3) := by decide +kernel
theorem dX8_sumAll_87 : decode cX8_sumAll 87 = .ok (.goto 4, 3) := by decide +kernel
theorem dX8_sumAll_90 : decode cX8_sumAll 90 = .ok (.iconst 0, 1) := by decide +kernel
theorem dX8_sumAll_91 : decode cX8_sumAll 91 = .ok (.iadd, 1) := by decide +kernel
theorem dX8_sumAll_92 : decode cX8_sumAll 92 = .ok (.ireturn, 1) := by decide +kernel
set_option maxHeartbeats 4000000 in
set_option maxRecDepth 100000 in
theorem m_sumAll (l : Launch) (D : va_G) (k : Nat → ClassId) (st : Nat → Nat) (lo : Nat) (a : Nat → Nat) (tx : Nat) (t0 : Nat) (we : Nat) (rd : Nat) (ru : Nat) (rw : Nat) (ca : Nat) (fp : Int32) (wd : Int64) (nu : Int32) (na : Int32) (ts : Int32) (df : Int32) (db : Int32) (sd : Int32) (dn : Nat → Nat) (se : Nat → Nat) (tm : Nat → Nat) (gs : Nat → Int32) (fprices : Nat → Int32) (fwalks : Nat → Int32) (sn : Nat) (qa : Int32) (qb : Int32) (qc : Int32) (qd : Int32) (hca : ca ≤ 4) (hs : sn < 3) (hqa : qa < 0 ∨ ∃ d : Nat, d < 24 ∧ qa = nI d) (hqb : qb < 0 ∨ ∃ d : Nat, d < 24 ∧ qb = nI d) (hqc : qc < 0 ∨ ∃ d : Nat, d < 24 ∧ qc = nI d) (hqd : qd < 0 ∨ ∃ d : Nat, d < 24 ∧ qd = nI d) : CRi l D k st lo yX8_sumAll cX8_sumAll 7 (some .int) ({ frames := 4, cells := 0, slots := 0, locals := 94 }) [.ref (a 0), .int (nI sn), .int qa, .int qb, .int qc, .int qd] [((a 0), .inr (8, (fX8 a (nI tx) fp (nI t0) wd (nI we) nu na (nI rd) ts (nI ru) (nI rw) (nI ca) df db sd))), (aI k (a 1) 3 (nF dn)), (aI k (a 4) 27 (sg se tm gs)), (aI k (a 3) 72 fprices), (aI k (a 36) 4 fwalks)] (fun r => True) := by
  intro sz
  refine Met.ofW (cc := cX8_sumAll) (maxL := 7) (ret := (some .int)) (by decide) rfl ?_
  intro p e s m args below meth c s₁ B hml hv
  obtain ⟨rfl, hsz, hlo, hP, hK, hDL, hZ⟩ := hv
  have hx := B.exec
  have hb := B.bytes
  have hr := B.returns
  have hts := WS_ts B.pre
  have hown : s.vm.findClass RX8 = some m.cls := findClass_of_methodNamed B.named
  have hlocks := B.notSynchronized
  subst hsz
  have hA : ∀ q : Nat, s.heap.size ≤ q → (fun q : Nat => s.heap.size ≤ q) q := fun _ h => h
  have hAlo : ∀ q : Nat, (fun q : Nat => s.heap.size ≤ q) q → lo ≤ q := fun q h => Nat.le_trans hlo h
  have hS : va_S (fun q : Nat => s.heap.size ≤ q) s.heap s.heap [] := va_S.rf
  have hl := lv_entry ([.ref (a 0), .int (nI sn), .int qa, .int qb, .int qc, .int qd]) (n := 7) (Nat.le_of_ble_eq_true rfl)
  rw [lg_entry_eq]
  generalize (lg_sl ([.ref (a 0), .int (nI sn), .int qa, .int qb, .int qc, .int qd]) ++ List.replicate (7 - (lg_sl ([.ref (a 0), .int (nI sn), .int qa, .int qb, .int qc, .int qd])).length) Slot.unset).toArray = ls at hl ⊢
  have hl : lv_has ls 7 [(0, .ref (a 0)), (1, .int (nI sn)), (2, .int qa), (3, .int qb), (4, .int qc), (5, .int qd)] := hl
  refine lv_aload_n hx hb dX8_sumAll_0 rfl (lv_at hl 0 rfl) ?_
  refine va_get (D := D) (ci := 8) (v := .int (nI ca)) (C := RX8) (T := TX8) (N := 44) hx hb hts inX8 hown hK hP 0 rfl rfl 34 (by decide) (hts _ tw_1007) (fun _ h9 => h9) rfl dX8_sumAll_1 ?_
  refine lv_if_le (tgt := 17) hx hb dX8_sumAll_4 (by decide) (fun c_1 => ?_) (fun c_1 => ?_)
  · have c_1 := (nI_leI (a := ca) (b := 0) (by omega) (by omega)).mp c_1
    refine lv_iconst (v := 0) hx hb dX8_sumAll_17 (by decide) ?_
    refine lv_istore (lv' := [(6, .int 0), (0, .ref (a 0)), (1, .int (nI sn)), (2, .int qa), (3, .int qb), (4, .int qc), (5, .int qd)]) hx hb dX8_sumAll_18 hl (by decide) rfl (fun ls hl => ?_)
    refine lv_iload hx hb dX8_sumAll_20 (lv_at hl 0 rfl) ?_
    refine lv_aload_n hx hb dX8_sumAll_22 rfl (lv_at hl 1 rfl) ?_
    refine va_get (D := D) (ci := 8) (v := .int (nI ca)) (C := RX8) (T := TX8) (N := 44) hx hb hts inX8 hown hK hP 0 rfl rfl 34 (by decide) (hts _ tw_1007) (fun _ h9 => h9) rfl dX8_sumAll_23 ?_
    refine lv_iconst (v := 1) hx hb dX8_sumAll_26 (by decide) ?_
    refine lv_icmp_le (tgt := 40) hx hb dX8_sumAll_27 (by decide) (fun _ => ?_) (fun h => absurd ((nI_leI (a := ca) (b := 1) (by omega) (by omega)).mpr (by omega)) h)
    refine lv_iconst (v := 0) hx hb dX8_sumAll_40 (by decide) ?_
    refine lv_iadd hx hb dX8_sumAll_41 ?_
    refine lv_ti (y := 0) (by decide) ?_
    refine lv_istore (lv' := [(6, .int 0), (0, .ref (a 0)), (1, .int (nI sn)), (2, .int qa), (3, .int qb), (4, .int qc), (5, .int qd)]) hx hb dX8_sumAll_42 hl (by decide) rfl (fun ls hl => ?_)
    refine lv_iload hx hb dX8_sumAll_44 (lv_at hl 0 rfl) ?_
    refine lv_aload_n hx hb dX8_sumAll_46 rfl (lv_at hl 1 rfl) ?_
    refine va_get (D := D) (ci := 8) (v := .int (nI ca)) (C := RX8) (T := TX8) (N := 44) hx hb hts inX8 hown hK hP 0 rfl rfl 34 (by decide) (hts _ tw_1007) (fun _ h9 => h9) rfl dX8_sumAll_47 ?_
    refine lv_iconst (v := 2) hx hb dX8_sumAll_50 (by decide) ?_
    refine lv_icmp_le (tgt := 65) hx hb dX8_sumAll_51 (by decide) (fun _ => ?_) (fun h => absurd ((nI_leI (a := ca) (b := 2) (by omega) (by omega)).mpr (by omega)) h)
    refine lv_iconst (v := 0) hx hb dX8_sumAll_65 (by decide) ?_
    refine lv_iadd hx hb dX8_sumAll_66 ?_
    refine lv_ti (y := 0) (by decide) ?_
    refine lv_istore (lv' := [(6, .int 0), (0, .ref (a 0)), (1, .int (nI sn)), (2, .int qa), (3, .int qb), (4, .int qc), (5, .int qd)]) hx hb dX8_sumAll_67 hl (by decide) rfl (fun ls hl => ?_)
    refine lv_iload hx hb dX8_sumAll_69 (lv_at hl 0 rfl) ?_
    refine lv_aload_n hx hb dX8_sumAll_71 rfl (lv_at hl 1 rfl) ?_
    refine va_get (D := D) (ci := 8) (v := .int (nI ca)) (C := RX8) (T := TX8) (N := 44) hx hb hts inX8 hown hK hP 0 rfl rfl 34 (by decide) (hts _ tw_1007) (fun _ h9 => h9) rfl dX8_sumAll_72 ?_
    refine lv_iconst (v := 3) hx hb dX8_sumAll_75 (by decide) ?_
    refine lv_icmp_le (tgt := 90) hx hb dX8_sumAll_76 (by decide) (fun _ => ?_) (fun h => absurd ((nI_leI (a := ca) (b := 3) (by omega) (by omega)).mpr (by omega)) h)
    refine lv_iconst (v := 0) hx hb dX8_sumAll_90 (by decide) ?_
    refine lv_iadd hx hb dX8_sumAll_91 ?_
    refine lv_ti (y := 0) (by decide) ?_
    exact W.iret (v := 0) hx hb hr (fun t ht hW => ⟨⟨0, (), rfl, trivial, trivial⟩, hS.F ht⟩) hS.2.2 dX8_sumAll_92
  · have c_1 : ¬ (ca ≤ 0) := fun h => c_1 ((nI_leI (a := ca) (b := 0) (by omega) (by omega)).mpr h)
    refine lv_aload_n hx hb dX8_sumAll_7 rfl (lv_at hl 0 rfl) ?_
    refine lv_iload_n hx hb dX8_sumAll_8 rfl (lv_at hl 1 rfl) ?_
    refine lv_iconst (v := 0) hx hb dX8_sumAll_9 (by decide) ?_
    refine lv_iload_n hx hb dX8_sumAll_10 rfl (lv_at hl 2 rfl) ?_
    refine ro_i (D := D) (va_runV (As := [.int (nI sn), .int 0, .int qa]) (rest := []) ⟨hx, hb, hml, hown, hts⟩ ((m_costAt l D k st lo a tx t0 we rd ru rw ca fp wd nu na ts df db sd dn se tm gs fprices fwalks sn 0 qa (by first | assumption | omega) (by first | assumption | omega) hqa) s.heap.size) (cwV 3 hts (gV tw_1402 tw_1404 tw_67 tw_87 tw_1405) rfl rfl rfl (by decide +kernel) ⟨Nat.le_of_ble_eq_true rfl, Nat.le_of_ble_eq_true rfl⟩) (pV hS hAlo hlo hP hK hDL hZ [0, 1, 2, 3, 4] (by decide) rfl (ci := 8) (q := (RX8, TX8, 44)) (q0 := 0) rfl rfl) rfl rfl hl.1 rfl (lv_room (Nat.le_of_ble_eq_true rfl)) dX8_sumAll_11 ⟨Nat.le_of_ble_eq_true rfl, Nat.le_of_ble_eq_true rfl⟩) hS hA hP (fun r_5 H locs hw_5 hP hS => ?_)
    try dsimp only at hw_5
    refine lv_goto (tgt := 18) hx hb dX8_sumAll_14 (by decide) ?_
    refine lv_istore (lv' := [(6, .int r_5), (0, .ref (a 0)), (1, .int (nI sn)), (2, .int qa), (3, .int qb), (4, .int qc), (5, .int qd)]) hx hb dX8_sumAll_18 hl (by decide) rfl (fun ls hl => ?_)
    refine lv_iload hx hb dX8_sumAll_20 (lv_at hl 0 rfl) ?_
    refine lv_aload_n hx hb dX8_sumAll_22 rfl (lv_at hl 1 rfl) ?_
    refine va_get (D := D) (ci := 8) (v := .int (nI ca)) (C := RX8) (T := TX8) (N := 44) hx hb hts inX8 hown hK hP 0 rfl rfl 34 (by decide) (hts _ tw_1007) (fun _ h9 => h9) rfl dX8_sumAll_23 ?_
    refine lv_iconst (v := 1) hx hb dX8_sumAll_26 (by decide) ?_
    refine lv_icmp_le (tgt := 40) hx hb dX8_sumAll_27 (by decide) (fun c_6 => ?_) (fun c_6 => ?_)
    · have c_6 := (nI_leI (a := ca) (b := 1) (by omega) (by omega)).mp c_6
      refine lv_iconst (v := 0) hx hb dX8_sumAll_40 (by decide) ?_
      refine lv_iadd hx hb dX8_sumAll_41 ?_
      refine lv_topi (fun x_7 ex_7 => ?_)
      refine lv_istore (lv' := [(6, .int x_7), (0, .ref (a 0)), (1, .int (nI sn)), (2, .int qa), (3, .int qb), (4, .int qc), (5, .int qd)]) hx hb dX8_sumAll_42 hl (by decide) rfl (fun ls hl => ?_)
      refine lv_iload hx hb dX8_sumAll_44 (lv_at hl 0 rfl) ?_
      refine lv_aload_n hx hb dX8_sumAll_46 rfl (lv_at hl 1 rfl) ?_
      refine va_get (D := D) (ci := 8) (v := .int (nI ca)) (C := RX8) (T := TX8) (N := 44) hx hb hts inX8 hown hK hP 0 rfl rfl 34 (by decide) (hts _ tw_1007) (fun _ h9 => h9) rfl dX8_sumAll_47 ?_
      refine lv_iconst (v := 2) hx hb dX8_sumAll_50 (by decide) ?_
      refine lv_icmp_le (tgt := 65) hx hb dX8_sumAll_51 (by decide) (fun c_8 => ?_) (fun c_8 => ?_)
      · have c_8 := (nI_leI (a := ca) (b := 2) (by omega) (by omega)).mp c_8
        refine lv_iconst (v := 0) hx hb dX8_sumAll_65 (by decide) ?_
        refine lv_iadd hx hb dX8_sumAll_66 ?_
        refine lv_topi (fun x_9 ex_9 => ?_)
        refine lv_istore (lv' := [(6, .int x_9), (0, .ref (a 0)), (1, .int (nI sn)), (2, .int qa), (3, .int qb), (4, .int qc), (5, .int qd)]) hx hb dX8_sumAll_67 hl (by decide) rfl (fun ls hl => ?_)
        refine lv_iload hx hb dX8_sumAll_69 (lv_at hl 0 rfl) ?_
        refine lv_aload_n hx hb dX8_sumAll_71 rfl (lv_at hl 1 rfl) ?_
        refine va_get (D := D) (ci := 8) (v := .int (nI ca)) (C := RX8) (T := TX8) (N := 44) hx hb hts inX8 hown hK hP 0 rfl rfl 34 (by decide) (hts _ tw_1007) (fun _ h9 => h9) rfl dX8_sumAll_72 ?_
        refine lv_iconst (v := 3) hx hb dX8_sumAll_75 (by decide) ?_
        refine lv_icmp_le (tgt := 90) hx hb dX8_sumAll_76 (by decide) (fun c_10 => ?_) (fun c_10 => ?_)
        · have c_10 := (nI_leI (a := ca) (b := 3) (by omega) (by omega)).mp c_10
          refine lv_iconst (v := 0) hx hb dX8_sumAll_90 (by decide) ?_
          refine lv_iadd hx hb dX8_sumAll_91 ?_
          refine lv_topi (fun x_11 ex_11 => ?_)
          exact W.iret (v := x_11) hx hb hr (fun t ht hW => ⟨⟨x_11, (), rfl, trivial, trivial⟩, hS.F ht⟩) hS.2.2 dX8_sumAll_92
        · have c_10 : ¬ (ca ≤ 3) := fun h => c_10 ((nI_leI (a := ca) (b := 3) (by omega) (by omega)).mpr h)
          refine lv_aload_n hx hb dX8_sumAll_79 rfl (lv_at hl 1 rfl) ?_
          refine lv_iload_n hx hb dX8_sumAll_80 rfl (lv_at hl 2 rfl) ?_
          refine lv_iconst (v := 3) hx hb dX8_sumAll_81 (by decide) ?_
          refine lv_iload hx hb dX8_sumAll_82 (lv_at hl 6 rfl) ?_
          refine ro_i (D := D) (va_runV (As := [.int (nI sn), .int 3, .int qd]) (rest := [.int x_9]) ⟨hx, hb, hml, hown, hts⟩ ((m_costAt l D k st lo a tx t0 we rd ru rw ca fp wd nu na ts df db sd dn se tm gs fprices fwalks sn 3 qd (by first | assumption | omega) (by first | assumption | omega) hqd) H.size) (cwV 3 hts (gV tw_1402 tw_1404 tw_67 tw_87 tw_1405) rfl rfl rfl (by decide +kernel) ⟨Nat.le_of_ble_eq_true rfl, Nat.le_of_ble_eq_true rfl⟩) (pV hS hAlo hlo hP hK hDL hZ [0, 1, 2, 3, 4] (by decide) rfl (ci := 8) (q := (RX8, TX8, 44)) (q0 := 0) rfl rfl) rfl rfl hl.1 rfl (lv_room (Nat.le_of_ble_eq_true rfl)) dX8_sumAll_84 ⟨Nat.le_of_ble_eq_true rfl, Nat.le_of_ble_eq_true rfl⟩) hS hA hP (fun r_12 H locs hw_12 hP hS => ?_)
          try dsimp only at hw_12
          refine lv_goto (tgt := 91) hx hb dX8_sumAll_87 (by decide) ?_
          refine lv_iadd hx hb dX8_sumAll_91 ?_
          refine lv_topi (fun x_13 ex_13 => ?_)
          exact W.iret (v := x_13) hx hb hr (fun t ht hW => ⟨⟨x_13, (), rfl, trivial, trivial⟩, hS.F ht⟩) hS.2.2 dX8_sumAll_92
      · have c_8 : ¬ (ca ≤ 2) := fun h => c_8 ((nI_leI (a := ca) (b := 2) (by omega) (by omega)).mpr h)
        refine lv_aload_n hx hb dX8_sumAll_54 rfl (lv_at hl 1 rfl) ?_
        refine lv_iload_n hx hb dX8_sumAll_55 rfl (lv_at hl 2 rfl) ?_
        refine lv_iconst (v := 2) hx hb dX8_sumAll_56 (by decide) ?_
        refine lv_iload hx hb dX8_sumAll_57 (lv_at hl 5 rfl) ?_
        refine ro_i (D := D) (va_runV (As := [.int (nI sn), .int 2, .int qc]) (rest := [.int x_7]) ⟨hx, hb, hml, hown, hts⟩ ((m_costAt l D k st lo a tx t0 we rd ru rw ca fp wd nu na ts df db sd dn se tm gs fprices fwalks sn 2 qc (by first | assumption | omega) (by first | assumption | omega) hqc) H.size) (cwV 3 hts (gV tw_1402 tw_1404 tw_67 tw_87 tw_1405) rfl rfl rfl (by decide +kernel) ⟨Nat.le_of_ble_eq_true rfl, Nat.le_of_ble_eq_true rfl⟩) (pV hS hAlo hlo hP hK hDL hZ [0, 1, 2, 3, 4] (by decide) rfl (ci := 8) (q := (RX8, TX8, 44)) (q0 := 0) rfl rfl) rfl rfl hl.1 rfl (lv_room (Nat.le_of_ble_eq_true rfl)) dX8_sumAll_59 ⟨Nat.le_of_ble_eq_true rfl, Nat.le_of_ble_eq_true rfl⟩) hS hA hP (fun r_14 H locs hw_14 hP hS => ?_)
        try dsimp only at hw_14
        refine lv_goto (tgt := 66) hx hb dX8_sumAll_62 (by decide) ?_
        refine lv_iadd hx hb dX8_sumAll_66 ?_
        refine lv_topi (fun x_15 ex_15 => ?_)
        refine lv_istore (lv' := [(6, .int x_15), (0, .ref (a 0)), (1, .int (nI sn)), (2, .int qa), (3, .int qb), (4, .int qc), (5, .int qd)]) hx hb dX8_sumAll_67 hl (by decide) rfl (fun ls hl => ?_)
        refine lv_iload hx hb dX8_sumAll_69 (lv_at hl 0 rfl) ?_
        refine lv_aload_n hx hb dX8_sumAll_71 rfl (lv_at hl 1 rfl) ?_
        refine va_get (D := D) (ci := 8) (v := .int (nI ca)) (C := RX8) (T := TX8) (N := 44) hx hb hts inX8 hown hK hP 0 rfl rfl 34 (by decide) (hts _ tw_1007) (fun _ h9 => h9) rfl dX8_sumAll_72 ?_
        refine lv_iconst (v := 3) hx hb dX8_sumAll_75 (by decide) ?_
        refine lv_icmp_le (tgt := 90) hx hb dX8_sumAll_76 (by decide) (fun c_16 => ?_) (fun c_16 => ?_)
        · have c_16 := (nI_leI (a := ca) (b := 3) (by omega) (by omega)).mp c_16
          refine lv_iconst (v := 0) hx hb dX8_sumAll_90 (by decide) ?_
          refine lv_iadd hx hb dX8_sumAll_91 ?_
          refine lv_topi (fun x_17 ex_17 => ?_)
          exact W.iret (v := x_17) hx hb hr (fun t ht hW => ⟨⟨x_17, (), rfl, trivial, trivial⟩, hS.F ht⟩) hS.2.2 dX8_sumAll_92
        · have c_16 : ¬ (ca ≤ 3) := fun h => c_16 ((nI_leI (a := ca) (b := 3) (by omega) (by omega)).mpr h)
          refine lv_aload_n hx hb dX8_sumAll_79 rfl (lv_at hl 1 rfl) ?_
          refine lv_iload_n hx hb dX8_sumAll_80 rfl (lv_at hl 2 rfl) ?_
          refine lv_iconst (v := 3) hx hb dX8_sumAll_81 (by decide) ?_
          refine lv_iload hx hb dX8_sumAll_82 (lv_at hl 6 rfl) ?_
          refine ro_i (D := D) (va_runV (As := [.int (nI sn), .int 3, .int qd]) (rest := [.int x_15]) ⟨hx, hb, hml, hown, hts⟩ ((m_costAt l D k st lo a tx t0 we rd ru rw ca fp wd nu na ts df db sd dn se tm gs fprices fwalks sn 3 qd (by first | assumption | omega) (by first | assumption | omega) hqd) H.size) (cwV 3 hts (gV tw_1402 tw_1404 tw_67 tw_87 tw_1405) rfl rfl rfl (by decide +kernel) ⟨Nat.le_of_ble_eq_true rfl, Nat.le_of_ble_eq_true rfl⟩) (pV hS hAlo hlo hP hK hDL hZ [0, 1, 2, 3, 4] (by decide) rfl (ci := 8) (q := (RX8, TX8, 44)) (q0 := 0) rfl rfl) rfl rfl hl.1 rfl (lv_room (Nat.le_of_ble_eq_true rfl)) dX8_sumAll_84 ⟨Nat.le_of_ble_eq_true rfl, Nat.le_of_ble_eq_true rfl⟩) hS hA hP (fun r_18 H locs hw_18 hP hS => ?_)
          try dsimp only at hw_18
          refine lv_goto (tgt := 91) hx hb dX8_sumAll_87 (by decide) ?_
          refine lv_iadd hx hb dX8_sumAll_91 ?_
          refine lv_topi (fun x_19 ex_19 => ?_)
          exact W.iret (v := x_19) hx hb hr (fun t ht hW => ⟨⟨x_19, (), rfl, trivial, trivial⟩, hS.F ht⟩) hS.2.2 dX8_sumAll_92
    · have c_6 : ¬ (ca ≤ 1) := fun h => c_6 ((nI_leI (a := ca) (b := 1) (by omega) (by omega)).mpr h)
      refine lv_aload_n hx hb dX8_sumAll_30 rfl (lv_at hl 1 rfl) ?_
      refine lv_iload_n hx hb dX8_sumAll_31 rfl (lv_at hl 2 rfl) ?_
      refine lv_iconst (v := 1) hx hb dX8_sumAll_32 (by decide) ?_
      refine lv_iload_n hx hb dX8_sumAll_33 rfl (lv_at hl 4 rfl) ?_
      refine ro_i (D := D) (va_runV (As := [.int (nI sn), .int 1, .int qb]) (rest := [.int r_5]) ⟨hx, hb, hml, hown, hts⟩ ((m_costAt l D k st lo a tx t0 we rd ru rw ca fp wd nu na ts df db sd dn se tm gs fprices fwalks sn 1 qb (by first | assumption | omega) (by first | assumption | omega) hqb) H.size) (cwV 3 hts (gV tw_1402 tw_1404 tw_67 tw_87 tw_1405) rfl rfl rfl (by decide +kernel) ⟨Nat.le_of_ble_eq_true rfl, Nat.le_of_ble_eq_true rfl⟩) (pV hS hAlo hlo hP hK hDL hZ [0, 1, 2, 3, 4] (by decide) rfl (ci := 8) (q := (RX8, TX8, 44)) (q0 := 0) rfl rfl) rfl rfl hl.1 rfl (lv_room (Nat.le_of_ble_eq_true rfl)) dX8_sumAll_34 ⟨Nat.le_of_ble_eq_true rfl, Nat.le_of_ble_eq_true rfl⟩) hS hA hP (fun r_20 H locs hw_20 hP hS => ?_)
      try dsimp only at hw_20
      refine lv_goto (tgt := 41) hx hb dX8_sumAll_37 (by decide) ?_
      refine lv_iadd hx hb dX8_sumAll_41 ?_
      refine lv_topi (fun x_21 ex_21 => ?_)
      refine lv_istore (lv' := [(6, .int x_21), (0, .ref (a 0)), (1, .int (nI sn)), (2, .int qa), (3, .int qb), (4, .int qc), (5, .int qd)]) hx hb dX8_sumAll_42 hl (by decide) rfl (fun ls hl => ?_)
      refine lv_iload hx hb dX8_sumAll_44 (lv_at hl 0 rfl) ?_
      refine lv_aload_n hx hb dX8_sumAll_46 rfl (lv_at hl 1 rfl) ?_
      refine va_get (D := D) (ci := 8) (v := .int (nI ca)) (C := RX8) (T := TX8) (N := 44) hx hb hts inX8 hown hK hP 0 rfl rfl 34 (by decide) (hts _ tw_1007) (fun _ h9 => h9) rfl dX8_sumAll_47 ?_
      refine lv_iconst (v := 2) hx hb dX8_sumAll_50 (by decide) ?_
      refine lv_icmp_le (tgt := 65) hx hb dX8_sumAll_51 (by decide) (fun c_22 => ?_) (fun c_22 => ?_)
      · have c_22 := (nI_leI (a := ca) (b := 2) (by omega) (by omega)).mp c_22
        refine lv_iconst (v := 0) hx hb dX8_sumAll_65 (by decide) ?_
        refine lv_iadd hx hb dX8_sumAll_66 ?_
        refine lv_topi (fun x_23 ex_23 => ?_)
        refine lv_istore (lv' := [(6, .int x_23), (0, .ref (a 0)), (1, .int (nI sn)), (2, .int qa), (3, .int qb), (4, .int qc), (5, .int qd)]) hx hb dX8_sumAll_67 hl (by decide) rfl (fun ls hl => ?_)
        refine lv_iload hx hb dX8_sumAll_69 (lv_at hl 0 rfl) ?_
        refine lv_aload_n hx hb dX8_sumAll_71 rfl (lv_at hl 1 rfl) ?_
        refine va_get (D := D) (ci := 8) (v := .int (nI ca)) (C := RX8) (T := TX8) (N := 44) hx hb hts inX8 hown hK hP 0 rfl rfl 34 (by decide) (hts _ tw_1007) (fun _ h9 => h9) rfl dX8_sumAll_72 ?_
        refine lv_iconst (v := 3) hx hb dX8_sumAll_75 (by decide) ?_
        refine lv_icmp_le (tgt := 90) hx hb dX8_sumAll_76 (by decide) (fun c_24 => ?_) (fun c_24 => ?_)
        · have c_24 := (nI_leI (a := ca) (b := 3) (by omega) (by omega)).mp c_24
          refine lv_iconst (v := 0) hx hb dX8_sumAll_90 (by decide) ?_
          refine lv_iadd hx hb dX8_sumAll_91 ?_
          refine lv_topi (fun x_25 ex_25 => ?_)
          exact W.iret (v := x_25) hx hb hr (fun t ht hW => ⟨⟨x_25, (), rfl, trivial, trivial⟩, hS.F ht⟩) hS.2.2 dX8_sumAll_92
        · have c_24 : ¬ (ca ≤ 3) := fun h => c_24 ((nI_leI (a := ca) (b := 3) (by omega) (by omega)).mpr h)
          refine lv_aload_n hx hb dX8_sumAll_79 rfl (lv_at hl 1 rfl) ?_
          refine lv_iload_n hx hb dX8_sumAll_80 rfl (lv_at hl 2 rfl) ?_
          refine lv_iconst (v := 3) hx hb dX8_sumAll_81 (by decide) ?_
          refine lv_iload hx hb dX8_sumAll_82 (lv_at hl 6 rfl) ?_
          refine ro_i (D := D) (va_runV (As := [.int (nI sn), .int 3, .int qd]) (rest := [.int x_23]) ⟨hx, hb, hml, hown, hts⟩ ((m_costAt l D k st lo a tx t0 we rd ru rw ca fp wd nu na ts df db sd dn se tm gs fprices fwalks sn 3 qd (by first | assumption | omega) (by first | assumption | omega) hqd) H.size) (cwV 3 hts (gV tw_1402 tw_1404 tw_67 tw_87 tw_1405) rfl rfl rfl (by decide +kernel) ⟨Nat.le_of_ble_eq_true rfl, Nat.le_of_ble_eq_true rfl⟩) (pV hS hAlo hlo hP hK hDL hZ [0, 1, 2, 3, 4] (by decide) rfl (ci := 8) (q := (RX8, TX8, 44)) (q0 := 0) rfl rfl) rfl rfl hl.1 rfl (lv_room (Nat.le_of_ble_eq_true rfl)) dX8_sumAll_84 ⟨Nat.le_of_ble_eq_true rfl, Nat.le_of_ble_eq_true rfl⟩) hS hA hP (fun r_26 H locs hw_26 hP hS => ?_)
          try dsimp only at hw_26
          refine lv_goto (tgt := 91) hx hb dX8_sumAll_87 (by decide) ?_
          refine lv_iadd hx hb dX8_sumAll_91 ?_
          refine lv_topi (fun x_27 ex_27 => ?_)
          exact W.iret (v := x_27) hx hb hr (fun t ht hW => ⟨⟨x_27, (), rfl, trivial, trivial⟩, hS.F ht⟩) hS.2.2 dX8_sumAll_92
      · have c_22 : ¬ (ca ≤ 2) := fun h => c_22 ((nI_leI (a := ca) (b := 2) (by omega) (by omega)).mpr h)
        refine lv_aload_n hx hb dX8_sumAll_54 rfl (lv_at hl 1 rfl) ?_
        refine lv_iload_n hx hb dX8_sumAll_55 rfl (lv_at hl 2 rfl) ?_
        refine lv_iconst (v := 2) hx hb dX8_sumAll_56 (by decide) ?_
        refine lv_iload hx hb dX8_sumAll_57 (lv_at hl 5 rfl) ?_
        refine ro_i (D := D) (va_runV (As := [.int (nI sn), .int 2, .int qc]) (rest := [.int x_21]) ⟨hx, hb, hml, hown, hts⟩ ((m_costAt l D k st lo a tx t0 we rd ru rw ca fp wd nu na ts df db sd dn se tm gs fprices fwalks sn 2 qc (by first | assumption | omega) (by first | assumption | omega) hqc) H.size) (cwV 3 hts (gV tw_1402 tw_1404 tw_67 tw_87 tw_1405) rfl rfl rfl (by decide +kernel) ⟨Nat.le_of_ble_eq_true rfl, Nat.le_of_ble_eq_true rfl⟩) (pV hS hAlo hlo hP hK hDL hZ [0, 1, 2, 3, 4] (by decide) rfl (ci := 8) (q := (RX8, TX8, 44)) (q0 := 0) rfl rfl) rfl rfl hl.1 rfl (lv_room (Nat.le_of_ble_eq_true rfl)) dX8_sumAll_59 ⟨Nat.le_of_ble_eq_true rfl, Nat.le_of_ble_eq_true rfl⟩) hS hA hP (fun r_28 H locs hw_28 hP hS => ?_)
        try dsimp only at hw_28
        refine lv_goto (tgt := 66) hx hb dX8_sumAll_62 (by decide) ?_
        refine lv_iadd hx hb dX8_sumAll_66 ?_
        refine lv_topi (fun x_29 ex_29 => ?_)
        refine lv_istore (lv' := [(6, .int x_29), (0, .ref (a 0)), (1, .int (nI sn)), (2, .int qa), (3, .int qb), (4, .int qc), (5, .int qd)]) hx hb dX8_sumAll_67 hl (by decide) rfl (fun ls hl => ?_)
        refine lv_iload hx hb dX8_sumAll_69 (lv_at hl 0 rfl) ?_
        refine lv_aload_n hx hb dX8_sumAll_71 rfl (lv_at hl 1 rfl) ?_
        refine va_get (D := D) (ci := 8) (v := .int (nI ca)) (C := RX8) (T := TX8) (N := 44) hx hb hts inX8 hown hK hP 0 rfl rfl 34 (by decide) (hts _ tw_1007) (fun _ h9 => h9) rfl dX8_sumAll_72 ?_
        refine lv_iconst (v := 3) hx hb dX8_sumAll_75 (by decide) ?_
        refine lv_icmp_le (tgt := 90) hx hb dX8_sumAll_76 (by decide) (fun c_30 => ?_) (fun c_30 => ?_)
        · have c_30 := (nI_leI (a := ca) (b := 3) (by omega) (by omega)).mp c_30
          refine lv_iconst (v := 0) hx hb dX8_sumAll_90 (by decide) ?_
          refine lv_iadd hx hb dX8_sumAll_91 ?_
          refine lv_topi (fun x_31 ex_31 => ?_)
          exact W.iret (v := x_31) hx hb hr (fun t ht hW => ⟨⟨x_31, (), rfl, trivial, trivial⟩, hS.F ht⟩) hS.2.2 dX8_sumAll_92
        · have c_30 : ¬ (ca ≤ 3) := fun h => c_30 ((nI_leI (a := ca) (b := 3) (by omega) (by omega)).mpr h)
          refine lv_aload_n hx hb dX8_sumAll_79 rfl (lv_at hl 1 rfl) ?_
          refine lv_iload_n hx hb dX8_sumAll_80 rfl (lv_at hl 2 rfl) ?_
          refine lv_iconst (v := 3) hx hb dX8_sumAll_81 (by decide) ?_
          refine lv_iload hx hb dX8_sumAll_82 (lv_at hl 6 rfl) ?_
          refine ro_i (D := D) (va_runV (As := [.int (nI sn), .int 3, .int qd]) (rest := [.int x_29]) ⟨hx, hb, hml, hown, hts⟩ ((m_costAt l D k st lo a tx t0 we rd ru rw ca fp wd nu na ts df db sd dn se tm gs fprices fwalks sn 3 qd (by first | assumption | omega) (by first | assumption | omega) hqd) H.size) (cwV 3 hts (gV tw_1402 tw_1404 tw_67 tw_87 tw_1405) rfl rfl rfl (by decide +kernel) ⟨Nat.le_of_ble_eq_true rfl, Nat.le_of_ble_eq_true rfl⟩) (pV hS hAlo hlo hP hK hDL hZ [0, 1, 2, 3, 4] (by decide) rfl (ci := 8) (q := (RX8, TX8, 44)) (q0 := 0) rfl rfl) rfl rfl hl.1 rfl (lv_room (Nat.le_of_ble_eq_true rfl)) dX8_sumAll_84 ⟨Nat.le_of_ble_eq_true rfl, Nat.le_of_ble_eq_true rfl⟩) hS hA hP (fun r_32 H locs hw_32 hP hS => ?_)
          try dsimp only at hw_32
          refine lv_goto (tgt := 91) hx hb dX8_sumAll_87 (by decide) ?_
          refine lv_iadd hx hb dX8_sumAll_91 ?_
          refine lv_topi (fun x_33 ex_33 => ?_)
          exact W.iret (v := x_33) hx hb hr (fun t ht hW => ⟨⟨x_33, (), rfl, trivial, trivial⟩, hS.F ht⟩) hS.2.2 dX8_sumAll_92


theorem dX8_car_0 : decode cX8_car 0 = .ok (.iload_n 1, 1) := by decide +kernel
theorem dX8_car_1 : decode cX8_car 1 = .ok (.i2l, 1) := by decide +kernel
theorem dX8_car_2 : decode cX8_car 2 = .ok (.lconst 0, 1) := by decide +kernel
theorem dX8_car_3 : decode cX8_car 3 = .ok (.ldc2_w 311, 3) := by decide +kernel
theorem dX8_car_6 : decode cX8_car 6 = .ok (.invokestatic 107, 3) := by decide +kernel
theorem dX8_car_9 : decode cX8_car 9 = .ok (.ifCond .eq 15, 3) := by decide +kernel
theorem dX8_car_12 : decode cX8_car 12 = .ok (.iload_n 2, 1) := by decide +kernel
theorem dX8_car_13 : decode cX8_car 13 = .ok (.i2l, 1) := by decide +kernel
theorem dX8_car_14 : decode cX8_car 14 = .ok (.lconst 0, 1) := by decide +kernel
theorem dX8_car_15 : decode cX8_car 15 = .ok (.ldc2_w 313, 3) := by decide +kernel
theorem dX8_car_18 : decode cX8_car 18 = .ok (.invokestatic 107, 3) := by decide +kernel
theorem dX8_car_21 : decode cX8_car 21 = .ok (.ifCond .ne 7, 3) := by decide +kernel
theorem dX8_car_24 : decode cX8_car 24 = .ok (.sipush (-1002), 3) := by decide +kernel
theorem dX8_car_27 : decode cX8_car 27 = .ok (.ireturn, 1) := by decide +kernel
theorem dX8_car_28 : decode cX8_car 28 = .ok (.aload_n 0, 1) := by decide +kernel
theorem dX8_car_29 : decode cX8_car 29 = .ok (.getfield 315, 3) := by decide +kernel
theorem dX8_car_32 : decode cX8_car 32 = .ok (.iconst 4, 1) := by decide +kernel
theorem dX8_car_33 : decode cX8_car 33 = .ok (.if_icmp .ne 7, 3) := by decide +kernel
theorem dX8_car_36 : decode cX8_car 36 = .ok (.sipush (-1004), 3) := by decide +kernel
theorem dX8_car_39 : decode cX8_car 39 = .ok (.ireturn, 1) := by decide +kernel
theorem dX8_car_40 : decode cX8_car 40 = .ok (.aload_n 0, 1) := by decide +kernel
theorem dX8_car_41 : decode cX8_car 41 = .ok (.getfield 84, 3) := by decide +kernel
theorem dX8_car_44 : decode cX8_car 44 = .ok (.aload_n 0, 1) := by decide +kernel
theorem dX8_car_45 : decode cX8_car 45 = .ok (.getfield 315, 3) := by decide +kernel
theorem dX8_car_48 : decode cX8_car 48 = .ok (.iload_n 1, 1) := by decide +kernel
theorem dX8_car_49 : decode cX8_car 49 = .ok (.iastore, 1) := by decide +kernel
theorem dX8_car_50 : decode cX8_car 50 = .ok (.aload_n 0, 1) := by decide +kernel
theorem dX8_car_51 : decode cX8_car 51 = .ok (.getfield 87, 3) := by decide +kernel
theorem dX8_car_54 : decode cX8_car 54 = .ok (.aload_n 0, 1) := by decide +kernel
theorem dX8_car_55 : decode cX8_car 55 = .ok (.getfield 315, 3) := by decide +kernel
theorem dX8_car_58 : decode cX8_car 58 = .ok (.iload_n 2, 1) := by decide +kernel
theorem dX8_car_59 : decode cX8_car 59 = .ok (.iastore, 1) := by decide +kernel
theorem dX8_car_60 : decode cX8_car 60 = .ok (.aload_n 0, 1) := by decide +kernel
theorem dX8_car_61 : decode cX8_car 61 = .ok (.dup, 1) := by decide +kernel
theorem dX8_car_62 : decode cX8_car 62 = .ok (.getfield 315, 3) := by decide +kernel
theorem dX8_car_65 : decode cX8_car 65 = .ok (.iconst 1, 1) := by decide +kernel
theorem dX8_car_66 : decode cX8_car 66 = .ok (.iadd, 1) := by decide +kernel
theorem dX8_car_67 : decode cX8_car 67 = .ok (.putfield 315, 3) := by decide +kernel
theorem dX8_car_70 : decode cX8_car 70 = .ok (.aload_n 0, 1) := by decide +kernel
theorem dX8_car_71 : decode cX8_car 71 = .ok (.getfield 315, 3) := by decide +kernel
theorem dX8_car_74 : decode cX8_car 74 = .ok (.iconst 1, 1) := by decide +kernel
theorem dX8_car_75 : decode cX8_car 75 = .ok (.isub, 1) := by decide +kernel
theorem dX8_car_76 : decode cX8_car 76 = .ok (.ireturn, 1) := by decide +kernel
set_option maxHeartbeats 4000000 in
set_option maxRecDepth 100000 in
theorem m_car (l : Launch) (D : va_G) (k : Nat → ClassId) (st : Nat → Nat) (lo : Nat) (a : Nat → Nat) (tx : Nat) (t0 : Nat) (we : Nat) (rd : Nat) (ru : Nat) (rw : Nat) (ca : Nat) (fp : Int32) (wd : Int64) (nu : Int32) (na : Int32) (ts : Int32) (df : Int32) (db : Int32) (sd : Int32) (fwalks : Nat → Int32) (br : Nat → Nat) (p0 : Int32) (p1 : Int32) (hca : ca ≤ 4) (hbr : ∀ j, br j ≤ 24) : CWi l D k st lo yX8_car cX8_car 3 (some .int) ({ frames := 1, cells := 0, slots := 0, locals := 25 }) 0 0 [.ref (a 0), .int p0, .int p1] [((a 0), .inr (8, [.ref (a 1), .ref (a 2), .ref (a 3), .ref (a 4), .ref (a 5), .int (nI tx), .int fp, .int (nI t0), .long wd, .int (nI we), .int nu, .int na, .int (nI rd), .ref (a 14), .ref (a 15), .ref (a 16), .int ts, .ref (a 18), .ref (a 19), .ref (a 20), .ref (a 21), .ref (a 22), .ref (a 23), .int (nI ru), .ref (a 25), .ref (a 26), .ref (a 27), .ref (a 28), .ref (a 29), .ref (a 30), .int (nI rw), .ref (a 32), .ref (a 33), .ref (a 34), .int (nI ca), .ref (a 36), .ref (a 37), .int df, .int db, .ref (a 40), .ref (a 41), .int sd, .ref (a 43), .ref (a 44)])), ((a 36), .inl (k 1, 4, .inl fwalks)), ((a 37), .inl (k 1, 4, .inl (nF br)))] (fun (r : Int32) (u : Nat × (Nat → Int32) × (Nat → Nat)) => match u with | (ca_, fwalks_, br_) => ca_ ≤ 4 ∧ ∀ j, br_ j ≤ 24) (fun (u : Nat × (Nat → Int32) × (Nat → Nat)) => match u with | (ca_, fwalks_, br_) => [((a 0), .inr (8, [.ref (a 1), .ref (a 2), .ref (a 3), .ref (a 4), .ref (a 5), .int (nI tx), .int fp, .int (nI t0), .long wd, .int (nI we), .int nu, .int na, .int (nI rd), .ref (a 14), .ref (a 15), .ref (a 16), .int ts, .ref (a 18), .ref (a 19), .ref (a 20), .ref (a 21), .ref (a 22), .ref (a 23), .int (nI ru), .ref (a 25), .ref (a 26), .ref (a 27), .ref (a 28), .ref (a 29), .ref (a 30), .int (nI rw), .ref (a 32), .ref (a 33), .ref (a 34), .int (nI ca_), .ref (a 36), .ref (a 37), .int df, .int db, .ref (a 40), .ref (a 41), .int sd, .ref (a 43), .ref (a 44)])), ((a 36), .inl (k 1, 4, .inl fwalks_)), ((a 37), .inl (k 1, 4, .inl (nF br_)))]) := by
  intro sz
  refine Met.ofW (cc := cX8_car) (maxL := 3) (ret := (some .int)) (by decide) rfl ?_
  intro p e s m args below meth c s₁ B hml hv
  obtain ⟨rfl, hsz, hlo, hP, hK, hDL, hZ⟩ := hv
  have hx := B.exec
  have hb := B.bytes
  have hr := B.returns
  have hts := WS_ts B.pre
  have hown : s.vm.findClass RX8 = some m.cls := findClass_of_methodNamed B.named
  have hlocks := B.notSynchronized
  subst hsz
  have hD := hDL.self (sz := s.heap.size)
  have hAlo := A_lo hDL hlo
  generalize hAe : va_A [((a 0), .inr (8, [.ref (a 1), .ref (a 2), .ref (a 3), .ref (a 4), .ref (a 5), .int (nI tx), .int fp, .int (nI t0), .long wd, .int (nI we), .int nu, .int na, .int (nI rd), .ref (a 14), .ref (a 15), .ref (a 16), .int ts, .ref (a 18), .ref (a 19), .ref (a 20), .ref (a 21), .ref (a 22), .ref (a 23), .int (nI ru), .ref (a 25), .ref (a 26), .ref (a 27), .ref (a 28), .ref (a 29), .ref (a 30), .int (nI rw), .ref (a 32), .ref (a 33), .ref (a 34), .int (nI ca), .ref (a 36), .ref (a 37), .int df, .int db, .ref (a 40), .ref (a 41), .int sd, .ref (a 43), .ref (a 44)])), ((a 36), .inl (k 1, 4, .inl fwalks)), ((a 37), .inl (k 1, 4, .inl (nF br)))] s.heap.size = A at hD hAlo ⊢
  have hA : ∀ q : Nat, s.heap.size ≤ q → A q := fun q h => by rw [← hAe]; exact Or.inr h
  have hS : va_S A s.heap s.heap [] := va_S.rf
  have hl := lv_entry ([.ref (a 0), .int p0, .int p1]) (n := 3) (Nat.le_of_ble_eq_true rfl)
  rw [lg_entry_eq]
  generalize (lg_sl ([.ref (a 0), .int p0, .int p1]) ++ List.replicate (3 - (lg_sl ([.ref (a 0), .int p0, .int p1])).length) Slot.unset).toArray = ls at hl ⊢
  have hl : lv_has ls 3 [(0, .ref (a 0)), (1, .int p0), (2, .int p1)] := hl
  refine lv_iload_n hx hb dX8_car_0 rfl (lv_at hl 1 rfl) ?_
  refine lv_i2l (v := p0.toInt64) hx hb dX8_car_1 rfl ?_
  refine lv_lconst (v := (0 : Int32).toInt64) hx hb dX8_car_2 (by decide) ?_
  refine lv_ldc2 hx hb hown (hts _ tw_1368) dX8_car_3 ?_
  refine lv_tl (y := ((99 : Int32).toInt64)) (by decide) ?_
  refine ro_i (D := D) (va_runS (As := [.long (p0.toInt64), .long ((0 : Int32).toInt64), .long ((99 : Int32).toInt64)]) (rest := []) ⟨hx, hb, hml, hown, hts⟩ ((k_in l D k st lo p0 (0 : Int32) (99 : Int32)) s.heap.size) (va_cwS 3 hts (gS tw_1111 tw_1112 tw_87 tw_1113) rfl rfl rfl (by decide +kernel) ⟨Nat.le_of_ble_eq_true rfl, Nat.le_of_ble_eq_true rfl⟩) (pS hS hAlo hlo hP hK (va_Dlo hD hAlo) hZ [] (by decide) rfl) rfl rfl hl.1 rfl (lv_room (Nat.le_of_ble_eq_true rfl)) dX8_car_6 ⟨Nat.le_of_ble_eq_true rfl, Nat.le_of_ble_eq_true rfl⟩) hS hA hP (fun r_1 H locs hw_1 hP hS => ?_)
  try dsimp only at hw_1
  rcases hw_1 with ⟨rfl, hw_1⟩ | ⟨rfl, hw_1⟩
  · refine lv_if_eq (tgt := 24) hx hb dX8_car_9 (by decide) (fun h => absurd h (by decide)) (fun _ => ?_)
    refine lv_iload_n hx hb dX8_car_12 rfl (lv_at hl 2 rfl) ?_
    refine lv_i2l (v := p1.toInt64) hx hb dX8_car_13 rfl ?_
    refine lv_lconst (v := (0 : Int32).toInt64) hx hb dX8_car_14 (by decide) ?_
    refine lv_ldc2 hx hb hown (hts _ tw_1377) dX8_car_15 ?_
    refine lv_tl (y := ((24 : Int32).toInt64)) (by decide) ?_
    refine ro_i (D := D) (va_runS (As := [.long (p1.toInt64), .long ((0 : Int32).toInt64), .long ((24 : Int32).toInt64)]) (rest := []) ⟨hx, hb, hml, hown, hts⟩ ((k_in l D k st lo p1 (0 : Int32) (24 : Int32)) H.size) (va_cwS 3 hts (gS tw_1111 tw_1112 tw_87 tw_1113) rfl rfl rfl (by decide +kernel) ⟨Nat.le_of_ble_eq_true rfl, Nat.le_of_ble_eq_true rfl⟩) (pS hS hAlo hlo hP hK (va_Dlo hD hAlo) hZ [] (by decide) rfl) rfl rfl hl.1 rfl (lv_room (Nat.le_of_ble_eq_true rfl)) dX8_car_18 ⟨Nat.le_of_ble_eq_true rfl, Nat.le_of_ble_eq_true rfl⟩) hS hA hP (fun r_2 H locs hw_2 hP hS => ?_)
    try dsimp only at hw_2
    rcases hw_2 with ⟨rfl, hw_2⟩ | ⟨rfl, hw_2⟩
    · refine lv_if_ne (tgt := 28) hx hb dX8_car_21 (by decide) (fun _ => ?_) (fun h => absurd h (by decide))
      obtain ⟨nb_3, hnl_3, hnh_3, rfl⟩ := inB_ofc (a := 0) (b := 24) (by omega) (by omega) hw_2
      refine lv_aload_n hx hb dX8_car_28 rfl (lv_at hl 0 rfl) ?_
      refine va_get (D := D) (ci := 8) (v := .int (nI ca)) (C := RX8) (T := TX8) (N := 44) hx hb hts inX8 hown hK hP 0 rfl rfl 34 (by decide) (hts _ tw_1007) (fun _ h9 => h9) rfl dX8_car_29 ?_
      refine lv_iconst (v := 4) hx hb dX8_car_32 (by decide) ?_
      refine lv_icmp_ne (tgt := 40) hx hb dX8_car_33 (by decide) (fun c_4 => ?_) (fun c_4 => ?_)
      · have c_4 : ¬ (ca = 4) := fun h => c_4 ((nI_eq (a := ca) (b := 4) (by omega) (by omega)).mpr h)
        refine lv_aload_n hx hb dX8_car_40 rfl (lv_at hl 0 rfl) ?_
        refine va_get (D := D) (ci := 8) (v := .ref (a 36)) (C := RX8) (T := TX8) (N := 44) hx hb hts inX8 hown hK hP 0 rfl rfl 35 (by decide) (hts _ tw_1008) (fun _ h9 => h9) rfl dX8_car_41 ?_
        refine lv_aload_n hx hb dX8_car_44 rfl (lv_at hl 0 rfl) ?_
        refine va_get (D := D) (ci := 8) (v := .int (nI ca)) (C := RX8) (T := TX8) (N := 44) hx hb hts inX8 hown hK hP 0 rfl rfl 34 (by decide) (hts _ tw_1007) (fun _ h9 => h9) rfl dX8_car_45 ?_
        refine lv_iload_n hx hb dX8_car_48 rfl (lv_at hl 1 rfl) ?_
        refine va_iast hx hb hK hP hD hS 1 1 rfl rfl (vp_in_nI (by omega) (by decide)) dX8_car_49 (fun H locs hP hD hS => ?_)
        replace hP : va_P D classes [((a 0), .inr (8, [.ref (a 1), .ref (a 2), .ref (a 3), .ref (a 4), .ref (a 5), .int (nI tx), .int fp, .int (nI t0), .long wd, .int (nI we), .int nu, .int na, .int (nI rd), .ref (a 14), .ref (a 15), .ref (a 16), .int ts, .ref (a 18), .ref (a 19), .ref (a 20), .ref (a 21), .ref (a 22), .ref (a 23), .int (nI ru), .ref (a 25), .ref (a 26), .ref (a 27), .ref (a 28), .ref (a 29), .ref (a 30), .int (nI rw), .ref (a 32), .ref (a 33), .ref (a 34), .int (nI ca), .ref (a 36), .ref (a 37), .int df, .int db, .ref (a 40), .ref (a 41), .int sd, .ref (a 43), .ref (a 44)])), ((a 36), .inl (k 1, 4, .inl (upd fwalks (Int32.toNatClampNeg (nI ca)) p0))), ((a 37), .inl (k 1, 4, .inl (nF br)))] H := hP
        replace hD : va_D A [((a 0), .inr (8, [.ref (a 1), .ref (a 2), .ref (a 3), .ref (a 4), .ref (a 5), .int (nI tx), .int fp, .int (nI t0), .long wd, .int (nI we), .int nu, .int na, .int (nI rd), .ref (a 14), .ref (a 15), .ref (a 16), .int ts, .ref (a 18), .ref (a 19), .ref (a 20), .ref (a 21), .ref (a 22), .ref (a 23), .int (nI ru), .ref (a 25), .ref (a 26), .ref (a 27), .ref (a 28), .ref (a 29), .ref (a 30), .int (nI rw), .ref (a 32), .ref (a 33), .ref (a 34), .int (nI ca), .ref (a 36), .ref (a 37), .int df, .int db, .ref (a 40), .ref (a 41), .int sd, .ref (a 43), .ref (a 44)])), ((a 36), .inl (k 1, 4, .inl (upd fwalks (Int32.toNatClampNeg (nI ca)) p0))), ((a 37), .inl (k 1, 4, .inl (nF br)))] := hD
        generalize (upd fwalks (Int32.toNatClampNeg (nI ca)) p0) = f_5 at hP hD
        refine lv_aload_n hx hb dX8_car_50 rfl (lv_at hl 0 rfl) ?_
        refine va_get (D := D) (ci := 8) (v := .ref (a 37)) (C := RX8) (T := TX8) (N := 44) hx hb hts inX8 hown hK hP 0 rfl rfl 36 (by decide) (hts _ tw_1009) (fun _ h9 => h9) rfl dX8_car_51 ?_
        refine lv_aload_n hx hb dX8_car_54 rfl (lv_at hl 0 rfl) ?_
        refine va_get (D := D) (ci := 8) (v := .int (nI ca)) (C := RX8) (T := TX8) (N := 44) hx hb hts inX8 hown hK hP 0 rfl rfl 34 (by decide) (hts _ tw_1007) (fun _ h9 => h9) rfl dX8_car_55 ?_
        refine lv_iload_n hx hb dX8_car_58 rfl (lv_at hl 2 rfl) ?_
        refine va_iast hx hb hK hP hD hS 2 1 rfl rfl (vp_in_nI (by omega) (by decide)) dX8_car_59 (fun H locs hP hD hS => ?_)
        replace hP : va_P D classes [((a 0), .inr (8, [.ref (a 1), .ref (a 2), .ref (a 3), .ref (a 4), .ref (a 5), .int (nI tx), .int fp, .int (nI t0), .long wd, .int (nI we), .int nu, .int na, .int (nI rd), .ref (a 14), .ref (a 15), .ref (a 16), .int ts, .ref (a 18), .ref (a 19), .ref (a 20), .ref (a 21), .ref (a 22), .ref (a 23), .int (nI ru), .ref (a 25), .ref (a 26), .ref (a 27), .ref (a 28), .ref (a 29), .ref (a 30), .int (nI rw), .ref (a 32), .ref (a 33), .ref (a 34), .int (nI ca), .ref (a 36), .ref (a 37), .int df, .int db, .ref (a 40), .ref (a 41), .int sd, .ref (a 43), .ref (a 44)])), ((a 36), .inl (k 1, 4, .inl f_5)), ((a 37), .inl (k 1, 4, .inl (upd (nF br) (Int32.toNatClampNeg (nI ca)) (nI nb_3))))] H := hP
        replace hD : va_D A [((a 0), .inr (8, [.ref (a 1), .ref (a 2), .ref (a 3), .ref (a 4), .ref (a 5), .int (nI tx), .int fp, .int (nI t0), .long wd, .int (nI we), .int nu, .int na, .int (nI rd), .ref (a 14), .ref (a 15), .ref (a 16), .int ts, .ref (a 18), .ref (a 19), .ref (a 20), .ref (a 21), .ref (a 22), .ref (a 23), .int (nI ru), .ref (a 25), .ref (a 26), .ref (a 27), .ref (a 28), .ref (a 29), .ref (a 30), .int (nI rw), .ref (a 32), .ref (a 33), .ref (a 34), .int (nI ca), .ref (a 36), .ref (a 37), .int df, .int db, .ref (a 40), .ref (a 41), .int sd, .ref (a 43), .ref (a 44)])), ((a 36), .inl (k 1, 4, .inl f_5)), ((a 37), .inl (k 1, 4, .inl (upd (nF br) (Int32.toNatClampNeg (nI ca)) (nI nb_3))))] := hD
        rw [nI_clamp (n := ca) (by omega)] at hP hD
        rw [show upd (nF br) ca (nI nb_3) = nF (fun j => if j = ca then nb_3 else br j) from nF_upd _ _ _] at hP hD
        obtain ⟨d_6, hd_6⟩ : ∃ z : Nat → Nat, z = (fun j => if j = ca then nb_3 else br j) := ⟨_, rfl⟩
        rw [← hd_6] at hP hD
        refine lv_aload_n hx hb dX8_car_60 rfl (lv_at hl 0 rfl) ?_
        refine lv_dup hx hb dX8_car_61 rfl ?_
        refine va_get (D := D) (ci := 8) (v := .int (nI ca)) (C := RX8) (T := TX8) (N := 44) hx hb hts inX8 hown hK hP 0 rfl rfl 34 (by decide) (hts _ tw_1007) (fun _ h9 => h9) rfl dX8_car_62 ?_
        refine lv_iconst (v := 1) hx hb dX8_car_65 (by decide) ?_
        refine lv_iadd hx hb dX8_car_66 ?_
        refine lv_ti (y := (nI (ca + 1))) (nI_add ca 1) ?_
        refine va_put (D := D) (ci := 8) (v := .int (nI (ca + 1))) (ty := .int) (C := RX8) (T := TX8) (N := 44) hx hb hts inX8 tyX8 tyX8_ok nmX8 hown hK hP hD hS 0 rfl rfl 34 (by decide) (hts _ tw_1007) (fun _ h9 => h9) rfl (by decide +kernel) rfl rfl (Nat.le_of_ble_eq_true rfl) dX8_car_67 (fun H locs hP hD hS => ?_)
        replace hP : va_P D classes [((a 0), .inr (8, [.ref (a 1), .ref (a 2), .ref (a 3), .ref (a 4), .ref (a 5), .int (nI tx), .int fp, .int (nI t0), .long wd, .int (nI we), .int nu, .int na, .int (nI rd), .ref (a 14), .ref (a 15), .ref (a 16), .int ts, .ref (a 18), .ref (a 19), .ref (a 20), .ref (a 21), .ref (a 22), .ref (a 23), .int (nI ru), .ref (a 25), .ref (a 26), .ref (a 27), .ref (a 28), .ref (a 29), .ref (a 30), .int (nI rw), .ref (a 32), .ref (a 33), .ref (a 34), .int (nI (ca + 1)), .ref (a 36), .ref (a 37), .int df, .int db, .ref (a 40), .ref (a 41), .int sd, .ref (a 43), .ref (a 44)])), ((a 36), .inl (k 1, 4, .inl f_5)), ((a 37), .inl (k 1, 4, .inl (nF d_6)))] H := hP
        replace hD : va_D A [((a 0), .inr (8, [.ref (a 1), .ref (a 2), .ref (a 3), .ref (a 4), .ref (a 5), .int (nI tx), .int fp, .int (nI t0), .long wd, .int (nI we), .int nu, .int na, .int (nI rd), .ref (a 14), .ref (a 15), .ref (a 16), .int ts, .ref (a 18), .ref (a 19), .ref (a 20), .ref (a 21), .ref (a 22), .ref (a 23), .int (nI ru), .ref (a 25), .ref (a 26), .ref (a 27), .ref (a 28), .ref (a 29), .ref (a 30), .int (nI rw), .ref (a 32), .ref (a 33), .ref (a 34), .int (nI (ca + 1)), .ref (a 36), .ref (a 37), .int df, .int db, .ref (a 40), .ref (a 41), .int sd, .ref (a 43), .ref (a 44)])), ((a 36), .inl (k 1, 4, .inl f_5)), ((a 37), .inl (k 1, 4, .inl (nF d_6)))] := hD
        refine lv_aload_n hx hb dX8_car_70 rfl (lv_at hl 0 rfl) ?_
        refine va_get (D := D) (ci := 8) (v := .int (nI (ca + 1))) (C := RX8) (T := TX8) (N := 44) hx hb hts inX8 hown hK hP 0 rfl rfl 34 (by decide) (hts _ tw_1007) (fun _ h9 => h9) rfl dX8_car_71 ?_
        refine lv_iconst (v := 1) hx hb dX8_car_74 (by decide) ?_
        refine lv_isub hx hb dX8_car_75 ?_
        refine lv_ti (y := (nI ((ca + 1) - 1))) (pk_sub (a := (ca + 1)) (b := 1) (by omega)) ?_
        have hP9 := hP.sub (ws' := [((a 0), .inr (8, [.ref (a 1), .ref (a 2), .ref (a 3), .ref (a 4), .ref (a 5), .int (nI tx), .int fp, .int (nI t0), .long wd, .int (nI we), .int nu, .int na, .int (nI rd), .ref (a 14), .ref (a 15), .ref (a 16), .int ts, .ref (a 18), .ref (a 19), .ref (a 20), .ref (a 21), .ref (a 22), .ref (a 23), .int (nI ru), .ref (a 25), .ref (a 26), .ref (a 27), .ref (a 28), .ref (a 29), .ref (a 30), .int (nI rw), .ref (a 32), .ref (a 33), .ref (a 34), .int (nI (ca + 1)), .ref (a 36), .ref (a 37), .int df, .int db, .ref (a 40), .ref (a 41), .int sd, .ref (a 43), .ref (a 44)])), ((a 36), .inl (k 1, 4, .inl f_5)), ((a 37), .inl (k 1, 4, .inl (nF d_6)))]) [0, 1, 2] rfl
        have hD9 := hD.sub (ws' := [((a 0), .inr (8, [.ref (a 1), .ref (a 2), .ref (a 3), .ref (a 4), .ref (a 5), .int (nI tx), .int fp, .int (nI t0), .long wd, .int (nI we), .int nu, .int na, .int (nI rd), .ref (a 14), .ref (a 15), .ref (a 16), .int ts, .ref (a 18), .ref (a 19), .ref (a 20), .ref (a 21), .ref (a 22), .ref (a 23), .int (nI ru), .ref (a 25), .ref (a 26), .ref (a 27), .ref (a 28), .ref (a 29), .ref (a 30), .int (nI rw), .ref (a 32), .ref (a 33), .ref (a 34), .int (nI (ca + 1)), .ref (a 36), .ref (a 37), .int df, .int db, .ref (a 40), .ref (a 41), .int sd, .ref (a 43), .ref (a 44)])), ((a 36), .inl (k 1, 4, .inl f_5)), ((a 37), .inl (k 1, 4, .inl (nF d_6)))]) [0, 1, 2] (by decide) rfl
        exact W.iret (v := (nI ((ca + 1) - 1))) hx hb hr (fun t ht hW => ⟨⟨(nI ((ca + 1) - 1)), ((ca + 1), f_5, d_6), rfl, ⟨by omega, (by rw [hd_6]; exact up_le hbr (by omega))⟩, by rw [ht]; exact hP9, hD9⟩, hS.F ht⟩) hS.2.2 dX8_car_76
      · have c_4 := (nI_eq (a := ca) (b := 4) (by omega) (by omega)).mp c_4
        refine lv_sipush (v := (-1004)) hx hb dX8_car_36 (by decide) ?_
        have hP9 := hP.sub (ws' := [((a 0), .inr (8, [.ref (a 1), .ref (a 2), .ref (a 3), .ref (a 4), .ref (a 5), .int (nI tx), .int fp, .int (nI t0), .long wd, .int (nI we), .int nu, .int na, .int (nI rd), .ref (a 14), .ref (a 15), .ref (a 16), .int ts, .ref (a 18), .ref (a 19), .ref (a 20), .ref (a 21), .ref (a 22), .ref (a 23), .int (nI ru), .ref (a 25), .ref (a 26), .ref (a 27), .ref (a 28), .ref (a 29), .ref (a 30), .int (nI rw), .ref (a 32), .ref (a 33), .ref (a 34), .int (nI ca), .ref (a 36), .ref (a 37), .int df, .int db, .ref (a 40), .ref (a 41), .int sd, .ref (a 43), .ref (a 44)])), ((a 36), .inl (k 1, 4, .inl fwalks)), ((a 37), .inl (k 1, 4, .inl (nF br)))]) [0, 1, 2] rfl
        have hD9 := hD.sub (ws' := [((a 0), .inr (8, [.ref (a 1), .ref (a 2), .ref (a 3), .ref (a 4), .ref (a 5), .int (nI tx), .int fp, .int (nI t0), .long wd, .int (nI we), .int nu, .int na, .int (nI rd), .ref (a 14), .ref (a 15), .ref (a 16), .int ts, .ref (a 18), .ref (a 19), .ref (a 20), .ref (a 21), .ref (a 22), .ref (a 23), .int (nI ru), .ref (a 25), .ref (a 26), .ref (a 27), .ref (a 28), .ref (a 29), .ref (a 30), .int (nI rw), .ref (a 32), .ref (a 33), .ref (a 34), .int (nI ca), .ref (a 36), .ref (a 37), .int df, .int db, .ref (a 40), .ref (a 41), .int sd, .ref (a 43), .ref (a 44)])), ((a 36), .inl (k 1, 4, .inl fwalks)), ((a 37), .inl (k 1, 4, .inl (nF br)))]) [0, 1, 2] (by decide) rfl
        exact W.iret (v := (-1004)) hx hb hr (fun t ht hW => ⟨⟨(-1004), (ca, fwalks, br), rfl, ⟨by omega, hbr⟩, by rw [ht]; exact hP9, hD9⟩, hS.F ht⟩) hS.2.2 dX8_car_39
    · refine lv_if_ne (tgt := 28) hx hb dX8_car_21 (by decide) (fun h => absurd (by decide) h) (fun _ => ?_)
      refine lv_sipush (v := (-1002)) hx hb dX8_car_24 (by decide) ?_
      have hP9 := hP.sub (ws' := [((a 0), .inr (8, [.ref (a 1), .ref (a 2), .ref (a 3), .ref (a 4), .ref (a 5), .int (nI tx), .int fp, .int (nI t0), .long wd, .int (nI we), .int nu, .int na, .int (nI rd), .ref (a 14), .ref (a 15), .ref (a 16), .int ts, .ref (a 18), .ref (a 19), .ref (a 20), .ref (a 21), .ref (a 22), .ref (a 23), .int (nI ru), .ref (a 25), .ref (a 26), .ref (a 27), .ref (a 28), .ref (a 29), .ref (a 30), .int (nI rw), .ref (a 32), .ref (a 33), .ref (a 34), .int (nI ca), .ref (a 36), .ref (a 37), .int df, .int db, .ref (a 40), .ref (a 41), .int sd, .ref (a 43), .ref (a 44)])), ((a 36), .inl (k 1, 4, .inl fwalks)), ((a 37), .inl (k 1, 4, .inl (nF br)))]) [0, 1, 2] rfl
      have hD9 := hD.sub (ws' := [((a 0), .inr (8, [.ref (a 1), .ref (a 2), .ref (a 3), .ref (a 4), .ref (a 5), .int (nI tx), .int fp, .int (nI t0), .long wd, .int (nI we), .int nu, .int na, .int (nI rd), .ref (a 14), .ref (a 15), .ref (a 16), .int ts, .ref (a 18), .ref (a 19), .ref (a 20), .ref (a 21), .ref (a 22), .ref (a 23), .int (nI ru), .ref (a 25), .ref (a 26), .ref (a 27), .ref (a 28), .ref (a 29), .ref (a 30), .int (nI rw), .ref (a 32), .ref (a 33), .ref (a 34), .int (nI ca), .ref (a 36), .ref (a 37), .int df, .int db, .ref (a 40), .ref (a 41), .int sd, .ref (a 43), .ref (a 44)])), ((a 36), .inl (k 1, 4, .inl fwalks)), ((a 37), .inl (k 1, 4, .inl (nF br)))]) [0, 1, 2] (by decide) rfl
      exact W.iret (v := (-1002)) hx hb hr (fun t ht hW => ⟨⟨(-1002), (ca, fwalks, br), rfl, ⟨by omega, hbr⟩, by rw [ht]; exact hP9, hD9⟩, hS.F ht⟩) hS.2.2 dX8_car_27
  · refine lv_if_eq (tgt := 24) hx hb dX8_car_9 (by decide) (fun _ => ?_) (fun h => absurd (by decide) h)
    refine lv_sipush (v := (-1002)) hx hb dX8_car_24 (by decide) ?_
    have hP9 := hP.sub (ws' := [((a 0), .inr (8, [.ref (a 1), .ref (a 2), .ref (a 3), .ref (a 4), .ref (a 5), .int (nI tx), .int fp, .int (nI t0), .long wd, .int (nI we), .int nu, .int na, .int (nI rd), .ref (a 14), .ref (a 15), .ref (a 16), .int ts, .ref (a 18), .ref (a 19), .ref (a 20), .ref (a 21), .ref (a 22), .ref (a 23), .int (nI ru), .ref (a 25), .ref (a 26), .ref (a 27), .ref (a 28), .ref (a 29), .ref (a 30), .int (nI rw), .ref (a 32), .ref (a 33), .ref (a 34), .int (nI ca), .ref (a 36), .ref (a 37), .int df, .int db, .ref (a 40), .ref (a 41), .int sd, .ref (a 43), .ref (a 44)])), ((a 36), .inl (k 1, 4, .inl fwalks)), ((a 37), .inl (k 1, 4, .inl (nF br)))]) [0, 1, 2] rfl
    have hD9 := hD.sub (ws' := [((a 0), .inr (8, [.ref (a 1), .ref (a 2), .ref (a 3), .ref (a 4), .ref (a 5), .int (nI tx), .int fp, .int (nI t0), .long wd, .int (nI we), .int nu, .int na, .int (nI rd), .ref (a 14), .ref (a 15), .ref (a 16), .int ts, .ref (a 18), .ref (a 19), .ref (a 20), .ref (a 21), .ref (a 22), .ref (a 23), .int (nI ru), .ref (a 25), .ref (a 26), .ref (a 27), .ref (a 28), .ref (a 29), .ref (a 30), .int (nI rw), .ref (a 32), .ref (a 33), .ref (a 34), .int (nI ca), .ref (a 36), .ref (a 37), .int df, .int db, .ref (a 40), .ref (a 41), .int sd, .ref (a 43), .ref (a 44)])), ((a 36), .inl (k 1, 4, .inl fwalks)), ((a 37), .inl (k 1, 4, .inl (nF br)))]) [0, 1, 2] (by decide) rfl
    exact W.iret (v := (-1002)) hx hb hr (fun t ht hW => ⟨⟨(-1002), (ca, fwalks, br), rfl, ⟨by omega, hbr⟩, by rw [ht]; exact hP9, hD9⟩, hS.F ht⟩) hS.2.2 dX8_car_27


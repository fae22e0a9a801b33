set_option maxHeartbeats 4000000 in
set_option maxRecDepth 100000 in
theorem y_takeWord (l : Launch) (D : va_G) (k : Nat → ClassId) (st : Nat → Nat) (lo : Nat) (x0 : Nat) (x1 : Nat) (tz : Nat) (ta : Nat) (na : Int32) (fn : Int32) (fb : Int32) (fx : Nat → Int32) (wi : Nat) (ht : ta ≤ tz) (hz : tz ≤ 240) (hwi : wi < 14) : CWi l D k st lo yX6_takeWord cX6_takeWord 4 (some .boolean) ({ frames := 4, cells := 0, slots := 0, locals := 85 }) 0 0 [.ref x0, .ref (st (100 + wi))] [(x0, .inr (6, (fX6 x1 (nI tz) (nI ta) na fn fb))), (aB k x1 240 fx)] (fun (r : Int32) (ta_ : Nat) => ((r = 1 ∧ letA (bF fx) tz (skA (bF fx) tz ta) = (sByt.getD wi []) ∧ ta_ = skA (bF fx) tz ta + sLen.getD wi 0) ∨ (r = 0 ∧ ¬ letA (bF fx) tz (skA (bF fx) tz ta) = (sByt.getD wi []) ∧ ta_ = skA (bF fx) tz ta)) ∧ ta ≤ ta_ ∧ ta_ ≤ tz) (fun (ta_ : Nat) => [(x0, .inr (6, (fX6 x1 (nI tz) (nI ta_) na fn fb))), (aB k x1 240 fx)]) := by
  intro sz
  refine Met.ofW (cc := cX6_takeWord) (maxL := 4) (ret := (some .boolean)) (by decide) rfl ?_
  intro p e s m args below meth c s₁ B hml hv
  obtain ⟨rfl, hsz, hlo, hP, hK, hDL, hZ⟩ := hv
  have hx := B.exec
  have hb := B.bytes
  have hr := B.returns
  have hts := WS_ts B.pre
  have hown : s.vm.findClass RX6 = some m.cls := findClass_of_methodNamed B.named
  have hlocks := B.notSynchronized
  subst hsz
  have hD := hDL.self (sz := s.heap.size)
  have hAlo := A_lo hDL hlo
  generalize hAe : va_A [(x0, .inr (6, (fX6 x1 (nI tz) (nI ta) na fn fb))), (aB k x1 240 fx)] s.heap.size = A at hD hAlo ⊢
  have hA : ∀ q : Nat, s.heap.size ≤ q → A q := fun q h => by rw [← hAe]; exact Or.inr h
  have hS : va_S A s.heap s.heap [] := va_S.rf
  have hl := lv_entry ([.ref x0, .ref (st (100 + wi))]) (n := 4) (Nat.le_of_ble_eq_true rfl)
  rw [lg_entry_eq]
  generalize (lg_sl ([.ref x0, .ref (st (100 + wi))]) ++ List.replicate (4 - (lg_sl ([.ref x0, .ref (st (100 + wi))])).length) Slot.unset).toArray = ls at hl ⊢
  have hl : lv_has ls 4 [(0, .ref x0), (1, .ref (st (100 + wi)))] := hl
  have hsl := sLen_le wi hwi
  refine lv_aload_n hx hb dX6_takeWord_0 rfl (lv_at hl 0 rfl) ?_
  refine rw_v (D := D) (wr := []) (va_runV (As := []) (rest := []) ⟨hx, hb, hml, hown, hts⟩ ((y_skip l D k st lo x0 x1 tz ta na fn fb fx (by omega) (by omega)) s.heap.size) (cwV 0 hts (gV tw_375 tw_376 tw_377 tw_80 tw_378) rfl rfl rfl (by decide +kernel) ⟨Nat.le_of_ble_eq_true rfl, Nat.le_of_ble_eq_true rfl⟩) (pV hS hAlo hlo hP hK (va_Dlo hD hAlo) hZ [0, 1] (by decide) rfl (ci := 6) (q := (RX6, TX6, 6)) (q0 := 0) rfl rfl) rfl rfl hl.1 rfl (lv_room (Nat.le_of_ble_eq_true rfl)) dX6_takeWord_1 ⟨Nat.le_of_ble_eq_true rfl, Nat.le_of_ble_eq_true rfl⟩) hS hA hP hD [0, 1] [] rfl rfl (by decide) (by decide) (fun u H locs hw_1 hP hD hS => ?_)
  obtain ⟨ta__1, rfl⟩ : ∃ z, z = u := ⟨_, rfl⟩
  replace hP : va_P D classes [(x0, .inr (6, (fX6 x1 (nI tz) (nI ta__1) na fn fb))), (aB k x1 240 fx)] H := hP
  replace hD : va_D A [(x0, .inr (6, (fX6 x1 (nI tz) (nI ta__1) na fn fb))), (aB k x1 240 fx)] := hD
  try dsimp only at hw_1
  refine lv_aload_n hx hb dX6_takeWord_4 rfl (lv_at hl 0 rfl) ?_
  refine va_get (D := D) (ci := 6) (v := .int (nI ta__1)) (C := RX6) (T := TX6) (N := 6) hx hb hts inX6 hown hK hP 0 rfl rfl 2 (by decide) (hts _ tw_113) (fun _ h9 => h9) rfl dX6_takeWord_5 ?_
  refine lv_aload_n hx hb dX6_takeWord_8 rfl (lv_at hl 1 rfl) ?_
  refine ro_i (D := D) (va_runV (As := []) (rest := [.int (nI ta__1)]) ⟨hx, hb, hml, hown, hts⟩ ((x_length l D k st lo wi (by omega)) H.size) (cwV 0 hts (gV tw_403 tw_404 tw_405 tw_89 tw_406) rfl rfl rfl (by decide +kernel) ⟨Nat.le_of_ble_eq_true rfl, Nat.le_of_ble_eq_true rfl⟩) (pVs (i := wi) (by omega) hS hAlo hlo hP hK (va_Dlo hD hAlo) hZ [] (by decide) rfl) rfl rfl hl.1 rfl (lv_room (Nat.le_of_ble_eq_true rfl)) dX6_takeWord_9 ⟨Nat.le_of_ble_eq_true rfl, Nat.le_of_ble_eq_true rfl⟩) hS hA hP (fun r_2 H locs hw_2 hP hS => ?_)
  try dsimp only at hw_2
  subst hw_2
  refine lv_iadd hx hb dX6_takeWord_12 ?_
  refine lv_ti (y := (nI (ta__1 + sLen.getD wi 0))) (nI_add ta__1 (sLen.getD wi 0)) ?_
  refine lv_istore_n (lv' := [(2, .int (nI (ta__1 + sLen.getD wi 0))), (0, .ref x0), (1, .ref (st (100 + wi)))]) hx hb dX6_takeWord_13 rfl hl (by decide) rfl (fun ls hl => ?_)
  refine lv_iconst (v := 0) hx hb dX6_takeWord_14 (by decide) ?_
  refine lv_istore_n (lv' := [(3, .int 0), (2, .int (nI (ta__1 + sLen.getD wi 0))), (0, .ref x0), (1, .ref (st (100 + wi)))]) hx hb dX6_takeWord_15 rfl hl (by decide) rfl (fun ls hl => ?_)
  refine W_loop (σ := Nat) (fun (n_ : Nat) (kk_3 : Nat) (H : Heap) (locs : List Loc) (ls : Array Slot) => n_ = sLen.getD wi 0 - kk_3 ∧ ((letA (bF fx) tz (ta__1 + kk_3) = (sByt.getD wi []).drop kk_3 ↔ letA (bF fx) tz ta__1 = (sByt.getD wi [])) ∧ ta__1 + kk_3 ≤ tz ∧ kk_3 ≤ sLen.getD wi 0) ∧ va_P D classes [(x0, .inr (6, (fX6 x1 (nI tz) (nI ta__1) na fn fb))), (aB k x1 240 fx)] H ∧ va_D A [(x0, .inr (6, (fX6 x1 (nI tz) (nI ta__1) na fn fb))), (aB k x1 240 fx)] ∧ va_S A s.heap H locs ∧ lv_has ls 4 [(3, .int (nI kk_3)), (2, .int (nI (ta__1 + sLen.getD wi 0))), (0, .ref x0), (1, .ref (st (100 + wi)))]) (fun n_3 x_3 H locs ls hI ih_3 => ?_) _ 0 ⟨rfl, ⟨Iff.rfl, by omega, by omega⟩, hP, hD, hS, (lv_sub hl [0, 1, 2, 3] rfl)⟩
  obtain ⟨kk_3, rfl⟩ : ∃ z, z = x_3 := ⟨_, rfl⟩
  obtain ⟨hm_3, hv_3, hP, hD, hS, hl⟩ := hI
  subst hm_3
  refine lv_iload_n hx hb dX6_takeWord_16 rfl (lv_at hl 0 rfl) ?_
  refine lv_aload_n hx hb dX6_takeWord_17 rfl (lv_at hl 3 rfl) ?_
  refine ro_i (D := D) (va_runV (As := []) (rest := [.int (nI kk_3)]) ⟨hx, hb, hml, hown, hts⟩ ((x_length l D k st lo wi (by omega)) H.size) (cwV 0 hts (gV tw_403 tw_404 tw_405 tw_89 tw_406) rfl rfl rfl (by decide +kernel) ⟨Nat.le_of_ble_eq_true rfl, Nat.le_of_ble_eq_true rfl⟩) (pVs (i := wi) (by omega) hS hAlo hlo hP hK (va_Dlo hD hAlo) hZ [] (by decide) rfl) rfl rfl hl.1 rfl (lv_room (Nat.le_of_ble_eq_true rfl)) dX6_takeWord_18 ⟨Nat.le_of_ble_eq_true rfl, Nat.le_of_ble_eq_true rfl⟩) hS hA hP (fun r_4 H locs hw_4 hP hS => ?_)
  try dsimp only at hw_4
  subst hw_4
  refine lv_icmp_ge (tgt := 50) hx hb dX6_takeWord_21 (by decide) (fun c_5 => ?_) (fun c_5 => ?_)
  · have c_5 := (nI_leI (a := (sLen.getD wi 0)) (b := kk_3) (by omega) (by omega)).mp c_5
    refine lv_aload_n hx hb dX6_takeWord_50 rfl (lv_at hl 2 rfl) ?_
    refine lv_iload_n hx hb dX6_takeWord_51 rfl (lv_at hl 1 rfl) ?_
    refine ro_i (D := D) (va_runV (As := [.int (nI (ta__1 + sLen.getD wi 0))]) (rest := []) ⟨hx, hb, hml, hown, hts⟩ ((y_isLetterAt l D k st lo x0 x1 tz ta__1 na fn fb fx (ta__1 + sLen.getD wi 0) (by omega) (by omega)) H.size) (cwV 1 hts (gV tw_451 tw_452 tw_453 tw_80 tw_454) rfl rfl rfl (by decide +kernel) ⟨Nat.le_of_ble_eq_true rfl, Nat.le_of_ble_eq_true rfl⟩) (pV hS hAlo hlo hP hK (va_Dlo hD hAlo) hZ [0, 1] (by decide) rfl (ci := 6) (q := (RX6, TX6, 6)) (q0 := 0) rfl rfl) rfl rfl hl.1 rfl (lv_room (Nat.le_of_ble_eq_true rfl)) dX6_takeWord_52 ⟨Nat.le_of_ble_eq_true rfl, Nat.le_of_ble_eq_true rfl⟩) hS hA hP (fun r_6 H locs hw_6 hP hS => ?_)
    try dsimp only at hw_6
    rcases hw_6 with ⟨rfl, hw_6⟩ | ⟨rfl, hw_6⟩
    · refine lv_if_eq (tgt := 60) hx hb dX6_takeWord_55 (by decide) (fun h => absurd h (by decide)) (fun _ => ?_)
      refine lv_iconst (v := 0) hx hb dX6_takeWord_58 (by decide) ?_
      have hP9 := hP.sub (ws' := [(x0, .inr (6, (fX6 x1 (nI tz) (nI ta__1) na fn fb))), (aB k x1 240 fx)]) [0, 1] rfl
      have hD9 := hD.sub (ws' := [(x0, .inr (6, (fX6 x1 (nI tz) (nI ta__1) na fn fb))), (aB k x1 240 fx)]) [0, 1] (by decide) rfl
      exact W.zret (v := 0) (ty := .boolean) hx hb hr rfl (fun t ht hW => ⟨⟨0, ta__1, rfl, ⟨.inr ⟨rfl, (by rw [← hw_1.1]; exact tw_end0 (by rw [sKl wi hwi]; omega) hv_3.1 (by rw [sKl wi hwi]; exact hw_6)), hw_1.1⟩, by omega, by omega⟩, by rw [ht]; exact hP9, hD9⟩, hS.F ht⟩) hS.2.2 dX6_takeWord_59
    · refine lv_if_eq (tgt := 60) hx hb dX6_takeWord_55 (by decide) (fun _ => ?_) (fun h => absurd (by decide) h)
      refine lv_aload_n hx hb dX6_takeWord_60 rfl (lv_at hl 2 rfl) ?_
      refine lv_iload_n hx hb dX6_takeWord_61 rfl (lv_at hl 1 rfl) ?_
      refine va_put (D := D) (ci := 6) (v := .int (nI (ta__1 + sLen.getD wi 0))) (ty := .int) (C := RX6) (T := TX6) (N := 6) hx hb hts inX6 tyX6 tyX6_ok nmX6 hown hK hP hD hS 0 rfl rfl 2 (by decide) (hts _ tw_113) (fun _ h9 => h9) rfl (by decide +kernel) rfl rfl (Nat.le_of_ble_eq_true rfl) dX6_takeWord_62 (fun H locs hP hD hS => ?_)
      replace hP : va_P D classes [(x0, .inr (6, (fX6 x1 (nI tz) (nI (ta__1 + sLen.getD wi 0)) na fn fb))), (aB k x1 240 fx)] H := hP
      replace hD : va_D A [(x0, .inr (6, (fX6 x1 (nI tz) (nI (ta__1 + sLen.getD wi 0)) na fn fb))), (aB k x1 240 fx)] := hD
      refine lv_iconst (v := 1) hx hb dX6_takeWord_65 (by decide) ?_
      have hP9 := hP.sub (ws' := [(x0, .inr (6, (fX6 x1 (nI tz) (nI (ta__1 + sLen.getD wi 0)) na fn fb))), (aB k x1 240 fx)]) [0, 1] rfl
      have hD9 := hD.sub (ws' := [(x0, .inr (6, (fX6 x1 (nI tz) (nI (ta__1 + sLen.getD wi 0)) na fn fb))), (aB k x1 240 fx)]) [0, 1] (by decide) rfl
      exact W.zret (v := 1) (ty := .boolean) hx hb hr rfl (fun t ht hW => ⟨⟨1, (ta__1 + sLen.getD wi 0), rfl, ⟨.inl ⟨rfl, (by rw [← hw_1.1]; exact tw_end1 (by rw [sKl wi hwi]; omega) hv_3.1 (by rw [sKl wi hwi]; exact hw_6)), by rw [← hw_1.1]⟩, by omega, by omega⟩, by rw [ht]; exact hP9, hD9⟩, hS.F ht⟩) hS.2.2 dX6_takeWord_66
  · have c_5 : ¬ ((sLen.getD wi 0) ≤ kk_3) := fun h => c_5 ((nI_leI (a := (sLen.getD wi 0)) (b := kk_3) (by omega) (by omega)).mpr h)
    refine lv_aload_n hx hb dX6_takeWord_24 rfl (lv_at hl 2 rfl) ?_
    refine lv_aload_n hx hb dX6_takeWord_25 rfl (lv_at hl 2 rfl) ?_
    refine va_get (D := D) (ci := 6) (v := .int (nI ta__1)) (C := RX6) (T := TX6) (N := 6) hx hb hts inX6 hown hK hP 0 rfl rfl 2 (by decide) (hts _ tw_113) (fun _ h9 => h9) rfl dX6_takeWord_26 ?_
    refine lv_iload_n hx hb dX6_takeWord_29 rfl (lv_at hl 0 rfl) ?_
    refine lv_iadd hx hb dX6_takeWord_30 ?_
    refine lv_ti (y := (nI (ta__1 + kk_3))) (nI_add ta__1 kk_3) ?_
    refine ro_i (D := D) (va_runV (As := [.int (nI (ta__1 + kk_3))]) (rest := []) ⟨hx, hb, hml, hown, hts⟩ ((y_byteAt l D k st lo x0 x1 tz ta__1 na fn fb fx (ta__1 + kk_3) (by omega) (by omega)) H.size) (cwV 1 hts (gV tw_379 tw_380 tw_381 tw_80 tw_382) rfl rfl rfl (by decide +kernel) ⟨Nat.le_of_ble_eq_true rfl, Nat.le_of_ble_eq_true rfl⟩) (pV hS hAlo hlo hP hK (va_Dlo hD hAlo) hZ [0, 1] (by decide) rfl (ci := 6) (q := (RX6, TX6, 6)) (q0 := 0) rfl rfl) rfl rfl hl.1 rfl (lv_room (Nat.le_of_ble_eq_true rfl)) dX6_takeWord_31 ⟨Nat.le_of_ble_eq_true rfl, Nat.le_of_ble_eq_true rfl⟩) hS hA hP (fun r_7 H locs hw_7 hP hS => ?_)
    try dsimp only at hw_7
    refine lv_aload_n hx hb dX6_takeWord_34 rfl (lv_at hl 3 rfl) ?_
    refine lv_iload_n hx hb dX6_takeWord_35 rfl (lv_at hl 0 rfl) ?_
    refine rw_i (D := D) (wr := [(x0, .inr (6, (fX6 x1 (nI tz) (nI ta__1) na fn fb))), (aB k x1 240 fx)]) (va_runV (As := [.int (nI kk_3)]) (rest := [.int r_7]) ⟨hx, hb, hml, hown, hts⟩ ((y_charAt l D k st lo wi kk_3 (by omega) (by omega)) H.size) (cwV 1 hts (gV tw_413 tw_414 tw_415 tw_89 tw_416) rfl rfl rfl (by decide +kernel) ⟨Nat.le_of_ble_eq_true rfl, Nat.le_of_ble_eq_true rfl⟩) (pVs (i := wi) (by omega) hS hAlo hlo hP hK (va_Dlo hD hAlo) hZ [] (by decide) rfl) rfl rfl hl.1 rfl (lv_room (Nat.le_of_ble_eq_true rfl)) dX6_takeWord_36 ⟨Nat.le_of_ble_eq_true rfl, Nat.le_of_ble_eq_true rfl⟩) hS hA hP hD [] [0, 1] rfl rfl (by decide) (by decide) (fun r_8 u H locs hw_8 hP hD hS => ?_)
    replace hP : va_P D classes [(x0, .inr (6, (fX6 x1 (nI tz) (nI ta__1) na fn fb))), (aB k x1 240 fx)] H := hP
    replace hD : va_D A [(x0, .inr (6, (fX6 x1 (nI tz) (nI ta__1) na fn fb))), (aB k x1 240 fx)] := hD
    try dsimp only at hw_8
    refine lv_icmp_eq (tgt := 44) hx hb dX6_takeWord_39 (by decide) (fun c_9 => ?_) (fun c_9 => ?_)
    · refine lv_iinc (v := (nI (kk_3 + 1))) (lv' := [(3, .int (nI (kk_3 + 1))), (2, .int (nI (ta__1 + sLen.getD wi 0))), (0, .ref x0), (1, .ref (st (100 + wi)))]) hx hb dX6_takeWord_44 hl (k := 0) rfl (nI_add kk_3 1) (by decide) rfl (fun ls hl => ?_)
      refine lv_goto (tgt := 16) hx hb dX6_takeWord_47 (by decide) ?_
      have hst_10 := tw_step (K := (sByt.getD wi [])) (sKa wi hwi) (by rw [sKl wi hwi]; omega) hw_7 hw_8 c_9 hv_3.1
      exact ih_3 _ (kk_3 + 1) _ _ _ (by omega) ⟨rfl, ⟨hst_10.1, hst_10.2, by omega⟩, hP, hD, hS, (lv_sub hl [0, 1, 2, 3] rfl)⟩
    · refine lv_iconst (v := 0) hx hb dX6_takeWord_42 (by decide) ?_
      have hP9 := hP.sub (ws' := [(x0, .inr (6, (fX6 x1 (nI tz) (nI ta__1) na fn fb))), (aB k x1 240 fx)]) [0, 1] rfl
      have hD9 := hD.sub (ws' := [(x0, .inr (6, (fX6 x1 (nI tz) (nI ta__1) na fn fb))), (aB k x1 240 fx)]) [0, 1] (by decide) rfl
      exact W.zret (v := 0) (ty := .boolean) hx hb hr rfl (fun t ht hW => ⟨⟨0, ta__1, rfl, ⟨.inr ⟨rfl, (by rw [← hw_1.1]; exact tw_no (K := (sByt.getD wi [])) (sKa wi hwi) (by rw [sKl wi hwi]; omega) hw_7 hw_8 c_9 hv_3.1), hw_1.1⟩, by omega, by omega⟩, by rw [ht]; exact hP9, hD9⟩, hS.F ht⟩) hS.2.2 dX6_takeWord_43


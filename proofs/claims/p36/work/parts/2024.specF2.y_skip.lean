set_option maxHeartbeats 4000000 in
set_option maxRecDepth 100000 in
theorem y_skip (l : Launch) (D : va_G) (k : Nat → ClassId) (st : Nat → Nat) (lo : Nat) (x0 : Nat) (x1 : Nat) (tz : Nat) (ta : Nat) (na : Int32) (fn : Int32) (fb : Int32) (fx : Nat → Int32) (ht : ta ≤ tz) (hz : tz ≤ 240) : CWv l D k st lo yX6_skipBlanks cX6_skipBlanks 1 none ({ frames := 1, cells := 0, slots := 0, locals := 21 }) 0 0 [.ref x0] [(x0, .inr (6, (fX6 x1 (nI tz) (nI ta) na fn fb))), (aB k x1 240 fx)] (fun (ta_ : Nat) => ta_ = skA (bF fx) tz ta ∧ ta ≤ ta_ ∧ ta_ ≤ tz) (fun (ta_ : Nat) => [(x0, .inr (6, (fX6 x1 (nI tz) (nI ta_) na fn fb))), (aB k x1 240 fx)]) := by
  intro sz
  refine Met.ofW (cc := cX6_skipBlanks) (maxL := 1) (ret := none) (by decide) rfl ?_
  intro p e s m args below meth c s₁ B hml hv
  obtain ⟨rfl, hsz, hlo, hP, hK, hDL, hZ⟩ := hv
  have hx := B.exec
  have hb := B.bytes
  have hr := B.returns
  have hts := WS_ts B.pre
  have hown : s.vm.findClass RX6 = some m.cls := findClass_of_methodNamed B.named
  have hlocks := B.notSynchronized
  subst hsz
  have hD := hDL.self (sz := s.heap.size)
  have hAlo := A_lo hDL hlo
  generalize hAe : va_A [(x0, .inr (6, (fX6 x1 (nI tz) (nI ta) na fn fb))), (aB k x1 240 fx)] s.heap.size = A at hD hAlo ⊢
  have hA : ∀ q : Nat, s.heap.size ≤ q → A q := fun q h => by rw [← hAe]; exact Or.inr h
  have hS : va_S A s.heap s.heap [] := va_S.rf
  have hl := lv_entry ([.ref x0]) (n := 1) (Nat.le_of_ble_eq_true rfl)
  rw [lg_entry_eq]
  generalize (lg_sl ([.ref x0]) ++ List.replicate (1 - (lg_sl ([.ref x0])).length) Slot.unset).toArray = ls at hl ⊢
  have hl : lv_has ls 1 [(0, .ref x0)] := hl
  refine W_loop (σ := Nat) (fun (n_ : Nat) (t2_1 : Nat) (H : Heap) (locs : List Loc) (ls : Array Slot) => n_ = tz - t2_1 ∧ (skA (bF fx) tz t2_1 = skA (bF fx) tz ta ∧ ta ≤ t2_1 ∧ t2_1 ≤ tz) ∧ va_P D classes [(x0, .inr (6, (fX6 x1 (nI tz) (nI t2_1) na fn fb))), (aB k x1 240 fx)] H ∧ va_D A [(x0, .inr (6, (fX6 x1 (nI tz) (nI t2_1) na fn fb))), (aB k x1 240 fx)] ∧ va_S A s.heap H locs ∧ lv_has ls 1 [(0, .ref x0)]) (fun n_1 x_1 H locs ls hI ih_1 => ?_) _ ta ⟨rfl, ⟨rfl, by omega, by omega⟩, hP, hD, hS, (lv_sub hl [0] rfl)⟩
  obtain ⟨t2_1, rfl⟩ : ∃ z, z = x_1 := ⟨_, rfl⟩
  obtain ⟨hm_1, hv_1, hP, hD, hS, hl⟩ := hI
  subst hm_1
  refine lv_aload_n hx hb dX6_skipBlanks_0 rfl (lv_at hl 0 rfl) ?_
  refine va_get (D := D) (ci := 6) (v := .int (nI t2_1)) (C := RX6) (T := TX6) (N := 6) hx hb hts inX6 hown hK hP 0 rfl rfl 2 (by decide) (hts _ tw_113) (fun _ h9 => h9) rfl dX6_skipBlanks_1 ?_
  refine lv_aload_n hx hb dX6_skipBlanks_4 rfl (lv_at hl 0 rfl) ?_
  refine va_get (D := D) (ci := 6) (v := .int (nI tz)) (C := RX6) (T := TX6) (N := 6) hx hb hts inX6 hown hK hP 0 rfl rfl 1 (by decide) (hts _ tw_110) (fun _ h9 => h9) rfl dX6_skipBlanks_5 ?_
  refine lv_icmp_ge (tgt := 37) hx hb dX6_skipBlanks_8 (by decide) (fun c_2 => ?_) (fun c_2 => ?_)
  · have c_2 := (nI_leI (a := tz) (b := t2_1) (by omega) (by omega)).mp c_2
    have hP9 := hP.sub (ws' := [(x0, .inr (6, (fX6 x1 (nI tz) (nI t2_1) na fn fb))), (aB k x1 240 fx)]) [0, 1] rfl
    have hD9 := hD.sub (ws' := [(x0, .inr (6, (fX6 x1 (nI tz) (nI t2_1) na fn fb))), (aB k x1 240 fx)]) [0, 1] (by decide) rfl
    exact W.vret hx hb hr (fun t ht hW => ⟨⟨t2_1, rfl, ⟨(skA_end (by omega)).symm.trans hv_1.1, by omega, by omega⟩, by rw [ht]; exact hP9, hD9⟩, hS.F ht⟩) hS.2.2 dX6_skipBlanks_37
  · have c_2 : ¬ (tz ≤ t2_1) := fun h => c_2 ((nI_leI (a := tz) (b := t2_1) (by omega) (by omega)).mpr h)
    refine lv_aload_n hx hb dX6_skipBlanks_11 rfl (lv_at hl 0 rfl) ?_
    refine lv_aload_n hx hb dX6_skipBlanks_12 rfl (lv_at hl 0 rfl) ?_
    refine va_get (D := D) (ci := 6) (v := .int (nI t2_1)) (C := RX6) (T := TX6) (N := 6) hx hb hts inX6 hown hK hP 0 rfl rfl 2 (by decide) (hts _ tw_113) (fun _ h9 => h9) rfl dX6_skipBlanks_13 ?_
    refine ro_i (D := D) (va_runV (As := [.int (nI t2_1)]) (rest := []) ⟨hx, hb, hml, hown, hts⟩ ((y_byteAt l D k st lo x0 x1 tz t2_1 na fn fb fx t2_1 (by omega) (by omega)) H.size) (cwV 1 hts (gV tw_379 tw_380 tw_381 tw_80 tw_382) rfl rfl rfl (by decide +kernel) ⟨Nat.le_of_ble_eq_true rfl, Nat.le_of_ble_eq_true rfl⟩) (pV hS hAlo hlo hP hK (va_Dlo hD hAlo) hZ [0, 1] (by decide) rfl (ci := 6) (q := (RX6, TX6, 6)) (q0 := 0) rfl rfl) rfl rfl hl.1 rfl (lv_room (Nat.le_of_ble_eq_true rfl)) dX6_skipBlanks_16 ⟨Nat.le_of_ble_eq_true rfl, Nat.le_of_ble_eq_true rfl⟩) hS hA hP (fun r_3 H locs hw_3 hP hS => ?_)
    try dsimp only at hw_3
    refine lv_bipush (v := 32) hx hb dX6_skipBlanks_19 (by decide) ?_
    refine lv_icmp_ne (tgt := 37) hx hb dX6_skipBlanks_21 (by decide) (fun c_4 => ?_) (fun c_4 => ?_)
    · have hP9 := hP.sub (ws' := [(x0, .inr (6, (fX6 x1 (nI tz) (nI t2_1) na fn fb))), (aB k x1 240 fx)]) [0, 1] rfl
      have hD9 := hD.sub (ws' := [(x0, .inr (6, (fX6 x1 (nI tz) (nI t2_1) na fn fb))), (aB k x1 240 fx)]) [0, 1] (by decide) rfl
      exact W.vret hx hb hr (fun t ht hW => ⟨⟨t2_1, rfl, ⟨(skA_no (fun e => c_4 (hw_3.trans ((byF_in (by omega)).trans e)))).symm.trans hv_1.1, by omega, by omega⟩, by rw [ht]; exact hP9, hD9⟩, hS.F ht⟩) hS.2.2 dX6_skipBlanks_37
    · refine lv_aload_n hx hb dX6_skipBlanks_24 rfl (lv_at hl 0 rfl) ?_
      refine lv_dup hx hb dX6_skipBlanks_25 rfl ?_
      refine va_get (D := D) (ci := 6) (v := .int (nI t2_1)) (C := RX6) (T := TX6) (N := 6) hx hb hts inX6 hown hK hP 0 rfl rfl 2 (by decide) (hts _ tw_113) (fun _ h9 => h9) rfl dX6_skipBlanks_26 ?_
      refine lv_iconst (v := 1) hx hb dX6_skipBlanks_29 (by decide) ?_
      refine lv_iadd hx hb dX6_skipBlanks_30 ?_
      refine lv_ti (y := (nI (t2_1 + 1))) (nI_add t2_1 1) ?_
      refine va_put (D := D) (ci := 6) (v := .int (nI (t2_1 + 1))) (ty := .int) (C := RX6) (T := TX6) (N := 6) hx hb hts inX6 tyX6 tyX6_ok nmX6 hown hK hP hD hS 0 rfl rfl 2 (by decide) (hts _ tw_113) (fun _ h9 => h9) rfl (by decide +kernel) rfl rfl (Nat.le_of_ble_eq_true rfl) dX6_skipBlanks_31 (fun H locs hP hD hS => ?_)
      replace hP : va_P D classes [(x0, .inr (6, (fX6 x1 (nI tz) (nI (t2_1 + 1)) na fn fb))), (aB k x1 240 fx)] H := hP
      replace hD : va_D A [(x0, .inr (6, (fX6 x1 (nI tz) (nI (t2_1 + 1)) na fn fb))), (aB k x1 240 fx)] := hD
      refine lv_goto (tgt := 0) hx hb dX6_skipBlanks_34 (by decide) ?_
      exact ih_1 _ (t2_1 + 1) _ _ _ (by omega) ⟨rfl, ⟨(skA_go (by omega) (((byF_in (by omega)).symm.trans hw_3.symm).trans c_4)).trans hv_1.1, by omega, by omega⟩, hP, hD, hS, (lv_sub hl [0] rfl)⟩


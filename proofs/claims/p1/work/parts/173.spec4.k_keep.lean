theorem dX7_keep_0 : decode cX7_keep 0 = .ok (.iload_n 1, 1) := by decide +kernel
theorem dX7_keep_1 : decode cX7_keep 1 = .ok (.iconst 0, 1) := by decide +kernel
theorem dX7_keep_2 : decode cX7_keep 2 = .ok (.iconst 1, 1) := by decide +kernel
theorem dX7_keep_3 : decode cX7_keep 3 = .ok (.invokestatic 112, 3) := by decide +kernel
theorem dX7_keep_6 : decode cX7_keep 6 = .ok (.ifCond .ne 7, 3) := by decide +kernel
theorem dX7_keep_9 : decode cX7_keep 9 = .ok (.sipush (-1001), 3) := by decide +kernel
theorem dX7_keep_12 : decode cX7_keep 12 = .ok (.ireturn, 1) := by decide +kernel
theorem dX7_keep_13 : decode cX7_keep 13 = .ok (.aload_n 0, 1) := by decide +kernel
theorem dX7_keep_14 : decode cX7_keep 14 = .ok (.getfield 53, 3) := by decide +kernel
theorem dX7_keep_17 : decode cX7_keep 17 = .ok (.iload_n 1, 1) := by decide +kernel
theorem dX7_keep_18 : decode cX7_keep 18 = .ok (.aaload, 1) := by decide +kernel
theorem dX7_keep_19 : decode cX7_keep 19 = .ok (.aload_n 0, 1) := by decide +kernel
theorem dX7_keep_20 : decode cX7_keep 20 = .ok (.getfield 49, 3) := by decide +kernel
theorem dX7_keep_23 : decode cX7_keep 23 = .ok (.invokevirtual 280, 3) := by decide +kernel
theorem dX7_keep_26 : decode cX7_keep 26 = .ok (.aload_n 0, 1) := by decide +kernel
theorem dX7_keep_27 : decode cX7_keep 27 = .ok (.getfield 57, 3) := by decide +kernel
theorem dX7_keep_30 : decode cX7_keep 30 = .ok (.iload_n 1, 1) := by decide +kernel
theorem dX7_keep_31 : decode cX7_keep 31 = .ok (.iconst 1, 1) := by decide +kernel
theorem dX7_keep_32 : decode cX7_keep 32 = .ok (.bastore, 1) := by decide +kernel
theorem dX7_keep_33 : decode cX7_keep 33 = .ok (.iconst 1, 1) := by decide +kernel
theorem dX7_keep_34 : decode cX7_keep 34 = .ok (.ireturn, 1) := by decide +kernel
set_option maxHeartbeats 4000000 in
set_option maxRecDepth 100000 in
theorem k_keep (l : Launch) (D : va_G) (k : Nat → ClassId) (st : Nat → Nat) (lo : Nat) (a : Nat → Nat) (p0 : Int32)  : CWi l D k st lo yX7_keep cX7_keep 2 (some .int) ({ frames := 2, cells := 0, slots := 0, locals := 81 }) 0 0 [.ref (a 0), .int p0] [((a 0), .inr (7, [.ref (a 1), .ref (a 3), .ref (a 19), .ref (a 20), .ref (a 25), .int 0, .int (-1), .ref (a 32), .ref (a 35), .ref (a 42), .ref (a 43), .ref (a 44)])), ((a 32), .inr (4, [.ref (a 33), .ref (a 34), .int 0, .int 0, .int 0, .int 0])), ((a 33), .inl (k 1, 4, .inl (fun _ => 0))), ((a 34), .inl (k 1, 4, .inl (fun _ => 0))), ((a 35), .inl (k 6, 2, .inr (.inr (.inr (.inr (a2 (a 36) (a 37))))))), ((a 36), .inr (4, [.ref (a 38), .ref (a 39), .int 0, .int 0, .int 0, .int 0])), ((a 38), .inl (k 1, 4, .inl (fun _ => 0))), ((a 39), .inl (k 1, 4, .inl (fun _ => 0))), ((a 37), .inr (4, [.ref (a 40), .ref (a 41), .int 0, .int 0, .int 0, .int 0])), ((a 40), .inl (k 1, 4, .inl (fun _ => 0))), ((a 41), .inl (k 1, 4, .inl (fun _ => 0))), ((a 42), .inl (k 2, 2, .inl (fun _ => 0)))] (fun (r : Int32) (_ : Unit) => (inB p0 0 1 → r = 1) ∧ (¬ (inB p0 0 1) → r = -1001)) (fun (_ : Unit) => []) := by
  intro sz
  refine Met.ofW (cc := cX7_keep) (maxL := 2) (ret := (some .int)) (by decide) rfl ?_
  intro p e s m args below meth c s₁ B hml hv
  obtain ⟨rfl, hsz, hlo, hP, hK, hDL, hZ⟩ := hv
  have hx := B.exec
  have hb := B.bytes
  have hr := B.returns
  have hts := WS_ts B.pre
  have hown : s.vm.findClass RX7 = some m.cls := findClass_of_methodNamed B.named
  have hlocks := B.notSynchronized
  subst hsz
  have hD := hDL.self (sz := s.heap.size)
  have hAlo := A_lo hDL hlo
  generalize hAe : va_A [((a 0), .inr (7, [.ref (a 1), .ref (a 3), .ref (a 19), .ref (a 20), .ref (a 25), .int 0, .int (-1), .ref (a 32), .ref (a 35), .ref (a 42), .ref (a 43), .ref (a 44)])), ((a 32), .inr (4, [.ref (a 33), .ref (a 34), .int 0, .int 0, .int 0, .int 0])), ((a 33), .inl (k 1, 4, .inl (fun _ => 0))), ((a 34), .inl (k 1, 4, .inl (fun _ => 0))), ((a 35), .inl (k 6, 2, .inr (.inr (.inr (.inr (a2 (a 36) (a 37))))))), ((a 36), .inr (4, [.ref (a 38), .ref (a 39), .int 0, .int 0, .int 0, .int 0])), ((a 38), .inl (k 1, 4, .inl (fun _ => 0))), ((a 39), .inl (k 1, 4, .inl (fun _ => 0))), ((a 37), .inr (4, [.ref (a 40), .ref (a 41), .int 0, .int 0, .int 0, .int 0])), ((a 40), .inl (k 1, 4, .inl (fun _ => 0))), ((a 41), .inl (k 1, 4, .inl (fun _ => 0))), ((a 42), .inl (k 2, 2, .inl (fun _ => 0)))] s.heap.size = A at hD hAlo ⊢
  have hA : ∀ q : Nat, s.heap.size ≤ q → A q := fun q h => by rw [← hAe]; exact Or.inr h
  have hS : va_S A s.heap s.heap [] := va_S.rf
  have hl := lv_entry ([.ref (a 0), .int p0]) (n := 2) (Nat.le_of_ble_eq_true rfl)
  rw [lg_entry_eq]
  generalize (lg_sl ([.ref (a 0), .int p0]) ++ List.replicate (2 - (lg_sl ([.ref (a 0), .int p0])).length) Slot.unset).toArray = ls at hl ⊢
  have hl : lv_has ls 2 [(0, .ref (a 0)), (1, .int p0)] := hl
  refine lv_iload_n hx hb dX7_keep_0 rfl (lv_at hl 1 rfl) ?_
  refine lv_iconst (v := 0) hx hb dX7_keep_1 (by decide) ?_
  refine lv_iconst (v := 1) hx hb dX7_keep_2 (by decide) ?_
  refine ro_i (D := D) (va_runS (As := [.int p0, .int 0, .int 1]) (rest := []) ⟨hx, hb, hml, hown, hts⟩ ((k_isIn l D k st lo p0 0 1) s.heap.size) (va_cwS 3 hts (gS tw_593 tw_594 tw_79 tw_595) rfl rfl rfl (by decide +kernel) ⟨Nat.le_of_ble_eq_true rfl, Nat.le_of_ble_eq_true rfl⟩) (pS hS hAlo hlo hP hK (va_Dlo hD hAlo) hZ [] (by decide) rfl) rfl rfl hl.1 rfl (lv_room (Nat.le_of_ble_eq_true rfl)) dX7_keep_3 ⟨Nat.le_of_ble_eq_true rfl, Nat.le_of_ble_eq_true rfl⟩) hS hA hP (fun r_1 H locs hw_1 hP hS => ?_)
  try dsimp only at hw_1
  rcases hw_1 with ⟨rfl, hw_1⟩ | ⟨rfl, hw_1⟩
  · refine lv_if_ne (tgt := 13) hx hb dX7_keep_6 (by decide) (fun _ => ?_) (fun h => absurd h (by decide))
    refine lv_aload_n hx hb dX7_keep_13 rfl (lv_at hl 0 rfl) ?_
    refine va_get (D := D) (ci := 7) (v := .ref (a 35)) (C := RX7) (T := TX7) (N := 12) hx hb hts inX7 hown hK hP 0 rfl rfl 8 (by decide) (hts _ tw_313) (fun _ h9 => h9) rfl dX7_keep_14 ?_
    refine lv_iload_n hx hb dX7_keep_17 rfl (lv_at hl 1 rfl) ?_
    rcases spl2 hw_1 with rfl | rfl
    · refine va_aldq hx hb hK hP 4 6 rfl rfl (by unfold vp_in; decide) dX7_keep_18 ?_
      refine lv_tr (y := .ref (a 36)) rfl ?_
      refine lv_aload_n hx hb dX7_keep_19 rfl (lv_at hl 0 rfl) ?_
      refine va_get (D := D) (ci := 7) (v := .ref (a 32)) (C := RX7) (T := TX7) (N := 12) hx hb hts inX7 hown hK hP 0 rfl rfl 7 (by decide) (hts _ tw_312) (fun _ h9 => h9) rfl dX7_keep_20 ?_
      refine rw_v (D := D) (wr := [((a 0), .inr (7, [.ref (a 1), .ref (a 3), .ref (a 19), .ref (a 20), .ref (a 25), .int 0, .int (-1), .ref (a 32), .ref (a 35), .ref (a 42), .ref (a 43), .ref (a 44)])), ((a 35), .inl (k 6, 2, .inr (.inr (.inr (.inr (a2 (a 36) (a 37))))))), ((a 37), .inr (4, [.ref (a 40), .ref (a 41), .int 0, .int 0, .int 0, .int 0])), ((a 40), .inl (k 1, 4, .inl (fun _ => 0))), ((a 41), .inl (k 1, 4, .inl (fun _ => 0))), ((a 42), .inl (k 2, 2, .inl (fun _ => 0)))]) (va_runV (As := [.ref (a 32)]) (rest := []) ⟨hx, hb, hml, hown, hts⟩ ((k_copyFrom l D k st lo (a 36) (a 38) (a 39) (a 32) (a 33) (a 34) (fun _ => 0) (fun _ => 0) (fun _ => 0) (fun _ => 0)) H.size) (cwV 1 hts (gV tw_955 tw_956 tw_957 tw_82 tw_958) rfl rfl rfl (by decide +kernel) ⟨Nat.le_of_ble_eq_true rfl, Nat.le_of_ble_eq_true rfl⟩) (pV hS hAlo hlo hP hK (va_Dlo hD hAlo) hZ [5, 6, 7, 1, 2, 3] (by decide) rfl (ci := 4) (q0 := 0) rfl rfl) rfl rfl hl.1 rfl (lv_room (Nat.le_of_ble_eq_true rfl)) dX7_keep_23 ⟨Nat.le_of_ble_eq_true rfl, Nat.le_of_ble_eq_true rfl⟩) hS hA hP hD [5, 6, 7, 1, 2, 3] [0, 4, 8, 9, 10, 11] rfl rfl (by decide) (by decide) (fun u H locs hw_2 hP hD hS => ?_)
      have hP : va_P D classes [((a 0), .inr (7, [.ref (a 1), .ref (a 3), .ref (a 19), .ref (a 20), .ref (a 25), .int 0, .int (-1), .ref (a 32), .ref (a 35), .ref (a 42), .ref (a 43), .ref (a 44)])), ((a 35), .inl (k 6, 2, .inr (.inr (.inr (.inr (a2 (a 36) (a 37))))))), ((a 37), .inr (4, [.ref (a 40), .ref (a 41), .int 0, .int 0, .int 0, .int 0])), ((a 40), .inl (k 1, 4, .inl (fun _ => 0))), ((a 41), .inl (k 1, 4, .inl (fun _ => 0))), ((a 42), .inl (k 2, 2, .inl (fun _ => 0)))] H := hP
      have hD : va_D A [((a 0), .inr (7, [.ref (a 1), .ref (a 3), .ref (a 19), .ref (a 20), .ref (a 25), .int 0, .int (-1), .ref (a 32), .ref (a 35), .ref (a 42), .ref (a 43), .ref (a 44)])), ((a 35), .inl (k 6, 2, .inr (.inr (.inr (.inr (a2 (a 36) (a 37))))))), ((a 37), .inr (4, [.ref (a 40), .ref (a 41), .int 0, .int 0, .int 0, .int 0])), ((a 40), .inl (k 1, 4, .inl (fun _ => 0))), ((a 41), .inl (k 1, 4, .inl (fun _ => 0))), ((a 42), .inl (k 2, 2, .inl (fun _ => 0)))] := hD
      try dsimp only at hw_2
      refine lv_aload_n hx hb dX7_keep_26 rfl (lv_at hl 0 rfl) ?_
      refine va_get (D := D) (ci := 7) (v := .ref (a 42)) (C := RX7) (T := TX7) (N := 12) hx hb hts inX7 hown hK hP 0 rfl rfl 9 (by decide) (hts _ tw_314) (fun _ h9 => h9) rfl dX7_keep_27 ?_
      refine lv_iload_n hx hb dX7_keep_30 rfl (lv_at hl 1 rfl) ?_
      refine lv_iconst (v := 1) hx hb dX7_keep_31 (by decide) ?_
      refine va_zast hx hb hK hP hD hS 5 2 rfl rfl (by unfold vp_in; decide) dX7_keep_32 (fun H locs hP hD hS => ?_)
      have hP : va_P D classes [((a 0), .inr (7, [.ref (a 1), .ref (a 3), .ref (a 19), .ref (a 20), .ref (a 25), .int 0, .int (-1), .ref (a 32), .ref (a 35), .ref (a 42), .ref (a 43), .ref (a 44)])), ((a 35), .inl (k 6, 2, .inr (.inr (.inr (.inr (a2 (a 36) (a 37))))))), ((a 37), .inr (4, [.ref (a 40), .ref (a 41), .int 0, .int 0, .int 0, .int 0])), ((a 40), .inl (k 1, 4, .inl (fun _ => 0))), ((a 41), .inl (k 1, 4, .inl (fun _ => 0))), ((a 42), .inl (k 2, 2, .inl (upd (fun _ => 0) (Int32.toNatClampNeg 0) (vp_nar .boolean 1))))] H := hP
      have hD : va_D A [((a 0), .inr (7, [.ref (a 1), .ref (a 3), .ref (a 19), .ref (a 20), .ref (a 25), .int 0, .int (-1), .ref (a 32), .ref (a 35), .ref (a 42), .ref (a 43), .ref (a 44)])), ((a 35), .inl (k 6, 2, .inr (.inr (.inr (.inr (a2 (a 36) (a 37))))))), ((a 37), .inr (4, [.ref (a 40), .ref (a 41), .int 0, .int 0, .int 0, .int 0])), ((a 40), .inl (k 1, 4, .inl (fun _ => 0))), ((a 41), .inl (k 1, 4, .inl (fun _ => 0))), ((a 42), .inl (k 2, 2, .inl (upd (fun _ => 0) (Int32.toNatClampNeg 0) (vp_nar .boolean 1))))] := hD
      generalize (upd (fun _ => 0) (Int32.toNatClampNeg 0) (vp_nar .boolean 1)) = f_3 at hP hD
      refine lv_iconst (v := 1) hx hb dX7_keep_33 (by decide) ?_
      have hP9 := hP.sub (ws' := []) [] rfl
      have hD9 := hD.sub (ws' := []) [] (by decide) rfl
      exact W.iret (v := 1) hx hb hr (fun t ht hW => ⟨⟨1, (), rfl, ⟨fun _ => rfl, fun h => absurd ⟨by decide, by decide⟩ h⟩, by rw [ht]; exact hP9, hD9⟩, hS.F ht⟩) hS.2.2 dX7_keep_34
    · refine va_aldq hx hb hK hP 4 6 rfl rfl (by unfold vp_in; decide) dX7_keep_18 ?_
      refine lv_tr (y := .ref (a 37)) rfl ?_
      refine lv_aload_n hx hb dX7_keep_19 rfl (lv_at hl 0 rfl) ?_
      refine va_get (D := D) (ci := 7) (v := .ref (a 32)) (C := RX7) (T := TX7) (N := 12) hx hb hts inX7 hown hK hP 0 rfl rfl 7 (by decide) (hts _ tw_312) (fun _ h9 => h9) rfl dX7_keep_20 ?_
      refine rw_v (D := D) (wr := [((a 0), .inr (7, [.ref (a 1), .ref (a 3), .ref (a 19), .ref (a 20), .ref (a 25), .int 0, .int (-1), .ref (a 32), .ref (a 35), .ref (a 42), .ref (a 43), .ref (a 44)])), ((a 35), .inl (k 6, 2, .inr (.inr (.inr (.inr (a2 (a 36) (a 37))))))), ((a 36), .inr (4, [.ref (a 38), .ref (a 39), .int 0, .int 0, .int 0, .int 0])), ((a 38), .inl (k 1, 4, .inl (fun _ => 0))), ((a 39), .inl (k 1, 4, .inl (fun _ => 0))), ((a 42), .inl (k 2, 2, .inl (fun _ => 0)))]) (va_runV (As := [.ref (a 32)]) (rest := []) ⟨hx, hb, hml, hown, hts⟩ ((k_copyFrom l D k st lo (a 37) (a 40) (a 41) (a 32) (a 33) (a 34) (fun _ => 0) (fun _ => 0) (fun _ => 0) (fun _ => 0)) H.size) (cwV 1 hts (gV tw_955 tw_956 tw_957 tw_82 tw_958) rfl rfl rfl (by decide +kernel) ⟨Nat.le_of_ble_eq_true rfl, Nat.le_of_ble_eq_true rfl⟩) (pV hS hAlo hlo hP hK (va_Dlo hD hAlo) hZ [8, 9, 10, 1, 2, 3] (by decide) rfl (ci := 4) (q0 := 0) rfl rfl) rfl rfl hl.1 rfl (lv_room (Nat.le_of_ble_eq_true rfl)) dX7_keep_23 ⟨Nat.le_of_ble_eq_true rfl, Nat.le_of_ble_eq_true rfl⟩) hS hA hP hD [8, 9, 10, 1, 2, 3] [0, 4, 5, 6, 7, 11] rfl rfl (by decide) (by decide) (fun u H locs hw_4 hP hD hS => ?_)
      have hP : va_P D classes [((a 0), .inr (7, [.ref (a 1), .ref (a 3), .ref (a 19), .ref (a 20), .ref (a 25), .int 0, .int (-1), .ref (a 32), .ref (a 35), .ref (a 42), .ref (a 43), .ref (a 44)])), ((a 35), .inl (k 6, 2, .inr (.inr (.inr (.inr (a2 (a 36) (a 37))))))), ((a 36), .inr (4, [.ref (a 38), .ref (a 39), .int 0, .int 0, .int 0, .int 0])), ((a 38), .inl (k 1, 4, .inl (fun _ => 0))), ((a 39), .inl (k 1, 4, .inl (fun _ => 0))), ((a 42), .inl (k 2, 2, .inl (fun _ => 0)))] H := hP
      have hD : va_D A [((a 0), .inr (7, [.ref (a 1), .ref (a 3), .ref (a 19), .ref (a 20), .ref (a 25), .int 0, .int (-1), .ref (a 32), .ref (a 35), .ref (a 42), .ref (a 43), .ref (a 44)])), ((a 35), .inl (k 6, 2, .inr (.inr (.inr (.inr (a2 (a 36) (a 37))))))), ((a 36), .inr (4, [.ref (a 38), .ref (a 39), .int 0, .int 0, .int 0, .int 0])), ((a 38), .inl (k 1, 4, .inl (fun _ => 0))), ((a 39), .inl (k 1, 4, .inl (fun _ => 0))), ((a 42), .inl (k 2, 2, .inl (fun _ => 0)))] := hD
      try dsimp only at hw_4
      refine lv_aload_n hx hb dX7_keep_26 rfl (lv_at hl 0 rfl) ?_
      refine va_get (D := D) (ci := 7) (v := .ref (a 42)) (C := RX7) (T := TX7) (N := 12) hx hb hts inX7 hown hK hP 0 rfl rfl 9 (by decide) (hts _ tw_314) (fun _ h9 => h9) rfl dX7_keep_27 ?_
      refine lv_iload_n hx hb dX7_keep_30 rfl (lv_at hl 1 rfl) ?_
      refine lv_iconst (v := 1) hx hb dX7_keep_31 (by decide) ?_
      refine va_zast hx hb hK hP hD hS 5 2 rfl rfl (by unfold vp_in; decide) dX7_keep_32 (fun H locs hP hD hS => ?_)
      have hP : va_P D classes [((a 0), .inr (7, [.ref (a 1), .ref (a 3), .ref (a 19), .ref (a 20), .ref (a 25), .int 0, .int (-1), .ref (a 32), .ref (a 35), .ref (a 42), .ref (a 43), .ref (a 44)])), ((a 35), .inl (k 6, 2, .inr (.inr (.inr (.inr (a2 (a 36) (a 37))))))), ((a 36), .inr (4, [.ref (a 38), .ref (a 39), .int 0, .int 0, .int 0, .int 0])), ((a 38), .inl (k 1, 4, .inl (fun _ => 0))), ((a 39), .inl (k 1, 4, .inl (fun _ => 0))), ((a 42), .inl (k 2, 2, .inl (upd (fun _ => 0) (Int32.toNatClampNeg 1) (vp_nar .boolean 1))))] H := hP
      have hD : va_D A [((a 0), .inr (7, [.ref (a 1), .ref (a 3), .ref (a 19), .ref (a 20), .ref (a 25), .int 0, .int (-1), .ref (a 32), .ref (a 35), .ref (a 42), .ref (a 43), .ref (a 44)])), ((a 35), .inl (k 6, 2, .inr (.inr (.inr (.inr (a2 (a 36) (a 37))))))), ((a 36), .inr (4, [.ref (a 38), .ref (a 39), .int 0, .int 0, .int 0, .int 0])), ((a 38), .inl (k 1, 4, .inl (fun _ => 0))), ((a 39), .inl (k 1, 4, .inl (fun _ => 0))), ((a 42), .inl (k 2, 2, .inl (upd (fun _ => 0) (Int32.toNatClampNeg 1) (vp_nar .boolean 1))))] := hD
      generalize (upd (fun _ => 0) (Int32.toNatClampNeg 1) (vp_nar .boolean 1)) = f_5 at hP hD
      refine lv_iconst (v := 1) hx hb dX7_keep_33 (by decide) ?_
      have hP9 := hP.sub (ws' := []) [] rfl
      have hD9 := hD.sub (ws' := []) [] (by decide) rfl
      exact W.iret (v := 1) hx hb hr (fun t ht hW => ⟨⟨1, (), rfl, ⟨fun _ => rfl, fun h => absurd ⟨by decide, by decide⟩ h⟩, by rw [ht]; exact hP9, hD9⟩, hS.F ht⟩) hS.2.2 dX7_keep_34
  · refine lv_if_ne (tgt := 13) hx hb dX7_keep_6 (by decide) (fun h => absurd (by decide) h) (fun _ => ?_)
    refine lv_sipush (v := (-1001)) hx hb dX7_keep_9 (by decide) ?_
    have hP9 := hP.sub (ws' := []) [] rfl
    have hD9 := hD.sub (ws' := []) [] (by decide) rfl
    exact W.iret (v := (-1001)) hx hb hr (fun t ht hW => ⟨⟨(-1001), (), rfl, ⟨fun h => absurd h hw_1, fun _ => rfl⟩, by rw [ht]; exact hP9, hD9⟩, hS.F ht⟩) hS.2.2 dX7_keep_12


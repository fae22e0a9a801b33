theorem dL_law_363 : decode code 363 = .ok (.aload_n 1, 1) := by decide +kernel
theorem dL_law_364 : decode code 364 = .ok (.aload_n 0, 1) := by decide +kernel
theorem dL_law_365 : decode code 365 = .ok (.iload_n 3, 1) := by decide +kernel
theorem dL_law_366 : decode code 366 = .ok (.iconst 1, 1) := by decide +kernel
theorem dL_law_367 : decode code 367 = .ok (.iadd, 1) := by decide +kernel
theorem dL_law_368 : decode code 368 = .ok (.iaload, 1) := by decide +kernel
theorem dL_law_369 : decode code 369 = .ok (.aload_n 0, 1) := by decide +kernel
theorem dL_law_370 : decode code 370 = .ok (.iload_n 3, 1) := by decide +kernel
theorem dL_law_371 : decode code 371 = .ok (.iconst 2, 1) := by decide +kernel
theorem dL_law_372 : decode code 372 = .ok (.iadd, 1) := by decide +kernel
theorem dL_law_373 : decode code 373 = .ok (.iaload, 1) := by decide +kernel
theorem dL_law_374 : decode code 374 = .ok (.aload_n 0, 1) := by decide +kernel
theorem dL_law_375 : decode code 375 = .ok (.iload_n 3, 1) := by decide +kernel
theorem dL_law_376 : decode code 376 = .ok (.iconst 3, 1) := by decide +kernel
theorem dL_law_377 : decode code 377 = .ok (.iadd, 1) := by decide +kernel
theorem dL_law_378 : decode code 378 = .ok (.iaload, 1) := by decide +kernel
theorem dL_law_379 : decode code 379 = .ok (.ifCond .eq 7, 3) := by decide +kernel
theorem dL_law_382 : decode code 382 = .ok (.iconst 1, 1) := by decide +kernel
theorem dL_law_383 : decode code 383 = .ok (.goto 4, 3) := by decide +kernel
theorem dL_law_386 : decode code 386 = .ok (.iconst 0, 1) := by decide +kernel
theorem dL_law_387 : decode code 387 = .ok (.invokevirtual 40, 3) := by decide +kernel
theorem dL_law_390 : decode code 390 = .ok (.aload_n 2, 1) := by decide +kernel
theorem dL_law_391 : decode code 391 = .ok (.aload_n 0, 1) := by decide +kernel
theorem dL_law_392 : decode code 392 = .ok (.iload_n 3, 1) := by decide +kernel
theorem dL_law_393 : decode code 393 = .ok (.iconst 1, 1) := by decide +kernel
theorem dL_law_394 : decode code 394 = .ok (.iadd, 1) := by decide +kernel
theorem dL_law_395 : decode code 395 = .ok (.iaload, 1) := by decide +kernel
theorem dL_law_396 : decode code 396 = .ok (.aload_n 0, 1) := by decide +kernel
theorem dL_law_397 : decode code 397 = .ok (.iload_n 3, 1) := by decide +kernel
theorem dL_law_398 : decode code 398 = .ok (.iconst 2, 1) := by decide +kernel
theorem dL_law_399 : decode code 399 = .ok (.iadd, 1) := by decide +kernel
theorem dL_law_400 : decode code 400 = .ok (.iaload, 1) := by decide +kernel
theorem dL_law_401 : decode code 401 = .ok (.aload_n 0, 1) := by decide +kernel
theorem dL_law_402 : decode code 402 = .ok (.iload_n 3, 1) := by decide +kernel
theorem dL_law_403 : decode code 403 = .ok (.iconst 3, 1) := by decide +kernel
theorem dL_law_404 : decode code 404 = .ok (.iadd, 1) := by decide +kernel
theorem dL_law_405 : decode code 405 = .ok (.iaload, 1) := by decide +kernel
theorem dL_law_406 : decode code 406 = .ok (.ifCond .eq 7, 3) := by decide +kernel
theorem dL_law_409 : decode code 409 = .ok (.iconst 1, 1) := by decide +kernel
theorem dL_law_410 : decode code 410 = .ok (.goto 4, 3) := by decide +kernel
theorem dL_law_413 : decode code 413 = .ok (.iconst 0, 1) := by decide +kernel
theorem dL_law_414 : decode code 414 = .ok (.invokevirtual 44, 3) := by decide +kernel
theorem dL_law_417 : decode code 417 = .ok (.if_icmp .eq 1088, 3) := by decide +kernel
set_option maxHeartbeats 4000000 in
set_option maxRecDepth 100000 in
theorem law_c5 {p : Program} {l : Launch} {e : Env} {s : State} {m : MethodId} {below : List Frame} {meth : Method} {c : Code} {b : Nat} {xs : Nat → Int32} {H : Heap} {locs : List Loc} {ls : Array Slot} (hx : p.tables.exec = Jvm.exec) (hb : c.code = code) (hr : meth.sig.returnType = ret) (hlocks : meth.locks = false) {D : va_G} {k : Nat → ClassId} {st : Nat → Nat} {lo : Nat} {ax am : Nat → Nat} {g0 : Nat → Int32} (hml : c.maxLocals = 4) (hown : s.vm.findClass R_law = some m.cls) (hts : ∀ w ∈ LW, w.before #[Value.ref b] s = true) (hbl : b < s.heap.size) (hlo : lo ≤ s.heap.size) (hZ : Zs st lo s s.heap) (hK : va_K D classes (TY k) s) (hX : va_X b 8 xs s s.heap) (hP : va_P D classes (LWd k ax am g0) H) (hD : va_D (fun q : Nat => s.heap.size ≤ q) (LWd k ax am g0)) (hS : va_S (fun q : Nat => s.heap.size ≤ q) s.heap H locs) (hl : lv_has ls 4 [(3, .int 0), (2, .ref (am 0)), (1, .ref (ax 0)), (0, .ref b)]) : W p l e room_1 s m #[Value.ref b] below meth c H locs 102 5857 (lw_Z below #[Value.ref b] s) (F0 m 363 ls []) := by
  have hA : ∀ q : Nat, s.heap.size ≤ q → (fun q : Nat => s.heap.size ≤ q) q := fun _ h => h
  have hAlo : ∀ q : Nat, (fun q : Nat => s.heap.size ≤ q) q → lo ≤ q := fun q h => Nat.le_trans hlo h
  have hbA : ¬ (fun q : Nat => s.heap.size ≤ q) b := Nat.not_le.mpr hbl
  have hP := hP.sub (ws' := [((ax 0), .inr (7, [.ref (ax 1), .ref (ax 3), .ref (ax 19), .ref (ax 20), .ref (ax 25), .int 0, .int (-1), .ref (ax 32), .ref (ax 35), .ref (ax 42), .ref (ax 43), .ref (ax 44)])), ((ax 3), .inl (k 3, 3, .inr (.inr (.inr (.inr (a3 (ax 4) (ax 5) (ax 6))))))), ((ax 4), .inr (5, [.ref (ax 7), .ref (ax 10), .ref (ax 13), .ref (ax 16)])), ((ax 5), .inr (5, [.ref (ax 8), .ref (ax 11), .ref (ax 14), .ref (ax 17)])), ((ax 6), .inr (5, [.ref (ax 9), .ref (ax 12), .ref (ax 15), .ref (ax 18)])), ((ax 7), .inl (k 1, 10, .inl (fun _ => 0))), ((ax 8), .inl (k 1, 10, .inl (fun _ => 0))), ((ax 9), .inl (k 1, 10, .inl (fun _ => 0))), ((am 0), .inr (8, [.ref (am 1), .ref (am 2), .ref (am 3), .ref (am 4), .ref (am 5), .int 0, .int (-1), .int 0, .long 0, .int 0, .int 0, .int 0, .int 0, .ref (am 14), .ref (am 15), .ref (am 16), .int 0, .ref (am 18), .ref (am 19), .ref (am 20), .ref (am 21), .ref (am 22), .ref (am 23), .int 0, .ref (am 25), .ref (am 26), .ref (am 27), .ref (am 28), .ref (am 29), .ref (am 30), .int 0, .ref (am 32), .ref (am 33), .ref (am 34), .int 0, .ref (am 36), .ref (am 37), .int 0, .int 0, .ref (am 40), .ref (am 41), .int 0, .ref (am 43), .ref (am 44)])), ((am 1), .inl (k 1, 3, .inl (fun _ => 0)))]) [0, 3, 4, 5, 6, 7, 8, 9, 25, 26] rfl
  have hD := hD.sub (ws' := [((ax 0), .inr (7, [.ref (ax 1), .ref (ax 3), .ref (ax 19), .ref (ax 20), .ref (ax 25), .int 0, .int (-1), .ref (ax 32), .ref (ax 35), .ref (ax 42), .ref (ax 43), .ref (ax 44)])), ((ax 3), .inl (k 3, 3, .inr (.inr (.inr (.inr (a3 (ax 4) (ax 5) (ax 6))))))), ((ax 4), .inr (5, [.ref (ax 7), .ref (ax 10), .ref (ax 13), .ref (ax 16)])), ((ax 5), .inr (5, [.ref (ax 8), .ref (ax 11), .ref (ax 14), .ref (ax 17)])), ((ax 6), .inr (5, [.ref (ax 9), .ref (ax 12), .ref (ax 15), .ref (ax 18)])), ((ax 7), .inl (k 1, 10, .inl (fun _ => 0))), ((ax 8), .inl (k 1, 10, .inl (fun _ => 0))), ((ax 9), .inl (k 1, 10, .inl (fun _ => 0))), ((am 0), .inr (8, [.ref (am 1), .ref (am 2), .ref (am 3), .ref (am 4), .ref (am 5), .int 0, .int (-1), .int 0, .long 0, .int 0, .int 0, .int 0, .int 0, .ref (am 14), .ref (am 15), .ref (am 16), .int 0, .ref (am 18), .ref (am 19), .ref (am 20), .ref (am 21), .ref (am 22), .ref (am 23), .int 0, .ref (am 25), .ref (am 26), .ref (am 27), .ref (am 28), .ref (am 29), .ref (am 30), .int 0, .ref (am 32), .ref (am 33), .ref (am 34), .int 0, .ref (am 36), .ref (am 37), .int 0, .int 0, .ref (am 40), .ref (am 41), .int 0, .ref (am 43), .ref (am 44)])), ((am 1), .inl (k 1, 3, .inl (fun _ => 0)))]) [0, 3, 4, 5, 6, 7, 8, 9, 25, 26] (by decide) rfl
  refine lv_aload_n hx hb dL_law_363 rfl (lv_at hl 2 rfl) ?_
  refine lv_aload_n hx hb dL_law_364 rfl (lv_at hl 3 rfl) ?_
  refine lv_iload_n hx hb dL_law_365 rfl (lv_at hl 0 rfl) ?_
  refine lv_iconst (v := 1) hx hb dL_law_366 (by decide) ?_
  refine lv_iadd hx hb dL_law_367 ?_
  refine lv_ti (y := 1) (by decide) ?_
  refine va_sld hx hb hX hbl hbA hS (by unfold vp_in; decide) dL_law_368 ?_
  refine lv_ti (y := xs 1) (by rfl) ?_
  refine lv_aload_n hx hb dL_law_369 rfl (lv_at hl 3 rfl) ?_
  refine lv_iload_n hx hb dL_law_370 rfl (lv_at hl 0 rfl) ?_
  refine lv_iconst (v := 2) hx hb dL_law_371 (by decide) ?_
  refine lv_iadd hx hb dL_law_372 ?_
  refine lv_ti (y := 2) (by decide) ?_
  refine va_sld hx hb hX hbl hbA hS (by unfold vp_in; decide) dL_law_373 ?_
  refine lv_ti (y := xs 2) (by rfl) ?_
  refine lv_aload_n hx hb dL_law_374 rfl (lv_at hl 3 rfl) ?_
  refine lv_iload_n hx hb dL_law_375 rfl (lv_at hl 0 rfl) ?_
  refine lv_iconst (v := 3) hx hb dL_law_376 (by decide) ?_
  refine lv_iadd hx hb dL_law_377 ?_
  refine lv_ti (y := 3) (by decide) ?_
  refine va_sld hx hb hX hbl hbA hS (by unfold vp_in; decide) dL_law_378 ?_
  refine lv_ti (y := xs 3) (by rfl) ?_
  refine lv_if_eq (tgt := 386) hx hb dL_law_379 (by decide) (fun c_1 => ?_) (fun c_1 => ?_)
  · refine lv_iconst (v := 0) hx hb dL_law_386 (by decide) ?_
    refine ro_i (D := D) (va_runV (As := [.int (xs 1), .int (xs 2), .int 0]) (rest := []) ⟨hx, hb, hml, hown, hts⟩ ((k_chance l D k st lo ax (xs 1) (xs 2) 0) H.size) (cwV 3 hts (gV tw_604 tw_605 tw_606 tw_79 tw_607) rfl rfl rfl (by decide +kernel) ⟨Nat.le_of_ble_eq_true rfl, Nat.le_of_ble_eq_true rfl⟩) (pV hS hAlo hlo hP hK (va_Dlo hD hAlo) hZ [0, 1, 2, 3, 4, 5, 6, 7] (by decide) rfl (ci := 7) (q0 := 0) rfl rfl) rfl rfl hl.1 rfl (lv_room (Nat.le_of_ble_eq_true rfl)) dL_law_387 ⟨Nat.le_of_ble_eq_true rfl, Nat.le_of_ble_eq_true rfl⟩) hS hA hP (fun r_2 H locs hw_2 hP hS => ?_)
    try dsimp only at hw_2
    subst hw_2
    refine lv_aload_n hx hb dL_law_390 rfl (lv_at hl 1 rfl) ?_
    refine lv_aload_n hx hb dL_law_391 rfl (lv_at hl 3 rfl) ?_
    refine lv_iload_n hx hb dL_law_392 rfl (lv_at hl 0 rfl) ?_
    refine lv_iconst (v := 1) hx hb dL_law_393 (by decide) ?_
    refine lv_iadd hx hb dL_law_394 ?_
    refine lv_ti (y := 1) (by decide) ?_
    refine va_sld hx hb hX hbl hbA hS (by unfold vp_in; decide) dL_law_395 ?_
    refine lv_ti (y := xs 1) (by rfl) ?_
    refine lv_aload_n hx hb dL_law_396 rfl (lv_at hl 3 rfl) ?_
    refine lv_iload_n hx hb dL_law_397 rfl (lv_at hl 0 rfl) ?_
    refine lv_iconst (v := 2) hx hb dL_law_398 (by decide) ?_
    refine lv_iadd hx hb dL_law_399 ?_
    refine lv_ti (y := 2) (by decide) ?_
    refine va_sld hx hb hX hbl hbA hS (by unfold vp_in; decide) dL_law_400 ?_
    refine lv_ti (y := xs 2) (by rfl) ?_
    refine lv_aload_n hx hb dL_law_401 rfl (lv_at hl 3 rfl) ?_
    refine lv_iload_n hx hb dL_law_402 rfl (lv_at hl 0 rfl) ?_
    refine lv_iconst (v := 3) hx hb dL_law_403 (by decide) ?_
    refine lv_iadd hx hb dL_law_404 ?_
    refine lv_ti (y := 3) (by decide) ?_
    refine va_sld hx hb hX hbl hbA hS (by unfold vp_in; decide) dL_law_405 ?_
    refine lv_ti (y := xs 3) (by rfl) ?_
    refine lv_if_eq (tgt := 413) hx hb dL_law_406 (by decide) (fun c_3 => ?_) (fun c_3 => ?_)
    · refine lv_iconst (v := 0) hx hb dL_law_413 (by decide) ?_
      refine ro_i (D := D) (va_runV (As := [.int (xs 1), .int (xs 2), .int 0]) (rest := [.int (-1001)]) ⟨hx, hb, hml, hown, hts⟩ ((k_m_chance l D k st lo am (xs 1) (xs 2) 0) H.size) (cwV 3 hts (gV tw_1206 tw_1207 tw_1208 tw_87 tw_1209) rfl rfl rfl (by decide +kernel) ⟨Nat.le_of_ble_eq_true rfl, Nat.le_of_ble_eq_true rfl⟩) (pV hS hAlo hlo hP hK (va_Dlo hD hAlo) hZ [8, 9] (by decide) rfl (ci := 8) (q0 := 0) rfl rfl) rfl rfl hl.1 rfl (lv_room (Nat.le_of_ble_eq_true rfl)) dL_law_414 ⟨Nat.le_of_ble_eq_true rfl, Nat.le_of_ble_eq_true rfl⟩) hS hA hP (fun r_4 H locs hw_4 hP hS => ?_)
      try dsimp only at hw_4
      subst hw_4
      refine lv_icmp_eq (tgt := 1505) hx hb dL_law_417 (by decide) (fun _ => ?_) (fun h => absurd (by decide) h)
      refine W.widen (k := 102) (n := 5857) (by decide) (by decide) ?_
      exact law_tail hx hb hr hlocks hX hbl hS (lv_sub hl [0, 3] rfl)
    · refine lv_iconst (v := 1) hx hb dL_law_409 (by decide) ?_
      refine lv_goto (tgt := 414) hx hb dL_law_410 (by decide) ?_
      refine ro_i (D := D) (va_runV (As := [.int (xs 1), .int (xs 2), .int 1]) (rest := [.int (-1001)]) ⟨hx, hb, hml, hown, hts⟩ ((k_m_chance l D k st lo am (xs 1) (xs 2) 1) H.size) (cwV 3 hts (gV tw_1206 tw_1207 tw_1208 tw_87 tw_1209) rfl rfl rfl (by decide +kernel) ⟨Nat.le_of_ble_eq_true rfl, Nat.le_of_ble_eq_true rfl⟩) (pV hS hAlo hlo hP hK (va_Dlo hD hAlo) hZ [8, 9] (by decide) rfl (ci := 8) (q0 := 0) rfl rfl) rfl rfl hl.1 rfl (lv_room (Nat.le_of_ble_eq_true rfl)) dL_law_414 ⟨Nat.le_of_ble_eq_true rfl, Nat.le_of_ble_eq_true rfl⟩) hS hA hP (fun r_5 H locs hw_5 hP hS => ?_)
      try dsimp only at hw_5
      subst hw_5
      refine lv_icmp_eq (tgt := 1505) hx hb dL_law_417 (by decide) (fun _ => ?_) (fun h => absurd (by decide) h)
      refine W.widen (k := 102) (n := 5857) (by decide) (by decide) ?_
      exact law_tail hx hb hr hlocks hX hbl hS (lv_sub hl [0, 3] rfl)
  · refine lv_iconst (v := 1) hx hb dL_law_382 (by decide) ?_
    refine lv_goto (tgt := 387) hx hb dL_law_383 (by decide) ?_
    refine ro_i (D := D) (va_runV (As := [.int (xs 1), .int (xs 2), .int 1]) (rest := []) ⟨hx, hb, hml, hown, hts⟩ ((k_chance l D k st lo ax (xs 1) (xs 2) 1) H.size) (cwV 3 hts (gV tw_604 tw_605 tw_606 tw_79 tw_607) rfl rfl rfl (by decide +kernel) ⟨Nat.le_of_ble_eq_true rfl, Nat.le_of_ble_eq_true rfl⟩) (pV hS hAlo hlo hP hK (va_Dlo hD hAlo) hZ [0, 1, 2, 3, 4, 5, 6, 7] (by decide) rfl (ci := 7) (q0 := 0) rfl rfl) rfl rfl hl.1 rfl (lv_room (Nat.le_of_ble_eq_true rfl)) dL_law_387 ⟨Nat.le_of_ble_eq_true rfl, Nat.le_of_ble_eq_true rfl⟩) hS hA hP (fun r_6 H locs hw_6 hP hS => ?_)
    try dsimp only at hw_6
    subst hw_6
    refine lv_aload_n hx hb dL_law_390 rfl (lv_at hl 1 rfl) ?_
    refine lv_aload_n hx hb dL_law_391 rfl (lv_at hl 3 rfl) ?_
    refine lv_iload_n hx hb dL_law_392 rfl (lv_at hl 0 rfl) ?_
    refine lv_iconst (v := 1) hx hb dL_law_393 (by decide) ?_
    refine lv_iadd hx hb dL_law_394 ?_
    refine lv_ti (y := 1) (by decide) ?_
    refine va_sld hx hb hX hbl hbA hS (by unfold vp_in; decide) dL_law_395 ?_
    refine lv_ti (y := xs 1) (by rfl) ?_
    refine lv_aload_n hx hb dL_law_396 rfl (lv_at hl 3 rfl) ?_
    refine lv_iload_n hx hb dL_law_397 rfl (lv_at hl 0 rfl) ?_
    refine lv_iconst (v := 2) hx hb dL_law_398 (by decide) ?_
    refine lv_iadd hx hb dL_law_399 ?_
    refine lv_ti (y := 2) (by decide) ?_
    refine va_sld hx hb hX hbl hbA hS (by unfold vp_in; decide) dL_law_400 ?_
    refine lv_ti (y := xs 2) (by rfl) ?_
    refine lv_aload_n hx hb dL_law_401 rfl (lv_at hl 3 rfl) ?_
    refine lv_iload_n hx hb dL_law_402 rfl (lv_at hl 0 rfl) ?_
    refine lv_iconst (v := 3) hx hb dL_law_403 (by decide) ?_
    refine lv_iadd hx hb dL_law_404 ?_
    refine lv_ti (y := 3) (by decide) ?_
    refine va_sld hx hb hX hbl hbA hS (by unfold vp_in; decide) dL_law_405 ?_
    refine lv_ti (y := xs 3) (by rfl) ?_
    refine lv_if_eq (tgt := 413) hx hb dL_law_406 (by decide) (fun c_7 => ?_) (fun c_7 => ?_)
    · refine lv_iconst (v := 0) hx hb dL_law_413 (by decide) ?_
      refine ro_i (D := D) (va_runV (As := [.int (xs 1), .int (xs 2), .int 0]) (rest := [.int (-1001)]) ⟨hx, hb, hml, hown, hts⟩ ((k_m_chance l D k st lo am (xs 1) (xs 2) 0) H.size) (cwV 3 hts (gV tw_1206 tw_1207 tw_1208 tw_87 tw_1209) rfl rfl rfl (by decide +kernel) ⟨Nat.le_of_ble_eq_true rfl, Nat.le_of_ble_eq_true rfl⟩) (pV hS hAlo hlo hP hK (va_Dlo hD hAlo) hZ [8, 9] (by decide) rfl (ci := 8) (q0 := 0) rfl rfl) rfl rfl hl.1 rfl (lv_room (Nat.le_of_ble_eq_true rfl)) dL_law_414 ⟨Nat.le_of_ble_eq_true rfl, Nat.le_of_ble_eq_true rfl⟩) hS hA hP (fun r_8 H locs hw_8 hP hS => ?_)
      try dsimp only at hw_8
      subst hw_8
      refine lv_icmp_eq (tgt := 1505) hx hb dL_law_417 (by decide) (fun _ => ?_) (fun h => absurd (by decide) h)
      refine W.widen (k := 102) (n := 5857) (by decide) (by decide) ?_
      exact law_tail hx hb hr hlocks hX hbl hS (lv_sub hl [0, 3] rfl)
    · refine lv_iconst (v := 1) hx hb dL_law_409 (by decide) ?_
      refine lv_goto (tgt := 414) hx hb dL_law_410 (by decide) ?_
      refine ro_i (D := D) (va_runV (As := [.int (xs 1), .int (xs 2), .int 1]) (rest := [.int (-1001)]) ⟨hx, hb, hml, hown, hts⟩ ((k_m_chance l D k st lo am (xs 1) (xs 2) 1) H.size) (cwV 3 hts (gV tw_1206 tw_1207 tw_1208 tw_87 tw_1209) rfl rfl rfl (by decide +kernel) ⟨Nat.le_of_ble_eq_true rfl, Nat.le_of_ble_eq_true rfl⟩) (pV hS hAlo hlo hP hK (va_Dlo hD hAlo) hZ [8, 9] (by decide) rfl (ci := 8) (q0 := 0) rfl rfl) rfl rfl hl.1 rfl (lv_room (Nat.le_of_ble_eq_true rfl)) dL_law_414 ⟨Nat.le_of_ble_eq_true rfl, Nat.le_of_ble_eq_true rfl⟩) hS hA hP (fun r_9 H locs hw_9 hP hS => ?_)
      try dsimp only at hw_9
      subst hw_9
      refine lv_icmp_eq (tgt := 1505) hx hb dL_law_417 (by decide) (fun _ => ?_) (fun h => absurd (by decide) h)
      refine W.widen (k := 102) (n := 5857) (by decide) (by decide) ?_
      exact law_tail hx hb hr hlocks hX hbl hS (lv_sub hl [0, 3] rfl)


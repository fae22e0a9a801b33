theorem dL_law_571 : decode code 571 = .ok (.aload_n 1, 1) := by decide +kernel
theorem dL_law_572 : decode code 572 = .ok (.aload_n 0, 1) := by decide +kernel
theorem dL_law_573 : decode code 573 = .ok (.iload_n 3, 1) := by decide +kernel
theorem dL_law_574 : decode code 574 = .ok (.iconst 1, 1) := by decide +kernel
theorem dL_law_575 : decode code 575 = .ok (.iadd, 1) := by decide +kernel
theorem dL_law_576 : decode code 576 = .ok (.iaload, 1) := by decide +kernel
theorem dL_law_577 : decode code 577 = .ok (.aload_n 0, 1) := by decide +kernel
theorem dL_law_578 : decode code 578 = .ok (.iload_n 3, 1) := by decide +kernel
theorem dL_law_579 : decode code 579 = .ok (.iconst 2, 1) := by decide +kernel
theorem dL_law_580 : decode code 580 = .ok (.iadd, 1) := by decide +kernel
theorem dL_law_581 : decode code 581 = .ok (.iaload, 1) := by decide +kernel
theorem dL_law_582 : decode code 582 = .ok (.aload_n 0, 1) := by decide +kernel
theorem dL_law_583 : decode code 583 = .ok (.iload_n 3, 1) := by decide +kernel
theorem dL_law_584 : decode code 584 = .ok (.iconst 3, 1) := by decide +kernel
theorem dL_law_585 : decode code 585 = .ok (.iadd, 1) := by decide +kernel
theorem dL_law_586 : decode code 586 = .ok (.iaload, 1) := by decide +kernel
theorem dL_law_587 : decode code 587 = .ok (.aload_n 0, 1) := by decide +kernel
theorem dL_law_588 : decode code 588 = .ok (.iload_n 3, 1) := by decide +kernel
theorem dL_law_589 : decode code 589 = .ok (.iconst 4, 1) := by decide +kernel
theorem dL_law_590 : decode code 590 = .ok (.iadd, 1) := by decide +kernel
theorem dL_law_591 : decode code 591 = .ok (.iaload, 1) := by decide +kernel
theorem dL_law_592 : decode code 592 = .ok (.invokevirtual 58, 3) := by decide +kernel
theorem dL_law_595 : decode code 595 = .ok (.aload_n 2, 1) := by decide +kernel
theorem dL_law_596 : decode code 596 = .ok (.aload_n 0, 1) := by decide +kernel
theorem dL_law_597 : decode code 597 = .ok (.iload_n 3, 1) := by decide +kernel
theorem dL_law_598 : decode code 598 = .ok (.iconst 1, 1) := by decide +kernel
theorem dL_law_599 : decode code 599 = .ok (.iadd, 1) := by decide +kernel
theorem dL_law_600 : decode code 600 = .ok (.iaload, 1) := by decide +kernel
theorem dL_law_601 : decode code 601 = .ok (.aload_n 0, 1) := by decide +kernel
theorem dL_law_602 : decode code 602 = .ok (.iload_n 3, 1) := by decide +kernel
theorem dL_law_603 : decode code 603 = .ok (.iconst 2, 1) := by decide +kernel
theorem dL_law_604 : decode code 604 = .ok (.iadd, 1) := by decide +kernel
theorem dL_law_605 : decode code 605 = .ok (.iaload, 1) := by decide +kernel
theorem dL_law_606 : decode code 606 = .ok (.aload_n 0, 1) := by decide +kernel
theorem dL_law_607 : decode code 607 = .ok (.iload_n 3, 1) := by decide +kernel
theorem dL_law_608 : decode code 608 = .ok (.iconst 3, 1) := by decide +kernel
theorem dL_law_609 : decode code 609 = .ok (.iadd, 1) := by decide +kernel
theorem dL_law_610 : decode code 610 = .ok (.iaload, 1) := by decide +kernel
theorem dL_law_611 : decode code 611 = .ok (.aload_n 0, 1) := by decide +kernel
theorem dL_law_612 : decode code 612 = .ok (.iload_n 3, 1) := by decide +kernel
theorem dL_law_613 : decode code 613 = .ok (.iconst 4, 1) := by decide +kernel
theorem dL_law_614 : decode code 614 = .ok (.iadd, 1) := by decide +kernel
theorem dL_law_615 : decode code 615 = .ok (.iaload, 1) := by decide +kernel
theorem dL_law_616 : decode code 616 = .ok (.invokevirtual 61, 3) := by decide +kernel
theorem dL_law_619 : decode code 619 = .ok (.if_icmp .eq 886, 3) := by decide +kernel
set_option maxHeartbeats 4000000 in
set_option maxRecDepth 100000 in
theorem law_c9 {p : Program} {l : Launch} {e : Env} {s : State} {m : MethodId} {below : List Frame} {meth : Method} {c : Code} {b : Nat} {xs : Nat → Int32} {H : Heap} {locs : List Loc} {ls : Array Slot} (hx : p.tables.exec = Jvm.exec) (hb : c.code = code) (hr : meth.sig.returnType = ret) (hlocks : meth.locks = false) {D : va_G} {k : Nat → ClassId} {st : Nat → Nat} {lo : Nat} {ax am : Nat → Nat} {g0 : Nat → Int32} (hml : c.maxLocals = 4) (hown : s.vm.findClass R_law = some m.cls) (hts : ∀ w ∈ LW, w.before #[Value.ref b] s = true) (hbl : b < s.heap.size) (hlo : lo ≤ s.heap.size) (hZ : Zs st lo s s.heap) (hK : va_K D classes (TY k) s) (hX : va_X b 8 xs s s.heap) (hP : va_P D classes (LWd k ax am g0) H) (hD : va_D (fun q : Nat => s.heap.size ≤ q) (LWd k ax am g0)) (hS : va_S (fun q : Nat => s.heap.size ≤ q) s.heap H locs) (hl : lv_has ls 4 [(3, .int 0), (2, .ref (am 0)), (1, .ref (ax 0)), (0, .ref b)]) : W p l e room_1 s m #[Value.ref b] below meth c H locs 102 5857 (lw_Z below #[Value.ref b] s) (F0 m 571 ls []) := by
  have hA : ∀ q : Nat, s.heap.size ≤ q → (fun q : Nat => s.heap.size ≤ q) q := fun _ h => h
  have hAlo : ∀ q : Nat, (fun q : Nat => s.heap.size ≤ q) q → lo ≤ q := fun q h => Nat.le_trans hlo h
  have hbA : ¬ (fun q : Nat => s.heap.size ≤ q) b := Nat.not_le.mpr hbl
  have hP := hP.sub (ws' := [((ax 0), .inr (7, [.ref (ax 1), .ref (ax 3), .ref (ax 19), .ref (ax 20), .ref (ax 25), .int 0, .int (-1), .ref (ax 32), .ref (ax 35), .ref (ax 42), .ref (ax 43), .ref (ax 44)])), ((ax 3), .inl (k 3, 3, .inr (.inr (.inr (.inr (a3 (ax 4) (ax 5) (ax 6))))))), ((ax 4), .inr (5, [.ref (ax 7), .ref (ax 10), .ref (ax 13), .ref (ax 16)])), ((ax 5), .inr (5, [.ref (ax 8), .ref (ax 11), .ref (ax 14), .ref (ax 17)])), ((ax 6), .inr (5, [.ref (ax 9), .ref (ax 12), .ref (ax 15), .ref (ax 18)])), ((ax 7), .inl (k 1, 10, .inl (fun _ => 0))), ((ax 8), .inl (k 1, 10, .inl (fun _ => 0))), ((ax 9), .inl (k 1, 10, .inl (fun _ => 0))), ((am 0), .inr (8, [.ref (am 1), .ref (am 2), .ref (am 3), .ref (am 4), .ref (am 5), .int 0, .int (-1), .int 0, .long 0, .int 0, .int 0, .int 0, .int 0, .ref (am 14), .ref (am 15), .ref (am 16), .int 0, .ref (am 18), .ref (am 19), .ref (am 20), .ref (am 21), .ref (am 22), .ref (am 23), .int 0, .ref (am 25), .ref (am 26), .ref (am 27), .ref (am 28), .ref (am 29), .ref (am 30), .int 0, .ref (am 32), .ref (am 33), .ref (am 34), .int 0, .ref (am 36), .ref (am 37), .int 0, .int 0, .ref (am 40), .ref (am 41), .int 0, .ref (am 43), .ref (am 44)])), ((am 1), .inl (k 1, 3, .inl (fun _ => 0)))]) [0, 3, 4, 5, 6, 7, 8, 9, 25, 26] rfl
  have hD := hD.sub (ws' := [((ax 0), .inr (7, [.ref (ax 1), .ref (ax 3), .ref (ax 19), .ref (ax 20), .ref (ax 25), .int 0, .int (-1), .ref (ax 32), .ref (ax 35), .ref (ax 42), .ref (ax 43), .ref (ax 44)])), ((ax 3), .inl (k 3, 3, .inr (.inr (.inr (.inr (a3 (ax 4) (ax 5) (ax 6))))))), ((ax 4), .inr (5, [.ref (ax 7), .ref (ax 10), .ref (ax 13), .ref (ax 16)])), ((ax 5), .inr (5, [.ref (ax 8), .ref (ax 11), .ref (ax 14), .ref (ax 17)])), ((ax 6), .inr (5, [.ref (ax 9), .ref (ax 12), .ref (ax 15), .ref (ax 18)])), ((ax 7), .inl (k 1, 10, .inl (fun _ => 0))), ((ax 8), .inl (k 1, 10, .inl (fun _ => 0))), ((ax 9), .inl (k 1, 10, .inl (fun _ => 0))), ((am 0), .inr (8, [.ref (am 1), .ref (am 2), .ref (am 3), .ref (am 4), .ref (am 5), .int 0, .int (-1), .int 0, .long 0, .int 0, .int 0, .int 0, .int 0, .ref (am 14), .ref (am 15), .ref (am 16), .int 0, .ref (am 18), .ref (am 19), .ref (am 20), .ref (am 21), .ref (am 22), .ref (am 23), .int 0, .ref (am 25), .ref (am 26), .ref (am 27), .ref (am 28), .ref (am 29), .ref (am 30), .int 0, .ref (am 32), .ref (am 33), .ref (am 34), .int 0, .ref (am 36), .ref (am 37), .int 0, .int 0, .ref (am 40), .ref (am 41), .int 0, .ref (am 43), .ref (am 44)])), ((am 1), .inl (k 1, 3, .inl (fun _ => 0)))]) [0, 3, 4, 5, 6, 7, 8, 9, 25, 26] (by decide) rfl
  refine lv_aload_n hx hb dL_law_571 rfl (lv_at hl 2 rfl) ?_
  refine lv_aload_n hx hb dL_law_572 rfl (lv_at hl 3 rfl) ?_
  refine lv_iload_n hx hb dL_law_573 rfl (lv_at hl 0 rfl) ?_
  refine lv_iconst (v := 1) hx hb dL_law_574 (by decide) ?_
  refine lv_iadd hx hb dL_law_575 ?_
  refine lv_ti (y := 1) (by decide) ?_
  refine va_sld hx hb hX hbl hbA hS (by unfold vp_in; decide) dL_law_576 ?_
  refine lv_ti (y := xs 1) (by rfl) ?_
  refine lv_aload_n hx hb dL_law_577 rfl (lv_at hl 3 rfl) ?_
  refine lv_iload_n hx hb dL_law_578 rfl (lv_at hl 0 rfl) ?_
  refine lv_iconst (v := 2) hx hb dL_law_579 (by decide) ?_
  refine lv_iadd hx hb dL_law_580 ?_
  refine lv_ti (y := 2) (by decide) ?_
  refine va_sld hx hb hX hbl hbA hS (by unfold vp_in; decide) dL_law_581 ?_
  refine lv_ti (y := xs 2) (by rfl) ?_
  refine lv_aload_n hx hb dL_law_582 rfl (lv_at hl 3 rfl) ?_
  refine lv_iload_n hx hb dL_law_583 rfl (lv_at hl 0 rfl) ?_
  refine lv_iconst (v := 3) hx hb dL_law_584 (by decide) ?_
  refine lv_iadd hx hb dL_law_585 ?_
  refine lv_ti (y := 3) (by decide) ?_
  refine va_sld hx hb hX hbl hbA hS (by unfold vp_in; decide) dL_law_586 ?_
  refine lv_ti (y := xs 3) (by rfl) ?_
  refine lv_aload_n hx hb dL_law_587 rfl (lv_at hl 3 rfl) ?_
  refine lv_iload_n hx hb dL_law_588 rfl (lv_at hl 0 rfl) ?_
  refine lv_iconst (v := 4) hx hb dL_law_589 (by decide) ?_
  refine lv_iadd hx hb dL_law_590 ?_
  refine lv_ti (y := 4) (by decide) ?_
  refine va_sld hx hb hX hbl hbA hS (by unfold vp_in; decide) dL_law_591 ?_
  refine lv_ti (y := xs 4) (by rfl) ?_
  refine ro_i (D := D) (va_runV (As := [.int (xs 1), .int (xs 2), .int (xs 3), .int (xs 4)]) (rest := []) ⟨hx, hb, hml, hown, hts⟩ ((k_takes l D k st lo ax (xs 1) (xs 2) (xs 3) (xs 4)) H.size) (cwV 4 hts (gV tw_633 tw_634 tw_635 tw_79 tw_636) rfl rfl rfl (by decide +kernel) ⟨Nat.le_of_ble_eq_true rfl, Nat.le_of_ble_eq_true rfl⟩) (pV hS hAlo hlo hP hK (va_Dlo hD hAlo) hZ [0, 1, 2, 3, 4, 5, 6, 7] (by decide) rfl (ci := 7) (q0 := 0) rfl rfl) rfl rfl hl.1 rfl (lv_room (Nat.le_of_ble_eq_true rfl)) dL_law_592 ⟨Nat.le_of_ble_eq_true rfl, Nat.le_of_ble_eq_true rfl⟩) hS hA hP (fun r_1 H locs hw_1 hP hS => ?_)
  try dsimp only at hw_1
  subst hw_1
  refine lv_aload_n hx hb dL_law_595 rfl (lv_at hl 1 rfl) ?_
  refine lv_aload_n hx hb dL_law_596 rfl (lv_at hl 3 rfl) ?_
  refine lv_iload_n hx hb dL_law_597 rfl (lv_at hl 0 rfl) ?_
  refine lv_iconst (v := 1) hx hb dL_law_598 (by decide) ?_
  refine lv_iadd hx hb dL_law_599 ?_
  refine lv_ti (y := 1) (by decide) ?_
  refine va_sld hx hb hX hbl hbA hS (by unfold vp_in; decide) dL_law_600 ?_
  refine lv_ti (y := xs 1) (by rfl) ?_
  refine lv_aload_n hx hb dL_law_601 rfl (lv_at hl 3 rfl) ?_
  refine lv_iload_n hx hb dL_law_602 rfl (lv_at hl 0 rfl) ?_
  refine lv_iconst (v := 2) hx hb dL_law_603 (by decide) ?_
  refine lv_iadd hx hb dL_law_604 ?_
  refine lv_ti (y := 2) (by decide) ?_
  refine va_sld hx hb hX hbl hbA hS (by unfold vp_in; decide) dL_law_605 ?_
  refine lv_ti (y := xs 2) (by rfl) ?_
  refine lv_aload_n hx hb dL_law_606 rfl (lv_at hl 3 rfl) ?_
  refine lv_iload_n hx hb dL_law_607 rfl (lv_at hl 0 rfl) ?_
  refine lv_iconst (v := 3) hx hb dL_law_608 (by decide) ?_
  refine lv_iadd hx hb dL_law_609 ?_
  refine lv_ti (y := 3) (by decide) ?_
  refine va_sld hx hb hX hbl hbA hS (by unfold vp_in; decide) dL_law_610 ?_
  refine lv_ti (y := xs 3) (by rfl) ?_
  refine lv_aload_n hx hb dL_law_611 rfl (lv_at hl 3 rfl) ?_
  refine lv_iload_n hx hb dL_law_612 rfl (lv_at hl 0 rfl) ?_
  refine lv_iconst (v := 4) hx hb dL_law_613 (by decide) ?_
  refine lv_iadd hx hb dL_law_614 ?_
  refine lv_ti (y := 4) (by decide) ?_
  refine va_sld hx hb hX hbl hbA hS (by unfold vp_in; decide) dL_law_615 ?_
  refine lv_ti (y := xs 4) (by rfl) ?_
  refine ro_i (D := D) (va_runV (As := [.int (xs 1), .int (xs 2), .int (xs 3), .int (xs 4)]) (rest := [.int (-1001)]) ⟨hx, hb, hml, hown, hts⟩ ((k_m_takes l D k st lo am (xs 1) (xs 2) (xs 3) (xs 4)) H.size) (cwV 4 hts (gV tw_1281 tw_1282 tw_1283 tw_87 tw_1284) rfl rfl rfl (by decide +kernel) ⟨Nat.le_of_ble_eq_true rfl, Nat.le_of_ble_eq_true rfl⟩) (pV hS hAlo hlo hP hK (va_Dlo hD hAlo) hZ [8, 9] (by decide) rfl (ci := 8) (q0 := 0) rfl rfl) rfl rfl hl.1 rfl (lv_room (Nat.le_of_ble_eq_true rfl)) dL_law_616 ⟨Nat.le_of_ble_eq_true rfl, Nat.le_of_ble_eq_true rfl⟩) hS hA hP (fun r_2 H locs hw_2 hP hS => ?_)
  try dsimp only at hw_2
  subst hw_2
  refine lv_icmp_eq (tgt := 1505) hx hb dL_law_619 (by decide) (fun _ => ?_) (fun h => absurd (by decide) h)
  refine W.widen (k := 102) (n := 5857) (by decide) (by decide) ?_
  exact law_tail hx hb hr hlocks hX hbl hS (lv_sub hl [0, 3] rfl)


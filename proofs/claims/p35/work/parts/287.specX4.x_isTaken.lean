theorem dX0_isTaken_0 : decode cX0_isTaken 0 = .ok (.iload_n 3, 1) := by decide +kernel
theorem dX0_isTaken_1 : decode cX0_isTaken 1 = .ok (.iconst 1, 1) := by decide +kernel
theorem dX0_isTaken_2 : decode cX0_isTaken 2 = .ok (.iand, 1) := by decide +kernel
theorem dX0_isTaken_3 : decode cX0_isTaken 3 = .ok (.ifCond .eq 26, 3) := by decide +kernel
theorem dX0_isTaken_6 : decode cX0_isTaken 6 = .ok (.aload_n 0, 1) := by decide +kernel
theorem dX0_isTaken_7 : decode cX0_isTaken 7 = .ok (.getfield 24, 3) := by decide +kernel
theorem dX0_isTaken_10 : decode cX0_isTaken 10 = .ok (.iload_n 1, 1) := by decide +kernel
theorem dX0_isTaken_11 : decode cX0_isTaken 11 = .ok (.iload_n 2, 1) := by decide +kernel
theorem dX0_isTaken_12 : decode cX0_isTaken 12 = .ok (.invokevirtual 83, 3) := by decide +kernel
theorem dX0_isTaken_15 : decode cX0_isTaken 15 = .ok (.aload_n 0, 1) := by decide +kernel
theorem dX0_isTaken_16 : decode cX0_isTaken 16 = .ok (.iload_n 1, 1) := by decide +kernel
theorem dX0_isTaken_17 : decode cX0_isTaken 17 = .ok (.iload_n 2, 1) := by decide +kernel
theorem dX0_isTaken_18 : decode cX0_isTaken 18 = .ok (.iload_n 3, 1) := by decide +kernel
theorem dX0_isTaken_19 : decode cX0_isTaken 19 = .ok (.invokevirtual 86, 3) := by decide +kernel
theorem dX0_isTaken_22 : decode cX0_isTaken 22 = .ok (.if_icmp .gt 7, 3) := by decide +kernel
theorem dX0_isTaken_25 : decode cX0_isTaken 25 = .ok (.iconst 1, 1) := by decide +kernel
theorem dX0_isTaken_26 : decode cX0_isTaken 26 = .ok (.goto 4, 3) := by decide +kernel
theorem dX0_isTaken_29 : decode cX0_isTaken 29 = .ok (.iconst 0, 1) := by decide +kernel
theorem dX0_isTaken_30 : decode cX0_isTaken 30 = .ok (.ireturn, 1) := by decide +kernel
set_option maxHeartbeats 4000000 in
set_option maxRecDepth 100000 in
theorem x_isTaken (l : Launch) (D : va_G) (k : Nat → ClassId) (st : Nat → Nat) (lo : Nat) (h0 : Nat) (h1 : Nat) (h2 : Nat) (h3 : Nat) (h4 : Nat) (n : Nat) (see : Nat) (tm : Nat) (g : Nat → Int32) (fp : Nat → Int32) (fl : Nat → Int32) (w0 : Nat) (w1 : Nat) (w2 : Nat) (w3 : Nat) (w4 : Nat) (on : Nat → Int32) (rn : Nat) (i : Nat) (gg : Nat) (hrn : rn ≤ 3) (hi : i < 24) (hg : gg < 8) : CRi l D k st lo yX0_isTaken cX0_isTaken 4 (some .boolean) ({ frames := 2, cells := 0, slots := 0, locals := 45 }) [.ref w0, .int (nI rn), .int (nI i), .int (nI gg)] [(h0, .inr (5, [.ref h1, .ref h2, .ref h3, .ref h4])), (h1, .inl (k 1, 10, .inl (vv n see tm g))), (h3, .inl (k 1, 24, .inl fp)), (h4, .inl (k 1, 4, .inl fl)), (w0, .inr (0, [.ref h0, .ref w1, .ref w2, .ref w3, .ref w4])), (w1, .inl (k 1, 768, .inl on))] (fun r => r = 1 ∨ r = 0) := by
  intro sz
  refine Met.ofW (cc := cX0_isTaken) (maxL := 4) (ret := (some .boolean)) (by decide) rfl ?_
  intro p e s m args below meth c s₁ B hml hv
  obtain ⟨rfl, hsz, hlo, hP, hK, hDL, hZ⟩ := hv
  have hx := B.exec
  have hb := B.bytes
  have hr := B.returns
  have hts := WS_ts B.pre
  have hown : s.vm.findClass RX0 = some m.cls := findClass_of_methodNamed B.named
  have hlocks := B.notSynchronized
  subst hsz
  have hA : ∀ q : Nat, s.heap.size ≤ q → (fun q : Nat => s.heap.size ≤ q) q := fun _ h => h
  have hAlo : ∀ q : Nat, (fun q : Nat => s.heap.size ≤ q) q → lo ≤ q := fun q h => Nat.le_trans hlo h
  have hS : va_S (fun q : Nat => s.heap.size ≤ q) s.heap s.heap [] := va_S.rf
  have hl := lv_entry ([.ref w0, .int (nI rn), .int (nI i), .int (nI gg)]) (n := 4) (Nat.le_of_ble_eq_true rfl)
  rw [lg_entry_eq]
  generalize (lg_sl ([.ref w0, .int (nI rn), .int (nI i), .int (nI gg)]) ++ List.replicate (4 - (lg_sl ([.ref w0, .int (nI rn), .int (nI i), .int (nI gg)])).length) Slot.unset).toArray = ls at hl ⊢
  have hl : lv_has ls 4 [(0, .ref w0), (1, .int (nI rn)), (2, .int (nI i)), (3, .int (nI gg))] := hl
  refine lv_iload_n hx hb dX0_isTaken_0 rfl (lv_at hl 3 rfl) ?_
  refine lv_iconst (v := 1) hx hb dX0_isTaken_1 (by decide) ?_
  refine lv_iand hx hb dX0_isTaken_2 ?_
  refine lv_topi (fun x_1 ex_1 => ?_)
  refine lv_if_eq (tgt := 29) hx hb dX0_isTaken_3 (by decide) (fun c_2 => ?_) (fun c_2 => ?_)
  · refine lv_iconst (v := 0) hx hb dX0_isTaken_29 (by decide) ?_
    exact W.zret (v := 0) (ty := .boolean) hx hb hr rfl (fun t ht hW => ⟨⟨0, (), rfl, .inr rfl, trivial⟩, hS.F ht⟩) hS.2.2 dX0_isTaken_30
  · refine lv_aload_n hx hb dX0_isTaken_6 rfl (lv_at hl 0 rfl) ?_
    refine va_get (D := D) (ci := 0) (v := .ref h0) (C := RX0) (T := TX0) (N := 5) hx hb hts inX0 hown hK hP 4 rfl rfl 0 (by decide) (hts _ tw_266) (fun _ h9 => h9) rfl dX0_isTaken_7 ?_
    refine lv_iload_n hx hb dX0_isTaken_10 rfl (lv_at hl 1 rfl) ?_
    refine lv_iload_n hx hb dX0_isTaken_11 rfl (lv_at hl 2 rfl) ?_
    refine ro_i (D := D) (va_runV (As := [.int (nI rn), .int (nI i)]) (rest := []) ⟨hx, hb, hml, hown, hts⟩ ((x_takingOf l D k st lo h0 h1 h2 h3 h4 n see tm g fp fl rn i (by omega) (by omega)) s.heap.size) (cwV 2 hts (gV tw_556 tw_557 tw_558 tw_81 tw_559) rfl rfl rfl (by decide +kernel) ⟨Nat.le_of_ble_eq_true rfl, Nat.le_of_ble_eq_true rfl⟩) (pV hS hAlo hlo hP hK hDL hZ [0, 1, 2, 3] (by decide) rfl (ci := 5) (q0 := 0) rfl rfl) rfl rfl hl.1 rfl (lv_room (Nat.le_of_ble_eq_true rfl)) dX0_isTaken_12 ⟨Nat.le_of_ble_eq_true rfl, Nat.le_of_ble_eq_true rfl⟩) hS hA hP (fun r_3 H locs hw_3 hP hS => ?_)
    try dsimp only at hw_3
    refine lv_aload_n hx hb dX0_isTaken_15 rfl (lv_at hl 0 rfl) ?_
    refine lv_iload_n hx hb dX0_isTaken_16 rfl (lv_at hl 1 rfl) ?_
    refine lv_iload_n hx hb dX0_isTaken_17 rfl (lv_at hl 2 rfl) ?_
    refine lv_iload_n hx hb dX0_isTaken_18 rfl (lv_at hl 3 rfl) ?_
    refine ro_i (D := D) (va_runV (As := [.int (nI rn), .int (nI i), .int (nI gg)]) (rest := [.int r_3]) ⟨hx, hb, hml, hown, hts⟩ ((x_onwardOf l D k st lo h0 w0 w1 w2 w3 w4 on rn i gg (by omega) (by omega) (by omega)) H.size) (cwV 3 hts (gV tw_549 tw_550 tw_551 tw_85 tw_552) rfl rfl rfl (by decide +kernel) ⟨Nat.le_of_ble_eq_true rfl, Nat.le_of_ble_eq_true rfl⟩) (pV hS hAlo hlo hP hK hDL hZ [4, 5] (by decide) rfl (ci := 0) (q0 := 0) rfl rfl) rfl rfl hl.1 rfl (lv_room (Nat.le_of_ble_eq_true rfl)) dX0_isTaken_19 ⟨Nat.le_of_ble_eq_true rfl, Nat.le_of_ble_eq_true rfl⟩) hS hA hP (fun r_4 H locs hw_4 hP hS => ?_)
    try dsimp only at hw_4
    refine lv_icmp_gt (tgt := 29) hx hb dX0_isTaken_22 (by decide) (fun c_5 => ?_) (fun c_5 => ?_)
    · refine lv_iconst (v := 0) hx hb dX0_isTaken_29 (by decide) ?_
      exact W.zret (v := 0) (ty := .boolean) hx hb hr rfl (fun t ht hW => ⟨⟨0, (), rfl, .inr rfl, trivial⟩, hS.F ht⟩) hS.2.2 dX0_isTaken_30
    · refine lv_iconst (v := 1) hx hb dX0_isTaken_25 (by decide) ?_
      refine lv_goto (tgt := 30) hx hb dX0_isTaken_26 (by decide) ?_
      exact W.zret (v := 1) (ty := .boolean) hx hb hr rfl (fun t ht hW => ⟨⟨1, (), rfl, .inl rfl, trivial⟩, hS.F ht⟩) hS.2.2 dX0_isTaken_30


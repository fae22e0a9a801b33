theorem dX0_reckon_0 : decode cX0_reckon 0 = .ok (.aload_n 0, 1) := by decide +kernel
theorem dX0_reckon_1 : decode cX0_reckon 1 = .ok (.getfield 24, 3) := by decide +kernel
theorem dX0_reckon_4 : decode cX0_reckon 4 = .ok (.getfield 28, 3) := by decide +kernel
theorem dX0_reckon_7 : decode cX0_reckon 7 = .ok (.bipush 8, 2) := by decide +kernel
theorem dX0_reckon_9 : decode cX0_reckon 9 = .ok (.iaload, 1) := by decide +kernel
theorem dX0_reckon_10 : decode cX0_reckon 10 = .ok (.istore_n 1, 1) := by decide +kernel
theorem dX0_reckon_11 : decode cX0_reckon 11 = .ok (.iload_n 1, 1) := by decide +kernel
theorem dX0_reckon_12 : decode cX0_reckon 12 = .ok (.ifCond .lt 57, 3) := by decide +kernel
theorem dX0_reckon_15 : decode cX0_reckon 15 = .ok (.aload_n 0, 1) := by decide +kernel
theorem dX0_reckon_16 : decode cX0_reckon 16 = .ok (.getfield 18, 3) := by decide +kernel
theorem dX0_reckon_19 : decode cX0_reckon 19 = .ok (.iload_n 1, 1) := by decide +kernel
theorem dX0_reckon_20 : decode cX0_reckon 20 = .ok (.aload_n 0, 1) := by decide +kernel
theorem dX0_reckon_21 : decode cX0_reckon 21 = .ok (.iload_n 1, 1) := by decide +kernel
theorem dX0_reckon_22 : decode cX0_reckon 22 = .ok (.invokevirtual 33, 3) := by decide +kernel
theorem dX0_reckon_25 : decode cX0_reckon 25 = .ok (.iastore, 1) := by decide +kernel
theorem dX0_reckon_26 : decode cX0_reckon 26 = .ok (.aload_n 0, 1) := by decide +kernel
theorem dX0_reckon_27 : decode cX0_reckon 27 = .ok (.getfield 24, 3) := by decide +kernel
theorem dX0_reckon_30 : decode cX0_reckon 30 = .ok (.invokevirtual 37, 3) := by decide +kernel
theorem dX0_reckon_33 : decode cX0_reckon 33 = .ok (.iconst 1, 1) := by decide +kernel
theorem dX0_reckon_34 : decode cX0_reckon 34 = .ok (.isub, 1) := by decide +kernel
theorem dX0_reckon_35 : decode cX0_reckon 35 = .ok (.istore_n 2, 1) := by decide +kernel
theorem dX0_reckon_36 : decode cX0_reckon 36 = .ok (.iload_n 2, 1) := by decide +kernel
theorem dX0_reckon_37 : decode cX0_reckon 37 = .ok (.ifCond .lt 15, 3) := by decide +kernel
theorem dX0_reckon_40 : decode cX0_reckon 40 = .ok (.aload_n 0, 1) := by decide +kernel
theorem dX0_reckon_41 : decode cX0_reckon 41 = .ok (.iload_n 1, 1) := by decide +kernel
theorem dX0_reckon_42 : decode cX0_reckon 42 = .ok (.iload_n 2, 1) := by decide +kernel
theorem dX0_reckon_43 : decode cX0_reckon 43 = .ok (.invokevirtual 41, 3) := by decide +kernel
theorem dX0_reckon_46 : decode cX0_reckon 46 = .ok (.iinc 2 (-1), 3) := by decide +kernel
theorem dX0_reckon_49 : decode cX0_reckon 49 = .ok (.goto (-13), 3) := by decide +kernel
theorem dX0_reckon_52 : decode cX0_reckon 52 = .ok (.aload_n 0, 1) := by decide +kernel
theorem dX0_reckon_53 : decode cX0_reckon 53 = .ok (.getfield 15, 3) := by decide +kernel
theorem dX0_reckon_56 : decode cX0_reckon 56 = .ok (.iload_n 1, 1) := by decide +kernel
theorem dX0_reckon_57 : decode cX0_reckon 57 = .ok (.aload_n 0, 1) := by decide +kernel
theorem dX0_reckon_58 : decode cX0_reckon 58 = .ok (.iload_n 1, 1) := by decide +kernel
theorem dX0_reckon_59 : decode cX0_reckon 59 = .ok (.invokevirtual 45, 3) := by decide +kernel
theorem dX0_reckon_62 : decode cX0_reckon 62 = .ok (.iastore, 1) := by decide +kernel
theorem dX0_reckon_63 : decode cX0_reckon 63 = .ok (.iinc 1 (-1), 3) := by decide +kernel
theorem dX0_reckon_66 : decode cX0_reckon 66 = .ok (.goto (-55), 3) := by decide +kernel
theorem dX0_reckon_69 : decode cX0_reckon 69 = .ok (.return_, 1) := by decide +kernel
set_option maxHeartbeats 4000000 in
set_option maxRecDepth 100000 in
theorem x_reckon (l : Launch) (D : va_G) (k : Nat → ClassId) (st : Nat → Nat) (lo : Nat) (h0 : Nat) (h1 : Nat) (h2 : Nat) (h3 : Nat) (h4 : Nat) (n : Nat) (see : Nat) (tm : Nat) (g : Nat → Int32) (ff : Nat → Int32) (fp : Nat → Int32) (fl : Nat → Int32) (w0 : Nat) (w1 : Nat) (w2 : Nat) (w3 : Nat) (w4 : Nat) (on : Nat → Int32) (sr : Nat → Int32) (en : Nat → Int32) (fo : Nat → Int32) (hn : n ≤ 24) (hsee : see ≤ 2) (htm9 : tm ≤ 3) : CWv l D k st lo yX0_reckon cX0_reckon 3 none ({ frames := 5, cells := 0, slots := 0, locals := 136 }) 0 0 [.ref w0] [(h0, .inr (5, [.ref h1, .ref h2, .ref h3, .ref h4])), (h1, .inl (k 1, 10, .inl (vv n see tm g))), (h2, .inl (k 1, 24, .inl ff)), (h3, .inl (k 1, 24, .inl fp)), (h4, .inl (k 1, 4, .inl fl)), (w0, .inr (0, [.ref h0, .ref w1, .ref w2, .ref w3, .ref w4])), (w1, .inl (k 1, 768, .inl on)), (w2, .inl (k 1, 4, .inl sr)), (w3, .inl (k 1, 4, .inl en)), (w4, .inl (k 1, 8, .inl fo))] (fun (u : (Nat → Int32) × (Nat → Int32) × (Nat → Int32) × (Nat → Int32)) => match u with | (on_, sr_, en_, fo_) => True) (fun (u : (Nat → Int32) × (Nat → Int32) × (Nat → Int32) × (Nat → Int32)) => match u with | (on_, sr_, en_, fo_) => [(h0, .inr (5, [.ref h1, .ref h2, .ref h3, .ref h4])), (h1, .inl (k 1, 10, .inl (vv n see tm g))), (h2, .inl (k 1, 24, .inl ff)), (h3, .inl (k 1, 24, .inl fp)), (h4, .inl (k 1, 4, .inl fl)), (w0, .inr (0, [.ref h0, .ref w1, .ref w2, .ref w3, .ref w4])), (w1, .inl (k 1, 768, .inl on_)), (w2, .inl (k 1, 4, .inl sr_)), (w3, .inl (k 1, 4, .inl en_)), (w4, .inl (k 1, 8, .inl fo_))]) := by
  intro sz
  refine Met.ofW (cc := cX0_reckon) (maxL := 3) (ret := none) (by decide) rfl ?_
  intro p e s m args below meth c s₁ B hml hv
  obtain ⟨rfl, hsz, hlo, hP, hK, hDL, hZ⟩ := hv
  have hx := B.exec
  have hb := B.bytes
  have hr := B.returns
  have hts := WS_ts B.pre
  have hown : s.vm.findClass RX0 = some m.cls := findClass_of_methodNamed B.named
  have hlocks := B.notSynchronized
  subst hsz
  have hD := hDL.self (sz := s.heap.size)
  have hAlo := A_lo hDL hlo
  generalize hAe : va_A [(h0, .inr (5, [.ref h1, .ref h2, .ref h3, .ref h4])), (h1, .inl (k 1, 10, .inl (vv n see tm g))), (h2, .inl (k 1, 24, .inl ff)), (h3, .inl (k 1, 24, .inl fp)), (h4, .inl (k 1, 4, .inl fl)), (w0, .inr (0, [.ref h0, .ref w1, .ref w2, .ref w3, .ref w4])), (w1, .inl (k 1, 768, .inl on)), (w2, .inl (k 1, 4, .inl sr)), (w3, .inl (k 1, 4, .inl en)), (w4, .inl (k 1, 8, .inl fo))] s.heap.size = A at hD hAlo ⊢
  have hA : ∀ q : Nat, s.heap.size ≤ q → A q := fun q h => by rw [← hAe]; exact Or.inr h
  have hS : va_S A s.heap s.heap [] := va_S.rf
  have hl := lv_entry ([.ref w0]) (n := 3) (Nat.le_of_ble_eq_true rfl)
  rw [lg_entry_eq]
  generalize (lg_sl ([.ref w0]) ++ List.replicate (3 - (lg_sl ([.ref w0])).length) Slot.unset).toArray = ls at hl ⊢
  have hl : lv_has ls 3 [(0, .ref w0)] := hl
  refine lv_aload_n hx hb dX0_reckon_0 rfl (lv_at hl 0 rfl) ?_
  refine va_get (D := D) (ci := 0) (v := .ref h0) (C := RX0) (T := TX0) (N := 5) hx hb hts inX0 hown hK hP 5 rfl rfl 0 (by decide) (hts _ tw_266) (fun _ h9 => h9) rfl dX0_reckon_1 ?_
  refine va_get (D := D) (ci := 5) (v := .ref h1) (C := RX5) (T := TX5) (N := 4) hx hb hts inX5 hown hK hP 0 rfl rfl 0 (by decide) (hts _ tw_147) (fun _ h9 => h9) rfl dX0_reckon_4 ?_
  refine lv_bipush (v := 8) hx hb dX0_reckon_7 (by decide) ?_
  refine va_iald hx hb hK hP 1 1 rfl rfl (by unfold vp_in; decide) dX0_reckon_9 ?_
  refine lv_ti (y := (nI tm)) (by rfl) ?_
  refine lv_istore_n (lv' := [(1, .int (nI tm)), (0, .ref w0)]) hx hb dX0_reckon_10 rfl hl (by decide) rfl (fun ls hl => ?_)
  refine W_loop (σ := Nat × (Nat → Int32) × (Nat → Int32) × (Nat → Int32) × (Nat → Int32)) (fun (n_ : Nat) (x_ : Nat × (Nat → Int32) × (Nat → Int32) × (Nat → Int32) × (Nat → Int32)) (H : Heap) (locs : List Loc) (ls : Array Slot) => match x_ with | (q_1, on2_1, sr2_1, en2_1, fo2_1) => n_ = 2 * q_1 ∧ (q_1 ≤ 4) ∧ va_P D classes [(h0, .inr (5, [.ref h1, .ref h2, .ref h3, .ref h4])), (h1, .inl (k 1, 10, .inl (vv n see tm g))), (h2, .inl (k 1, 24, .inl ff)), (h3, .inl (k 1, 24, .inl fp)), (h4, .inl (k 1, 4, .inl fl)), (w0, .inr (0, [.ref h0, .ref w1, .ref w2, .ref w3, .ref w4])), (w1, .inl (k 1, 768, .inl on2_1)), (w2, .inl (k 1, 4, .inl sr2_1)), (w3, .inl (k 1, 4, .inl en2_1)), (w4, .inl (k 1, 8, .inl fo2_1))] H ∧ va_D A [(h0, .inr (5, [.ref h1, .ref h2, .ref h3, .ref h4])), (h1, .inl (k 1, 10, .inl (vv n see tm g))), (h2, .inl (k 1, 24, .inl ff)), (h3, .inl (k 1, 24, .inl fp)), (h4, .inl (k 1, 4, .inl fl)), (w0, .inr (0, [.ref h0, .ref w1, .ref w2, .ref w3, .ref w4])), (w1, .inl (k 1, 768, .inl on2_1)), (w2, .inl (k 1, 4, .inl sr2_1)), (w3, .inl (k 1, 4, .inl en2_1)), (w4, .inl (k 1, 8, .inl fo2_1))] ∧ va_S A s.heap H locs ∧ lv_has ls 3 [(1, .int (nI q_1 - 1)), (0, .ref w0)]) (fun n_1 x_1 H locs ls hI ih_1 => ?_) _ (tm + 1, on, sr, en, fo) ⟨rfl, (by omega), hP, hD, hS, (by rw [nI_pred]; exact lv_sub hl [0, 1] rfl)⟩
  obtain ⟨q_1, on2_1, sr2_1, en2_1, fo2_1⟩ := x_1
  obtain ⟨hm_1, hv_1, hP, hD, hS, hl⟩ := hI
  subst hm_1
  rcases q_1 with _ | q_1
  · rw [dn0] at hl
    refine lv_iload_n hx hb dX0_reckon_11 rfl (lv_at hl 0 rfl) ?_
    refine lv_if_lt (tgt := 69) hx hb dX0_reckon_12 (by decide) (fun _ => ?_) (fun h => absurd (by decide) h)
    have hP9 := hP.sub (ws' := [(h0, .inr (5, [.ref h1, .ref h2, .ref h3, .ref h4])), (h1, .inl (k 1, 10, .inl (vv n see tm g))), (h2, .inl (k 1, 24, .inl ff)), (h3, .inl (k 1, 24, .inl fp)), (h4, .inl (k 1, 4, .inl fl)), (w0, .inr (0, [.ref h0, .ref w1, .ref w2, .ref w3, .ref w4])), (w1, .inl (k 1, 768, .inl on2_1)), (w2, .inl (k 1, 4, .inl sr2_1)), (w3, .inl (k 1, 4, .inl en2_1)), (w4, .inl (k 1, 8, .inl fo2_1))]) [0, 1, 2, 3, 4, 5, 6, 7, 8, 9] rfl
    have hD9 := hD.sub (ws' := [(h0, .inr (5, [.ref h1, .ref h2, .ref h3, .ref h4])), (h1, .inl (k 1, 10, .inl (vv n see tm g))), (h2, .inl (k 1, 24, .inl ff)), (h3, .inl (k 1, 24, .inl fp)), (h4, .inl (k 1, 4, .inl fl)), (w0, .inr (0, [.ref h0, .ref w1, .ref w2, .ref w3, .ref w4])), (w1, .inl (k 1, 768, .inl on2_1)), (w2, .inl (k 1, 4, .inl sr2_1)), (w3, .inl (k 1, 4, .inl en2_1)), (w4, .inl (k 1, 8, .inl fo2_1))]) [0, 1, 2, 3, 4, 5, 6, 7, 8, 9] (by decide) rfl
    exact W.vret hx hb hr (fun t ht hW => ⟨⟨(on2_1, sr2_1, en2_1, fo2_1), rfl, trivial, by rw [ht]; exact hP9, hD9⟩, hS.F ht⟩) hS.2.2 dX0_reckon_69
  · rw [nI_pred] at hl
    refine lv_iload_n hx hb dX0_reckon_11 rfl (lv_at hl 0 rfl) ?_
    refine lv_if_lt (tgt := 69) hx hb dX0_reckon_12 (by decide) (fun h => absurd h (nI_pos0 (by omega))) (fun _ => ?_)
    refine lv_aload_n hx hb dX0_reckon_15 rfl (lv_at hl 1 rfl) ?_
    refine va_get (D := D) (ci := 0) (v := .ref w3) (C := RX0) (T := TX0) (N := 5) hx hb hts inX0 hown hK hP 5 rfl rfl 3 (by decide) (hts _ tw_270) (fun _ h9 => h9) rfl dX0_reckon_16 ?_
    refine lv_iload_n hx hb dX0_reckon_19 rfl (lv_at hl 0 rfl) ?_
    refine lv_aload_n hx hb dX0_reckon_20 rfl (lv_at hl 1 rfl) ?_
    refine lv_iload_n hx hb dX0_reckon_21 rfl (lv_at hl 0 rfl) ?_
    refine ro_i (D := D) (va_runV (As := [.int (nI q_1)]) (rest := [.int (nI q_1), .ref w3]) ⟨hx, hb, hml, hown, hts⟩ ((x_reckonEnd l D k st lo h0 h1 h2 h3 h4 n see tm g fl w0 w1 w2 w3 w4 sr2_1 q_1 (by omega) (by omega)) H.size) (cwV 1 hts (gV tw_516 tw_518 tw_4 tw_85 tw_519) rfl rfl rfl (by decide +kernel) ⟨Nat.le_of_ble_eq_true rfl, Nat.le_of_ble_eq_true rfl⟩) (pV hS hAlo hlo hP hK (va_Dlo hD hAlo) hZ [0, 1, 4, 5, 7] (by decide) rfl (ci := 0) (q0 := 3) rfl rfl) rfl rfl hl.1 rfl (lv_room (Nat.le_of_ble_eq_true rfl)) dX0_reckon_22 ⟨Nat.le_of_ble_eq_true rfl, Nat.le_of_ble_eq_true rfl⟩) hS hA hP (fun r_2 H locs hw_2 hP hS => ?_)
    try dsimp only at hw_2
    refine va_iast hx hb hK hP hD hS 8 1 rfl rfl (vp_in_nI (by omega) (by decide)) dX0_reckon_25 (fun H locs hP hD hS => ?_)
    replace hP : va_P D classes [(h0, .inr (5, [.ref h1, .ref h2, .ref h3, .ref h4])), (h1, .inl (k 1, 10, .inl (vv n see tm g))), (h2, .inl (k 1, 24, .inl ff)), (h3, .inl (k 1, 24, .inl fp)), (h4, .inl (k 1, 4, .inl fl)), (w0, .inr (0, [.ref h0, .ref w1, .ref w2, .ref w3, .ref w4])), (w1, .inl (k 1, 768, .inl on2_1)), (w2, .inl (k 1, 4, .inl sr2_1)), (w3, .inl (k 1, 4, .inl (upd en2_1 (Int32.toNatClampNeg (nI q_1)) r_2))), (w4, .inl (k 1, 8, .inl fo2_1))] H := hP
    replace hD : va_D A [(h0, .inr (5, [.ref h1, .ref h2, .ref h3, .ref h4])), (h1, .inl (k 1, 10, .inl (vv n see tm g))), (h2, .inl (k 1, 24, .inl ff)), (h3, .inl (k 1, 24, .inl fp)), (h4, .inl (k 1, 4, .inl fl)), (w0, .inr (0, [.ref h0, .ref w1, .ref w2, .ref w3, .ref w4])), (w1, .inl (k 1, 768, .inl on2_1)), (w2, .inl (k 1, 4, .inl sr2_1)), (w3, .inl (k 1, 4, .inl (upd en2_1 (Int32.toNatClampNeg (nI q_1)) r_2))), (w4, .inl (k 1, 8, .inl fo2_1))] := hD
    generalize (upd en2_1 (Int32.toNatClampNeg (nI q_1)) r_2) = f_3 at hP hD
    refine lv_aload_n hx hb dX0_reckon_26 rfl (lv_at hl 1 rfl) ?_
    refine va_get (D := D) (ci := 0) (v := .ref h0) (C := RX0) (T := TX0) (N := 5) hx hb hts inX0 hown hK hP 5 rfl rfl 0 (by decide) (hts _ tw_266) (fun _ h9 => h9) rfl dX0_reckon_27 ?_
    refine ro_i (D := D) (va_runV (As := []) (rest := []) ⟨hx, hb, hml, hown, hts⟩ ((x_doors l D k st lo h0 h1 h2 h3 h4 n see tm g) H.size) (cwV 0 hts (gV tw_531 tw_478 tw_479 tw_81 tw_480) rfl rfl rfl (by decide +kernel) ⟨Nat.le_of_ble_eq_true rfl, Nat.le_of_ble_eq_true rfl⟩) (pV hS hAlo hlo hP hK (va_Dlo hD hAlo) hZ [0, 1] (by decide) rfl (ci := 5) (q0 := 0) rfl rfl) rfl rfl hl.1 rfl (lv_room (Nat.le_of_ble_eq_true rfl)) dX0_reckon_30 ⟨Nat.le_of_ble_eq_true rfl, Nat.le_of_ble_eq_true rfl⟩) hS hA hP (fun r_4 H locs hw_4 hP hS => ?_)
    try dsimp only at hw_4
    subst hw_4
    refine lv_iconst (v := 1) hx hb dX0_reckon_33 (by decide) ?_
    refine lv_isub hx hb dX0_reckon_34 ?_
    refine lv_ti (y := (nI n - 1)) rfl ?_
    refine lv_istore_n (lv' := [(2, .int (nI n - 1)), (1, .int (nI q_1)), (0, .ref w0)]) hx hb dX0_reckon_35 rfl hl (by decide) rfl (fun ls hl => ?_)
    refine W_loop (σ := Nat × (Nat → Int32)) (fun (n_ : Nat) (x_ : Nat × (Nat → Int32)) (H : Heap) (locs : List Loc) (ls : Array Slot) => match x_ with | (qi_5, on2_5) => n_ = 2 * qi_5 ∧ (qi_5 ≤ n) ∧ va_P D classes [(h0, .inr (5, [.ref h1, .ref h2, .ref h3, .ref h4])), (h1, .inl (k 1, 10, .inl (vv n see tm g))), (h2, .inl (k 1, 24, .inl ff)), (h3, .inl (k 1, 24, .inl fp)), (h4, .inl (k 1, 4, .inl fl)), (w0, .inr (0, [.ref h0, .ref w1, .ref w2, .ref w3, .ref w4])), (w1, .inl (k 1, 768, .inl on2_5)), (w2, .inl (k 1, 4, .inl sr2_1)), (w3, .inl (k 1, 4, .inl f_3)), (w4, .inl (k 1, 8, .inl fo2_1))] H ∧ va_D A [(h0, .inr (5, [.ref h1, .ref h2, .ref h3, .ref h4])), (h1, .inl (k 1, 10, .inl (vv n see tm g))), (h2, .inl (k 1, 24, .inl ff)), (h3, .inl (k 1, 24, .inl fp)), (h4, .inl (k 1, 4, .inl fl)), (w0, .inr (0, [.ref h0, .ref w1, .ref w2, .ref w3, .ref w4])), (w1, .inl (k 1, 768, .inl on2_5)), (w2, .inl (k 1, 4, .inl sr2_1)), (w3, .inl (k 1, 4, .inl f_3)), (w4, .inl (k 1, 8, .inl fo2_1))] ∧ va_S A s.heap H locs ∧ lv_has ls 3 [(2, .int (nI qi_5 - 1)), (1, .int (nI q_1)), (0, .ref w0)]) (fun n_5 x_5 H locs ls hI ih_5 => ?_) _ (n, on2_1) ⟨rfl, (by omega), hP, hD, hS, (lv_sub hl [0, 1, 2] rfl)⟩
    obtain ⟨qi_5, on2_5⟩ := x_5
    obtain ⟨hm_5, hv_5, hP, hD, hS, hl⟩ := hI
    subst hm_5
    rcases qi_5 with _ | qi_5
    · rw [dn0] at hl
      refine lv_iload_n hx hb dX0_reckon_36 rfl (lv_at hl 0 rfl) ?_
      refine lv_if_lt (tgt := 52) hx hb dX0_reckon_37 (by decide) (fun _ => ?_) (fun h => absurd (by decide) h)
      refine lv_aload_n hx hb dX0_reckon_52 rfl (lv_at hl 2 rfl) ?_
      refine va_get (D := D) (ci := 0) (v := .ref w2) (C := RX0) (T := TX0) (N := 5) hx hb hts inX0 hown hK hP 5 rfl rfl 2 (by decide) (hts _ tw_268) (fun _ h9 => h9) rfl dX0_reckon_53 ?_
      refine lv_iload_n hx hb dX0_reckon_56 rfl (lv_at hl 1 rfl) ?_
      refine lv_aload_n hx hb dX0_reckon_57 rfl (lv_at hl 2 rfl) ?_
      refine lv_iload_n hx hb dX0_reckon_58 rfl (lv_at hl 1 rfl) ?_
      refine rw_i (D := D) (wr := [(w2, .inl (k 1, 4, .inl sr2_1)), (w3, .inl (k 1, 4, .inl f_3))]) (va_runV (As := [.int (nI q_1)]) (rest := [.int (nI q_1), .ref w2]) ⟨hx, hb, hml, hown, hts⟩ ((x_reckonStart l D k st lo h0 h1 h2 h3 h4 n see tm g ff fp fl w0 w1 w2 w3 w4 on2_5 fo2_1 q_1 (by omega) (by omega) (by omega)) H.size) (cwV 1 hts (gV tw_576 tw_578 tw_7 tw_85 tw_579) rfl rfl rfl (by decide +kernel) ⟨Nat.le_of_ble_eq_true rfl, Nat.le_of_ble_eq_true rfl⟩) (pV hS hAlo hlo hP hK (va_Dlo hD hAlo) hZ [0, 1, 2, 3, 4, 5, 6, 9] (by decide) rfl (ci := 0) (q0 := 5) rfl rfl) rfl rfl hl.1 rfl (lv_room (Nat.le_of_ble_eq_true rfl)) dX0_reckon_59 ⟨Nat.le_of_ble_eq_true rfl, Nat.le_of_ble_eq_true rfl⟩) hS hA hP hD [0, 1, 2, 3, 4, 5, 6, 9] [7, 8] rfl rfl (by decide) (by decide) (fun r_6 u H locs hw_6 hP hD hS => ?_)
      obtain ⟨fo__6, rfl⟩ : ∃ z, z = u := ⟨_, rfl⟩
      replace hP : va_P D classes [(w2, .inl (k 1, 4, .inl sr2_1)), (w3, .inl (k 1, 4, .inl f_3)), (h0, .inr (5, [.ref h1, .ref h2, .ref h3, .ref h4])), (h1, .inl (k 1, 10, .inl (vv n see tm g))), (h2, .inl (k 1, 24, .inl ff)), (h3, .inl (k 1, 24, .inl fp)), (h4, .inl (k 1, 4, .inl fl)), (w0, .inr (0, [.ref h0, .ref w1, .ref w2, .ref w3, .ref w4])), (w1, .inl (k 1, 768, .inl on2_5)), (w4, .inl (k 1, 8, .inl fo__6))] H := hP
      replace hD : va_D A [(w2, .inl (k 1, 4, .inl sr2_1)), (w3, .inl (k 1, 4, .inl f_3)), (h0, .inr (5, [.ref h1, .ref h2, .ref h3, .ref h4])), (h1, .inl (k 1, 10, .inl (vv n see tm g))), (h2, .inl (k 1, 24, .inl ff)), (h3, .inl (k 1, 24, .inl fp)), (h4, .inl (k 1, 4, .inl fl)), (w0, .inr (0, [.ref h0, .ref w1, .ref w2, .ref w3, .ref w4])), (w1, .inl (k 1, 768, .inl on2_5)), (w4, .inl (k 1, 8, .inl fo__6))] := hD
      try dsimp only at hw_6
      refine va_iast hx hb hK hP hD hS 0 1 rfl rfl (vp_in_nI (by omega) (by decide)) dX0_reckon_62 (fun H locs hP hD hS => ?_)
      replace hP : va_P D classes [(w2, .inl (k 1, 4, .inl (upd sr2_1 (Int32.toNatClampNeg (nI q_1)) r_6))), (w3, .inl (k 1, 4, .inl f_3)), (h0, .inr (5, [.ref h1, .ref h2, .ref h3, .ref h4])), (h1, .inl (k 1, 10, .inl (vv n see tm g))), (h2, .inl (k 1, 24, .inl ff)), (h3, .inl (k 1, 24, .inl fp)), (h4, .inl (k 1, 4, .inl fl)), (w0, .inr (0, [.ref h0, .ref w1, .ref w2, .ref w3, .ref w4])), (w1, .inl (k 1, 768, .inl on2_5)), (w4, .inl (k 1, 8, .inl fo__6))] H := hP
      replace hD : va_D A [(w2, .inl (k 1, 4, .inl (upd sr2_1 (Int32.toNatClampNeg (nI q_1)) r_6))), (w3, .inl (k 1, 4, .inl f_3)), (h0, .inr (5, [.ref h1, .ref h2, .ref h3, .ref h4])), (h1, .inl (k 1, 10, .inl (vv n see tm g))), (h2, .inl (k 1, 24, .inl ff)), (h3, .inl (k 1, 24, .inl fp)), (h4, .inl (k 1, 4, .inl fl)), (w0, .inr (0, [.ref h0, .ref w1, .ref w2, .ref w3, .ref w4])), (w1, .inl (k 1, 768, .inl on2_5)), (w4, .inl (k 1, 8, .inl fo__6))] := hD
      generalize (upd sr2_1 (Int32.toNatClampNeg (nI q_1)) r_6) = f_7 at hP hD
      refine lv_iinc (v := (nI q_1 - 1)) (lv' := [(1, .int (nI q_1 - 1)), (2, .int (-1)), (0, .ref w0)]) hx hb dX0_reckon_63 hl (k := 1) rfl (dn1 _) (by decide) rfl (fun ls hl => ?_)
      refine lv_goto (tgt := 11) hx hb dX0_reckon_66 (by decide) ?_
      exact ih_1 _ (q_1, on2_5, f_7, f_3, fo__6) _ _ _ (by omega) ⟨rfl, (by omega), (hP.sub [2, 3, 4, 5, 6, 7, 8, 0, 1, 9] rfl), (hD.sub [2, 3, 4, 5, 6, 7, 8, 0, 1, 9] (by decide) rfl), hS, (lv_sub hl [0, 2] rfl)⟩
    · rw [nI_pred] at hl
      refine lv_iload_n hx hb dX0_reckon_36 rfl (lv_at hl 0 rfl) ?_
      refine lv_if_lt (tgt := 52) hx hb dX0_reckon_37 (by decide) (fun h => absurd h (nI_pos0 (by omega))) (fun _ => ?_)
      refine lv_aload_n hx hb dX0_reckon_40 rfl (lv_at hl 2 rfl) ?_
      refine lv_iload_n hx hb dX0_reckon_41 rfl (lv_at hl 1 rfl) ?_
      refine lv_iload_n hx hb dX0_reckon_42 rfl (lv_at hl 0 rfl) ?_
      refine rw_v (D := D) (wr := [(w2, .inl (k 1, 4, .inl sr2_1)), (w4, .inl (k 1, 8, .inl fo2_1))]) (va_runV (As := [.int (nI q_1), .int (nI qi_5)]) (rest := []) ⟨hx, hb, hml, hown, hts⟩ ((x_reckonDoor l D k st lo h0 h1 h2 h3 h4 n see tm g ff fp fl w0 w1 w2 w3 w4 on2_5 f_3 q_1 qi_5 (by omega) (by omega) (by omega) (by omega)) H.size) (cwV 2 hts (gV tw_532 tw_534 tw_5 tw_85 tw_535) rfl rfl rfl (by decide +kernel) ⟨Nat.le_of_ble_eq_true rfl, Nat.le_of_ble_eq_true rfl⟩) (pV hS hAlo hlo hP hK (va_Dlo hD hAlo) hZ [0, 1, 2, 3, 4, 5, 6, 8] (by decide) rfl (ci := 0) (q0 := 5) rfl rfl) rfl rfl hl.1 rfl (lv_room (Nat.le_of_ble_eq_true rfl)) dX0_reckon_43 ⟨Nat.le_of_ble_eq_true rfl, Nat.le_of_ble_eq_true rfl⟩) hS hA hP hD [0, 1, 2, 3, 4, 5, 6, 8] [7, 9] rfl rfl (by decide) (by decide) (fun u H locs hw_8 hP hD hS => ?_)
      obtain ⟨on__8, rfl⟩ : ∃ z, z = u := ⟨_, rfl⟩
      replace hP : va_P D classes [(w2, .inl (k 1, 4, .inl sr2_1)), (w4, .inl (k 1, 8, .inl fo2_1)), (h0, .inr (5, [.ref h1, .ref h2, .ref h3, .ref h4])), (h1, .inl (k 1, 10, .inl (vv n see tm g))), (h2, .inl (k 1, 24, .inl ff)), (h3, .inl (k 1, 24, .inl fp)), (h4, .inl (k 1, 4, .inl fl)), (w0, .inr (0, [.ref h0, .ref w1, .ref w2, .ref w3, .ref w4])), (w1, .inl (k 1, 768, .inl on__8)), (w3, .inl (k 1, 4, .inl f_3))] H := hP
      replace hD : va_D A [(w2, .inl (k 1, 4, .inl sr2_1)), (w4, .inl (k 1, 8, .inl fo2_1)), (h0, .inr (5, [.ref h1, .ref h2, .ref h3, .ref h4])), (h1, .inl (k 1, 10, .inl (vv n see tm g))), (h2, .inl (k 1, 24, .inl ff)), (h3, .inl (k 1, 24, .inl fp)), (h4, .inl (k 1, 4, .inl fl)), (w0, .inr (0, [.ref h0, .ref w1, .ref w2, .ref w3, .ref w4])), (w1, .inl (k 1, 768, .inl on__8)), (w3, .inl (k 1, 4, .inl f_3))] := hD
      try dsimp only at hw_8
      refine lv_iinc (v := (nI qi_5 - 1)) (lv' := [(2, .int (nI qi_5 - 1)), (1, .int (nI q_1)), (0, .ref w0)]) hx hb dX0_reckon_46 hl (k := 0) rfl (dn1 _) (by decide) rfl (fun ls hl => ?_)
      refine lv_goto (tgt := 36) hx hb dX0_reckon_49 (by decide) ?_
      exact ih_5 _ (qi_5, on__8) _ _ _ (by omega) ⟨rfl, (by omega), (hP.sub [2, 3, 4, 5, 6, 7, 8, 0, 9, 1] rfl), (hD.sub [2, 3, 4, 5, 6, 7, 8, 0, 9, 1] (by decide) rfl), hS, (lv_sub hl [0, 1, 2] rfl)⟩



set_option maxHeartbeats 4000000 in
set_option maxRecDepth 100000 in
theorem y_doorShare (l : Launch) (D : va_G) (k : Nat → ClassId) (st : Nat → Nat) (lo : Nat) (h0 : Nat) (h1 : Nat) (h2 : Nat) (h3 : Nat) (h4 : Nat) (n : Nat) (see : Nat) (tm : Nat) (g : Nat → Int32) (ff : Nat → Int32) (fp : Nat → Int32) (fl : Nat → Int32) (rn : Nat) (i : Nat) (wh : Nat) (hrn : rn ≤ 3) (hn : n ≤ 24) (hi : i < n) (hwh : wh ≤ 2) (hl9 : ∀ r, r < 4 → fl r = pLate (sdX n see tm g ff fp) r) : CRi l D k st lo yX2_doorShare cX2_doorShare 4 (some .int) ({ frames := 2, cells := 0, slots := 0, locals := 45 }) [.ref h0, .int (nI rn), .int (nI i), .int (nI wh)] [(h0, .inr (5, (fX5 h1 h2 h3 h4))), (aI k h1 10 (vv n see tm g)), (aI k h2 24 ff), (aI k h3 24 fp), (aI k h4 4 fl)] (fun r => r = pSh (sdX n see tm g ff fp) wh rn i) := by
  intro sz
  refine Met.ofW (cc := cX2_doorShare) (maxL := 4) (ret := (some .int)) (by decide) rfl ?_
  intro p e s m args below meth c s₁ B hml hv
  obtain ⟨rfl, hsz, hlo, hP, hK, hDL, hZ⟩ := hv
  have hx := B.exec
  have hb := B.bytes
  have hr := B.returns
  have hts := WS_ts B.pre
  have hown : s.vm.findClass RX2 = some m.cls := findClass_of_methodNamed B.named
  have hlocks := B.notSynchronized
  subst hsz
  have hA : ∀ q : Nat, s.heap.size ≤ q → (fun q : Nat => s.heap.size ≤ q) q := fun _ h => h
  have hAlo : ∀ q : Nat, (fun q : Nat => s.heap.size ≤ q) q → lo ≤ q := fun q h => Nat.le_trans hlo h
  have hS : va_S (fun q : Nat => s.heap.size ≤ q) s.heap s.heap [] := va_S.rf
  have hl := lv_entry ([.ref h0, .int (nI rn), .int (nI i), .int (nI wh)]) (n := 4) (Nat.le_of_ble_eq_true rfl)
  rw [lg_entry_eq]
  generalize (lg_sl ([.ref h0, .int (nI rn), .int (nI i), .int (nI wh)]) ++ List.replicate (4 - (lg_sl ([.ref h0, .int (nI rn), .int (nI i), .int (nI wh)])).length) Slot.unset).toArray = ls at hl ⊢
  have hl : lv_has ls 4 [(0, .ref h0), (1, .int (nI rn)), (2, .int (nI i)), (3, .int (nI wh))] := hl
  rcases (show wh = 0 ∨ wh = 1 ∨ wh = 2 by omega) with rfl | rfl | rfl
  · refine lv_iload_n hx hb dX2_doorShare_0 rfl (lv_at hl 3 rfl) ?_
    refine lv_lookup (tgt := 28) (off := 27) hx hb dX2_doorShare_1 (by decide) (by decide) (by decide) ?_
    refine lv_aload_n hx hb dX2_doorShare_28 rfl (lv_at hl 0 rfl) ?_
    refine lv_iload_n hx hb dX2_doorShare_29 rfl (lv_at hl 1 rfl) ?_
    refine lv_iload_n hx hb dX2_doorShare_30 rfl (lv_at hl 2 rfl) ?_
    refine ro_i (D := D) (va_runV (As := [.int (nI rn), .int (nI i)]) (rest := []) ⟨hx, hb, hml, hown, hts⟩ ((y_takingOf l D k st lo h0 h1 h2 h3 h4 n see tm g fp fl rn i (by first | assumption | omega) (by first | assumption | omega)) s.heap.size) (cwV 2 hts (gV tw_728 tw_557 tw_558 tw_81 tw_559) rfl rfl rfl (by decide +kernel) ⟨Nat.le_of_ble_eq_true rfl, Nat.le_of_ble_eq_true rfl⟩) (pV hS hAlo hlo hP hK hDL hZ [0, 1, 3, 4] (by decide) rfl (ci := 5) (q := (RX5, TX5, 4)) (q0 := 0) rfl rfl) rfl rfl hl.1 rfl (lv_room (Nat.le_of_ble_eq_true rfl)) dX2_doorShare_31 ⟨Nat.le_of_ble_eq_true rfl, Nat.le_of_ble_eq_true rfl⟩) hS hA hP (fun r_1 H locs hw_1 hP hS => ?_)
    try dsimp only at hw_1
    exact W.iret (v := r_1) hx hb hr (fun t ht hW => ⟨⟨r_1, (), rfl, (hw_1.trans (xTake (by omega) (hl9 _ (by omega)))), trivial⟩, hS.F ht⟩) hS.2.2 dX2_doorShare_34
  · refine lv_iload_n hx hb dX2_doorShare_0 rfl (lv_at hl 3 rfl) ?_
    refine lv_lookup (tgt := 35) (off := 34) hx hb dX2_doorShare_1 (by decide) (by decide) (by decide) ?_
    refine lv_aload_n hx hb dX2_doorShare_35 rfl (lv_at hl 0 rfl) ?_
    refine lv_iload_n hx hb dX2_doorShare_36 rfl (lv_at hl 1 rfl) ?_
    refine ro_i (D := D) (va_runV (As := [.int (nI rn)]) (rest := []) ⟨hx, hb, hml, hown, hts⟩ ((y_isLateIn l D k st lo h0 h1 h2 h3 h4 n see tm g rn) s.heap.size) (cwV 1 hts (gV tw_714 tw_715 tw_716 tw_81 tw_717) rfl rfl rfl (by decide +kernel) ⟨Nat.le_of_ble_eq_true rfl, Nat.le_of_ble_eq_true rfl⟩) (pV hS hAlo hlo hP hK hDL hZ [0, 1] (by decide) rfl (ci := 5) (q := (RX5, TX5, 4)) (q0 := 0) rfl rfl) rfl rfl hl.1 rfl (lv_room (Nat.le_of_ble_eq_true rfl)) dX2_doorShare_37 ⟨Nat.le_of_ble_eq_true rfl, Nat.le_of_ble_eq_true rfl⟩) hS hA hP (fun r_2 H locs hw_2 hP hS => ?_)
    try dsimp only at hw_2
    rcases Decidable.em (fX_isLate n g rn = true) with c_3 | c_3
    · rw [if_pos c_3] at hw_2
      subst hw_2
      refine lv_if_eq (tgt := 48) hx hb dX2_doorShare_40 (by decide) (fun h => absurd h (by decide)) (fun _ => ?_)
      refine lv_ldc hx hb hown (hts _ tw_718) dX2_doorShare_43 ?_
      refine lv_goto (tgt := 49) hx hb dX2_doorShare_45 (by decide) ?_
      exact W.iret (v := 1000000) hx hb hr (fun t ht hW => ⟨⟨1000000, (), rfl, (by show _ = (if pLt (sdX n see tm g ff fp) rn = true then (1000000 : Int32) else 0); rw [if_pos (by rw [← xLt]; exact c_3)]), trivial⟩, hS.F ht⟩) hS.2.2 dX2_doorShare_49
    · rw [if_neg c_3] at hw_2
      subst hw_2
      refine lv_if_eq (tgt := 48) hx hb dX2_doorShare_40 (by decide) (fun _ => ?_) (fun h => absurd (by decide) h)
      refine lv_iconst (v := 0) hx hb dX2_doorShare_48 (by decide) ?_
      exact W.iret (v := 0) hx hb hr (fun t ht hW => ⟨⟨0, (), rfl, (by show _ = (if pLt (sdX n see tm g ff fp) rn = true then (1000000 : Int32) else 0); rw [if_neg (by rw [← xLt]; exact c_3)]), trivial⟩, hS.F ht⟩) hS.2.2 dX2_doorShare_49
  · refine lv_iload_n hx hb dX2_doorShare_0 rfl (lv_at hl 3 rfl) ?_
    refine lv_lookup (tgt := 50) (off := 49) hx hb dX2_doorShare_1 (by decide) (by decide) (by decide) ?_
    refine lv_iconst (v := 0) hx hb dX2_doorShare_50 (by decide) ?_
    exact W.iret (v := 0) hx hb hr (fun t ht hW => ⟨⟨0, (), rfl, rfl, trivial⟩, hS.F ht⟩) hS.2.2 dX2_doorShare_51


set_option maxHeartbeats 4000000 in
set_option maxRecDepth 100000 in
theorem y_meanOfRound (l : Launch) (D : va_G) (k : Nat → ClassId) (st : Nat → Nat) (lo : Nat) (y0 : Nat) (y1 : Nat) (y2 : Nat) (y3 : Nat) (wt : Int32) (wc : Int32) (ya : Nat → Int32) (yb : Nat → Int32) (h0 : Nat) (h1 : Nat) (h2 : Nat) (h3 : Nat) (h4 : Nat) (n : Nat) (see : Nat) (tm : Nat) (g : Nat → Int32) (ff : Nat → Int32) (fp : Nat → Int32) (fl : Nat → Int32) (u0 : Nat) (u1 : Nat) (u2 : Nat) (rf : Int32) (rc : Nat) (rr : Nat) (rs : Nat → Int32) (rb : Nat → Int32) (wh : Nat) (rn : Nat) (p4 : Int32) (hn : n ≤ 24) (hrc : rc ≤ 24) (hrn : rn ≤ 3) (hwh : wh ≤ 2) (hl9 : ∀ r, r < 4 → fl r = pLate (sdX n see tm g ff fp) r) (hok9 : okD (sdX n see tm g ff fp)) : CWi l D k st lo yX2_meanOfRound cX2_meanOfRound 13 (some .int) ({ frames := 3, cells := 0, slots := 0, locals := 83 }) 0 0 [.ref y0, .ref h0, .ref u0, .int (nI wh), .int (nI rn), .int p4] [(y0, .inr (2, (fX2 y1 y2 y3 wt wc))), (aI k y1 25 ya), (aI k y2 25 yb), (h0, .inr (5, (fX5 h1 h2 h3 h4))), (aI k h1 10 (vv n see tm g)), (aI k h2 24 ff), (aI k h3 24 fp), (aI k h4 4 fl), (u0, .inr (3, (fX3 u1 u2 rf (nI rc) (nI rr)))), (aI k u1 24 rs), (aI k u2 24 rb)] (fun (r : Int32) (u : (Nat → Int32) × (Nat → Int32)) => match u with | (ya_, yb_) => r = mV (sdX n see tm g ff fp) (ruX rf rc rr rs rb) wh rn p4 (n) 0 0) (fun (u : (Nat → Int32) × (Nat → Int32)) => match u with | (ya_, yb_) => [(y0, .inr (2, (fX2 y1 y2 y3 wt wc))), (aI k y1 25 ya_), (aI k y2 25 yb_), (h0, .inr (5, (fX5 h1 h2 h3 h4))), (aI k h1 10 (vv n see tm g)), (aI k h2 24 ff), (aI k h3 24 fp), (aI k h4 4 fl), (u0, .inr (3, (fX3 u1 u2 rf (nI rc) (nI rr)))), (aI k u1 24 rs), (aI k u2 24 rb)]) := by
  intro sz
  refine Met.ofW (cc := cX2_meanOfRound) (maxL := 13) (ret := (some .int)) (by decide) rfl ?_
  intro p e s m args below meth c s₁ B hml hv
  obtain ⟨rfl, hsz, hlo, hP, hK, hDL, hZ⟩ := hv
  have hx := B.exec
  have hb := B.bytes
  have hr := B.returns
  have hts := WS_ts B.pre
  have hown : s.vm.findClass RX2 = some m.cls := findClass_of_methodNamed B.named
  have hlocks := B.notSynchronized
  subst hsz
  have hD := hDL.self (sz := s.heap.size)
  have hAlo := A_lo hDL hlo
  generalize hAe : va_A [(y0, .inr (2, (fX2 y1 y2 y3 wt wc))), (aI k y1 25 ya), (aI k y2 25 yb), (h0, .inr (5, (fX5 h1 h2 h3 h4))), (aI k h1 10 (vv n see tm g)), (aI k h2 24 ff), (aI k h3 24 fp), (aI k h4 4 fl), (u0, .inr (3, (fX3 u1 u2 rf (nI rc) (nI rr)))), (aI k u1 24 rs), (aI k u2 24 rb)] s.heap.size = A at hD hAlo ⊢
  have hA : ∀ q : Nat, s.heap.size ≤ q → A q := fun q h => by rw [← hAe]; exact Or.inr h
  have hS : va_S A s.heap s.heap [] := va_S.rf
  have hl := lv_entry ([.ref y0, .ref h0, .ref u0, .int (nI wh), .int (nI rn), .int p4]) (n := 13) (Nat.le_of_ble_eq_true rfl)
  rw [lg_entry_eq]
  generalize (lg_sl ([.ref y0, .ref h0, .ref u0, .int (nI wh), .int (nI rn), .int p4]) ++ List.replicate (13 - (lg_sl ([.ref y0, .ref h0, .ref u0, .int (nI wh), .int (nI rn), .int p4])).length) Slot.unset).toArray = ls at hl ⊢
  have hl : lv_has ls 13 [(0, .ref y0), (1, .ref h0), (2, .ref u0), (3, .int (nI wh)), (4, .int (nI rn)), (5, .int p4)] := hl
  refine lv_iconst (v := 0) hx hb dX2_meanOfRound_0 (by decide) ?_
  refine lv_istore (lv' := [(6, .int 0), (0, .ref y0), (1, .ref h0), (2, .ref u0), (3, .int (nI wh)), (4, .int (nI rn)), (5, .int p4)]) hx hb dX2_meanOfRound_1 hl (by decide) rfl (fun ls hl => ?_)
  refine W_loop (σ := Nat × (Nat → Int32) × (Nat → Int32)) (fun (n_ : Nat) (x_ : Nat × (Nat → Int32) × (Nat → Int32)) (H : Heap) (locs : List Loc) (ls : Array Slot) => match x_ with | (pa_1, ya2_1, yb2_1) => n_ = n + 1 - pa_1 ∧ (pa_1 ≤ n + 1 ∧ (∀ b, b < pa_1 → ya2_1 b = p4) ∧ (∀ b, b < pa_1 → yb2_1 b = p4)) ∧ va_P D classes [(y0, .inr (2, (fX2 y1 y2 y3 wt wc))), (aI k y1 25 ya2_1), (aI k y2 25 yb2_1), (h0, .inr (5, (fX5 h1 h2 h3 h4))), (aI k h1 10 (vv n see tm g)), (aI k h2 24 ff), (aI k h3 24 fp), (aI k h4 4 fl), (u0, .inr (3, (fX3 u1 u2 rf (nI rc) (nI rr)))), (aI k u1 24 rs), (aI k u2 24 rb)] H ∧ va_D A [(y0, .inr (2, (fX2 y1 y2 y3 wt wc))), (aI k y1 25 ya2_1), (aI k y2 25 yb2_1), (h0, .inr (5, (fX5 h1 h2 h3 h4))), (aI k h1 10 (vv n see tm g)), (aI k h2 24 ff), (aI k h3 24 fp), (aI k h4 4 fl), (u0, .inr (3, (fX3 u1 u2 rf (nI rc) (nI rr)))), (aI k u1 24 rs), (aI k u2 24 rb)] ∧ va_S A s.heap H locs ∧ lv_has ls 13 [(6, .int (nI pa_1)), (0, .ref y0), (1, .ref h0), (2, .ref u0), (3, .int (nI wh)), (4, .int (nI rn)), (5, .int p4)]) (fun n_1 x_1 H locs ls hI ih_1 => ?_) _ (0, ya, yb) ⟨rfl, ⟨by omega, fun b h => absurd h (Nat.not_lt_zero b), fun b h => absurd h (Nat.not_lt_zero b)⟩, hP, hD, hS, (lv_sub hl [0, 1, 2, 3, 4, 5, 6] rfl)⟩
  obtain ⟨pa_1, ya2_1, yb2_1⟩ := x_1
  obtain ⟨hm_1, hv_1, hP, hD, hS, hl⟩ := hI
  subst hm_1
  refine lv_iload hx hb dX2_meanOfRound_3 (lv_at hl 0 rfl) ?_
  refine lv_aload_n hx hb dX2_meanOfRound_5 rfl (lv_at hl 2 rfl) ?_
  refine ro_i (D := D) (va_runV (As := []) (rest := [.int (nI pa_1)]) ⟨hx, hb, hml, hown, hts⟩ ((x_doors l D k st lo h0 h1 h2 h3 h4 n see tm g) H.size) (cwV 0 hts (gV tw_723 tw_478 tw_479 tw_81 tw_480) rfl rfl rfl (by decide +kernel) ⟨Nat.le_of_ble_eq_true rfl, Nat.le_of_ble_eq_true rfl⟩) (pV hS hAlo hlo hP hK (va_Dlo hD hAlo) hZ [3, 4] (by decide) rfl (ci := 5) (q := (RX5, TX5, 4)) (q0 := 0) rfl rfl) rfl rfl hl.1 rfl (lv_room (Nat.le_of_ble_eq_true rfl)) dX2_meanOfRound_6 ⟨Nat.le_of_ble_eq_true rfl, Nat.le_of_ble_eq_true rfl⟩) hS hA hP (fun r_2 H locs hw_2 hP hS => ?_)
  try dsimp only at hw_2
  subst hw_2
  refine lv_icmp_gt (tgt := 36) hx hb dX2_meanOfRound_9 (by decide) (fun c_3 => ?_) (fun c_3 => ?_)
  · have c_3 := (nI_ltI (a := n) (b := pa_1) (by omega) (by omega)).mp c_3
    refine lv_iload_n hx hb dX2_meanOfRound_36 rfl (lv_at hl 4 rfl) ?_
    refine lv_if_ne (tgt := 47) hx hb dX2_meanOfRound_37 (by decide) (fun c_4 => ?_) (fun c_4 => ?_)
    · have c_4 : ¬ (wh = 0) := fun h => c_4 ((nI_eq (a := wh) (b := 0) (by omega) (by omega)).mpr h)
      refine lv_iconst (v := 0) hx hb dX2_meanOfRound_47 (by decide) ?_
      have hps_5 : (0 : Int32) = pPs (sdX n see tm g ff fp) wh := by unfold pPs; rw [if_neg (by omega)]
      refine lv_istore (lv' := [(6, .int 0), (0, .ref y0), (1, .ref h0), (2, .ref u0), (3, .int (nI wh)), (4, .int (nI rn)), (5, .int p4)]) hx hb dX2_meanOfRound_48 hl (by decide) rfl (fun ls hl => ?_)
      refine lv_aload_n hx hb dX2_meanOfRound_50 rfl (lv_at hl 2 rfl) ?_
      refine ro_i (D := D) (va_runV (As := []) (rest := []) ⟨hx, hb, hml, hown, hts⟩ ((x_doors l D k st lo h0 h1 h2 h3 h4 n see tm g) H.size) (cwV 0 hts (gV tw_723 tw_478 tw_479 tw_81 tw_480) rfl rfl rfl (by decide +kernel) ⟨Nat.le_of_ble_eq_true rfl, Nat.le_of_ble_eq_true rfl⟩) (pV hS hAlo hlo hP hK (va_Dlo hD hAlo) hZ [3, 4] (by decide) rfl (ci := 5) (q := (RX5, TX5, 4)) (q0 := 0) rfl rfl) rfl rfl hl.1 rfl (lv_room (Nat.le_of_ble_eq_true rfl)) dX2_meanOfRound_51 ⟨Nat.le_of_ble_eq_true rfl, Nat.le_of_ble_eq_true rfl⟩) hS hA hP (fun r_6 H locs hw_6 hP hS => ?_)
      try dsimp only at hw_6
      subst hw_6
      refine lv_iconst (v := 1) hx hb dX2_meanOfRound_54 (by decide) ?_
      refine lv_isub hx hb dX2_meanOfRound_55 ?_
      refine lv_ti (y := (nI n - 1)) rfl ?_
      refine lv_istore (lv' := [(7, .int (nI n - 1)), (6, .int 0), (0, .ref y0), (1, .ref h0), (2, .ref u0), (3, .int (nI wh)), (4, .int (nI rn)), (5, .int p4)]) hx hb dX2_meanOfRound_56 hl (by decide) rfl (fun ls hl => ?_)
      refine W_loop (σ := Nat × (Nat → Int32) × (Nat → Int32)) (fun (n_ : Nat) (x_ : Nat × (Nat → Int32) × (Nat → Int32)) (H : Heap) (locs : List Loc) (ls : Array Slot) => match x_ with | (q_7, ya2_7, yb2_7) => n_ = 2 * q_7 ∧ (q_7 ≤ n ∧ (∀ b, b < q_7 + 1 → ya2_7 b = mV (sdX n see tm g ff fp) (ruX rf rc rr rs rb) wh rn p4 (n - q_7) b 1) ∧ (∀ b, b < q_7 + 1 → yb2_7 b = mV (sdX n see tm g ff fp) (ruX rf rc rr rs rb) wh rn p4 (n - q_7) b 0)) ∧ va_P D classes [(y0, .inr (2, (fX2 y1 y2 y3 wt wc))), (aI k y1 25 ya2_7), (aI k y2 25 yb2_7), (h0, .inr (5, (fX5 h1 h2 h3 h4))), (aI k h1 10 (vv n see tm g)), (aI k h2 24 ff), (aI k h3 24 fp), (aI k h4 4 fl), (u0, .inr (3, (fX3 u1 u2 rf (nI rc) (nI rr)))), (aI k u1 24 rs), (aI k u2 24 rb)] H ∧ va_D A [(y0, .inr (2, (fX2 y1 y2 y3 wt wc))), (aI k y1 25 ya2_7), (aI k y2 25 yb2_7), (h0, .inr (5, (fX5 h1 h2 h3 h4))), (aI k h1 10 (vv n see tm g)), (aI k h2 24 ff), (aI k h3 24 fp), (aI k h4 4 fl), (u0, .inr (3, (fX3 u1 u2 rf (nI rc) (nI rr)))), (aI k u1 24 rs), (aI k u2 24 rb)] ∧ va_S A s.heap H locs ∧ lv_has ls 13 [(7, .int (nI q_7 - 1)), (6, .int 0), (0, .ref y0), (1, .ref h0), (2, .ref u0), (3, .int (nI wh)), (4, .int (nI rn)), (5, .int p4)]) (fun n_7 x_7 H locs ls hI ih_7 => ?_) _ (n, ya2_1, yb2_1) ⟨rfl, ⟨by omega, fun b hb => by rw [Nat.sub_self]; exact hv_1.2.1 b (by omega), fun b hb => by rw [Nat.sub_self]; exact hv_1.2.2 b (by omega)⟩, hP, hD, hS, (lv_sub hl [0, 1, 2, 3, 4, 5, 6, 7] rfl)⟩
      obtain ⟨q_7, ya2_7, yb2_7⟩ := x_7
      obtain ⟨hm_7, hv_7, hP, hD, hS, hl⟩ := hI
      subst hm_7
      rcases q_7 with _ | q_7
      · rw [dn0] at hl
        refine lv_iload hx hb dX2_meanOfRound_58 (lv_at hl 0 rfl) ?_
        refine lv_if_lt (tgt := 192) hx hb dX2_meanOfRound_60 (by decide) (fun _ => ?_) (fun h => absurd (by decide) h)
        refine lv_aload_n hx hb dX2_meanOfRound_192 rfl (lv_at hl 2 rfl) ?_
        refine va_get (D := D) (ci := 2) (v := .ref y2) (C := RX2) (T := TX2) (N := 5) hx hb hts inX2 hown hK hP 0 rfl rfl 1 (by decide) (hts _ tw_211) (fun _ h9 => h9) rfl dX2_meanOfRound_193 ?_
        refine lv_iconst (v := 0) hx hb dX2_meanOfRound_196 (by decide) ?_
        refine va_iald hx hb hK hP 2 1 rfl rfl (by unfold vp_in; decide) dX2_meanOfRound_197 ?_
        refine lv_ti (y := (yb2_7 0)) (by rfl) ?_
        obtain ⟨hP9, hD9⟩ := pd_sub [(y0, .inr (2, (fX2 y1 y2 y3 wt wc))), (aI k y1 25 ya2_7), (aI k y2 25 yb2_7), (h0, .inr (5, (fX5 h1 h2 h3 h4))), (aI k h1 10 (vv n see tm g)), (aI k h2 24 ff), (aI k h3 24 fp), (aI k h4 4 fl), (u0, .inr (3, (fX3 u1 u2 rf (nI rc) (nI rr)))), (aI k u1 24 rs), (aI k u2 24 rb)] [0, 1, 2, 3, 4, 5, 6, 7, 8, 9, 10] hP hD (by decide +kernel) rfl
        exact W.iret (v := (yb2_7 0)) hx hb hr (fun t ht hW => ⟨⟨(yb2_7 0), (ya2_7, yb2_7), rfl, hv_7.2.2 0 (by omega), by rw [ht]; exact hP9, hD9⟩, hS.F ht⟩) hS.2.2 dX2_meanOfRound_198
      · rw [nI_pred] at hl
        refine lv_iload hx hb dX2_meanOfRound_58 (lv_at hl 0 rfl) ?_
        refine lv_if_lt (tgt := 192) hx hb dX2_meanOfRound_60 (by decide) (fun h => absurd h (nI_pos0 (by omega))) (fun _ => ?_)
        refine lv_aload_n hx hb dX2_meanOfRound_63 rfl (lv_at hl 3 rfl) ?_
        refine lv_iload hx hb dX2_meanOfRound_64 (lv_at hl 6 rfl) ?_
        refine lv_iload hx hb dX2_meanOfRound_66 (lv_at hl 0 rfl) ?_
        refine lv_iload_n hx hb dX2_meanOfRound_68 rfl (lv_at hl 5 rfl) ?_
        refine ro_i (D := D) (va_runS (As := [.ref h0, .int (nI rn), .int (nI q_7), .int (nI wh)]) (rest := []) ⟨hx, hb, hml, hown, hts⟩ ((y_doorShare l D k st lo h0 h1 h2 h3 h4 n see tm g ff fp fl rn q_7 wh (by first | assumption | omega) (by first | assumption | omega) (by first | assumption | omega) (by first | assumption | omega) hl9) H.size) (va_cwS 4 hts (gS tw_725 tw_726 tw_83 tw_727) rfl rfl rfl (by decide +kernel) ⟨Nat.le_of_ble_eq_true rfl, Nat.le_of_ble_eq_true rfl⟩) (pS hS hAlo hlo hP hK (va_Dlo hD hAlo) hZ [3, 4, 5, 6, 7] (by decide) rfl) rfl rfl hl.1 rfl (lv_room (Nat.le_of_ble_eq_true rfl)) dX2_meanOfRound_69 ⟨Nat.le_of_ble_eq_true rfl, Nat.le_of_ble_eq_true rfl⟩) hS hA hP (fun r_8 H locs hw_8 hP hS => ?_)
        try dsimp only at hw_8
        refine lv_istore (lv' := [(8, .int r_8), (7, .int (nI q_7)), (6, .int 0), (0, .ref y0), (1, .ref h0), (2, .ref u0), (3, .int (nI wh)), (4, .int (nI rn)), (5, .int p4)]) hx hb dX2_meanOfRound_72 hl (by decide) rfl (fun ls hl => ?_)
        refine lv_iconst (v := 0) hx hb dX2_meanOfRound_74 (by decide) ?_
        refine lv_istore (lv' := [(9, .int 0), (8, .int r_8), (7, .int (nI q_7)), (6, .int 0), (0, .ref y0), (1, .ref h0), (2, .ref u0), (3, .int (nI wh)), (4, .int (nI rn)), (5, .int p4)]) hx hb dX2_meanOfRound_75 hl (by decide) rfl (fun ls hl => ?_)
        refine W_loop (σ := Nat × (Nat → Int32) × (Nat → Int32)) (fun (n_ : Nat) (x_ : Nat × (Nat → Int32) × (Nat → Int32)) (H : Heap) (locs : List Loc) (ls : Array Slot) => match x_ with | (be_9, ya3_9, yb3_9) => n_ = q_7 + 1 - be_9 ∧ (be_9 ≤ q_7 + 1 ∧ (∀ b, b < be_9 → ya3_9 b = mV (sdX n see tm g ff fp) (ruX rf rc rr rs rb) wh rn p4 (n - q_7) b 1) ∧ (∀ b, b < be_9 → yb3_9 b = mV (sdX n see tm g ff fp) (ruX rf rc rr rs rb) wh rn p4 (n - q_7) b 0) ∧ (∀ b, be_9 ≤ b → b < q_7 + 2 → ya3_9 b = mV (sdX n see tm g ff fp) (ruX rf rc rr rs rb) wh rn p4 (n - (q_7 + 1)) b 1) ∧ (∀ b, be_9 ≤ b → b < q_7 + 2 → yb3_9 b = mV (sdX n see tm g ff fp) (ruX rf rc rr rs rb) wh rn p4 (n - (q_7 + 1)) b 0)) ∧ va_P D classes [(y0, .inr (2, (fX2 y1 y2 y3 wt wc))), (aI k y1 25 ya3_9), (aI k y2 25 yb3_9), (h0, .inr (5, (fX5 h1 h2 h3 h4))), (aI k h1 10 (vv n see tm g)), (aI k h2 24 ff), (aI k h3 24 fp), (aI k h4 4 fl), (u0, .inr (3, (fX3 u1 u2 rf (nI rc) (nI rr)))), (aI k u1 24 rs), (aI k u2 24 rb)] H ∧ va_D A [(y0, .inr (2, (fX2 y1 y2 y3 wt wc))), (aI k y1 25 ya3_9), (aI k y2 25 yb3_9), (h0, .inr (5, (fX5 h1 h2 h3 h4))), (aI k h1 10 (vv n see tm g)), (aI k h2 24 ff), (aI k h3 24 fp), (aI k h4 4 fl), (u0, .inr (3, (fX3 u1 u2 rf (nI rc) (nI rr)))), (aI k u1 24 rs), (aI k u2 24 rb)] ∧ va_S A s.heap H locs ∧ lv_has ls 13 [(9, .int (nI be_9)), (8, .int r_8), (7, .int (nI q_7)), (6, .int 0), (0, .ref y0), (1, .ref h0), (2, .ref u0), (3, .int (nI wh)), (4, .int (nI rn)), (5, .int p4)]) (fun n_9 x_9 H locs ls hI ih_9 => ?_) _ (0, ya2_7, yb2_7) ⟨rfl, ⟨by omega, fun b h => absurd h (Nat.not_lt_zero b), fun b h => absurd h (Nat.not_lt_zero b), fun b _ h => hv_7.2.1 b (by omega), fun b _ h => hv_7.2.2 b (by omega)⟩, hP, hD, hS, (lv_sub hl [0, 1, 2, 3, 4, 5, 6, 7, 8, 9] rfl)⟩
        obtain ⟨be_9, ya3_9, yb3_9⟩ := x_9
        obtain ⟨hm_9, hv_9, hP, hD, hS, hl⟩ := hI
        subst hm_9
        refine lv_iload hx hb dX2_meanOfRound_77 (lv_at hl 0 rfl) ?_
        refine lv_iload hx hb dX2_meanOfRound_79 (lv_at hl 2 rfl) ?_
        refine lv_icmp_gt (tgt := 186) hx hb dX2_meanOfRound_81 (by decide) (fun c_10 => ?_) (fun c_10 => ?_)
        · have c_10 := (nI_ltI (a := q_7) (b := be_9) (by omega) (by omega)).mp c_10
          refine lv_iinc (v := (nI q_7 - 1)) (lv' := [(7, .int (nI q_7 - 1)), (9, .int (nI be_9)), (8, .int r_8), (6, .int 0), (0, .ref y0), (1, .ref h0), (2, .ref u0), (3, .int (nI wh)), (4, .int (nI rn)), (5, .int p4)]) hx hb dX2_meanOfRound_186 hl (k := 2) rfl (dn1 _) (by decide) rfl (fun ls hl => ?_)
          refine lv_goto (tgt := 58) hx hb dX2_meanOfRound_189 (by decide) ?_
          exact ih_7 _ (q_7, ya3_9, yb3_9) _ _ _ (by omega) ⟨rfl, ⟨by omega, fun b hb => hv_9.2.1 b (by omega), fun b hb => hv_9.2.2.1 b (by omega)⟩, hP, hD, hS, (lv_sub hl [0, 3, 4, 5, 6, 7, 8, 9] rfl)⟩
        · have c_10 : ¬ (q_7 < be_9) := fun h => c_10 ((nI_ltI (a := q_7) (b := be_9) (by omega) (by omega)).mpr h)
          refine lv_iload hx hb dX2_meanOfRound_84 (lv_at hl 2 rfl) ?_
          refine lv_aload_n hx hb dX2_meanOfRound_86 rfl (lv_at hl 6 rfl) ?_
          refine lv_iload hx hb dX2_meanOfRound_87 (lv_at hl 0 rfl) ?_
          refine ro_i (D := D) (va_runV (As := [.int (nI be_9)]) (rest := [.int (nI q_7)]) ⟨hx, hb, hml, hown, hts⟩ ((y_barAfter l D k st lo u0 u1 u2 rf rc rr rs rb be_9 (by first | assumption | omega)) H.size) (cwV 1 hts (gV tw_729 tw_730 tw_731 tw_86 tw_732) rfl rfl rfl (by decide +kernel) ⟨Nat.le_of_ble_eq_true rfl, Nat.le_of_ble_eq_true rfl⟩) (pV hS hAlo hlo hP hK (va_Dlo hD hAlo) hZ [8, 9, 10] (by decide) rfl (ci := 3) (q := (RX3, TX3, 5)) (q0 := 0) rfl rfl) rfl rfl hl.1 rfl (lv_room (Nat.le_of_ble_eq_true rfl)) dX2_meanOfRound_89 ⟨Nat.le_of_ble_eq_true rfl, Nat.le_of_ble_eq_true rfl⟩) hS hA hP (fun r_11 H locs hw_11 hP hS => ?_)
          try dsimp only at hw_11
          refine lv_icmp_lt (tgt := 99) hx hb dX2_meanOfRound_92 (by decide) (fun c_12 => ?_) (fun c_12 => ?_)
          · refine lv_iconst (v := 0) hx hb dX2_meanOfRound_99 (by decide) ?_
            refine lv_istore (lv' := [(10, .int 0), (9, .int (nI be_9)), (8, .int r_8), (7, .int (nI q_7)), (6, .int 0), (0, .ref y0), (1, .ref h0), (2, .ref u0), (3, .int (nI wh)), (4, .int (nI rn)), (5, .int p4)]) hx hb dX2_meanOfRound_100 hl (by decide) rfl (fun ls hl => ?_)
            refine lv_iload hx hb dX2_meanOfRound_102 (lv_at hl 0 rfl) ?_
            refine lv_if_eq (tgt := 112) hx hb dX2_meanOfRound_104 (by decide) (fun _ => ?_) (fun h => absurd (by decide) h)
            refine lv_iload hx hb dX2_meanOfRound_112 (lv_at hl 4 rfl) ?_
            refine lv_aload_n hx hb dX2_meanOfRound_114 rfl (lv_at hl 5 rfl) ?_
            refine va_get (D := D) (ci := 2) (v := .ref y1) (C := RX2) (T := TX2) (N := 5) hx hb hts inX2 hown hK hP 0 rfl rfl 0 (by decide) (hts _ tw_210) (fun _ h9 => h9) rfl dX2_meanOfRound_115 ?_
            refine lv_iload hx hb dX2_meanOfRound_118 (lv_at hl 1 rfl) ?_
            refine lv_iconst (v := 1) hx hb dX2_meanOfRound_120 (by decide) ?_
            refine lv_iadd hx hb dX2_meanOfRound_121 ?_
            refine lv_ti (y := (nI (be_9 + 1))) (nI_add be_9 1) ?_
            refine va_iald hx hb hK hP 1 1 rfl rfl (vp_in_nI (by omega) (by decide)) dX2_meanOfRound_122 ?_
            refine lv_ti (y := (ya3_9 (be_9 + 1))) (by rw [nI_clamp (by omega)]) ?_
            refine lv_iadd hx hb dX2_meanOfRound_123 ?_
            refine lv_topi (fun x_13 ex_13 => ?_)
            refine lv_istore (lv' := [(11, .int x_13), (10, .int 0), (9, .int (nI be_9)), (8, .int r_8), (7, .int (nI q_7)), (6, .int 0), (0, .ref y0), (1, .ref h0), (2, .ref u0), (3, .int (nI wh)), (4, .int (nI rn)), (5, .int p4)]) hx hb dX2_meanOfRound_124 hl (by decide) rfl (fun ls hl => ?_)
            refine lv_iload hx hb dX2_meanOfRound_126 (lv_at hl 5 rfl) ?_
            refine lv_aload_n hx hb dX2_meanOfRound_128 rfl (lv_at hl 6 rfl) ?_
            refine va_get (D := D) (ci := 2) (v := .ref y2) (C := RX2) (T := TX2) (N := 5) hx hb hts inX2 hown hK hP 0 rfl rfl 1 (by decide) (hts _ tw_211) (fun _ h9 => h9) rfl dX2_meanOfRound_129 ?_
            refine lv_iload hx hb dX2_meanOfRound_132 (lv_at hl 2 rfl) ?_
            refine va_iald hx hb hK hP 2 1 rfl rfl (vp_in_nI (by omega) (by decide)) dX2_meanOfRound_134 ?_
            refine lv_ti (y := (yb3_9 be_9)) (by rw [nI_clamp (by omega)]) ?_
            refine lv_iadd hx hb dX2_meanOfRound_135 ?_
            refine lv_topi (fun x_14 ex_14 => ?_)
            refine lv_istore (lv' := [(12, .int x_14), (11, .int x_13), (10, .int 0), (9, .int (nI be_9)), (8, .int r_8), (7, .int (nI q_7)), (6, .int 0), (0, .ref y0), (1, .ref h0), (2, .ref u0), (3, .int (nI wh)), (4, .int (nI rn)), (5, .int p4)]) hx hb dX2_meanOfRound_136 hl (by decide) rfl (fun ls hl => ?_)
            refine lv_aload_n hx hb dX2_meanOfRound_138 rfl (lv_at hl 7 rfl) ?_
            refine va_get (D := D) (ci := 2) (v := .ref y1) (C := RX2) (T := TX2) (N := 5) hx hb hts inX2 hown hK hP 0 rfl rfl 0 (by decide) (hts _ tw_210) (fun _ h9 => h9) rfl dX2_meanOfRound_139 ?_
            refine lv_iload hx hb dX2_meanOfRound_142 (lv_at hl 3 rfl) ?_
            refine lv_aload_n hx hb dX2_meanOfRound_144 rfl (lv_at hl 8 rfl) ?_
            refine lv_iload hx hb dX2_meanOfRound_145 (lv_at hl 5 rfl) ?_
            refine lv_iconst (v := 1) hx hb dX2_meanOfRound_147 (by decide) ?_
            refine ro_i (D := D) (va_runV (As := [.int (nI q_7), .int 1]) (rest := [.int (nI be_9), .ref y1]) ⟨hx, hb, hml, hown, hts⟩ ((y_chanceOf l D k st lo h0 h1 h2 h3 h4 n see tm g ff q_7 1 (by first | assumption | omega)) H.size) (cwV 2 hts (gV tw_733 tw_565 tw_566 tw_81 tw_567) rfl rfl rfl (by decide +kernel) ⟨Nat.le_of_ble_eq_true rfl, Nat.le_of_ble_eq_true rfl⟩) (pV hS hAlo hlo hP hK (va_Dlo hD hAlo) hZ [3, 4, 5] (by decide) rfl (ci := 5) (q := (RX5, TX5, 4)) (q0 := 0) rfl rfl) rfl rfl hl.1 rfl (lv_room (Nat.le_of_ble_eq_true rfl)) dX2_meanOfRound_148 ⟨Nat.le_of_ble_eq_true rfl, Nat.le_of_ble_eq_true rfl⟩) hS hA hP (fun r_15 H locs hw_15 hP hS => ?_)
            try dsimp only at hw_15
            refine lv_iload hx hb dX2_meanOfRound_151 (lv_at hl 1 rfl) ?_
            refine lv_iload hx hb dX2_meanOfRound_153 (lv_at hl 0 rfl) ?_
            refine ro_i (D := D) (va_runSN (As := [.int r_15, .int x_13, .int x_14]) (rest := [.int (nI be_9), .ref y1]) ⟨hx, hb, hml, hown, hts⟩ ((y_mixed l D k st lo r_15 x_13 x_14) H.size) ⟨va_cnB 3 hts (gLW tw_570) rfl rfl rfl (hZ.2.2.2.2.2.2.2.2.1.1 (RX2, 78, yX7_mixed, RX7) (List.mem_of_getElem? (i := 6) rfl)) (hts _ tw_79) (by decide +kernel) ⟨Nat.le_of_ble_eq_true rfl, Nat.le_of_ble_eq_true rfl⟩, hts _ tw_569, trivial⟩ (pS hS hAlo hlo hP hK (va_Dlo hD hAlo) hZ [] (by decide) rfl) rfl rfl hl.1 rfl (lv_room (Nat.le_of_ble_eq_true rfl)) dX2_meanOfRound_155 ⟨Nat.le_of_ble_eq_true rfl, Nat.le_of_ble_eq_true rfl⟩) hS hA hP (fun r_16 H locs hw_16 hP hS => ?_)
            try dsimp only at hw_16
            refine va_iast hx hb hK hP hD hS 1 1 rfl rfl (vp_in_nI (by omega) (by decide)) dX2_meanOfRound_158 (fun H locs hP hD hS => ?_)
            have hQ9 := pd_mk [(y0, .inr (2, (fX2 y1 y2 y3 wt wc))), (aI k y1 25 (upd ya3_9 (Int32.toNatClampNeg (nI be_9)) r_16)), (aI k y2 25 yb3_9), (h0, .inr (5, (fX5 h1 h2 h3 h4))), (aI k h1 10 (vv n see tm g)), (aI k h2 24 ff), (aI k h3 24 fp), (aI k h4 4 fl), (u0, .inr (3, (fX3 u1 u2 rf (nI rc) (nI rr)))), (aI k u1 24 rs), (aI k u2 24 rb)] hP hD
            clear hP hD
            obtain ⟨hP, hD⟩ := hQ9
            rw [nI_clamp (n := be_9) (by omega)] at hP hD
            have hQ9 := pd_mk [(y0, .inr (2, (fX2 y1 y2 y3 wt wc))), (aI k y1 25 (upd ya3_9 be_9 r_16)), (aI k y2 25 yb3_9), (h0, .inr (5, (fX5 h1 h2 h3 h4))), (aI k h1 10 (vv n see tm g)), (aI k h2 24 ff), (aI k h3 24 fp), (aI k h4 4 fl), (u0, .inr (3, (fX3 u1 u2 rf (nI rc) (nI rr)))), (aI k u1 24 rs), (aI k u2 24 rb)] hP hD
            clear hP hD
            obtain ⟨hP, hD⟩ := hQ9
            refine lv_aload_n hx hb dX2_meanOfRound_159 rfl (lv_at hl 7 rfl) ?_
            refine va_get (D := D) (ci := 2) (v := .ref y2) (C := RX2) (T := TX2) (N := 5) hx hb hts inX2 hown hK hP 0 rfl rfl 1 (by decide) (hts _ tw_211) (fun _ h9 => h9) rfl dX2_meanOfRound_160 ?_
            refine lv_iload hx hb dX2_meanOfRound_163 (lv_at hl 3 rfl) ?_
            refine lv_aload_n hx hb dX2_meanOfRound_165 rfl (lv_at hl 8 rfl) ?_
            refine lv_iload hx hb dX2_meanOfRound_166 (lv_at hl 5 rfl) ?_
            refine lv_iconst (v := 0) hx hb dX2_meanOfRound_168 (by decide) ?_
            refine ro_i (D := D) (va_runV (As := [.int (nI q_7), .int 0]) (rest := [.int (nI be_9), .ref y2]) ⟨hx, hb, hml, hown, hts⟩ ((y_chanceOf l D k st lo h0 h1 h2 h3 h4 n see tm g ff q_7 0 (by first | assumption | omega)) H.size) (cwV 2 hts (gV tw_733 tw_565 tw_566 tw_81 tw_567) rfl rfl rfl (by decide +kernel) ⟨Nat.le_of_ble_eq_true rfl, Nat.le_of_ble_eq_true rfl⟩) (pV hS hAlo hlo hP hK (va_Dlo hD hAlo) hZ [3, 4, 5] (by decide) rfl (ci := 5) (q := (RX5, TX5, 4)) (q0 := 0) rfl rfl) rfl rfl hl.1 rfl (lv_room (Nat.le_of_ble_eq_true rfl)) dX2_meanOfRound_169 ⟨Nat.le_of_ble_eq_true rfl, Nat.le_of_ble_eq_true rfl⟩) hS hA hP (fun r_18 H locs hw_18 hP hS => ?_)
            try dsimp only at hw_18
            refine lv_iload hx hb dX2_meanOfRound_172 (lv_at hl 1 rfl) ?_
            refine lv_iload hx hb dX2_meanOfRound_174 (lv_at hl 0 rfl) ?_
            refine ro_i (D := D) (va_runSN (As := [.int r_18, .int x_13, .int x_14]) (rest := [.int (nI be_9), .ref y2]) ⟨hx, hb, hml, hown, hts⟩ ((y_mixed l D k st lo r_18 x_13 x_14) H.size) ⟨va_cnB 3 hts (gLW tw_570) rfl rfl rfl (hZ.2.2.2.2.2.2.2.2.1.1 (RX2, 78, yX7_mixed, RX7) (List.mem_of_getElem? (i := 6) rfl)) (hts _ tw_79) (by decide +kernel) ⟨Nat.le_of_ble_eq_true rfl, Nat.le_of_ble_eq_true rfl⟩, hts _ tw_569, trivial⟩ (pS hS hAlo hlo hP hK (va_Dlo hD hAlo) hZ [] (by decide) rfl) rfl rfl hl.1 rfl (lv_room (Nat.le_of_ble_eq_true rfl)) dX2_meanOfRound_176 ⟨Nat.le_of_ble_eq_true rfl, Nat.le_of_ble_eq_true rfl⟩) hS hA hP (fun r_19 H locs hw_19 hP hS => ?_)
            try dsimp only at hw_19
            refine va_iast hx hb hK hP hD hS 2 1 rfl rfl (vp_in_nI (by omega) (by decide)) dX2_meanOfRound_179 (fun H locs hP hD hS => ?_)
            have hQ9 := pd_mk [(y0, .inr (2, (fX2 y1 y2 y3 wt wc))), (aI k y1 25 (upd ya3_9 be_9 r_16)), (aI k y2 25 (upd yb3_9 (Int32.toNatClampNeg (nI be_9)) r_19)), (h0, .inr (5, (fX5 h1 h2 h3 h4))), (aI k h1 10 (vv n see tm g)), (aI k h2 24 ff), (aI k h3 24 fp), (aI k h4 4 fl), (u0, .inr (3, (fX3 u1 u2 rf (nI rc) (nI rr)))), (aI k u1 24 rs), (aI k u2 24 rb)] hP hD
            clear hP hD
            obtain ⟨hP, hD⟩ := hQ9
            rw [nI_clamp (n := be_9) (by omega)] at hP hD
            have hQ9 := pd_mk [(y0, .inr (2, (fX2 y1 y2 y3 wt wc))), (aI k y1 25 (upd ya3_9 be_9 r_16)), (aI k y2 25 (upd yb3_9 be_9 r_19)), (h0, .inr (5, (fX5 h1 h2 h3 h4))), (aI k h1 10 (vv n see tm g)), (aI k h2 24 ff), (aI k h3 24 fp), (aI k h4 4 fl), (u0, .inr (3, (fX3 u1 u2 rf (nI rc) (nI rr)))), (aI k u1 24 rs), (aI k u2 24 rb)] hP hD
            clear hP hD
            obtain ⟨hP, hD⟩ := hQ9
            refine lv_iinc (v := (nI (be_9 + 1))) (lv' := [(9, .int (nI (be_9 + 1))), (12, .int x_14), (11, .int x_13), (10, .int 0), (8, .int r_8), (7, .int (nI q_7)), (6, .int 0), (0, .ref y0), (1, .ref h0), (2, .ref u0), (3, .int (nI wh)), (4, .int (nI rn)), (5, .int p4)]) hx hb dX2_meanOfRound_180 hl (k := 3) rfl (nI_add be_9 1) (by decide) rfl (fun ls hl => ?_)
            refine lv_goto (tgt := 77) hx hb dX2_meanOfRound_183 (by decide) ?_
            have ha_9 := mv_v (d := (sdX n see tm g ff fp)) (u := (ruX rf rc rr rs rb)) (wh := wh) (r := rn) (E := p4) (p := be_9) (a := 1) (show q_7 < n by omega) (show _ = pChance (sdX n see tm g ff fp) q_7 (nI 1) from hw_15.trans (xChance (show q_7 < n by omega) (okX hok9 (show q_7 < n by omega)))) (by rw [if_neg (show ¬ pBar (ruX rf rc rr rs rb) be_9 ≤ nI q_7 by rw [← hw_11]; exact Int32.not_le.mpr c_12), ← hps_5, ex_13]; exact congrArg (fun z => 0 + z) (hv_9.2.2.2.1 (be_9 + 1) (by omega) (by omega))) (by rw [← hps_5, ex_14]; exact congrArg (fun z => 0 + z) (hv_9.2.2.2.2 be_9 (by omega) (by omega))) (hw_16.trans (mix_same (by rw [hw_15, xChance (see := see) (tm := tm) (fp := fp) (show q_7 < n by omega) (okX hok9 (show q_7 < n by omega))]; exact pCh_in)))
            have hb_9 := mv_v (d := (sdX n see tm g ff fp)) (u := (ruX rf rc rr rs rb)) (wh := wh) (r := rn) (E := p4) (p := be_9) (a := 0) (show q_7 < n by omega) (show _ = pChance (sdX n see tm g ff fp) q_7 (nI 0) from hw_18.trans (xChance (show q_7 < n by omega) (okX hok9 (show q_7 < n by omega)))) (by rw [if_neg (show ¬ pBar (ruX rf rc rr rs rb) be_9 ≤ nI q_7 by rw [← hw_11]; exact Int32.not_le.mpr c_12), ← hps_5, ex_13]; exact congrArg (fun z => 0 + z) (hv_9.2.2.2.1 (be_9 + 1) (by omega) (by omega))) (by rw [← hps_5, ex_14]; exact congrArg (fun z => 0 + z) (hv_9.2.2.2.2 be_9 (by omega) (by omega))) (hw_19.trans (mix_same (by rw [hw_18, xChance (see := see) (tm := tm) (fp := fp) (show q_7 < n by omega) (okX hok9 (show q_7 < n by omega))]; exact pCh_in)))
            have hsa_9 := mv_st (i := q_7) hv_9.2.1 hv_9.2.2.2.1 ha_9
            have hsb_9 := mv_st (i := q_7) hv_9.2.2.1 hv_9.2.2.2.2 hb_9
            exact ih_9 _ (be_9 + 1, (upd ya3_9 be_9 r_16), (upd yb3_9 be_9 r_19)) _ _ _ (by omega) ⟨rfl, ⟨by omega, hsa_9.1, hsb_9.1, hsa_9.2, hsb_9.2⟩, hP, hD, hS, (lv_sub hl [0, 4, 5, 6, 7, 8, 9, 10, 11, 12] rfl)⟩
          · refine lv_iconst (v := 1) hx hb dX2_meanOfRound_95 (by decide) ?_
            refine lv_goto (tgt := 100) hx hb dX2_meanOfRound_96 (by decide) ?_
            refine lv_istore (lv' := [(10, .int 1), (9, .int (nI be_9)), (8, .int r_8), (7, .int (nI q_7)), (6, .int 0), (0, .ref y0), (1, .ref h0), (2, .ref u0), (3, .int (nI wh)), (4, .int (nI rn)), (5, .int p4)]) hx hb dX2_meanOfRound_100 hl (by decide) rfl (fun ls hl => ?_)
            refine lv_iload hx hb dX2_meanOfRound_102 (lv_at hl 0 rfl) ?_
            refine lv_if_eq (tgt := 112) hx hb dX2_meanOfRound_104 (by decide) (fun h => absurd h (by decide)) (fun _ => ?_)
            refine lv_iload hx hb dX2_meanOfRound_107 (lv_at hl 2 rfl) ?_
            refine lv_goto (tgt := 124) hx hb dX2_meanOfRound_109 (by decide) ?_
            refine lv_istore (lv' := [(11, .int r_8), (10, .int 1), (9, .int (nI be_9)), (8, .int r_8), (7, .int (nI q_7)), (6, .int 0), (0, .ref y0), (1, .ref h0), (2, .ref u0), (3, .int (nI wh)), (4, .int (nI rn)), (5, .int p4)]) hx hb dX2_meanOfRound_124 hl (by decide) rfl (fun ls hl => ?_)
            refine lv_iload hx hb dX2_meanOfRound_126 (lv_at hl 5 rfl) ?_
            refine lv_aload_n hx hb dX2_meanOfRound_128 rfl (lv_at hl 6 rfl) ?_
            refine va_get (D := D) (ci := 2) (v := .ref y2) (C := RX2) (T := TX2) (N := 5) hx hb hts inX2 hown hK hP 0 rfl rfl 1 (by decide) (hts _ tw_211) (fun _ h9 => h9) rfl dX2_meanOfRound_129 ?_
            refine lv_iload hx hb dX2_meanOfRound_132 (lv_at hl 2 rfl) ?_
            refine va_iald hx hb hK hP 2 1 rfl rfl (vp_in_nI (by omega) (by decide)) dX2_meanOfRound_134 ?_
            refine lv_ti (y := (yb3_9 be_9)) (by rw [nI_clamp (by omega)]) ?_
            refine lv_iadd hx hb dX2_meanOfRound_135 ?_
            refine lv_topi (fun x_21 ex_21 => ?_)
            refine lv_istore (lv' := [(12, .int x_21), (11, .int r_8), (10, .int 1), (9, .int (nI be_9)), (8, .int r_8), (7, .int (nI q_7)), (6, .int 0), (0, .ref y0), (1, .ref h0), (2, .ref u0), (3, .int (nI wh)), (4, .int (nI rn)), (5, .int p4)]) hx hb dX2_meanOfRound_136 hl (by decide) rfl (fun ls hl => ?_)
            refine lv_aload_n hx hb dX2_meanOfRound_138 rfl (lv_at hl 7 rfl) ?_
            refine va_get (D := D) (ci := 2) (v := .ref y1) (C := RX2) (T := TX2) (N := 5) hx hb hts inX2 hown hK hP 0 rfl rfl 0 (by decide) (hts _ tw_210) (fun _ h9 => h9) rfl dX2_meanOfRound_139 ?_
            refine lv_iload hx hb dX2_meanOfRound_142 (lv_at hl 3 rfl) ?_
            refine lv_aload_n hx hb dX2_meanOfRound_144 rfl (lv_at hl 8 rfl) ?_
            refine lv_iload hx hb dX2_meanOfRound_145 (lv_at hl 5 rfl) ?_
            refine lv_iconst (v := 1) hx hb dX2_meanOfRound_147 (by decide) ?_
            refine ro_i (D := D) (va_runV (As := [.int (nI q_7), .int 1]) (rest := [.int (nI be_9), .ref y1]) ⟨hx, hb, hml, hown, hts⟩ ((y_chanceOf l D k st lo h0 h1 h2 h3 h4 n see tm g ff q_7 1 (by first | assumption | omega)) H.size) (cwV 2 hts (gV tw_733 tw_565 tw_566 tw_81 tw_567) rfl rfl rfl (by decide +kernel) ⟨Nat.le_of_ble_eq_true rfl, Nat.le_of_ble_eq_true rfl⟩) (pV hS hAlo hlo hP hK (va_Dlo hD hAlo) hZ [3, 4, 5] (by decide) rfl (ci := 5) (q := (RX5, TX5, 4)) (q0 := 0) rfl rfl) rfl rfl hl.1 rfl (lv_room (Nat.le_of_ble_eq_true rfl)) dX2_meanOfRound_148 ⟨Nat.le_of_ble_eq_true rfl, Nat.le_of_ble_eq_true rfl⟩) hS hA hP (fun r_22 H locs hw_22 hP hS => ?_)
            try dsimp only at hw_22
            refine lv_iload hx hb dX2_meanOfRound_151 (lv_at hl 1 rfl) ?_
            refine lv_iload hx hb dX2_meanOfRound_153 (lv_at hl 0 rfl) ?_
            refine ro_i (D := D) (va_runSN (As := [.int r_22, .int r_8, .int x_21]) (rest := [.int (nI be_9), .ref y1]) ⟨hx, hb, hml, hown, hts⟩ ((y_mixed l D k st lo r_22 r_8 x_21) H.size) ⟨va_cnB 3 hts (gLW tw_570) rfl rfl rfl (hZ.2.2.2.2.2.2.2.2.1.1 (RX2, 78, yX7_mixed, RX7) (List.mem_of_getElem? (i := 6) rfl)) (hts _ tw_79) (by decide +kernel) ⟨Nat.le_of_ble_eq_true rfl, Nat.le_of_ble_eq_true rfl⟩, hts _ tw_569, trivial⟩ (pS hS hAlo hlo hP hK (va_Dlo hD hAlo) hZ [] (by decide) rfl) rfl rfl hl.1 rfl (lv_room (Nat.le_of_ble_eq_true rfl)) dX2_meanOfRound_155 ⟨Nat.le_of_ble_eq_true rfl, Nat.le_of_ble_eq_true rfl⟩) hS hA hP (fun r_23 H locs hw_23 hP hS => ?_)
            try dsimp only at hw_23
            refine va_iast hx hb hK hP hD hS 1 1 rfl rfl (vp_in_nI (by omega) (by decide)) dX2_meanOfRound_158 (fun H locs hP hD hS => ?_)
            have hQ9 := pd_mk [(y0, .inr (2, (fX2 y1 y2 y3 wt wc))), (aI k y1 25 (upd ya3_9 (Int32.toNatClampNeg (nI be_9)) r_23)), (aI k y2 25 yb3_9), (h0, .inr (5, (fX5 h1 h2 h3 h4))), (aI k h1 10 (vv n see tm g)), (aI k h2 24 ff), (aI k h3 24 fp), (aI k h4 4 fl), (u0, .inr (3, (fX3 u1 u2 rf (nI rc) (nI rr)))), (aI k u1 24 rs), (aI k u2 24 rb)] hP hD
            clear hP hD
            obtain ⟨hP, hD⟩ := hQ9
            rw [nI_clamp (n := be_9) (by omega)] at hP hD
            have hQ9 := pd_mk [(y0, .inr (2, (fX2 y1 y2 y3 wt wc))), (aI k y1 25 (upd ya3_9 be_9 r_23)), (aI k y2 25 yb3_9), (h0, .inr (5, (fX5 h1 h2 h3 h4))), (aI k h1 10 (vv n see tm g)), (aI k h2 24 ff), (aI k h3 24 fp), (aI k h4 4 fl), (u0, .inr (3, (fX3 u1 u2 rf (nI rc) (nI rr)))), (aI k u1 24 rs), (aI k u2 24 rb)] hP hD
            clear hP hD
            obtain ⟨hP, hD⟩ := hQ9
            refine lv_aload_n hx hb dX2_meanOfRound_159 rfl (lv_at hl 7 rfl) ?_
            refine va_get (D := D) (ci := 2) (v := .ref y2) (C := RX2) (T := TX2) (N := 5) hx hb hts inX2 hown hK hP 0 rfl rfl 1 (by decide) (hts _ tw_211) (fun _ h9 => h9) rfl dX2_meanOfRound_160 ?_
            refine lv_iload hx hb dX2_meanOfRound_163 (lv_at hl 3 rfl) ?_
            refine lv_aload_n hx hb dX2_meanOfRound_165 rfl (lv_at hl 8 rfl) ?_
            refine lv_iload hx hb dX2_meanOfRound_166 (lv_at hl 5 rfl) ?_
            refine lv_iconst (v := 0) hx hb dX2_meanOfRound_168 (by decide) ?_
            refine ro_i (D := D) (va_runV (As := [.int (nI q_7), .int 0]) (rest := [.int (nI be_9), .ref y2]) ⟨hx, hb, hml, hown, hts⟩ ((y_chanceOf l D k st lo h0 h1 h2 h3 h4 n see tm g ff q_7 0 (by first | assumption | omega)) H.size) (cwV 2 hts (gV tw_733 tw_565 tw_566 tw_81 tw_567) rfl rfl rfl (by decide +kernel) ⟨Nat.le_of_ble_eq_true rfl, Nat.le_of_ble_eq_true rfl⟩) (pV hS hAlo hlo hP hK (va_Dlo hD hAlo) hZ [3, 4, 5] (by decide) rfl (ci := 5) (q := (RX5, TX5, 4)) (q0 := 0) rfl rfl) rfl rfl hl.1 rfl (lv_room (Nat.le_of_ble_eq_true rfl)) dX2_meanOfRound_169 ⟨Nat.le_of_ble_eq_true rfl, Nat.le_of_ble_eq_true rfl⟩) hS hA hP (fun r_25 H locs hw_25 hP hS => ?_)
            try dsimp only at hw_25
            refine lv_iload hx hb dX2_meanOfRound_172 (lv_at hl 1 rfl) ?_
            refine lv_iload hx hb dX2_meanOfRound_174 (lv_at hl 0 rfl) ?_
            refine ro_i (D := D) (va_runSN (As := [.int r_25, .int r_8, .int x_21]) (rest := [.int (nI be_9), .ref y2]) ⟨hx, hb, hml, hown, hts⟩ ((y_mixed l D k st lo r_25 r_8 x_21) H.size) ⟨va_cnB 3 hts (gLW tw_570) rfl rfl rfl (hZ.2.2.2.2.2.2.2.2.1.1 (RX2, 78, yX7_mixed, RX7) (List.mem_of_getElem? (i := 6) rfl)) (hts _ tw_79) (by decide +kernel) ⟨Nat.le_of_ble_eq_true rfl, Nat.le_of_ble_eq_true rfl⟩, hts _ tw_569, trivial⟩ (pS hS hAlo hlo hP hK (va_Dlo hD hAlo) hZ [] (by decide) rfl) rfl rfl hl.1 rfl (lv_room (Nat.le_of_ble_eq_true rfl)) dX2_meanOfRound_176 ⟨Nat.le_of_ble_eq_true rfl, Nat.le_of_ble_eq_true rfl⟩) hS hA hP (fun r_26 H locs hw_26 hP hS => ?_)
            try dsimp only at hw_26
            refine va_iast hx hb hK hP hD hS 2 1 rfl rfl (vp_in_nI (by omega) (by decide)) dX2_meanOfRound_179 (fun H locs hP hD hS => ?_)
            have hQ9 := pd_mk [(y0, .inr (2, (fX2 y1 y2 y3 wt wc))), (aI k y1 25 (upd ya3_9 be_9 r_23)), (aI k y2 25 (upd yb3_9 (Int32.toNatClampNeg (nI be_9)) r_26)), (h0, .inr (5, (fX5 h1 h2 h3 h4))), (aI k h1 10 (vv n see tm g)), (aI k h2 24 ff), (aI k h3 24 fp), (aI k h4 4 fl), (u0, .inr (3, (fX3 u1 u2 rf (nI rc) (nI rr)))), (aI k u1 24 rs), (aI k u2 24 rb)] hP hD
            clear hP hD
            obtain ⟨hP, hD⟩ := hQ9
            rw [nI_clamp (n := be_9) (by omega)] at hP hD
            have hQ9 := pd_mk [(y0, .inr (2, (fX2 y1 y2 y3 wt wc))), (aI k y1 25 (upd ya3_9 be_9 r_23)), (aI k y2 25 (upd yb3_9 be_9 r_26)), (h0, .inr (5, (fX5 h1 h2 h3 h4))), (aI k h1 10 (vv n see tm g)), (aI k h2 24 ff), (aI k h3 24 fp), (aI k h4 4 fl), (u0, .inr (3, (fX3 u1 u2 rf (nI rc) (nI rr)))), (aI k u1 24 rs), (aI k u2 24 rb)] hP hD
            clear hP hD
            obtain ⟨hP, hD⟩ := hQ9
            refine lv_iinc (v := (nI (be_9 + 1))) (lv' := [(9, .int (nI (be_9 + 1))), (12, .int x_21), (11, .int r_8), (10, .int 1), (8, .int r_8), (7, .int (nI q_7)), (6, .int 0), (0, .ref y0), (1, .ref h0), (2, .ref u0), (3, .int (nI wh)), (4, .int (nI rn)), (5, .int p4)]) hx hb dX2_meanOfRound_180 hl (k := 3) rfl (nI_add be_9 1) (by decide) rfl (fun ls hl => ?_)
            refine lv_goto (tgt := 77) hx hb dX2_meanOfRound_183 (by decide) ?_
            have ha_9 := mv_v (d := (sdX n see tm g ff fp)) (u := (ruX rf rc rr rs rb)) (wh := wh) (r := rn) (E := p4) (p := be_9) (a := 1) (show q_7 < n by omega) (show _ = pChance (sdX n see tm g ff fp) q_7 (nI 1) from hw_22.trans (xChance (show q_7 < n by omega) (okX hok9 (show q_7 < n by omega)))) (by rw [if_pos (show pBar (ruX rf rc rr rs rb) be_9 ≤ nI q_7 by rw [← hw_11]; exact (Int32.not_lt.mp c_12))]; exact hw_8) (by rw [← hps_5, ex_21]; exact congrArg (fun z => 0 + z) (hv_9.2.2.2.2 be_9 (by omega) (by omega))) (hw_23.trans (mix_same (by rw [hw_22, xChance (see := see) (tm := tm) (fp := fp) (show q_7 < n by omega) (okX hok9 (show q_7 < n by omega))]; exact pCh_in)))
            have hb_9 := mv_v (d := (sdX n see tm g ff fp)) (u := (ruX rf rc rr rs rb)) (wh := wh) (r := rn) (E := p4) (p := be_9) (a := 0) (show q_7 < n by omega) (show _ = pChance (sdX n see tm g ff fp) q_7 (nI 0) from hw_25.trans (xChance (show q_7 < n by omega) (okX hok9 (show q_7 < n by omega)))) (by rw [if_pos (show pBar (ruX rf rc rr rs rb) be_9 ≤ nI q_7 by rw [← hw_11]; exact (Int32.not_lt.mp c_12))]; exact hw_8) (by rw [← hps_5, ex_21]; exact congrArg (fun z => 0 + z) (hv_9.2.2.2.2 be_9 (by omega) (by omega))) (hw_26.trans (mix_same (by rw [hw_25, xChance (see := see) (tm := tm) (fp := fp) (show q_7 < n by omega) (okX hok9 (show q_7 < n by omega))]; exact pCh_in)))
            have hsa_9 := mv_st (i := q_7) hv_9.2.1 hv_9.2.2.2.1 ha_9
            have hsb_9 := mv_st (i := q_7) hv_9.2.2.1 hv_9.2.2.2.2 hb_9
            exact ih_9 _ (be_9 + 1, (upd ya3_9 be_9 r_23), (upd yb3_9 be_9 r_26)) _ _ _ (by omega) ⟨rfl, ⟨by omega, hsa_9.1, hsb_9.1, hsa_9.2, hsb_9.2⟩, hP, hD, hS, (lv_sub hl [0, 4, 5, 6, 7, 8, 9, 10, 11, 12] rfl)⟩
    · have c_4 := (nI_eq (a := wh) (b := 0) (by omega) (by omega)).mp c_4
      refine lv_aload_n hx hb dX2_meanOfRound_40 rfl (lv_at hl 2 rfl) ?_
      refine ro_i (D := D) (va_runV (As := []) (rest := []) ⟨hx, hb, hml, hown, hts⟩ ((y_passing l D k st lo h0 h1 h2 h3 h4 n see tm g) H.size) (cwV 0 hts (gV tw_724 tw_573 tw_574 tw_81 tw_575) rfl rfl rfl (by decide +kernel) ⟨Nat.le_of_ble_eq_true rfl, Nat.le_of_ble_eq_true rfl⟩) (pV hS hAlo hlo hP hK (va_Dlo hD hAlo) hZ [3, 4] (by decide) rfl (ci := 5) (q := (RX5, TX5, 4)) (q0 := 0) rfl rfl) rfl rfl hl.1 rfl (lv_room (Nat.le_of_ble_eq_true rfl)) dX2_meanOfRound_41 ⟨Nat.le_of_ble_eq_true rfl, Nat.le_of_ble_eq_true rfl⟩) hS hA hP (fun r_28 H locs hw_28 hP hS => ?_)
      try dsimp only at hw_28
      refine lv_goto (tgt := 48) hx hb dX2_meanOfRound_44 (by decide) ?_
      have hps_29 : r_28 = pPs (sdX n see tm g ff fp) wh := by unfold pPs; rw [if_pos (by omega), hw_28]; exact xPass
      refine lv_istore (lv' := [(6, .int r_28), (0, .ref y0), (1, .ref h0), (2, .ref u0), (3, .int (nI wh)), (4, .int (nI rn)), (5, .int p4)]) hx hb dX2_meanOfRound_48 hl (by decide) rfl (fun ls hl => ?_)
      refine lv_aload_n hx hb dX2_meanOfRound_50 rfl (lv_at hl 2 rfl) ?_
      refine ro_i (D := D) (va_runV (As := []) (rest := []) ⟨hx, hb, hml, hown, hts⟩ ((x_doors l D k st lo h0 h1 h2 h3 h4 n see tm g) H.size) (cwV 0 hts (gV tw_723 tw_478 tw_479 tw_81 tw_480) rfl rfl rfl (by decide +kernel) ⟨Nat.le_of_ble_eq_true rfl, Nat.le_of_ble_eq_true rfl⟩) (pV hS hAlo hlo hP hK (va_Dlo hD hAlo) hZ [3, 4] (by decide) rfl (ci := 5) (q := (RX5, TX5, 4)) (q0 := 0) rfl rfl) rfl rfl hl.1 rfl (lv_room (Nat.le_of_ble_eq_true rfl)) dX2_meanOfRound_51 ⟨Nat.le_of_ble_eq_true rfl, Nat.le_of_ble_eq_true rfl⟩) hS hA hP (fun r_30 H locs hw_30 hP hS => ?_)
      try dsimp only at hw_30
      subst hw_30
      refine lv_iconst (v := 1) hx hb dX2_meanOfRound_54 (by decide) ?_
      refine lv_isub hx hb dX2_meanOfRound_55 ?_
      refine lv_ti (y := (nI n - 1)) rfl ?_
      refine lv_istore (lv' := [(7, .int (nI n - 1)), (6, .int r_28), (0, .ref y0), (1, .ref h0), (2, .ref u0), (3, .int (nI wh)), (4, .int (nI rn)), (5, .int p4)]) hx hb dX2_meanOfRound_56 hl (by decide) rfl (fun ls hl => ?_)
      refine W_loop (σ := Nat × (Nat → Int32) × (Nat → Int32)) (fun (n_ : Nat) (x_ : Nat × (Nat → Int32) × (Nat → Int32)) (H : Heap) (locs : List Loc) (ls : Array Slot) => match x_ with | (q_31, ya2_31, yb2_31) => n_ = 2 * q_31 ∧ (q_31 ≤ n ∧ (∀ b, b < q_31 + 1 → ya2_31 b = mV (sdX n see tm g ff fp) (ruX rf rc rr rs rb) wh rn p4 (n - q_31) b 1) ∧ (∀ b, b < q_31 + 1 → yb2_31 b = mV (sdX n see tm g ff fp) (ruX rf rc rr rs rb) wh rn p4 (n - q_31) b 0)) ∧ va_P D classes [(y0, .inr (2, (fX2 y1 y2 y3 wt wc))), (aI k y1 25 ya2_31), (aI k y2 25 yb2_31), (h0, .inr (5, (fX5 h1 h2 h3 h4))), (aI k h1 10 (vv n see tm g)), (aI k h2 24 ff), (aI k h3 24 fp), (aI k h4 4 fl), (u0, .inr (3, (fX3 u1 u2 rf (nI rc) (nI rr)))), (aI k u1 24 rs), (aI k u2 24 rb)] H ∧ va_D A [(y0, .inr (2, (fX2 y1 y2 y3 wt wc))), (aI k y1 25 ya2_31), (aI k y2 25 yb2_31), (h0, .inr (5, (fX5 h1 h2 h3 h4))), (aI k h1 10 (vv n see tm g)), (aI k h2 24 ff), (aI k h3 24 fp), (aI k h4 4 fl), (u0, .inr (3, (fX3 u1 u2 rf (nI rc) (nI rr)))), (aI k u1 24 rs), (aI k u2 24 rb)] ∧ va_S A s.heap H locs ∧ lv_has ls 13 [(7, .int (nI q_31 - 1)), (6, .int r_28), (0, .ref y0), (1, .ref h0), (2, .ref u0), (3, .int (nI wh)), (4, .int (nI rn)), (5, .int p4)]) (fun n_31 x_31 H locs ls hI ih_31 => ?_) _ (n, ya2_1, yb2_1) ⟨rfl, ⟨by omega, fun b hb => by rw [Nat.sub_self]; exact hv_1.2.1 b (by omega), fun b hb => by rw [Nat.sub_self]; exact hv_1.2.2 b (by omega)⟩, hP, hD, hS, (lv_sub hl [0, 1, 2, 3, 4, 5, 6, 7] rfl)⟩
      obtain ⟨q_31, ya2_31, yb2_31⟩ := x_31
      obtain ⟨hm_31, hv_31, hP, hD, hS, hl⟩ := hI
      subst hm_31
      rcases q_31 with _ | q_31
      · rw [dn0] at hl
        refine lv_iload hx hb dX2_meanOfRound_58 (lv_at hl 0 rfl) ?_
        refine lv_if_lt (tgt := 192) hx hb dX2_meanOfRound_60 (by decide) (fun _ => ?_) (fun h => absurd (by decide) h)
        refine lv_aload_n hx hb dX2_meanOfRound_192 rfl (lv_at hl 2 rfl) ?_
        refine va_get (D := D) (ci := 2) (v := .ref y2) (C := RX2) (T := TX2) (N := 5) hx hb hts inX2 hown hK hP 0 rfl rfl 1 (by decide) (hts _ tw_211) (fun _ h9 => h9) rfl dX2_meanOfRound_193 ?_
        refine lv_iconst (v := 0) hx hb dX2_meanOfRound_196 (by decide) ?_
        refine va_iald hx hb hK hP 2 1 rfl rfl (by unfold vp_in; decide) dX2_meanOfRound_197 ?_
        refine lv_ti (y := (yb2_31 0)) (by rfl) ?_
        obtain ⟨hP9, hD9⟩ := pd_sub [(y0, .inr (2, (fX2 y1 y2 y3 wt wc))), (aI k y1 25 ya2_31), (aI k y2 25 yb2_31), (h0, .inr (5, (fX5 h1 h2 h3 h4))), (aI k h1 10 (vv n see tm g)), (aI k h2 24 ff), (aI k h3 24 fp), (aI k h4 4 fl), (u0, .inr (3, (fX3 u1 u2 rf (nI rc) (nI rr)))), (aI k u1 24 rs), (aI k u2 24 rb)] [0, 1, 2, 3, 4, 5, 6, 7, 8, 9, 10] hP hD (by decide +kernel) rfl
        exact W.iret (v := (yb2_31 0)) hx hb hr (fun t ht hW => ⟨⟨(yb2_31 0), (ya2_31, yb2_31), rfl, hv_31.2.2 0 (by omega), by rw [ht]; exact hP9, hD9⟩, hS.F ht⟩) hS.2.2 dX2_meanOfRound_198
      · rw [nI_pred] at hl
        refine lv_iload hx hb dX2_meanOfRound_58 (lv_at hl 0 rfl) ?_
        refine lv_if_lt (tgt := 192) hx hb dX2_meanOfRound_60 (by decide) (fun h => absurd h (nI_pos0 (by omega))) (fun _ => ?_)
        refine lv_aload_n hx hb dX2_meanOfRound_63 rfl (lv_at hl 3 rfl) ?_
        refine lv_iload hx hb dX2_meanOfRound_64 (lv_at hl 6 rfl) ?_
        refine lv_iload hx hb dX2_meanOfRound_66 (lv_at hl 0 rfl) ?_
        refine lv_iload_n hx hb dX2_meanOfRound_68 rfl (lv_at hl 5 rfl) ?_
        refine ro_i (D := D) (va_runS (As := [.ref h0, .int (nI rn), .int (nI q_31), .int (nI wh)]) (rest := []) ⟨hx, hb, hml, hown, hts⟩ ((y_doorShare l D k st lo h0 h1 h2 h3 h4 n see tm g ff fp fl rn q_31 wh (by first | assumption | omega) (by first | assumption | omega) (by first | assumption | omega) (by first | assumption | omega) hl9) H.size) (va_cwS 4 hts (gS tw_725 tw_726 tw_83 tw_727) rfl rfl rfl (by decide +kernel) ⟨Nat.le_of_ble_eq_true rfl, Nat.le_of_ble_eq_true rfl⟩) (pS hS hAlo hlo hP hK (va_Dlo hD hAlo) hZ [3, 4, 5, 6, 7] (by decide) rfl) rfl rfl hl.1 rfl (lv_room (Nat.le_of_ble_eq_true rfl)) dX2_meanOfRound_69 ⟨Nat.le_of_ble_eq_true rfl, Nat.le_of_ble_eq_true rfl⟩) hS hA hP (fun r_32 H locs hw_32 hP hS => ?_)
        try dsimp only at hw_32
        refine lv_istore (lv' := [(8, .int r_32), (7, .int (nI q_31)), (6, .int r_28), (0, .ref y0), (1, .ref h0), (2, .ref u0), (3, .int (nI wh)), (4, .int (nI rn)), (5, .int p4)]) hx hb dX2_meanOfRound_72 hl (by decide) rfl (fun ls hl => ?_)
        refine lv_iconst (v := 0) hx hb dX2_meanOfRound_74 (by decide) ?_
        refine lv_istore (lv' := [(9, .int 0), (8, .int r_32), (7, .int (nI q_31)), (6, .int r_28), (0, .ref y0), (1, .ref h0), (2, .ref u0), (3, .int (nI wh)), (4, .int (nI rn)), (5, .int p4)]) hx hb dX2_meanOfRound_75 hl (by decide) rfl (fun ls hl => ?_)
        refine W_loop (σ := Nat × (Nat → Int32) × (Nat → Int32)) (fun (n_ : Nat) (x_ : Nat × (Nat → Int32) × (Nat → Int32)) (H : Heap) (locs : List Loc) (ls : Array Slot) => match x_ with | (be_33, ya3_33, yb3_33) => n_ = q_31 + 1 - be_33 ∧ (be_33 ≤ q_31 + 1 ∧ (∀ b, b < be_33 → ya3_33 b = mV (sdX n see tm g ff fp) (ruX rf rc rr rs rb) wh rn p4 (n - q_31) b 1) ∧ (∀ b, b < be_33 → yb3_33 b = mV (sdX n see tm g ff fp) (ruX rf rc rr rs rb) wh rn p4 (n - q_31) b 0) ∧ (∀ b, be_33 ≤ b → b < q_31 + 2 → ya3_33 b = mV (sdX n see tm g ff fp) (ruX rf rc rr rs rb) wh rn p4 (n - (q_31 + 1)) b 1) ∧ (∀ b, be_33 ≤ b → b < q_31 + 2 → yb3_33 b = mV (sdX n see tm g ff fp) (ruX rf rc rr rs rb) wh rn p4 (n - (q_31 + 1)) b 0)) ∧ va_P D classes [(y0, .inr (2, (fX2 y1 y2 y3 wt wc))), (aI k y1 25 ya3_33), (aI k y2 25 yb3_33), (h0, .inr (5, (fX5 h1 h2 h3 h4))), (aI k h1 10 (vv n see tm g)), (aI k h2 24 ff), (aI k h3 24 fp), (aI k h4 4 fl), (u0, .inr (3, (fX3 u1 u2 rf (nI rc) (nI rr)))), (aI k u1 24 rs), (aI k u2 24 rb)] H ∧ va_D A [(y0, .inr (2, (fX2 y1 y2 y3 wt wc))), (aI k y1 25 ya3_33), (aI k y2 25 yb3_33), (h0, .inr (5, (fX5 h1 h2 h3 h4))), (aI k h1 10 (vv n see tm g)), (aI k h2 24 ff), (aI k h3 24 fp), (aI k h4 4 fl), (u0, .inr (3, (fX3 u1 u2 rf (nI rc) (nI rr)))), (aI k u1 24 rs), (aI k u2 24 rb)] ∧ va_S A s.heap H locs ∧ lv_has ls 13 [(9, .int (nI be_33)), (8, .int r_32), (7, .int (nI q_31)), (6, .int r_28), (0, .ref y0), (1, .ref h0), (2, .ref u0), (3, .int (nI wh)), (4, .int (nI rn)), (5, .int p4)]) (fun n_33 x_33 H locs ls hI ih_33 => ?_) _ (0, ya2_31, yb2_31) ⟨rfl, ⟨by omega, fun b h => absurd h (Nat.not_lt_zero b), fun b h => absurd h (Nat.not_lt_zero b), fun b _ h => hv_31.2.1 b (by omega), fun b _ h => hv_31.2.2 b (by omega)⟩, hP, hD, hS, (lv_sub hl [0, 1, 2, 3, 4, 5, 6, 7, 8, 9] rfl)⟩
        obtain ⟨be_33, ya3_33, yb3_33⟩ := x_33
        obtain ⟨hm_33, hv_33, hP, hD, hS, hl⟩ := hI
        subst hm_33
        refine lv_iload hx hb dX2_meanOfRound_77 (lv_at hl 0 rfl) ?_
        refine lv_iload hx hb dX2_meanOfRound_79 (lv_at hl 2 rfl) ?_
        refine lv_icmp_gt (tgt := 186) hx hb dX2_meanOfRound_81 (by decide) (fun c_34 => ?_) (fun c_34 => ?_)
        · have c_34 := (nI_ltI (a := q_31) (b := be_33) (by omega) (by omega)).mp c_34
          refine lv_iinc (v := (nI q_31 - 1)) (lv' := [(7, .int (nI q_31 - 1)), (9, .int (nI be_33)), (8, .int r_32), (6, .int r_28), (0, .ref y0), (1, .ref h0), (2, .ref u0), (3, .int (nI wh)), (4, .int (nI rn)), (5, .int p4)]) hx hb dX2_meanOfRound_186 hl (k := 2) rfl (dn1 _) (by decide) rfl (fun ls hl => ?_)
          refine lv_goto (tgt := 58) hx hb dX2_meanOfRound_189 (by decide) ?_
          exact ih_31 _ (q_31, ya3_33, yb3_33) _ _ _ (by omega) ⟨rfl, ⟨by omega, fun b hb => hv_33.2.1 b (by omega), fun b hb => hv_33.2.2.1 b (by omega)⟩, hP, hD, hS, (lv_sub hl [0, 3, 4, 5, 6, 7, 8, 9] rfl)⟩
        · have c_34 : ¬ (q_31 < be_33) := fun h => c_34 ((nI_ltI (a := q_31) (b := be_33) (by omega) (by omega)).mpr h)
          refine lv_iload hx hb dX2_meanOfRound_84 (lv_at hl 2 rfl) ?_
          refine lv_aload_n hx hb dX2_meanOfRound_86 rfl (lv_at hl 6 rfl) ?_
          refine lv_iload hx hb dX2_meanOfRound_87 (lv_at hl 0 rfl) ?_
          refine ro_i (D := D) (va_runV (As := [.int (nI be_33)]) (rest := [.int (nI q_31)]) ⟨hx, hb, hml, hown, hts⟩ ((y_barAfter l D k st lo u0 u1 u2 rf rc rr rs rb be_33 (by first | assumption | omega)) H.size) (cwV 1 hts (gV tw_729 tw_730 tw_731 tw_86 tw_732) rfl rfl rfl (by decide +kernel) ⟨Nat.le_of_ble_eq_true rfl, Nat.le_of_ble_eq_true rfl⟩) (pV hS hAlo hlo hP hK (va_Dlo hD hAlo) hZ [8, 9, 10] (by decide) rfl (ci := 3) (q := (RX3, TX3, 5)) (q0 := 0) rfl rfl) rfl rfl hl.1 rfl (lv_room (Nat.le_of_ble_eq_true rfl)) dX2_meanOfRound_89 ⟨Nat.le_of_ble_eq_true rfl, Nat.le_of_ble_eq_true rfl⟩) hS hA hP (fun r_35 H locs hw_35 hP hS => ?_)
          try dsimp only at hw_35
          refine lv_icmp_lt (tgt := 99) hx hb dX2_meanOfRound_92 (by decide) (fun c_36 => ?_) (fun c_36 => ?_)
          · refine lv_iconst (v := 0) hx hb dX2_meanOfRound_99 (by decide) ?_
            refine lv_istore (lv' := [(10, .int 0), (9, .int (nI be_33)), (8, .int r_32), (7, .int (nI q_31)), (6, .int r_28), (0, .ref y0), (1, .ref h0), (2, .ref u0), (3, .int (nI wh)), (4, .int (nI rn)), (5, .int p4)]) hx hb dX2_meanOfRound_100 hl (by decide) rfl (fun ls hl => ?_)
            refine lv_iload hx hb dX2_meanOfRound_102 (lv_at hl 0 rfl) ?_
            refine lv_if_eq (tgt := 112) hx hb dX2_meanOfRound_104 (by decide) (fun _ => ?_) (fun h => absurd (by decide) h)
            refine lv_iload hx hb dX2_meanOfRound_112 (lv_at hl 4 rfl) ?_
            refine lv_aload_n hx hb dX2_meanOfRound_114 rfl (lv_at hl 5 rfl) ?_
            refine va_get (D := D) (ci := 2) (v := .ref y1) (C := RX2) (T := TX2) (N := 5) hx hb hts inX2 hown hK hP 0 rfl rfl 0 (by decide) (hts _ tw_210) (fun _ h9 => h9) rfl dX2_meanOfRound_115 ?_
            refine lv_iload hx hb dX2_meanOfRound_118 (lv_at hl 1 rfl) ?_
            refine lv_iconst (v := 1) hx hb dX2_meanOfRound_120 (by decide) ?_
            refine lv_iadd hx hb dX2_meanOfRound_121 ?_
            refine lv_ti (y := (nI (be_33 + 1))) (nI_add be_33 1) ?_
            refine va_iald hx hb hK hP 1 1 rfl rfl (vp_in_nI (by omega) (by decide)) dX2_meanOfRound_122 ?_
            refine lv_ti (y := (ya3_33 (be_33 + 1))) (by rw [nI_clamp (by omega)]) ?_
            refine lv_iadd hx hb dX2_meanOfRound_123 ?_
            refine lv_topi (fun x_37 ex_37 => ?_)
            refine lv_istore (lv' := [(11, .int x_37), (10, .int 0), (9, .int (nI be_33)), (8, .int r_32), (7, .int (nI q_31)), (6, .int r_28), (0, .ref y0), (1, .ref h0), (2, .ref u0), (3, .int (nI wh)), (4, .int (nI rn)), (5, .int p4)]) hx hb dX2_meanOfRound_124 hl (by decide) rfl (fun ls hl => ?_)
            refine lv_iload hx hb dX2_meanOfRound_126 (lv_at hl 5 rfl) ?_
            refine lv_aload_n hx hb dX2_meanOfRound_128 rfl (lv_at hl 6 rfl) ?_
            refine va_get (D := D) (ci := 2) (v := .ref y2) (C := RX2) (T := TX2) (N := 5) hx hb hts inX2 hown hK hP 0 rfl rfl 1 (by decide) (hts _ tw_211) (fun _ h9 => h9) rfl dX2_meanOfRound_129 ?_
            refine lv_iload hx hb dX2_meanOfRound_132 (lv_at hl 2 rfl) ?_
            refine va_iald hx hb hK hP 2 1 rfl rfl (vp_in_nI (by omega) (by decide)) dX2_meanOfRound_134 ?_
            refine lv_ti (y := (yb3_33 be_33)) (by rw [nI_clamp (by omega)]) ?_
            refine lv_iadd hx hb dX2_meanOfRound_135 ?_
            refine lv_topi (fun x_38 ex_38 => ?_)
            refine lv_istore (lv' := [(12, .int x_38), (11, .int x_37), (10, .int 0), (9, .int (nI be_33)), (8, .int r_32), (7, .int (nI q_31)), (6, .int r_28), (0, .ref y0), (1, .ref h0), (2, .ref u0), (3, .int (nI wh)), (4, .int (nI rn)), (5, .int p4)]) hx hb dX2_meanOfRound_136 hl (by decide) rfl (fun ls hl => ?_)
            refine lv_aload_n hx hb dX2_meanOfRound_138 rfl (lv_at hl 7 rfl) ?_
            refine va_get (D := D) (ci := 2) (v := .ref y1) (C := RX2) (T := TX2) (N := 5) hx hb hts inX2 hown hK hP 0 rfl rfl 0 (by decide) (hts _ tw_210) (fun _ h9 => h9) rfl dX2_meanOfRound_139 ?_
            refine lv_iload hx hb dX2_meanOfRound_142 (lv_at hl 3 rfl) ?_
            refine lv_aload_n hx hb dX2_meanOfRound_144 rfl (lv_at hl 8 rfl) ?_
            refine lv_iload hx hb dX2_meanOfRound_145 (lv_at hl 5 rfl) ?_
            refine lv_iconst (v := 1) hx hb dX2_meanOfRound_147 (by decide) ?_
            refine ro_i (D := D) (va_runV (As := [.int (nI q_31), .int 1]) (rest := [.int (nI be_33), .ref y1]) ⟨hx, hb, hml, hown, hts⟩ ((y_chanceOf l D k st lo h0 h1 h2 h3 h4 n see tm g ff q_31 1 (by first | assumption | omega)) H.size) (cwV 2 hts (gV tw_733 tw_565 tw_566 tw_81 tw_567) rfl rfl rfl (by decide +kernel) ⟨Nat.le_of_ble_eq_true rfl, Nat.le_of_ble_eq_true rfl⟩) (pV hS hAlo hlo hP hK (va_Dlo hD hAlo) hZ [3, 4, 5] (by decide) rfl (ci := 5) (q := (RX5, TX5, 4)) (q0 := 0) rfl rfl) rfl rfl hl.1 rfl (lv_room (Nat.le_of_ble_eq_true rfl)) dX2_meanOfRound_148 ⟨Nat.le_of_ble_eq_true rfl, Nat.le_of_ble_eq_true rfl⟩) hS hA hP (fun r_39 H locs hw_39 hP hS => ?_)
            try dsimp only at hw_39
            refine lv_iload hx hb dX2_meanOfRound_151 (lv_at hl 1 rfl) ?_
            refine lv_iload hx hb dX2_meanOfRound_153 (lv_at hl 0 rfl) ?_
            refine ro_i (D := D) (va_runSN (As := [.int r_39, .int x_37, .int x_38]) (rest := [.int (nI be_33), .ref y1]) ⟨hx, hb, hml, hown, hts⟩ ((y_mixed l D k st lo r_39 x_37 x_38) H.size) ⟨va_cnB 3 hts (gLW tw_570) rfl rfl rfl (hZ.2.2.2.2.2.2.2.2.1.1 (RX2, 78, yX7_mixed, RX7) (List.mem_of_getElem? (i := 6) rfl)) (hts _ tw_79) (by decide +kernel) ⟨Nat.le_of_ble_eq_true rfl, Nat.le_of_ble_eq_true rfl⟩, hts _ tw_569, trivial⟩ (pS hS hAlo hlo hP hK (va_Dlo hD hAlo) hZ [] (by decide) rfl) rfl rfl hl.1 rfl (lv_room (Nat.le_of_ble_eq_true rfl)) dX2_meanOfRound_155 ⟨Nat.le_of_ble_eq_true rfl, Nat.le_of_ble_eq_true rfl⟩) hS hA hP (fun r_40 H locs hw_40 hP hS => ?_)
            try dsimp only at hw_40
            refine va_iast hx hb hK hP hD hS 1 1 rfl rfl (vp_in_nI (by omega) (by decide)) dX2_meanOfRound_158 (fun H locs hP hD hS => ?_)
            have hQ9 := pd_mk [(y0, .inr (2, (fX2 y1 y2 y3 wt wc))), (aI k y1 25 (upd ya3_33 (Int32.toNatClampNeg (nI be_33)) r_40)), (aI k y2 25 yb3_33), (h0, .inr (5, (fX5 h1 h2 h3 h4))), (aI k h1 10 (vv n see tm g)), (aI k h2 24 ff), (aI k h3 24 fp), (aI k h4 4 fl), (u0, .inr (3, (fX3 u1 u2 rf (nI rc) (nI rr)))), (aI k u1 24 rs), (aI k u2 24 rb)] hP hD
            clear hP hD
            obtain ⟨hP, hD⟩ := hQ9
            rw [nI_clamp (n := be_33) (by omega)] at hP hD
            have hQ9 := pd_mk [(y0, .inr (2, (fX2 y1 y2 y3 wt wc))), (aI k y1 25 (upd ya3_33 be_33 r_40)), (aI k y2 25 yb3_33), (h0, .inr (5, (fX5 h1 h2 h3 h4))), (aI k h1 10 (vv n see tm g)), (aI k h2 24 ff), (aI k h3 24 fp), (aI k h4 4 fl), (u0, .inr (3, (fX3 u1 u2 rf (nI rc) (nI rr)))), (aI k u1 24 rs), (aI k u2 24 rb)] hP hD
            clear hP hD
            obtain ⟨hP, hD⟩ := hQ9
            refine lv_aload_n hx hb dX2_meanOfRound_159 rfl (lv_at hl 7 rfl) ?_
            refine va_get (D := D) (ci := 2) (v := .ref y2) (C := RX2) (T := TX2) (N := 5) hx hb hts inX2 hown hK hP 0 rfl rfl 1 (by decide) (hts _ tw_211) (fun _ h9 => h9) rfl dX2_meanOfRound_160 ?_
            refine lv_iload hx hb dX2_meanOfRound_163 (lv_at hl 3 rfl) ?_
            refine lv_aload_n hx hb dX2_meanOfRound_165 rfl (lv_at hl 8 rfl) ?_
            refine lv_iload hx hb dX2_meanOfRound_166 (lv_at hl 5 rfl) ?_
            refine lv_iconst (v := 0) hx hb dX2_meanOfRound_168 (by decide) ?_
            refine ro_i (D := D) (va_runV (As := [.int (nI q_31), .int 0]) (rest := [.int (nI be_33), .ref y2]) ⟨hx, hb, hml, hown, hts⟩ ((y_chanceOf l D k st lo h0 h1 h2 h3 h4 n see tm g ff q_31 0 (by first | assumption | omega)) H.size) (cwV 2 hts (gV tw_733 tw_565 tw_566 tw_81 tw_567) rfl rfl rfl (by decide +kernel) ⟨Nat.le_of_ble_eq_true rfl, Nat.le_of_ble_eq_true rfl⟩) (pV hS hAlo hlo hP hK (va_Dlo hD hAlo) hZ [3, 4, 5] (by decide) rfl (ci := 5) (q := (RX5, TX5, 4)) (q0 := 0) rfl rfl) rfl rfl hl.1 rfl (lv_room (Nat.le_of_ble_eq_true rfl)) dX2_meanOfRound_169 ⟨Nat.le_of_ble_eq_true rfl, Nat.le_of_ble_eq_true rfl⟩) hS hA hP (fun r_42 H locs hw_42 hP hS => ?_)
            try dsimp only at hw_42
            refine lv_iload hx hb dX2_meanOfRound_172 (lv_at hl 1 rfl) ?_
            refine lv_iload hx hb dX2_meanOfRound_174 (lv_at hl 0 rfl) ?_
            refine ro_i (D := D) (va_runSN (As := [.int r_42, .int x_37, .int x_38]) (rest := [.int (nI be_33), .ref y2]) ⟨hx, hb, hml, hown, hts⟩ ((y_mixed l D k st lo r_42 x_37 x_38) H.size) ⟨va_cnB 3 hts (gLW tw_570) rfl rfl rfl (hZ.2.2.2.2.2.2.2.2.1.1 (RX2, 78, yX7_mixed, RX7) (List.mem_of_getElem? (i := 6) rfl)) (hts _ tw_79) (by decide +kernel) ⟨Nat.le_of_ble_eq_true rfl, Nat.le_of_ble_eq_true rfl⟩, hts _ tw_569, trivial⟩ (pS hS hAlo hlo hP hK (va_Dlo hD hAlo) hZ [] (by decide) rfl) rfl rfl hl.1 rfl (lv_room (Nat.le_of_ble_eq_true rfl)) dX2_meanOfRound_176 ⟨Nat.le_of_ble_eq_true rfl, Nat.le_of_ble_eq_true rfl⟩) hS hA hP (fun r_43 H locs hw_43 hP hS => ?_)
            try dsimp only at hw_43
            refine va_iast hx hb hK hP hD hS 2 1 rfl rfl (vp_in_nI (by omega) (by decide)) dX2_meanOfRound_179 (fun H locs hP hD hS => ?_)
            have hQ9 := pd_mk [(y0, .inr (2, (fX2 y1 y2 y3 wt wc))), (aI k y1 25 (upd ya3_33 be_33 r_40)), (aI k y2 25 (upd yb3_33 (Int32.toNatClampNeg (nI be_33)) r_43)), (h0, .inr (5, (fX5 h1 h2 h3 h4))), (aI k h1 10 (vv n see tm g)), (aI k h2 24 ff), (aI k h3 24 fp), (aI k h4 4 fl), (u0, .inr (3, (fX3 u1 u2 rf (nI rc) (nI rr)))), (aI k u1 24 rs), (aI k u2 24 rb)] hP hD
            clear hP hD
            obtain ⟨hP, hD⟩ := hQ9
            rw [nI_clamp (n := be_33) (by omega)] at hP hD
            have hQ9 := pd_mk [(y0, .inr (2, (fX2 y1 y2 y3 wt wc))), (aI k y1 25 (upd ya3_33 be_33 r_40)), (aI k y2 25 (upd yb3_33 be_33 r_43)), (h0, .inr (5, (fX5 h1 h2 h3 h4))), (aI k h1 10 (vv n see tm g)), (aI k h2 24 ff), (aI k h3 24 fp), (aI k h4 4 fl), (u0, .inr (3, (fX3 u1 u2 rf (nI rc) (nI rr)))), (aI k u1 24 rs), (aI k u2 24 rb)] hP hD
            clear hP hD
            obtain ⟨hP, hD⟩ := hQ9
            refine lv_iinc (v := (nI (be_33 + 1))) (lv' := [(9, .int (nI (be_33 + 1))), (12, .int x_38), (11, .int x_37), (10, .int 0), (8, .int r_32), (7, .int (nI q_31)), (6, .int r_28), (0, .ref y0), (1, .ref h0), (2, .ref u0), (3, .int (nI wh)), (4, .int (nI rn)), (5, .int p4)]) hx hb dX2_meanOfRound_180 hl (k := 3) rfl (nI_add be_33 1) (by decide) rfl (fun ls hl => ?_)
            refine lv_goto (tgt := 77) hx hb dX2_meanOfRound_183 (by decide) ?_
            have ha_33 := mv_v (d := (sdX n see tm g ff fp)) (u := (ruX rf rc rr rs rb)) (wh := wh) (r := rn) (E := p4) (p := be_33) (a := 1) (show q_31 < n by omega) (show _ = pChance (sdX n see tm g ff fp) q_31 (nI 1) from hw_39.trans (xChance (show q_31 < n by omega) (okX hok9 (show q_31 < n by omega)))) (by rw [if_neg (show ¬ pBar (ruX rf rc rr rs rb) be_33 ≤ nI q_31 by rw [← hw_35]; exact Int32.not_le.mpr c_36), ← hps_29, ex_37]; exact congrArg (fun z => r_28 + z) (hv_33.2.2.2.1 (be_33 + 1) (by omega) (by omega))) (by rw [← hps_29, ex_38]; exact congrArg (fun z => r_28 + z) (hv_33.2.2.2.2 be_33 (by omega) (by omega))) (hw_40.trans (mix_same (by rw [hw_39, xChance (see := see) (tm := tm) (fp := fp) (show q_31 < n by omega) (okX hok9 (show q_31 < n by omega))]; exact pCh_in)))
            have hb_33 := mv_v (d := (sdX n see tm g ff fp)) (u := (ruX rf rc rr rs rb)) (wh := wh) (r := rn) (E := p4) (p := be_33) (a := 0) (show q_31 < n by omega) (show _ = pChance (sdX n see tm g ff fp) q_31 (nI 0) from hw_42.trans (xChance (show q_31 < n by omega) (okX hok9 (show q_31 < n by omega)))) (by rw [if_neg (show ¬ pBar (ruX rf rc rr rs rb) be_33 ≤ nI q_31 by rw [← hw_35]; exact Int32.not_le.mpr c_36), ← hps_29, ex_37]; exact congrArg (fun z => r_28 + z) (hv_33.2.2.2.1 (be_33 + 1) (by omega) (by omega))) (by rw [← hps_29, ex_38]; exact congrArg (fun z => r_28 + z) (hv_33.2.2.2.2 be_33 (by omega) (by omega))) (hw_43.trans (mix_same (by rw [hw_42, xChance (see := see) (tm := tm) (fp := fp) (show q_31 < n by omega) (okX hok9 (show q_31 < n by omega))]; exact pCh_in)))
            have hsa_33 := mv_st (i := q_31) hv_33.2.1 hv_33.2.2.2.1 ha_33
            have hsb_33 := mv_st (i := q_31) hv_33.2.2.1 hv_33.2.2.2.2 hb_33
            exact ih_33 _ (be_33 + 1, (upd ya3_33 be_33 r_40), (upd yb3_33 be_33 r_43)) _ _ _ (by omega) ⟨rfl, ⟨by omega, hsa_33.1, hsb_33.1, hsa_33.2, hsb_33.2⟩, hP, hD, hS, (lv_sub hl [0, 4, 5, 6, 7, 8, 9, 10, 11, 12] rfl)⟩
          · refine lv_iconst (v := 1) hx hb dX2_meanOfRound_95 (by decide) ?_
            refine lv_goto (tgt := 100) hx hb dX2_meanOfRound_96 (by decide) ?_
            refine lv_istore (lv' := [(10, .int 1), (9, .int (nI be_33)), (8, .int r_32), (7, .int (nI q_31)), (6, .int r_28), (0, .ref y0), (1, .ref h0), (2, .ref u0), (3, .int (nI wh)), (4, .int (nI rn)), (5, .int p4)]) hx hb dX2_meanOfRound_100 hl (by decide) rfl (fun ls hl => ?_)
            refine lv_iload hx hb dX2_meanOfRound_102 (lv_at hl 0 rfl) ?_
            refine lv_if_eq (tgt := 112) hx hb dX2_meanOfRound_104 (by decide) (fun h => absurd h (by decide)) (fun _ => ?_)
            refine lv_iload hx hb dX2_meanOfRound_107 (lv_at hl 2 rfl) ?_
            refine lv_goto (tgt := 124) hx hb dX2_meanOfRound_109 (by decide) ?_
            refine lv_istore (lv' := [(11, .int r_32), (10, .int 1), (9, .int (nI be_33)), (8, .int r_32), (7, .int (nI q_31)), (6, .int r_28), (0, .ref y0), (1, .ref h0), (2, .ref u0), (3, .int (nI wh)), (4, .int (nI rn)), (5, .int p4)]) hx hb dX2_meanOfRound_124 hl (by decide) rfl (fun ls hl => ?_)
            refine lv_iload hx hb dX2_meanOfRound_126 (lv_at hl 5 rfl) ?_
            refine lv_aload_n hx hb dX2_meanOfRound_128 rfl (lv_at hl 6 rfl) ?_
            refine va_get (D := D) (ci := 2) (v := .ref y2) (C := RX2) (T := TX2) (N := 5) hx hb hts inX2 hown hK hP 0 rfl rfl 1 (by decide) (hts _ tw_211) (fun _ h9 => h9) rfl dX2_meanOfRound_129 ?_
            refine lv_iload hx hb dX2_meanOfRound_132 (lv_at hl 2 rfl) ?_
            refine va_iald hx hb hK hP 2 1 rfl rfl (vp_in_nI (by omega) (by decide)) dX2_meanOfRound_134 ?_
            refine lv_ti (y := (yb3_33 be_33)) (by rw [nI_clamp (by omega)]) ?_
            refine lv_iadd hx hb dX2_meanOfRound_135 ?_
            refine lv_topi (fun x_45 ex_45 => ?_)
            refine lv_istore (lv' := [(12, .int x_45), (11, .int r_32), (10, .int 1), (9, .int (nI be_33)), (8, .int r_32), (7, .int (nI q_31)), (6, .int r_28), (0, .ref y0), (1, .ref h0), (2, .ref u0), (3, .int (nI wh)), (4, .int (nI rn)), (5, .int p4)]) hx hb dX2_meanOfRound_136 hl (by decide) rfl (fun ls hl => ?_)
            refine lv_aload_n hx hb dX2_meanOfRound_138 rfl (lv_at hl 7 rfl) ?_
            refine va_get (D := D) (ci := 2) (v := .ref y1) (C := RX2) (T := TX2) (N := 5) hx hb hts inX2 hown hK hP 0 rfl rfl 0 (by decide) (hts _ tw_210) (fun _ h9 => h9) rfl dX2_meanOfRound_139 ?_
            refine lv_iload hx hb dX2_meanOfRound_142 (lv_at hl 3 rfl) ?_
            refine lv_aload_n hx hb dX2_meanOfRound_144 rfl (lv_at hl 8 rfl) ?_
            refine lv_iload hx hb dX2_meanOfRound_145 (lv_at hl 5 rfl) ?_
            refine lv_iconst (v := 1) hx hb dX2_meanOfRound_147 (by decide) ?_
            refine ro_i (D := D) (va_runV (As := [.int (nI q_31), .int 1]) (rest := [.int (nI be_33), .ref y1]) ⟨hx, hb, hml, hown, hts⟩ ((y_chanceOf l D k st lo h0 h1 h2 h3 h4 n see tm g ff q_31 1 (by first | assumption | omega)) H.size) (cwV 2 hts (gV tw_733 tw_565 tw_566 tw_81 tw_567) rfl rfl rfl (by decide +kernel) ⟨Nat.le_of_ble_eq_true rfl, Nat.le_of_ble_eq_true rfl⟩) (pV hS hAlo hlo hP hK (va_Dlo hD hAlo) hZ [3, 4, 5] (by decide) rfl (ci := 5) (q := (RX5, TX5, 4)) (q0 := 0) rfl rfl) rfl rfl hl.1 rfl (lv_room (Nat.le_of_ble_eq_true rfl)) dX2_meanOfRound_148 ⟨Nat.le_of_ble_eq_true rfl, Nat.le_of_ble_eq_true rfl⟩) hS hA hP (fun r_46 H locs hw_46 hP hS => ?_)
            try dsimp only at hw_46
            refine lv_iload hx hb dX2_meanOfRound_151 (lv_at hl 1 rfl) ?_
            refine lv_iload hx hb dX2_meanOfRound_153 (lv_at hl 0 rfl) ?_
            refine ro_i (D := D) (va_runSN (As := [.int r_46, .int r_32, .int x_45]) (rest := [.int (nI be_33), .ref y1]) ⟨hx, hb, hml, hown, hts⟩ ((y_mixed l D k st lo r_46 r_32 x_45) H.size) ⟨va_cnB 3 hts (gLW tw_570) rfl rfl rfl (hZ.2.2.2.2.2.2.2.2.1.1 (RX2, 78, yX7_mixed, RX7) (List.mem_of_getElem? (i := 6) rfl)) (hts _ tw_79) (by decide +kernel) ⟨Nat.le_of_ble_eq_true rfl, Nat.le_of_ble_eq_true rfl⟩, hts _ tw_569, trivial⟩ (pS hS hAlo hlo hP hK (va_Dlo hD hAlo) hZ [] (by decide) rfl) rfl rfl hl.1 rfl (lv_room (Nat.le_of_ble_eq_true rfl)) dX2_meanOfRound_155 ⟨Nat.le_of_ble_eq_true rfl, Nat.le_of_ble_eq_true rfl⟩) hS hA hP (fun r_47 H locs hw_47 hP hS => ?_)
            try dsimp only at hw_47
            refine va_iast hx hb hK hP hD hS 1 1 rfl rfl (vp_in_nI (by omega) (by decide)) dX2_meanOfRound_158 (fun H locs hP hD hS => ?_)
            have hQ9 := pd_mk [(y0, .inr (2, (fX2 y1 y2 y3 wt wc))), (aI k y1 25 (upd ya3_33 (Int32.toNatClampNeg (nI be_33)) r_47)), (aI k y2 25 yb3_33), (h0, .inr (5, (fX5 h1 h2 h3 h4))), (aI k h1 10 (vv n see tm g)), (aI k h2 24 ff), (aI k h3 24 fp), (aI k h4 4 fl), (u0, .inr (3, (fX3 u1 u2 rf (nI rc) (nI rr)))), (aI k u1 24 rs), (aI k u2 24 rb)] hP hD
            clear hP hD
            obtain ⟨hP, hD⟩ := hQ9
            rw [nI_clamp (n := be_33) (by omega)] at hP hD
            have hQ9 := pd_mk [(y0, .inr (2, (fX2 y1 y2 y3 wt wc))), (aI k y1 25 (upd ya3_33 be_33 r_47)), (aI k y2 25 yb3_33), (h0, .inr (5, (fX5 h1 h2 h3 h4))), (aI k h1 10 (vv n see tm g)), (aI k h2 24 ff), (aI k h3 24 fp), (aI k h4 4 fl), (u0, .inr (3, (fX3 u1 u2 rf (nI rc) (nI rr)))), (aI k u1 24 rs), (aI k u2 24 rb)] hP hD
            clear hP hD
            obtain ⟨hP, hD⟩ := hQ9
            refine lv_aload_n hx hb dX2_meanOfRound_159 rfl (lv_at hl 7 rfl) ?_
            refine va_get (D := D) (ci := 2) (v := .ref y2) (C := RX2) (T := TX2) (N := 5) hx hb hts inX2 hown hK hP 0 rfl rfl 1 (by decide) (hts _ tw_211) (fun _ h9 => h9) rfl dX2_meanOfRound_160 ?_
            refine lv_iload hx hb dX2_meanOfRound_163 (lv_at hl 3 rfl) ?_
            refine lv_aload_n hx hb dX2_meanOfRound_165 rfl (lv_at hl 8 rfl) ?_
            refine lv_iload hx hb dX2_meanOfRound_166 (lv_at hl 5 rfl) ?_
            refine lv_iconst (v := 0) hx hb dX2_meanOfRound_168 (by decide) ?_
            refine ro_i (D := D) (va_runV (As := [.int (nI q_31), .int 0]) (rest := [.int (nI be_33), .ref y2]) ⟨hx, hb, hml, hown, hts⟩ ((y_chanceOf l D k st lo h0 h1 h2 h3 h4 n see tm g ff q_31 0 (by first | assumption | omega)) H.size) (cwV 2 hts (gV tw_733 tw_565 tw_566 tw_81 tw_567) rfl rfl rfl (by decide +kernel) ⟨Nat.le_of_ble_eq_true rfl, Nat.le_of_ble_eq_true rfl⟩) (pV hS hAlo hlo hP hK (va_Dlo hD hAlo) hZ [3, 4, 5] (by decide) rfl (ci := 5) (q := (RX5, TX5, 4)) (q0 := 0) rfl rfl) rfl rfl hl.1 rfl (lv_room (Nat.le_of_ble_eq_true rfl)) dX2_meanOfRound_169 ⟨Nat.le_of_ble_eq_true rfl, Nat.le_of_ble_eq_true rfl⟩) hS hA hP (fun r_49 H locs hw_49 hP hS => ?_)
            try dsimp only at hw_49
            refine lv_iload hx hb dX2_meanOfRound_172 (lv_at hl 1 rfl) ?_
            refine lv_iload hx hb dX2_meanOfRound_174 (lv_at hl 0 rfl) ?_
            refine ro_i (D := D) (va_runSN (As := [.int r_49, .int r_32, .int x_45]) (rest := [.int (nI be_33), .ref y2]) ⟨hx, hb, hml, hown, hts⟩ ((y_mixed l D k st lo r_49 r_32 x_45) H.size) ⟨va_cnB 3 hts (gLW tw_570) rfl rfl rfl (hZ.2.2.2.2.2.2.2.2.1.1 (RX2, 78, yX7_mixed, RX7) (List.mem_of_getElem? (i := 6) rfl)) (hts _ tw_79) (by decide +kernel) ⟨Nat.le_of_ble_eq_true rfl, Nat.le_of_ble_eq_true rfl⟩, hts _ tw_569, trivial⟩ (pS hS hAlo hlo hP hK (va_Dlo hD hAlo) hZ [] (by decide) rfl) rfl rfl hl.1 rfl (lv_room (Nat.le_of_ble_eq_true rfl)) dX2_meanOfRound_176 ⟨Nat.le_of_ble_eq_true rfl, Nat.le_of_ble_eq_true rfl⟩) hS hA hP (fun r_50 H locs hw_50 hP hS => ?_)
            try dsimp only at hw_50
            refine va_iast hx hb hK hP hD hS 2 1 rfl rfl (vp_in_nI (by omega) (by decide)) dX2_meanOfRound_179 (fun H locs hP hD hS => ?_)
            have hQ9 := pd_mk [(y0, .inr (2, (fX2 y1 y2 y3 wt wc))), (aI k y1 25 (upd ya3_33 be_33 r_47)), (aI k y2 25 (upd yb3_33 (Int32.toNatClampNeg (nI be_33)) r_50)), (h0, .inr (5, (fX5 h1 h2 h3 h4))), (aI k h1 10 (vv n see tm g)), (aI k h2 24 ff), (aI k h3 24 fp), (aI k h4 4 fl), (u0, .inr (3, (fX3 u1 u2 rf (nI rc) (nI rr)))), (aI k u1 24 rs), (aI k u2 24 rb)] hP hD
            clear hP hD
            obtain ⟨hP, hD⟩ := hQ9
            rw [nI_clamp (n := be_33) (by omega)] at hP hD
            have hQ9 := pd_mk [(y0, .inr (2, (fX2 y1 y2 y3 wt wc))), (aI k y1 25 (upd ya3_33 be_33 r_47)), (aI k y2 25 (upd yb3_33 be_33 r_50)), (h0, .inr (5, (fX5 h1 h2 h3 h4))), (aI k h1 10 (vv n see tm g)), (aI k h2 24 ff), (aI k h3 24 fp), (aI k h4 4 fl), (u0, .inr (3, (fX3 u1 u2 rf (nI rc) (nI rr)))), (aI k u1 24 rs), (aI k u2 24 rb)] hP hD
            clear hP hD
            obtain ⟨hP, hD⟩ := hQ9
            refine lv_iinc (v := (nI (be_33 + 1))) (lv' := [(9, .int (nI (be_33 + 1))), (12, .int x_45), (11, .int r_32), (10, .int 1), (8, .int r_32), (7, .int (nI q_31)), (6, .int r_28), (0, .ref y0), (1, .ref h0), (2, .ref u0), (3, .int (nI wh)), (4, .int (nI rn)), (5, .int p4)]) hx hb dX2_meanOfRound_180 hl (k := 3) rfl (nI_add be_33 1) (by decide) rfl (fun ls hl => ?_)
            refine lv_goto (tgt := 77) hx hb dX2_meanOfRound_183 (by decide) ?_
            have ha_33 := mv_v (d := (sdX n see tm g ff fp)) (u := (ruX rf rc rr rs rb)) (wh := wh) (r := rn) (E := p4) (p := be_33) (a := 1) (show q_31 < n by omega) (show _ = pChance (sdX n see tm g ff fp) q_31 (nI 1) from hw_46.trans (xChance (show q_31 < n by omega) (okX hok9 (show q_31 < n by omega)))) (by rw [if_pos (show pBar (ruX rf rc rr rs rb) be_33 ≤ nI q_31 by rw [← hw_35]; exact (Int32.not_lt.mp c_36))]; exact hw_32) (by rw [← hps_29, ex_45]; exact congrArg (fun z => r_28 + z) (hv_33.2.2.2.2 be_33 (by omega) (by omega))) (hw_47.trans (mix_same (by rw [hw_46, xChance (see := see) (tm := tm) (fp := fp) (show q_31 < n by omega) (okX hok9 (show q_31 < n by omega))]; exact pCh_in)))
            have hb_33 := mv_v (d := (sdX n see tm g ff fp)) (u := (ruX rf rc rr rs rb)) (wh := wh) (r := rn) (E := p4) (p := be_33) (a := 0) (show q_31 < n by omega) (show _ = pChance (sdX n see tm g ff fp) q_31 (nI 0) from hw_49.trans (xChance (show q_31 < n by omega) (okX hok9 (show q_31 < n by omega)))) (by rw [if_pos (show pBar (ruX rf rc rr rs rb) be_33 ≤ nI q_31 by rw [← hw_35]; exact (Int32.not_lt.mp c_36))]; exact hw_32) (by rw [← hps_29, ex_45]; exact congrArg (fun z => r_28 + z) (hv_33.2.2.2.2 be_33 (by omega) (by omega))) (hw_50.trans (mix_same (by rw [hw_49, xChance (see := see) (tm := tm) (fp := fp) (show q_31 < n by omega) (okX hok9 (show q_31 < n by omega))]; exact pCh_in)))
            have hsa_33 := mv_st (i := q_31) hv_33.2.1 hv_33.2.2.2.1 ha_33
            have hsb_33 := mv_st (i := q_31) hv_33.2.2.1 hv_33.2.2.2.2 hb_33
            exact ih_33 _ (be_33 + 1, (upd ya3_33 be_33 r_47), (upd yb3_33 be_33 r_50)) _ _ _ (by omega) ⟨rfl, ⟨by omega, hsa_33.1, hsb_33.1, hsa_33.2, hsb_33.2⟩, hP, hD, hS, (lv_sub hl [0, 4, 5, 6, 7, 8, 9, 10, 11, 12] rfl)⟩
  · have c_3 : ¬ (n < pa_1) := fun h => c_3 ((nI_ltI (a := n) (b := pa_1) (by omega) (by omega)).mpr h)
    refine lv_aload_n hx hb dX2_meanOfRound_12 rfl (lv_at hl 1 rfl) ?_
    refine va_get (D := D) (ci := 2) (v := .ref y1) (C := RX2) (T := TX2) (N := 5) hx hb hts inX2 hown hK hP 0 rfl rfl 0 (by decide) (hts _ tw_210) (fun _ h9 => h9) rfl dX2_meanOfRound_13 ?_
    refine lv_iload hx hb dX2_meanOfRound_16 (lv_at hl 0 rfl) ?_
    refine lv_iload hx hb dX2_meanOfRound_18 (lv_at hl 6 rfl) ?_
    refine va_iast hx hb hK hP hD hS 1 1 rfl rfl (vp_in_nI (by omega) (by decide)) dX2_meanOfRound_20 (fun H locs hP hD hS => ?_)
    have hQ9 := pd_mk [(y0, .inr (2, (fX2 y1 y2 y3 wt wc))), (aI k y1 25 (upd ya2_1 (Int32.toNatClampNeg (nI pa_1)) p4)), (aI k y2 25 yb2_1), (h0, .inr (5, (fX5 h1 h2 h3 h4))), (aI k h1 10 (vv n see tm g)), (aI k h2 24 ff), (aI k h3 24 fp), (aI k h4 4 fl), (u0, .inr (3, (fX3 u1 u2 rf (nI rc) (nI rr)))), (aI k u1 24 rs), (aI k u2 24 rb)] hP hD
    clear hP hD
    obtain ⟨hP, hD⟩ := hQ9
    rw [nI_clamp (n := pa_1) (by omega)] at hP hD
    have hQ9 := pd_mk [(y0, .inr (2, (fX2 y1 y2 y3 wt wc))), (aI k y1 25 (upd ya2_1 pa_1 p4)), (aI k y2 25 yb2_1), (h0, .inr (5, (fX5 h1 h2 h3 h4))), (aI k h1 10 (vv n see tm g)), (aI k h2 24 ff), (aI k h3 24 fp), (aI k h4 4 fl), (u0, .inr (3, (fX3 u1 u2 rf (nI rc) (nI rr)))), (aI k u1 24 rs), (aI k u2 24 rb)] hP hD
    clear hP hD
    obtain ⟨hP, hD⟩ := hQ9
    refine lv_aload_n hx hb dX2_meanOfRound_21 rfl (lv_at hl 1 rfl) ?_
    refine va_get (D := D) (ci := 2) (v := .ref y2) (C := RX2) (T := TX2) (N := 5) hx hb hts inX2 hown hK hP 0 rfl rfl 1 (by decide) (hts _ tw_211) (fun _ h9 => h9) rfl dX2_meanOfRound_22 ?_
    refine lv_iload hx hb dX2_meanOfRound_25 (lv_at hl 0 rfl) ?_
    refine lv_iload hx hb dX2_meanOfRound_27 (lv_at hl 6 rfl) ?_
    refine va_iast hx hb hK hP hD hS 2 1 rfl rfl (vp_in_nI (by omega) (by decide)) dX2_meanOfRound_29 (fun H locs hP hD hS => ?_)
    have hQ9 := pd_mk [(y0, .inr (2, (fX2 y1 y2 y3 wt wc))), (aI k y1 25 (upd ya2_1 pa_1 p4)), (aI k y2 25 (upd yb2_1 (Int32.toNatClampNeg (nI pa_1)) p4)), (h0, .inr (5, (fX5 h1 h2 h3 h4))), (aI k h1 10 (vv n see tm g)), (aI k h2 24 ff), (aI k h3 24 fp), (aI k h4 4 fl), (u0, .inr (3, (fX3 u1 u2 rf (nI rc) (nI rr)))), (aI k u1 24 rs), (aI k u2 24 rb)] hP hD
    clear hP hD
    obtain ⟨hP, hD⟩ := hQ9
    rw [nI_clamp (n := pa_1) (by omega)] at hP hD
    have hQ9 := pd_mk [(y0, .inr (2, (fX2 y1 y2 y3 wt wc))), (aI k y1 25 (upd ya2_1 pa_1 p4)), (aI k y2 25 (upd yb2_1 pa_1 p4)), (h0, .inr (5, (fX5 h1 h2 h3 h4))), (aI k h1 10 (vv n see tm g)), (aI k h2 24 ff), (aI k h3 24 fp), (aI k h4 4 fl), (u0, .inr (3, (fX3 u1 u2 rf (nI rc) (nI rr)))), (aI k u1 24 rs), (aI k u2 24 rb)] hP hD
    clear hP hD
    obtain ⟨hP, hD⟩ := hQ9
    refine lv_iinc (v := (nI (pa_1 + 1))) (lv' := [(6, .int (nI (pa_1 + 1))), (0, .ref y0), (1, .ref h0), (2, .ref u0), (3, .int (nI wh)), (4, .int (nI rn)), (5, .int p4)]) hx hb dX2_meanOfRound_30 hl (k := 0) rfl (nI_add pa_1 1) (by decide) rfl (fun ls hl => ?_)
    refine lv_goto (tgt := 3) hx hb dX2_meanOfRound_33 (by decide) ?_
    exact ih_1 _ (pa_1 + 1, (upd ya2_1 pa_1 p4), (upd yb2_1 pa_1 p4)) _ _ _ (by omega) ⟨rfl, ⟨by omega, la_upd (F := fun _ => p4) hv_1.2.1 rfl, la_upd (F := fun _ => p4) hv_1.2.2 rfl⟩, hP, hD, hS, (lv_sub hl [0, 1, 2, 3, 4, 5, 6] rfl)⟩

theorem f_glueP23 : True := trivial
/-! what is told once is within its bounds -/
def okG (f : Nat → Int32) : Prop := ∀ k, 1 ≤ k → k ≤ 9 → inB (f k) (zLE k) (zMO k)
theorem okG_0 : okG (nG zNT) := by
  intro k h1 h2
  rw [nG_in h1 h2]
  rcases (show k = 1 ∨ k = 2 ∨ k = 3 ∨ k = 4 ∨ k = 5 ∨ k = 6 ∨ k = 7 ∨ k = 8 ∨ k = 9 by omega) with rfl | rfl | rfl | rfl | rfl | rfl | rfl | rfl | rfl <;> exact ⟨by decide, by decide⟩
theorem okG_upd {f : Nat → Int32} {k : Nat} {v : Int32} (h : okG f) (hv : inB v (zLE k) (zMO k)) : okG (upd f k v) := by
  intro j h1 h2
  by_cases e : j = k
  · rw [e, pk_us]
    exact hv
  · rw [pk_un e]
    exact h j h1 h2
theorem siF_in {b : Nat → Int32} {n k t p t1 : Nat} {v v2 : Int32} (h : siF b n k t = (0, p, t1, v, v2)) : inB v (zLE k) (zMO k) ∧ (k = 7 → inB v2 0 3) := by
  unfold siF at h
  rcases h1 : nuR b n (decide (k = 1)) (zLE k) (zMO k) t with ⟨e1, p1, u1, v1, q1⟩
  simp only [h1] at h
  by_cases c1 : e1 = 0
  · rw [if_pos c1] at h
    rw [c1] at h1
    by_cases c2 : k = 7
    · rw [if_pos c2] at h
      rcases h2 : wdR b n (sByt.getD 8 []) u1 with ⟨e2, p2, u2⟩
      simp only [h2] at h
      by_cases c3 : e2 = 0
      · rw [if_pos c3] at h
        rcases h3 : nuR b n false 0 3 u2 with ⟨e3, p3, u3, w3, q3⟩
        simp only [h3] at h
        by_cases c4 : e3 = 0
        · rw [if_pos c4] at h
          rw [c4] at h3
          have e : v1 = v := congrArg (fun z => z.2.2.2.1) h
          have e' : w3 = v2 := congrArg (fun z => z.2.2.2.2) h
          rw [← e, ← e']
          exact ⟨(nuR_in h1).1, fun _ => (nuR_in h3).1⟩
        · rw [if_neg c4] at h
          exact absurd (congrArg Prod.fst h) c4
      · rw [if_neg c3] at h
        exact absurd (congrArg Prod.fst h) c3
    · rw [if_neg c2] at h
      have e : v1 = v := congrArg (fun z => z.2.2.2.1) h
      rw [← e]
      exact ⟨(nuR_in h1).1, fun q => absurd q c2⟩
  · rw [if_neg c1] at h
    exact absurd (congrArg Prod.fst h) c1
theorem siC_in {b : Nat → Int32} {n k t p t1 : Nat} {v v2 : Int32} (h : siC b n k t = (0, p, t1, v, v2)) : inB v (zLE k) (zMO k) ∧ (k = 7 → inB v2 0 3) := by
  unfold siC at h
  rcases h1 : siF b n k t with ⟨e, p1, u1, w, w2⟩
  simp only [h1] at h
  by_cases c1 : e = 0
  · rw [if_pos c1] at h
    rcases h2 : smR b n u1 with ⟨e6, p6, u6⟩
    simp only [h2] at h
    by_cases c2 : e6 = 0
    · rw [if_pos c2] at h
      have e3 : w = v := congrArg (fun z => z.2.2.2.1) h
      have e4 : w2 = v2 := congrArg (fun z => z.2.2.2.2) h
      rw [c1] at h1
      rw [← e3, ← e4]
      exact siF_in h1
    · rw [if_neg c2] at h
      exact absurd (congrArg Prod.fst h) c2
  · rw [if_neg c1] at h
    exact absurd (congrArg Prod.fst h) c1
theorem okG_cl {b : Nat → Int32} {n t : Nat} {σ : PSt} (h : (clF b n t σ).1 = 0) (ho : okG σ.2.1) : okG (clF b n t σ).2.2.2.2.1 := by
  unfold clF at h ⊢
  by_cases c1 : kwN (letA b n (skA b n t)) = 10
  · rw [if_pos c1] at h
    exact absurd (show (1 : Nat) = 0 from h) (by decide)
  · rw [if_neg c1] at h ⊢
    by_cases c2 : kwN (letA b n (skA b n t)) = 0
    · rw [if_pos c2] at h ⊢
      rcases h1 : doC b n σ.1 (skA b n t + (letA b n (skA b n t)).length) with ⟨e, p, u1, m, v3, v5⟩
      simp only [h1] at h ⊢
      by_cases c3 : e = 0
      · rw [if_pos c3]
        exact ho
      · rw [if_neg c3] at h
        exact absurd h c3
    · rw [if_neg c2] at h ⊢
      by_cases c3 : σ.2.2.2.2 (kwN (letA b n (skA b n t))) = true
      · rw [if_pos c3] at h
        exact absurd (show (3 : Nat) = 0 from h) (by decide)
      · rw [if_neg c3] at h ⊢
        rcases h1 : siC b n (kwN (letA b n (skA b n t))) (skA b n t + (letA b n (skA b n t)).length) with ⟨e, p, u1, v, v2⟩
        simp only [h1] at h ⊢
        by_cases c4 : e = 0
        · rw [if_pos c4]
          rw [c4] at h1
          have hs := siC_in h1
          show okG (if kwN (letA b n (skA b n t)) = 7 then upd (upd σ.2.1 7 v) 8 v2 else upd σ.2.1 (kwN (letA b n (skA b n t))) v)
          by_cases c7 : kwN (letA b n (skA b n t)) = 7
          · rw [if_pos c7]
            rw [c7] at hs
            exact okG_upd (okG_upd ho hs.1) (hs.2 rfl)
          · rw [if_neg c7]
            exact okG_upd ho hs.1
        · rw [if_neg c4] at h
          exact absurd h c4
theorem okG_L {b : Nat → Int32} {n : Nat} : ∀ k t σ, (stL b n k t σ).1 = 0 → okG σ.2.1 → okG (stL b n k t σ).2.2.2.1 := by
  intro k
  induction k with
  | zero => intro t σ _ ho; exact ho
  | succ k ih =>
    intro t σ h ho
    have e : stL b n (k + 1) t σ = (if skA b n t < n then (if (clF b n t σ).1 = 0 then stL b n k (clF b n t σ).2.2.1 (clF b n t σ).2.2.2 else ((clF b n t σ).1, (clF b n t σ).2.1, σ)) else (0, 0, σ)) := rfl
    rw [e] at h ⊢
    by_cases c1 : skA b n t < n
    · rw [if_pos c1] at h ⊢
      by_cases c2 : (clF b n t σ).1 = 0
      · rw [if_pos c2] at h ⊢
        exact ih _ _ h (okG_cl c2 ho)
      · rw [if_neg c2] at h
        exact absurd h c2
    · rw [if_neg c1]
      exact ho
theorem okG_F {b : Nat → Int32} {n t : Nat} {σ : PSt} (h : stF b n t = (0, 0, σ)) : okG σ.2.1 := by
  unfold stF at h
  by_cases c : (stL b n 240 t st0).1 = 0 ∧ (stL b n 240 t st0).2.2.1 = 0
  · rw [if_pos c] at h
    exact absurd (show (1 : Nat) = 0 from congrArg Prod.fst h) (by decide)
  · rw [if_neg c] at h
    have h1 := okG_L 240 t st0 (show (stL b n 240 t st0).1 = 0 by rw [h]) okG_0
    rw [h] at h1
    exact h1
/-- a street that has doors has its singles in bounds -/
theorem stP_okG {pz : Int32} {b : Nat → Int32} {n n' : Nat} {fp r fp' : Int32} {sd sd' : Nat → SDt} (h : stP pz b n fp sd r n' fp' sd') (e : ∀ i, i < 3 → 0 < (sd i).1 → okG (sd i).2.1) : ∀ i, i < 3 → 0 < (sd' i).1 → okG (sd' i).2.1 := by
  intro i hi3 hp
  rcases Classical.em (inB pz 0 2) with hi | hi
  · obtain ⟨h1, h2⟩ := h.2 hi
    rcases h2 with ⟨e1, pl, a1, a2, a3, a4, a5, a6, a7⟩ | ⟨sn, σ, a1, a2, a3, a4, a5, a6, a7⟩
    · rw [a7 i hi3] at hp ⊢
      exact e i hi3 hp
    · by_cases hs : i = sn
      · rw [hs, a6]
        exact okG_F a3
      · rw [a7 i hi3 hs] at hp ⊢
        exact e i hi3 hp
  · rw [(h.1 hi).2.2.2 i hi3] at hp ⊢
    exact e i hi3 hp
/-- late, as the reference asks -/
theorem late_same {T c : Nat} (hT : T ≤ 10000) (hc : c ≤ 10000) : (0 < (if 0 ≤ nI T - nI c then nI T - nI c else 0)) ↔ nI c < nI T := by
  have e0 : (0 : Int32).toInt = 0 := by decide
  have e1 : (nI T).toInt = (T : Int) := nI_toInt (by omega)
  have e2 : (nI c).toInt = (c : Int) := nI_toInt (by omega)
  have e3 : (nI T - nI c).toInt = (T : Int) - c := by
    rw [Int32.toInt_sub, e1, e2]
    exact Int.bmod_eq_of_le (by omega) (by omega)
  by_cases h : 0 ≤ nI T - nI c
  · rw [if_pos h, Int32.lt_iff_toInt_lt, Int32.lt_iff_toInt_lt, e0, e1, e2, e3]
    omega
  · have k : ¬ (0 : Int32).toInt ≤ (nI T - nI c).toInt := fun q => h (Int32.le_iff_toInt_le.mpr q)
    rw [if_neg h, Int32.lt_iff_toInt_lt, Int32.lt_iff_toInt_lt, e0, e1, e2]
    rw [e0, e3] at k
    omega
theorem mBar {bm : Nat → Nat} {fs ff fr : Nat → Int32} {q p : Nat} : pBar (ruM bm fs ff fr q) p = pBa (fun i => fs (12 * q + 1 + i)) (fun i => ff (12 * q + 1 + i)) (ff (12 * q)) (nI p) (bm q - 1) := pBa_clp (bm q - 1) (Nat.le_refl _)
theorem g_nat {d : SDt} {k m : Nat} (h : okG d.2.1) (h1 : 1 ≤ k) (h2 : k ≤ 9) (hz : zLE k = 0) (hm : zMO k = nI m) (hmb : m < 2 ^ 31) : ∃ x : Nat, x ≤ m ∧ d.2.1 k = nI x := by
  have h3 := h k h1 h2
  rw [hz, hm] at h3
  obtain ⟨x, -, hx, e⟩ := inB_ofc (a := 0) (b := m) (by omega) hmb h3
  exact ⟨x, hx, e⟩
theorem mLt {dn se tm : Nat → Nat} {gs ffr fpr : Nat → Int32} {s r : Nat} {z : Int32} (hg : okG (sdM dn (sg se tm gs) ffr fpr s).2.1) (hn : dn s ≤ 24) (hr : r ≤ 3) (hz : z = fM_late se tm gs s (nI r * (nI (dn s) + sg se tm gs (9 * s + 6)) + nI (dn s))) : 0 < z ↔ pLt (sdM dn (sg se tm gs) ffr fpr s) r = true := by
  obtain ⟨a, ha, ea⟩ := g_nat (k := 7) (m := 60) hg (by omega) (by omega) rfl rfl (by omega)
  obtain ⟨c, hc, ec⟩ := g_nat (k := 5) (m := 200) hg (by omega) (by omega) rfl rfl (by omega)
  have ea2 : sg se tm gs (9 * s + 6) = nI a := by
    rw [← ea, gM' (by omega) (by omega)]
  have ec2 : sg se tm gs (9 * s + 4) = nI c := by
    rw [← ec, gM' (by omega) (by omega)]
  have eT : nI r * (nI (dn s) + nI a) + nI (dn s) = nI (r * (dn s + a) + dn s) := by
    rw [nI_add, pk_mul, nI_add]
  have hb : r * (dn s + a) + dn s ≤ 10000 := by
    have : r * (dn s + a) ≤ 3 * 84 := Nat.mul_le_mul hr (by omega)
    omega
  unfold fM_late at hz
  unfold pLt
  rw [hz, ea2, ec2, eT, decide_eq_true_iff]
  show _ ↔ (sdM dn (sg se tm gs) ffr fpr s).2.1 5 < nI r * (nI (dn s) + (sdM dn (sg se tm gs) ffr fpr s).2.1 7) + nI (dn s)
  rw [ea, ec, eT]
  exact late_same hb (by omega)
theorem mR_0 {d : SDt} {u : RUt} {wh L : Nat} : mR d u wh L 0 = mV d u wh L (pGs d wh L) d.1 0 0 := rfl
theorem mR_s {d : SDt} {u : RUt} {wh L r : Nat} (h : r < L) : mR d u wh L (L - r) = mV d u wh r (mR d u wh L (L - (r + 1)) + pRs d wh) d.1 0 0 := by
  rw [show L - r = (L - (r + 1)) + 1 by omega]
  show mV d u wh (L - (L - (r + 1) + 1)) _ d.1 0 0 = _
  rw [show L - (L - (r + 1) + 1) = r by omega]
theorem mR_l {d : SDt} {u : RUt} {wh L r : Nat} (h : r = L) : mR d u wh L (L - r) = mV d u wh r (pGs d wh r) d.1 0 0 := by
  subst h
  rw [Nat.sub_self]
  rfl
theorem meA_fun {p2 : Int32} {d : SDt} {u : RUt} {x y : Int32} (h : meA p2 d u x) (k : meA p2 d u y) : x = y := by
  rcases Classical.em (inB p2 0 2) with c | c
  · obtain ⟨w, -, h2, e⟩ := inB_ofc (a := 0) (b := 2) (by omega) (by omega) c
    exact (h.2 w h2 e).trans (k.2 w h2 e).symm
  · exact (h.1 c).trans (k.1 c).symm
theorem me_o {p2 : Int32} {d : SDt} {u : RUt} (h : ¬ inB p2 0 2) : meA p2 d u (-1002) := ⟨fun _ => rfl, fun w hw e => absurd (by rw [e]; exact in02 (by omega)) h⟩
theorem me_i {wh : Nat} {d : SDt} {u : RUt} {r : Int32} (hw : wh ≤ 2) (h : r = mR d u wh (muD d u) (muD d u)) : meA (nI wh) d u r := by
  refine ⟨fun c => absurd (in02 (by omega)) c, fun w hw2 e => ?_⟩
  have := nI_inj (by omega) (by omega) e
  subst this
  exact h
def mnP (sd : Nat → SDt) (k : Nat) (ru : Nat → RUt) (p0 p1 p2 r : Int32) : Prop := ((∀ s t, s < 3 → t < k → p0 = nI s → p1 = nI t → ¬ 0 < (sd s).1) → r = -1001) ∧ ∀ s t, s < 3 → t < k → p0 = nI s → p1 = nI t → 0 < (sd s).1 → meA p2 (sd s) (ru t) r
theorem mnP_fun {sd se : Nat → SDt} {k : Nat} {ru rv : Nat → RUt} {p0 p1 p2 r q : Int32} (h : mnP sd k ru p0 p1 p2 r) (g : mnP se k rv p0 p1 p2 q) (e : ∀ i, i < 3 → sd i = se i) (e2 : ∀ i, i < k → ru i = rv i) : r = q := by
  rcases Classical.em (∃ s t, s < 3 ∧ t < k ∧ p0 = nI s ∧ p1 = nI t ∧ 0 < (sd s).1) with ⟨s, t, h1, h2, h3, h4, h5⟩ | hn
  · have a := h.2 s t h1 h2 h3 h4 h5
    have b := g.2 s t h1 h2 h3 h4 (by rw [← e s h1]; exact h5)
    rw [← e s h1, ← e2 t h2] at b
    exact meA_fun a b
  · have a := h.1 (fun s t h1 h2 h3 h4 h5 => hn ⟨s, t, h1, h2, h3, h4, h5⟩)
    have b := g.1 (fun s t h1 h2 h3 h4 h5 => hn ⟨s, t, h1, h2, h3, h4, by rw [e s h1]; exact h5⟩)
    exact a.trans b.symm
theorem mn_no0 {sd : Nat → SDt} {k : Nat} {ru : Nat → RUt} {p0 p1 p2 : Int32} (h : ∀ s, s < 3 → p0 = nI s → ¬ 0 < (sd s).1) : mnP sd k ru p0 p1 p2 (-1001) := ⟨fun _ => rfl, fun s t h1 _ h3 _ h5 => absurd h5 (h s h1 h3)⟩
theorem mn_no1 {sd : Nat → SDt} {k : Nat} {ru : Nat → RUt} {p0 p1 p2 : Int32} (h : ∀ t, t < k → ¬ p1 = nI t) : mnP sd k ru p0 p1 p2 (-1001) := ⟨fun _ => rfl, fun s t _ h2 _ h4 _ => absurd h4 (h t h2)⟩
theorem mn_at {sd : Nat → SDt} {k s t : Nat} {ru : Nat → RUt} {p2 r : Int32} (hk : k ≤ 4) (hs : s < 3) (ht : t < k) (hp : 0 < (sd s).1) (h : meA p2 (sd s) (ru t) r) : mnP sd k ru (nI s) (nI t) p2 r := by
  refine ⟨fun q => absurd hp (q s t hs ht rfl rfl), fun s2 t2 k1 k2 k3 k4 _ => ?_⟩
  have e1 := nI_inj (by omega) (by omega) k3
  have e2 := nI_inj (by omega) (by omega) k4
  subst e1 e2
  exact h


set_option maxHeartbeats 4000000 in
set_option maxRecDepth 100000 in
theorem y_meanOf (l : Launch) (D : va_G) (k : Nat → ClassId) (st : Nat → Nat) (lo : Nat) (y0 : Nat) (y1 : Nat) (y2 : Nat) (y3 : Nat) (wt : Int32) (wc : Int32) (ya : Nat → Int32) (yb : Nat → Int32) (h0 : Nat) (h1 : Nat) (h2 : Nat) (h3 : Nat) (h4 : Nat) (n : Nat) (see : Nat) (tm : Nat) (g : Nat → Int32) (ff : Nat → Int32) (fp : Nat → Int32) (fl : Nat → Int32) (u0 : Nat) (u1 : Nat) (u2 : Nat) (rf : Int32) (rc : Nat) (rr : Nat) (rs : Nat → Int32) (rb : Nat → Int32) (wh : Nat) (hn : n ≤ 24) (hrc : rc ≤ 24) (hrr : rr ≤ 3) (htm9 : tm ≤ 3) (hwh : wh ≤ 2) (hl9 : ∀ r, r < 4 → fl r = pLate (sdX n see tm g ff fp) r) (hok9 : okD (sdX n see tm g ff fp)) : CWi l D k st lo yX2_meanOf cX2_meanOf 7 (some .int) ({ frames := 4, cells := 0, slots := 0, locals := 115 }) 0 0 [.ref y0, .ref h0, .ref u0, .int (nI wh)] [(y0, .inr (2, (fX2 y1 y2 y3 wt wc))), (aI k y1 25 ya), (aI k y2 25 yb), (h0, .inr (5, (fX5 h1 h2 h3 h4))), (aI k h1 10 (vv n see tm g)), (aI k h2 24 ff), (aI k h3 24 fp), (aI k h4 4 fl), (u0, .inr (3, (fX3 u1 u2 rf (nI rc) (nI rr)))), (aI k u1 24 rs), (aI k u2 24 rb)] (fun (r : Int32) (u : (Nat → Int32) × (Nat → Int32)) => match u with | (ya_, yb_) => r = mR (sdX n see tm g ff fp) (ruX rf rc rr rs rb) wh (min rr tm) ((min rr tm))) (fun (u : (Nat → Int32) × (Nat → Int32)) => match u with | (ya_, yb_) => [(y0, .inr (2, (fX2 y1 y2 y3 wt wc))), (aI k y1 25 ya_), (aI k y2 25 yb_), (h0, .inr (5, (fX5 h1 h2 h3 h4))), (aI k h1 10 (vv n see tm g)), (aI k h2 24 ff), (aI k h3 24 fp), (aI k h4 4 fl), (u0, .inr (3, (fX3 u1 u2 rf (nI rc) (nI rr)))), (aI k u1 24 rs), (aI k u2 24 rb)]) := by
  intro sz
  refine Met.ofW (cc := cX2_meanOf) (maxL := 7) (ret := (some .int)) (by decide) rfl ?_
  intro p e s m args below meth c s₁ B hml hv
  obtain ⟨rfl, hsz, hlo, hP, hK, hDL, hZ⟩ := hv
  have hx := B.exec
  have hb := B.bytes
  have hr := B.returns
  have hts := WS_ts B.pre
  have hown : s.vm.findClass RX2 = some m.cls := findClass_of_methodNamed B.named
  have hlocks := B.notSynchronized
  subst hsz
  have hD := hDL.self (sz := s.heap.size)
  have hAlo := A_lo hDL hlo
  generalize hAe : va_A [(y0, .inr (2, (fX2 y1 y2 y3 wt wc))), (aI k y1 25 ya), (aI k y2 25 yb), (h0, .inr (5, (fX5 h1 h2 h3 h4))), (aI k h1 10 (vv n see tm g)), (aI k h2 24 ff), (aI k h3 24 fp), (aI k h4 4 fl), (u0, .inr (3, (fX3 u1 u2 rf (nI rc) (nI rr)))), (aI k u1 24 rs), (aI k u2 24 rb)] s.heap.size = A at hD hAlo ⊢
  have hA : ∀ q : Nat, s.heap.size ≤ q → A q := fun q h => by rw [← hAe]; exact Or.inr h
  have hS : va_S A s.heap s.heap [] := va_S.rf
  have hl := lv_entry ([.ref y0, .ref h0, .ref u0, .int (nI wh)]) (n := 7) (Nat.le_of_ble_eq_true rfl)
  rw [lg_entry_eq]
  generalize (lg_sl ([.ref y0, .ref h0, .ref u0, .int (nI wh)]) ++ List.replicate (7 - (lg_sl ([.ref y0, .ref h0, .ref u0, .int (nI wh)])).length) Slot.unset).toArray = ls at hl ⊢
  have hl : lv_has ls 7 [(0, .ref y0), (1, .ref h0), (2, .ref u0), (3, .int (nI wh))] := hl
  refine lv_aload_n hx hb dX2_meanOf_0 rfl (lv_at hl 2 rfl) ?_
  refine lv_aload_n hx hb dX2_meanOf_1 rfl (lv_at hl 1 rfl) ?_
  refine ro_i (D := D) (va_runV (As := [.ref h0]) (rest := []) ⟨hx, hb, hml, hown, hts⟩ ((x_roundsIn l D k st lo u0 u1 u2 rf rc rr h0 h1 h2 h3 h4 n see tm g (by first | assumption | omega) (by first | assumption | omega)) s.heap.size) (cwV 1 hts (gV tw_705 tw_706 tw_707 tw_86 tw_708) rfl rfl rfl (by decide +kernel) ⟨Nat.le_of_ble_eq_true rfl, Nat.le_of_ble_eq_true rfl⟩) (pV hS hAlo hlo hP hK (va_Dlo hD hAlo) hZ [8, 3, 4] (by decide) rfl (ci := 3) (q := (RX3, TX3, 5)) (q0 := 0) rfl rfl) rfl rfl hl.1 rfl (lv_room (Nat.le_of_ble_eq_true rfl)) dX2_meanOf_2 ⟨Nat.le_of_ble_eq_true rfl, Nat.le_of_ble_eq_true rfl⟩) hS hA hP (fun r_1 H locs hw_1 hP hS => ?_)
  try dsimp only at hw_1
  subst hw_1
  refine lv_istore (lv' := [(4, .int (nI (min rr tm))), (0, .ref y0), (1, .ref h0), (2, .ref u0), (3, .int (nI wh))]) hx hb dX2_meanOf_5 hl (by decide) rfl (fun ls hl => ?_)
  refine lv_aload_n hx hb dX2_meanOf_7 rfl (lv_at hl 2 rfl) ?_
  refine lv_iload hx hb dX2_meanOf_8 (lv_at hl 0 rfl) ?_
  refine lv_iload_n hx hb dX2_meanOf_10 rfl (lv_at hl 4 rfl) ?_
  refine ro_i (D := D) (va_runS (As := [.ref h0, .int (nI (min rr tm)), .int (nI wh)]) (rest := []) ⟨hx, hb, hml, hown, hts⟩ ((y_garageShare l D k st lo h0 h1 h2 h3 h4 n see tm g ff fp fl (min rr tm) wh (by first | assumption | omega) (by first | assumption | omega) hl9) H.size) (va_cwS 3 hts (gS tw_710 tw_711 tw_83 tw_712) rfl rfl rfl (by decide +kernel) ⟨Nat.le_of_ble_eq_true rfl, Nat.le_of_ble_eq_true rfl⟩) (pS hS hAlo hlo hP hK (va_Dlo hD hAlo) hZ [3, 4, 5, 6, 7] (by decide) rfl) rfl rfl hl.1 rfl (lv_room (Nat.le_of_ble_eq_true rfl)) dX2_meanOf_11 ⟨Nat.le_of_ble_eq_true rfl, Nat.le_of_ble_eq_true rfl⟩) hS hA hP (fun r_2 H locs hw_2 hP hS => ?_)
  try dsimp only at hw_2
  refine lv_istore (lv' := [(5, .int r_2), (4, .int (nI (min rr tm))), (0, .ref y0), (1, .ref h0), (2, .ref u0), (3, .int (nI wh))]) hx hb dX2_meanOf_14 hl (by decide) rfl (fun ls hl => ?_)
  refine lv_iload hx hb dX2_meanOf_16 (lv_at hl 1 rfl) ?_
  refine lv_istore (lv' := [(6, .int (nI (min rr tm))), (5, .int r_2), (4, .int (nI (min rr tm))), (0, .ref y0), (1, .ref h0), (2, .ref u0), (3, .int (nI wh))]) hx hb dX2_meanOf_18 hl (by decide) rfl (fun ls hl => ?_)
  refine W_loop (σ := Nat × Int32 × (Nat → Int32) × (Nat → Int32)) (fun (n_ : Nat) (x_ : Nat × Int32 × (Nat → Int32) × (Nat → Int32)) (H : Heap) (locs : List Loc) (ls : Array Slot) => match x_ with | (q_3, fo2_3, ya2_3, yb2_3) => n_ = 2 * q_3 ∧ (q_3 ≤ (min rr tm) + 1 ∧ (q_3 = (min rr tm) + 1 → fo2_3 = pGs (sdX n see tm g ff fp) wh (min rr tm)) ∧ (0 < q_3 → q_3 ≤ (min rr tm) → fo2_3 = mR (sdX n see tm g ff fp) (ruX rf rc rr rs rb) wh (min rr tm) ((min rr tm) - q_3) + pRs (sdX n see tm g ff fp) wh) ∧ (q_3 = 0 → fo2_3 = mR (sdX n see tm g ff fp) (ruX rf rc rr rs rb) wh (min rr tm) ((min rr tm) - q_3))) ∧ va_P D classes [(y0, .inr (2, (fX2 y1 y2 y3 wt wc))), (aI k y1 25 ya2_3), (aI k y2 25 yb2_3), (h0, .inr (5, (fX5 h1 h2 h3 h4))), (aI k h1 10 (vv n see tm g)), (aI k h2 24 ff), (aI k h3 24 fp), (aI k h4 4 fl), (u0, .inr (3, (fX3 u1 u2 rf (nI rc) (nI rr)))), (aI k u1 24 rs), (aI k u2 24 rb)] H ∧ va_D A [(y0, .inr (2, (fX2 y1 y2 y3 wt wc))), (aI k y1 25 ya2_3), (aI k y2 25 yb2_3), (h0, .inr (5, (fX5 h1 h2 h3 h4))), (aI k h1 10 (vv n see tm g)), (aI k h2 24 ff), (aI k h3 24 fp), (aI k h4 4 fl), (u0, .inr (3, (fX3 u1 u2 rf (nI rc) (nI rr)))), (aI k u1 24 rs), (aI k u2 24 rb)] ∧ va_S A s.heap H locs ∧ lv_has ls 7 [(6, .int (nI q_3 - 1)), (5, .int fo2_3), (4, .int (nI (min rr tm))), (0, .ref y0), (1, .ref h0), (2, .ref u0), (3, .int (nI wh))]) (fun n_3 x_3 H locs ls hI ih_3 => ?_) _ (min rr tm + 1, r_2, ya, yb) ⟨rfl, ⟨by omega, fun _ => hw_2, fun _ h => absurd h (by omega), fun h => absurd h (by omega)⟩, hP, hD, hS, (by rw [nI_pred]; exact lv_sub hl [0, 1, 2, 3, 4, 5, 6] rfl)⟩
  obtain ⟨q_3, fo2_3, ya2_3, yb2_3⟩ := x_3
  obtain ⟨hm_3, hv_3, hP, hD, hS, hl⟩ := hI
  subst hm_3
  rcases q_3 with _ | q_3
  · rw [dn0] at hl
    refine lv_iload hx hb dX2_meanOf_20 (lv_at hl 0 rfl) ?_
    refine lv_if_lt (tgt := 62) hx hb dX2_meanOf_22 (by decide) (fun _ => ?_) (fun h => absurd (by decide) h)
    refine lv_iload hx hb dX2_meanOf_62 (lv_at hl 1 rfl) ?_
    obtain ⟨hP9, hD9⟩ := pd_sub [(y0, .inr (2, (fX2 y1 y2 y3 wt wc))), (aI k y1 25 ya2_3), (aI k y2 25 yb2_3), (h0, .inr (5, (fX5 h1 h2 h3 h4))), (aI k h1 10 (vv n see tm g)), (aI k h2 24 ff), (aI k h3 24 fp), (aI k h4 4 fl), (u0, .inr (3, (fX3 u1 u2 rf (nI rc) (nI rr)))), (aI k u1 24 rs), (aI k u2 24 rb)] [0, 1, 2, 3, 4, 5, 6, 7, 8, 9, 10] hP hD (by decide +kernel) rfl
    exact W.iret (v := fo2_3) hx hb hr (fun t ht hW => ⟨⟨fo2_3, (ya2_3, yb2_3), rfl, (hv_3.2.2.2 rfl), by rw [ht]; exact hP9, hD9⟩, hS.F ht⟩) hS.2.2 dX2_meanOf_64
  · rw [nI_pred] at hl
    refine lv_iload hx hb dX2_meanOf_20 (lv_at hl 0 rfl) ?_
    refine lv_if_lt (tgt := 62) hx hb dX2_meanOf_22 (by decide) (fun h => absurd h (nI_pos0 (by omega))) (fun _ => ?_)
    refine lv_aload_n hx hb dX2_meanOf_25 rfl (lv_at hl 3 rfl) ?_
    refine lv_aload_n hx hb dX2_meanOf_26 rfl (lv_at hl 4 rfl) ?_
    refine lv_aload_n hx hb dX2_meanOf_27 rfl (lv_at hl 5 rfl) ?_
    refine lv_iload_n hx hb dX2_meanOf_28 rfl (lv_at hl 6 rfl) ?_
    refine lv_iload hx hb dX2_meanOf_29 (lv_at hl 0 rfl) ?_
    refine lv_iload hx hb dX2_meanOf_31 (lv_at hl 1 rfl) ?_
    refine rw_i (D := D) (wr := []) (va_runV (As := [.ref h0, .ref u0, .int (nI wh), .int (nI q_3), .int fo2_3]) (rest := []) ⟨hx, hb, hml, hown, hts⟩ ((y_meanOfRound l D k st lo y0 y1 y2 y3 wt wc ya2_3 yb2_3 h0 h1 h2 h3 h4 n see tm g ff fp fl u0 u1 u2 rf rc rr rs rb wh q_3 fo2_3 (by first | assumption | omega) (by first | assumption | omega) (by first | assumption | omega) (by first | assumption | omega) hl9 hok9) H.size) (cwV 5 hts (gV tw_719 tw_721 tw_16 tw_83 tw_722) rfl rfl rfl (by decide +kernel) ⟨Nat.le_of_ble_eq_true rfl, Nat.le_of_ble_eq_true rfl⟩) (pV hS hAlo hlo hP hK (va_Dlo hD hAlo) hZ [0, 1, 2, 3, 4, 5, 6, 7, 8, 9, 10] (by decide +kernel) rfl (ci := 2) (q := (RX2, TX2, 5)) (q0 := 0) rfl rfl) rfl rfl hl.1 rfl (lv_room (Nat.le_of_ble_eq_true rfl)) dX2_meanOf_33 ⟨Nat.le_of_ble_eq_true rfl, Nat.le_of_ble_eq_true rfl⟩) hS hA hP hD [0, 1, 2, 3, 4, 5, 6, 7, 8, 9, 10] [] rfl rfl (by decide +kernel) (by decide +kernel) (fun r_4 u H locs hw_4 hP hD hS => ?_)
    obtain ⟨ya__4, yb__4⟩ := u
    have hQ9 := pd_mk [(y0, .inr (2, (fX2 y1 y2 y3 wt wc))), (aI k y1 25 ya__4), (aI k y2 25 yb__4), (h0, .inr (5, (fX5 h1 h2 h3 h4))), (aI k h1 10 (vv n see tm g)), (aI k h2 24 ff), (aI k h3 24 fp), (aI k h4 4 fl), (u0, .inr (3, (fX3 u1 u2 rf (nI rc) (nI rr)))), (aI k u1 24 rs), (aI k u2 24 rb)] hP hD
    clear hP hD
    obtain ⟨hP, hD⟩ := hQ9
    try dsimp only at hw_4
    refine lv_istore (lv' := [(5, .int r_4), (6, .int (nI q_3)), (4, .int (nI (min rr tm))), (0, .ref y0), (1, .ref h0), (2, .ref u0), (3, .int (nI wh))]) hx hb dX2_meanOf_36 hl (by decide) rfl (fun ls hl => ?_)
    refine lv_iload hx hb dX2_meanOf_38 (lv_at hl 1 rfl) ?_
    refine lv_if_le (tgt := 56) hx hb dX2_meanOf_40 (by decide) (fun c_5 => ?_) (fun c_5 => ?_)
    · have c_5 := (nI_leI (a := q_3) (b := 0) (by omega) (by omega)).mp c_5
      refine lv_iinc (v := (nI q_3 - 1)) (lv' := [(6, .int (nI q_3 - 1)), (5, .int r_4), (4, .int (nI (min rr tm))), (0, .ref y0), (1, .ref h0), (2, .ref u0), (3, .int (nI wh))]) hx hb dX2_meanOf_56 hl (k := 1) rfl (dn1 _) (by decide) rfl (fun ls hl => ?_)
      refine lv_goto (tgt := 20) hx hb dX2_meanOf_59 (by decide) ?_
      have hmr_3 : r_4 = mR (sdX n see tm g ff fp) (ruX rf rc rr rs rb) wh (min rr tm) ((min rr tm) - q_3) := by rw [hw_4]; rcases Nat.lt_or_ge q_3 (min rr tm) with h | h; rw [mR_s h, hv_3.2.2.1 (by omega) (by omega)]; rfl; rw [mR_l (show q_3 = (min rr tm) by omega), hv_3.2.1 (by omega), show (min rr tm) = q_3 by omega]; rfl
      exact ih_3 _ (q_3, r_4, ya__4, yb__4) _ _ _ (by omega) ⟨rfl, ⟨by omega, fun h => absurd h (by omega), fun h1 _ => (absurd h1 (by omega)), (fun _ => hmr_3)⟩, hP, hD, hS, (lv_sub hl [0, 1, 2, 3, 4, 5, 6] rfl)⟩
    · have c_5 : ¬ (q_3 ≤ 0) := fun h => c_5 ((nI_leI (a := q_3) (b := 0) (by omega) (by omega)).mpr h)
      refine lv_iload_n hx hb dX2_meanOf_43 rfl (lv_at hl 6 rfl) ?_
      refine lv_if_ne (tgt := 56) hx hb dX2_meanOf_44 (by decide) (fun c_6 => ?_) (fun c_6 => ?_)
      · have c_6 : ¬ (wh = 0) := fun h => c_6 ((nI_eq (a := wh) (b := 0) (by omega) (by omega)).mpr h)
        refine lv_iinc (v := (nI q_3 - 1)) (lv' := [(6, .int (nI q_3 - 1)), (5, .int r_4), (4, .int (nI (min rr tm))), (0, .ref y0), (1, .ref h0), (2, .ref u0), (3, .int (nI wh))]) hx hb dX2_meanOf_56 hl (k := 1) rfl (dn1 _) (by decide) rfl (fun ls hl => ?_)
        refine lv_goto (tgt := 20) hx hb dX2_meanOf_59 (by decide) ?_
        have hmr_3 : r_4 = mR (sdX n see tm g ff fp) (ruX rf rc rr rs rb) wh (min rr tm) ((min rr tm) - q_3) := by rw [hw_4]; rcases Nat.lt_or_ge q_3 (min rr tm) with h | h; rw [mR_s h, hv_3.2.2.1 (by omega) (by omega)]; rfl; rw [mR_l (show q_3 = (min rr tm) by omega), hv_3.2.1 (by omega), show (min rr tm) = q_3 by omega]; rfl
        exact ih_3 _ (q_3, r_4, ya__4, yb__4) _ _ _ (by omega) ⟨rfl, ⟨by omega, fun h => absurd h (by omega), fun h1 _ => (by rw [hmr_3]; unfold pRs; rw [if_neg (by omega), Int32.add_zero]), (fun _ => hmr_3)⟩, hP, hD, hS, (lv_sub hl [0, 1, 2, 3, 4, 5, 6] rfl)⟩
      · have c_6 := (nI_eq (a := wh) (b := 0) (by omega) (by omega)).mp c_6
        refine lv_iload hx hb dX2_meanOf_47 (lv_at hl 0 rfl) ?_
        refine lv_aload_n hx hb dX2_meanOf_49 rfl (lv_at hl 4 rfl) ?_
        refine ro_i (D := D) (va_runV (As := []) (rest := [.int r_4]) ⟨hx, hb, hml, hown, hts⟩ ((y_roundDrive l D k st lo h0 h1 h2 h3 h4 n see tm g) H.size) (cwV 0 hts (gV tw_735 tw_525 tw_526 tw_81 tw_527) rfl rfl rfl (by decide +kernel) ⟨Nat.le_of_ble_eq_true rfl, Nat.le_of_ble_eq_true rfl⟩) (pV hS hAlo hlo hP hK (va_Dlo hD hAlo) hZ [3, 4] (by decide) rfl (ci := 5) (q := (RX5, TX5, 4)) (q0 := 0) rfl rfl) rfl rfl hl.1 rfl (lv_room (Nat.le_of_ble_eq_true rfl)) dX2_meanOf_50 ⟨Nat.le_of_ble_eq_true rfl, Nat.le_of_ble_eq_true rfl⟩) hS hA hP (fun r_7 H locs hw_7 hP hS => ?_)
        try dsimp only at hw_7
        refine lv_iadd hx hb dX2_meanOf_53 ?_
        refine lv_topi (fun x_8 ex_8 => ?_)
        refine lv_istore (lv' := [(5, .int x_8), (6, .int (nI q_3)), (4, .int (nI (min rr tm))), (0, .ref y0), (1, .ref h0), (2, .ref u0), (3, .int (nI wh))]) hx hb dX2_meanOf_54 hl (by decide) rfl (fun ls hl => ?_)
        refine lv_iinc (v := (nI q_3 - 1)) (lv' := [(6, .int (nI q_3 - 1)), (5, .int x_8), (4, .int (nI (min rr tm))), (0, .ref y0), (1, .ref h0), (2, .ref u0), (3, .int (nI wh))]) hx hb dX2_meanOf_56 hl (k := 1) rfl (dn1 _) (by decide) rfl (fun ls hl => ?_)
        refine lv_goto (tgt := 20) hx hb dX2_meanOf_59 (by decide) ?_
        have hmr_3 : r_4 = mR (sdX n see tm g ff fp) (ruX rf rc rr rs rb) wh (min rr tm) ((min rr tm) - q_3) := by rw [hw_4]; rcases Nat.lt_or_ge q_3 (min rr tm) with h | h; rw [mR_s h, hv_3.2.2.1 (by omega) (by omega)]; rfl; rw [mR_l (show q_3 = (min rr tm) by omega), hv_3.2.1 (by omega), show (min rr tm) = q_3 by omega]; rfl
        exact ih_3 _ (q_3, x_8, ya__4, yb__4) _ _ _ (by omega) ⟨rfl, ⟨by omega, fun h => absurd h (by omega), fun h1 _ => (by rw [ex_8, hmr_3, hw_7]; unfold pRs; rw [if_pos (by omega)]; exact congrArg (fun z => _ + z) xRnd), (fun h => absurd h (by omega))⟩, hP, hD, hS, (lv_sub hl [0, 1, 2, 3, 4, 5, 6] rfl)⟩


set_option maxHeartbeats 4000000 in
set_option maxRecDepth 100000 in
theorem y_isRule (l : Launch) (D : va_G) (k : Nat → ClassId) (st : Nat → Nat) (lo : Nat) (a : Nat → Nat) (rk : Nat) (lfa : Int32) (pz : Int32) (hrk : rk ≤ 4) : CRi l D k st lo yX7_isRule cX7_isRule 2 (some .boolean) ({ frames := 0, cells := 0, slots := 0, locals := 0 }) [.ref (a 0), .int pz] [((a 0), .inr (7, (fX7 (a 1) (a 3) (a 19) (a 35) (a 40) (nI rk) lfa (a 53) (a 56) (a 63) (a 64) (a 68))))] (fun r => (r = 1 ∧ ((pz = 0 ∧ 0 < rk) ∨ (pz = 1 ∧ 1 < rk) ∨ (pz = 2 ∧ 2 < rk) ∨ (pz = 3 ∧ 3 < rk))) ∨ (r = 0 ∧ ∀ t, t < rk → ¬ pz = nI t)) := by
  intro sz
  refine Met.ofW (cc := cX7_isRule) (maxL := 2) (ret := (some .boolean)) (by decide) rfl ?_
  intro p e s m args below meth c s₁ B hml hv
  obtain ⟨rfl, hsz, hlo, hP, hK, hDL, hZ⟩ := hv
  have hx := B.exec
  have hb := B.bytes
  have hr := B.returns
  have hts := WS_ts B.pre
  have hown : s.vm.findClass RX7 = some m.cls := findClass_of_methodNamed B.named
  have hlocks := B.notSynchronized
  subst hsz
  have hA : ∀ q : Nat, s.heap.size ≤ q → (fun q : Nat => s.heap.size ≤ q) q := fun _ h => h
  have hAlo : ∀ q : Nat, (fun q : Nat => s.heap.size ≤ q) q → lo ≤ q := fun q h => Nat.le_trans hlo h
  have hS : va_S (fun q : Nat => s.heap.size ≤ q) s.heap s.heap [] := va_S.rf
  have hl := lv_entry ([.ref (a 0), .int pz]) (n := 2) (Nat.le_of_ble_eq_true rfl)
  rw [lg_entry_eq]
  generalize (lg_sl ([.ref (a 0), .int pz]) ++ List.replicate (2 - (lg_sl ([.ref (a 0), .int pz])).length) Slot.unset).toArray = ls at hl ⊢
  have hl : lv_has ls 2 [(0, .ref (a 0)), (1, .int pz)] := hl
  refine lv_iload_n hx hb dX7_isRule_0 rfl (lv_at hl 1 rfl) ?_
  refine lv_if_lt (tgt := 16) hx hb dX7_isRule_1 (by decide) (fun c_1 => ?_) (fun c_1 => ?_)
  · refine lv_iconst (v := 0) hx hb dX7_isRule_16 (by decide) ?_
    exact W.zret (v := 0) (ty := .boolean) hx hb hr rfl (fun t ht hW => ⟨⟨0, (), rfl, .inr ⟨rfl, fun t h1 h2 => absurd c_1 (by rw [h2]; exact Int32.not_lt.mpr (nI_ge0 (by omega)))⟩, trivial⟩, hS.F ht⟩) hS.2.2 dX7_isRule_17
  · obtain ⟨i_9, hi_9, rfl⟩ := nI_of c_1
    refine lv_iload_n hx hb dX7_isRule_4 rfl (lv_at hl 1 rfl) ?_
    refine lv_aload_n hx hb dX7_isRule_5 rfl (lv_at hl 0 rfl) ?_
    refine va_get (D := D) (ci := 7) (v := .int (nI rk)) (C := RX7) (T := TX7) (N := 12) hx hb hts inX7 hown hK hP 0 rfl rfl 5 (by decide) (hts _ tw_310) (fun _ h9 => h9) rfl dX7_isRule_6 ?_
    refine lv_icmp_ge (tgt := 16) hx hb dX7_isRule_9 (by decide) (fun c_2 => ?_) (fun c_2 => ?_)
    · have c_2 := (nI_leI (a := rk) (b := i_9) (by omega) (by omega)).mp c_2
      refine lv_iconst (v := 0) hx hb dX7_isRule_16 (by decide) ?_
      exact W.zret (v := 0) (ty := .boolean) hx hb hr rfl (fun t ht hW => ⟨⟨0, (), rfl, .inr ⟨rfl, fun t h1 h2 => by have h9 := nI_inj (by omega) (by omega) h2; omega⟩, trivial⟩, hS.F ht⟩) hS.2.2 dX7_isRule_17
    · have c_2 : ¬ (rk ≤ i_9) := fun h => c_2 ((nI_leI (a := rk) (b := i_9) (by omega) (by omega)).mpr h)
      rcases (show i_9 = 0 ∨ i_9 = 1 ∨ i_9 = 2 ∨ i_9 = 3 by omega) with rfl | rfl | rfl | rfl
      · refine lv_iconst (v := 1) hx hb dX7_isRule_12 (by decide) ?_
        refine lv_goto (tgt := 17) hx hb dX7_isRule_13 (by decide) ?_
        exact W.zret (v := 1) (ty := .boolean) hx hb hr rfl (fun t ht hW => ⟨⟨1, (), rfl, .inl ⟨rfl, .inl ⟨rfl, by omega⟩⟩, trivial⟩, hS.F ht⟩) hS.2.2 dX7_isRule_17
      · refine lv_iconst (v := 1) hx hb dX7_isRule_12 (by decide) ?_
        refine lv_goto (tgt := 17) hx hb dX7_isRule_13 (by decide) ?_
        exact W.zret (v := 1) (ty := .boolean) hx hb hr rfl (fun t ht hW => ⟨⟨1, (), rfl, .inl ⟨rfl, .inr (.inl ⟨rfl, by omega⟩)⟩, trivial⟩, hS.F ht⟩) hS.2.2 dX7_isRule_17
      · refine lv_iconst (v := 1) hx hb dX7_isRule_12 (by decide) ?_
        refine lv_goto (tgt := 17) hx hb dX7_isRule_13 (by decide) ?_
        exact W.zret (v := 1) (ty := .boolean) hx hb hr rfl (fun t ht hW => ⟨⟨1, (), rfl, .inl ⟨rfl, .inr (.inr (.inl ⟨rfl, by omega⟩))⟩, trivial⟩, hS.F ht⟩) hS.2.2 dX7_isRule_17
      · refine lv_iconst (v := 1) hx hb dX7_isRule_12 (by decide) ?_
        refine lv_goto (tgt := 17) hx hb dX7_isRule_13 (by decide) ?_
        exact W.zret (v := 1) (ty := .boolean) hx hb hr rfl (fun t ht hW => ⟨⟨1, (), rfl, .inl ⟨rfl, .inr (.inr (.inr ⟨rfl, by omega⟩))⟩, trivial⟩, hS.F ht⟩) hS.2.2 dX7_isRule_17


set_option maxHeartbeats 4000000 in
set_option maxRecDepth 100000 in
theorem y_mean (l : Launch) (D : va_G) (k : Nat → ClassId) (st : Nat → Nat) (lo : Nat) (a : Nat → Nat) (rk : Nat) (lfa : Int32) (n0 : Nat) (see0 : Nat) (tm0 : Nat) (g0 : Nat → Int32) (ff0 : Nat → Int32) (fp0 : Nat → Int32) (fl0 : Nat → Int32) (n1 : Nat) (see1 : Nat) (tm1 : Nat) (g1 : Nat → Int32) (ff1 : Nat → Int32) (fp1 : Nat → Int32) (fl1 : Nat → Int32) (n2 : Nat) (see2 : Nat) (tm2 : Nat) (g2 : Nat → Int32) (ff2 : Nat → Int32) (fp2 : Nat → Int32) (fl2 : Nat → Int32) (rf0 : Int32) (rc0 : Nat) (rr0 : Nat) (rs0 : Nat → Int32) (rb0 : Nat → Int32) (rf1 : Int32) (rc1 : Nat) (rr1 : Nat) (rs1 : Nat → Int32) (rb1 : Nat → Int32) (rf2 : Int32) (rc2 : Nat) (rr2 : Nat) (rs2 : Nat → Int32) (rb2 : Nat → Int32) (rf3 : Int32) (rc3 : Nat) (rr3 : Nat) (rs3 : Nat → Int32) (rb3 : Nat → Int32) (wt : Int32) (wc : Int32) (ya : Nat → Int32) (yb : Nat → Int32) (p0 : Int32) (p1 : Int32) (p2 : Int32) (hn0 : n0 ≤ 24) (hse0 : see0 ≤ 2) (htm0 : tm0 ≤ 3) (hn1 : n1 ≤ 24) (hse1 : see1 ≤ 2) (htm1 : tm1 ≤ 3) (hn2 : n2 ≤ 24) (hse2 : see2 ≤ 2) (htm2 : tm2 ≤ 3) (hrk : rk ≤ 4) (hrc0 : rc0 ≤ 24) (hrr0 : rr0 ≤ 3) (hrc1 : rc1 ≤ 24) (hrr1 : rr1 ≤ 3) (hrc2 : rc2 ≤ 24) (hrr2 : rr2 ≤ 3) (hrc3 : rc3 ≤ 24) (hrr3 : rr3 ≤ 3) (hlt : ltP (d3 fl0 fl1 fl2) (d3 (sdX n0 see0 tm0 g0 ff0 fp0) (sdX n1 see1 tm1 g1 ff1 fp1) (sdX n2 see2 tm2 g2 ff2 fp2))) (hok : ∀ i, i < 3 → okD ((d3 (sdX n0 see0 tm0 g0 ff0 fp0) (sdX n1 see1 tm1 g1 ff1 fp1) (sdX n2 see2 tm2 g2 ff2 fp2)) i)) : CWi l D k st lo yX7_mean cX7_mean 4 (some .int) ({ frames := 5, cells := 0, slots := 0, locals := 141 }) 0 0 [.ref (a 0), .int p0, .int p1, .int p2] [((a 0), .inr (7, (fX7 (a 1) (a 3) (a 19) (a 35) (a 40) (nI rk) lfa (a 53) (a 56) (a 63) (a 64) (a 68)))), ((a 3), .inl (k 3, 3, .inr (.inr (.inr (.inr (a3 (a 4) (a 9) (a 14))))))), ((a 40), .inl (k 5, 4, .inr (.inr (.inr (.inr (a4 (a 41) (a 44) (a 47) (a 50))))))), ((a 4), .inr (5, (fX5 (a 5) (a 6) (a 7) (a 8)))), (aI k (a 5) 10 (vv n0 see0 tm0 g0)), (aI k (a 6) 24 ff0), (aI k (a 7) 24 fp0), (aI k (a 8) 4 fl0), ((a 9), .inr (5, (fX5 (a 10) (a 11) (a 12) (a 13)))), (aI k (a 10) 10 (vv n1 see1 tm1 g1)), (aI k (a 11) 24 ff1), (aI k (a 12) 24 fp1), (aI k (a 13) 4 fl1), ((a 14), .inr (5, (fX5 (a 15) (a 16) (a 17) (a 18)))), (aI k (a 15) 10 (vv n2 see2 tm2 g2)), (aI k (a 16) 24 ff2), (aI k (a 17) 24 fp2), (aI k (a 18) 4 fl2), ((a 41), .inr (3, (fX3 (a 42) (a 43) rf0 (nI rc0) (nI rr0)))), (aI k (a 42) 24 rs0), (aI k (a 43) 24 rb0), ((a 44), .inr (3, (fX3 (a 45) (a 46) rf1 (nI rc1) (nI rr1)))), (aI k (a 45) 24 rs1), (aI k (a 46) 24 rb1), ((a 47), .inr (3, (fX3 (a 48) (a 49) rf2 (nI rc2) (nI rr2)))), (aI k (a 48) 24 rs2), (aI k (a 49) 24 rb2), ((a 50), .inr (3, (fX3 (a 51) (a 52) rf3 (nI rc3) (nI rr3)))), (aI k (a 51) 24 rs3), (aI k (a 52) 24 rb3), ((a 64), .inr (2, (fX2 (a 65) (a 66) (a 67) wt wc))), (aI k (a 65) 25 ya), (aI k (a 66) 25 yb)] (fun (r : Int32) (u : (Nat → Int32) × (Nat → Int32)) => match u with | (ya_, yb_) => mnP (d3 (sdX n0 see0 tm0 g0 ff0 fp0) (sdX n1 see1 tm1 g1 ff1 fp1) (sdX n2 see2 tm2 g2 ff2 fp2)) rk (d4 (ruX rf0 rc0 rr0 rs0 rb0) (ruX rf1 rc1 rr1 rs1 rb1) (ruX rf2 rc2 rr2 rs2 rb2) (ruX rf3 rc3 rr3 rs3 rb3)) p0 p1 p2 r) (fun (u : (Nat → Int32) × (Nat → Int32)) => match u with | (ya_, yb_) => [((a 0), .inr (7, (fX7 (a 1) (a 3) (a 19) (a 35) (a 40) (nI rk) lfa (a 53) (a 56) (a 63) (a 64) (a 68)))), ((a 3), .inl (k 3, 3, .inr (.inr (.inr (.inr (a3 (a 4) (a 9) (a 14))))))), ((a 40), .inl (k 5, 4, .inr (.inr (.inr (.inr (a4 (a 41) (a 44) (a 47) (a 50))))))), ((a 4), .inr (5, (fX5 (a 5) (a 6) (a 7) (a 8)))), (aI k (a 5) 10 (vv n0 see0 tm0 g0)), (aI k (a 6) 24 ff0), (aI k (a 7) 24 fp0), (aI k (a 8) 4 fl0), ((a 9), .inr (5, (fX5 (a 10) (a 11) (a 12) (a 13)))), (aI k (a 10) 10 (vv n1 see1 tm1 g1)), (aI k (a 11) 24 ff1), (aI k (a 12) 24 fp1), (aI k (a 13) 4 fl1), ((a 14), .inr (5, (fX5 (a 15) (a 16) (a 17) (a 18)))), (aI k (a 15) 10 (vv n2 see2 tm2 g2)), (aI k (a 16) 24 ff2), (aI k (a 17) 24 fp2), (aI k (a 18) 4 fl2), ((a 41), .inr (3, (fX3 (a 42) (a 43) rf0 (nI rc0) (nI rr0)))), (aI k (a 42) 24 rs0), (aI k (a 43) 24 rb0), ((a 44), .inr (3, (fX3 (a 45) (a 46) rf1 (nI rc1) (nI rr1)))), (aI k (a 45) 24 rs1), (aI k (a 46) 24 rb1), ((a 47), .inr (3, (fX3 (a 48) (a 49) rf2 (nI rc2) (nI rr2)))), (aI k (a 48) 24 rs2), (aI k (a 49) 24 rb2), ((a 50), .inr (3, (fX3 (a 51) (a 52) rf3 (nI rc3) (nI rr3)))), (aI k (a 51) 24 rs3), (aI k (a 52) 24 rb3), ((a 64), .inr (2, (fX2 (a 65) (a 66) (a 67) wt wc))), (aI k (a 65) 25 ya_), (aI k (a 66) 25 yb_)]) := by
  intro sz
  refine Met.ofW (cc := cX7_mean) (maxL := 4) (ret := (some .int)) (by decide) rfl ?_
  intro p e s m args below meth c s₁ B hml hv
  obtain ⟨rfl, hsz, hlo, hP, hK, hDL, hZ⟩ := hv
  have hx := B.exec
  have hb := B.bytes
  have hr := B.returns
  have hts := WS_ts B.pre
  have hown : s.vm.findClass RX7 = some m.cls := findClass_of_methodNamed B.named
  have hlocks := B.notSynchronized
  subst hsz
  have hD := hDL.self (sz := s.heap.size)
  have hAlo := A_lo hDL hlo
  generalize hAe : va_A [((a 0), .inr (7, (fX7 (a 1) (a 3) (a 19) (a 35) (a 40) (nI rk) lfa (a 53) (a 56) (a 63) (a 64) (a 68)))), ((a 3), .inl (k 3, 3, .inr (.inr (.inr (.inr (a3 (a 4) (a 9) (a 14))))))), ((a 40), .inl (k 5, 4, .inr (.inr (.inr (.inr (a4 (a 41) (a 44) (a 47) (a 50))))))), ((a 4), .inr (5, (fX5 (a 5) (a 6) (a 7) (a 8)))), (aI k (a 5) 10 (vv n0 see0 tm0 g0)), (aI k (a 6) 24 ff0), (aI k (a 7) 24 fp0), (aI k (a 8) 4 fl0), ((a 9), .inr (5, (fX5 (a 10) (a 11) (a 12) (a 13)))), (aI k (a 10) 10 (vv n1 see1 tm1 g1)), (aI k (a 11) 24 ff1), (aI k (a 12) 24 fp1), (aI k (a 13) 4 fl1), ((a 14), .inr (5, (fX5 (a 15) (a 16) (a 17) (a 18)))), (aI k (a 15) 10 (vv n2 see2 tm2 g2)), (aI k (a 16) 24 ff2), (aI k (a 17) 24 fp2), (aI k (a 18) 4 fl2), ((a 41), .inr (3, (fX3 (a 42) (a 43) rf0 (nI rc0) (nI rr0)))), (aI k (a 42) 24 rs0), (aI k (a 43) 24 rb0), ((a 44), .inr (3, (fX3 (a 45) (a 46) rf1 (nI rc1) (nI rr1)))), (aI k (a 45) 24 rs1), (aI k (a 46) 24 rb1), ((a 47), .inr (3, (fX3 (a 48) (a 49) rf2 (nI rc2) (nI rr2)))), (aI k (a 48) 24 rs2), (aI k (a 49) 24 rb2), ((a 50), .inr (3, (fX3 (a 51) (a 52) rf3 (nI rc3) (nI rr3)))), (aI k (a 51) 24 rs3), (aI k (a 52) 24 rb3), ((a 64), .inr (2, (fX2 (a 65) (a 66) (a 67) wt wc))), (aI k (a 65) 25 ya), (aI k (a 66) 25 yb)] s.heap.size = A at hD hAlo ⊢
  have hA : ∀ q : Nat, s.heap.size ≤ q → A q := fun q h => by rw [← hAe]; exact Or.inr h
  have hS : va_S A s.heap s.heap [] := va_S.rf
  have hl := lv_entry ([.ref (a 0), .int p0, .int p1, .int p2]) (n := 4) (Nat.le_of_ble_eq_true rfl)
  rw [lg_entry_eq]
  generalize (lg_sl ([.ref (a 0), .int p0, .int p1, .int p2]) ++ List.replicate (4 - (lg_sl ([.ref (a 0), .int p0, .int p1, .int p2])).length) Slot.unset).toArray = ls at hl ⊢
  have hl : lv_has ls 4 [(0, .ref (a 0)), (1, .int p0), (2, .int p1), (3, .int p2)] := hl
  refine lv_aload_n hx hb dX7_mean_0 rfl (lv_at hl 0 rfl) ?_
  refine lv_iload_n hx hb dX7_mean_1 rfl (lv_at hl 1 rfl) ?_
  refine ro_i (D := D) (va_runV (As := [.int p0]) (rest := []) ⟨hx, hb, hml, hown, hts⟩ ((y_isStreet l D k st lo a rk lfa n0 see0 tm0 g0 n1 see1 tm1 g1 n2 see2 tm2 g2 p0 (by first | assumption | omega) (by first | assumption | omega) (by first | assumption | omega)) s.heap.size) (cwV 1 hts (gV tw_589 tw_591 tw_8 tw_79 tw_592) rfl rfl rfl (by decide +kernel) ⟨Nat.le_of_ble_eq_true rfl, Nat.le_of_ble_eq_true rfl⟩) (pV hS hAlo hlo hP hK (va_Dlo hD hAlo) hZ [0, 1, 3, 4, 8, 9, 13, 14] (by decide) rfl (ci := 7) (q := (RX7, TX7, 12)) (q0 := 0) rfl rfl) rfl rfl hl.1 rfl (lv_room (Nat.le_of_ble_eq_true rfl)) dX7_mean_2 ⟨Nat.le_of_ble_eq_true rfl, Nat.le_of_ble_eq_true rfl⟩) hS hA hP (fun r_1 H locs hw_1 hP hS => ?_)
  try dsimp only at hw_1
  rcases hw_1 with ⟨rfl, ⟨rfl, hw_1⟩ | ⟨rfl, hw_1⟩ | ⟨rfl, hw_1⟩⟩ | ⟨rfl, hw_1⟩
  · refine lv_if_eq (tgt := 16) hx hb dX7_mean_5 (by decide) (fun h => absurd h (by decide)) (fun _ => ?_)
    refine lv_aload_n hx hb dX7_mean_8 rfl (lv_at hl 0 rfl) ?_
    refine lv_iload_n hx hb dX7_mean_9 rfl (lv_at hl 2 rfl) ?_
    refine ro_i (D := D) (va_runV (As := [.int p1]) (rest := []) ⟨hx, hb, hml, hown, hts⟩ ((y_isRule l D k st lo a rk lfa p1 (by first | assumption | omega)) H.size) (cwV 1 hts (gV tw_697 tw_699 tw_15 tw_79 tw_700) rfl rfl rfl (by decide +kernel) ⟨Nat.le_of_ble_eq_true rfl, Nat.le_of_ble_eq_true rfl⟩) (pV hS hAlo hlo hP hK (va_Dlo hD hAlo) hZ [0] (by decide) rfl (ci := 7) (q := (RX7, TX7, 12)) (q0 := 0) rfl rfl) rfl rfl hl.1 rfl (lv_room (Nat.le_of_ble_eq_true rfl)) dX7_mean_10 ⟨Nat.le_of_ble_eq_true rfl, Nat.le_of_ble_eq_true rfl⟩) hS hA hP (fun r_2 H locs hw_2 hP hS => ?_)
    try dsimp only at hw_2
    rcases hw_2 with ⟨rfl, ⟨rfl, hw_2⟩ | ⟨rfl, hw_2⟩ | ⟨rfl, hw_2⟩ | ⟨rfl, hw_2⟩⟩ | ⟨rfl, hw_2⟩
    · refine lv_if_ne (tgt := 20) hx hb dX7_mean_13 (by decide) (fun _ => ?_) (fun h => absurd h (by decide))
      refine lv_iload_n hx hb dX7_mean_20 rfl (lv_at hl 3 rfl) ?_
      refine lv_iconst (v := 0) hx hb dX7_mean_21 (by decide) ?_
      refine lv_iconst (v := 2) hx hb dX7_mean_22 (by decide) ?_
      refine ro_i (D := D) (va_runS (As := [.int p2, .int 0, .int 2]) (rest := []) ⟨hx, hb, hml, hown, hts⟩ ((k_isIn l D k st lo p2 0 2) H.size) (va_cwS 3 hts (gS tw_593 tw_594 tw_79 tw_595) rfl rfl rfl (by decide +kernel) ⟨Nat.le_of_ble_eq_true rfl, Nat.le_of_ble_eq_true rfl⟩) (pS hS hAlo hlo hP hK (va_Dlo hD hAlo) hZ [] (by decide) rfl) rfl rfl hl.1 rfl (lv_room (Nat.le_of_ble_eq_true rfl)) dX7_mean_23 ⟨Nat.le_of_ble_eq_true rfl, Nat.le_of_ble_eq_true rfl⟩) hS hA hP (fun r_3 H locs hw_3 hP hS => ?_)
      try dsimp only at hw_3
      rcases hw_3 with ⟨rfl, hw_3⟩ | ⟨rfl, hw_3⟩
      · refine lv_if_eq (tgt := 52) hx hb dX7_mean_26 (by decide) (fun h => absurd h (by decide)) (fun _ => ?_)
        obtain ⟨wh_4, hwl_4, hwh_4, rfl⟩ := inB_ofc (a := 0) (b := 2) (by omega) (by omega) hw_3
        refine lv_aload_n hx hb dX7_mean_29 rfl (lv_at hl 0 rfl) ?_
        refine va_get (D := D) (ci := 7) (v := .ref (a 64)) (C := RX7) (T := TX7) (N := 12) hx hb hts inX7 hown hK hP 0 rfl rfl 10 (by decide) (hts _ tw_315) (fun _ h9 => h9) rfl dX7_mean_30 ?_
        refine lv_aload_n hx hb dX7_mean_33 rfl (lv_at hl 0 rfl) ?_
        refine va_get (D := D) (ci := 7) (v := .ref (a 3)) (C := RX7) (T := TX7) (N := 12) hx hb hts inX7 hown hK hP 0 rfl rfl 1 (by decide) (hts _ tw_306) (fun _ h9 => h9) rfl dX7_mean_34 ?_
        refine lv_iload_n hx hb dX7_mean_37 rfl (lv_at hl 1 rfl) ?_
        refine va_aldq hx hb hK hP 1 3 rfl rfl (by unfold vp_in; decide) dX7_mean_38 ?_
        refine lv_tr (y := .ref (a 4)) rfl ?_
        refine lv_aload_n hx hb dX7_mean_39 rfl (lv_at hl 0 rfl) ?_
        refine va_get (D := D) (ci := 7) (v := .ref (a 40)) (C := RX7) (T := TX7) (N := 12) hx hb hts inX7 hown hK hP 0 rfl rfl 4 (by decide) (hts _ tw_309) (fun _ h9 => h9) rfl dX7_mean_40 ?_
        refine lv_iload_n hx hb dX7_mean_43 rfl (lv_at hl 2 rfl) ?_
        refine va_aldq hx hb hK hP 2 5 rfl rfl (by unfold vp_in; decide) dX7_mean_44 ?_
        refine lv_tr (y := .ref (a 41)) rfl ?_
        refine lv_iload_n hx hb dX7_mean_45 rfl (lv_at hl 3 rfl) ?_
        refine rw_i (D := D) (wr := [((a 0), .inr (7, (fX7 (a 1) (a 3) (a 19) (a 35) (a 40) (nI rk) lfa (a 53) (a 56) (a 63) (a 64) (a 68)))), ((a 3), .inl (k 3, 3, .inr (.inr (.inr (.inr (a3 (a 4) (a 9) (a 14))))))), ((a 40), .inl (k 5, 4, .inr (.inr (.inr (.inr (a4 (a 41) (a 44) (a 47) (a 50))))))), ((a 9), .inr (5, (fX5 (a 10) (a 11) (a 12) (a 13)))), (aI k (a 10) 10 (vv n1 see1 tm1 g1)), (aI k (a 11) 24 ff1), (aI k (a 12) 24 fp1), (aI k (a 13) 4 fl1), ((a 14), .inr (5, (fX5 (a 15) (a 16) (a 17) (a 18)))), (aI k (a 15) 10 (vv n2 see2 tm2 g2)), (aI k (a 16) 24 ff2), (aI k (a 17) 24 fp2), (aI k (a 18) 4 fl2), ((a 44), .inr (3, (fX3 (a 45) (a 46) rf1 (nI rc1) (nI rr1)))), (aI k (a 45) 24 rs1), (aI k (a 46) 24 rb1), ((a 47), .inr (3, (fX3 (a 48) (a 49) rf2 (nI rc2) (nI rr2)))), (aI k (a 48) 24 rs2), (aI k (a 49) 24 rb2), ((a 50), .inr (3, (fX3 (a 51) (a 52) rf3 (nI rc3) (nI rr3)))), (aI k (a 51) 24 rs3), (aI k (a 52) 24 rb3)]) (va_runV (As := [.ref (a 4), .ref (a 41), .int (nI wh_4)]) (rest := []) ⟨hx, hb, hml, hown, hts⟩ ((y_meanOf l D k st lo (a 64) (a 65) (a 66) (a 67) wt wc ya yb (a 4) (a 5) (a 6) (a 7) (a 8) n0 see0 tm0 g0 ff0 fp0 fl0 (a 41) (a 42) (a 43) rf0 rc0 rr0 rs0 rb0 wh_4 (by first | assumption | omega) (by first | assumption | omega) (by first | assumption | omega) (by first | assumption | omega) (by first | assumption | omega) (hlt 0 (by omega)) (hok 0 (by omega))) H.size) (cwV 3 hts (gV tw_701 tw_702 tw_703 tw_83 tw_704) rfl rfl rfl (by decide +kernel) ⟨Nat.le_of_ble_eq_true rfl, Nat.le_of_ble_eq_true rfl⟩) (pV hS hAlo hlo hP hK (va_Dlo hD hAlo) hZ [30, 31, 32, 3, 4, 5, 6, 7, 18, 19, 20] (by decide +kernel) rfl (ci := 2) (q := (RX2, TX2, 5)) (q0 := 0) rfl rfl) rfl rfl hl.1 rfl (lv_room (Nat.le_of_ble_eq_true rfl)) dX7_mean_46 ⟨Nat.le_of_ble_eq_true rfl, Nat.le_of_ble_eq_true rfl⟩) hS hA hP hD [30, 31, 32, 3, 4, 5, 6, 7, 18, 19, 20] [0, 1, 2, 8, 9, 10, 11, 12, 13, 14, 15, 16, 17, 21, 22, 23, 24, 25, 26, 27, 28, 29] rfl rfl (by decide +kernel) (by decide +kernel) (fun r_5 u H locs hw_5 hP hD hS => ?_)
        obtain ⟨ya__5, yb__5⟩ := u
        have hQ9 := pd_mk [((a 0), .inr (7, (fX7 (a 1) (a 3) (a 19) (a 35) (a 40) (nI rk) lfa (a 53) (a 56) (a 63) (a 64) (a 68)))), ((a 3), .inl (k 3, 3, .inr (.inr (.inr (.inr (a3 (a 4) (a 9) (a 14))))))), ((a 40), .inl (k 5, 4, .inr (.inr (.inr (.inr (a4 (a 41) (a 44) (a 47) (a 50))))))), ((a 9), .inr (5, (fX5 (a 10) (a 11) (a 12) (a 13)))), (aI k (a 10) 10 (vv n1 see1 tm1 g1)), (aI k (a 11) 24 ff1), (aI k (a 12) 24 fp1), (aI k (a 13) 4 fl1), ((a 14), .inr (5, (fX5 (a 15) (a 16) (a 17) (a 18)))), (aI k (a 15) 10 (vv n2 see2 tm2 g2)), (aI k (a 16) 24 ff2), (aI k (a 17) 24 fp2), (aI k (a 18) 4 fl2), ((a 44), .inr (3, (fX3 (a 45) (a 46) rf1 (nI rc1) (nI rr1)))), (aI k (a 45) 24 rs1), (aI k (a 46) 24 rb1), ((a 47), .inr (3, (fX3 (a 48) (a 49) rf2 (nI rc2) (nI rr2)))), (aI k (a 48) 24 rs2), (aI k (a 49) 24 rb2), ((a 50), .inr (3, (fX3 (a 51) (a 52) rf3 (nI rc3) (nI rr3)))), (aI k (a 51) 24 rs3), (aI k (a 52) 24 rb3), ((a 64), .inr (2, (fX2 (a 65) (a 66) (a 67) wt wc))), (aI k (a 65) 25 ya__5), (aI k (a 66) 25 yb__5), ((a 4), .inr (5, (fX5 (a 5) (a 6) (a 7) (a 8)))), (aI k (a 5) 10 (vv n0 see0 tm0 g0)), (aI k (a 6) 24 ff0), (aI k (a 7) 24 fp0), (aI k (a 8) 4 fl0), ((a 41), .inr (3, (fX3 (a 42) (a 43) rf0 (nI rc0) (nI rr0)))), (aI k (a 42) 24 rs0), (aI k (a 43) 24 rb0)] hP hD
        clear hP hD
        obtain ⟨hP, hD⟩ := hQ9
        try dsimp only at hw_5
        refine lv_goto (tgt := 55) hx hb dX7_mean_49 (by decide) ?_
        obtain ⟨hP9, hD9⟩ := pd_sub [((a 0), .inr (7, (fX7 (a 1) (a 3) (a 19) (a 35) (a 40) (nI rk) lfa (a 53) (a 56) (a 63) (a 64) (a 68)))), ((a 3), .inl (k 3, 3, .inr (.inr (.inr (.inr (a3 (a 4) (a 9) (a 14))))))), ((a 40), .inl (k 5, 4, .inr (.inr (.inr (.inr (a4 (a 41) (a 44) (a 47) (a 50))))))), ((a 4), .inr (5, (fX5 (a 5) (a 6) (a 7) (a 8)))), (aI k (a 5) 10 (vv n0 see0 tm0 g0)), (aI k (a 6) 24 ff0), (aI k (a 7) 24 fp0), (aI k (a 8) 4 fl0), ((a 9), .inr (5, (fX5 (a 10) (a 11) (a 12) (a 13)))), (aI k (a 10) 10 (vv n1 see1 tm1 g1)), (aI k (a 11) 24 ff1), (aI k (a 12) 24 fp1), (aI k (a 13) 4 fl1), ((a 14), .inr (5, (fX5 (a 15) (a 16) (a 17) (a 18)))), (aI k (a 15) 10 (vv n2 see2 tm2 g2)), (aI k (a 16) 24 ff2), (aI k (a 17) 24 fp2), (aI k (a 18) 4 fl2), ((a 41), .inr (3, (fX3 (a 42) (a 43) rf0 (nI rc0) (nI rr0)))), (aI k (a 42) 24 rs0), (aI k (a 43) 24 rb0), ((a 44), .inr (3, (fX3 (a 45) (a 46) rf1 (nI rc1) (nI rr1)))), (aI k (a 45) 24 rs1), (aI k (a 46) 24 rb1), ((a 47), .inr (3, (fX3 (a 48) (a 49) rf2 (nI rc2) (nI rr2)))), (aI k (a 48) 24 rs2), (aI k (a 49) 24 rb2), ((a 50), .inr (3, (fX3 (a 51) (a 52) rf3 (nI rc3) (nI rr3)))), (aI k (a 51) 24 rs3), (aI k (a 52) 24 rb3), ((a 64), .inr (2, (fX2 (a 65) (a 66) (a 67) wt wc))), (aI k (a 65) 25 ya__5), (aI k (a 66) 25 yb__5)] [0, 1, 2, 25, 26, 27, 28, 29, 3, 4, 5, 6, 7, 8, 9, 10, 11, 12, 30, 31, 32, 13, 14, 15, 16, 17, 18, 19, 20, 21, 22, 23, 24] hP hD (by decide +kernel) rfl
        exact W.iret (v := r_5) hx hb hr (fun t ht hW => ⟨⟨r_5, (ya__5, yb__5), rfl, mn_at (s := 0) (t := 0) (by omega) (by omega) (by omega) (show 0 < n0 by omega) (show meA (nI wh_4) (sdX n0 see0 tm0 g0 ff0 fp0) (ruX rf0 rc0 rr0 rs0 rb0) _ from me_i (by omega) (by rw [(show muD (sdX n0 see0 tm0 g0 ff0 fp0) (ruX rf0 rc0 rr0 rs0 rb0) = min rr0 tm0 by unfold muD; rw [tmX (by omega)]; exact congrArg (fun z => min z tm0) (nI_clamp (by omega)))]; exact hw_5)), by rw [ht]; exact hP9, hD9⟩, hS.F ht⟩) hS.2.2 dX7_mean_55
      · refine lv_if_eq (tgt := 52) hx hb dX7_mean_26 (by decide) (fun _ => ?_) (fun h => absurd (by decide) h)
        refine lv_sipush (v := (-1002)) hx hb dX7_mean_52 (by decide) ?_
        obtain ⟨hP9, hD9⟩ := pd_sub [((a 0), .inr (7, (fX7 (a 1) (a 3) (a 19) (a 35) (a 40) (nI rk) lfa (a 53) (a 56) (a 63) (a 64) (a 68)))), ((a 3), .inl (k 3, 3, .inr (.inr (.inr (.inr (a3 (a 4) (a 9) (a 14))))))), ((a 40), .inl (k 5, 4, .inr (.inr (.inr (.inr (a4 (a 41) (a 44) (a 47) (a 50))))))), ((a 4), .inr (5, (fX5 (a 5) (a 6) (a 7) (a 8)))), (aI k (a 5) 10 (vv n0 see0 tm0 g0)), (aI k (a 6) 24 ff0), (aI k (a 7) 24 fp0), (aI k (a 8) 4 fl0), ((a 9), .inr (5, (fX5 (a 10) (a 11) (a 12) (a 13)))), (aI k (a 10) 10 (vv n1 see1 tm1 g1)), (aI k (a 11) 24 ff1), (aI k (a 12) 24 fp1), (aI k (a 13) 4 fl1), ((a 14), .inr (5, (fX5 (a 15) (a 16) (a 17) (a 18)))), (aI k (a 15) 10 (vv n2 see2 tm2 g2)), (aI k (a 16) 24 ff2), (aI k (a 17) 24 fp2), (aI k (a 18) 4 fl2), ((a 41), .inr (3, (fX3 (a 42) (a 43) rf0 (nI rc0) (nI rr0)))), (aI k (a 42) 24 rs0), (aI k (a 43) 24 rb0), ((a 44), .inr (3, (fX3 (a 45) (a 46) rf1 (nI rc1) (nI rr1)))), (aI k (a 45) 24 rs1), (aI k (a 46) 24 rb1), ((a 47), .inr (3, (fX3 (a 48) (a 49) rf2 (nI rc2) (nI rr2)))), (aI k (a 48) 24 rs2), (aI k (a 49) 24 rb2), ((a 50), .inr (3, (fX3 (a 51) (a 52) rf3 (nI rc3) (nI rr3)))), (aI k (a 51) 24 rs3), (aI k (a 52) 24 rb3), ((a 64), .inr (2, (fX2 (a 65) (a 66) (a 67) wt wc))), (aI k (a 65) 25 ya), (aI k (a 66) 25 yb)] [0, 1, 2, 3, 4, 5, 6, 7, 8, 9, 10, 11, 12, 13, 14, 15, 16, 17, 18, 19, 20, 21, 22, 23, 24, 25, 26, 27, 28, 29, 30, 31, 32] hP hD (by decide +kernel) rfl
        exact W.iret (v := (-1002)) hx hb hr (fun t ht hW => ⟨⟨(-1002), (ya, yb), rfl, mn_at (s := 0) (t := 0) (by omega) (by omega) (by omega) (show 0 < n0 by omega) (show meA p2 (sdX n0 see0 tm0 g0 ff0 fp0) (ruX rf0 rc0 rr0 rs0 rb0) _ from me_o hw_3), by rw [ht]; exact hP9, hD9⟩, hS.F ht⟩) hS.2.2 dX7_mean_55
    · refine lv_if_ne (tgt := 20) hx hb dX7_mean_13 (by decide) (fun _ => ?_) (fun h => absurd h (by decide))
      refine lv_iload_n hx hb dX7_mean_20 rfl (lv_at hl 3 rfl) ?_
      refine lv_iconst (v := 0) hx hb dX7_mean_21 (by decide) ?_
      refine lv_iconst (v := 2) hx hb dX7_mean_22 (by decide) ?_
      refine ro_i (D := D) (va_runS (As := [.int p2, .int 0, .int 2]) (rest := []) ⟨hx, hb, hml, hown, hts⟩ ((k_isIn l D k st lo p2 0 2) H.size) (va_cwS 3 hts (gS tw_593 tw_594 tw_79 tw_595) rfl rfl rfl (by decide +kernel) ⟨Nat.le_of_ble_eq_true rfl, Nat.le_of_ble_eq_true rfl⟩) (pS hS hAlo hlo hP hK (va_Dlo hD hAlo) hZ [] (by decide) rfl) rfl rfl hl.1 rfl (lv_room (Nat.le_of_ble_eq_true rfl)) dX7_mean_23 ⟨Nat.le_of_ble_eq_true rfl, Nat.le_of_ble_eq_true rfl⟩) hS hA hP (fun r_6 H locs hw_6 hP hS => ?_)
      try dsimp only at hw_6
      rcases hw_6 with ⟨rfl, hw_6⟩ | ⟨rfl, hw_6⟩
      · refine lv_if_eq (tgt := 52) hx hb dX7_mean_26 (by decide) (fun h => absurd h (by decide)) (fun _ => ?_)
        obtain ⟨wh_7, hwl_7, hwh_7, rfl⟩ := inB_ofc (a := 0) (b := 2) (by omega) (by omega) hw_6
        refine lv_aload_n hx hb dX7_mean_29 rfl (lv_at hl 0 rfl) ?_
        refine va_get (D := D) (ci := 7) (v := .ref (a 64)) (C := RX7) (T := TX7) (N := 12) hx hb hts inX7 hown hK hP 0 rfl rfl 10 (by decide) (hts _ tw_315) (fun _ h9 => h9) rfl dX7_mean_30 ?_
        refine lv_aload_n hx hb dX7_mean_33 rfl (lv_at hl 0 rfl) ?_
        refine va_get (D := D) (ci := 7) (v := .ref (a 3)) (C := RX7) (T := TX7) (N := 12) hx hb hts inX7 hown hK hP 0 rfl rfl 1 (by decide) (hts _ tw_306) (fun _ h9 => h9) rfl dX7_mean_34 ?_
        refine lv_iload_n hx hb dX7_mean_37 rfl (lv_at hl 1 rfl) ?_
        refine va_aldq hx hb hK hP 1 3 rfl rfl (by unfold vp_in; decide) dX7_mean_38 ?_
        refine lv_tr (y := .ref (a 4)) rfl ?_
        refine lv_aload_n hx hb dX7_mean_39 rfl (lv_at hl 0 rfl) ?_
        refine va_get (D := D) (ci := 7) (v := .ref (a 40)) (C := RX7) (T := TX7) (N := 12) hx hb hts inX7 hown hK hP 0 rfl rfl 4 (by decide) (hts _ tw_309) (fun _ h9 => h9) rfl dX7_mean_40 ?_
        refine lv_iload_n hx hb dX7_mean_43 rfl (lv_at hl 2 rfl) ?_
        refine va_aldq hx hb hK hP 2 5 rfl rfl (by unfold vp_in; decide) dX7_mean_44 ?_
        refine lv_tr (y := .ref (a 44)) rfl ?_
        refine lv_iload_n hx hb dX7_mean_45 rfl (lv_at hl 3 rfl) ?_
        refine rw_i (D := D) (wr := [((a 0), .inr (7, (fX7 (a 1) (a 3) (a 19) (a 35) (a 40) (nI rk) lfa (a 53) (a 56) (a 63) (a 64) (a 68)))), ((a 3), .inl (k 3, 3, .inr (.inr (.inr (.inr (a3 (a 4) (a 9) (a 14))))))), ((a 40), .inl (k 5, 4, .inr (.inr (.inr (.inr (a4 (a 41) (a 44) (a 47) (a 50))))))), ((a 9), .inr (5, (fX5 (a 10) (a 11) (a 12) (a 13)))), (aI k (a 10) 10 (vv n1 see1 tm1 g1)), (aI k (a 11) 24 ff1), (aI k (a 12) 24 fp1), (aI k (a 13) 4 fl1), ((a 14), .inr (5, (fX5 (a 15) (a 16) (a 17) (a 18)))), (aI k (a 15) 10 (vv n2 see2 tm2 g2)), (aI k (a 16) 24 ff2), (aI k (a 17) 24 fp2), (aI k (a 18) 4 fl2), ((a 41), .inr (3, (fX3 (a 42) (a 43) rf0 (nI rc0) (nI rr0)))), (aI k (a 42) 24 rs0), (aI k (a 43) 24 rb0), ((a 47), .inr (3, (fX3 (a 48) (a 49) rf2 (nI rc2) (nI rr2)))), (aI k (a 48) 24 rs2), (aI k (a 49) 24 rb2), ((a 50), .inr (3, (fX3 (a 51) (a 52) rf3 (nI rc3) (nI rr3)))), (aI k (a 51) 24 rs3), (aI k (a 52) 24 rb3)]) (va_runV (As := [.ref (a 4), .ref (a 44), .int (nI wh_7)]) (rest := []) ⟨hx, hb, hml, hown, hts⟩ ((y_meanOf l D k st lo (a 64) (a 65) (a 66) (a 67) wt wc ya yb (a 4) (a 5) (a 6) (a 7) (a 8) n0 see0 tm0 g0 ff0 fp0 fl0 (a 44) (a 45) (a 46) rf1 rc1 rr1 rs1 rb1 wh_7 (by first | assumption | omega) (by first | assumption | omega) (by first | assumption | omega) (by first | assumption | omega) (by first | assumption | omega) (hlt 0 (by omega)) (hok 0 (by omega))) H.size) (cwV 3 hts (gV tw_701 tw_702 tw_703 tw_83 tw_704) rfl rfl rfl (by decide +kernel) ⟨Nat.le_of_ble_eq_true rfl, Nat.le_of_ble_eq_true rfl⟩) (pV hS hAlo hlo hP hK (va_Dlo hD hAlo) hZ [30, 31, 32, 3, 4, 5, 6, 7, 21, 22, 23] (by decide +kernel) rfl (ci := 2) (q := (RX2, TX2, 5)) (q0 := 0) rfl rfl) rfl rfl hl.1 rfl (lv_room (Nat.le_of_ble_eq_true rfl)) dX7_mean_46 ⟨Nat.le_of_ble_eq_true rfl, Nat.le_of_ble_eq_true rfl⟩) hS hA hP hD [30, 31, 32, 3, 4, 5, 6, 7, 21, 22, 23] [0, 1, 2, 8, 9, 10, 11, 12, 13, 14, 15, 16, 17, 18, 19, 20, 24, 25, 26, 27, 28, 29] rfl rfl (by decide +kernel) (by decide +kernel) (fun r_8 u H locs hw_8 hP hD hS => ?_)
        obtain ⟨ya__8, yb__8⟩ := u
        have hQ9 := pd_mk [((a 0), .inr (7, (fX7 (a 1) (a 3) (a 19) (a 35) (a 40) (nI rk) lfa (a 53) (a 56) (a 63) (a 64) (a 68)))), ((a 3), .inl (k 3, 3, .inr (.inr (.inr (.inr (a3 (a 4) (a 9) (a 14))))))), ((a 40), .inl (k 5, 4, .inr (.inr (.inr (.inr (a4 (a 41) (a 44) (a 47) (a 50))))))), ((a 9), .inr (5, (fX5 (a 10) (a 11) (a 12) (a 13)))), (aI k (a 10) 10 (vv n1 see1 tm1 g1)), (aI k (a 11) 24 ff1), (aI k (a 12) 24 fp1), (aI k (a 13) 4 fl1), ((a 14), .inr (5, (fX5 (a 15) (a 16) (a 17) (a 18)))), (aI k (a 15) 10 (vv n2 see2 tm2 g2)), (aI k (a 16) 24 ff2), (aI k (a 17) 24 fp2), (aI k (a 18) 4 fl2), ((a 41), .inr (3, (fX3 (a 42) (a 43) rf0 (nI rc0) (nI rr0)))), (aI k (a 42) 24 rs0), (aI k (a 43) 24 rb0), ((a 47), .inr (3, (fX3 (a 48) (a 49) rf2 (nI rc2) (nI rr2)))), (aI k (a 48) 24 rs2), (aI k (a 49) 24 rb2), ((a 50), .inr (3, (fX3 (a 51) (a 52) rf3 (nI rc3) (nI rr3)))), (aI k (a 51) 24 rs3), (aI k (a 52) 24 rb3), ((a 64), .inr (2, (fX2 (a 65) (a 66) (a 67) wt wc))), (aI k (a 65) 25 ya__8), (aI k (a 66) 25 yb__8), ((a 4), .inr (5, (fX5 (a 5) (a 6) (a 7) (a 8)))), (aI k (a 5) 10 (vv n0 see0 tm0 g0)), (aI k (a 6) 24 ff0), (aI k (a 7) 24 fp0), (aI k (a 8) 4 fl0), ((a 44), .inr (3, (fX3 (a 45) (a 46) rf1 (nI rc1) (nI rr1)))), (aI k (a 45) 24 rs1), (aI k (a 46) 24 rb1)] hP hD
        clear hP hD
        obtain ⟨hP, hD⟩ := hQ9
        try dsimp only at hw_8
        refine lv_goto (tgt := 55) hx hb dX7_mean_49 (by decide) ?_
        obtain ⟨hP9, hD9⟩ := pd_sub [((a 0), .inr (7, (fX7 (a 1) (a 3) (a 19) (a 35) (a 40) (nI rk) lfa (a 53) (a 56) (a 63) (a 64) (a 68)))), ((a 3), .inl (k 3, 3, .inr (.inr (.inr (.inr (a3 (a 4) (a 9) (a 14))))))), ((a 40), .inl (k 5, 4, .inr (.inr (.inr (.inr (a4 (a 41) (a 44) (a 47) (a 50))))))), ((a 4), .inr (5, (fX5 (a 5) (a 6) (a 7) (a 8)))), (aI k (a 5) 10 (vv n0 see0 tm0 g0)), (aI k (a 6) 24 ff0), (aI k (a 7) 24 fp0), (aI k (a 8) 4 fl0), ((a 9), .inr (5, (fX5 (a 10) (a 11) (a 12) (a 13)))), (aI k (a 10) 10 (vv n1 see1 tm1 g1)), (aI k (a 11) 24 ff1), (aI k (a 12) 24 fp1), (aI k (a 13) 4 fl1), ((a 14), .inr (5, (fX5 (a 15) (a 16) (a 17) (a 18)))), (aI k (a 15) 10 (vv n2 see2 tm2 g2)), (aI k (a 16) 24 ff2), (aI k (a 17) 24 fp2), (aI k (a 18) 4 fl2), ((a 41), .inr (3, (fX3 (a 42) (a 43) rf0 (nI rc0) (nI rr0)))), (aI k (a 42) 24 rs0), (aI k (a 43) 24 rb0), ((a 44), .inr (3, (fX3 (a 45) (a 46) rf1 (nI rc1) (nI rr1)))), (aI k (a 45) 24 rs1), (aI k (a 46) 24 rb1), ((a 47), .inr (3, (fX3 (a 48) (a 49) rf2 (nI rc2) (nI rr2)))), (aI k (a 48) 24 rs2), (aI k (a 49) 24 rb2), ((a 50), .inr (3, (fX3 (a 51) (a 52) rf3 (nI rc3) (nI rr3)))), (aI k (a 51) 24 rs3), (aI k (a 52) 24 rb3), ((a 64), .inr (2, (fX2 (a 65) (a 66) (a 67) wt wc))), (aI k (a 65) 25 ya__8), (aI k (a 66) 25 yb__8)] [0, 1, 2, 25, 26, 27, 28, 29, 3, 4, 5, 6, 7, 8, 9, 10, 11, 12, 13, 14, 15, 30, 31, 32, 16, 17, 18, 19, 20, 21, 22, 23, 24] hP hD (by decide +kernel) rfl
        exact W.iret (v := r_8) hx hb hr (fun t ht hW => ⟨⟨r_8, (ya__8, yb__8), rfl, mn_at (s := 0) (t := 1) (by omega) (by omega) (by omega) (show 0 < n0 by omega) (show meA (nI wh_7) (sdX n0 see0 tm0 g0 ff0 fp0) (ruX rf1 rc1 rr1 rs1 rb1) _ from me_i (by omega) (by rw [(show muD (sdX n0 see0 tm0 g0 ff0 fp0) (ruX rf1 rc1 rr1 rs1 rb1) = min rr1 tm0 by unfold muD; rw [tmX (by omega)]; exact congrArg (fun z => min z tm0) (nI_clamp (by omega)))]; exact hw_8)), by rw [ht]; exact hP9, hD9⟩, hS.F ht⟩) hS.2.2 dX7_mean_55
      · refine lv_if_eq (tgt := 52) hx hb dX7_mean_26 (by decide) (fun _ => ?_) (fun h => absurd (by decide) h)
        refine lv_sipush (v := (-1002)) hx hb dX7_mean_52 (by decide) ?_
        obtain ⟨hP9, hD9⟩ := pd_sub [((a 0), .inr (7, (fX7 (a 1) (a 3) (a 19) (a 35) (a 40) (nI rk) lfa (a 53) (a 56) (a 63) (a 64) (a 68)))), ((a 3), .inl (k 3, 3, .inr (.inr (.inr (.inr (a3 (a 4) (a 9) (a 14))))))), ((a 40), .inl (k 5, 4, .inr (.inr (.inr (.inr (a4 (a 41) (a 44) (a 47) (a 50))))))), ((a 4), .inr (5, (fX5 (a 5) (a 6) (a 7) (a 8)))), (aI k (a 5) 10 (vv n0 see0 tm0 g0)), (aI k (a 6) 24 ff0), (aI k (a 7) 24 fp0), (aI k (a 8) 4 fl0), ((a 9), .inr (5, (fX5 (a 10) (a 11) (a 12) (a 13)))), (aI k (a 10) 10 (vv n1 see1 tm1 g1)), (aI k (a 11) 24 ff1), (aI k (a 12) 24 fp1), (aI k (a 13) 4 fl1), ((a 14), .inr (5, (fX5 (a 15) (a 16) (a 17) (a 18)))), (aI k (a 15) 10 (vv n2 see2 tm2 g2)), (aI k (a 16) 24 ff2), (aI k (a 17) 24 fp2), (aI k (a 18) 4 fl2), ((a 41), .inr (3, (fX3 (a 42) (a 43) rf0 (nI rc0) (nI rr0)))), (aI k (a 42) 24 rs0), (aI k (a 43) 24 rb0), ((a 44), .inr (3, (fX3 (a 45) (a 46) rf1 (nI rc1) (nI rr1)))), (aI k (a 45) 24 rs1), (aI k (a 46) 24 rb1), ((a 47), .inr (3, (fX3 (a 48) (a 49) rf2 (nI rc2) (nI rr2)))), (aI k (a 48) 24 rs2), (aI k (a 49) 24 rb2), ((a 50), .inr (3, (fX3 (a 51) (a 52) rf3 (nI rc3) (nI rr3)))), (aI k (a 51) 24 rs3), (aI k (a 52) 24 rb3), ((a 64), .inr (2, (fX2 (a 65) (a 66) (a 67) wt wc))), (aI k (a 65) 25 ya), (aI k (a 66) 25 yb)] [0, 1, 2, 3, 4, 5, 6, 7, 8, 9, 10, 11, 12, 13, 14, 15, 16, 17, 18, 19, 20, 21, 22, 23, 24, 25, 26, 27, 28, 29, 30, 31, 32] hP hD (by decide +kernel) rfl
        exact W.iret (v := (-1002)) hx hb hr (fun t ht hW => ⟨⟨(-1002), (ya, yb), rfl, mn_at (s := 0) (t := 1) (by omega) (by omega) (by omega) (show 0 < n0 by omega) (show meA p2 (sdX n0 see0 tm0 g0 ff0 fp0) (ruX rf1 rc1 rr1 rs1 rb1) _ from me_o hw_6), by rw [ht]; exact hP9, hD9⟩, hS.F ht⟩) hS.2.2 dX7_mean_55
    · refine lv_if_ne (tgt := 20) hx hb dX7_mean_13 (by decide) (fun _ => ?_) (fun h => absurd h (by decide))
      refine lv_iload_n hx hb dX7_mean_20 rfl (lv_at hl 3 rfl) ?_
      refine lv_iconst (v := 0) hx hb dX7_mean_21 (by decide) ?_
      refine lv_iconst (v := 2) hx hb dX7_mean_22 (by decide) ?_
      refine ro_i (D := D) (va_runS (As := [.int p2, .int 0, .int 2]) (rest := []) ⟨hx, hb, hml, hown, hts⟩ ((k_isIn l D k st lo p2 0 2) H.size) (va_cwS 3 hts (gS tw_593 tw_594 tw_79 tw_595) rfl rfl rfl (by decide +kernel) ⟨Nat.le_of_ble_eq_true rfl, Nat.le_of_ble_eq_true rfl⟩) (pS hS hAlo hlo hP hK (va_Dlo hD hAlo) hZ [] (by decide) rfl) rfl rfl hl.1 rfl (lv_room (Nat.le_of_ble_eq_true rfl)) dX7_mean_23 ⟨Nat.le_of_ble_eq_true rfl, Nat.le_of_ble_eq_true rfl⟩) hS hA hP (fun r_9 H locs hw_9 hP hS => ?_)
      try dsimp only at hw_9
      rcases hw_9 with ⟨rfl, hw_9⟩ | ⟨rfl, hw_9⟩
      · refine lv_if_eq (tgt := 52) hx hb dX7_mean_26 (by decide) (fun h => absurd h (by decide)) (fun _ => ?_)
        obtain ⟨wh_10, hwl_10, hwh_10, rfl⟩ := inB_ofc (a := 0) (b := 2) (by omega) (by omega) hw_9
        refine lv_aload_n hx hb dX7_mean_29 rfl (lv_at hl 0 rfl) ?_
        refine va_get (D := D) (ci := 7) (v := .ref (a 64)) (C := RX7) (T := TX7) (N := 12) hx hb hts inX7 hown hK hP 0 rfl rfl 10 (by decide) (hts _ tw_315) (fun _ h9 => h9) rfl dX7_mean_30 ?_
        refine lv_aload_n hx hb dX7_mean_33 rfl (lv_at hl 0 rfl) ?_
        refine va_get (D := D) (ci := 7) (v := .ref (a 3)) (C := RX7) (T := TX7) (N := 12) hx hb hts inX7 hown hK hP 0 rfl rfl 1 (by decide) (hts _ tw_306) (fun _ h9 => h9) rfl dX7_mean_34 ?_
        refine lv_iload_n hx hb dX7_mean_37 rfl (lv_at hl 1 rfl) ?_
        refine va_aldq hx hb hK hP 1 3 rfl rfl (by unfold vp_in; decide) dX7_mean_38 ?_
        refine lv_tr (y := .ref (a 4)) rfl ?_
        refine lv_aload_n hx hb dX7_mean_39 rfl (lv_at hl 0 rfl) ?_
        refine va_get (D := D) (ci := 7) (v := .ref (a 40)) (C := RX7) (T := TX7) (N := 12) hx hb hts inX7 hown hK hP 0 rfl rfl 4 (by decide) (hts _ tw_309) (fun _ h9 => h9) rfl dX7_mean_40 ?_
        refine lv_iload_n hx hb dX7_mean_43 rfl (lv_at hl 2 rfl) ?_
        refine va_aldq hx hb hK hP 2 5 rfl rfl (by unfold vp_in; decide) dX7_mean_44 ?_
        refine lv_tr (y := .ref (a 47)) rfl ?_
        refine lv_iload_n hx hb dX7_mean_45 rfl (lv_at hl 3 rfl) ?_
        refine rw_i (D := D) (wr := [((a 0), .inr (7, (fX7 (a 1) (a 3) (a 19) (a 35) (a 40) (nI rk) lfa (a 53) (a 56) (a 63) (a 64) (a 68)))), ((a 3), .inl (k 3, 3, .inr (.inr (.inr (.inr (a3 (a 4) (a 9) (a 14))))))), ((a 40), .inl (k 5, 4, .inr (.inr (.inr (.inr (a4 (a 41) (a 44) (a 47) (a 50))))))), ((a 9), .inr (5, (fX5 (a 10) (a 11) (a 12) (a 13)))), (aI k (a 10) 10 (vv n1 see1 tm1 g1)), (aI k (a 11) 24 ff1), (aI k (a 12) 24 fp1), (aI k (a 13) 4 fl1), ((a 14), .inr (5, (fX5 (a 15) (a 16) (a 17) (a 18)))), (aI k (a 15) 10 (vv n2 see2 tm2 g2)), (aI k (a 16) 24 ff2), (aI k (a 17) 24 fp2), (aI k (a 18) 4 fl2), ((a 41), .inr (3, (fX3 (a 42) (a 43) rf0 (nI rc0) (nI rr0)))), (aI k (a 42) 24 rs0), (aI k (a 43) 24 rb0), ((a 44), .inr (3, (fX3 (a 45) (a 46) rf1 (nI rc1) (nI rr1)))), (aI k (a 45) 24 rs1), (aI k (a 46) 24 rb1), ((a 50), .inr (3, (fX3 (a 51) (a 52) rf3 (nI rc3) (nI rr3)))), (aI k (a 51) 24 rs3), (aI k (a 52) 24 rb3)]) (va_runV (As := [.ref (a 4), .ref (a 47), .int (nI wh_10)]) (rest := []) ⟨hx, hb, hml, hown, hts⟩ ((y_meanOf l D k st lo (a 64) (a 65) (a 66) (a 67) wt wc ya yb (a 4) (a 5) (a 6) (a 7) (a 8) n0 see0 tm0 g0 ff0 fp0 fl0 (a 47) (a 48) (a 49) rf2 rc2 rr2 rs2 rb2 wh_10 (by first | assumption | omega) (by first | assumption | omega) (by first | assumption | omega) (by first | assumption | omega) (by first | assumption | omega) (hlt 0 (by omega)) (hok 0 (by omega))) H.size) (cwV 3 hts (gV tw_701 tw_702 tw_703 tw_83 tw_704) rfl rfl rfl (by decide +kernel) ⟨Nat.le_of_ble_eq_true rfl, Nat.le_of_ble_eq_true rfl⟩) (pV hS hAlo hlo hP hK (va_Dlo hD hAlo) hZ [30, 31, 32, 3, 4, 5, 6, 7, 24, 25, 26] (by decide +kernel) rfl (ci := 2) (q := (RX2, TX2, 5)) (q0 := 0) rfl rfl) rfl rfl hl.1 rfl (lv_room (Nat.le_of_ble_eq_true rfl)) dX7_mean_46 ⟨Nat.le_of_ble_eq_true rfl, Nat.le_of_ble_eq_true rfl⟩) hS hA hP hD [30, 31, 32, 3, 4, 5, 6, 7, 24, 25, 26] [0, 1, 2, 8, 9, 10, 11, 12, 13, 14, 15, 16, 17, 18, 19, 20, 21, 22, 23, 27, 28, 29] rfl rfl (by decide +kernel) (by decide +kernel) (fun r_11 u H locs hw_11 hP hD hS => ?_)
        obtain ⟨ya__11, yb__11⟩ := u
        have hQ9 := pd_mk [((a 0), .inr (7, (fX7 (a 1) (a 3) (a 19) (a 35) (a 40) (nI rk) lfa (a 53) (a 56) (a 63) (a 64) (a 68)))), ((a 3), .inl (k 3, 3, .inr (.inr (.inr (.inr (a3 (a 4) (a 9) (a 14))))))), ((a 40), .inl (k 5, 4, .inr (.inr (.inr (.inr (a4 (a 41) (a 44) (a 47) (a 50))))))), ((a 9), .inr (5, (fX5 (a 10) (a 11) (a 12) (a 13)))), (aI k (a 10) 10 (vv n1 see1 tm1 g1)), (aI k (a 11) 24 ff1), (aI k (a 12) 24 fp1), (aI k (a 13) 4 fl1), ((a 14), .inr (5, (fX5 (a 15) (a 16) (a 17) (a 18)))), (aI k (a 15) 10 (vv n2 see2 tm2 g2)), (aI k (a 16) 24 ff2), (aI k (a 17) 24 fp2), (aI k (a 18) 4 fl2), ((a 41), .inr (3, (fX3 (a 42) (a 43) rf0 (nI rc0) (nI rr0)))), (aI k (a 42) 24 rs0), (aI k (a 43) 24 rb0), ((a 44), .inr (3, (fX3 (a 45) (a 46) rf1 (nI rc1) (nI rr1)))), (aI k (a 45) 24 rs1), (aI k (a 46) 24 rb1), ((a 50), .inr (3, (fX3 (a 51) (a 52) rf3 (nI rc3) (nI rr3)))), (aI k (a 51) 24 rs3), (aI k (a 52) 24 rb3), ((a 64), .inr (2, (fX2 (a 65) (a 66) (a 67) wt wc))), (aI k (a 65) 25 ya__11), (aI k (a 66) 25 yb__11), ((a 4), .inr (5, (fX5 (a 5) (a 6) (a 7) (a 8)))), (aI k (a 5) 10 (vv n0 see0 tm0 g0)), (aI k (a 6) 24 ff0), (aI k (a 7) 24 fp0), (aI k (a 8) 4 fl0), ((a 47), .inr (3, (fX3 (a 48) (a 49) rf2 (nI rc2) (nI rr2)))), (aI k (a 48) 24 rs2), (aI k (a 49) 24 rb2)] hP hD
        clear hP hD
        obtain ⟨hP, hD⟩ := hQ9
        try dsimp only at hw_11
        refine lv_goto (tgt := 55) hx hb dX7_mean_49 (by decide) ?_
        obtain ⟨hP9, hD9⟩ := pd_sub [((a 0), .inr (7, (fX7 (a 1) (a 3) (a 19) (a 35) (a 40) (nI rk) lfa (a 53) (a 56) (a 63) (a 64) (a 68)))), ((a 3), .inl (k 3, 3, .inr (.inr (.inr (.inr (a3 (a 4) (a 9) (a 14))))))), ((a 40), .inl (k 5, 4, .inr (.inr (.inr (.inr (a4 (a 41) (a 44) (a 47) (a 50))))))), ((a 4), .inr (5, (fX5 (a 5) (a 6) (a 7) (a 8)))), (aI k (a 5) 10 (vv n0 see0 tm0 g0)), (aI k (a 6) 24 ff0), (aI k (a 7) 24 fp0), (aI k (a 8) 4 fl0), ((a 9), .inr (5, (fX5 (a 10) (a 11) (a 12) (a 13)))), (aI k (a 10) 10 (vv n1 see1 tm1 g1)), (aI k (a 11) 24 ff1), (aI k (a 12) 24 fp1), (aI k (a 13) 4 fl1), ((a 14), .inr (5, (fX5 (a 15) (a 16) (a 17) (a 18)))), (aI k (a 15) 10 (vv n2 see2 tm2 g2)), (aI k (a 16) 24 ff2), (aI k (a 17) 24 fp2), (aI k (a 18) 4 fl2), ((a 41), .inr (3, (fX3 (a 42) (a 43) rf0 (nI rc0) (nI rr0)))), (aI k (a 42) 24 rs0), (aI k (a 43) 24 rb0), ((a 44), .inr (3, (fX3 (a 45) (a 46) rf1 (nI rc1) (nI rr1)))), (aI k (a 45) 24 rs1), (aI k (a 46) 24 rb1), ((a 47), .inr (3, (fX3 (a 48) (a 49) rf2 (nI rc2) (nI rr2)))), (aI k (a 48) 24 rs2), (aI k (a 49) 24 rb2), ((a 50), .inr (3, (fX3 (a 51) (a 52) rf3 (nI rc3) (nI rr3)))), (aI k (a 51) 24 rs3), (aI k (a 52) 24 rb3), ((a 64), .inr (2, (fX2 (a 65) (a 66) (a 67) wt wc))), (aI k (a 65) 25 ya__11), (aI k (a 66) 25 yb__11)] [0, 1, 2, 25, 26, 27, 28, 29, 3, 4, 5, 6, 7, 8, 9, 10, 11, 12, 13, 14, 15, 16, 17, 18, 30, 31, 32, 19, 20, 21, 22, 23, 24] hP hD (by decide +kernel) rfl
        exact W.iret (v := r_11) hx hb hr (fun t ht hW => ⟨⟨r_11, (ya__11, yb__11), rfl, mn_at (s := 0) (t := 2) (by omega) (by omega) (by omega) (show 0 < n0 by omega) (show meA (nI wh_10) (sdX n0 see0 tm0 g0 ff0 fp0) (ruX rf2 rc2 rr2 rs2 rb2) _ from me_i (by omega) (by rw [(show muD (sdX n0 see0 tm0 g0 ff0 fp0) (ruX rf2 rc2 rr2 rs2 rb2) = min rr2 tm0 by unfold muD; rw [tmX (by omega)]; exact congrArg (fun z => min z tm0) (nI_clamp (by omega)))]; exact hw_11)), by rw [ht]; exact hP9, hD9⟩, hS.F ht⟩) hS.2.2 dX7_mean_55
      · refine lv_if_eq (tgt := 52) hx hb dX7_mean_26 (by decide) (fun _ => ?_) (fun h => absurd (by decide) h)
        refine lv_sipush (v := (-1002)) hx hb dX7_mean_52 (by decide) ?_
        obtain ⟨hP9, hD9⟩ := pd_sub [((a 0), .inr (7, (fX7 (a 1) (a 3) (a 19) (a 35) (a 40) (nI rk) lfa (a 53) (a 56) (a 63) (a 64) (a 68)))), ((a 3), .inl (k 3, 3, .inr (.inr (.inr (.inr (a3 (a 4) (a 9) (a 14))))))), ((a 40), .inl (k 5, 4, .inr (.inr (.inr (.inr (a4 (a 41) (a 44) (a 47) (a 50))))))), ((a 4), .inr (5, (fX5 (a 5) (a 6) (a 7) (a 8)))), (aI k (a 5) 10 (vv n0 see0 tm0 g0)), (aI k (a 6) 24 ff0), (aI k (a 7) 24 fp0), (aI k (a 8) 4 fl0), ((a 9), .inr (5, (fX5 (a 10) (a 11) (a 12) (a 13)))), (aI k (a 10) 10 (vv n1 see1 tm1 g1)), (aI k (a 11) 24 ff1), (aI k (a 12) 24 fp1), (aI k (a 13) 4 fl1), ((a 14), .inr (5, (fX5 (a 15) (a 16) (a 17) (a 18)))), (aI k (a 15) 10 (vv n2 see2 tm2 g2)), (aI k (a 16) 24 ff2), (aI k (a 17) 24 fp2), (aI k (a 18) 4 fl2), ((a 41), .inr (3, (fX3 (a 42) (a 43) rf0 (nI rc0) (nI rr0)))), (aI k (a 42) 24 rs0), (aI k (a 43) 24 rb0), ((a 44), .inr (3, (fX3 (a 45) (a 46) rf1 (nI rc1) (nI rr1)))), (aI k (a 45) 24 rs1), (aI k (a 46) 24 rb1), ((a 47), .inr (3, (fX3 (a 48) (a 49) rf2 (nI rc2) (nI rr2)))), (aI k (a 48) 24 rs2), (aI k (a 49) 24 rb2), ((a 50), .inr (3, (fX3 (a 51) (a 52) rf3 (nI rc3) (nI rr3)))), (aI k (a 51) 24 rs3), (aI k (a 52) 24 rb3), ((a 64), .inr (2, (fX2 (a 65) (a 66) (a 67) wt wc))), (aI k (a 65) 25 ya), (aI k (a 66) 25 yb)] [0, 1, 2, 3, 4, 5, 6, 7, 8, 9, 10, 11, 12, 13, 14, 15, 16, 17, 18, 19, 20, 21, 22, 23, 24, 25, 26, 27, 28, 29, 30, 31, 32] hP hD (by decide +kernel) rfl
        exact W.iret (v := (-1002)) hx hb hr (fun t ht hW => ⟨⟨(-1002), (ya, yb), rfl, mn_at (s := 0) (t := 2) (by omega) (by omega) (by omega) (show 0 < n0 by omega) (show meA p2 (sdX n0 see0 tm0 g0 ff0 fp0) (ruX rf2 rc2 rr2 rs2 rb2) _ from me_o hw_9), by rw [ht]; exact hP9, hD9⟩, hS.F ht⟩) hS.2.2 dX7_mean_55
    · refine lv_if_ne (tgt := 20) hx hb dX7_mean_13 (by decide) (fun _ => ?_) (fun h => absurd h (by decide))
      refine lv_iload_n hx hb dX7_mean_20 rfl (lv_at hl 3 rfl) ?_
      refine lv_iconst (v := 0) hx hb dX7_mean_21 (by decide) ?_
      refine lv_iconst (v := 2) hx hb dX7_mean_22 (by decide) ?_
      refine ro_i (D := D) (va_runS (As := [.int p2, .int 0, .int 2]) (rest := []) ⟨hx, hb, hml, hown, hts⟩ ((k_isIn l D k st lo p2 0 2) H.size) (va_cwS 3 hts (gS tw_593 tw_594 tw_79 tw_595) rfl rfl rfl (by decide +kernel) ⟨Nat.le_of_ble_eq_true rfl, Nat.le_of_ble_eq_true rfl⟩) (pS hS hAlo hlo hP hK (va_Dlo hD hAlo) hZ [] (by decide) rfl) rfl rfl hl.1 rfl (lv_room (Nat.le_of_ble_eq_true rfl)) dX7_mean_23 ⟨Nat.le_of_ble_eq_true rfl, Nat.le_of_ble_eq_true rfl⟩) hS hA hP (fun r_12 H locs hw_12 hP hS => ?_)
      try dsimp only at hw_12
      rcases hw_12 with ⟨rfl, hw_12⟩ | ⟨rfl, hw_12⟩
      · refine lv_if_eq (tgt := 52) hx hb dX7_mean_26 (by decide) (fun h => absurd h (by decide)) (fun _ => ?_)
        obtain ⟨wh_13, hwl_13, hwh_13, rfl⟩ := inB_ofc (a := 0) (b := 2) (by omega) (by omega) hw_12
        refine lv_aload_n hx hb dX7_mean_29 rfl (lv_at hl 0 rfl) ?_
        refine va_get (D := D) (ci := 7) (v := .ref (a 64)) (C := RX7) (T := TX7) (N := 12) hx hb hts inX7 hown hK hP 0 rfl rfl 10 (by decide) (hts _ tw_315) (fun _ h9 => h9) rfl dX7_mean_30 ?_
        refine lv_aload_n hx hb dX7_mean_33 rfl (lv_at hl 0 rfl) ?_
        refine va_get (D := D) (ci := 7) (v := .ref (a 3)) (C := RX7) (T := TX7) (N := 12) hx hb hts inX7 hown hK hP 0 rfl rfl 1 (by decide) (hts _ tw_306) (fun _ h9 => h9) rfl dX7_mean_34 ?_
        refine lv_iload_n hx hb dX7_mean_37 rfl (lv_at hl 1 rfl) ?_
        refine va_aldq hx hb hK hP 1 3 rfl rfl (by unfold vp_in; decide) dX7_mean_38 ?_
        refine lv_tr (y := .ref (a 4)) rfl ?_
        refine lv_aload_n hx hb dX7_mean_39 rfl (lv_at hl 0 rfl) ?_
        refine va_get (D := D) (ci := 7) (v := .ref (a 40)) (C := RX7) (T := TX7) (N := 12) hx hb hts inX7 hown hK hP 0 rfl rfl 4 (by decide) (hts _ tw_309) (fun _ h9 => h9) rfl dX7_mean_40 ?_
        refine lv_iload_n hx hb dX7_mean_43 rfl (lv_at hl 2 rfl) ?_
        refine va_aldq hx hb hK hP 2 5 rfl rfl (by unfold vp_in; decide) dX7_mean_44 ?_
        refine lv_tr (y := .ref (a 50)) rfl ?_
        refine lv_iload_n hx hb dX7_mean_45 rfl (lv_at hl 3 rfl) ?_
        refine rw_i (D := D) (wr := [((a 0), .inr (7, (fX7 (a 1) (a 3) (a 19) (a 35) (a 40) (nI rk) lfa (a 53) (a 56) (a 63) (a 64) (a 68)))), ((a 3), .inl (k 3, 3, .inr (.inr (.inr (.inr (a3 (a 4) (a 9) (a 14))))))), ((a 40), .inl (k 5, 4, .inr (.inr (.inr (.inr (a4 (a 41) (a 44) (a 47) (a 50))))))), ((a 9), .inr (5, (fX5 (a 10) (a 11) (a 12) (a 13)))), (aI k (a 10) 10 (vv n1 see1 tm1 g1)), (aI k (a 11) 24 ff1), (aI k (a 12) 24 fp1), (aI k (a 13) 4 fl1), ((a 14), .inr (5, (fX5 (a 15) (a 16) (a 17) (a 18)))), (aI k (a 15) 10 (vv n2 see2 tm2 g2)), (aI k (a 16) 24 ff2), (aI k (a 17) 24 fp2), (aI k (a 18) 4 fl2), ((a 41), .inr (3, (fX3 (a 42) (a 43) rf0 (nI rc0) (nI rr0)))), (aI k (a 42) 24 rs0), (aI k (a 43) 24 rb0), ((a 44), .inr (3, (fX3 (a 45) (a 46) rf1 (nI rc1) (nI rr1)))), (aI k (a 45) 24 rs1), (aI k (a 46) 24 rb1), ((a 47), .inr (3, (fX3 (a 48) (a 49) rf2 (nI rc2) (nI rr2)))), (aI k (a 48) 24 rs2), (aI k (a 49) 24 rb2)]) (va_runV (As := [.ref (a 4), .ref (a 50), .int (nI wh_13)]) (rest := []) ⟨hx, hb, hml, hown, hts⟩ ((y_meanOf l D k st lo (a 64) (a 65) (a 66) (a 67) wt wc ya yb (a 4) (a 5) (a 6) (a 7) (a 8) n0 see0 tm0 g0 ff0 fp0 fl0 (a 50) (a 51) (a 52) rf3 rc3 rr3 rs3 rb3 wh_13 (by first | assumption | omega) (by first | assumption | omega) (by first | assumption | omega) (by first | assumption | omega) (by first | assumption | omega) (hlt 0 (by omega)) (hok 0 (by omega))) H.size) (cwV 3 hts (gV tw_701 tw_702 tw_703 tw_83 tw_704) rfl rfl rfl (by decide +kernel) ⟨Nat.le_of_ble_eq_true rfl, Nat.le_of_ble_eq_true rfl⟩) (pV hS hAlo hlo hP hK (va_Dlo hD hAlo) hZ [30, 31, 32, 3, 4, 5, 6, 7, 27, 28, 29] (by decide +kernel) rfl (ci := 2) (q := (RX2, TX2, 5)) (q0 := 0) rfl rfl) rfl rfl hl.1 rfl (lv_room (Nat.le_of_ble_eq_true rfl)) dX7_mean_46 ⟨Nat.le_of_ble_eq_true rfl, Nat.le_of_ble_eq_true rfl⟩) hS hA hP hD [30, 31, 32, 3, 4, 5, 6, 7, 27, 28, 29] [0, 1, 2, 8, 9, 10, 11, 12, 13, 14, 15, 16, 17, 18, 19, 20, 21, 22, 23, 24, 25, 26] rfl rfl (by decide +kernel) (by decide +kernel) (fun r_14 u H locs hw_14 hP hD hS => ?_)
        obtain ⟨ya__14, yb__14⟩ := u
        have hQ9 := pd_mk [((a 0), .inr (7, (fX7 (a 1) (a 3) (a 19) (a 35) (a 40) (nI rk) lfa (a 53) (a 56) (a 63) (a 64) (a 68)))), ((a 3), .inl (k 3, 3, .inr (.inr (.inr (.inr (a3 (a 4) (a 9) (a 14))))))), ((a 40), .inl (k 5, 4, .inr (.inr (.inr (.inr (a4 (a 41) (a 44) (a 47) (a 50))))))), ((a 9), .inr (5, (fX5 (a 10) (a 11) (a 12) (a 13)))), (aI k (a 10) 10 (vv n1 see1 tm1 g1)), (aI k (a 11) 24 ff1), (aI k (a 12) 24 fp1), (aI k (a 13) 4 fl1), ((a 14), .inr (5, (fX5 (a 15) (a 16) (a 17) (a 18)))), (aI k (a 15) 10 (vv n2 see2 tm2 g2)), (aI k (a 16) 24 ff2), (aI k (a 17) 24 fp2), (aI k (a 18) 4 fl2), ((a 41), .inr (3, (fX3 (a 42) (a 43) rf0 (nI rc0) (nI rr0)))), (aI k (a 42) 24 rs0), (aI k (a 43) 24 rb0), ((a 44), .inr (3, (fX3 (a 45) (a 46) rf1 (nI rc1) (nI rr1)))), (aI k (a 45) 24 rs1), (aI k (a 46) 24 rb1), ((a 47), .inr (3, (fX3 (a 48) (a 49) rf2 (nI rc2) (nI rr2)))), (aI k (a 48) 24 rs2), (aI k (a 49) 24 rb2), ((a 64), .inr (2, (fX2 (a 65) (a 66) (a 67) wt wc))), (aI k (a 65) 25 ya__14), (aI k (a 66) 25 yb__14), ((a 4), .inr (5, (fX5 (a 5) (a 6) (a 7) (a 8)))), (aI k (a 5) 10 (vv n0 see0 tm0 g0)), (aI k (a 6) 24 ff0), (aI k (a 7) 24 fp0), (aI k (a 8) 4 fl0), ((a 50), .inr (3, (fX3 (a 51) (a 52) rf3 (nI rc3) (nI rr3)))), (aI k (a 51) 24 rs3), (aI k (a 52) 24 rb3)] hP hD
        clear hP hD
        obtain ⟨hP, hD⟩ := hQ9
        try dsimp only at hw_14
        refine lv_goto (tgt := 55) hx hb dX7_mean_49 (by decide) ?_
        obtain ⟨hP9, hD9⟩ := pd_sub [((a 0), .inr (7, (fX7 (a 1) (a 3) (a 19) (a 35) (a 40) (nI rk) lfa (a 53) (a 56) (a 63) (a 64) (a 68)))), ((a 3), .inl (k 3, 3, .inr (.inr (.inr (.inr (a3 (a 4) (a 9) (a 14))))))), ((a 40), .inl (k 5, 4, .inr (.inr (.inr (.inr (a4 (a 41) (a 44) (a 47) (a 50))))))), ((a 4), .inr (5, (fX5 (a 5) (a 6) (a 7) (a 8)))), (aI k (a 5) 10 (vv n0 see0 tm0 g0)), (aI k (a 6) 24 ff0), (aI k (a 7) 24 fp0), (aI k (a 8) 4 fl0), ((a 9), .inr (5, (fX5 (a 10) (a 11) (a 12) (a 13)))), (aI k (a 10) 10 (vv n1 see1 tm1 g1)), (aI k (a 11) 24 ff1), (aI k (a 12) 24 fp1), (aI k (a 13) 4 fl1), ((a 14), .inr (5, (fX5 (a 15) (a 16) (a 17) (a 18)))), (aI k (a 15) 10 (vv n2 see2 tm2 g2)), (aI k (a 16) 24 ff2), (aI k (a 17) 24 fp2), (aI k (a 18) 4 fl2), ((a 41), .inr (3, (fX3 (a 42) (a 43) rf0 (nI rc0) (nI rr0)))), (aI k (a 42) 24 rs0), (aI k (a 43) 24 rb0), ((a 44), .inr (3, (fX3 (a 45) (a 46) rf1 (nI rc1) (nI rr1)))), (aI k (a 45) 24 rs1), (aI k (a 46) 24 rb1), ((a 47), .inr (3, (fX3 (a 48) (a 49) rf2 (nI rc2) (nI rr2)))), (aI k (a 48) 24 rs2), (aI k (a 49) 24 rb2), ((a 50), .inr (3, (fX3 (a 51) (a 52) rf3 (nI rc3) (nI rr3)))), (aI k (a 51) 24 rs3), (aI k (a 52) 24 rb3), ((a 64), .inr (2, (fX2 (a 65) (a 66) (a 67) wt wc))), (aI k (a 65) 25 ya__14), (aI k (a 66) 25 yb__14)] [0, 1, 2, 25, 26, 27, 28, 29, 3, 4, 5, 6, 7, 8, 9, 10, 11, 12, 13, 14, 15, 16, 17, 18, 19, 20, 21, 30, 31, 32, 22, 23, 24] hP hD (by decide +kernel) rfl
        exact W.iret (v := r_14) hx hb hr (fun t ht hW => ⟨⟨r_14, (ya__14, yb__14), rfl, mn_at (s := 0) (t := 3) (by omega) (by omega) (by omega) (show 0 < n0 by omega) (show meA (nI wh_13) (sdX n0 see0 tm0 g0 ff0 fp0) (ruX rf3 rc3 rr3 rs3 rb3) _ from me_i (by omega) (by rw [(show muD (sdX n0 see0 tm0 g0 ff0 fp0) (ruX rf3 rc3 rr3 rs3 rb3) = min rr3 tm0 by unfold muD; rw [tmX (by omega)]; exact congrArg (fun z => min z tm0) (nI_clamp (by omega)))]; exact hw_14)), by rw [ht]; exact hP9, hD9⟩, hS.F ht⟩) hS.2.2 dX7_mean_55
      · refine lv_if_eq (tgt := 52) hx hb dX7_mean_26 (by decide) (fun _ => ?_) (fun h => absurd (by decide) h)
        refine lv_sipush (v := (-1002)) hx hb dX7_mean_52 (by decide) ?_
        obtain ⟨hP9, hD9⟩ := pd_sub [((a 0), .inr (7, (fX7 (a 1) (a 3) (a 19) (a 35) (a 40) (nI rk) lfa (a 53) (a 56) (a 63) (a 64) (a 68)))), ((a 3), .inl (k 3, 3, .inr (.inr (.inr (.inr (a3 (a 4) (a 9) (a 14))))))), ((a 40), .inl (k 5, 4, .inr (.inr (.inr (.inr (a4 (a 41) (a 44) (a 47) (a 50))))))), ((a 4), .inr (5, (fX5 (a 5) (a 6) (a 7) (a 8)))), (aI k (a 5) 10 (vv n0 see0 tm0 g0)), (aI k (a 6) 24 ff0), (aI k (a 7) 24 fp0), (aI k (a 8) 4 fl0), ((a 9), .inr (5, (fX5 (a 10) (a 11) (a 12) (a 13)))), (aI k (a 10) 10 (vv n1 see1 tm1 g1)), (aI k (a 11) 24 ff1), (aI k (a 12) 24 fp1), (aI k (a 13) 4 fl1), ((a 14), .inr (5, (fX5 (a 15) (a 16) (a 17) (a 18)))), (aI k (a 15) 10 (vv n2 see2 tm2 g2)), (aI k (a 16) 24 ff2), (aI k (a 17) 24 fp2), (aI k (a 18) 4 fl2), ((a 41), .inr (3, (fX3 (a 42) (a 43) rf0 (nI rc0) (nI rr0)))), (aI k (a 42) 24 rs0), (aI k (a 43) 24 rb0), ((a 44), .inr (3, (fX3 (a 45) (a 46) rf1 (nI rc1) (nI rr1)))), (aI k (a 45) 24 rs1), (aI k (a 46) 24 rb1), ((a 47), .inr (3, (fX3 (a 48) (a 49) rf2 (nI rc2) (nI rr2)))), (aI k (a 48) 24 rs2), (aI k (a 49) 24 rb2), ((a 50), .inr (3, (fX3 (a 51) (a 52) rf3 (nI rc3) (nI rr3)))), (aI k (a 51) 24 rs3), (aI k (a 52) 24 rb3), ((a 64), .inr (2, (fX2 (a 65) (a 66) (a 67) wt wc))), (aI k (a 65) 25 ya), (aI k (a 66) 25 yb)] [0, 1, 2, 3, 4, 5, 6, 7, 8, 9, 10, 11, 12, 13, 14, 15, 16, 17, 18, 19, 20, 21, 22, 23, 24, 25, 26, 27, 28, 29, 30, 31, 32] hP hD (by decide +kernel) rfl
        exact W.iret (v := (-1002)) hx hb hr (fun t ht hW => ⟨⟨(-1002), (ya, yb), rfl, mn_at (s := 0) (t := 3) (by omega) (by omega) (by omega) (show 0 < n0 by omega) (show meA p2 (sdX n0 see0 tm0 g0 ff0 fp0) (ruX rf3 rc3 rr3 rs3 rb3) _ from me_o hw_12), by rw [ht]; exact hP9, hD9⟩, hS.F ht⟩) hS.2.2 dX7_mean_55
    · refine lv_if_ne (tgt := 20) hx hb dX7_mean_13 (by decide) (fun h => absurd (by decide) h) (fun _ => ?_)
      refine lv_sipush (v := (-1001)) hx hb dX7_mean_16 (by decide) ?_
      obtain ⟨hP9, hD9⟩ := pd_sub [((a 0), .inr (7, (fX7 (a 1) (a 3) (a 19) (a 35) (a 40) (nI rk) lfa (a 53) (a 56) (a 63) (a 64) (a 68)))), ((a 3), .inl (k 3, 3, .inr (.inr (.inr (.inr (a3 (a 4) (a 9) (a 14))))))), ((a 40), .inl (k 5, 4, .inr (.inr (.inr (.inr (a4 (a 41) (a 44) (a 47) (a 50))))))), ((a 4), .inr (5, (fX5 (a 5) (a 6) (a 7) (a 8)))), (aI k (a 5) 10 (vv n0 see0 tm0 g0)), (aI k (a 6) 24 ff0), (aI k (a 7) 24 fp0), (aI k (a 8) 4 fl0), ((a 9), .inr (5, (fX5 (a 10) (a 11) (a 12) (a 13)))), (aI k (a 10) 10 (vv n1 see1 tm1 g1)), (aI k (a 11) 24 ff1), (aI k (a 12) 24 fp1), (aI k (a 13) 4 fl1), ((a 14), .inr (5, (fX5 (a 15) (a 16) (a 17) (a 18)))), (aI k (a 15) 10 (vv n2 see2 tm2 g2)), (aI k (a 16) 24 ff2), (aI k (a 17) 24 fp2), (aI k (a 18) 4 fl2), ((a 41), .inr (3, (fX3 (a 42) (a 43) rf0 (nI rc0) (nI rr0)))), (aI k (a 42) 24 rs0), (aI k (a 43) 24 rb0), ((a 44), .inr (3, (fX3 (a 45) (a 46) rf1 (nI rc1) (nI rr1)))), (aI k (a 45) 24 rs1), (aI k (a 46) 24 rb1), ((a 47), .inr (3, (fX3 (a 48) (a 49) rf2 (nI rc2) (nI rr2)))), (aI k (a 48) 24 rs2), (aI k (a 49) 24 rb2), ((a 50), .inr (3, (fX3 (a 51) (a 52) rf3 (nI rc3) (nI rr3)))), (aI k (a 51) 24 rs3), (aI k (a 52) 24 rb3), ((a 64), .inr (2, (fX2 (a 65) (a 66) (a 67) wt wc))), (aI k (a 65) 25 ya), (aI k (a 66) 25 yb)] [0, 1, 2, 3, 4, 5, 6, 7, 8, 9, 10, 11, 12, 13, 14, 15, 16, 17, 18, 19, 20, 21, 22, 23, 24, 25, 26, 27, 28, 29, 30, 31, 32] hP hD (by decide +kernel) rfl
      exact W.iret (v := (-1001)) hx hb hr (fun t ht hW => ⟨⟨(-1001), (ya, yb), rfl, mn_no1 hw_2, by rw [ht]; exact hP9, hD9⟩, hS.F ht⟩) hS.2.2 dX7_mean_19
  · refine lv_if_eq (tgt := 16) hx hb dX7_mean_5 (by decide) (fun h => absurd h (by decide)) (fun _ => ?_)
    refine lv_aload_n hx hb dX7_mean_8 rfl (lv_at hl 0 rfl) ?_
    refine lv_iload_n hx hb dX7_mean_9 rfl (lv_at hl 2 rfl) ?_
    refine ro_i (D := D) (va_runV (As := [.int p1]) (rest := []) ⟨hx, hb, hml, hown, hts⟩ ((y_isRule l D k st lo a rk lfa p1 (by first | assumption | omega)) H.size) (cwV 1 hts (gV tw_697 tw_699 tw_15 tw_79 tw_700) rfl rfl rfl (by decide +kernel) ⟨Nat.le_of_ble_eq_true rfl, Nat.le_of_ble_eq_true rfl⟩) (pV hS hAlo hlo hP hK (va_Dlo hD hAlo) hZ [0] (by decide) rfl (ci := 7) (q := (RX7, TX7, 12)) (q0 := 0) rfl rfl) rfl rfl hl.1 rfl (lv_room (Nat.le_of_ble_eq_true rfl)) dX7_mean_10 ⟨Nat.le_of_ble_eq_true rfl, Nat.le_of_ble_eq_true rfl⟩) hS hA hP (fun r_15 H locs hw_15 hP hS => ?_)
    try dsimp only at hw_15
    rcases hw_15 with ⟨rfl, ⟨rfl, hw_15⟩ | ⟨rfl, hw_15⟩ | ⟨rfl, hw_15⟩ | ⟨rfl, hw_15⟩⟩ | ⟨rfl, hw_15⟩
    · refine lv_if_ne (tgt := 20) hx hb dX7_mean_13 (by decide) (fun _ => ?_) (fun h => absurd h (by decide))
      refine lv_iload_n hx hb dX7_mean_20 rfl (lv_at hl 3 rfl) ?_
      refine lv_iconst (v := 0) hx hb dX7_mean_21 (by decide) ?_
      refine lv_iconst (v := 2) hx hb dX7_mean_22 (by decide) ?_
      refine ro_i (D := D) (va_runS (As := [.int p2, .int 0, .int 2]) (rest := []) ⟨hx, hb, hml, hown, hts⟩ ((k_isIn l D k st lo p2 0 2) H.size) (va_cwS 3 hts (gS tw_593 tw_594 tw_79 tw_595) rfl rfl rfl (by decide +kernel) ⟨Nat.le_of_ble_eq_true rfl, Nat.le_of_ble_eq_true rfl⟩) (pS hS hAlo hlo hP hK (va_Dlo hD hAlo) hZ [] (by decide) rfl) rfl rfl hl.1 rfl (lv_room (Nat.le_of_ble_eq_true rfl)) dX7_mean_23 ⟨Nat.le_of_ble_eq_true rfl, Nat.le_of_ble_eq_true rfl⟩) hS hA hP (fun r_16 H locs hw_16 hP hS => ?_)
      try dsimp only at hw_16
      rcases hw_16 with ⟨rfl, hw_16⟩ | ⟨rfl, hw_16⟩
      · refine lv_if_eq (tgt := 52) hx hb dX7_mean_26 (by decide) (fun h => absurd h (by decide)) (fun _ => ?_)
        obtain ⟨wh_17, hwl_17, hwh_17, rfl⟩ := inB_ofc (a := 0) (b := 2) (by omega) (by omega) hw_16
        refine lv_aload_n hx hb dX7_mean_29 rfl (lv_at hl 0 rfl) ?_
        refine va_get (D := D) (ci := 7) (v := .ref (a 64)) (C := RX7) (T := TX7) (N := 12) hx hb hts inX7 hown hK hP 0 rfl rfl 10 (by decide) (hts _ tw_315) (fun _ h9 => h9) rfl dX7_mean_30 ?_
        refine lv_aload_n hx hb dX7_mean_33 rfl (lv_at hl 0 rfl) ?_
        refine va_get (D := D) (ci := 7) (v := .ref (a 3)) (C := RX7) (T := TX7) (N := 12) hx hb hts inX7 hown hK hP 0 rfl rfl 1 (by decide) (hts _ tw_306) (fun _ h9 => h9) rfl dX7_mean_34 ?_
        refine lv_iload_n hx hb dX7_mean_37 rfl (lv_at hl 1 rfl) ?_
        refine va_aldq hx hb hK hP 1 3 rfl rfl (by unfold vp_in; decide) dX7_mean_38 ?_
        refine lv_tr (y := .ref (a 9)) rfl ?_
        refine lv_aload_n hx hb dX7_mean_39 rfl (lv_at hl 0 rfl) ?_
        refine va_get (D := D) (ci := 7) (v := .ref (a 40)) (C := RX7) (T := TX7) (N := 12) hx hb hts inX7 hown hK hP 0 rfl rfl 4 (by decide) (hts _ tw_309) (fun _ h9 => h9) rfl dX7_mean_40 ?_
        refine lv_iload_n hx hb dX7_mean_43 rfl (lv_at hl 2 rfl) ?_
        refine va_aldq hx hb hK hP 2 5 rfl rfl (by unfold vp_in; decide) dX7_mean_44 ?_
        refine lv_tr (y := .ref (a 41)) rfl ?_
        refine lv_iload_n hx hb dX7_mean_45 rfl (lv_at hl 3 rfl) ?_
        refine rw_i (D := D) (wr := [((a 0), .inr (7, (fX7 (a 1) (a 3) (a 19) (a 35) (a 40) (nI rk) lfa (a 53) (a 56) (a 63) (a 64) (a 68)))), ((a 3), .inl (k 3, 3, .inr (.inr (.inr (.inr (a3 (a 4) (a 9) (a 14))))))), ((a 40), .inl (k 5, 4, .inr (.inr (.inr (.inr (a4 (a 41) (a 44) (a 47) (a 50))))))), ((a 4), .inr (5, (fX5 (a 5) (a 6) (a 7) (a 8)))), (aI k (a 5) 10 (vv n0 see0 tm0 g0)), (aI k (a 6) 24 ff0), (aI k (a 7) 24 fp0), (aI k (a 8) 4 fl0), ((a 14), .inr (5, (fX5 (a 15) (a 16) (a 17) (a 18)))), (aI k (a 15) 10 (vv n2 see2 tm2 g2)), (aI k (a 16) 24 ff2), (aI k (a 17) 24 fp2), (aI k (a 18) 4 fl2), ((a 44), .inr (3, (fX3 (a 45) (a 46) rf1 (nI rc1) (nI rr1)))), (aI k (a 45) 24 rs1), (aI k (a 46) 24 rb1), ((a 47), .inr (3, (fX3 (a 48) (a 49) rf2 (nI rc2) (nI rr2)))), (aI k (a 48) 24 rs2), (aI k (a 49) 24 rb2), ((a 50), .inr (3, (fX3 (a 51) (a 52) rf3 (nI rc3) (nI rr3)))), (aI k (a 51) 24 rs3), (aI k (a 52) 24 rb3)]) (va_runV (As := [.ref (a 9), .ref (a 41), .int (nI wh_17)]) (rest := []) ⟨hx, hb, hml, hown, hts⟩ ((y_meanOf l D k st lo (a 64) (a 65) (a 66) (a 67) wt wc ya yb (a 9) (a 10) (a 11) (a 12) (a 13) n1 see1 tm1 g1 ff1 fp1 fl1 (a 41) (a 42) (a 43) rf0 rc0 rr0 rs0 rb0 wh_17 (by first | assumption | omega) (by first | assumption | omega) (by first | assumption | omega) (by first | assumption | omega) (by first | assumption | omega) (hlt 1 (by omega)) (hok 1 (by omega))) H.size) (cwV 3 hts (gV tw_701 tw_702 tw_703 tw_83 tw_704) rfl rfl rfl (by decide +kernel) ⟨Nat.le_of_ble_eq_true rfl, Nat.le_of_ble_eq_true rfl⟩) (pV hS hAlo hlo hP hK (va_Dlo hD hAlo) hZ [30, 31, 32, 8, 9, 10, 11, 12, 18, 19, 20] (by decide +kernel) rfl (ci := 2) (q := (RX2, TX2, 5)) (q0 := 0) rfl rfl) rfl rfl hl.1 rfl (lv_room (Nat.le_of_ble_eq_true rfl)) dX7_mean_46 ⟨Nat.le_of_ble_eq_true rfl, Nat.le_of_ble_eq_true rfl⟩) hS hA hP hD [30, 31, 32, 8, 9, 10, 11, 12, 18, 19, 20] [0, 1, 2, 3, 4, 5, 6, 7, 13, 14, 15, 16, 17, 21, 22, 23, 24, 25, 26, 27, 28, 29] rfl rfl (by decide +kernel) (by decide +kernel) (fun r_18 u H locs hw_18 hP hD hS => ?_)
        obtain ⟨ya__18, yb__18⟩ := u
        have hQ9 := pd_mk [((a 0), .inr (7, (fX7 (a 1) (a 3) (a 19) (a 35) (a 40) (nI rk) lfa (a 53) (a 56) (a 63) (a 64) (a 68)))), ((a 3), .inl (k 3, 3, .inr (.inr (.inr (.inr (a3 (a 4) (a 9) (a 14))))))), ((a 40), .inl (k 5, 4, .inr (.inr (.inr (.inr (a4 (a 41) (a 44) (a 47) (a 50))))))), ((a 4), .inr (5, (fX5 (a 5) (a 6) (a 7) (a 8)))), (aI k (a 5) 10 (vv n0 see0 tm0 g0)), (aI k (a 6) 24 ff0), (aI k (a 7) 24 fp0), (aI k (a 8) 4 fl0), ((a 14), .inr (5, (fX5 (a 15) (a 16) (a 17) (a 18)))), (aI k (a 15) 10 (vv n2 see2 tm2 g2)), (aI k (a 16) 24 ff2), (aI k (a 17) 24 fp2), (aI k (a 18) 4 fl2), ((a 44), .inr (3, (fX3 (a 45) (a 46) rf1 (nI rc1) (nI rr1)))), (aI k (a 45) 24 rs1), (aI k (a 46) 24 rb1), ((a 47), .inr (3, (fX3 (a 48) (a 49) rf2 (nI rc2) (nI rr2)))), (aI k (a 48) 24 rs2), (aI k (a 49) 24 rb2), ((a 50), .inr (3, (fX3 (a 51) (a 52) rf3 (nI rc3) (nI rr3)))), (aI k (a 51) 24 rs3), (aI k (a 52) 24 rb3), ((a 64), .inr (2, (fX2 (a 65) (a 66) (a 67) wt wc))), (aI k (a 65) 25 ya__18), (aI k (a 66) 25 yb__18), ((a 9), .inr (5, (fX5 (a 10) (a 11) (a 12) (a 13)))), (aI k (a 10) 10 (vv n1 see1 tm1 g1)), (aI k (a 11) 24 ff1), (aI k (a 12) 24 fp1), (aI k (a 13) 4 fl1), ((a 41), .inr (3, (fX3 (a 42) (a 43) rf0 (nI rc0) (nI rr0)))), (aI k (a 42) 24 rs0), (aI k (a 43) 24 rb0)] hP hD
        clear hP hD
        obtain ⟨hP, hD⟩ := hQ9
        try dsimp only at hw_18
        refine lv_goto (tgt := 55) hx hb dX7_mean_49 (by decide) ?_
        obtain ⟨hP9, hD9⟩ := pd_sub [((a 0), .inr (7, (fX7 (a 1) (a 3) (a 19) (a 35) (a 40) (nI rk) lfa (a 53) (a 56) (a 63) (a 64) (a 68)))), ((a 3), .inl (k 3, 3, .inr (.inr (.inr (.inr (a3 (a 4) (a 9) (a 14))))))), ((a 40), .inl (k 5, 4, .inr (.inr (.inr (.inr (a4 (a 41) (a 44) (a 47) (a 50))))))), ((a 4), .inr (5, (fX5 (a 5) (a 6) (a 7) (a 8)))), (aI k (a 5) 10 (vv n0 see0 tm0 g0)), (aI k (a 6) 24 ff0), (aI k (a 7) 24 fp0), (aI k (a 8) 4 fl0), ((a 9), .inr (5, (fX5 (a 10) (a 11) (a 12) (a 13)))), (aI k (a 10) 10 (vv n1 see1 tm1 g1)), (aI k (a 11) 24 ff1), (aI k (a 12) 24 fp1), (aI k (a 13) 4 fl1), ((a 14), .inr (5, (fX5 (a 15) (a 16) (a 17) (a 18)))), (aI k (a 15) 10 (vv n2 see2 tm2 g2)), (aI k (a 16) 24 ff2), (aI k (a 17) 24 fp2), (aI k (a 18) 4 fl2), ((a 41), .inr (3, (fX3 (a 42) (a 43) rf0 (nI rc0) (nI rr0)))), (aI k (a 42) 24 rs0), (aI k (a 43) 24 rb0), ((a 44), .inr (3, (fX3 (a 45) (a 46) rf1 (nI rc1) (nI rr1)))), (aI k (a 45) 24 rs1), (aI k (a 46) 24 rb1), ((a 47), .inr (3, (fX3 (a 48) (a 49) rf2 (nI rc2) (nI rr2)))), (aI k (a 48) 24 rs2), (aI k (a 49) 24 rb2), ((a 50), .inr (3, (fX3 (a 51) (a 52) rf3 (nI rc3) (nI rr3)))), (aI k (a 51) 24 rs3), (aI k (a 52) 24 rb3), ((a 64), .inr (2, (fX2 (a 65) (a 66) (a 67) wt wc))), (aI k (a 65) 25 ya__18), (aI k (a 66) 25 yb__18)] [0, 1, 2, 3, 4, 5, 6, 7, 25, 26, 27, 28, 29, 8, 9, 10, 11, 12, 30, 31, 32, 13, 14, 15, 16, 17, 18, 19, 20, 21, 22, 23, 24] hP hD (by decide +kernel) rfl
        exact W.iret (v := r_18) hx hb hr (fun t ht hW => ⟨⟨r_18, (ya__18, yb__18), rfl, mn_at (s := 1) (t := 0) (by omega) (by omega) (by omega) (show 0 < n1 by omega) (show meA (nI wh_17) (sdX n1 see1 tm1 g1 ff1 fp1) (ruX rf0 rc0 rr0 rs0 rb0) _ from me_i (by omega) (by rw [(show muD (sdX n1 see1 tm1 g1 ff1 fp1) (ruX rf0 rc0 rr0 rs0 rb0) = min rr0 tm1 by unfold muD; rw [tmX (by omega)]; exact congrArg (fun z => min z tm1) (nI_clamp (by omega)))]; exact hw_18)), by rw [ht]; exact hP9, hD9⟩, hS.F ht⟩) hS.2.2 dX7_mean_55
      · refine lv_if_eq (tgt := 52) hx hb dX7_mean_26 (by decide) (fun _ => ?_) (fun h => absurd (by decide) h)
        refine lv_sipush (v := (-1002)) hx hb dX7_mean_52 (by decide) ?_
        obtain ⟨hP9, hD9⟩ := pd_sub [((a 0), .inr (7, (fX7 (a 1) (a 3) (a 19) (a 35) (a 40) (nI rk) lfa (a 53) (a 56) (a 63) (a 64) (a 68)))), ((a 3), .inl (k 3, 3, .inr (.inr (.inr (.inr (a3 (a 4) (a 9) (a 14))))))), ((a 40), .inl (k 5, 4, .inr (.inr (.inr (.inr (a4 (a 41) (a 44) (a 47) (a 50))))))), ((a 4), .inr (5, (fX5 (a 5) (a 6) (a 7) (a 8)))), (aI k (a 5) 10 (vv n0 see0 tm0 g0)), (aI k (a 6) 24 ff0), (aI k (a 7) 24 fp0), (aI k (a 8) 4 fl0), ((a 9), .inr (5, (fX5 (a 10) (a 11) (a 12) (a 13)))), (aI k (a 10) 10 (vv n1 see1 tm1 g1)), (aI k (a 11) 24 ff1), (aI k (a 12) 24 fp1), (aI k (a 13) 4 fl1), ((a 14), .inr (5, (fX5 (a 15) (a 16) (a 17) (a 18)))), (aI k (a 15) 10 (vv n2 see2 tm2 g2)), (aI k (a 16) 24 ff2), (aI k (a 17) 24 fp2), (aI k (a 18) 4 fl2), ((a 41), .inr (3, (fX3 (a 42) (a 43) rf0 (nI rc0) (nI rr0)))), (aI k (a 42) 24 rs0), (aI k (a 43) 24 rb0), ((a 44), .inr (3, (fX3 (a 45) (a 46) rf1 (nI rc1) (nI rr1)))), (aI k (a 45) 24 rs1), (aI k (a 46) 24 rb1), ((a 47), .inr (3, (fX3 (a 48) (a 49) rf2 (nI rc2) (nI rr2)))), (aI k (a 48) 24 rs2), (aI k (a 49) 24 rb2), ((a 50), .inr (3, (fX3 (a 51) (a 52) rf3 (nI rc3) (nI rr3)))), (aI k (a 51) 24 rs3), (aI k (a 52) 24 rb3), ((a 64), .inr (2, (fX2 (a 65) (a 66) (a 67) wt wc))), (aI k (a 65) 25 ya), (aI k (a 66) 25 yb)] [0, 1, 2, 3, 4, 5, 6, 7, 8, 9, 10, 11, 12, 13, 14, 15, 16, 17, 18, 19, 20, 21, 22, 23, 24, 25, 26, 27, 28, 29, 30, 31, 32] hP hD (by decide +kernel) rfl
        exact W.iret (v := (-1002)) hx hb hr (fun t ht hW => ⟨⟨(-1002), (ya, yb), rfl, mn_at (s := 1) (t := 0) (by omega) (by omega) (by omega) (show 0 < n1 by omega) (show meA p2 (sdX n1 see1 tm1 g1 ff1 fp1) (ruX rf0 rc0 rr0 rs0 rb0) _ from me_o hw_16), by rw [ht]; exact hP9, hD9⟩, hS.F ht⟩) hS.2.2 dX7_mean_55
    · refine lv_if_ne (tgt := 20) hx hb dX7_mean_13 (by decide) (fun _ => ?_) (fun h => absurd h (by decide))
      refine lv_iload_n hx hb dX7_mean_20 rfl (lv_at hl 3 rfl) ?_
      refine lv_iconst (v := 0) hx hb dX7_mean_21 (by decide) ?_
      refine lv_iconst (v := 2) hx hb dX7_mean_22 (by decide) ?_
      refine ro_i (D := D) (va_runS (As := [.int p2, .int 0, .int 2]) (rest := []) ⟨hx, hb, hml, hown, hts⟩ ((k_isIn l D k st lo p2 0 2) H.size) (va_cwS 3 hts (gS tw_593 tw_594 tw_79 tw_595) rfl rfl rfl (by decide +kernel) ⟨Nat.le_of_ble_eq_true rfl, Nat.le_of_ble_eq_true rfl⟩) (pS hS hAlo hlo hP hK (va_Dlo hD hAlo) hZ [] (by decide) rfl) rfl rfl hl.1 rfl (lv_room (Nat.le_of_ble_eq_true rfl)) dX7_mean_23 ⟨Nat.le_of_ble_eq_true rfl, Nat.le_of_ble_eq_true rfl⟩) hS hA hP (fun r_19 H locs hw_19 hP hS => ?_)
      try dsimp only at hw_19
      rcases hw_19 with ⟨rfl, hw_19⟩ | ⟨rfl, hw_19⟩
      · refine lv_if_eq (tgt := 52) hx hb dX7_mean_26 (by decide) (fun h => absurd h (by decide)) (fun _ => ?_)
        obtain ⟨wh_20, hwl_20, hwh_20, rfl⟩ := inB_ofc (a := 0) (b := 2) (by omega) (by omega) hw_19
        refine lv_aload_n hx hb dX7_mean_29 rfl (lv_at hl 0 rfl) ?_
        refine va_get (D := D) (ci := 7) (v := .ref (a 64)) (C := RX7) (T := TX7) (N := 12) hx hb hts inX7 hown hK hP 0 rfl rfl 10 (by decide) (hts _ tw_315) (fun _ h9 => h9) rfl dX7_mean_30 ?_
        refine lv_aload_n hx hb dX7_mean_33 rfl (lv_at hl 0 rfl) ?_
        refine va_get (D := D) (ci := 7) (v := .ref (a 3)) (C := RX7) (T := TX7) (N := 12) hx hb hts inX7 hown hK hP 0 rfl rfl 1 (by decide) (hts _ tw_306) (fun _ h9 => h9) rfl dX7_mean_34 ?_
        refine lv_iload_n hx hb dX7_mean_37 rfl (lv_at hl 1 rfl) ?_
        refine va_aldq hx hb hK hP 1 3 rfl rfl (by unfold vp_in; decide) dX7_mean_38 ?_
        refine lv_tr (y := .ref (a 9)) rfl ?_
        refine lv_aload_n hx hb dX7_mean_39 rfl (lv_at hl 0 rfl) ?_
        refine va_get (D := D) (ci := 7) (v := .ref (a 40)) (C := RX7) (T := TX7) (N := 12) hx hb hts inX7 hown hK hP 0 rfl rfl 4 (by decide) (hts _ tw_309) (fun _ h9 => h9) rfl dX7_mean_40 ?_
        refine lv_iload_n hx hb dX7_mean_43 rfl (lv_at hl 2 rfl) ?_
        refine va_aldq hx hb hK hP 2 5 rfl rfl (by unfold vp_in; decide) dX7_mean_44 ?_
        refine lv_tr (y := .ref (a 44)) rfl ?_
        refine lv_iload_n hx hb dX7_mean_45 rfl (lv_at hl 3 rfl) ?_
        refine rw_i (D := D) (wr := [((a 0), .inr (7, (fX7 (a 1) (a 3) (a 19) (a 35) (a 40) (nI rk) lfa (a 53) (a 56) (a 63) (a 64) (a 68)))), ((a 3), .inl (k 3, 3, .inr (.inr (.inr (.inr (a3 (a 4) (a 9) (a 14))))))), ((a 40), .inl (k 5, 4, .inr (.inr (.inr (.inr (a4 (a 41) (a 44) (a 47) (a 50))))))), ((a 4), .inr (5, (fX5 (a 5) (a 6) (a 7) (a 8)))), (aI k (a 5) 10 (vv n0 see0 tm0 g0)), (aI k (a 6) 24 ff0), (aI k (a 7) 24 fp0), (aI k (a 8) 4 fl0), ((a 14), .inr (5, (fX5 (a 15) (a 16) (a 17) (a 18)))), (aI k (a 15) 10 (vv n2 see2 tm2 g2)), (aI k (a 16) 24 ff2), (aI k (a 17) 24 fp2), (aI k (a 18) 4 fl2), ((a 41), .inr (3, (fX3 (a 42) (a 43) rf0 (nI rc0) (nI rr0)))), (aI k (a 42) 24 rs0), (aI k (a 43) 24 rb0), ((a 47), .inr (3, (fX3 (a 48) (a 49) rf2 (nI rc2) (nI rr2)))), (aI k (a 48) 24 rs2), (aI k (a 49) 24 rb2), ((a 50), .inr (3, (fX3 (a 51) (a 52) rf3 (nI rc3) (nI rr3)))), (aI k (a 51) 24 rs3), (aI k (a 52) 24 rb3)]) (va_runV (As := [.ref (a 9), .ref (a 44), .int (nI wh_20)]) (rest := []) ⟨hx, hb, hml, hown, hts⟩ ((y_meanOf l D k st lo (a 64) (a 65) (a 66) (a 67) wt wc ya yb (a 9) (a 10) (a 11) (a 12) (a 13) n1 see1 tm1 g1 ff1 fp1 fl1 (a 44) (a 45) (a 46) rf1 rc1 rr1 rs1 rb1 wh_20 (by first | assumption | omega) (by first | assumption | omega) (by first | assumption | omega) (by first | assumption | omega) (by first | assumption | omega) (hlt 1 (by omega)) (hok 1 (by omega))) H.size) (cwV 3 hts (gV tw_701 tw_702 tw_703 tw_83 tw_704) rfl rfl rfl (by decide +kernel) ⟨Nat.le_of_ble_eq_true rfl, Nat.le_of_ble_eq_true rfl⟩) (pV hS hAlo hlo hP hK (va_Dlo hD hAlo) hZ [30, 31, 32, 8, 9, 10, 11, 12, 21, 22, 23] (by decide +kernel) rfl (ci := 2) (q := (RX2, TX2, 5)) (q0 := 0) rfl rfl) rfl rfl hl.1 rfl (lv_room (Nat.le_of_ble_eq_true rfl)) dX7_mean_46 ⟨Nat.le_of_ble_eq_true rfl, Nat.le_of_ble_eq_true rfl⟩) hS hA hP hD [30, 31, 32, 8, 9, 10, 11, 12, 21, 22, 23] [0, 1, 2, 3, 4, 5, 6, 7, 13, 14, 15, 16, 17, 18, 19, 20, 24, 25, 26, 27, 28, 29] rfl rfl (by decide +kernel) (by decide +kernel) (fun r_21 u H locs hw_21 hP hD hS => ?_)
        obtain ⟨ya__21, yb__21⟩ := u
        have hQ9 := pd_mk [((a 0), .inr (7, (fX7 (a 1) (a 3) (a 19) (a 35) (a 40) (nI rk) lfa (a 53) (a 56) (a 63) (a 64) (a 68)))), ((a 3), .inl (k 3, 3, .inr (.inr (.inr (.inr (a3 (a 4) (a 9) (a 14))))))), ((a 40), .inl (k 5, 4, .inr (.inr (.inr (.inr (a4 (a 41) (a 44) (a 47) (a 50))))))), ((a 4), .inr (5, (fX5 (a 5) (a 6) (a 7) (a 8)))), (aI k (a 5) 10 (vv n0 see0 tm0 g0)), (aI k (a 6) 24 ff0), (aI k (a 7) 24 fp0), (aI k (a 8) 4 fl0), ((a 14), .inr (5, (fX5 (a 15) (a 16) (a 17) (a 18)))), (aI k (a 15) 10 (vv n2 see2 tm2 g2)), (aI k (a 16) 24 ff2), (aI k (a 17) 24 fp2), (aI k (a 18) 4 fl2), ((a 41), .inr (3, (fX3 (a 42) (a 43) rf0 (nI rc0) (nI rr0)))), (aI k (a 42) 24 rs0), (aI k (a 43) 24 rb0), ((a 47), .inr (3, (fX3 (a 48) (a 49) rf2 (nI rc2) (nI rr2)))), (aI k (a 48) 24 rs2), (aI k (a 49) 24 rb2), ((a 50), .inr (3, (fX3 (a 51) (a 52) rf3 (nI rc3) (nI rr3)))), (aI k (a 51) 24 rs3), (aI k (a 52) 24 rb3), ((a 64), .inr (2, (fX2 (a 65) (a 66) (a 67) wt wc))), (aI k (a 65) 25 ya__21), (aI k (a 66) 25 yb__21), ((a 9), .inr (5, (fX5 (a 10) (a 11) (a 12) (a 13)))), (aI k (a 10) 10 (vv n1 see1 tm1 g1)), (aI k (a 11) 24 ff1), (aI k (a 12) 24 fp1), (aI k (a 13) 4 fl1), ((a 44), .inr (3, (fX3 (a 45) (a 46) rf1 (nI rc1) (nI rr1)))), (aI k (a 45) 24 rs1), (aI k (a 46) 24 rb1)] hP hD
        clear hP hD
        obtain ⟨hP, hD⟩ := hQ9
        try dsimp only at hw_21
        refine lv_goto (tgt := 55) hx hb dX7_mean_49 (by decide) ?_
        obtain ⟨hP9, hD9⟩ := pd_sub [((a 0), .inr (7, (fX7 (a 1) (a 3) (a 19) (a 35) (a 40) (nI rk) lfa (a 53) (a 56) (a 63) (a 64) (a 68)))), ((a 3), .inl (k 3, 3, .inr (.inr (.inr (.inr (a3 (a 4) (a 9) (a 14))))))), ((a 40), .inl (k 5, 4, .inr (.inr (.inr (.inr (a4 (a 41) (a 44) (a 47) (a 50))))))), ((a 4), .inr (5, (fX5 (a 5) (a 6) (a 7) (a 8)))), (aI k (a 5) 10 (vv n0 see0 tm0 g0)), (aI k (a 6) 24 ff0), (aI k (a 7) 24 fp0), (aI k (a 8) 4 fl0), ((a 9), .inr (5, (fX5 (a 10) (a 11) (a 12) (a 13)))), (aI k (a 10) 10 (vv n1 see1 tm1 g1)), (aI k (a 11) 24 ff1), (aI k (a 12) 24 fp1), (aI k (a 13) 4 fl1), ((a 14), .inr (5, (fX5 (a 15) (a 16) (a 17) (a 18)))), (aI k (a 15) 10 (vv n2 see2 tm2 g2)), (aI k (a 16) 24 ff2), (aI k (a 17) 24 fp2), (aI k (a 18) 4 fl2), ((a 41), .inr (3, (fX3 (a 42) (a 43) rf0 (nI rc0) (nI rr0)))), (aI k (a 42) 24 rs0), (aI k (a 43) 24 rb0), ((a 44), .inr (3, (fX3 (a 45) (a 46) rf1 (nI rc1) (nI rr1)))), (aI k (a 45) 24 rs1), (aI k (a 46) 24 rb1), ((a 47), .inr (3, (fX3 (a 48) (a 49) rf2 (nI rc2) (nI rr2)))), (aI k (a 48) 24 rs2), (aI k (a 49) 24 rb2), ((a 50), .inr (3, (fX3 (a 51) (a 52) rf3 (nI rc3) (nI rr3)))), (aI k (a 51) 24 rs3), (aI k (a 52) 24 rb3), ((a 64), .inr (2, (fX2 (a 65) (a 66) (a 67) wt wc))), (aI k (a 65) 25 ya__21), (aI k (a 66) 25 yb__21)] [0, 1, 2, 3, 4, 5, 6, 7, 25, 26, 27, 28, 29, 8, 9, 10, 11, 12, 13, 14, 15, 30, 31, 32, 16, 17, 18, 19, 20, 21, 22, 23, 24] hP hD (by decide +kernel) rfl
        exact W.iret (v := r_21) hx hb hr (fun t ht hW => ⟨⟨r_21, (ya__21, yb__21), rfl, mn_at (s := 1) (t := 1) (by omega) (by omega) (by omega) (show 0 < n1 by omega) (show meA (nI wh_20) (sdX n1 see1 tm1 g1 ff1 fp1) (ruX rf1 rc1 rr1 rs1 rb1) _ from me_i (by omega) (by rw [(show muD (sdX n1 see1 tm1 g1 ff1 fp1) (ruX rf1 rc1 rr1 rs1 rb1) = min rr1 tm1 by unfold muD; rw [tmX (by omega)]; exact congrArg (fun z => min z tm1) (nI_clamp (by omega)))]; exact hw_21)), by rw [ht]; exact hP9, hD9⟩, hS.F ht⟩) hS.2.2 dX7_mean_55
      · refine lv_if_eq (tgt := 52) hx hb dX7_mean_26 (by decide) (fun _ => ?_) (fun h => absurd (by decide) h)
        refine lv_sipush (v := (-1002)) hx hb dX7_mean_52 (by decide) ?_
        obtain ⟨hP9, hD9⟩ := pd_sub [((a 0), .inr (7, (fX7 (a 1) (a 3) (a 19) (a 35) (a 40) (nI rk) lfa (a 53) (a 56) (a 63) (a 64) (a 68)))), ((a 3), .inl (k 3, 3, .inr (.inr (.inr (.inr (a3 (a 4) (a 9) (a 14))))))), ((a 40), .inl (k 5, 4, .inr (.inr (.inr (.inr (a4 (a 41) (a 44) (a 47) (a 50))))))), ((a 4), .inr (5, (fX5 (a 5) (a 6) (a 7) (a 8)))), (aI k (a 5) 10 (vv n0 see0 tm0 g0)), (aI k (a 6) 24 ff0), (aI k (a 7) 24 fp0), (aI k (a 8) 4 fl0), ((a 9), .inr (5, (fX5 (a 10) (a 11) (a 12) (a 13)))), (aI k (a 10) 10 (vv n1 see1 tm1 g1)), (aI k (a 11) 24 ff1), (aI k (a 12) 24 fp1), (aI k (a 13) 4 fl1), ((a 14), .inr (5, (fX5 (a 15) (a 16) (a 17) (a 18)))), (aI k (a 15) 10 (vv n2 see2 tm2 g2)), (aI k (a 16) 24 ff2), (aI k (a 17) 24 fp2), (aI k (a 18) 4 fl2), ((a 41), .inr (3, (fX3 (a 42) (a 43) rf0 (nI rc0) (nI rr0)))), (aI k (a 42) 24 rs0), (aI k (a 43) 24 rb0), ((a 44), .inr (3, (fX3 (a 45) (a 46) rf1 (nI rc1) (nI rr1)))), (aI k (a 45) 24 rs1), (aI k (a 46) 24 rb1), ((a 47), .inr (3, (fX3 (a 48) (a 49) rf2 (nI rc2) (nI rr2)))), (aI k (a 48) 24 rs2), (aI k (a 49) 24 rb2), ((a 50), .inr (3, (fX3 (a 51) (a 52) rf3 (nI rc3) (nI rr3)))), (aI k (a 51) 24 rs3), (aI k (a 52) 24 rb3), ((a 64), .inr (2, (fX2 (a 65) (a 66) (a 67) wt wc))), (aI k (a 65) 25 ya), (aI k (a 66) 25 yb)] [0, 1, 2, 3, 4, 5, 6, 7, 8, 9, 10, 11, 12, 13, 14, 15, 16, 17, 18, 19, 20, 21, 22, 23, 24, 25, 26, 27, 28, 29, 30, 31, 32] hP hD (by decide +kernel) rfl
        exact W.iret (v := (-1002)) hx hb hr (fun t ht hW => ⟨⟨(-1002), (ya, yb), rfl, mn_at (s := 1) (t := 1) (by omega) (by omega) (by omega) (show 0 < n1 by omega) (show meA p2 (sdX n1 see1 tm1 g1 ff1 fp1) (ruX rf1 rc1 rr1 rs1 rb1) _ from me_o hw_19), by rw [ht]; exact hP9, hD9⟩, hS.F ht⟩) hS.2.2 dX7_mean_55
    · refine lv_if_ne (tgt := 20) hx hb dX7_mean_13 (by decide) (fun _ => ?_) (fun h => absurd h (by decide))
      refine lv_iload_n hx hb dX7_mean_20 rfl (lv_at hl 3 rfl) ?_
      refine lv_iconst (v := 0) hx hb dX7_mean_21 (by decide) ?_
      refine lv_iconst (v := 2) hx hb dX7_mean_22 (by decide) ?_
      refine ro_i (D := D) (va_runS (As := [.int p2, .int 0, .int 2]) (rest := []) ⟨hx, hb, hml, hown, hts⟩ ((k_isIn l D k st lo p2 0 2) H.size) (va_cwS 3 hts (gS tw_593 tw_594 tw_79 tw_595) rfl rfl rfl (by decide +kernel) ⟨Nat.le_of_ble_eq_true rfl, Nat.le_of_ble_eq_true rfl⟩) (pS hS hAlo hlo hP hK (va_Dlo hD hAlo) hZ [] (by decide) rfl) rfl rfl hl.1 rfl (lv_room (Nat.le_of_ble_eq_true rfl)) dX7_mean_23 ⟨Nat.le_of_ble_eq_true rfl, Nat.le_of_ble_eq_true rfl⟩) hS hA hP (fun r_22 H locs hw_22 hP hS => ?_)
      try dsimp only at hw_22
      rcases hw_22 with ⟨rfl, hw_22⟩ | ⟨rfl, hw_22⟩
      · refine lv_if_eq (tgt := 52) hx hb dX7_mean_26 (by decide) (fun h => absurd h (by decide)) (fun _ => ?_)
        obtain ⟨wh_23, hwl_23, hwh_23, rfl⟩ := inB_ofc (a := 0) (b := 2) (by omega) (by omega) hw_22
        refine lv_aload_n hx hb dX7_mean_29 rfl (lv_at hl 0 rfl) ?_
        refine va_get (D := D) (ci := 7) (v := .ref (a 64)) (C := RX7) (T := TX7) (N := 12) hx hb hts inX7 hown hK hP 0 rfl rfl 10 (by decide) (hts _ tw_315) (fun _ h9 => h9) rfl dX7_mean_30 ?_
        refine lv_aload_n hx hb dX7_mean_33 rfl (lv_at hl 0 rfl) ?_
        refine va_get (D := D) (ci := 7) (v := .ref (a 3)) (C := RX7) (T := TX7) (N := 12) hx hb hts inX7 hown hK hP 0 rfl rfl 1 (by decide) (hts _ tw_306) (fun _ h9 => h9) rfl dX7_mean_34 ?_
        refine lv_iload_n hx hb dX7_mean_37 rfl (lv_at hl 1 rfl) ?_
        refine va_aldq hx hb hK hP 1 3 rfl rfl (by unfold vp_in; decide) dX7_mean_38 ?_
        refine lv_tr (y := .ref (a 9)) rfl ?_
        refine lv_aload_n hx hb dX7_mean_39 rfl (lv_at hl 0 rfl) ?_
        refine va_get (D := D) (ci := 7) (v := .ref (a 40)) (C := RX7) (T := TX7) (N := 12) hx hb hts inX7 hown hK hP 0 rfl rfl 4 (by decide) (hts _ tw_309) (fun _ h9 => h9) rfl dX7_mean_40 ?_
        refine lv_iload_n hx hb dX7_mean_43 rfl (lv_at hl 2 rfl) ?_
        refine va_aldq hx hb hK hP 2 5 rfl rfl (by unfold vp_in; decide) dX7_mean_44 ?_
        refine lv_tr (y := .ref (a 47)) rfl ?_
        refine lv_iload_n hx hb dX7_mean_45 rfl (lv_at hl 3 rfl) ?_
        refine rw_i (D := D) (wr := [((a 0), .inr (7, (fX7 (a 1) (a 3) (a 19) (a 35) (a 40) (nI rk) lfa (a 53) (a 56) (a 63) (a 64) (a 68)))), ((a 3), .inl (k 3, 3, .inr (.inr (.inr (.inr (a3 (a 4) (a 9) (a 14))))))), ((a 40), .inl (k 5, 4, .inr (.inr (.inr (.inr (a4 (a 41) (a 44) (a 47) (a 50))))))), ((a 4), .inr (5, (fX5 (a 5) (a 6) (a 7) (a 8)))), (aI k (a 5) 10 (vv n0 see0 tm0 g0)), (aI k (a 6) 24 ff0), (aI k (a 7) 24 fp0), (aI k (a 8) 4 fl0), ((a 14), .inr (5, (fX5 (a 15) (a 16) (a 17) (a 18)))), (aI k (a 15) 10 (vv n2 see2 tm2 g2)), (aI k (a 16) 24 ff2), (aI k (a 17) 24 fp2), (aI k (a 18) 4 fl2), ((a 41), .inr (3, (fX3 (a 42) (a 43) rf0 (nI rc0) (nI rr0)))), (aI k (a 42) 24 rs0), (aI k (a 43) 24 rb0), ((a 44), .inr (3, (fX3 (a 45) (a 46) rf1 (nI rc1) (nI rr1)))), (aI k (a 45) 24 rs1), (aI k (a 46) 24 rb1), ((a 50), .inr (3, (fX3 (a 51) (a 52) rf3 (nI rc3) (nI rr3)))), (aI k (a 51) 24 rs3), (aI k (a 52) 24 rb3)]) (va_runV (As := [.ref (a 9), .ref (a 47), .int (nI wh_23)]) (rest := []) ⟨hx, hb, hml, hown, hts⟩ ((y_meanOf l D k st lo (a 64) (a 65) (a 66) (a 67) wt wc ya yb (a 9) (a 10) (a 11) (a 12) (a 13) n1 see1 tm1 g1 ff1 fp1 fl1 (a 47) (a 48) (a 49) rf2 rc2 rr2 rs2 rb2 wh_23 (by first | assumption | omega) (by first | assumption | omega) (by first | assumption | omega) (by first | assumption | omega) (by first | assumption | omega) (hlt 1 (by omega)) (hok 1 (by omega))) H.size) (cwV 3 hts (gV tw_701 tw_702 tw_703 tw_83 tw_704) rfl rfl rfl (by decide +kernel) ⟨Nat.le_of_ble_eq_true rfl, Nat.le_of_ble_eq_true rfl⟩) (pV hS hAlo hlo hP hK (va_Dlo hD hAlo) hZ [30, 31, 32, 8, 9, 10, 11, 12, 24, 25, 26] (by decide +kernel) rfl (ci := 2) (q := (RX2, TX2, 5)) (q0 := 0) rfl rfl) rfl rfl hl.1 rfl (lv_room (Nat.le_of_ble_eq_true rfl)) dX7_mean_46 ⟨Nat.le_of_ble_eq_true rfl, Nat.le_of_ble_eq_true rfl⟩) hS hA hP hD [30, 31, 32, 8, 9, 10, 11, 12, 24, 25, 26] [0, 1, 2, 3, 4, 5, 6, 7, 13, 14, 15, 16, 17, 18, 19, 20, 21, 22, 23, 27, 28, 29] rfl rfl (by decide +kernel) (by decide +kernel) (fun r_24 u H locs hw_24 hP hD hS => ?_)
        obtain ⟨ya__24, yb__24⟩ := u
        have hQ9 := pd_mk [((a 0), .inr (7, (fX7 (a 1) (a 3) (a 19) (a 35) (a 40) (nI rk) lfa (a 53) (a 56) (a 63) (a 64) (a 68)))), ((a 3), .inl (k 3, 3, .inr (.inr (.inr (.inr (a3 (a 4) (a 9) (a 14))))))), ((a 40), .inl (k 5, 4, .inr (.inr (.inr (.inr (a4 (a 41) (a 44) (a 47) (a 50))))))), ((a 4), .inr (5, (fX5 (a 5) (a 6) (a 7) (a 8)))), (aI k (a 5) 10 (vv n0 see0 tm0 g0)), (aI k (a 6) 24 ff0), (aI k (a 7) 24 fp0), (aI k (a 8) 4 fl0), ((a 14), .inr (5, (fX5 (a 15) (a 16) (a 17) (a 18)))), (aI k (a 15) 10 (vv n2 see2 tm2 g2)), (aI k (a 16) 24 ff2), (aI k (a 17) 24 fp2), (aI k (a 18) 4 fl2), ((a 41), .inr (3, (fX3 (a 42) (a 43) rf0 (nI rc0) (nI rr0)))), (aI k (a 42) 24 rs0), (aI k (a 43) 24 rb0), ((a 44), .inr (3, (fX3 (a 45) (a 46) rf1 (nI rc1) (nI rr1)))), (aI k (a 45) 24 rs1), (aI k (a 46) 24 rb1), ((a 50), .inr (3, (fX3 (a 51) (a 52) rf3 (nI rc3) (nI rr3)))), (aI k (a 51) 24 rs3), (aI k (a 52) 24 rb3), ((a 64), .inr (2, (fX2 (a 65) (a 66) (a 67) wt wc))), (aI k (a 65) 25 ya__24), (aI k (a 66) 25 yb__24), ((a 9), .inr (5, (fX5 (a 10) (a 11) (a 12) (a 13)))), (aI k (a 10) 10 (vv n1 see1 tm1 g1)), (aI k (a 11) 24 ff1), (aI k (a 12) 24 fp1), (aI k (a 13) 4 fl1), ((a 47), .inr (3, (fX3 (a 48) (a 49) rf2 (nI rc2) (nI rr2)))), (aI k (a 48) 24 rs2), (aI k (a 49) 24 rb2)] hP hD
        clear hP hD
        obtain ⟨hP, hD⟩ := hQ9
        try dsimp only at hw_24
        refine lv_goto (tgt := 55) hx hb dX7_mean_49 (by decide) ?_
        obtain ⟨hP9, hD9⟩ := pd_sub [((a 0), .inr (7, (fX7 (a 1) (a 3) (a 19) (a 35) (a 40) (nI rk) lfa (a 53) (a 56) (a 63) (a 64) (a 68)))), ((a 3), .inl (k 3, 3, .inr (.inr (.inr (.inr (a3 (a 4) (a 9) (a 14))))))), ((a 40), .inl (k 5, 4, .inr (.inr (.inr (.inr (a4 (a 41) (a 44) (a 47) (a 50))))))), ((a 4), .inr (5, (fX5 (a 5) (a 6) (a 7) (a 8)))), (aI k (a 5) 10 (vv n0 see0 tm0 g0)), (aI k (a 6) 24 ff0), (aI k (a 7) 24 fp0), (aI k (a 8) 4 fl0), ((a 9), .inr (5, (fX5 (a 10) (a 11) (a 12) (a 13)))), (aI k (a 10) 10 (vv n1 see1 tm1 g1)), (aI k (a 11) 24 ff1), (aI k (a 12) 24 fp1), (aI k (a 13) 4 fl1), ((a 14), .inr (5, (fX5 (a 15) (a 16) (a 17) (a 18)))), (aI k (a 15) 10 (vv n2 see2 tm2 g2)), (aI k (a 16) 24 ff2), (aI k (a 17) 24 fp2), (aI k (a 18) 4 fl2), ((a 41), .inr (3, (fX3 (a 42) (a 43) rf0 (nI rc0) (nI rr0)))), (aI k (a 42) 24 rs0), (aI k (a 43) 24 rb0), ((a 44), .inr (3, (fX3 (a 45) (a 46) rf1 (nI rc1) (nI rr1)))), (aI k (a 45) 24 rs1), (aI k (a 46) 24 rb1), ((a 47), .inr (3, (fX3 (a 48) (a 49) rf2 (nI rc2) (nI rr2)))), (aI k (a 48) 24 rs2), (aI k (a 49) 24 rb2), ((a 50), .inr (3, (fX3 (a 51) (a 52) rf3 (nI rc3) (nI rr3)))), (aI k (a 51) 24 rs3), (aI k (a 52) 24 rb3), ((a 64), .inr (2, (fX2 (a 65) (a 66) (a 67) wt wc))), (aI k (a 65) 25 ya__24), (aI k (a 66) 25 yb__24)] [0, 1, 2, 3, 4, 5, 6, 7, 25, 26, 27, 28, 29, 8, 9, 10, 11, 12, 13, 14, 15, 16, 17, 18, 30, 31, 32, 19, 20, 21, 22, 23, 24] hP hD (by decide +kernel) rfl
        exact W.iret (v := r_24) hx hb hr (fun t ht hW => ⟨⟨r_24, (ya__24, yb__24), rfl, mn_at (s := 1) (t := 2) (by omega) (by omega) (by omega) (show 0 < n1 by omega) (show meA (nI wh_23) (sdX n1 see1 tm1 g1 ff1 fp1) (ruX rf2 rc2 rr2 rs2 rb2) _ from me_i (by omega) (by rw [(show muD (sdX n1 see1 tm1 g1 ff1 fp1) (ruX rf2 rc2 rr2 rs2 rb2) = min rr2 tm1 by unfold muD; rw [tmX (by omega)]; exact congrArg (fun z => min z tm1) (nI_clamp (by omega)))]; exact hw_24)), by rw [ht]; exact hP9, hD9⟩, hS.F ht⟩) hS.2.2 dX7_mean_55
      · refine lv_if_eq (tgt := 52) hx hb dX7_mean_26 (by decide) (fun _ => ?_) (fun h => absurd (by decide) h)
        refine lv_sipush (v := (-1002)) hx hb dX7_mean_52 (by decide) ?_
        obtain ⟨hP9, hD9⟩ := pd_sub [((a 0), .inr (7, (fX7 (a 1) (a 3) (a 19) (a 35) (a 40) (nI rk) lfa (a 53) (a 56) (a 63) (a 64) (a 68)))), ((a 3), .inl (k 3, 3, .inr (.inr (.inr (.inr (a3 (a 4) (a 9) (a 14))))))), ((a 40), .inl (k 5, 4, .inr (.inr (.inr (.inr (a4 (a 41) (a 44) (a 47) (a 50))))))), ((a 4), .inr (5, (fX5 (a 5) (a 6) (a 7) (a 8)))), (aI k (a 5) 10 (vv n0 see0 tm0 g0)), (aI k (a 6) 24 ff0), (aI k (a 7) 24 fp0), (aI k (a 8) 4 fl0), ((a 9), .inr (5, (fX5 (a 10) (a 11) (a 12) (a 13)))), (aI k (a 10) 10 (vv n1 see1 tm1 g1)), (aI k (a 11) 24 ff1), (aI k (a 12) 24 fp1), (aI k (a 13) 4 fl1), ((a 14), .inr (5, (fX5 (a 15) (a 16) (a 17) (a 18)))), (aI k (a 15) 10 (vv n2 see2 tm2 g2)), (aI k (a 16) 24 ff2), (aI k (a 17) 24 fp2), (aI k (a 18) 4 fl2), ((a 41), .inr (3, (fX3 (a 42) (a 43) rf0 (nI rc0) (nI rr0)))), (aI k (a 42) 24 rs0), (aI k (a 43) 24 rb0), ((a 44), .inr (3, (fX3 (a 45) (a 46) rf1 (nI rc1) (nI rr1)))), (aI k (a 45) 24 rs1), (aI k (a 46) 24 rb1), ((a 47), .inr (3, (fX3 (a 48) (a 49) rf2 (nI rc2) (nI rr2)))), (aI k (a 48) 24 rs2), (aI k (a 49) 24 rb2), ((a 50), .inr (3, (fX3 (a 51) (a 52) rf3 (nI rc3) (nI rr3)))), (aI k (a 51) 24 rs3), (aI k (a 52) 24 rb3), ((a 64), .inr (2, (fX2 (a 65) (a 66) (a 67) wt wc))), (aI k (a 65) 25 ya), (aI k (a 66) 25 yb)] [0, 1, 2, 3, 4, 5, 6, 7, 8, 9, 10, 11, 12, 13, 14, 15, 16, 17, 18, 19, 20, 21, 22, 23, 24, 25, 26, 27, 28, 29, 30, 31, 32] hP hD (by decide +kernel) rfl
        exact W.iret (v := (-1002)) hx hb hr (fun t ht hW => ⟨⟨(-1002), (ya, yb), rfl, mn_at (s := 1) (t := 2) (by omega) (by omega) (by omega) (show 0 < n1 by omega) (show meA p2 (sdX n1 see1 tm1 g1 ff1 fp1) (ruX rf2 rc2 rr2 rs2 rb2) _ from me_o hw_22), by rw [ht]; exact hP9, hD9⟩, hS.F ht⟩) hS.2.2 dX7_mean_55
    · refine lv_if_ne (tgt := 20) hx hb dX7_mean_13 (by decide) (fun _ => ?_) (fun h => absurd h (by decide))
      refine lv_iload_n hx hb dX7_mean_20 rfl (lv_at hl 3 rfl) ?_
      refine lv_iconst (v := 0) hx hb dX7_mean_21 (by decide) ?_
      refine lv_iconst (v := 2) hx hb dX7_mean_22 (by decide) ?_
      refine ro_i (D := D) (va_runS (As := [.int p2, .int 0, .int 2]) (rest := []) ⟨hx, hb, hml, hown, hts⟩ ((k_isIn l D k st lo p2 0 2) H.size) (va_cwS 3 hts (gS tw_593 tw_594 tw_79 tw_595) rfl rfl rfl (by decide +kernel) ⟨Nat.le_of_ble_eq_true rfl, Nat.le_of_ble_eq_true rfl⟩) (pS hS hAlo hlo hP hK (va_Dlo hD hAlo) hZ [] (by decide) rfl) rfl rfl hl.1 rfl (lv_room (Nat.le_of_ble_eq_true rfl)) dX7_mean_23 ⟨Nat.le_of_ble_eq_true rfl, Nat.le_of_ble_eq_true rfl⟩) hS hA hP (fun r_25 H locs hw_25 hP hS => ?_)
      try dsimp only at hw_25
      rcases hw_25 with ⟨rfl, hw_25⟩ | ⟨rfl, hw_25⟩
      · refine lv_if_eq (tgt := 52) hx hb dX7_mean_26 (by decide) (fun h => absurd h (by decide)) (fun _ => ?_)
        obtain ⟨wh_26, hwl_26, hwh_26, rfl⟩ := inB_ofc (a := 0) (b := 2) (by omega) (by omega) hw_25
        refine lv_aload_n hx hb dX7_mean_29 rfl (lv_at hl 0 rfl) ?_
        refine va_get (D := D) (ci := 7) (v := .ref (a 64)) (C := RX7) (T := TX7) (N := 12) hx hb hts inX7 hown hK hP 0 rfl rfl 10 (by decide) (hts _ tw_315) (fun _ h9 => h9) rfl dX7_mean_30 ?_
        refine lv_aload_n hx hb dX7_mean_33 rfl (lv_at hl 0 rfl) ?_
        refine va_get (D := D) (ci := 7) (v := .ref (a 3)) (C := RX7) (T := TX7) (N := 12) hx hb hts inX7 hown hK hP 0 rfl rfl 1 (by decide) (hts _ tw_306) (fun _ h9 => h9) rfl dX7_mean_34 ?_
        refine lv_iload_n hx hb dX7_mean_37 rfl (lv_at hl 1 rfl) ?_
        refine va_aldq hx hb hK hP 1 3 rfl rfl (by unfold vp_in; decide) dX7_mean_38 ?_
        refine lv_tr (y := .ref (a 9)) rfl ?_
        refine lv_aload_n hx hb dX7_mean_39 rfl (lv_at hl 0 rfl) ?_
        refine va_get (D := D) (ci := 7) (v := .ref (a 40)) (C := RX7) (T := TX7) (N := 12) hx hb hts inX7 hown hK hP 0 rfl rfl 4 (by decide) (hts _ tw_309) (fun _ h9 => h9) rfl dX7_mean_40 ?_
        refine lv_iload_n hx hb dX7_mean_43 rfl (lv_at hl 2 rfl) ?_
        refine va_aldq hx hb hK hP 2 5 rfl rfl (by unfold vp_in; decide) dX7_mean_44 ?_
        refine lv_tr (y := .ref (a 50)) rfl ?_
        refine lv_iload_n hx hb dX7_mean_45 rfl (lv_at hl 3 rfl) ?_
        refine rw_i (D := D) (wr := [((a 0), .inr (7, (fX7 (a 1) (a 3) (a 19) (a 35) (a 40) (nI rk) lfa (a 53) (a 56) (a 63) (a 64) (a 68)))), ((a 3), .inl (k 3, 3, .inr (.inr (.inr (.inr (a3 (a 4) (a 9) (a 14))))))), ((a 40), .inl (k 5, 4, .inr (.inr (.inr (.inr (a4 (a 41) (a 44) (a 47) (a 50))))))), ((a 4), .inr (5, (fX5 (a 5) (a 6) (a 7) (a 8)))), (aI k (a 5) 10 (vv n0 see0 tm0 g0)), (aI k (a 6) 24 ff0), (aI k (a 7) 24 fp0), (aI k (a 8) 4 fl0), ((a 14), .inr (5, (fX5 (a 15) (a 16) (a 17) (a 18)))), (aI k (a 15) 10 (vv n2 see2 tm2 g2)), (aI k (a 16) 24 ff2), (aI k (a 17) 24 fp2), (aI k (a 18) 4 fl2), ((a 41), .inr (3, (fX3 (a 42) (a 43) rf0 (nI rc0) (nI rr0)))), (aI k (a 42) 24 rs0), (aI k (a 43) 24 rb0), ((a 44), .inr (3, (fX3 (a 45) (a 46) rf1 (nI rc1) (nI rr1)))), (aI k (a 45) 24 rs1), (aI k (a 46) 24 rb1), ((a 47), .inr (3, (fX3 (a 48) (a 49) rf2 (nI rc2) (nI rr2)))), (aI k (a 48) 24 rs2), (aI k (a 49) 24 rb2)]) (va_runV (As := [.ref (a 9), .ref (a 50), .int (nI wh_26)]) (rest := []) ⟨hx, hb, hml, hown, hts⟩ ((y_meanOf l D k st lo (a 64) (a 65) (a 66) (a 67) wt wc ya yb (a 9) (a 10) (a 11) (a 12) (a 13) n1 see1 tm1 g1 ff1 fp1 fl1 (a 50) (a 51) (a 52) rf3 rc3 rr3 rs3 rb3 wh_26 (by first | assumption | omega) (by first | assumption | omega) (by first | assumption | omega) (by first | assumption | omega) (by first | assumption | omega) (hlt 1 (by omega)) (hok 1 (by omega))) H.size) (cwV 3 hts (gV tw_701 tw_702 tw_703 tw_83 tw_704) rfl rfl rfl (by decide +kernel) ⟨Nat.le_of_ble_eq_true rfl, Nat.le_of_ble_eq_true rfl⟩) (pV hS hAlo hlo hP hK (va_Dlo hD hAlo) hZ [30, 31, 32, 8, 9, 10, 11, 12, 27, 28, 29] (by decide +kernel) rfl (ci := 2) (q := (RX2, TX2, 5)) (q0 := 0) rfl rfl) rfl rfl hl.1 rfl (lv_room (Nat.le_of_ble_eq_true rfl)) dX7_mean_46 ⟨Nat.le_of_ble_eq_true rfl, Nat.le_of_ble_eq_true rfl⟩) hS hA hP hD [30, 31, 32, 8, 9, 10, 11, 12, 27, 28, 29] [0, 1, 2, 3, 4, 5, 6, 7, 13, 14, 15, 16, 17, 18, 19, 20, 21, 22, 23, 24, 25, 26] rfl rfl (by decide +kernel) (by decide +kernel) (fun r_27 u H locs hw_27 hP hD hS => ?_)
        obtain ⟨ya__27, yb__27⟩ := u
        have hQ9 := pd_mk [((a 0), .inr (7, (fX7 (a 1) (a 3) (a 19) (a 35) (a 40) (nI rk) lfa (a 53) (a 56) (a 63) (a 64) (a 68)))), ((a 3), .inl (k 3, 3, .inr (.inr (.inr (.inr (a3 (a 4) (a 9) (a 14))))))), ((a 40), .inl (k 5, 4, .inr (.inr (.inr (.inr (a4 (a 41) (a 44) (a 47) (a 50))))))), ((a 4), .inr (5, (fX5 (a 5) (a 6) (a 7) (a 8)))), (aI k (a 5) 10 (vv n0 see0 tm0 g0)), (aI k (a 6) 24 ff0), (aI k (a 7) 24 fp0), (aI k (a 8) 4 fl0), ((a 14), .inr (5, (fX5 (a 15) (a 16) (a 17) (a 18)))), (aI k (a 15) 10 (vv n2 see2 tm2 g2)), (aI k (a 16) 24 ff2), (aI k (a 17) 24 fp2), (aI k (a 18) 4 fl2), ((a 41), .inr (3, (fX3 (a 42) (a 43) rf0 (nI rc0) (nI rr0)))), (aI k (a 42) 24 rs0), (aI k (a 43) 24 rb0), ((a 44), .inr (3, (fX3 (a 45) (a 46) rf1 (nI rc1) (nI rr1)))), (aI k (a 45) 24 rs1), (aI k (a 46) 24 rb1), ((a 47), .inr (3, (fX3 (a 48) (a 49) rf2 (nI rc2) (nI rr2)))), (aI k (a 48) 24 rs2), (aI k (a 49) 24 rb2), ((a 64), .inr (2, (fX2 (a 65) (a 66) (a 67) wt wc))), (aI k (a 65) 25 ya__27), (aI k (a 66) 25 yb__27), ((a 9), .inr (5, (fX5 (a 10) (a 11) (a 12) (a 13)))), (aI k (a 10) 10 (vv n1 see1 tm1 g1)), (aI k (a 11) 24 ff1), (aI k (a 12) 24 fp1), (aI k (a 13) 4 fl1), ((a 50), .inr (3, (fX3 (a 51) (a 52) rf3 (nI rc3) (nI rr3)))), (aI k (a 51) 24 rs3), (aI k (a 52) 24 rb3)] hP hD
        clear hP hD
        obtain ⟨hP, hD⟩ := hQ9
        try dsimp only at hw_27
        refine lv_goto (tgt := 55) hx hb dX7_mean_49 (by decide) ?_
        obtain ⟨hP9, hD9⟩ := pd_sub [((a 0), .inr (7, (fX7 (a 1) (a 3) (a 19) (a 35) (a 40) (nI rk) lfa (a 53) (a 56) (a 63) (a 64) (a 68)))), ((a 3), .inl (k 3, 3, .inr (.inr (.inr (.inr (a3 (a 4) (a 9) (a 14))))))), ((a 40), .inl (k 5, 4, .inr (.inr (.inr (.inr (a4 (a 41) (a 44) (a 47) (a 50))))))), ((a 4), .inr (5, (fX5 (a 5) (a 6) (a 7) (a 8)))), (aI k (a 5) 10 (vv n0 see0 tm0 g0)), (aI k (a 6) 24 ff0), (aI k (a 7) 24 fp0), (aI k (a 8) 4 fl0), ((a 9), .inr (5, (fX5 (a 10) (a 11) (a 12) (a 13)))), (aI k (a 10) 10 (vv n1 see1 tm1 g1)), (aI k (a 11) 24 ff1), (aI k (a 12) 24 fp1), (aI k (a 13) 4 fl1), ((a 14), .inr (5, (fX5 (a 15) (a 16) (a 17) (a 18)))), (aI k (a 15) 10 (vv n2 see2 tm2 g2)), (aI k (a 16) 24 ff2), (aI k (a 17) 24 fp2), (aI k (a 18) 4 fl2), ((a 41), .inr (3, (fX3 (a 42) (a 43) rf0 (nI rc0) (nI rr0)))), (aI k (a 42) 24 rs0), (aI k (a 43) 24 rb0), ((a 44), .inr (3, (fX3 (a 45) (a 46) rf1 (nI rc1) (nI rr1)))), (aI k (a 45) 24 rs1), (aI k (a 46) 24 rb1), ((a 47), .inr (3, (fX3 (a 48) (a 49) rf2 (nI rc2) (nI rr2)))), (aI k (a 48) 24 rs2), (aI k (a 49) 24 rb2), ((a 50), .inr (3, (fX3 (a 51) (a 52) rf3 (nI rc3) (nI rr3)))), (aI k (a 51) 24 rs3), (aI k (a 52) 24 rb3), ((a 64), .inr (2, (fX2 (a 65) (a 66) (a 67) wt wc))), (aI k (a 65) 25 ya__27), (aI k (a 66) 25 yb__27)] [0, 1, 2, 3, 4, 5, 6, 7, 25, 26, 27, 28, 29, 8, 9, 10, 11, 12, 13, 14, 15, 16, 17, 18, 19, 20, 21, 30, 31, 32, 22, 23, 24] hP hD (by decide +kernel) rfl
        exact W.iret (v := r_27) hx hb hr (fun t ht hW => ⟨⟨r_27, (ya__27, yb__27), rfl, mn_at (s := 1) (t := 3) (by omega) (by omega) (by omega) (show 0 < n1 by omega) (show meA (nI wh_26) (sdX n1 see1 tm1 g1 ff1 fp1) (ruX rf3 rc3 rr3 rs3 rb3) _ from me_i (by omega) (by rw [(show muD (sdX n1 see1 tm1 g1 ff1 fp1) (ruX rf3 rc3 rr3 rs3 rb3) = min rr3 tm1 by unfold muD; rw [tmX (by omega)]; exact congrArg (fun z => min z tm1) (nI_clamp (by omega)))]; exact hw_27)), by rw [ht]; exact hP9, hD9⟩, hS.F ht⟩) hS.2.2 dX7_mean_55
      · refine lv_if_eq (tgt := 52) hx hb dX7_mean_26 (by decide) (fun _ => ?_) (fun h => absurd (by decide) h)
        refine lv_sipush (v := (-1002)) hx hb dX7_mean_52 (by decide) ?_
        obtain ⟨hP9, hD9⟩ := pd_sub [((a 0), .inr (7, (fX7 (a 1) (a 3) (a 19) (a 35) (a 40) (nI rk) lfa (a 53) (a 56) (a 63) (a 64) (a 68)))), ((a 3), .inl (k 3, 3, .inr (.inr (.inr (.inr (a3 (a 4) (a 9) (a 14))))))), ((a 40), .inl (k 5, 4, .inr (.inr (.inr (.inr (a4 (a 41) (a 44) (a 47) (a 50))))))), ((a 4), .inr (5, (fX5 (a 5) (a 6) (a 7) (a 8)))), (aI k (a 5) 10 (vv n0 see0 tm0 g0)), (aI k (a 6) 24 ff0), (aI k (a 7) 24 fp0), (aI k (a 8) 4 fl0), ((a 9), .inr (5, (fX5 (a 10) (a 11) (a 12) (a 13)))), (aI k (a 10) 10 (vv n1 see1 tm1 g1)), (aI k (a 11) 24 ff1), (aI k (a 12) 24 fp1), (aI k (a 13) 4 fl1), ((a 14), .inr (5, (fX5 (a 15) (a 16) (a 17) (a 18)))), (aI k (a 15) 10 (vv n2 see2 tm2 g2)), (aI k (a 16) 24 ff2), (aI k (a 17) 24 fp2), (aI k (a 18) 4 fl2), ((a 41), .inr (3, (fX3 (a 42) (a 43) rf0 (nI rc0) (nI rr0)))), (aI k (a 42) 24 rs0), (aI k (a 43) 24 rb0), ((a 44), .inr (3, (fX3 (a 45) (a 46) rf1 (nI rc1) (nI rr1)))), (aI k (a 45) 24 rs1), (aI k (a 46) 24 rb1), ((a 47), .inr (3, (fX3 (a 48) (a 49) rf2 (nI rc2) (nI rr2)))), (aI k (a 48) 24 rs2), (aI k (a 49) 24 rb2), ((a 50), .inr (3, (fX3 (a 51) (a 52) rf3 (nI rc3) (nI rr3)))), (aI k (a 51) 24 rs3), (aI k (a 52) 24 rb3), ((a 64), .inr (2, (fX2 (a 65) (a 66) (a 67) wt wc))), (aI k (a 65) 25 ya), (aI k (a 66) 25 yb)] [0, 1, 2, 3, 4, 5, 6, 7, 8, 9, 10, 11, 12, 13, 14, 15, 16, 17, 18, 19, 20, 21, 22, 23, 24, 25, 26, 27, 28, 29, 30, 31, 32] hP hD (by decide +kernel) rfl
        exact W.iret (v := (-1002)) hx hb hr (fun t ht hW => ⟨⟨(-1002), (ya, yb), rfl, mn_at (s := 1) (t := 3) (by omega) (by omega) (by omega) (show 0 < n1 by omega) (show meA p2 (sdX n1 see1 tm1 g1 ff1 fp1) (ruX rf3 rc3 rr3 rs3 rb3) _ from me_o hw_25), by rw [ht]; exact hP9, hD9⟩, hS.F ht⟩) hS.2.2 dX7_mean_55
    · refine lv_if_ne (tgt := 20) hx hb dX7_mean_13 (by decide) (fun h => absurd (by decide) h) (fun _ => ?_)
      refine lv_sipush (v := (-1001)) hx hb dX7_mean_16 (by decide) ?_
      obtain ⟨hP9, hD9⟩ := pd_sub [((a 0), .inr (7, (fX7 (a 1) (a 3) (a 19) (a 35) (a 40) (nI rk) lfa (a 53) (a 56) (a 63) (a 64) (a 68)))), ((a 3), .inl (k 3, 3, .inr (.inr (.inr (.inr (a3 (a 4) (a 9) (a 14))))))), ((a 40), .inl (k 5, 4, .inr (.inr (.inr (.inr (a4 (a 41) (a 44) (a 47) (a 50))))))), ((a 4), .inr (5, (fX5 (a 5) (a 6) (a 7) (a 8)))), (aI k (a 5) 10 (vv n0 see0 tm0 g0)), (aI k (a 6) 24 ff0), (aI k (a 7) 24 fp0), (aI k (a 8) 4 fl0), ((a 9), .inr (5, (fX5 (a 10) (a 11) (a 12) (a 13)))), (aI k (a 10) 10 (vv n1 see1 tm1 g1)), (aI k (a 11) 24 ff1), (aI k (a 12) 24 fp1), (aI k (a 13) 4 fl1), ((a 14), .inr (5, (fX5 (a 15) (a 16) (a 17) (a 18)))), (aI k (a 15) 10 (vv n2 see2 tm2 g2)), (aI k (a 16) 24 ff2), (aI k (a 17) 24 fp2), (aI k (a 18) 4 fl2), ((a 41), .inr (3, (fX3 (a 42) (a 43) rf0 (nI rc0) (nI rr0)))), (aI k (a 42) 24 rs0), (aI k (a 43) 24 rb0), ((a 44), .inr (3, (fX3 (a 45) (a 46) rf1 (nI rc1) (nI rr1)))), (aI k (a 45) 24 rs1), (aI k (a 46) 24 rb1), ((a 47), .inr (3, (fX3 (a 48) (a 49) rf2 (nI rc2) (nI rr2)))), (aI k (a 48) 24 rs2), (aI k (a 49) 24 rb2), ((a 50), .inr (3, (fX3 (a 51) (a 52) rf3 (nI rc3) (nI rr3)))), (aI k (a 51) 24 rs3), (aI k (a 52) 24 rb3), ((a 64), .inr (2, (fX2 (a 65) (a 66) (a 67) wt wc))), (aI k (a 65) 25 ya), (aI k (a 66) 25 yb)] [0, 1, 2, 3, 4, 5, 6, 7, 8, 9, 10, 11, 12, 13, 14, 15, 16, 17, 18, 19, 20, 21, 22, 23, 24, 25, 26, 27, 28, 29, 30, 31, 32] hP hD (by decide +kernel) rfl
      exact W.iret (v := (-1001)) hx hb hr (fun t ht hW => ⟨⟨(-1001), (ya, yb), rfl, mn_no1 hw_15, by rw [ht]; exact hP9, hD9⟩, hS.F ht⟩) hS.2.2 dX7_mean_19
  · refine lv_if_eq (tgt := 16) hx hb dX7_mean_5 (by decide) (fun h => absurd h (by decide)) (fun _ => ?_)
    refine lv_aload_n hx hb dX7_mean_8 rfl (lv_at hl 0 rfl) ?_
    refine lv_iload_n hx hb dX7_mean_9 rfl (lv_at hl 2 rfl) ?_
    refine ro_i (D := D) (va_runV (As := [.int p1]) (rest := []) ⟨hx, hb, hml, hown, hts⟩ ((y_isRule l D k st lo a rk lfa p1 (by first | assumption | omega)) H.size) (cwV 1 hts (gV tw_697 tw_699 tw_15 tw_79 tw_700) rfl rfl rfl (by decide +kernel) ⟨Nat.le_of_ble_eq_true rfl, Nat.le_of_ble_eq_true rfl⟩) (pV hS hAlo hlo hP hK (va_Dlo hD hAlo) hZ [0] (by decide) rfl (ci := 7) (q := (RX7, TX7, 12)) (q0 := 0) rfl rfl) rfl rfl hl.1 rfl (lv_room (Nat.le_of_ble_eq_true rfl)) dX7_mean_10 ⟨Nat.le_of_ble_eq_true rfl, Nat.le_of_ble_eq_true rfl⟩) hS hA hP (fun r_28 H locs hw_28 hP hS => ?_)
    try dsimp only at hw_28
    rcases hw_28 with ⟨rfl, ⟨rfl, hw_28⟩ | ⟨rfl, hw_28⟩ | ⟨rfl, hw_28⟩ | ⟨rfl, hw_28⟩⟩ | ⟨rfl, hw_28⟩
    · refine lv_if_ne (tgt := 20) hx hb dX7_mean_13 (by decide) (fun _ => ?_) (fun h => absurd h (by decide))
      refine lv_iload_n hx hb dX7_mean_20 rfl (lv_at hl 3 rfl) ?_
      refine lv_iconst (v := 0) hx hb dX7_mean_21 (by decide) ?_
      refine lv_iconst (v := 2) hx hb dX7_mean_22 (by decide) ?_
      refine ro_i (D := D) (va_runS (As := [.int p2, .int 0, .int 2]) (rest := []) ⟨hx, hb, hml, hown, hts⟩ ((k_isIn l D k st lo p2 0 2) H.size) (va_cwS 3 hts (gS tw_593 tw_594 tw_79 tw_595) rfl rfl rfl (by decide +kernel) ⟨Nat.le_of_ble_eq_true rfl, Nat.le_of_ble_eq_true rfl⟩) (pS hS hAlo hlo hP hK (va_Dlo hD hAlo) hZ [] (by decide) rfl) rfl rfl hl.1 rfl (lv_room (Nat.le_of_ble_eq_true rfl)) dX7_mean_23 ⟨Nat.le_of_ble_eq_true rfl, Nat.le_of_ble_eq_true rfl⟩) hS hA hP (fun r_29 H locs hw_29 hP hS => ?_)
      try dsimp only at hw_29
      rcases hw_29 with ⟨rfl, hw_29⟩ | ⟨rfl, hw_29⟩
      · refine lv_if_eq (tgt := 52) hx hb dX7_mean_26 (by decide) (fun h => absurd h (by decide)) (fun _ => ?_)
        obtain ⟨wh_30, hwl_30, hwh_30, rfl⟩ := inB_ofc (a := 0) (b := 2) (by omega) (by omega) hw_29
        refine lv_aload_n hx hb dX7_mean_29 rfl (lv_at hl 0 rfl) ?_
        refine va_get (D := D) (ci := 7) (v := .ref (a 64)) (C := RX7) (T := TX7) (N := 12) hx hb hts inX7 hown hK hP 0 rfl rfl 10 (by decide) (hts _ tw_315) (fun _ h9 => h9) rfl dX7_mean_30 ?_
        refine lv_aload_n hx hb dX7_mean_33 rfl (lv_at hl 0 rfl) ?_
        refine va_get (D := D) (ci := 7) (v := .ref (a 3)) (C := RX7) (T := TX7) (N := 12) hx hb hts inX7 hown hK hP 0 rfl rfl 1 (by decide) (hts _ tw_306) (fun _ h9 => h9) rfl dX7_mean_34 ?_
        refine lv_iload_n hx hb dX7_mean_37 rfl (lv_at hl 1 rfl) ?_
        refine va_aldq hx hb hK hP 1 3 rfl rfl (by unfold vp_in; decide) dX7_mean_38 ?_
        refine lv_tr (y := .ref (a 14)) rfl ?_
        refine lv_aload_n hx hb dX7_mean_39 rfl (lv_at hl 0 rfl) ?_
        refine va_get (D := D) (ci := 7) (v := .ref (a 40)) (C := RX7) (T := TX7) (N := 12) hx hb hts inX7 hown hK hP 0 rfl rfl 4 (by decide) (hts _ tw_309) (fun _ h9 => h9) rfl dX7_mean_40 ?_
        refine lv_iload_n hx hb dX7_mean_43 rfl (lv_at hl 2 rfl) ?_
        refine va_aldq hx hb hK hP 2 5 rfl rfl (by unfold vp_in; decide) dX7_mean_44 ?_
        refine lv_tr (y := .ref (a 41)) rfl ?_
        refine lv_iload_n hx hb dX7_mean_45 rfl (lv_at hl 3 rfl) ?_
        refine rw_i (D := D) (wr := [((a 0), .inr (7, (fX7 (a 1) (a 3) (a 19) (a 35) (a 40) (nI rk) lfa (a 53) (a 56) (a 63) (a 64) (a 68)))), ((a 3), .inl (k 3, 3, .inr (.inr (.inr (.inr (a3 (a 4) (a 9) (a 14))))))), ((a 40), .inl (k 5, 4, .inr (.inr (.inr (.inr (a4 (a 41) (a 44) (a 47) (a 50))))))), ((a 4), .inr (5, (fX5 (a 5) (a 6) (a 7) (a 8)))), (aI k (a 5) 10 (vv n0 see0 tm0 g0)), (aI k (a 6) 24 ff0), (aI k (a 7) 24 fp0), (aI k (a 8) 4 fl0), ((a 9), .inr (5, (fX5 (a 10) (a 11) (a 12) (a 13)))), (aI k (a 10) 10 (vv n1 see1 tm1 g1)), (aI k (a 11) 24 ff1), (aI k (a 12) 24 fp1), (aI k (a 13) 4 fl1), ((a 44), .inr (3, (fX3 (a 45) (a 46) rf1 (nI rc1) (nI rr1)))), (aI k (a 45) 24 rs1), (aI k (a 46) 24 rb1), ((a 47), .inr (3, (fX3 (a 48) (a 49) rf2 (nI rc2) (nI rr2)))), (aI k (a 48) 24 rs2), (aI k (a 49) 24 rb2), ((a 50), .inr (3, (fX3 (a 51) (a 52) rf3 (nI rc3) (nI rr3)))), (aI k (a 51) 24 rs3), (aI k (a 52) 24 rb3)]) (va_runV (As := [.ref (a 14), .ref (a 41), .int (nI wh_30)]) (rest := []) ⟨hx, hb, hml, hown, hts⟩ ((y_meanOf l D k st lo (a 64) (a 65) (a 66) (a 67) wt wc ya yb (a 14) (a 15) (a 16) (a 17) (a 18) n2 see2 tm2 g2 ff2 fp2 fl2 (a 41) (a 42) (a 43) rf0 rc0 rr0 rs0 rb0 wh_30 (by first | assumption | omega) (by first | assumption | omega) (by first | assumption | omega) (by first | assumption | omega) (by first | assumption | omega) (hlt 2 (by omega)) (hok 2 (by omega))) H.size) (cwV 3 hts (gV tw_701 tw_702 tw_703 tw_83 tw_704) rfl rfl rfl (by decide +kernel) ⟨Nat.le_of_ble_eq_true rfl, Nat.le_of_ble_eq_true rfl⟩) (pV hS hAlo hlo hP hK (va_Dlo hD hAlo) hZ [30, 31, 32, 13, 14, 15, 16, 17, 18, 19, 20] (by decide +kernel) rfl (ci := 2) (q := (RX2, TX2, 5)) (q0 := 0) rfl rfl) rfl rfl hl.1 rfl (lv_room (Nat.le_of_ble_eq_true rfl)) dX7_mean_46 ⟨Nat.le_of_ble_eq_true rfl, Nat.le_of_ble_eq_true rfl⟩) hS hA hP hD [30, 31, 32, 13, 14, 15, 16, 17, 18, 19, 20] [0, 1, 2, 3, 4, 5, 6, 7, 8, 9, 10, 11, 12, 21, 22, 23, 24, 25, 26, 27, 28, 29] rfl rfl (by decide +kernel) (by decide +kernel) (fun r_31 u H locs hw_31 hP hD hS => ?_)
        obtain ⟨ya__31, yb__31⟩ := u
        have hQ9 := pd_mk [((a 0), .inr (7, (fX7 (a 1) (a 3) (a 19) (a 35) (a 40) (nI rk) lfa (a 53) (a 56) (a 63) (a 64) (a 68)))), ((a 3), .inl (k 3, 3, .inr (.inr (.inr (.inr (a3 (a 4) (a 9) (a 14))))))), ((a 40), .inl (k 5, 4, .inr (.inr (.inr (.inr (a4 (a 41) (a 44) (a 47) (a 50))))))), ((a 4), .inr (5, (fX5 (a 5) (a 6) (a 7) (a 8)))), (aI k (a 5) 10 (vv n0 see0 tm0 g0)), (aI k (a 6) 24 ff0), (aI k (a 7) 24 fp0), (aI k (a 8) 4 fl0), ((a 9), .inr (5, (fX5 (a 10) (a 11) (a 12) (a 13)))), (aI k (a 10) 10 (vv n1 see1 tm1 g1)), (aI k (a 11) 24 ff1), (aI k (a 12) 24 fp1), (aI k (a 13) 4 fl1), ((a 44), .inr (3, (fX3 (a 45) (a 46) rf1 (nI rc1) (nI rr1)))), (aI k (a 45) 24 rs1), (aI k (a 46) 24 rb1), ((a 47), .inr (3, (fX3 (a 48) (a 49) rf2 (nI rc2) (nI rr2)))), (aI k (a 48) 24 rs2), (aI k (a 49) 24 rb2), ((a 50), .inr (3, (fX3 (a 51) (a 52) rf3 (nI rc3) (nI rr3)))), (aI k (a 51) 24 rs3), (aI k (a 52) 24 rb3), ((a 64), .inr (2, (fX2 (a 65) (a 66) (a 67) wt wc))), (aI k (a 65) 25 ya__31), (aI k (a 66) 25 yb__31), ((a 14), .inr (5, (fX5 (a 15) (a 16) (a 17) (a 18)))), (aI k (a 15) 10 (vv n2 see2 tm2 g2)), (aI k (a 16) 24 ff2), (aI k (a 17) 24 fp2), (aI k (a 18) 4 fl2), ((a 41), .inr (3, (fX3 (a 42) (a 43) rf0 (nI rc0) (nI rr0)))), (aI k (a 42) 24 rs0), (aI k (a 43) 24 rb0)] hP hD
        clear hP hD
        obtain ⟨hP, hD⟩ := hQ9
        try dsimp only at hw_31
        refine lv_goto (tgt := 55) hx hb dX7_mean_49 (by decide) ?_
        obtain ⟨hP9, hD9⟩ := pd_sub [((a 0), .inr (7, (fX7 (a 1) (a 3) (a 19) (a 35) (a 40) (nI rk) lfa (a 53) (a 56) (a 63) (a 64) (a 68)))), ((a 3), .inl (k 3, 3, .inr (.inr (.inr (.inr (a3 (a 4) (a 9) (a 14))))))), ((a 40), .inl (k 5, 4, .inr (.inr (.inr (.inr (a4 (a 41) (a 44) (a 47) (a 50))))))), ((a 4), .inr (5, (fX5 (a 5) (a 6) (a 7) (a 8)))), (aI k (a 5) 10 (vv n0 see0 tm0 g0)), (aI k (a 6) 24 ff0), (aI k (a 7) 24 fp0), (aI k (a 8) 4 fl0), ((a 9), .inr (5, (fX5 (a 10) (a 11) (a 12) (a 13)))), (aI k (a 10) 10 (vv n1 see1 tm1 g1)), (aI k (a 11) 24 ff1), (aI k (a 12) 24 fp1), (aI k (a 13) 4 fl1), ((a 14), .inr (5, (fX5 (a 15) (a 16) (a 17) (a 18)))), (aI k (a 15) 10 (vv n2 see2 tm2 g2)), (aI k (a 16) 24 ff2), (aI k (a 17) 24 fp2), (aI k (a 18) 4 fl2), ((a 41), .inr (3, (fX3 (a 42) (a 43) rf0 (nI rc0) (nI rr0)))), (aI k (a 42) 24 rs0), (aI k (a 43) 24 rb0), ((a 44), .inr (3, (fX3 (a 45) (a 46) rf1 (nI rc1) (nI rr1)))), (aI k (a 45) 24 rs1), (aI k (a 46) 24 rb1), ((a 47), .inr (3, (fX3 (a 48) (a 49) rf2 (nI rc2) (nI rr2)))), (aI k (a 48) 24 rs2), (aI k (a 49) 24 rb2), ((a 50), .inr (3, (fX3 (a 51) (a 52) rf3 (nI rc3) (nI rr3)))), (aI k (a 51) 24 rs3), (aI k (a 52) 24 rb3), ((a 64), .inr (2, (fX2 (a 65) (a 66) (a 67) wt wc))), (aI k (a 65) 25 ya__31), (aI k (a 66) 25 yb__31)] [0, 1, 2, 3, 4, 5, 6, 7, 8, 9, 10, 11, 12, 25, 26, 27, 28, 29, 30, 31, 32, 13, 14, 15, 16, 17, 18, 19, 20, 21, 22, 23, 24] hP hD (by decide +kernel) rfl
        exact W.iret (v := r_31) hx hb hr (fun t ht hW => ⟨⟨r_31, (ya__31, yb__31), rfl, mn_at (s := 2) (t := 0) (by omega) (by omega) (by omega) (show 0 < n2 by omega) (show meA (nI wh_30) (sdX n2 see2 tm2 g2 ff2 fp2) (ruX rf0 rc0 rr0 rs0 rb0) _ from me_i (by omega) (by rw [(show muD (sdX n2 see2 tm2 g2 ff2 fp2) (ruX rf0 rc0 rr0 rs0 rb0) = min rr0 tm2 by unfold muD; rw [tmX (by omega)]; exact congrArg (fun z => min z tm2) (nI_clamp (by omega)))]; exact hw_31)), by rw [ht]; exact hP9, hD9⟩, hS.F ht⟩) hS.2.2 dX7_mean_55
      · refine lv_if_eq (tgt := 52) hx hb dX7_mean_26 (by decide) (fun _ => ?_) (fun h => absurd (by decide) h)
        refine lv_sipush (v := (-1002)) hx hb dX7_mean_52 (by decide) ?_
        obtain ⟨hP9, hD9⟩ := pd_sub [((a 0), .inr (7, (fX7 (a 1) (a 3) (a 19) (a 35) (a 40) (nI rk) lfa (a 53) (a 56) (a 63) (a 64) (a 68)))), ((a 3), .inl (k 3, 3, .inr (.inr (.inr (.inr (a3 (a 4) (a 9) (a 14))))))), ((a 40), .inl (k 5, 4, .inr (.inr (.inr (.inr (a4 (a 41) (a 44) (a 47) (a 50))))))), ((a 4), .inr (5, (fX5 (a 5) (a 6) (a 7) (a 8)))), (aI k (a 5) 10 (vv n0 see0 tm0 g0)), (aI k (a 6) 24 ff0), (aI k (a 7) 24 fp0), (aI k (a 8) 4 fl0), ((a 9), .inr (5, (fX5 (a 10) (a 11) (a 12) (a 13)))), (aI k (a 10) 10 (vv n1 see1 tm1 g1)), (aI k (a 11) 24 ff1), (aI k (a 12) 24 fp1), (aI k (a 13) 4 fl1), ((a 14), .inr (5, (fX5 (a 15) (a 16) (a 17) (a 18)))), (aI k (a 15) 10 (vv n2 see2 tm2 g2)), (aI k (a 16) 24 ff2), (aI k (a 17) 24 fp2), (aI k (a 18) 4 fl2), ((a 41), .inr (3, (fX3 (a 42) (a 43) rf0 (nI rc0) (nI rr0)))), (aI k (a 42) 24 rs0), (aI k (a 43) 24 rb0), ((a 44), .inr (3, (fX3 (a 45) (a 46) rf1 (nI rc1) (nI rr1)))), (aI k (a 45) 24 rs1), (aI k (a 46) 24 rb1), ((a 47), .inr (3, (fX3 (a 48) (a 49) rf2 (nI rc2) (nI rr2)))), (aI k (a 48) 24 rs2), (aI k (a 49) 24 rb2), ((a 50), .inr (3, (fX3 (a 51) (a 52) rf3 (nI rc3) (nI rr3)))), (aI k (a 51) 24 rs3), (aI k (a 52) 24 rb3), ((a 64), .inr (2, (fX2 (a 65) (a 66) (a 67) wt wc))), (aI k (a 65) 25 ya), (aI k (a 66) 25 yb)] [0, 1, 2, 3, 4, 5, 6, 7, 8, 9, 10, 11, 12, 13, 14, 15, 16, 17, 18, 19, 20, 21, 22, 23, 24, 25, 26, 27, 28, 29, 30, 31, 32] hP hD (by decide +kernel) rfl
        exact W.iret (v := (-1002)) hx hb hr (fun t ht hW => ⟨⟨(-1002), (ya, yb), rfl, mn_at (s := 2) (t := 0) (by omega) (by omega) (by omega) (show 0 < n2 by omega) (show meA p2 (sdX n2 see2 tm2 g2 ff2 fp2) (ruX rf0 rc0 rr0 rs0 rb0) _ from me_o hw_29), by rw [ht]; exact hP9, hD9⟩, hS.F ht⟩) hS.2.2 dX7_mean_55
    · refine lv_if_ne (tgt := 20) hx hb dX7_mean_13 (by decide) (fun _ => ?_) (fun h => absurd h (by decide))
      refine lv_iload_n hx hb dX7_mean_20 rfl (lv_at hl 3 rfl) ?_
      refine lv_iconst (v := 0) hx hb dX7_mean_21 (by decide) ?_
      refine lv_iconst (v := 2) hx hb dX7_mean_22 (by decide) ?_
      refine ro_i (D := D) (va_runS (As := [.int p2, .int 0, .int 2]) (rest := []) ⟨hx, hb, hml, hown, hts⟩ ((k_isIn l D k st lo p2 0 2) H.size) (va_cwS 3 hts (gS tw_593 tw_594 tw_79 tw_595) rfl rfl rfl (by decide +kernel) ⟨Nat.le_of_ble_eq_true rfl, Nat.le_of_ble_eq_true rfl⟩) (pS hS hAlo hlo hP hK (va_Dlo hD hAlo) hZ [] (by decide) rfl) rfl rfl hl.1 rfl (lv_room (Nat.le_of_ble_eq_true rfl)) dX7_mean_23 ⟨Nat.le_of_ble_eq_true rfl, Nat.le_of_ble_eq_true rfl⟩) hS hA hP (fun r_32 H locs hw_32 hP hS => ?_)
      try dsimp only at hw_32
      rcases hw_32 with ⟨rfl, hw_32⟩ | ⟨rfl, hw_32⟩
      · refine lv_if_eq (tgt := 52) hx hb dX7_mean_26 (by decide) (fun h => absurd h (by decide)) (fun _ => ?_)
        obtain ⟨wh_33, hwl_33, hwh_33, rfl⟩ := inB_ofc (a := 0) (b := 2) (by omega) (by omega) hw_32
        refine lv_aload_n hx hb dX7_mean_29 rfl (lv_at hl 0 rfl) ?_
        refine va_get (D := D) (ci := 7) (v := .ref (a 64)) (C := RX7) (T := TX7) (N := 12) hx hb hts inX7 hown hK hP 0 rfl rfl 10 (by decide) (hts _ tw_315) (fun _ h9 => h9) rfl dX7_mean_30 ?_
        refine lv_aload_n hx hb dX7_mean_33 rfl (lv_at hl 0 rfl) ?_
        refine va_get (D := D) (ci := 7) (v := .ref (a 3)) (C := RX7) (T := TX7) (N := 12) hx hb hts inX7 hown hK hP 0 rfl rfl 1 (by decide) (hts _ tw_306) (fun _ h9 => h9) rfl dX7_mean_34 ?_
        refine lv_iload_n hx hb dX7_mean_37 rfl (lv_at hl 1 rfl) ?_
        refine va_aldq hx hb hK hP 1 3 rfl rfl (by unfold vp_in; decide) dX7_mean_38 ?_
        refine lv_tr (y := .ref (a 14)) rfl ?_
        refine lv_aload_n hx hb dX7_mean_39 rfl (lv_at hl 0 rfl) ?_
        refine va_get (D := D) (ci := 7) (v := .ref (a 40)) (C := RX7) (T := TX7) (N := 12) hx hb hts inX7 hown hK hP 0 rfl rfl 4 (by decide) (hts _ tw_309) (fun _ h9 => h9) rfl dX7_mean_40 ?_
        refine lv_iload_n hx hb dX7_mean_43 rfl (lv_at hl 2 rfl) ?_
        refine va_aldq hx hb hK hP 2 5 rfl rfl (by unfold vp_in; decide) dX7_mean_44 ?_
        refine lv_tr (y := .ref (a 44)) rfl ?_
        refine lv_iload_n hx hb dX7_mean_45 rfl (lv_at hl 3 rfl) ?_
        refine rw_i (D := D) (wr := [((a 0), .inr (7, (fX7 (a 1) (a 3) (a 19) (a 35) (a 40) (nI rk) lfa (a 53) (a 56) (a 63) (a 64) (a 68)))), ((a 3), .inl (k 3, 3, .inr (.inr (.inr (.inr (a3 (a 4) (a 9) (a 14))))))), ((a 40), .inl (k 5, 4, .inr (.inr (.inr (.inr (a4 (a 41) (a 44) (a 47) (a 50))))))), ((a 4), .inr (5, (fX5 (a 5) (a 6) (a 7) (a 8)))), (aI k (a 5) 10 (vv n0 see0 tm0 g0)), (aI k (a 6) 24 ff0), (aI k (a 7) 24 fp0), (aI k (a 8) 4 fl0), ((a 9), .inr (5, (fX5 (a 10) (a 11) (a 12) (a 13)))), (aI k (a 10) 10 (vv n1 see1 tm1 g1)), (aI k (a 11) 24 ff1), (aI k (a 12) 24 fp1), (aI k (a 13) 4 fl1), ((a 41), .inr (3, (fX3 (a 42) (a 43) rf0 (nI rc0) (nI rr0)))), (aI k (a 42) 24 rs0), (aI k (a 43) 24 rb0), ((a 47), .inr (3, (fX3 (a 48) (a 49) rf2 (nI rc2) (nI rr2)))), (aI k (a 48) 24 rs2), (aI k (a 49) 24 rb2), ((a 50), .inr (3, (fX3 (a 51) (a 52) rf3 (nI rc3) (nI rr3)))), (aI k (a 51) 24 rs3), (aI k (a 52) 24 rb3)]) (va_runV (As := [.ref (a 14), .ref (a 44), .int (nI wh_33)]) (rest := []) ⟨hx, hb, hml, hown, hts⟩ ((y_meanOf l D k st lo (a 64) (a 65) (a 66) (a 67) wt wc ya yb (a 14) (a 15) (a 16) (a 17) (a 18) n2 see2 tm2 g2 ff2 fp2 fl2 (a 44) (a 45) (a 46) rf1 rc1 rr1 rs1 rb1 wh_33 (by first | assumption | omega) (by first | assumption | omega) (by first | assumption | omega) (by first | assumption | omega) (by first | assumption | omega) (hlt 2 (by omega)) (hok 2 (by omega))) H.size) (cwV 3 hts (gV tw_701 tw_702 tw_703 tw_83 tw_704) rfl rfl rfl (by decide +kernel) ⟨Nat.le_of_ble_eq_true rfl, Nat.le_of_ble_eq_true rfl⟩) (pV hS hAlo hlo hP hK (va_Dlo hD hAlo) hZ [30, 31, 32, 13, 14, 15, 16, 17, 21, 22, 23] (by decide +kernel) rfl (ci := 2) (q := (RX2, TX2, 5)) (q0 := 0) rfl rfl) rfl rfl hl.1 rfl (lv_room (Nat.le_of_ble_eq_true rfl)) dX7_mean_46 ⟨Nat.le_of_ble_eq_true rfl, Nat.le_of_ble_eq_true rfl⟩) hS hA hP hD [30, 31, 32, 13, 14, 15, 16, 17, 21, 22, 23] [0, 1, 2, 3, 4, 5, 6, 7, 8, 9, 10, 11, 12, 18, 19, 20, 24, 25, 26, 27, 28, 29] rfl rfl (by decide +kernel) (by decide +kernel) (fun r_34 u H locs hw_34 hP hD hS => ?_)
        obtain ⟨ya__34, yb__34⟩ := u
        have hQ9 := pd_mk [((a 0), .inr (7, (fX7 (a 1) (a 3) (a 19) (a 35) (a 40) (nI rk) lfa (a 53) (a 56) (a 63) (a 64) (a 68)))), ((a 3), .inl (k 3, 3, .inr (.inr (.inr (.inr (a3 (a 4) (a 9) (a 14))))))), ((a 40), .inl (k 5, 4, .inr (.inr (.inr (.inr (a4 (a 41) (a 44) (a 47) (a 50))))))), ((a 4), .inr (5, (fX5 (a 5) (a 6) (a 7) (a 8)))), (aI k (a 5) 10 (vv n0 see0 tm0 g0)), (aI k (a 6) 24 ff0), (aI k (a 7) 24 fp0), (aI k (a 8) 4 fl0), ((a 9), .inr (5, (fX5 (a 10) (a 11) (a 12) (a 13)))), (aI k (a 10) 10 (vv n1 see1 tm1 g1)), (aI k (a 11) 24 ff1), (aI k (a 12) 24 fp1), (aI k (a 13) 4 fl1), ((a 41), .inr (3, (fX3 (a 42) (a 43) rf0 (nI rc0) (nI rr0)))), (aI k (a 42) 24 rs0), (aI k (a 43) 24 rb0), ((a 47), .inr (3, (fX3 (a 48) (a 49) rf2 (nI rc2) (nI rr2)))), (aI k (a 48) 24 rs2), (aI k (a 49) 24 rb2), ((a 50), .inr (3, (fX3 (a 51) (a 52) rf3 (nI rc3) (nI rr3)))), (aI k (a 51) 24 rs3), (aI k (a 52) 24 rb3), ((a 64), .inr (2, (fX2 (a 65) (a 66) (a 67) wt wc))), (aI k (a 65) 25 ya__34), (aI k (a 66) 25 yb__34), ((a 14), .inr (5, (fX5 (a 15) (a 16) (a 17) (a 18)))), (aI k (a 15) 10 (vv n2 see2 tm2 g2)), (aI k (a 16) 24 ff2), (aI k (a 17) 24 fp2), (aI k (a 18) 4 fl2), ((a 44), .inr (3, (fX3 (a 45) (a 46) rf1 (nI rc1) (nI rr1)))), (aI k (a 45) 24 rs1), (aI k (a 46) 24 rb1)] hP hD
        clear hP hD
        obtain ⟨hP, hD⟩ := hQ9
        try dsimp only at hw_34
        refine lv_goto (tgt := 55) hx hb dX7_mean_49 (by decide) ?_
        obtain ⟨hP9, hD9⟩ := pd_sub [((a 0), .inr (7, (fX7 (a 1) (a 3) (a 19) (a 35) (a 40) (nI rk) lfa (a 53) (a 56) (a 63) (a 64) (a 68)))), ((a 3), .inl (k 3, 3, .inr (.inr (.inr (.inr (a3 (a 4) (a 9) (a 14))))))), ((a 40), .inl (k 5, 4, .inr (.inr (.inr (.inr (a4 (a 41) (a 44) (a 47) (a 50))))))), ((a 4), .inr (5, (fX5 (a 5) (a 6) (a 7) (a 8)))), (aI k (a 5) 10 (vv n0 see0 tm0 g0)), (aI k (a 6) 24 ff0), (aI k (a 7) 24 fp0), (aI k (a 8) 4 fl0), ((a 9), .inr (5, (fX5 (a 10) (a 11) (a 12) (a 13)))), (aI k (a 10) 10 (vv n1 see1 tm1 g1)), (aI k (a 11) 24 ff1), (aI k (a 12) 24 fp1), (aI k (a 13) 4 fl1), ((a 14), .inr (5, (fX5 (a 15) (a 16) (a 17) (a 18)))), (aI k (a 15) 10 (vv n2 see2 tm2 g2)), (aI k (a 16) 24 ff2), (aI k (a 17) 24 fp2), (aI k (a 18) 4 fl2), ((a 41), .inr (3, (fX3 (a 42) (a 43) rf0 (nI rc0) (nI rr0)))), (aI k (a 42) 24 rs0), (aI k (a 43) 24 rb0), ((a 44), .inr (3, (fX3 (a 45) (a 46) rf1 (nI rc1) (nI rr1)))), (aI k (a 45) 24 rs1), (aI k (a 46) 24 rb1), ((a 47), .inr (3, (fX3 (a 48) (a 49) rf2 (nI rc2) (nI rr2)))), (aI k (a 48) 24 rs2), (aI k (a 49) 24 rb2), ((a 50), .inr (3, (fX3 (a 51) (a 52) rf3 (nI rc3) (nI rr3)))), (aI k (a 51) 24 rs3), (aI k (a 52) 24 rb3), ((a 64), .inr (2, (fX2 (a 65) (a 66) (a 67) wt wc))), (aI k (a 65) 25 ya__34), (aI k (a 66) 25 yb__34)] [0, 1, 2, 3, 4, 5, 6, 7, 8, 9, 10, 11, 12, 25, 26, 27, 28, 29, 13, 14, 15, 30, 31, 32, 16, 17, 18, 19, 20, 21, 22, 23, 24] hP hD (by decide +kernel) rfl
        exact W.iret (v := r_34) hx hb hr (fun t ht hW => ⟨⟨r_34, (ya__34, yb__34), rfl, mn_at (s := 2) (t := 1) (by omega) (by omega) (by omega) (show 0 < n2 by omega) (show meA (nI wh_33) (sdX n2 see2 tm2 g2 ff2 fp2) (ruX rf1 rc1 rr1 rs1 rb1) _ from me_i (by omega) (by rw [(show muD (sdX n2 see2 tm2 g2 ff2 fp2) (ruX rf1 rc1 rr1 rs1 rb1) = min rr1 tm2 by unfold muD; rw [tmX (by omega)]; exact congrArg (fun z => min z tm2) (nI_clamp (by omega)))]; exact hw_34)), by rw [ht]; exact hP9, hD9⟩, hS.F ht⟩) hS.2.2 dX7_mean_55
      · refine lv_if_eq (tgt := 52) hx hb dX7_mean_26 (by decide) (fun _ => ?_) (fun h => absurd (by decide) h)
        refine lv_sipush (v := (-1002)) hx hb dX7_mean_52 (by decide) ?_
        obtain ⟨hP9, hD9⟩ := pd_sub [((a 0), .inr (7, (fX7 (a 1) (a 3) (a 19) (a 35) (a 40) (nI rk) lfa (a 53) (a 56) (a 63) (a 64) (a 68)))), ((a 3), .inl (k 3, 3, .inr (.inr (.inr (.inr (a3 (a 4) (a 9) (a 14))))))), ((a 40), .inl (k 5, 4, .inr (.inr (.inr (.inr (a4 (a 41) (a 44) (a 47) (a 50))))))), ((a 4), .inr (5, (fX5 (a 5) (a 6) (a 7) (a 8)))), (aI k (a 5) 10 (vv n0 see0 tm0 g0)), (aI k (a 6) 24 ff0), (aI k (a 7) 24 fp0), (aI k (a 8) 4 fl0), ((a 9), .inr (5, (fX5 (a 10) (a 11) (a 12) (a 13)))), (aI k (a 10) 10 (vv n1 see1 tm1 g1)), (aI k (a 11) 24 ff1), (aI k (a 12) 24 fp1), (aI k (a 13) 4 fl1), ((a 14), .inr (5, (fX5 (a 15) (a 16) (a 17) (a 18)))), (aI k (a 15) 10 (vv n2 see2 tm2 g2)), (aI k (a 16) 24 ff2), (aI k (a 17) 24 fp2), (aI k (a 18) 4 fl2), ((a 41), .inr (3, (fX3 (a 42) (a 43) rf0 (nI rc0) (nI rr0)))), (aI k (a 42) 24 rs0), (aI k (a 43) 24 rb0), ((a 44), .inr (3, (fX3 (a 45) (a 46) rf1 (nI rc1) (nI rr1)))), (aI k (a 45) 24 rs1), (aI k (a 46) 24 rb1), ((a 47), .inr (3, (fX3 (a 48) (a 49) rf2 (nI rc2) (nI rr2)))), (aI k (a 48) 24 rs2), (aI k (a 49) 24 rb2), ((a 50), .inr (3, (fX3 (a 51) (a 52) rf3 (nI rc3) (nI rr3)))), (aI k (a 51) 24 rs3), (aI k (a 52) 24 rb3), ((a 64), .inr (2, (fX2 (a 65) (a 66) (a 67) wt wc))), (aI k (a 65) 25 ya), (aI k (a 66) 25 yb)] [0, 1, 2, 3, 4, 5, 6, 7, 8, 9, 10, 11, 12, 13, 14, 15, 16, 17, 18, 19, 20, 21, 22, 23, 24, 25, 26, 27, 28, 29, 30, 31, 32] hP hD (by decide +kernel) rfl
        exact W.iret (v := (-1002)) hx hb hr (fun t ht hW => ⟨⟨(-1002), (ya, yb), rfl, mn_at (s := 2) (t := 1) (by omega) (by omega) (by omega) (show 0 < n2 by omega) (show meA p2 (sdX n2 see2 tm2 g2 ff2 fp2) (ruX rf1 rc1 rr1 rs1 rb1) _ from me_o hw_32), by rw [ht]; exact hP9, hD9⟩, hS.F ht⟩) hS.2.2 dX7_mean_55
    · refine lv_if_ne (tgt := 20) hx hb dX7_mean_13 (by decide) (fun _ => ?_) (fun h => absurd h (by decide))
      refine lv_iload_n hx hb dX7_mean_20 rfl (lv_at hl 3 rfl) ?_
      refine lv_iconst (v := 0) hx hb dX7_mean_21 (by decide) ?_
      refine lv_iconst (v := 2) hx hb dX7_mean_22 (by decide) ?_
      refine ro_i (D := D) (va_runS (As := [.int p2, .int 0, .int 2]) (rest := []) ⟨hx, hb, hml, hown, hts⟩ ((k_isIn l D k st lo p2 0 2) H.size) (va_cwS 3 hts (gS tw_593 tw_594 tw_79 tw_595) rfl rfl rfl (by decide +kernel) ⟨Nat.le_of_ble_eq_true rfl, Nat.le_of_ble_eq_true rfl⟩) (pS hS hAlo hlo hP hK (va_Dlo hD hAlo) hZ [] (by decide) rfl) rfl rfl hl.1 rfl (lv_room (Nat.le_of_ble_eq_true rfl)) dX7_mean_23 ⟨Nat.le_of_ble_eq_true rfl, Nat.le_of_ble_eq_true rfl⟩) hS hA hP (fun r_35 H locs hw_35 hP hS => ?_)
      try dsimp only at hw_35
      rcases hw_35 with ⟨rfl, hw_35⟩ | ⟨rfl, hw_35⟩
      · refine lv_if_eq (tgt := 52) hx hb dX7_mean_26 (by decide) (fun h => absurd h (by decide)) (fun _ => ?_)
        obtain ⟨wh_36, hwl_36, hwh_36, rfl⟩ := inB_ofc (a := 0) (b := 2) (by omega) (by omega) hw_35
        refine lv_aload_n hx hb dX7_mean_29 rfl (lv_at hl 0 rfl) ?_
        refine va_get (D := D) (ci := 7) (v := .ref (a 64)) (C := RX7) (T := TX7) (N := 12) hx hb hts inX7 hown hK hP 0 rfl rfl 10 (by decide) (hts _ tw_315) (fun _ h9 => h9) rfl dX7_mean_30 ?_
        refine lv_aload_n hx hb dX7_mean_33 rfl (lv_at hl 0 rfl) ?_
        refine va_get (D := D) (ci := 7) (v := .ref (a 3)) (C := RX7) (T := TX7) (N := 12) hx hb hts inX7 hown hK hP 0 rfl rfl 1 (by decide) (hts _ tw_306) (fun _ h9 => h9) rfl dX7_mean_34 ?_
        refine lv_iload_n hx hb dX7_mean_37 rfl (lv_at hl 1 rfl) ?_
        refine va_aldq hx hb hK hP 1 3 rfl rfl (by unfold vp_in; decide) dX7_mean_38 ?_
        refine lv_tr (y := .ref (a 14)) rfl ?_
        refine lv_aload_n hx hb dX7_mean_39 rfl (lv_at hl 0 rfl) ?_
        refine va_get (D := D) (ci := 7) (v := .ref (a 40)) (C := RX7) (T := TX7) (N := 12) hx hb hts inX7 hown hK hP 0 rfl rfl 4 (by decide) (hts _ tw_309) (fun _ h9 => h9) rfl dX7_mean_40 ?_
        refine lv_iload_n hx hb dX7_mean_43 rfl (lv_at hl 2 rfl) ?_
        refine va_aldq hx hb hK hP 2 5 rfl rfl (by unfold vp_in; decide) dX7_mean_44 ?_
        refine lv_tr (y := .ref (a 47)) rfl ?_
        refine lv_iload_n hx hb dX7_mean_45 rfl (lv_at hl 3 rfl) ?_
        refine rw_i (D := D) (wr := [((a 0), .inr (7, (fX7 (a 1) (a 3) (a 19) (a 35) (a 40) (nI rk) lfa (a 53) (a 56) (a 63) (a 64) (a 68)))), ((a 3), .inl (k 3, 3, .inr (.inr (.inr (.inr (a3 (a 4) (a 9) (a 14))))))), ((a 40), .inl (k 5, 4, .inr (.inr (.inr (.inr (a4 (a 41) (a 44) (a 47) (a 50))))))), ((a 4), .inr (5, (fX5 (a 5) (a 6) (a 7) (a 8)))), (aI k (a 5) 10 (vv n0 see0 tm0 g0)), (aI k (a 6) 24 ff0), (aI k (a 7) 24 fp0), (aI k (a 8) 4 fl0), ((a 9), .inr (5, (fX5 (a 10) (a 11) (a 12) (a 13)))), (aI k (a 10) 10 (vv n1 see1 tm1 g1)), (aI k (a 11) 24 ff1), (aI k (a 12) 24 fp1), (aI k (a 13) 4 fl1), ((a 41), .inr (3, (fX3 (a 42) (a 43) rf0 (nI rc0) (nI rr0)))), (aI k (a 42) 24 rs0), (aI k (a 43) 24 rb0), ((a 44), .inr (3, (fX3 (a 45) (a 46) rf1 (nI rc1) (nI rr1)))), (aI k (a 45) 24 rs1), (aI k (a 46) 24 rb1), ((a 50), .inr (3, (fX3 (a 51) (a 52) rf3 (nI rc3) (nI rr3)))), (aI k (a 51) 24 rs3), (aI k (a 52) 24 rb3)]) (va_runV (As := [.ref (a 14), .ref (a 47), .int (nI wh_36)]) (rest := []) ⟨hx, hb, hml, hown, hts⟩ ((y_meanOf l D k st lo (a 64) (a 65) (a 66) (a 67) wt wc ya yb (a 14) (a 15) (a 16) (a 17) (a 18) n2 see2 tm2 g2 ff2 fp2 fl2 (a 47) (a 48) (a 49) rf2 rc2 rr2 rs2 rb2 wh_36 (by first | assumption | omega) (by first | assumption | omega) (by first | assumption | omega) (by first | assumption | omega) (by first | assumption | omega) (hlt 2 (by omega)) (hok 2 (by omega))) H.size) (cwV 3 hts (gV tw_701 tw_702 tw_703 tw_83 tw_704) rfl rfl rfl (by decide +kernel) ⟨Nat.le_of_ble_eq_true rfl, Nat.le_of_ble_eq_true rfl⟩) (pV hS hAlo hlo hP hK (va_Dlo hD hAlo) hZ [30, 31, 32, 13, 14, 15, 16, 17, 24, 25, 26] (by decide +kernel) rfl (ci := 2) (q := (RX2, TX2, 5)) (q0 := 0) rfl rfl) rfl rfl hl.1 rfl (lv_room (Nat.le_of_ble_eq_true rfl)) dX7_mean_46 ⟨Nat.le_of_ble_eq_true rfl, Nat.le_of_ble_eq_true rfl⟩) hS hA hP hD [30, 31, 32, 13, 14, 15, 16, 17, 24, 25, 26] [0, 1, 2, 3, 4, 5, 6, 7, 8, 9, 10, 11, 12, 18, 19, 20, 21, 22, 23, 27, 28, 29] rfl rfl (by decide +kernel) (by decide +kernel) (fun r_37 u H locs hw_37 hP hD hS => ?_)
        obtain ⟨ya__37, yb__37⟩ := u
        have hQ9 := pd_mk [((a 0), .inr (7, (fX7 (a 1) (a 3) (a 19) (a 35) (a 40) (nI rk) lfa (a 53) (a 56) (a 63) (a 64) (a 68)))), ((a 3), .inl (k 3, 3, .inr (.inr (.inr (.inr (a3 (a 4) (a 9) (a 14))))))), ((a 40), .inl (k 5, 4, .inr (.inr (.inr (.inr (a4 (a 41) (a 44) (a 47) (a 50))))))), ((a 4), .inr (5, (fX5 (a 5) (a 6) (a 7) (a 8)))), (aI k (a 5) 10 (vv n0 see0 tm0 g0)), (aI k (a 6) 24 ff0), (aI k (a 7) 24 fp0), (aI k (a 8) 4 fl0), ((a 9), .inr (5, (fX5 (a 10) (a 11) (a 12) (a 13)))), (aI k (a 10) 10 (vv n1 see1 tm1 g1)), (aI k (a 11) 24 ff1), (aI k (a 12) 24 fp1), (aI k (a 13) 4 fl1), ((a 41), .inr (3, (fX3 (a 42) (a 43) rf0 (nI rc0) (nI rr0)))), (aI k (a 42) 24 rs0), (aI k (a 43) 24 rb0), ((a 44), .inr (3, (fX3 (a 45) (a 46) rf1 (nI rc1) (nI rr1)))), (aI k (a 45) 24 rs1), (aI k (a 46) 24 rb1), ((a 50), .inr (3, (fX3 (a 51) (a 52) rf3 (nI rc3) (nI rr3)))), (aI k (a 51) 24 rs3), (aI k (a 52) 24 rb3), ((a 64), .inr (2, (fX2 (a 65) (a 66) (a 67) wt wc))), (aI k (a 65) 25 ya__37), (aI k (a 66) 25 yb__37), ((a 14), .inr (5, (fX5 (a 15) (a 16) (a 17) (a 18)))), (aI k (a 15) 10 (vv n2 see2 tm2 g2)), (aI k (a 16) 24 ff2), (aI k (a 17) 24 fp2), (aI k (a 18) 4 fl2), ((a 47), .inr (3, (fX3 (a 48) (a 49) rf2 (nI rc2) (nI rr2)))), (aI k (a 48) 24 rs2), (aI k (a 49) 24 rb2)] hP hD
        clear hP hD
        obtain ⟨hP, hD⟩ := hQ9
        try dsimp only at hw_37
        refine lv_goto (tgt := 55) hx hb dX7_mean_49 (by decide) ?_
        obtain ⟨hP9, hD9⟩ := pd_sub [((a 0), .inr (7, (fX7 (a 1) (a 3) (a 19) (a 35) (a 40) (nI rk) lfa (a 53) (a 56) (a 63) (a 64) (a 68)))), ((a 3), .inl (k 3, 3, .inr (.inr (.inr (.inr (a3 (a 4) (a 9) (a 14))))))), ((a 40), .inl (k 5, 4, .inr (.inr (.inr (.inr (a4 (a 41) (a 44) (a 47) (a 50))))))), ((a 4), .inr (5, (fX5 (a 5) (a 6) (a 7) (a 8)))), (aI k (a 5) 10 (vv n0 see0 tm0 g0)), (aI k (a 6) 24 ff0), (aI k (a 7) 24 fp0), (aI k (a 8) 4 fl0), ((a 9), .inr (5, (fX5 (a 10) (a 11) (a 12) (a 13)))), (aI k (a 10) 10 (vv n1 see1 tm1 g1)), (aI k (a 11) 24 ff1), (aI k (a 12) 24 fp1), (aI k (a 13) 4 fl1), ((a 14), .inr (5, (fX5 (a 15) (a 16) (a 17) (a 18)))), (aI k (a 15) 10 (vv n2 see2 tm2 g2)), (aI k (a 16) 24 ff2), (aI k (a 17) 24 fp2), (aI k (a 18) 4 fl2), ((a 41), .inr (3, (fX3 (a 42) (a 43) rf0 (nI rc0) (nI rr0)))), (aI k (a 42) 24 rs0), (aI k (a 43) 24 rb0), ((a 44), .inr (3, (fX3 (a 45) (a 46) rf1 (nI rc1) (nI rr1)))), (aI k (a 45) 24 rs1), (aI k (a 46) 24 rb1), ((a 47), .inr (3, (fX3 (a 48) (a 49) rf2 (nI rc2) (nI rr2)))), (aI k (a 48) 24 rs2), (aI k (a 49) 24 rb2), ((a 50), .inr (3, (fX3 (a 51) (a 52) rf3 (nI rc3) (nI rr3)))), (aI k (a 51) 24 rs3), (aI k (a 52) 24 rb3), ((a 64), .inr (2, (fX2 (a 65) (a 66) (a 67) wt wc))), (aI k (a 65) 25 ya__37), (aI k (a 66) 25 yb__37)] [0, 1, 2, 3, 4, 5, 6, 7, 8, 9, 10, 11, 12, 25, 26, 27, 28, 29, 13, 14, 15, 16, 17, 18, 30, 31, 32, 19, 20, 21, 22, 23, 24] hP hD (by decide +kernel) rfl
        exact W.iret (v := r_37) hx hb hr (fun t ht hW => ⟨⟨r_37, (ya__37, yb__37), rfl, mn_at (s := 2) (t := 2) (by omega) (by omega) (by omega) (show 0 < n2 by omega) (show meA (nI wh_36) (sdX n2 see2 tm2 g2 ff2 fp2) (ruX rf2 rc2 rr2 rs2 rb2) _ from me_i (by omega) (by rw [(show muD (sdX n2 see2 tm2 g2 ff2 fp2) (ruX rf2 rc2 rr2 rs2 rb2) = min rr2 tm2 by unfold muD; rw [tmX (by omega)]; exact congrArg (fun z => min z tm2) (nI_clamp (by omega)))]; exact hw_37)), by rw [ht]; exact hP9, hD9⟩, hS.F ht⟩) hS.2.2 dX7_mean_55
      · refine lv_if_eq (tgt := 52) hx hb dX7_mean_26 (by decide) (fun _ => ?_) (fun h => absurd (by decide) h)
        refine lv_sipush (v := (-1002)) hx hb dX7_mean_52 (by decide) ?_
        obtain ⟨hP9, hD9⟩ := pd_sub [((a 0), .inr (7, (fX7 (a 1) (a 3) (a 19) (a 35) (a 40) (nI rk) lfa (a 53) (a 56) (a 63) (a 64) (a 68)))), ((a 3), .inl (k 3, 3, .inr (.inr (.inr (.inr (a3 (a 4) (a 9) (a 14))))))), ((a 40), .inl (k 5, 4, .inr (.inr (.inr (.inr (a4 (a 41) (a 44) (a 47) (a 50))))))), ((a 4), .inr (5, (fX5 (a 5) (a 6) (a 7) (a 8)))), (aI k (a 5) 10 (vv n0 see0 tm0 g0)), (aI k (a 6) 24 ff0), (aI k (a 7) 24 fp0), (aI k (a 8) 4 fl0), ((a 9), .inr (5, (fX5 (a 10) (a 11) (a 12) (a 13)))), (aI k (a 10) 10 (vv n1 see1 tm1 g1)), (aI k (a 11) 24 ff1), (aI k (a 12) 24 fp1), (aI k (a 13) 4 fl1), ((a 14), .inr (5, (fX5 (a 15) (a 16) (a 17) (a 18)))), (aI k (a 15) 10 (vv n2 see2 tm2 g2)), (aI k (a 16) 24 ff2), (aI k (a 17) 24 fp2), (aI k (a 18) 4 fl2), ((a 41), .inr (3, (fX3 (a 42) (a 43) rf0 (nI rc0) (nI rr0)))), (aI k (a 42) 24 rs0), (aI k (a 43) 24 rb0), ((a 44), .inr (3, (fX3 (a 45) (a 46) rf1 (nI rc1) (nI rr1)))), (aI k (a 45) 24 rs1), (aI k (a 46) 24 rb1), ((a 47), .inr (3, (fX3 (a 48) (a 49) rf2 (nI rc2) (nI rr2)))), (aI k (a 48) 24 rs2), (aI k (a 49) 24 rb2), ((a 50), .inr (3, (fX3 (a 51) (a 52) rf3 (nI rc3) (nI rr3)))), (aI k (a 51) 24 rs3), (aI k (a 52) 24 rb3), ((a 64), .inr (2, (fX2 (a 65) (a 66) (a 67) wt wc))), (aI k (a 65) 25 ya), (aI k (a 66) 25 yb)] [0, 1, 2, 3, 4, 5, 6, 7, 8, 9, 10, 11, 12, 13, 14, 15, 16, 17, 18, 19, 20, 21, 22, 23, 24, 25, 26, 27, 28, 29, 30, 31, 32] hP hD (by decide +kernel) rfl
        exact W.iret (v := (-1002)) hx hb hr (fun t ht hW => ⟨⟨(-1002), (ya, yb), rfl, mn_at (s := 2) (t := 2) (by omega) (by omega) (by omega) (show 0 < n2 by omega) (show meA p2 (sdX n2 see2 tm2 g2 ff2 fp2) (ruX rf2 rc2 rr2 rs2 rb2) _ from me_o hw_35), by rw [ht]; exact hP9, hD9⟩, hS.F ht⟩) hS.2.2 dX7_mean_55
    · refine lv_if_ne (tgt := 20) hx hb dX7_mean_13 (by decide) (fun _ => ?_) (fun h => absurd h (by decide))
      refine lv_iload_n hx hb dX7_mean_20 rfl (lv_at hl 3 rfl) ?_
      refine lv_iconst (v := 0) hx hb dX7_mean_21 (by decide) ?_
      refine lv_iconst (v := 2) hx hb dX7_mean_22 (by decide) ?_
      refine ro_i (D := D) (va_runS (As := [.int p2, .int 0, .int 2]) (rest := []) ⟨hx, hb, hml, hown, hts⟩ ((k_isIn l D k st lo p2 0 2) H.size) (va_cwS 3 hts (gS tw_593 tw_594 tw_79 tw_595) rfl rfl rfl (by decide +kernel) ⟨Nat.le_of_ble_eq_true rfl, Nat.le_of_ble_eq_true rfl⟩) (pS hS hAlo hlo hP hK (va_Dlo hD hAlo) hZ [] (by decide) rfl) rfl rfl hl.1 rfl (lv_room (Nat.le_of_ble_eq_true rfl)) dX7_mean_23 ⟨Nat.le_of_ble_eq_true rfl, Nat.le_of_ble_eq_true rfl⟩) hS hA hP (fun r_38 H locs hw_38 hP hS => ?_)
      try dsimp only at hw_38
      rcases hw_38 with ⟨rfl, hw_38⟩ | ⟨rfl, hw_38⟩
      · refine lv_if_eq (tgt := 52) hx hb dX7_mean_26 (by decide) (fun h => absurd h (by decide)) (fun _ => ?_)
        obtain ⟨wh_39, hwl_39, hwh_39, rfl⟩ := inB_ofc (a := 0) (b := 2) (by omega) (by omega) hw_38
        refine lv_aload_n hx hb dX7_mean_29 rfl (lv_at hl 0 rfl) ?_
        refine va_get (D := D) (ci := 7) (v := .ref (a 64)) (C := RX7) (T := TX7) (N := 12) hx hb hts inX7 hown hK hP 0 rfl rfl 10 (by decide) (hts _ tw_315) (fun _ h9 => h9) rfl dX7_mean_30 ?_
        refine lv_aload_n hx hb dX7_mean_33 rfl (lv_at hl 0 rfl) ?_
        refine va_get (D := D) (ci := 7) (v := .ref (a 3)) (C := RX7) (T := TX7) (N := 12) hx hb hts inX7 hown hK hP 0 rfl rfl 1 (by decide) (hts _ tw_306) (fun _ h9 => h9) rfl dX7_mean_34 ?_
        refine lv_iload_n hx hb dX7_mean_37 rfl (lv_at hl 1 rfl) ?_
        refine va_aldq hx hb hK hP 1 3 rfl rfl (by unfold vp_in; decide) dX7_mean_38 ?_
        refine lv_tr (y := .ref (a 14)) rfl ?_
        refine lv_aload_n hx hb dX7_mean_39 rfl (lv_at hl 0 rfl) ?_
        refine va_get (D := D) (ci := 7) (v := .ref (a 40)) (C := RX7) (T := TX7) (N := 12) hx hb hts inX7 hown hK hP 0 rfl rfl 4 (by decide) (hts _ tw_309) (fun _ h9 => h9) rfl dX7_mean_40 ?_
        refine lv_iload_n hx hb dX7_mean_43 rfl (lv_at hl 2 rfl) ?_
        refine va_aldq hx hb hK hP 2 5 rfl rfl (by unfold vp_in; decide) dX7_mean_44 ?_
        refine lv_tr (y := .ref (a 50)) rfl ?_
        refine lv_iload_n hx hb dX7_mean_45 rfl (lv_at hl 3 rfl) ?_
        refine rw_i (D := D) (wr := [((a 0), .inr (7, (fX7 (a 1) (a 3) (a 19) (a 35) (a 40) (nI rk) lfa (a 53) (a 56) (a 63) (a 64) (a 68)))), ((a 3), .inl (k 3, 3, .inr (.inr (.inr (.inr (a3 (a 4) (a 9) (a 14))))))), ((a 40), .inl (k 5, 4, .inr (.inr (.inr (.inr (a4 (a 41) (a 44) (a 47) (a 50))))))), ((a 4), .inr (5, (fX5 (a 5) (a 6) (a 7) (a 8)))), (aI k (a 5) 10 (vv n0 see0 tm0 g0)), (aI k (a 6) 24 ff0), (aI k (a 7) 24 fp0), (aI k (a 8) 4 fl0), ((a 9), .inr (5, (fX5 (a 10) (a 11) (a 12) (a 13)))), (aI k (a 10) 10 (vv n1 see1 tm1 g1)), (aI k (a 11) 24 ff1), (aI k (a 12) 24 fp1), (aI k (a 13) 4 fl1), ((a 41), .inr (3, (fX3 (a 42) (a 43) rf0 (nI rc0) (nI rr0)))), (aI k (a 42) 24 rs0), (aI k (a 43) 24 rb0), ((a 44), .inr (3, (fX3 (a 45) (a 46) rf1 (nI rc1) (nI rr1)))), (aI k (a 45) 24 rs1), (aI k (a 46) 24 rb1), ((a 47), .inr (3, (fX3 (a 48) (a 49) rf2 (nI rc2) (nI rr2)))), (aI k (a 48) 24 rs2), (aI k (a 49) 24 rb2)]) (va_runV (As := [.ref (a 14), .ref (a 50), .int (nI wh_39)]) (rest := []) ⟨hx, hb, hml, hown, hts⟩ ((y_meanOf l D k st lo (a 64) (a 65) (a 66) (a 67) wt wc ya yb (a 14) (a 15) (a 16) (a 17) (a 18) n2 see2 tm2 g2 ff2 fp2 fl2 (a 50) (a 51) (a 52) rf3 rc3 rr3 rs3 rb3 wh_39 (by first | assumption | omega) (by first | assumption | omega) (by first | assumption | omega) (by first | assumption | omega) (by first | assumption | omega) (hlt 2 (by omega)) (hok 2 (by omega))) H.size) (cwV 3 hts (gV tw_701 tw_702 tw_703 tw_83 tw_704) rfl rfl rfl (by decide +kernel) ⟨Nat.le_of_ble_eq_true rfl, Nat.le_of_ble_eq_true rfl⟩) (pV hS hAlo hlo hP hK (va_Dlo hD hAlo) hZ [30, 31, 32, 13, 14, 15, 16, 17, 27, 28, 29] (by decide +kernel) rfl (ci := 2) (q := (RX2, TX2, 5)) (q0 := 0) rfl rfl) rfl rfl hl.1 rfl (lv_room (Nat.le_of_ble_eq_true rfl)) dX7_mean_46 ⟨Nat.le_of_ble_eq_true rfl, Nat.le_of_ble_eq_true rfl⟩) hS hA hP hD [30, 31, 32, 13, 14, 15, 16, 17, 27, 28, 29] [0, 1, 2, 3, 4, 5, 6, 7, 8, 9, 10, 11, 12, 18, 19, 20, 21, 22, 23, 24, 25, 26] rfl rfl (by decide +kernel) (by decide +kernel) (fun r_40 u H locs hw_40 hP hD hS => ?_)
        obtain ⟨ya__40, yb__40⟩ := u
        have hQ9 := pd_mk [((a 0), .inr (7, (fX7 (a 1) (a 3) (a 19) (a 35) (a 40) (nI rk) lfa (a 53) (a 56) (a 63) (a 64) (a 68)))), ((a 3), .inl (k 3, 3, .inr (.inr (.inr (.inr (a3 (a 4) (a 9) (a 14))))))), ((a 40), .inl (k 5, 4, .inr (.inr (.inr (.inr (a4 (a 41) (a 44) (a 47) (a 50))))))), ((a 4), .inr (5, (fX5 (a 5) (a 6) (a 7) (a 8)))), (aI k (a 5) 10 (vv n0 see0 tm0 g0)), (aI k (a 6) 24 ff0), (aI k (a 7) 24 fp0), (aI k (a 8) 4 fl0), ((a 9), .inr (5, (fX5 (a 10) (a 11) (a 12) (a 13)))), (aI k (a 10) 10 (vv n1 see1 tm1 g1)), (aI k (a 11) 24 ff1), (aI k (a 12) 24 fp1), (aI k (a 13) 4 fl1), ((a 41), .inr (3, (fX3 (a 42) (a 43) rf0 (nI rc0) (nI rr0)))), (aI k (a 42) 24 rs0), (aI k (a 43) 24 rb0), ((a 44), .inr (3, (fX3 (a 45) (a 46) rf1 (nI rc1) (nI rr1)))), (aI k (a 45) 24 rs1), (aI k (a 46) 24 rb1), ((a 47), .inr (3, (fX3 (a 48) (a 49) rf2 (nI rc2) (nI rr2)))), (aI k (a 48) 24 rs2), (aI k (a 49) 24 rb2), ((a 64), .inr (2, (fX2 (a 65) (a 66) (a 67) wt wc))), (aI k (a 65) 25 ya__40), (aI k (a 66) 25 yb__40), ((a 14), .inr (5, (fX5 (a 15) (a 16) (a 17) (a 18)))), (aI k (a 15) 10 (vv n2 see2 tm2 g2)), (aI k (a 16) 24 ff2), (aI k (a 17) 24 fp2), (aI k (a 18) 4 fl2), ((a 50), .inr (3, (fX3 (a 51) (a 52) rf3 (nI rc3) (nI rr3)))), (aI k (a 51) 24 rs3), (aI k (a 52) 24 rb3)] hP hD
        clear hP hD
        obtain ⟨hP, hD⟩ := hQ9
        try dsimp only at hw_40
        refine lv_goto (tgt := 55) hx hb dX7_mean_49 (by decide) ?_
        obtain ⟨hP9, hD9⟩ := pd_sub [((a 0), .inr (7, (fX7 (a 1) (a 3) (a 19) (a 35) (a 40) (nI rk) lfa (a 53) (a 56) (a 63) (a 64) (a 68)))), ((a 3), .inl (k 3, 3, .inr (.inr (.inr (.inr (a3 (a 4) (a 9) (a 14))))))), ((a 40), .inl (k 5, 4, .inr (.inr (.inr (.inr (a4 (a 41) (a 44) (a 47) (a 50))))))), ((a 4), .inr (5, (fX5 (a 5) (a 6) (a 7) (a 8)))), (aI k (a 5) 10 (vv n0 see0 tm0 g0)), (aI k (a 6) 24 ff0), (aI k (a 7) 24 fp0), (aI k (a 8) 4 fl0), ((a 9), .inr (5, (fX5 (a 10) (a 11) (a 12) (a 13)))), (aI k (a 10) 10 (vv n1 see1 tm1 g1)), (aI k (a 11) 24 ff1), (aI k (a 12) 24 fp1), (aI k (a 13) 4 fl1), ((a 14), .inr (5, (fX5 (a 15) (a 16) (a 17) (a 18)))), (aI k (a 15) 10 (vv n2 see2 tm2 g2)), (aI k (a 16) 24 ff2), (aI k (a 17) 24 fp2), (aI k (a 18) 4 fl2), ((a 41), .inr (3, (fX3 (a 42) (a 43) rf0 (nI rc0) (nI rr0)))), (aI k (a 42) 24 rs0), (aI k (a 43) 24 rb0), ((a 44), .inr (3, (fX3 (a 45) (a 46) rf1 (nI rc1) (nI rr1)))), (aI k (a 45) 24 rs1), (aI k (a 46) 24 rb1), ((a 47), .inr (3, (fX3 (a 48) (a 49) rf2 (nI rc2) (nI rr2)))), (aI k (a 48) 24 rs2), (aI k (a 49) 24 rb2), ((a 50), .inr (3, (fX3 (a 51) (a 52) rf3 (nI rc3) (nI rr3)))), (aI k (a 51) 24 rs3), (aI k (a 52) 24 rb3), ((a 64), .inr (2, (fX2 (a 65) (a 66) (a 67) wt wc))), (aI k (a 65) 25 ya__40), (aI k (a 66) 25 yb__40)] [0, 1, 2, 3, 4, 5, 6, 7, 8, 9, 10, 11, 12, 25, 26, 27, 28, 29, 13, 14, 15, 16, 17, 18, 19, 20, 21, 30, 31, 32, 22, 23, 24] hP hD (by decide +kernel) rfl
        exact W.iret (v := r_40) hx hb hr (fun t ht hW => ⟨⟨r_40, (ya__40, yb__40), rfl, mn_at (s := 2) (t := 3) (by omega) (by omega) (by omega) (show 0 < n2 by omega) (show meA (nI wh_39) (sdX n2 see2 tm2 g2 ff2 fp2) (ruX rf3 rc3 rr3 rs3 rb3) _ from me_i (by omega) (by rw [(show muD (sdX n2 see2 tm2 g2 ff2 fp2) (ruX rf3 rc3 rr3 rs3 rb3) = min rr3 tm2 by unfold muD; rw [tmX (by omega)]; exact congrArg (fun z => min z tm2) (nI_clamp (by omega)))]; exact hw_40)), by rw [ht]; exact hP9, hD9⟩, hS.F ht⟩) hS.2.2 dX7_mean_55
      · refine lv_if_eq (tgt := 52) hx hb dX7_mean_26 (by decide) (fun _ => ?_) (fun h => absurd (by decide) h)
        refine lv_sipush (v := (-1002)) hx hb dX7_mean_52 (by decide) ?_
        obtain ⟨hP9, hD9⟩ := pd_sub [((a 0), .inr (7, (fX7 (a 1) (a 3) (a 19) (a 35) (a 40) (nI rk) lfa (a 53) (a 56) (a 63) (a 64) (a 68)))), ((a 3), .inl (k 3, 3, .inr (.inr (.inr (.inr (a3 (a 4) (a 9) (a 14))))))), ((a 40), .inl (k 5, 4, .inr (.inr (.inr (.inr (a4 (a 41) (a 44) (a 47) (a 50))))))), ((a 4), .inr (5, (fX5 (a 5) (a 6) (a 7) (a 8)))), (aI k (a 5) 10 (vv n0 see0 tm0 g0)), (aI k (a 6) 24 ff0), (aI k (a 7) 24 fp0), (aI k (a 8) 4 fl0), ((a 9), .inr (5, (fX5 (a 10) (a 11) (a 12) (a 13)))), (aI k (a 10) 10 (vv n1 see1 tm1 g1)), (aI k (a 11) 24 ff1), (aI k (a 12) 24 fp1), (aI k (a 13) 4 fl1), ((a 14), .inr (5, (fX5 (a 15) (a 16) (a 17) (a 18)))), (aI k (a 15) 10 (vv n2 see2 tm2 g2)), (aI k (a 16) 24 ff2), (aI k (a 17) 24 fp2), (aI k (a 18) 4 fl2), ((a 41), .inr (3, (fX3 (a 42) (a 43) rf0 (nI rc0) (nI rr0)))), (aI k (a 42) 24 rs0), (aI k (a 43) 24 rb0), ((a 44), .inr (3, (fX3 (a 45) (a 46) rf1 (nI rc1) (nI rr1)))), (aI k (a 45) 24 rs1), (aI k (a 46) 24 rb1), ((a 47), .inr (3, (fX3 (a 48) (a 49) rf2 (nI rc2) (nI rr2)))), (aI k (a 48) 24 rs2), (aI k (a 49) 24 rb2), ((a 50), .inr (3, (fX3 (a 51) (a 52) rf3 (nI rc3) (nI rr3)))), (aI k (a 51) 24 rs3), (aI k (a 52) 24 rb3), ((a 64), .inr (2, (fX2 (a 65) (a 66) (a 67) wt wc))), (aI k (a 65) 25 ya), (aI k (a 66) 25 yb)] [0, 1, 2, 3, 4, 5, 6, 7, 8, 9, 10, 11, 12, 13, 14, 15, 16, 17, 18, 19, 20, 21, 22, 23, 24, 25, 26, 27, 28, 29, 30, 31, 32] hP hD (by decide +kernel) rfl
        exact W.iret (v := (-1002)) hx hb hr (fun t ht hW => ⟨⟨(-1002), (ya, yb), rfl, mn_at (s := 2) (t := 3) (by omega) (by omega) (by omega) (show 0 < n2 by omega) (show meA p2 (sdX n2 see2 tm2 g2 ff2 fp2) (ruX rf3 rc3 rr3 rs3 rb3) _ from me_o hw_38), by rw [ht]; exact hP9, hD9⟩, hS.F ht⟩) hS.2.2 dX7_mean_55
    · refine lv_if_ne (tgt := 20) hx hb dX7_mean_13 (by decide) (fun h => absurd (by decide) h) (fun _ => ?_)
      refine lv_sipush (v := (-1001)) hx hb dX7_mean_16 (by decide) ?_
      obtain ⟨hP9, hD9⟩ := pd_sub [((a 0), .inr (7, (fX7 (a 1) (a 3) (a 19) (a 35) (a 40) (nI rk) lfa (a 53) (a 56) (a 63) (a 64) (a 68)))), ((a 3), .inl (k 3, 3, .inr (.inr (.inr (.inr (a3 (a 4) (a 9) (a 14))))))), ((a 40), .inl (k 5, 4, .inr (.inr (.inr (.inr (a4 (a 41) (a 44) (a 47) (a 50))))))), ((a 4), .inr (5, (fX5 (a 5) (a 6) (a 7) (a 8)))), (aI k (a 5) 10 (vv n0 see0 tm0 g0)), (aI k (a 6) 24 ff0), (aI k (a 7) 24 fp0), (aI k (a 8) 4 fl0), ((a 9), .inr (5, (fX5 (a 10) (a 11) (a 12) (a 13)))), (aI k (a 10) 10 (vv n1 see1 tm1 g1)), (aI k (a 11) 24 ff1), (aI k (a 12) 24 fp1), (aI k (a 13) 4 fl1), ((a 14), .inr (5, (fX5 (a 15) (a 16) (a 17) (a 18)))), (aI k (a 15) 10 (vv n2 see2 tm2 g2)), (aI k (a 16) 24 ff2), (aI k (a 17) 24 fp2), (aI k (a 18) 4 fl2), ((a 41), .inr (3, (fX3 (a 42) (a 43) rf0 (nI rc0) (nI rr0)))), (aI k (a 42) 24 rs0), (aI k (a 43) 24 rb0), ((a 44), .inr (3, (fX3 (a 45) (a 46) rf1 (nI rc1) (nI rr1)))), (aI k (a 45) 24 rs1), (aI k (a 46) 24 rb1), ((a 47), .inr (3, (fX3 (a 48) (a 49) rf2 (nI rc2) (nI rr2)))), (aI k (a 48) 24 rs2), (aI k (a 49) 24 rb2), ((a 50), .inr (3, (fX3 (a 51) (a 52) rf3 (nI rc3) (nI rr3)))), (aI k (a 51) 24 rs3), (aI k (a 52) 24 rb3), ((a 64), .inr (2, (fX2 (a 65) (a 66) (a 67) wt wc))), (aI k (a 65) 25 ya), (aI k (a 66) 25 yb)] [0, 1, 2, 3, 4, 5, 6, 7, 8, 9, 10, 11, 12, 13, 14, 15, 16, 17, 18, 19, 20, 21, 22, 23, 24, 25, 26, 27, 28, 29, 30, 31, 32] hP hD (by decide +kernel) rfl
      exact W.iret (v := (-1001)) hx hb hr (fun t ht hW => ⟨⟨(-1001), (ya, yb), rfl, mn_no1 hw_28, by rw [ht]; exact hP9, hD9⟩, hS.F ht⟩) hS.2.2 dX7_mean_19
  · refine lv_if_eq (tgt := 16) hx hb dX7_mean_5 (by decide) (fun _ => ?_) (fun h => absurd (by decide) h)
    refine lv_sipush (v := (-1001)) hx hb dX7_mean_16 (by decide) ?_
    obtain ⟨hP9, hD9⟩ := pd_sub [((a 0), .inr (7, (fX7 (a 1) (a 3) (a 19) (a 35) (a 40) (nI rk) lfa (a 53) (a 56) (a 63) (a 64) (a 68)))), ((a 3), .inl (k 3, 3, .inr (.inr (.inr (.inr (a3 (a 4) (a 9) (a 14))))))), ((a 40), .inl (k 5, 4, .inr (.inr (.inr (.inr (a4 (a 41) (a 44) (a 47) (a 50))))))), ((a 4), .inr (5, (fX5 (a 5) (a 6) (a 7) (a 8)))), (aI k (a 5) 10 (vv n0 see0 tm0 g0)), (aI k (a 6) 24 ff0), (aI k (a 7) 24 fp0), (aI k (a 8) 4 fl0), ((a 9), .inr (5, (fX5 (a 10) (a 11) (a 12) (a 13)))), (aI k (a 10) 10 (vv n1 see1 tm1 g1)), (aI k (a 11) 24 ff1), (aI k (a 12) 24 fp1), (aI k (a 13) 4 fl1), ((a 14), .inr (5, (fX5 (a 15) (a 16) (a 17) (a 18)))), (aI k (a 15) 10 (vv n2 see2 tm2 g2)), (aI k (a 16) 24 ff2), (aI k (a 17) 24 fp2), (aI k (a 18) 4 fl2), ((a 41), .inr (3, (fX3 (a 42) (a 43) rf0 (nI rc0) (nI rr0)))), (aI k (a 42) 24 rs0), (aI k (a 43) 24 rb0), ((a 44), .inr (3, (fX3 (a 45) (a 46) rf1 (nI rc1) (nI rr1)))), (aI k (a 45) 24 rs1), (aI k (a 46) 24 rb1), ((a 47), .inr (3, (fX3 (a 48) (a 49) rf2 (nI rc2) (nI rr2)))), (aI k (a 48) 24 rs2), (aI k (a 49) 24 rb2), ((a 50), .inr (3, (fX3 (a 51) (a 52) rf3 (nI rc3) (nI rr3)))), (aI k (a 51) 24 rs3), (aI k (a 52) 24 rb3), ((a 64), .inr (2, (fX2 (a 65) (a 66) (a 67) wt wc))), (aI k (a 65) 25 ya), (aI k (a 66) 25 yb)] [0, 1, 2, 3, 4, 5, 6, 7, 8, 9, 10, 11, 12, 13, 14, 15, 16, 17, 18, 19, 20, 21, 22, 23, 24, 25, 26, 27, 28, 29, 30, 31, 32] hP hD (by decide +kernel) rfl
    exact W.iret (v := (-1001)) hx hb hr (fun t ht hW => ⟨⟨(-1001), (ya, yb), rfl, mn_no0 (fun s h1 h2 h3 => hw_1 s h1 h2 (by rw [d3_n] at h3; exact h3)), by rw [ht]; exact hP9, hD9⟩, hS.F ht⟩) hS.2.2 dX7_mean_19


set_option maxHeartbeats 4000000 in
set_option maxRecDepth 100000 in
theorem n_isFor (l : Launch) (D : va_G) (k : Nat → ClassId) (st : Nat → Nat) (lo : Nat) (a : Nat → Nat) (tx : Nat) (t0 : Nat) (we : Nat) (rd : Nat) (ru : Nat) (rw : Nat) (ca : Nat) (fp : Int32) (wd : Int64) (nu : Int32) (na : Int32) (ts : Int32) (df : Int32) (db : Int32) (sd : Int32) (bm : Nat → Nat) (fbarSeen : Nat → Int32) (fbarFrom : Nat → Int32) (fruleRounds : Nat → Int32) (kr : Nat) (i : Nat) (pq : Nat) (hbm : ∀ j, bm j ≤ 12) (hk : kr < 4) : CRi l D k st lo yX8_isFor cX8_isFor 6 (some .boolean) ({ frames := 0, cells := 0, slots := 0, locals := 0 }) [.ref (a 0), .int (nI kr), .int (nI i), .int (nI pq)] [((a 0), .inr (8, (fX8 a (nI tx) fp (nI t0) wd (nI we) nu na (nI rd) ts (nI ru) (nI rw) (nI ca) df db sd))), (aI k (a 25) 4 (nF bm)), (aI k (a 26) 48 fbarSeen), (aI k (a 27) 48 fbarFrom), (aI k (a 28) 4 fruleRounds)] (fun r => (r = 1 ∧ pBar (ruM bm fbarSeen fbarFrom fruleRounds kr) pq ≤ nI i) ∨ (r = 0 ∧ ¬ pBar (ruM bm fbarSeen fbarFrom fruleRounds kr) pq ≤ nI i)) := by
  intro sz
  refine Met.ofW (cc := cX8_isFor) (maxL := 6) (ret := (some .boolean)) (by decide) rfl ?_
  intro p e s m args below meth c s₁ B hml hv
  obtain ⟨rfl, hsz, hlo, hP, hK, hDL, hZ⟩ := hv
  have hx := B.exec
  have hb := B.bytes
  have hr := B.returns
  have hts := WS_ts B.pre
  have hown : s.vm.findClass RX8 = some m.cls := findClass_of_methodNamed B.named
  have hlocks := B.notSynchronized
  subst hsz
  have hA : ∀ q : Nat, s.heap.size ≤ q → (fun q : Nat => s.heap.size ≤ q) q := fun _ h => h
  have hAlo : ∀ q : Nat, (fun q : Nat => s.heap.size ≤ q) q → lo ≤ q := fun q h => Nat.le_trans hlo h
  have hS : va_S (fun q : Nat => s.heap.size ≤ q) s.heap s.heap [] := va_S.rf
  have hl := lv_entry ([.ref (a 0), .int (nI kr), .int (nI i), .int (nI pq)]) (n := 6) (Nat.le_of_ble_eq_true rfl)
  rw [lg_entry_eq]
  generalize (lg_sl ([.ref (a 0), .int (nI kr), .int (nI i), .int (nI pq)]) ++ List.replicate (6 - (lg_sl ([.ref (a 0), .int (nI kr), .int (nI i), .int (nI pq)])).length) Slot.unset).toArray = ls at hl ⊢
  have hl : lv_has ls 6 [(0, .ref (a 0)), (1, .int (nI kr)), (2, .int (nI i)), (3, .int (nI pq))] := hl
  have hb_9 := hbm kr
  refine lv_aload_n hx hb dX8_isFor_0 rfl (lv_at hl 0 rfl) ?_
  refine va_get (D := D) (ci := 8) (v := .ref (a 27)) (C := RX8) (T := TX8) (N := 44) hx hb hts inX8 hown hK hP 0 rfl rfl 26 (by decide) (hts _ tw_999) (fun _ h9 => h9) rfl dX8_isFor_1 ?_
  refine lv_bipush (v := 12) hx hb dX8_isFor_4 (by decide) ?_
  refine lv_iload_n hx hb dX8_isFor_6 rfl (lv_at hl 1 rfl) ?_
  refine lv_imul hx hb dX8_isFor_7 ?_
  refine lv_ti (y := (nI (12 * kr))) (pk_mul 12 kr) ?_
  refine va_iald hx hb hK hP 3 1 rfl rfl (vp_in_nI (by omega) (by decide)) dX8_isFor_8 ?_
  refine lv_ti (y := (fbarFrom (12 * kr))) (by rw [nI_clamp (by omega)]) ?_
  refine lv_istore (lv' := [(4, .int (fbarFrom (12 * kr))), (0, .ref (a 0)), (1, .int (nI kr)), (2, .int (nI i)), (3, .int (nI pq))]) hx hb dX8_isFor_9 hl (by decide) rfl (fun ls hl => ?_)
  refine lv_iconst (v := 1) hx hb dX8_isFor_11 (by decide) ?_
  refine lv_istore (lv' := [(5, .int 1), (4, .int (fbarFrom (12 * kr))), (0, .ref (a 0)), (1, .int (nI kr)), (2, .int (nI i)), (3, .int (nI pq))]) hx hb dX8_isFor_12 hl (by decide) rfl (fun ls hl => ?_)
  refine W_loop (σ := Nat × Int32) (fun (n_ : Nat) (x_ : Nat × Int32) (H : Heap) (locs : List Loc) (ls : Array Slot) => match x_ with | (k2_1, fr2_1) => n_ = 13 - k2_1 ∧ (1 ≤ k2_1 ∧ (k2_1 ≤ bm kr ∨ k2_1 = 1) ∧ fr2_1 = pBa (fun i => fbarSeen (12 * kr + 1 + i)) (fun i => fbarFrom (12 * kr + 1 + i)) (fbarFrom (12 * kr)) (nI pq) (k2_1 - 1)) ∧ va_P D classes [((a 0), .inr (8, (fX8 a (nI tx) fp (nI t0) wd (nI we) nu na (nI rd) ts (nI ru) (nI rw) (nI ca) df db sd))), (aI k (a 25) 4 (nF bm)), (aI k (a 26) 48 fbarSeen), (aI k (a 27) 48 fbarFrom), (aI k (a 28) 4 fruleRounds)] H ∧ va_S (fun q : Nat => s.heap.size ≤ q) s.heap H locs ∧ lv_has ls 6 [(5, .int (nI k2_1)), (4, .int fr2_1), (0, .ref (a 0)), (1, .int (nI kr)), (2, .int (nI i)), (3, .int (nI pq))]) (fun n_1 x_1 H locs ls hI ih_1 => ?_) _ (1, (fbarFrom (12 * kr))) ⟨rfl, ⟨by omega, .inr rfl, rfl⟩, hP, hS, (lv_sub hl [0, 1, 2, 3, 4, 5] rfl)⟩
  obtain ⟨k2_1, fr2_1⟩ := x_1
  obtain ⟨hm_1, hv_1, hP, hS, hl⟩ := hI
  subst hm_1
  refine lv_iload hx hb dX8_isFor_14 (lv_at hl 0 rfl) ?_
  refine lv_aload_n hx hb dX8_isFor_16 rfl (lv_at hl 2 rfl) ?_
  refine va_get (D := D) (ci := 8) (v := .ref (a 25)) (C := RX8) (T := TX8) (N := 44) hx hb hts inX8 hown hK hP 0 rfl rfl 24 (by decide) (hts _ tw_997) (fun _ h9 => h9) rfl dX8_isFor_17 ?_
  refine lv_iload_n hx hb dX8_isFor_20 rfl (lv_at hl 3 rfl) ?_
  refine va_iald hx hb hK hP 1 1 rfl rfl (vp_in_nI (by omega) (by decide)) dX8_isFor_21 ?_
  refine lv_ti (y := (nI (bm kr))) (by rw [nI_clamp (by omega)]; rfl) ?_
  refine lv_icmp_ge (tgt := 66) hx hb dX8_isFor_22 (by decide) (fun c_2 => ?_) (fun c_2 => ?_)
  · have c_2 := (nI_leI (a := (bm kr)) (b := k2_1) (by omega) (by omega)).mp c_2
    refine lv_iload_n hx hb dX8_isFor_66 rfl (lv_at hl 4 rfl) ?_
    refine lv_iload hx hb dX8_isFor_67 (lv_at hl 1 rfl) ?_
    refine lv_icmp_lt (tgt := 76) hx hb dX8_isFor_69 (by decide) (fun c_3 => ?_) (fun c_3 => ?_)
    · refine lv_iconst (v := 0) hx hb dX8_isFor_76 (by decide) ?_
      exact W.zret (v := 0) (ty := .boolean) hx hb hr rfl (fun t ht hW => ⟨⟨0, (), rfl, .inr ⟨rfl, by rw [(show pBar (ruM bm fbarSeen fbarFrom fruleRounds kr) pq = fr2_1 by rw [mBar, hv_1.2.2, show bm kr - 1 = k2_1 - 1 by omega])]; exact Int32.not_le.mpr c_3⟩, trivial⟩, hS.F ht⟩) hS.2.2 dX8_isFor_77
    · refine lv_iconst (v := 1) hx hb dX8_isFor_72 (by decide) ?_
      refine lv_goto (tgt := 77) hx hb dX8_isFor_73 (by decide) ?_
      exact W.zret (v := 1) (ty := .boolean) hx hb hr rfl (fun t ht hW => ⟨⟨1, (), rfl, .inl ⟨rfl, by rw [(show pBar (ruM bm fbarSeen fbarFrom fruleRounds kr) pq = fr2_1 by rw [mBar, hv_1.2.2, show bm kr - 1 = k2_1 - 1 by omega])]; exact Int32.not_lt.mp c_3⟩, trivial⟩, hS.F ht⟩) hS.2.2 dX8_isFor_77
  · have c_2 : ¬ ((bm kr) ≤ k2_1) := fun h => c_2 ((nI_leI (a := (bm kr)) (b := k2_1) (by omega) (by omega)).mpr h)
    refine lv_aload_n hx hb dX8_isFor_25 rfl (lv_at hl 2 rfl) ?_
    refine va_get (D := D) (ci := 8) (v := .ref (a 26)) (C := RX8) (T := TX8) (N := 44) hx hb hts inX8 hown hK hP 0 rfl rfl 25 (by decide) (hts _ tw_998) (fun _ h9 => h9) rfl dX8_isFor_26 ?_
    refine lv_bipush (v := 12) hx hb dX8_isFor_29 (by decide) ?_
    refine lv_iload_n hx hb dX8_isFor_31 rfl (lv_at hl 3 rfl) ?_
    refine lv_imul hx hb dX8_isFor_32 ?_
    refine lv_ti (y := (nI (12 * kr))) (pk_mul 12 kr) ?_
    refine lv_iload hx hb dX8_isFor_33 (lv_at hl 0 rfl) ?_
    refine lv_iadd hx hb dX8_isFor_35 ?_
    refine lv_ti (y := (nI (12 * kr + k2_1))) (nI_add (12 * kr) k2_1) ?_
    refine va_iald hx hb hK hP 2 1 rfl rfl (vp_in_nI (by omega) (by decide)) dX8_isFor_36 ?_
    refine lv_ti (y := (fbarSeen (12 * kr + k2_1))) (by rw [nI_clamp (by omega)]) ?_
    refine lv_iload_n hx hb dX8_isFor_37 rfl (lv_at hl 5 rfl) ?_
    refine lv_icmp_gt (tgt := 56) hx hb dX8_isFor_38 (by decide) (fun c_4 => ?_) (fun c_4 => ?_)
    · refine lv_iload hx hb dX8_isFor_56 (lv_at hl 1 rfl) ?_
      refine lv_istore (lv' := [(4, .int fr2_1), (5, .int (nI k2_1)), (0, .ref (a 0)), (1, .int (nI kr)), (2, .int (nI i)), (3, .int (nI pq))]) hx hb dX8_isFor_58 hl (by decide) rfl (fun ls hl => ?_)
      refine lv_iinc (v := (nI (k2_1 + 1))) (lv' := [(5, .int (nI (k2_1 + 1))), (4, .int fr2_1), (0, .ref (a 0)), (1, .int (nI kr)), (2, .int (nI i)), (3, .int (nI pq))]) hx hb dX8_isFor_60 hl (k := 1) rfl (nI_add k2_1 1) (by decide) rfl (fun ls hl => ?_)
      refine lv_goto (tgt := 14) hx hb dX8_isFor_63 (by decide) ?_
      exact ih_1 _ (k2_1 + 1, fr2_1) _ _ _ (by omega) ⟨rfl, ⟨by omega, .inl (by omega), (by rw [(show k2_1 + 1 - 1 = (k2_1 - 1) + 1 by omega), pBa_n (sn := fun i => fbarSeen (12 * kr + 1 + i)) (k := k2_1 - 1) (show ¬ fbarSeen (12 * kr + 1 + (k2_1 - 1)) ≤ nI pq by rw [← (show 12 * kr + k2_1 = 12 * kr + 1 + (k2_1 - 1) by omega)]; exact Int32.not_le.mpr c_4)]; exact hv_1.2.2)⟩, hP, hS, (lv_sub hl [0, 1, 2, 3, 4, 5] rfl)⟩
    · refine lv_aload_n hx hb dX8_isFor_41 rfl (lv_at hl 2 rfl) ?_
      refine va_get (D := D) (ci := 8) (v := .ref (a 27)) (C := RX8) (T := TX8) (N := 44) hx hb hts inX8 hown hK hP 0 rfl rfl 26 (by decide) (hts _ tw_999) (fun _ h9 => h9) rfl dX8_isFor_42 ?_
      refine lv_bipush (v := 12) hx hb dX8_isFor_45 (by decide) ?_
      refine lv_iload_n hx hb dX8_isFor_47 rfl (lv_at hl 3 rfl) ?_
      refine lv_imul hx hb dX8_isFor_48 ?_
      refine lv_ti (y := (nI (12 * kr))) (pk_mul 12 kr) ?_
      refine lv_iload hx hb dX8_isFor_49 (lv_at hl 0 rfl) ?_
      refine lv_iadd hx hb dX8_isFor_51 ?_
      refine lv_ti (y := (nI (12 * kr + k2_1))) (nI_add (12 * kr) k2_1) ?_
      refine va_iald hx hb hK hP 3 1 rfl rfl (vp_in_nI (by omega) (by decide)) dX8_isFor_52 ?_
      refine lv_ti (y := (fbarFrom (12 * kr + k2_1))) (by rw [nI_clamp (by omega)]) ?_
      refine lv_goto (tgt := 58) hx hb dX8_isFor_53 (by decide) ?_
      refine lv_istore (lv' := [(4, .int (fbarFrom (12 * kr + k2_1))), (5, .int (nI k2_1)), (0, .ref (a 0)), (1, .int (nI kr)), (2, .int (nI i)), (3, .int (nI pq))]) hx hb dX8_isFor_58 hl (by decide) rfl (fun ls hl => ?_)
      refine lv_iinc (v := (nI (k2_1 + 1))) (lv' := [(5, .int (nI (k2_1 + 1))), (4, .int (fbarFrom (12 * kr + k2_1))), (0, .ref (a 0)), (1, .int (nI kr)), (2, .int (nI i)), (3, .int (nI pq))]) hx hb dX8_isFor_60 hl (k := 1) rfl (nI_add k2_1 1) (by decide) rfl (fun ls hl => ?_)
      refine lv_goto (tgt := 14) hx hb dX8_isFor_63 (by decide) ?_
      exact ih_1 _ (k2_1 + 1, (fbarFrom (12 * kr + k2_1))) _ _ _ (by omega) ⟨rfl, ⟨by omega, .inl (by omega), (by rw [(show k2_1 + 1 - 1 = (k2_1 - 1) + 1 by omega), pBa_y (sn := fun i => fbarSeen (12 * kr + 1 + i)) (k := k2_1 - 1) (show fbarSeen (12 * kr + 1 + (k2_1 - 1)) ≤ nI pq by rw [← (show 12 * kr + k2_1 = 12 * kr + 1 + (k2_1 - 1) by omega)]; exact Int32.not_lt.mp c_4), (show 12 * kr + k2_1 = 12 * kr + 1 + (k2_1 - 1) by omega)])⟩, hP, hS, (lv_sub hl [0, 1, 2, 3, 4, 5] rfl)⟩

theorem f_glueP24 : True := trivial


def fM_byT (dn : Nat → Nat) (se : Nat → Nat) (tm : Nat → Nat) (gs : Nat → Int32) (fprices : Nat → Int32) (sn : Nat) (i : Nat) (p0 : Int32) (p3 : Int32) : Int32 := ((if p3 = 0 then (fM_taking dn se tm gs fprices sn i p0) else (if p3 = 1 then (if ((if (fM_late se tm gs sn (((fM_tick dn se tm gs sn p0 (nI i)) + (nI (dn sn))) - (nI i))) ≤ 0 then 0 else 1) : Nat) = 0 then 0 else 1000000) else 0)) : Int32)
set_option maxHeartbeats 4000000 in
set_option maxRecDepth 100000 in
theorem n_byTaking (l : Launch) (D : va_G) (k : Nat → ClassId) (st : Nat → Nat) (lo : Nat) (a : Nat → Nat) (tx : Nat) (t0 : Nat) (we : Nat) (rd : Nat) (ru : Nat) (rw : Nat) (ca : Nat) (fp : Int32) (wd : Int64) (nu : Int32) (na : Int32) (ts : Int32) (df : Int32) (db : Int32) (sd : Int32) (dn : Nat → Nat) (se : Nat → Nat) (tm : Nat → Nat) (gs : Nat → Int32) (fprices : Nat → Int32) (sn : Nat) (i : Nat) (p0 : Int32) (p3 : Int32)  (hs : sn < 3) (hi : i < 24) : CRi l D k st lo yX8_byTaking cX8_byTaking 6 (some .int) ({ frames := 4, cells := 0, slots := 0, locals := 93 }) [.ref (a 0), .int (nI sn), .int p0, .int (nI i), .int p3] [((a 0), .inr (8, (fX8 a (nI tx) fp (nI t0) wd (nI we) nu na (nI rd) ts (nI ru) (nI rw) (nI ca) df db sd))), (aI k (a 1) 3 (nF dn)), (aI k (a 4) 27 (sg se tm gs)), (aI k (a 3) 72 fprices)] (fun r => r = fM_byT dn se tm gs fprices sn i p0 p3) := by
  intro sz
  refine Met.ofW (cc := cX8_byTaking) (maxL := 6) (ret := (some .int)) (by decide) rfl ?_
  intro p e s m args below meth c s₁ B hml hv
  obtain ⟨rfl, hsz, hlo, hP, hK, hDL, hZ⟩ := hv
  have hx := B.exec
  have hb := B.bytes
  have hr := B.returns
  have hts := WS_ts B.pre
  have hown : s.vm.findClass RX8 = some m.cls := findClass_of_methodNamed B.named
  have hlocks := B.notSynchronized
  subst hsz
  have hA : ∀ q : Nat, s.heap.size ≤ q → (fun q : Nat => s.heap.size ≤ q) q := fun _ h => h
  have hAlo : ∀ q : Nat, (fun q : Nat => s.heap.size ≤ q) q → lo ≤ q := fun q h => Nat.le_trans hlo h
  have hS : va_S (fun q : Nat => s.heap.size ≤ q) s.heap s.heap [] := va_S.rf
  have hl := lv_entry ([.ref (a 0), .int (nI sn), .int p0, .int (nI i), .int p3]) (n := 6) (Nat.le_of_ble_eq_true rfl)
  rw [lg_entry_eq]
  generalize (lg_sl ([.ref (a 0), .int (nI sn), .int p0, .int (nI i), .int p3]) ++ List.replicate (6 - (lg_sl ([.ref (a 0), .int (nI sn), .int p0, .int (nI i), .int p3])).length) Slot.unset).toArray = ls at hl ⊢
  have hl : lv_has ls 6 [(0, .ref (a 0)), (1, .int (nI sn)), (2, .int p0), (3, .int (nI i)), (4, .int p3)] := hl
  refine lv_aload_n hx hb dX8_byTaking_0 rfl (lv_at hl 0 rfl) ?_
  refine lv_iload_n hx hb dX8_byTaking_1 rfl (lv_at hl 1 rfl) ?_
  refine lv_aload_n hx hb dX8_byTaking_2 rfl (lv_at hl 0 rfl) ?_
  refine lv_iload_n hx hb dX8_byTaking_3 rfl (lv_at hl 1 rfl) ?_
  refine lv_iload_n hx hb dX8_byTaking_4 rfl (lv_at hl 2 rfl) ?_
  refine lv_iload_n hx hb dX8_byTaking_5 rfl (lv_at hl 3 rfl) ?_
  refine ro_i (D := D) (va_runV (As := [.int (nI sn), .int p0, .int (nI i)]) (rest := [.int (nI sn), .ref (a 0)]) ⟨hx, hb, hml, hown, hts⟩ ((n_tick l D k st lo a tx t0 we rd ru rw ca fp wd nu na ts df db sd dn se tm gs sn p0 (nI i) (by first | assumption | omega)) s.heap.size) (cwV 3 hts (gV tw_1230 tw_1232 tw_45 tw_87 tw_1233) rfl rfl rfl (by decide +kernel) ⟨Nat.le_of_ble_eq_true rfl, Nat.le_of_ble_eq_true rfl⟩) (pV hS hAlo hlo hP hK hDL hZ [0, 1, 2] (by decide) rfl (ci := 8) (q := (RX8, TX8, 44)) (q0 := 0) rfl rfl) rfl rfl hl.1 rfl (lv_room (Nat.le_of_ble_eq_true rfl)) dX8_byTaking_6 ⟨Nat.le_of_ble_eq_true rfl, Nat.le_of_ble_eq_true rfl⟩) hS hA hP (fun r_1 H locs hw_1 hP hS => ?_)
  try dsimp only at hw_1
  refine lv_aload_n hx hb dX8_byTaking_9 rfl (lv_at hl 0 rfl) ?_
  refine va_get (D := D) (ci := 8) (v := .ref (a 1)) (C := RX8) (T := TX8) (N := 44) hx hb hts inX8 hown hK hP 0 rfl rfl 0 (by decide) (hts _ tw_973) (fun _ h9 => h9) rfl dX8_byTaking_10 ?_
  refine lv_iload_n hx hb dX8_byTaking_13 rfl (lv_at hl 1 rfl) ?_
  refine va_iald hx hb hK hP 1 1 rfl rfl (vp_in_nI (by omega) (by decide)) dX8_byTaking_14 ?_
  refine lv_ti (y := (nI (dn sn))) (by rw [nI_clamp (by omega)]; rfl) ?_
  refine lv_iadd hx hb dX8_byTaking_15 ?_
  refine lv_topi (fun x_2 ex_2 => ?_)
  refine lv_iload_n hx hb dX8_byTaking_16 rfl (lv_at hl 3 rfl) ?_
  refine lv_isub hx hb dX8_byTaking_17 ?_
  refine lv_topi (fun x_3 ex_3 => ?_)
  refine ro_i (D := D) (va_runV (As := [.int (nI sn), .int x_3]) (rest := []) ⟨hx, hb, hml, hown, hts⟩ ((n_lateAt l D k st lo a tx t0 we rd ru rw ca fp wd nu na ts df db sd se tm gs sn x_3 (by first | assumption | omega)) H.size) (cwV 2 hts (gV tw_1234 tw_1236 tw_46 tw_87 tw_1237) rfl rfl rfl (by decide +kernel) ⟨Nat.le_of_ble_eq_true rfl, Nat.le_of_ble_eq_true rfl⟩) (pV hS hAlo hlo hP hK hDL hZ [0, 2] (by decide) rfl (ci := 8) (q := (RX8, TX8, 44)) (q0 := 0) rfl rfl) rfl rfl hl.1 rfl (lv_room (Nat.le_of_ble_eq_true rfl)) dX8_byTaking_18 ⟨Nat.le_of_ble_eq_true rfl, Nat.le_of_ble_eq_true rfl⟩) hS hA hP (fun r_4 H locs hw_4 hP hS => ?_)
  try dsimp only at hw_4
  refine W_join (fun (x_6 : Nat) (H : Heap) (locs : List Loc) (ls : Array Slot) => x_6 = ((if r_4 ≤ 0 then 0 else 1) : Nat) ∧ (x_6 = 0 ∨ x_6 = 1) ∧ va_P D classes [((a 0), .inr (8, (fX8 a (nI tx) fp (nI t0) wd (nI we) nu na (nI rd) ts (nI ru) (nI rw) (nI ca) df db sd))), (aI k (a 1) 3 (nF dn)), (aI k (a 4) 27 (sg se tm gs)), (aI k (a 3) 72 fprices)] H ∧ va_S (fun q : Nat => s.heap.size ≤ q) s.heap H locs ∧ lv_has ls 6 [(4, .int p3), (3, .int (nI i)), (2, .int p0), (1, .int (nI sn)), (0, .ref (a 0))]) (fun (x_6 : Nat) => [.int (nI x_6)]) 29 (fun x_6 H locs ls hJ => ?_) (fun J_6 => ?_)
  · obtain ⟨hj_6, hk_6, hP, hS, hl⟩ := hJ
    show W p l e _ s m _ below meth c H locs _ _ _ (F0 m 29 ls [.int (nI x_6)])
    refine lv_istore (lv' := [(5, .int (nI x_6)), (4, .int p3), (3, .int (nI i)), (2, .int p0), (1, .int (nI sn)), (0, .ref (a 0))]) hx hb dX8_byTaking_29 hl (by decide) rfl (fun ls hl => ?_)
    refine lv_iload hx hb dX8_byTaking_31 (lv_at hl 1 rfl) ?_
    refine W_join (fun (x_11 : Int32) (H : Heap) (locs : List Loc) (ls : Array Slot) => x_11 = ((if p3 = 0 then (fM_taking dn se tm gs fprices sn i p0) else (if p3 = 1 then (if x_6 = 0 then 0 else 1000000) else 0)) : Int32) ∧ va_P D classes [((a 0), .inr (8, (fX8 a (nI tx) fp (nI t0) wd (nI we) nu na (nI rd) ts (nI ru) (nI rw) (nI ca) df db sd))), (aI k (a 1) 3 (nF dn)), (aI k (a 4) 27 (sg se tm gs)), (aI k (a 3) 72 fprices)] H ∧ va_S (fun q : Nat => s.heap.size ≤ q) s.heap H locs ∧ lv_has ls 6 [(5, .int (nI x_6)), (4, .int p3), (3, .int (nI i)), (2, .int p0), (1, .int (nI sn)), (0, .ref (a 0))]) (fun (x_11 : Int32) => [.int x_11]) 64 (fun x_11 H locs ls hJ => ?_) (fun J_11 => ?_)
    · obtain ⟨hj_11, hP, hS, hl⟩ := hJ
      show W p l e _ s m _ below meth c H locs _ _ _ (F0 m 64 ls [.int x_11])
      exact W.iret (v := x_11) hx hb hr (fun t ht hW => ⟨⟨x_11, (), rfl, (by show _ = fM_byT dn se tm gs fprices sn i p0 p3; unfold fM_byT; first | (rw [hj_11, hj_6, hw_4, ex_3, ex_2, hw_1]; done) | (rw [hj_11, hj_6, hw_4, ex_3, ex_2, hw_1]; rfl) | (simp only [hj_11, hj_6, hw_4, ex_3, ex_2, hw_1]; done)), trivial⟩, hS.F ht⟩) hS.2.2 dX8_byTaking_64
    · refine lv_if_ne (tgt := 46) hx hb dX8_byTaking_33 (by decide) (fun c_12 => ?_) (fun c_12 => ?_)
      · refine lv_iload hx hb dX8_byTaking_46 (lv_at hl 1 rfl) ?_
        refine lv_iconst (v := 1) hx hb dX8_byTaking_48 (by decide) ?_
        refine lv_icmp_ne (tgt := 63) hx hb dX8_byTaking_49 (by decide) (fun c_13 => ?_) (fun c_13 => ?_)
        · refine lv_iconst (v := 0) hx hb dX8_byTaking_63 (by decide) ?_
          exact J_11 0 _ _ _ ⟨(by first | (rw [if_neg c_12, if_neg c_13]; done) | (rw [if_neg c_12, if_neg c_13]; rfl) | (simp only [if_neg c_12, if_neg c_13]; done)), hP, hS, lv_sub hl [0, 1, 2, 3, 4, 5] rfl⟩
        · refine lv_iload hx hb dX8_byTaking_52 (lv_at hl 0 rfl) ?_
          refine lv_if_eq (tgt := 63) hx hb dX8_byTaking_54 (by decide) (fun c_14 => ?_) (fun c_14 => ?_)
          · have c_14 := (nI_eq (a := x_6) (b := 0) (by omega) (by omega)).mp c_14
            refine lv_iconst (v := 0) hx hb dX8_byTaking_63 (by decide) ?_
            exact J_11 0 _ _ _ ⟨(by first | (rw [if_neg c_12, if_pos c_13, if_pos c_14]; done) | (rw [if_neg c_12, if_pos c_13, if_pos c_14]; rfl) | (simp only [if_neg c_12, if_pos c_13, if_pos c_14]; done)), hP, hS, lv_sub hl [0, 1, 2, 3, 4, 5] rfl⟩
          · have c_14 : ¬ (x_6 = 0) := fun h => c_14 ((nI_eq (a := x_6) (b := 0) (by omega) (by omega)).mpr h)
            refine lv_ldcw hx hb hown (hts _ tw_1337) dX8_byTaking_57 ?_
            refine lv_goto (tgt := 64) hx hb dX8_byTaking_60 (by decide) ?_
            exact J_11 1000000 _ _ _ ⟨(by first | (rw [if_neg c_12, if_pos c_13, if_neg c_14]; done) | (rw [if_neg c_12, if_pos c_13, if_neg c_14]; rfl) | (simp only [if_neg c_12, if_pos c_13, if_neg c_14]; done)), hP, hS, lv_sub hl [0, 1, 2, 3, 4, 5] rfl⟩
      · refine lv_aload_n hx hb dX8_byTaking_36 rfl (lv_at hl 5 rfl) ?_
        refine lv_iload_n hx hb dX8_byTaking_37 rfl (lv_at hl 4 rfl) ?_
        refine lv_iload_n hx hb dX8_byTaking_38 rfl (lv_at hl 3 rfl) ?_
        refine lv_iload_n hx hb dX8_byTaking_39 rfl (lv_at hl 2 rfl) ?_
        refine ro_i (D := D) (va_runV (As := [.int (nI sn), .int p0, .int (nI i)]) (rest := []) ⟨hx, hb, hml, hown, hts⟩ ((n_takingOf l D k st lo a tx t0 we rd ru rw ca fp wd nu na ts df db sd dn se tm gs fprices sn i p0 (by first | assumption | omega) (by first | assumption | omega)) H.size) (cwV 3 hts (gV tw_1222 tw_1224 tw_43 tw_87 tw_1225) rfl rfl rfl (by decide +kernel) ⟨Nat.le_of_ble_eq_true rfl, Nat.le_of_ble_eq_true rfl⟩) (pV hS hAlo hlo hP hK hDL hZ [0, 1, 2, 3] (by decide) rfl (ci := 8) (q := (RX8, TX8, 44)) (q0 := 0) rfl rfl) rfl rfl hl.1 rfl (lv_room (Nat.le_of_ble_eq_true rfl)) dX8_byTaking_40 ⟨Nat.le_of_ble_eq_true rfl, Nat.le_of_ble_eq_true rfl⟩) hS hA hP (fun r_15 H locs hw_15 hP hS => ?_)
        try dsimp only at hw_15
        refine lv_goto (tgt := 64) hx hb dX8_byTaking_43 (by decide) ?_
        exact J_11 r_15 _ _ _ ⟨(by first | (rw [if_pos c_12, hw_15]; done) | (rw [if_pos c_12, hw_15]; rfl) | (simp only [if_pos c_12, hw_15]; done)), hP, hS, lv_sub hl [0, 1, 2, 3, 4, 5] rfl⟩
  · refine lv_if_le (tgt := 28) hx hb dX8_byTaking_21 (by decide) (fun c_16 => ?_) (fun c_16 => ?_)
    · refine lv_iconst (v := 0) hx hb dX8_byTaking_28 (by decide) ?_
      exact J_6 0 _ _ _ ⟨(by first | (rw [if_pos c_16]; done) | (rw [if_pos c_16]; rfl) | (simp only [if_pos c_16]; done)), .inl rfl, hP, hS, lv_sub hl [4, 3, 2, 1, 0] rfl⟩
    · refine lv_iconst (v := 1) hx hb dX8_byTaking_24 (by decide) ?_
      refine lv_goto (tgt := 29) hx hb dX8_byTaking_25 (by decide) ?_
      exact J_6 1 _ _ _ ⟨(by first | (rw [if_neg c_16]; done) | (rw [if_neg c_16]; rfl) | (simp only [if_neg c_16]; done)), .inr (rfl), hP, hS, lv_sub hl [4, 3, 2, 1, 0] rfl⟩


def fM_byG (dn : Nat → Nat) (se : Nat → Nat) (tm : Nat → Nat) (gs : Nat → Int32) (sn : Nat) (p0 : Int32) (p3 : Int32) : Int32 := ((if p3 = 0 then (fM_garage dn se tm gs sn p0) else (if p3 = 2 then 1000000 else (if ((if (fM_late se tm gs sn (fM_tick dn se tm gs sn p0 (nI (dn sn)))) ≤ 0 then 0 else 1) : Nat) = 0 then 0 else 1000000))) : Int32)
set_option maxHeartbeats 4000000 in
set_option maxRecDepth 100000 in
theorem n_byGarage (l : Launch) (D : va_G) (k : Nat → ClassId) (st : Nat → Nat) (lo : Nat) (a : Nat → Nat) (tx : Nat) (t0 : Nat) (we : Nat) (rd : Nat) (ru : Nat) (rw : Nat) (ca : Nat) (fp : Int32) (wd : Int64) (nu : Int32) (na : Int32) (ts : Int32) (df : Int32) (db : Int32) (sd : Int32) (dn : Nat → Nat) (se : Nat → Nat) (tm : Nat → Nat) (gs : Nat → Int32) (sn : Nat) (p0 : Int32) (p3 : Int32)  (hs : sn < 3) : CRi l D k st lo yX8_byGarage cX8_byGarage 5 (some .int) ({ frames := 3, cells := 0, slots := 0, locals := 67 }) [.ref (a 0), .int (nI sn), .int p0, .int p3] [((a 0), .inr (8, (fX8 a (nI tx) fp (nI t0) wd (nI we) nu na (nI rd) ts (nI ru) (nI rw) (nI ca) df db sd))), (aI k (a 1) 3 (nF dn)), (aI k (a 4) 27 (sg se tm gs))] (fun r => r = fM_byG dn se tm gs sn p0 p3) := by
  intro sz
  refine Met.ofW (cc := cX8_byGarage) (maxL := 5) (ret := (some .int)) (by decide) rfl ?_
  intro p e s m args below meth c s₁ B hml hv
  obtain ⟨rfl, hsz, hlo, hP, hK, hDL, hZ⟩ := hv
  have hx := B.exec
  have hb := B.bytes
  have hr := B.returns
  have hts := WS_ts B.pre
  have hown : s.vm.findClass RX8 = some m.cls := findClass_of_methodNamed B.named
  have hlocks := B.notSynchronized
  subst hsz
  have hA : ∀ q : Nat, s.heap.size ≤ q → (fun q : Nat => s.heap.size ≤ q) q := fun _ h => h
  have hAlo : ∀ q : Nat, (fun q : Nat => s.heap.size ≤ q) q → lo ≤ q := fun q h => Nat.le_trans hlo h
  have hS : va_S (fun q : Nat => s.heap.size ≤ q) s.heap s.heap [] := va_S.rf
  have hl := lv_entry ([.ref (a 0), .int (nI sn), .int p0, .int p3]) (n := 5) (Nat.le_of_ble_eq_true rfl)
  rw [lg_entry_eq]
  generalize (lg_sl ([.ref (a 0), .int (nI sn), .int p0, .int p3]) ++ List.replicate (5 - (lg_sl ([.ref (a 0), .int (nI sn), .int p0, .int p3])).length) Slot.unset).toArray = ls at hl ⊢
  have hl : lv_has ls 5 [(0, .ref (a 0)), (1, .int (nI sn)), (2, .int p0), (3, .int p3)] := hl
  refine lv_aload_n hx hb dX8_byGarage_0 rfl (lv_at hl 0 rfl) ?_
  refine lv_iload_n hx hb dX8_byGarage_1 rfl (lv_at hl 1 rfl) ?_
  refine lv_aload_n hx hb dX8_byGarage_2 rfl (lv_at hl 0 rfl) ?_
  refine lv_iload_n hx hb dX8_byGarage_3 rfl (lv_at hl 1 rfl) ?_
  refine lv_iload_n hx hb dX8_byGarage_4 rfl (lv_at hl 2 rfl) ?_
  refine lv_aload_n hx hb dX8_byGarage_5 rfl (lv_at hl 0 rfl) ?_
  refine va_get (D := D) (ci := 8) (v := .ref (a 1)) (C := RX8) (T := TX8) (N := 44) hx hb hts inX8 hown hK hP 0 rfl rfl 0 (by decide) (hts _ tw_973) (fun _ h9 => h9) rfl dX8_byGarage_6 ?_
  refine lv_iload_n hx hb dX8_byGarage_9 rfl (lv_at hl 1 rfl) ?_
  refine va_iald hx hb hK hP 1 1 rfl rfl (vp_in_nI (by omega) (by decide)) dX8_byGarage_10 ?_
  refine lv_ti (y := (nI (dn sn))) (by rw [nI_clamp (by omega)]; rfl) ?_
  refine ro_i (D := D) (va_runV (As := [.int (nI sn), .int p0, .int (nI (dn sn))]) (rest := [.int (nI sn), .ref (a 0)]) ⟨hx, hb, hml, hown, hts⟩ ((n_tick l D k st lo a tx t0 we rd ru rw ca fp wd nu na ts df db sd dn se tm gs sn p0 (nI (dn sn)) (by first | assumption | omega)) s.heap.size) (cwV 3 hts (gV tw_1230 tw_1232 tw_45 tw_87 tw_1233) rfl rfl rfl (by decide +kernel) ⟨Nat.le_of_ble_eq_true rfl, Nat.le_of_ble_eq_true rfl⟩) (pV hS hAlo hlo hP hK hDL hZ [0, 1, 2] (by decide) rfl (ci := 8) (q := (RX8, TX8, 44)) (q0 := 0) rfl rfl) rfl rfl hl.1 rfl (lv_room (Nat.le_of_ble_eq_true rfl)) dX8_byGarage_11 ⟨Nat.le_of_ble_eq_true rfl, Nat.le_of_ble_eq_true rfl⟩) hS hA hP (fun r_1 H locs hw_1 hP hS => ?_)
  try dsimp only at hw_1
  refine ro_i (D := D) (va_runV (As := [.int (nI sn), .int r_1]) (rest := []) ⟨hx, hb, hml, hown, hts⟩ ((n_lateAt l D k st lo a tx t0 we rd ru rw ca fp wd nu na ts df db sd se tm gs sn r_1 (by first | assumption | omega)) H.size) (cwV 2 hts (gV tw_1234 tw_1236 tw_46 tw_87 tw_1237) rfl rfl rfl (by decide +kernel) ⟨Nat.le_of_ble_eq_true rfl, Nat.le_of_ble_eq_true rfl⟩) (pV hS hAlo hlo hP hK hDL hZ [0, 2] (by decide) rfl (ci := 8) (q := (RX8, TX8, 44)) (q0 := 0) rfl rfl) rfl rfl hl.1 rfl (lv_room (Nat.le_of_ble_eq_true rfl)) dX8_byGarage_14 ⟨Nat.le_of_ble_eq_true rfl, Nat.le_of_ble_eq_true rfl⟩) hS hA hP (fun r_2 H locs hw_2 hP hS => ?_)
  try dsimp only at hw_2
  refine W_join (fun (x_4 : Nat) (H : Heap) (locs : List Loc) (ls : Array Slot) => x_4 = ((if r_2 ≤ 0 then 0 else 1) : Nat) ∧ (x_4 = 0 ∨ x_4 = 1) ∧ va_P D classes [((a 0), .inr (8, (fX8 a (nI tx) fp (nI t0) wd (nI we) nu na (nI rd) ts (nI ru) (nI rw) (nI ca) df db sd))), (aI k (a 1) 3 (nF dn)), (aI k (a 4) 27 (sg se tm gs))] H ∧ va_S (fun q : Nat => s.heap.size ≤ q) s.heap H locs ∧ lv_has ls 5 [(3, .int p3), (2, .int p0), (1, .int (nI sn)), (0, .ref (a 0))]) (fun (x_4 : Nat) => [.int (nI x_4)]) 25 (fun x_4 H locs ls hJ => ?_) (fun J_4 => ?_)
  · obtain ⟨hj_4, hk_4, hP, hS, hl⟩ := hJ
    show W p l e _ s m _ below meth c H locs _ _ _ (F0 m 25 ls [.int (nI x_4)])
    refine lv_istore (lv' := [(4, .int (nI x_4)), (3, .int p3), (2, .int p0), (1, .int (nI sn)), (0, .ref (a 0))]) hx hb dX8_byGarage_25 hl (by decide) rfl (fun ls hl => ?_)
    refine lv_iload_n hx hb dX8_byGarage_27 rfl (lv_at hl 1 rfl) ?_
    refine W_join (fun (x_9 : Int32) (H : Heap) (locs : List Loc) (ls : Array Slot) => x_9 = ((if p3 = 0 then (fM_garage dn se tm gs sn p0) else (if p3 = 2 then 1000000 else (if x_4 = 0 then 0 else 1000000))) : Int32) ∧ va_P D classes [((a 0), .inr (8, (fX8 a (nI tx) fp (nI t0) wd (nI we) nu na (nI rd) ts (nI ru) (nI rw) (nI ca) df db sd))), (aI k (a 1) 3 (nF dn)), (aI k (a 4) 27 (sg se tm gs))] H ∧ va_S (fun q : Nat => s.heap.size ≤ q) s.heap H locs ∧ lv_has ls 5 [(4, .int (nI x_4)), (3, .int p3), (2, .int p0), (1, .int (nI sn)), (0, .ref (a 0))]) (fun (x_9 : Int32) => [.int x_9]) 57 (fun x_9 H locs ls hJ => ?_) (fun J_9 => ?_)
    · obtain ⟨hj_9, hP, hS, hl⟩ := hJ
      show W p l e _ s m _ below meth c H locs _ _ _ (F0 m 57 ls [.int x_9])
      exact W.iret (v := x_9) hx hb hr (fun t ht hW => ⟨⟨x_9, (), rfl, (by show _ = fM_byG dn se tm gs sn p0 p3; unfold fM_byG; first | (rw [hj_9, hj_4, hw_2, hw_1]; done) | (rw [hj_9, hj_4, hw_2, hw_1]; rfl) | (simp only [hj_9, hj_4, hw_2, hw_1]; done)), trivial⟩, hS.F ht⟩) hS.2.2 dX8_byGarage_57
    · refine lv_if_ne (tgt := 40) hx hb dX8_byGarage_28 (by decide) (fun c_10 => ?_) (fun c_10 => ?_)
      · refine lv_iload_n hx hb dX8_byGarage_40 rfl (lv_at hl 1 rfl) ?_
        refine lv_iconst (v := 2) hx hb dX8_byGarage_41 (by decide) ?_
        refine lv_icmp_eq (tgt := 50) hx hb dX8_byGarage_42 (by decide) (fun c_11 => ?_) (fun c_11 => ?_)
        · refine lv_ldcw hx hb hown (hts _ tw_1337) dX8_byGarage_50 ?_
          refine lv_goto (tgt := 57) hx hb dX8_byGarage_53 (by decide) ?_
          exact J_9 1000000 _ _ _ ⟨(by first | (rw [if_neg c_10, if_pos c_11]; done) | (rw [if_neg c_10, if_pos c_11]; rfl) | (simp only [if_neg c_10, if_pos c_11]; done)), hP, hS, lv_sub hl [0, 1, 2, 3, 4] rfl⟩
        · refine lv_iload hx hb dX8_byGarage_45 (lv_at hl 0 rfl) ?_
          refine lv_if_eq (tgt := 56) hx hb dX8_byGarage_47 (by decide) (fun c_12 => ?_) (fun c_12 => ?_)
          · have c_12 := (nI_eq (a := x_4) (b := 0) (by omega) (by omega)).mp c_12
            refine lv_iconst (v := 0) hx hb dX8_byGarage_56 (by decide) ?_
            exact J_9 0 _ _ _ ⟨(by first | (rw [if_neg c_10, if_neg c_11, if_pos c_12]; done) | (rw [if_neg c_10, if_neg c_11, if_pos c_12]; rfl) | (simp only [if_neg c_10, if_neg c_11, if_pos c_12]; done)), hP, hS, lv_sub hl [0, 1, 2, 3, 4] rfl⟩
          · have c_12 : ¬ (x_4 = 0) := fun h => c_12 ((nI_eq (a := x_4) (b := 0) (by omega) (by omega)).mpr h)
            refine lv_ldcw hx hb hown (hts _ tw_1337) dX8_byGarage_50 ?_
            refine lv_goto (tgt := 57) hx hb dX8_byGarage_53 (by decide) ?_
            exact J_9 1000000 _ _ _ ⟨(by first | (rw [if_neg c_10, if_neg c_11, if_neg c_12]; done) | (rw [if_neg c_10, if_neg c_11, if_neg c_12]; rfl) | (simp only [if_neg c_10, if_neg c_11, if_neg c_12]; done)), hP, hS, lv_sub hl [0, 1, 2, 3, 4] rfl⟩
      · refine lv_aload_n hx hb dX8_byGarage_31 rfl (lv_at hl 4 rfl) ?_
        refine lv_iload_n hx hb dX8_byGarage_32 rfl (lv_at hl 3 rfl) ?_
        refine lv_iload_n hx hb dX8_byGarage_33 rfl (lv_at hl 2 rfl) ?_
        refine ro_i (D := D) (va_runV (As := [.int (nI sn), .int p0]) (rest := []) ⟨hx, hb, hml, hown, hts⟩ ((n_garageOf l D k st lo a tx t0 we rd ru rw ca fp wd nu na ts df db sd dn se tm gs sn p0 (by first | assumption | omega)) H.size) (cwV 2 hts (gV tw_1258 tw_1260 tw_51 tw_87 tw_1261) rfl rfl rfl (by decide +kernel) ⟨Nat.le_of_ble_eq_true rfl, Nat.le_of_ble_eq_true rfl⟩) (pV hS hAlo hlo hP hK hDL hZ [0, 1, 2] (by decide) rfl (ci := 8) (q := (RX8, TX8, 44)) (q0 := 0) rfl rfl) rfl rfl hl.1 rfl (lv_room (Nat.le_of_ble_eq_true rfl)) dX8_byGarage_34 ⟨Nat.le_of_ble_eq_true rfl, Nat.le_of_ble_eq_true rfl⟩) hS hA hP (fun r_13 H locs hw_13 hP hS => ?_)
        try dsimp only at hw_13
        refine lv_goto (tgt := 57) hx hb dX8_byGarage_37 (by decide) ?_
        exact J_9 r_13 _ _ _ ⟨(by first | (rw [if_pos c_10, hw_13]; done) | (rw [if_pos c_10, hw_13]; rfl) | (simp only [if_pos c_10, hw_13]; done)), hP, hS, lv_sub hl [0, 1, 2, 3, 4] rfl⟩
  · refine lv_if_le (tgt := 24) hx hb dX8_byGarage_17 (by decide) (fun c_14 => ?_) (fun c_14 => ?_)
    · refine lv_iconst (v := 0) hx hb dX8_byGarage_24 (by decide) ?_
      exact J_4 0 _ _ _ ⟨(by first | (rw [if_pos c_14]; done) | (rw [if_pos c_14]; rfl) | (simp only [if_pos c_14]; done)), .inl rfl, hP, hS, lv_sub hl [3, 2, 1, 0] rfl⟩
    · refine lv_iconst (v := 1) hx hb dX8_byGarage_20 (by decide) ?_
      refine lv_goto (tgt := 25) hx hb dX8_byGarage_21 (by decide) ?_
      exact J_4 1 _ _ _ ⟨(by first | (rw [if_neg c_14]; done) | (rw [if_neg c_14]; rfl) | (simp only [if_neg c_14]; done)), .inr (rfl), hP, hS, lv_sub hl [3, 2, 1, 0] rfl⟩

theorem f_glueP24b : True := trivial
theorem mByT {dn se tm : Nat → Nat} {gs ffr fpr : Nat → Int32} {s r i wh : Nat} (hg : okG (sdM dn (sg se tm gs) ffr fpr s).2.1) (hn : dn s ≤ 24) (hr : r ≤ 3) (hi : i < dn s) (hw : wh ≤ 2) : fM_byT dn se tm gs fpr s i (nI r) (nI wh) = pSh (sdM dn (sg se tm gs) ffr fpr s) wh r i := by
  have h := mLt (z := fM_late se tm gs s (nI r * (nI (dn s) + sg se tm gs (9 * s + 6)) + nI (dn s))) hg hn hr rfl
  unfold fM_byT pSh fM_tick
  rw [ac_sub]
  rcases (show wh = 0 ∨ wh = 1 ∨ wh = 2 by omega) with rfl | rfl | rfl
  · rw [if_pos (show nI 0 = 0 by decide), if_pos rfl]
    exact mTake hi
  · rw [if_neg (show ¬ nI 1 = 0 by decide), if_pos (show nI 1 = 1 by decide), if_neg (show ¬ (1 : Nat) = 0 by decide), if_pos (show (1 : Nat) = 1 from rfl)]
    by_cases c : pLt (sdM dn (sg se tm gs) ffr fpr s) r = true
    · rw [if_neg (Int32.not_le.mpr (h.mpr c)), if_neg (by decide), if_pos c]
    · rw [if_pos (Int32.not_lt.mp (fun q => c (h.mp q))), if_pos (by decide), if_neg c]
  · rw [if_neg (show ¬ nI 2 = 0 by decide), if_neg (show ¬ nI 2 = 1 by decide), if_neg (show ¬ (2 : Nat) = 0 by decide), if_neg (show ¬ (2 : Nat) = 1 by decide)]
theorem mByG {dn se tm : Nat → Nat} {gs ffr fpr : Nat → Int32} {s r wh : Nat} (hg : okG (sdM dn (sg se tm gs) ffr fpr s).2.1) (hn : dn s ≤ 24) (hr : r ≤ 3) (hw : wh ≤ 2) : fM_byG dn se tm gs s (nI r) (nI wh) = pGs (sdM dn (sg se tm gs) ffr fpr s) wh r := by
  have h := mLt (z := fM_late se tm gs s (nI r * (nI (dn s) + sg se tm gs (9 * s + 6)) + nI (dn s))) hg hn hr rfl
  unfold fM_byG pGs fM_tick
  rcases (show wh = 0 ∨ wh = 1 ∨ wh = 2 by omega) with rfl | rfl | rfl
  · rw [if_pos (show nI 0 = 0 by decide), if_pos rfl]
    exact mGar
  · rw [if_neg (show ¬ nI 1 = 0 by decide), if_neg (show ¬ nI 1 = 2 by decide), if_neg (show ¬ (1 : Nat) = 0 by decide), if_pos (show (1 : Nat) = 1 from rfl)]
    by_cases c : pLt (sdM dn (sg se tm gs) ffr fpr s) r = true
    · rw [if_neg (Int32.not_le.mpr (h.mpr c)), if_neg (by decide), if_pos c]
    · rw [if_pos (Int32.not_lt.mp (fun q => c (h.mp q))), if_pos (by decide), if_neg c]
  · rw [if_neg (show ¬ nI 2 = 0 by decide), if_pos (show nI 2 = 2 by decide), if_neg (show ¬ (2 : Nat) = 0 by decide), if_neg (show ¬ (2 : Nat) = 1 by decide)]
theorem la_updc {f F : Nat → Int32} {P : Nat → Prop} {k : Nat} {c : Int32} (h : ∀ r, r < k → P r → f r = F r) (hc : P k → c = F k) : ∀ r, r < k + 1 → P r → upd f k c r = F r := by
  intro r hr hp
  by_cases h1 : r = k
  · rw [h1] at hp ⊢
    rw [pk_us]
    exact hc hp
  · rw [pk_un h1]
    exact h r (by omega) hp
theorem mr_of {d : SDt} {u : RUt} {wh L r : Nat} {E : Int32} (h : r ≤ L) (h1 : r < L → E = pRs d wh + mR d u wh L (L - (r + 1))) (h2 : r = L → E = pGs d wh r) : mV d u wh r E d.1 0 0 = mR d u wh L (L - r) := by
  rcases Nat.lt_or_ge r L with c | c
  · rw [mR_s c, h1 c, Int32.add_comm]
  · rw [mR_l (show r = L by omega), h2 (by omega)]
theorem rr_of {k : Nat} {f0 f1 f2 f3 : Int32} {c0 c1 c2 c3 r0 r1 r2 r3 : Nat} {s0 s1 s2 s3 b0 b1 b2 b3 : Nat → Int32} {bm : Nat → Nat} {fs ff fr : Nat → Int32} (hk : k ≤ 4) (h : ∀ i, i < k → d4 (ruX f0 c0 r0 s0 b0) (ruX f1 c1 r1 s1 b1) (ruX f2 c2 r2 s2 b2) (ruX f3 c3 r3 s3 b3) i = ruM bm fs ff fr i) (h0 : r0 ≤ 3) (h1 : r1 ≤ 3) (h2 : r2 ≤ 3) (h3 : r3 ≤ 3) : ∀ i, i < k → ∃ x : Nat, x ≤ 3 ∧ fr i = nI x := by
  intro i hi
  have e := congrArg (fun z => z.2.2) (h i hi)
  rcases (show i = 0 ∨ i = 1 ∨ i = 2 ∨ i = 3 by omega) with rfl | rfl | rfl | rfl
  · exact ⟨r0, h0, e.symm⟩
  · exact ⟨r1, h1, e.symm⟩
  · exact ⟨r2, h2, e.symm⟩
  · exact ⟨r3, h3, e.symm⟩


set_option maxHeartbeats 4000000 in
set_option maxRecDepth 100000 in
theorem n_isRoundBy (l : Launch) (D : va_G) (k : Nat → ClassId) (st : Nat → Nat) (lo : Nat) (a : Nat → Nat) (tx : Nat) (t0 : Nat) (we : Nat) (rd : Nat) (ru : Nat) (rw : Nat) (ca : Nat) (fp : Int32) (wd : Int64) (nu : Int32) (na : Int32) (ts : Int32) (df : Int32) (db : Int32) (sd : Int32) (se : Nat → Nat) (tm : Nat → Nat) (gs : Nat → Int32) (fruleRounds : Nat → Int32) (sn : Nat) (kr : Nat) (rn : Nat) (rx : Nat) (htm : ∀ j, tm j ≤ 3) (hs : sn < 3) (hk : kr < 4) (hrn : rn ≤ 3) (hrx : fruleRounds kr = nI rx) (hr3 : rx ≤ 3) : CRi l D k st lo yX8_isRoundBy cX8_isRoundBy 4 (some .boolean) ({ frames := 1, cells := 0, slots := 0, locals := 22 }) [.ref (a 0), .int (nI sn), .int (nI kr), .int (nI rn)] [((a 0), .inr (8, (fX8 a (nI tx) fp (nI t0) wd (nI we) nu na (nI rd) ts (nI ru) (nI rw) (nI ca) df db sd))), (aI k (a 4) 27 (sg se tm gs)), (aI k (a 28) 4 fruleRounds)] (fun r => (r = 1 ∧ rn < (min rx (tm sn))) ∨ (r = 0 ∧ ¬ rn < (min rx (tm sn)))) := by
  intro sz
  refine Met.ofW (cc := cX8_isRoundBy) (maxL := 4) (ret := (some .boolean)) (by decide) rfl ?_
  intro p e s m args below meth c s₁ B hml hv
  obtain ⟨rfl, hsz, hlo, hP, hK, hDL, hZ⟩ := hv
  have hx := B.exec
  have hb := B.bytes
  have hr := B.returns
  have hts := WS_ts B.pre
  have hown : s.vm.findClass RX8 = some m.cls := findClass_of_methodNamed B.named
  have hlocks := B.notSynchronized
  subst hsz
  have hA : ∀ q : Nat, s.heap.size ≤ q → (fun q : Nat => s.heap.size ≤ q) q := fun _ h => h
  have hAlo : ∀ q : Nat, (fun q : Nat => s.heap.size ≤ q) q → lo ≤ q := fun q h => Nat.le_trans hlo h
  have hS : va_S (fun q : Nat => s.heap.size ≤ q) s.heap s.heap [] := va_S.rf
  have hl := lv_entry ([.ref (a 0), .int (nI sn), .int (nI kr), .int (nI rn)]) (n := 4) (Nat.le_of_ble_eq_true rfl)
  rw [lg_entry_eq]
  generalize (lg_sl ([.ref (a 0), .int (nI sn), .int (nI kr), .int (nI rn)]) ++ List.replicate (4 - (lg_sl ([.ref (a 0), .int (nI sn), .int (nI kr), .int (nI rn)])).length) Slot.unset).toArray = ls at hl ⊢
  have hl : lv_has ls 4 [(0, .ref (a 0)), (1, .int (nI sn)), (2, .int (nI kr)), (3, .int (nI rn))] := hl
  have hd_7 := htm sn
  refine lv_iload_n hx hb dX8_isRoundBy_0 rfl (lv_at hl 3 rfl) ?_
  refine lv_aload_n hx hb dX8_isRoundBy_1 rfl (lv_at hl 0 rfl) ?_
  refine va_get (D := D) (ci := 8) (v := .ref (a 28)) (C := RX8) (T := TX8) (N := 44) hx hb hts inX8 hown hK hP 0 rfl rfl 27 (by decide) (hts _ tw_1000) (fun _ h9 => h9) rfl dX8_isRoundBy_2 ?_
  refine lv_iload_n hx hb dX8_isRoundBy_5 rfl (lv_at hl 2 rfl) ?_
  refine va_iald hx hb hK hP 2 1 rfl rfl (vp_in_nI (by omega) (by decide)) dX8_isRoundBy_6 ?_
  refine lv_ti (y := (nI rx)) (by rw [nI_clamp (by omega)]; exact hrx) ?_
  refine lv_icmp_ge (tgt := 25) hx hb dX8_isRoundBy_7 (by decide) (fun c_1 => ?_) (fun c_1 => ?_)
  · have c_1 := (nI_leI (a := rx) (b := rn) (by omega) (by omega)).mp c_1
    refine lv_iconst (v := 0) hx hb dX8_isRoundBy_25 (by decide) ?_
    exact W.zret (v := 0) (ty := .boolean) hx hb hr rfl (fun t ht hW => ⟨⟨0, (), rfl, .inr ⟨rfl, by omega⟩, trivial⟩, hS.F ht⟩) hS.2.2 dX8_isRoundBy_26
  · have c_1 : ¬ (rx ≤ rn) := fun h => c_1 ((nI_leI (a := rx) (b := rn) (by omega) (by omega)).mpr h)
    refine lv_iload_n hx hb dX8_isRoundBy_10 rfl (lv_at hl 3 rfl) ?_
    refine lv_aload_n hx hb dX8_isRoundBy_11 rfl (lv_at hl 0 rfl) ?_
    refine lv_iload_n hx hb dX8_isRoundBy_12 rfl (lv_at hl 1 rfl) ?_
    refine lv_bipush (v := 7) hx hb dX8_isRoundBy_13 (by decide) ?_
    refine ro_i (D := D) (va_runV (As := [.int (nI sn), .int 7]) (rest := [.int (nI rn)]) ⟨hx, hb, hml, hown, hts⟩ ((m_of l D k st lo a tx t0 we rd ru rw ca fp wd nu na ts df db sd se tm gs sn 7 (by first | assumption | omega) (by first | assumption | omega)) s.heap.size) (cwV 2 hts (gV tw_1194 tw_1196 tw_39 tw_87 tw_1197) rfl rfl rfl (by decide +kernel) ⟨Nat.le_of_ble_eq_true rfl, Nat.le_of_ble_eq_true rfl⟩) (pV hS hAlo hlo hP hK hDL hZ [0, 1] (by decide) rfl (ci := 8) (q := (RX8, TX8, 44)) (q0 := 0) rfl rfl) rfl rfl hl.1 rfl (lv_room (Nat.le_of_ble_eq_true rfl)) dX8_isRoundBy_15 ⟨Nat.le_of_ble_eq_true rfl, Nat.le_of_ble_eq_true rfl⟩) hS hA hP (fun r_2 H locs hw_2 hP hS => ?_)
    try dsimp only at hw_2
    obtain rfl := hw_2.trans (sg_tm _ _ _ _)
    refine lv_icmp_ge (tgt := 25) hx hb dX8_isRoundBy_18 (by decide) (fun c_3 => ?_) (fun c_3 => ?_)
    · have c_3 := (nI_leI (a := (tm sn)) (b := rn) (by omega) (by omega)).mp c_3
      refine lv_iconst (v := 0) hx hb dX8_isRoundBy_25 (by decide) ?_
      exact W.zret (v := 0) (ty := .boolean) hx hb hr rfl (fun t ht hW => ⟨⟨0, (), rfl, .inr ⟨rfl, by omega⟩, trivial⟩, hS.F ht⟩) hS.2.2 dX8_isRoundBy_26
    · have c_3 : ¬ ((tm sn) ≤ rn) := fun h => c_3 ((nI_leI (a := (tm sn)) (b := rn) (by omega) (by omega)).mpr h)
      refine lv_iconst (v := 1) hx hb dX8_isRoundBy_21 (by decide) ?_
      refine lv_goto (tgt := 26) hx hb dX8_isRoundBy_22 (by decide) ?_
      exact W.zret (v := 1) (ty := .boolean) hx hb hr rfl (fun t ht hW => ⟨⟨1, (), rfl, .inl ⟨rfl, by omega⟩, trivial⟩, hS.F ht⟩) hS.2.2 dX8_isRoundBy_26


theorem dX2_meanOf_0 : decode cX2_meanOf 0 = .ok (.aload_n 2, 1) := by decide +kernel
theorem dX2_meanOf_1 : decode cX2_meanOf 1 = .ok (.aload_n 1, 1) := by decide +kernel
theorem dX2_meanOf_2 : decode cX2_meanOf 2 = .ok (.invokevirtual 28, 3) := by decide +kernel
theorem dX2_meanOf_5 : decode cX2_meanOf 5 = .ok (.istore 4, 2) := by decide +kernel
theorem dX2_meanOf_7 : decode cX2_meanOf 7 = .ok (.aload_n 1, 1) := by decide +kernel
theorem dX2_meanOf_8 : decode cX2_meanOf 8 = .ok (.iload 4, 2) := by decide +kernel
theorem dX2_meanOf_10 : decode cX2_meanOf 10 = .ok (.iload_n 3, 1) := by decide +kernel
theorem dX2_meanOf_11 : decode cX2_meanOf 11 = .ok (.invokestatic 34, 3) := by decide +kernel
theorem dX2_meanOf_14 : decode cX2_meanOf 14 = .ok (.istore 5, 2) := by decide +kernel
theorem dX2_meanOf_16 : decode cX2_meanOf 16 = .ok (.iload 4, 2) := by decide +kernel
theorem dX2_meanOf_18 : decode cX2_meanOf 18 = .ok (.istore 6, 2) := by decide +kernel
theorem dX2_meanOf_20 : decode cX2_meanOf 20 = .ok (.iload 6, 2) := by decide +kernel
theorem dX2_meanOf_22 : decode cX2_meanOf 22 = .ok (.ifCond .lt 40, 3) := by decide +kernel
theorem dX2_meanOf_25 : decode cX2_meanOf 25 = .ok (.aload_n 0, 1) := by decide +kernel
theorem dX2_meanOf_26 : decode cX2_meanOf 26 = .ok (.aload_n 1, 1) := by decide +kernel
theorem dX2_meanOf_27 : decode cX2_meanOf 27 = .ok (.aload_n 2, 1) := by decide +kernel
theorem dX2_meanOf_28 : decode cX2_meanOf 28 = .ok (.iload_n 3, 1) := by decide +kernel
theorem dX2_meanOf_29 : decode cX2_meanOf 29 = .ok (.iload 6, 2) := by decide +kernel
theorem dX2_meanOf_31 : decode cX2_meanOf 31 = .ok (.iload 5, 2) := by decide +kernel
theorem dX2_meanOf_33 : decode cX2_meanOf 33 = .ok (.invokevirtual 38, 3) := by decide +kernel
theorem dX2_meanOf_36 : decode cX2_meanOf 36 = .ok (.istore 5, 2) := by decide +kernel
theorem dX2_meanOf_38 : decode cX2_meanOf 38 = .ok (.iload 6, 2) := by decide +kernel
theorem dX2_meanOf_40 : decode cX2_meanOf 40 = .ok (.ifCond .le 16, 3) := by decide +kernel
theorem dX2_meanOf_43 : decode cX2_meanOf 43 = .ok (.iload_n 3, 1) := by decide +kernel
theorem dX2_meanOf_44 : decode cX2_meanOf 44 = .ok (.ifCond .ne 12, 3) := by decide +kernel
theorem dX2_meanOf_47 : decode cX2_meanOf 47 = .ok (.iload 5, 2) := by decide +kernel
theorem dX2_meanOf_49 : decode cX2_meanOf 49 = .ok (.aload_n 1, 1) := by decide +kernel
theorem dX2_meanOf_50 : decode cX2_meanOf 50 = .ok (.invokevirtual 42, 3) := by decide +kernel
theorem dX2_meanOf_53 : decode cX2_meanOf 53 = .ok (.iadd, 1) := by decide +kernel
theorem dX2_meanOf_54 : decode cX2_meanOf 54 = .ok (.istore 5, 2) := by decide +kernel
theorem dX2_meanOf_56 : decode cX2_meanOf 56 = .ok (.iinc 6 (-1), 3) := by decide +kernel
theorem dX2_meanOf_59 : decode cX2_meanOf 59 = .ok (.goto (-39), 3) := by decide +kernel
theorem dX2_meanOf_62 : decode cX2_meanOf 62 = .ok (.iload 5, 2) := by decide +kernel
theorem dX2_meanOf_64 : decode cX2_meanOf 64 = .ok (.ireturn, 1) := by decide +kernel
set_option maxHeartbeats 4000000 in
set_option maxRecDepth 100000 in
theorem x_meanOf (l : Launch) (D : va_G) (k : Nat → ClassId) (st : Nat → Nat) (lo : Nat) (y0 : Nat) (y1 : Nat) (y2 : Nat) (y3 : Nat) (wt : Int32) (wc : Int32) (ya : Nat → Int32) (yb : Nat → Int32) (h0 : Nat) (h1 : Nat) (h2 : Nat) (h3 : Nat) (h4 : Nat) (n : Nat) (see : Nat) (tm : Nat) (g : Nat → Int32) (ff : Nat → Int32) (fp : Nat → Int32) (fl : Nat → Int32) (u0 : Nat) (u1 : Nat) (u2 : Nat) (rf : Int32) (rc : Nat) (rr : Nat) (rs : Nat → Int32) (rb : Nat → Int32) (wh : Nat) (hn : n ≤ 24) (hrc : rc ≤ 24) (hrr : rr ≤ 3) (htm9 : tm ≤ 3) (hwh : wh ≤ 2) : CWi l D k st lo yX2_meanOf cX2_meanOf 7 (some .int) ({ frames := 4, cells := 0, slots := 0, locals := 115 }) 0 0 [.ref y0, .ref h0, .ref u0, .int (nI wh)] [(y0, .inr (2, [.ref y1, .ref y2, .ref y3, .int wt, .int wc])), (y1, .inl (k 1, 25, .inl ya)), (y2, .inl (k 1, 25, .inl yb)), (h0, .inr (5, [.ref h1, .ref h2, .ref h3, .ref h4])), (h1, .inl (k 1, 10, .inl (vv n see tm g))), (h2, .inl (k 1, 24, .inl ff)), (h3, .inl (k 1, 24, .inl fp)), (h4, .inl (k 1, 4, .inl fl)), (u0, .inr (3, [.ref u1, .ref u2, .int rf, .int (nI rc), .int (nI rr)])), (u1, .inl (k 1, 24, .inl rs)), (u2, .inl (k 1, 24, .inl rb))] (fun (r : Int32) (u : (Nat → Int32) × (Nat → Int32)) => match u with | (ya_, yb_) => True) (fun (u : (Nat → Int32) × (Nat → Int32)) => match u with | (ya_, yb_) => [(y0, .inr (2, [.ref y1, .ref y2, .ref y3, .int wt, .int wc])), (y1, .inl (k 1, 25, .inl ya_)), (y2, .inl (k 1, 25, .inl yb_)), (h0, .inr (5, [.ref h1, .ref h2, .ref h3, .ref h4])), (h1, .inl (k 1, 10, .inl (vv n see tm g))), (h2, .inl (k 1, 24, .inl ff)), (h3, .inl (k 1, 24, .inl fp)), (h4, .inl (k 1, 4, .inl fl)), (u0, .inr (3, [.ref u1, .ref u2, .int rf, .int (nI rc), .int (nI rr)])), (u1, .inl (k 1, 24, .inl rs)), (u2, .inl (k 1, 24, .inl rb))]) := by
  intro sz
  refine Met.ofW (cc := cX2_meanOf) (maxL := 7) (ret := (some .int)) (by decide) rfl ?_
  intro p e s m args below meth c s₁ B hml hv
  obtain ⟨rfl, hsz, hlo, hP, hK, hDL, hZ⟩ := hv
  have hx := B.exec
  have hb := B.bytes
  have hr := B.returns
  have hts := WS_ts B.pre
  have hown : s.vm.findClass RX2 = some m.cls := findClass_of_methodNamed B.named
  have hlocks := B.notSynchronized
  subst hsz
  have hD := hDL.self (sz := s.heap.size)
  have hAlo := A_lo hDL hlo
  generalize hAe : va_A [(y0, .inr (2, [.ref y1, .ref y2, .ref y3, .int wt, .int wc])), (y1, .inl (k 1, 25, .inl ya)), (y2, .inl (k 1, 25, .inl yb)), (h0, .inr (5, [.ref h1, .ref h2, .ref h3, .ref h4])), (h1, .inl (k 1, 10, .inl (vv n see tm g))), (h2, .inl (k 1, 24, .inl ff)), (h3, .inl (k 1, 24, .inl fp)), (h4, .inl (k 1, 4, .inl fl)), (u0, .inr (3, [.ref u1, .ref u2, .int rf, .int (nI rc), .int (nI rr)])), (u1, .inl (k 1, 24, .inl rs)), (u2, .inl (k 1, 24, .inl rb))] s.heap.size = A at hD hAlo ⊢
  have hA : ∀ q : Nat, s.heap.size ≤ q → A q := fun q h => by rw [← hAe]; exact Or.inr h
  have hS : va_S A s.heap s.heap [] := va_S.rf
  have hl := lv_entry ([.ref y0, .ref h0, .ref u0, .int (nI wh)]) (n := 7) (Nat.le_of_ble_eq_true rfl)
  rw [lg_entry_eq]
  generalize (lg_sl ([.ref y0, .ref h0, .ref u0, .int (nI wh)]) ++ List.replicate (7 - (lg_sl ([.ref y0, .ref h0, .ref u0, .int (nI wh)])).length) Slot.unset).toArray = ls at hl ⊢
  have hl : lv_has ls 7 [(0, .ref y0), (1, .ref h0), (2, .ref u0), (3, .int (nI wh))] := hl
  refine lv_aload_n hx hb dX2_meanOf_0 rfl (lv_at hl 2 rfl) ?_
  refine lv_aload_n hx hb dX2_meanOf_1 rfl (lv_at hl 1 rfl) ?_
  refine ro_i (D := D) (va_runV (As := [.ref h0]) (rest := []) ⟨hx, hb, hml, hown, hts⟩ ((x_roundsIn l D k st lo u0 u1 u2 rf rc rr h0 h1 h2 h3 h4 n see tm g (by omega) (by omega)) s.heap.size) (cwV 1 hts (gV tw_705 tw_706 tw_707 tw_86 tw_708) rfl rfl rfl (by decide +kernel) ⟨Nat.le_of_ble_eq_true rfl, Nat.le_of_ble_eq_true rfl⟩) (pV hS hAlo hlo hP hK (va_Dlo hD hAlo) hZ [8, 3, 4] (by decide) rfl (ci := 3) (q0 := 0) rfl rfl) rfl rfl hl.1 rfl (lv_room (Nat.le_of_ble_eq_true rfl)) dX2_meanOf_2 ⟨Nat.le_of_ble_eq_true rfl, Nat.le_of_ble_eq_true rfl⟩) hS hA hP (fun r_1 H locs hw_1 hP hS => ?_)
  try dsimp only at hw_1
  subst hw_1
  refine lv_istore (lv' := [(4, .int (nI (min rr tm))), (0, .ref y0), (1, .ref h0), (2, .ref u0), (3, .int (nI wh))]) hx hb dX2_meanOf_5 hl (by decide) rfl (fun ls hl => ?_)
  refine lv_aload_n hx hb dX2_meanOf_7 rfl (lv_at hl 2 rfl) ?_
  refine lv_iload hx hb dX2_meanOf_8 (lv_at hl 0 rfl) ?_
  refine lv_iload_n hx hb dX2_meanOf_10 rfl (lv_at hl 4 rfl) ?_
  refine ro_i (D := D) (va_runS (As := [.ref h0, .int (nI (min rr tm)), .int (nI wh)]) (rest := []) ⟨hx, hb, hml, hown, hts⟩ ((x_garageShare l D k st lo h0 h1 h2 h3 h4 n see tm g fl (min rr tm) wh (by omega) (by omega)) H.size) (va_cwS 3 hts (gS tw_710 tw_711 tw_83 tw_712) rfl rfl rfl (by decide +kernel) ⟨Nat.le_of_ble_eq_true rfl, Nat.le_of_ble_eq_true rfl⟩) (pS hS hAlo hlo hP hK (va_Dlo hD hAlo) hZ [3, 4, 7] (by decide) rfl) rfl rfl hl.1 rfl (lv_room (Nat.le_of_ble_eq_true rfl)) dX2_meanOf_11 ⟨Nat.le_of_ble_eq_true rfl, Nat.le_of_ble_eq_true rfl⟩) hS hA hP (fun r_2 H locs hw_2 hP hS => ?_)
  try dsimp only at hw_2
  refine lv_istore (lv' := [(5, .int r_2), (4, .int (nI (min rr tm))), (0, .ref y0), (1, .ref h0), (2, .ref u0), (3, .int (nI wh))]) hx hb dX2_meanOf_14 hl (by decide) rfl (fun ls hl => ?_)
  refine lv_iload hx hb dX2_meanOf_16 (lv_at hl 1 rfl) ?_
  refine lv_istore (lv' := [(6, .int (nI (min rr tm))), (5, .int r_2), (4, .int (nI (min rr tm))), (0, .ref y0), (1, .ref h0), (2, .ref u0), (3, .int (nI wh))]) hx hb dX2_meanOf_18 hl (by decide) rfl (fun ls hl => ?_)
  refine W_loop (σ := Nat × Int32 × (Nat → Int32) × (Nat → Int32)) (fun (n_ : Nat) (x_ : Nat × Int32 × (Nat → Int32) × (Nat → Int32)) (H : Heap) (locs : List Loc) (ls : Array Slot) => match x_ with | (q_3, fo2_3, ya2_3, yb2_3) => n_ = 2 * q_3 ∧ (q_3 ≤ 4) ∧ va_P D classes [(y0, .inr (2, [.ref y1, .ref y2, .ref y3, .int wt, .int wc])), (y1, .inl (k 1, 25, .inl ya2_3)), (y2, .inl (k 1, 25, .inl yb2_3)), (h0, .inr (5, [.ref h1, .ref h2, .ref h3, .ref h4])), (h1, .inl (k 1, 10, .inl (vv n see tm g))), (h2, .inl (k 1, 24, .inl ff)), (h3, .inl (k 1, 24, .inl fp)), (h4, .inl (k 1, 4, .inl fl)), (u0, .inr (3, [.ref u1, .ref u2, .int rf, .int (nI rc), .int (nI rr)])), (u1, .inl (k 1, 24, .inl rs)), (u2, .inl (k 1, 24, .inl rb))] H ∧ va_D A [(y0, .inr (2, [.ref y1, .ref y2, .ref y3, .int wt, .int wc])), (y1, .inl (k 1, 25, .inl ya2_3)), (y2, .inl (k 1, 25, .inl yb2_3)), (h0, .inr (5, [.ref h1, .ref h2, .ref h3, .ref h4])), (h1, .inl (k 1, 10, .inl (vv n see tm g))), (h2, .inl (k 1, 24, .inl ff)), (h3, .inl (k 1, 24, .inl fp)), (h4, .inl (k 1, 4, .inl fl)), (u0, .inr (3, [.ref u1, .ref u2, .int rf, .int (nI rc), .int (nI rr)])), (u1, .inl (k 1, 24, .inl rs)), (u2, .inl (k 1, 24, .inl rb))] ∧ va_S A s.heap H locs ∧ lv_has ls 7 [(6, .int (nI q_3 - 1)), (5, .int fo2_3), (4, .int (nI (min rr tm))), (0, .ref y0), (1, .ref h0), (2, .ref u0), (3, .int (nI wh))]) (fun n_3 x_3 H locs ls hI ih_3 => ?_) _ (min rr tm + 1, r_2, ya, yb) ⟨rfl, (by omega), hP, hD, hS, (by rw [nI_pred]; exact lv_sub hl [0, 1, 2, 3, 4, 5, 6] rfl)⟩
  obtain ⟨q_3, fo2_3, ya2_3, yb2_3⟩ := x_3
  obtain ⟨hm_3, hv_3, hP, hD, hS, hl⟩ := hI
  subst hm_3
  rcases q_3 with _ | q_3
  · rw [dn0] at hl
    refine lv_iload hx hb dX2_meanOf_20 (lv_at hl 0 rfl) ?_
    refine lv_if_lt (tgt := 62) hx hb dX2_meanOf_22 (by decide) (fun _ => ?_) (fun h => absurd (by decide) h)
    refine lv_iload hx hb dX2_meanOf_62 (lv_at hl 1 rfl) ?_
    have hP9 := hP.sub (ws' := [(y0, .inr (2, [.ref y1, .ref y2, .ref y3, .int wt, .int wc])), (y1, .inl (k 1, 25, .inl ya2_3)), (y2, .inl (k 1, 25, .inl yb2_3)), (h0, .inr (5, [.ref h1, .ref h2, .ref h3, .ref h4])), (h1, .inl (k 1, 10, .inl (vv n see tm g))), (h2, .inl (k 1, 24, .inl ff)), (h3, .inl (k 1, 24, .inl fp)), (h4, .inl (k 1, 4, .inl fl)), (u0, .inr (3, [.ref u1, .ref u2, .int rf, .int (nI rc), .int (nI rr)])), (u1, .inl (k 1, 24, .inl rs)), (u2, .inl (k 1, 24, .inl rb))]) [0, 1, 2, 3, 4, 5, 6, 7, 8, 9, 10] rfl
    have hD9 := hD.sub (ws' := [(y0, .inr (2, [.ref y1, .ref y2, .ref y3, .int wt, .int wc])), (y1, .inl (k 1, 25, .inl ya2_3)), (y2, .inl (k 1, 25, .inl yb2_3)), (h0, .inr (5, [.ref h1, .ref h2, .ref h3, .ref h4])), (h1, .inl (k 1, 10, .inl (vv n see tm g))), (h2, .inl (k 1, 24, .inl ff)), (h3, .inl (k 1, 24, .inl fp)), (h4, .inl (k 1, 4, .inl fl)), (u0, .inr (3, [.ref u1, .ref u2, .int rf, .int (nI rc), .int (nI rr)])), (u1, .inl (k 1, 24, .inl rs)), (u2, .inl (k 1, 24, .inl rb))]) [0, 1, 2, 3, 4, 5, 6, 7, 8, 9, 10] (by decide) rfl
    exact W.iret (v := fo2_3) hx hb hr (fun t ht hW => ⟨⟨fo2_3, (ya2_3, yb2_3), rfl, trivial, by rw [ht]; exact hP9, hD9⟩, hS.F ht⟩) hS.2.2 dX2_meanOf_64
  · rw [nI_pred] at hl
    refine lv_iload hx hb dX2_meanOf_20 (lv_at hl 0 rfl) ?_
    refine lv_if_lt (tgt := 62) hx hb dX2_meanOf_22 (by decide) (fun h => absurd h (nI_pos0 (by omega))) (fun _ => ?_)
    refine lv_aload_n hx hb dX2_meanOf_25 rfl (lv_at hl 3 rfl) ?_
    refine lv_aload_n hx hb dX2_meanOf_26 rfl (lv_at hl 4 rfl) ?_
    refine lv_aload_n hx hb dX2_meanOf_27 rfl (lv_at hl 5 rfl) ?_
    refine lv_iload_n hx hb dX2_meanOf_28 rfl (lv_at hl 6 rfl) ?_
    refine lv_iload hx hb dX2_meanOf_29 (lv_at hl 0 rfl) ?_
    refine lv_iload hx hb dX2_meanOf_31 (lv_at hl 1 rfl) ?_
    refine rw_i (D := D) (wr := []) (va_runV (As := [.ref h0, .ref u0, .int (nI wh), .int (nI q_3), .int fo2_3]) (rest := []) ⟨hx, hb, hml, hown, hts⟩ ((x_meanOfRound l D k st lo y0 y1 y2 y3 wt wc ya2_3 yb2_3 h0 h1 h2 h3 h4 n see tm g ff fp fl u0 u1 u2 rf rc rr rs rb wh q_3 fo2_3 (by omega) (by omega) (by omega) (by omega)) H.size) (cwV 5 hts (gV tw_719 tw_721 tw_16 tw_83 tw_722) rfl rfl rfl (by decide +kernel) ⟨Nat.le_of_ble_eq_true rfl, Nat.le_of_ble_eq_true rfl⟩) (pV hS hAlo hlo hP hK (va_Dlo hD hAlo) hZ [0, 1, 2, 3, 4, 5, 6, 7, 8, 9, 10] (by decide) rfl (ci := 2) (q0 := 0) rfl rfl) rfl rfl hl.1 rfl (lv_room (Nat.le_of_ble_eq_true rfl)) dX2_meanOf_33 ⟨Nat.le_of_ble_eq_true rfl, Nat.le_of_ble_eq_true rfl⟩) hS hA hP hD [0, 1, 2, 3, 4, 5, 6, 7, 8, 9, 10] [] rfl rfl (by decide) (by decide) (fun r_4 u H locs hw_4 hP hD hS => ?_)
    obtain ⟨ya__4, yb__4⟩ := u
    replace hP : va_P D classes [(y0, .inr (2, [.ref y1, .ref y2, .ref y3, .int wt, .int wc])), (y1, .inl (k 1, 25, .inl ya__4)), (y2, .inl (k 1, 25, .inl yb__4)), (h0, .inr (5, [.ref h1, .ref h2, .ref h3, .ref h4])), (h1, .inl (k 1, 10, .inl (vv n see tm g))), (h2, .inl (k 1, 24, .inl ff)), (h3, .inl (k 1, 24, .inl fp)), (h4, .inl (k 1, 4, .inl fl)), (u0, .inr (3, [.ref u1, .ref u2, .int rf, .int (nI rc), .int (nI rr)])), (u1, .inl (k 1, 24, .inl rs)), (u2, .inl (k 1, 24, .inl rb))] H := hP
    replace hD : va_D A [(y0, .inr (2, [.ref y1, .ref y2, .ref y3, .int wt, .int wc])), (y1, .inl (k 1, 25, .inl ya__4)), (y2, .inl (k 1, 25, .inl yb__4)), (h0, .inr (5, [.ref h1, .ref h2, .ref h3, .ref h4])), (h1, .inl (k 1, 10, .inl (vv n see tm g))), (h2, .inl (k 1, 24, .inl ff)), (h3, .inl (k 1, 24, .inl fp)), (h4, .inl (k 1, 4, .inl fl)), (u0, .inr (3, [.ref u1, .ref u2, .int rf, .int (nI rc), .int (nI rr)])), (u1, .inl (k 1, 24, .inl rs)), (u2, .inl (k 1, 24, .inl rb))] := hD
    try dsimp only at hw_4
    refine lv_istore (lv' := [(5, .int r_4), (6, .int (nI q_3)), (4, .int (nI (min rr tm))), (0, .ref y0), (1, .ref h0), (2, .ref u0), (3, .int (nI wh))]) hx hb dX2_meanOf_36 hl (by decide) rfl (fun ls hl => ?_)
    refine lv_iload hx hb dX2_meanOf_38 (lv_at hl 1 rfl) ?_
    refine lv_if_le (tgt := 56) hx hb dX2_meanOf_40 (by decide) (fun c_5 => ?_) (fun c_5 => ?_)
    · have c_5 := (nI_leI (a := q_3) (b := 0) (by omega) (by omega)).mp c_5
      refine lv_iinc (v := (nI q_3 - 1)) (lv' := [(6, .int (nI q_3 - 1)), (5, .int r_4), (4, .int (nI (min rr tm))), (0, .ref y0), (1, .ref h0), (2, .ref u0), (3, .int (nI wh))]) hx hb dX2_meanOf_56 hl (k := 1) rfl (dn1 _) (by decide) rfl (fun ls hl => ?_)
      refine lv_goto (tgt := 20) hx hb dX2_meanOf_59 (by decide) ?_
      exact ih_3 _ (q_3, r_4, ya__4, yb__4) _ _ _ (by omega) ⟨rfl, (by omega), hP, hD, hS, (lv_sub hl [0, 1, 2, 3, 4, 5, 6] rfl)⟩
    · have c_5 : ¬ (q_3 ≤ 0) := fun h => c_5 ((nI_leI (a := q_3) (b := 0) (by omega) (by omega)).mpr h)
      refine lv_iload_n hx hb dX2_meanOf_43 rfl (lv_at hl 6 rfl) ?_
      refine lv_if_ne (tgt := 56) hx hb dX2_meanOf_44 (by decide) (fun c_6 => ?_) (fun c_6 => ?_)
      · have c_6 : ¬ (wh = 0) := fun h => c_6 ((nI_eq (a := wh) (b := 0) (by omega) (by omega)).mpr h)
        refine lv_iinc (v := (nI q_3 - 1)) (lv' := [(6, .int (nI q_3 - 1)), (5, .int r_4), (4, .int (nI (min rr tm))), (0, .ref y0), (1, .ref h0), (2, .ref u0), (3, .int (nI wh))]) hx hb dX2_meanOf_56 hl (k := 1) rfl (dn1 _) (by decide) rfl (fun ls hl => ?_)
        refine lv_goto (tgt := 20) hx hb dX2_meanOf_59 (by decide) ?_
        exact ih_3 _ (q_3, r_4, ya__4, yb__4) _ _ _ (by omega) ⟨rfl, (by omega), hP, hD, hS, (lv_sub hl [0, 1, 2, 3, 4, 5, 6] rfl)⟩
      · have c_6 := (nI_eq (a := wh) (b := 0) (by omega) (by omega)).mp c_6
        refine lv_iload hx hb dX2_meanOf_47 (lv_at hl 0 rfl) ?_
        refine lv_aload_n hx hb dX2_meanOf_49 rfl (lv_at hl 4 rfl) ?_
        refine ro_i (D := D) (va_runV (As := []) (rest := [.int r_4]) ⟨hx, hb, hml, hown, hts⟩ ((x_roundDrive l D k st lo h0 h1 h2 h3 h4 n see tm g) H.size) (cwV 0 hts (gV tw_735 tw_525 tw_526 tw_81 tw_527) rfl rfl rfl (by decide +kernel) ⟨Nat.le_of_ble_eq_true rfl, Nat.le_of_ble_eq_true rfl⟩) (pV hS hAlo hlo hP hK (va_Dlo hD hAlo) hZ [3, 4] (by decide) rfl (ci := 5) (q0 := 0) rfl rfl) rfl rfl hl.1 rfl (lv_room (Nat.le_of_ble_eq_true rfl)) dX2_meanOf_50 ⟨Nat.le_of_ble_eq_true rfl, Nat.le_of_ble_eq_true rfl⟩) hS hA hP (fun r_7 H locs hw_7 hP hS => ?_)
        try dsimp only at hw_7
        refine lv_iadd hx hb dX2_meanOf_53 ?_
        refine lv_topi (fun x_8 ex_8 => ?_)
        refine lv_istore (lv' := [(5, .int x_8), (6, .int (nI q_3)), (4, .int (nI (min rr tm))), (0, .ref y0), (1, .ref h0), (2, .ref u0), (3, .int (nI wh))]) hx hb dX2_meanOf_54 hl (by decide) rfl (fun ls hl => ?_)
        refine lv_iinc (v := (nI q_3 - 1)) (lv' := [(6, .int (nI q_3 - 1)), (5, .int x_8), (4, .int (nI (min rr tm))), (0, .ref y0), (1, .ref h0), (2, .ref u0), (3, .int (nI wh))]) hx hb dX2_meanOf_56 hl (k := 1) rfl (dn1 _) (by decide) rfl (fun ls hl => ?_)
        refine lv_goto (tgt := 20) hx hb dX2_meanOf_59 (by decide) ?_
        exact ih_3 _ (q_3, x_8, ya__4, yb__4) _ _ _ (by omega) ⟨rfl, (by omega), hP, hD, hS, (lv_sub hl [0, 1, 2, 3, 4, 5, 6] rfl)⟩


theorem dX0_barOf_0 : decode cX0_barOf 0 = .ok (.aload_n 0, 1) := by decide +kernel
theorem dX0_barOf_1 : decode cX0_barOf 1 = .ok (.getfield 24, 3) := by decide +kernel
theorem dX0_barOf_4 : decode cX0_barOf 4 = .ok (.invokevirtual 37, 3) := by decide +kernel
theorem dX0_barOf_7 : decode cX0_barOf 7 = .ok (.istore_n 2, 1) := by decide +kernel
theorem dX0_barOf_8 : decode cX0_barOf 8 = .ok (.iload_n 2, 1) := by decide +kernel
theorem dX0_barOf_9 : decode cX0_barOf 9 = .ok (.ifCond .le 20, 3) := by decide +kernel
theorem dX0_barOf_12 : decode cX0_barOf 12 = .ok (.aload_n 0, 1) := by decide +kernel
theorem dX0_barOf_13 : decode cX0_barOf 13 = .ok (.iload_n 1, 1) := by decide +kernel
theorem dX0_barOf_14 : decode cX0_barOf 14 = .ok (.iload_n 2, 1) := by decide +kernel
theorem dX0_barOf_15 : decode cX0_barOf 15 = .ok (.iconst 1, 1) := by decide +kernel
theorem dX0_barOf_16 : decode cX0_barOf 16 = .ok (.isub, 1) := by decide +kernel
theorem dX0_barOf_17 : decode cX0_barOf 17 = .ok (.invokevirtual 89, 3) := by decide +kernel
theorem dX0_barOf_20 : decode cX0_barOf 20 = .ok (.ifCond .eq 9, 3) := by decide +kernel
theorem dX0_barOf_23 : decode cX0_barOf 23 = .ok (.iinc 2 (-1), 3) := by decide +kernel
theorem dX0_barOf_26 : decode cX0_barOf 26 = .ok (.goto (-18), 3) := by decide +kernel
theorem dX0_barOf_29 : decode cX0_barOf 29 = .ok (.iconst 0, 1) := by decide +kernel
theorem dX0_barOf_30 : decode cX0_barOf 30 = .ok (.istore_n 3, 1) := by decide +kernel
theorem dX0_barOf_31 : decode cX0_barOf 31 = .ok (.iload_n 3, 1) := by decide +kernel
theorem dX0_barOf_32 : decode cX0_barOf 32 = .ok (.iload_n 2, 1) := by decide +kernel
theorem dX0_barOf_33 : decode cX0_barOf 33 = .ok (.if_icmp .ge 20, 3) := by decide +kernel
theorem dX0_barOf_36 : decode cX0_barOf 36 = .ok (.aload_n 0, 1) := by decide +kernel
theorem dX0_barOf_37 : decode cX0_barOf 37 = .ok (.iload_n 1, 1) := by decide +kernel
theorem dX0_barOf_38 : decode cX0_barOf 38 = .ok (.iload_n 3, 1) := by decide +kernel
theorem dX0_barOf_39 : decode cX0_barOf 39 = .ok (.invokevirtual 93, 3) := by decide +kernel
theorem dX0_barOf_42 : decode cX0_barOf 42 = .ok (.ifCond .eq 5, 3) := by decide +kernel
theorem dX0_barOf_45 : decode cX0_barOf 45 = .ok (.iconst (-1), 1) := by decide +kernel
theorem dX0_barOf_46 : decode cX0_barOf 46 = .ok (.ireturn, 1) := by decide +kernel
theorem dX0_barOf_47 : decode cX0_barOf 47 = .ok (.iinc 3 1, 3) := by decide +kernel
theorem dX0_barOf_50 : decode cX0_barOf 50 = .ok (.goto (-19), 3) := by decide +kernel
theorem dX0_barOf_53 : decode cX0_barOf 53 = .ok (.iload_n 2, 1) := by decide +kernel
theorem dX0_barOf_54 : decode cX0_barOf 54 = .ok (.ireturn, 1) := by decide +kernel
set_option maxHeartbeats 4000000 in
set_option maxRecDepth 100000 in
theorem x_barOf (l : Launch) (D : va_G) (k : Nat → ClassId) (st : Nat → Nat) (lo : Nat) (h0 : Nat) (h1 : Nat) (h2 : Nat) (h3 : Nat) (h4 : Nat) (n : Nat) (see : Nat) (tm : Nat) (g : Nat → Int32) (fp : Nat → Int32) (fl : Nat → Int32) (w0 : Nat) (w1 : Nat) (w2 : Nat) (w3 : Nat) (w4 : Nat) (on : Nat → Int32) (rn : Nat) (hn : n ≤ 24) (hsee : see ≤ 2) (hrn : rn ≤ 3) : CRi l D k st lo yX0_barOf cX0_barOf 4 (some .int) ({ frames := 4, cells := 0, slots := 0, locals := 104 }) [.ref w0, .int (nI rn)] [(h0, .inr (5, [.ref h1, .ref h2, .ref h3, .ref h4])), (h1, .inl (k 1, 10, .inl (vv n see tm g))), (h3, .inl (k 1, 24, .inl fp)), (h4, .inl (k 1, 4, .inl fl)), (w0, .inr (0, [.ref h0, .ref w1, .ref w2, .ref w3, .ref w4])), (w1, .inl (k 1, 768, .inl on))] (fun _ => True) := by
  intro sz
  refine Met.ofW (cc := cX0_barOf) (maxL := 4) (ret := (some .int)) (by decide) rfl ?_
  intro p e s m args below meth c s₁ B hml hv
  obtain ⟨rfl, hsz, hlo, hP, hK, hDL, hZ⟩ := hv
  have hx := B.exec
  have hb := B.bytes
  have hr := B.returns
  have hts := WS_ts B.pre
  have hown : s.vm.findClass RX0 = some m.cls := findClass_of_methodNamed B.named
  have hlocks := B.notSynchronized
  subst hsz
  have hA : ∀ q : Nat, s.heap.size ≤ q → (fun q : Nat => s.heap.size ≤ q) q := fun _ h => h
  have hAlo : ∀ q : Nat, (fun q : Nat => s.heap.size ≤ q) q → lo ≤ q := fun q h => Nat.le_trans hlo h
  have hS : va_S (fun q : Nat => s.heap.size ≤ q) s.heap s.heap [] := va_S.rf
  have hl := lv_entry ([.ref w0, .int (nI rn)]) (n := 4) (Nat.le_of_ble_eq_true rfl)
  rw [lg_entry_eq]
  generalize (lg_sl ([.ref w0, .int (nI rn)]) ++ List.replicate (4 - (lg_sl ([.ref w0, .int (nI rn)])).length) Slot.unset).toArray = ls at hl ⊢
  have hl : lv_has ls 4 [(0, .ref w0), (1, .int (nI rn))] := hl
  refine lv_aload_n hx hb dX0_barOf_0 rfl (lv_at hl 0 rfl) ?_
  refine va_get (D := D) (ci := 0) (v := .ref h0) (C := RX0) (T := TX0) (N := 5) hx hb hts inX0 hown hK hP 4 rfl rfl 0 (by decide) (hts _ tw_266) (fun _ h9 => h9) rfl dX0_barOf_1 ?_
  refine ro_i (D := D) (va_runV (As := []) (rest := []) ⟨hx, hb, hml, hown, hts⟩ ((x_doors l D k st lo h0 h1 h2 h3 h4 n see tm g) s.heap.size) (cwV 0 hts (gV tw_531 tw_478 tw_479 tw_81 tw_480) rfl rfl rfl (by decide +kernel) ⟨Nat.le_of_ble_eq_true rfl, Nat.le_of_ble_eq_true rfl⟩) (pV hS hAlo hlo hP hK hDL hZ [0, 1] (by decide) rfl (ci := 5) (q0 := 0) rfl rfl) rfl rfl hl.1 rfl (lv_room (Nat.le_of_ble_eq_true rfl)) dX0_barOf_4 ⟨Nat.le_of_ble_eq_true rfl, Nat.le_of_ble_eq_true rfl⟩) hS hA hP (fun r_1 H locs hw_1 hP hS => ?_)
  try dsimp only at hw_1
  subst hw_1
  refine lv_istore_n (lv' := [(2, .int (nI n)), (0, .ref w0), (1, .int (nI rn))]) hx hb dX0_barOf_7 rfl hl (by decide) rfl (fun ls hl => ?_)
  refine W_loop (σ := Nat) (fun (n_ : Nat) (bb_2 : Nat) (H : Heap) (locs : List Loc) (ls : Array Slot) => n_ = 2 * bb_2 ∧ (bb_2 ≤ n) ∧ va_P D classes [(h0, .inr (5, [.ref h1, .ref h2, .ref h3, .ref h4])), (h1, .inl (k 1, 10, .inl (vv n see tm g))), (h3, .inl (k 1, 24, .inl fp)), (h4, .inl (k 1, 4, .inl fl)), (w0, .inr (0, [.ref h0, .ref w1, .ref w2, .ref w3, .ref w4])), (w1, .inl (k 1, 768, .inl on))] H ∧ va_S (fun q : Nat => s.heap.size ≤ q) s.heap H locs ∧ lv_has ls 4 [(2, .int (nI bb_2)), (0, .ref w0), (1, .int (nI rn))]) (fun n_2 x_2 H locs ls hI ih_2 => ?_) _ n ⟨rfl, (by omega), hP, hS, (lv_sub hl [0, 1, 2] rfl)⟩
  obtain ⟨bb_2, rfl⟩ : ∃ z, z = x_2 := ⟨_, rfl⟩
  obtain ⟨hm_2, hv_2, hP, hS, hl⟩ := hI
  subst hm_2
  refine lv_iload_n hx hb dX0_barOf_8 rfl (lv_at hl 0 rfl) ?_
  refine lv_if_le (tgt := 29) hx hb dX0_barOf_9 (by decide) (fun c_3 => ?_) (fun c_3 => ?_)
  · have c_3 := (nI_leI (a := bb_2) (b := 0) (by omega) (by omega)).mp c_3
    refine lv_iconst (v := 0) hx hb dX0_barOf_29 (by decide) ?_
    refine lv_istore_n (lv' := [(3, .int 0), (2, .int (nI bb_2)), (0, .ref w0), (1, .int (nI rn))]) hx hb dX0_barOf_30 rfl hl (by decide) rfl (fun ls hl => ?_)
    refine W_loop (σ := Nat) (fun (n_ : Nat) (ii_4 : Nat) (H : Heap) (locs : List Loc) (ls : Array Slot) => n_ = 25 - ii_4 ∧ (ii_4 ≤ 24) ∧ va_P D classes [(h0, .inr (5, [.ref h1, .ref h2, .ref h3, .ref h4])), (h1, .inl (k 1, 10, .inl (vv n see tm g))), (h3, .inl (k 1, 24, .inl fp)), (h4, .inl (k 1, 4, .inl fl)), (w0, .inr (0, [.ref h0, .ref w1, .ref w2, .ref w3, .ref w4])), (w1, .inl (k 1, 768, .inl on))] H ∧ va_S (fun q : Nat => s.heap.size ≤ q) s.heap H locs ∧ lv_has ls 4 [(3, .int (nI ii_4)), (2, .int (nI bb_2)), (0, .ref w0), (1, .int (nI rn))]) (fun n_4 x_4 H locs ls hI ih_4 => ?_) _ 0 ⟨rfl, (by omega), hP, hS, (lv_sub hl [0, 1, 2, 3] rfl)⟩
    obtain ⟨ii_4, rfl⟩ : ∃ z, z = x_4 := ⟨_, rfl⟩
    obtain ⟨hm_4, hv_4, hP, hS, hl⟩ := hI
    subst hm_4
    refine lv_iload_n hx hb dX0_barOf_31 rfl (lv_at hl 0 rfl) ?_
    refine lv_iload_n hx hb dX0_barOf_32 rfl (lv_at hl 1 rfl) ?_
    refine lv_icmp_ge (tgt := 53) hx hb dX0_barOf_33 (by decide) (fun c_5 => ?_) (fun c_5 => ?_)
    · have c_5 := (nI_leI (a := bb_2) (b := ii_4) (by omega) (by omega)).mp c_5
      refine lv_iload_n hx hb dX0_barOf_53 rfl (lv_at hl 1 rfl) ?_
      exact W.iret (v := (nI bb_2)) hx hb hr (fun t ht hW => ⟨⟨(nI bb_2), (), rfl, trivial, trivial⟩, hS.F ht⟩) hS.2.2 dX0_barOf_54
    · have c_5 : ¬ (bb_2 ≤ ii_4) := fun h => c_5 ((nI_leI (a := bb_2) (b := ii_4) (by omega) (by omega)).mpr h)
      refine lv_aload_n hx hb dX0_barOf_36 rfl (lv_at hl 2 rfl) ?_
      refine lv_iload_n hx hb dX0_barOf_37 rfl (lv_at hl 3 rfl) ?_
      refine lv_iload_n hx hb dX0_barOf_38 rfl (lv_at hl 0 rfl) ?_
      refine ro_i (D := D) (va_runV (As := [.int (nI rn), .int (nI ii_4)]) (rest := []) ⟨hx, hb, hml, hown, hts⟩ ((x_isTakenByAny l D k st lo h0 h1 h2 h3 h4 n see tm g fp fl w0 w1 w2 w3 w4 on rn ii_4 (by omega) (by omega) (by omega) (by omega)) H.size) (cwV 2 hts (gV tw_663 tw_665 tw_13 tw_85 tw_666) rfl rfl rfl (by decide +kernel) ⟨Nat.le_of_ble_eq_true rfl, Nat.le_of_ble_eq_true rfl⟩) (pV hS hAlo hlo hP hK hDL hZ [0, 1, 2, 3, 4, 5] (by decide) rfl (ci := 0) (q0 := 4) rfl rfl) rfl rfl hl.1 rfl (lv_room (Nat.le_of_ble_eq_true rfl)) dX0_barOf_39 ⟨Nat.le_of_ble_eq_true rfl, Nat.le_of_ble_eq_true rfl⟩) hS hA hP (fun r_6 H locs hw_6 hP hS => ?_)
      try dsimp only at hw_6
      rcases hw_6 with rfl | rfl
      · refine lv_if_eq (tgt := 47) hx hb dX0_barOf_42 (by decide) (fun h => absurd h (by decide)) (fun _ => ?_)
        refine lv_iconst (v := (-1)) hx hb dX0_barOf_45 (by decide) ?_
        exact W.iret (v := (-1)) hx hb hr (fun t ht hW => ⟨⟨(-1), (), rfl, trivial, trivial⟩, hS.F ht⟩) hS.2.2 dX0_barOf_46
      · refine lv_if_eq (tgt := 47) hx hb dX0_barOf_42 (by decide) (fun _ => ?_) (fun h => absurd (by decide) h)
        refine lv_iinc (v := (nI (ii_4 + 1))) (lv' := [(3, .int (nI (ii_4 + 1))), (2, .int (nI bb_2)), (0, .ref w0), (1, .int (nI rn))]) hx hb dX0_barOf_47 hl (k := 0) rfl (nI_add ii_4 1) (by decide) rfl (fun ls hl => ?_)
        refine lv_goto (tgt := 31) hx hb dX0_barOf_50 (by decide) ?_
        exact ih_4 _ (ii_4 + 1) _ _ _ (by omega) ⟨rfl, (by omega), hP, hS, (lv_sub hl [0, 1, 2, 3] rfl)⟩
  · have c_3 : ¬ (bb_2 ≤ 0) := fun h => c_3 ((nI_leI (a := bb_2) (b := 0) (by omega) (by omega)).mpr h)
    refine lv_aload_n hx hb dX0_barOf_12 rfl (lv_at hl 1 rfl) ?_
    refine lv_iload_n hx hb dX0_barOf_13 rfl (lv_at hl 2 rfl) ?_
    refine lv_iload_n hx hb dX0_barOf_14 rfl (lv_at hl 0 rfl) ?_
    refine lv_iconst (v := 1) hx hb dX0_barOf_15 (by decide) ?_
    refine lv_isub hx hb dX0_barOf_16 ?_
    refine lv_ti (y := (nI (bb_2 - 1))) (pk_sub (a := bb_2) (b := 1) (by omega)) ?_
    refine ro_i (D := D) (va_runV (As := [.int (nI rn), .int (nI (bb_2 - 1))]) (rest := []) ⟨hx, hb, hml, hown, hts⟩ ((x_isTakenByAll l D k st lo h0 h1 h2 h3 h4 n see tm g fp fl w0 w1 w2 w3 w4 on rn (bb_2 - 1) (by omega) (by omega) (by omega) (by omega)) H.size) (cwV 2 hts (gV tw_658 tw_660 tw_12 tw_85 tw_661) rfl rfl rfl (by decide +kernel) ⟨Nat.le_of_ble_eq_true rfl, Nat.le_of_ble_eq_true rfl⟩) (pV hS hAlo hlo hP hK hDL hZ [0, 1, 2, 3, 4, 5] (by decide) rfl (ci := 0) (q0 := 4) rfl rfl) rfl rfl hl.1 rfl (lv_room (Nat.le_of_ble_eq_true rfl)) dX0_barOf_17 ⟨Nat.le_of_ble_eq_true rfl, Nat.le_of_ble_eq_true rfl⟩) hS hA hP (fun r_7 H locs hw_7 hP hS => ?_)
    try dsimp only at hw_7
    rcases hw_7 with rfl | rfl
    · refine lv_if_eq (tgt := 29) hx hb dX0_barOf_20 (by decide) (fun h => absurd h (by decide)) (fun _ => ?_)
      refine lv_iinc (v := (nI (bb_2 - 1))) (lv' := [(2, .int (nI (bb_2 - 1))), (0, .ref w0), (1, .int (nI rn))]) hx hb dX0_barOf_23 hl (k := 0) rfl (by rw [dn1]; exact pk_sub (a := bb_2) (b := 1) (by omega)) (by decide) rfl (fun ls hl => ?_)
      refine lv_goto (tgt := 8) hx hb dX0_barOf_26 (by decide) ?_
      exact ih_2 _ (bb_2 - 1) _ _ _ (by omega) ⟨rfl, (by omega), hP, hS, (lv_sub hl [0, 1, 2] rfl)⟩
    · refine lv_if_eq (tgt := 29) hx hb dX0_barOf_20 (by decide) (fun _ => ?_) (fun h => absurd (by decide) h)
      refine lv_iconst (v := 0) hx hb dX0_barOf_29 (by decide) ?_
      refine lv_istore_n (lv' := [(3, .int 0), (2, .int (nI bb_2)), (0, .ref w0), (1, .int (nI rn))]) hx hb dX0_barOf_30 rfl hl (by decide) rfl (fun ls hl => ?_)
      refine W_loop (σ := Nat) (fun (n_ : Nat) (ii_8 : Nat) (H : Heap) (locs : List Loc) (ls : Array Slot) => n_ = 25 - ii_8 ∧ (ii_8 ≤ 24) ∧ va_P D classes [(h0, .inr (5, [.ref h1, .ref h2, .ref h3, .ref h4])), (h1, .inl (k 1, 10, .inl (vv n see tm g))), (h3, .inl (k 1, 24, .inl fp)), (h4, .inl (k 1, 4, .inl fl)), (w0, .inr (0, [.ref h0, .ref w1, .ref w2, .ref w3, .ref w4])), (w1, .inl (k 1, 768, .inl on))] H ∧ va_S (fun q : Nat => s.heap.size ≤ q) s.heap H locs ∧ lv_has ls 4 [(3, .int (nI ii_8)), (2, .int (nI bb_2)), (0, .ref w0), (1, .int (nI rn))]) (fun n_8 x_8 H locs ls hI ih_8 => ?_) _ 0 ⟨rfl, (by omega), hP, hS, (lv_sub hl [0, 1, 2, 3] rfl)⟩
      obtain ⟨ii_8, rfl⟩ : ∃ z, z = x_8 := ⟨_, rfl⟩
      obtain ⟨hm_8, hv_8, hP, hS, hl⟩ := hI
      subst hm_8
      refine lv_iload_n hx hb dX0_barOf_31 rfl (lv_at hl 0 rfl) ?_
      refine lv_iload_n hx hb dX0_barOf_32 rfl (lv_at hl 1 rfl) ?_
      refine lv_icmp_ge (tgt := 53) hx hb dX0_barOf_33 (by decide) (fun c_9 => ?_) (fun c_9 => ?_)
      · have c_9 := (nI_leI (a := bb_2) (b := ii_8) (by omega) (by omega)).mp c_9
        refine lv_iload_n hx hb dX0_barOf_53 rfl (lv_at hl 1 rfl) ?_
        exact W.iret (v := (nI bb_2)) hx hb hr (fun t ht hW => ⟨⟨(nI bb_2), (), rfl, trivial, trivial⟩, hS.F ht⟩) hS.2.2 dX0_barOf_54
      · have c_9 : ¬ (bb_2 ≤ ii_8) := fun h => c_9 ((nI_leI (a := bb_2) (b := ii_8) (by omega) (by omega)).mpr h)
        refine lv_aload_n hx hb dX0_barOf_36 rfl (lv_at hl 2 rfl) ?_
        refine lv_iload_n hx hb dX0_barOf_37 rfl (lv_at hl 3 rfl) ?_
        refine lv_iload_n hx hb dX0_barOf_38 rfl (lv_at hl 0 rfl) ?_
        refine ro_i (D := D) (va_runV (As := [.int (nI rn), .int (nI ii_8)]) (rest := []) ⟨hx, hb, hml, hown, hts⟩ ((x_isTakenByAny l D k st lo h0 h1 h2 h3 h4 n see tm g fp fl w0 w1 w2 w3 w4 on rn ii_8 (by omega) (by omega) (by omega) (by omega)) H.size) (cwV 2 hts (gV tw_663 tw_665 tw_13 tw_85 tw_666) rfl rfl rfl (by decide +kernel) ⟨Nat.le_of_ble_eq_true rfl, Nat.le_of_ble_eq_true rfl⟩) (pV hS hAlo hlo hP hK hDL hZ [0, 1, 2, 3, 4, 5] (by decide) rfl (ci := 0) (q0 := 4) rfl rfl) rfl rfl hl.1 rfl (lv_room (Nat.le_of_ble_eq_true rfl)) dX0_barOf_39 ⟨Nat.le_of_ble_eq_true rfl, Nat.le_of_ble_eq_true rfl⟩) hS hA hP (fun r_10 H locs hw_10 hP hS => ?_)
        try dsimp only at hw_10
        rcases hw_10 with rfl | rfl
        · refine lv_if_eq (tgt := 47) hx hb dX0_barOf_42 (by decide) (fun h => absurd h (by decide)) (fun _ => ?_)
          refine lv_iconst (v := (-1)) hx hb dX0_barOf_45 (by decide) ?_
          exact W.iret (v := (-1)) hx hb hr (fun t ht hW => ⟨⟨(-1), (), rfl, trivial, trivial⟩, hS.F ht⟩) hS.2.2 dX0_barOf_46
        · refine lv_if_eq (tgt := 47) hx hb dX0_barOf_42 (by decide) (fun _ => ?_) (fun h => absurd (by decide) h)
          refine lv_iinc (v := (nI (ii_8 + 1))) (lv' := [(3, .int (nI (ii_8 + 1))), (2, .int (nI bb_2)), (0, .ref w0), (1, .int (nI rn))]) hx hb dX0_barOf_47 hl (k := 0) rfl (nI_add ii_8 1) (by decide) rfl (fun ls hl => ?_)
          refine lv_goto (tgt := 31) hx hb dX0_barOf_50 (by decide) ?_
          exact ih_8 _ (ii_8 + 1) _ _ _ (by omega) ⟨rfl, (by omega), hP, hS, (lv_sub hl [0, 1, 2, 3] rfl)⟩


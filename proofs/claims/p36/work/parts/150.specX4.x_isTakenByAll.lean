theorem dX0_isTakenByAll_0 : decode cX0_isTakenByAll 0 = .ok (.iconst 1, 1) := by decide +kernel
theorem dX0_isTakenByAll_1 : decode cX0_isTakenByAll 1 = .ok (.istore_n 3, 1) := by decide +kernel
theorem dX0_isTakenByAll_2 : decode cX0_isTakenByAll 2 = .ok (.iload_n 3, 1) := by decide +kernel
theorem dX0_isTakenByAll_3 : decode cX0_isTakenByAll 3 = .ok (.aload_n 0, 1) := by decide +kernel
theorem dX0_isTakenByAll_4 : decode cX0_isTakenByAll 4 = .ok (.getfield 24, 3) := by decide +kernel
theorem dX0_isTakenByAll_7 : decode cX0_isTakenByAll 7 = .ok (.iload_n 2, 1) := by decide +kernel
theorem dX0_isTakenByAll_8 : decode cX0_isTakenByAll 8 = .ok (.invokevirtual 60, 3) := by decide +kernel
theorem dX0_isTakenByAll_11 : decode cX0_isTakenByAll 11 = .ok (.if_icmp .ge 21, 3) := by decide +kernel
theorem dX0_isTakenByAll_14 : decode cX0_isTakenByAll 14 = .ok (.aload_n 0, 1) := by decide +kernel
theorem dX0_isTakenByAll_15 : decode cX0_isTakenByAll 15 = .ok (.iload_n 1, 1) := by decide +kernel
theorem dX0_isTakenByAll_16 : decode cX0_isTakenByAll 16 = .ok (.iload_n 2, 1) := by decide +kernel
theorem dX0_isTakenByAll_17 : decode cX0_isTakenByAll 17 = .ok (.iload_n 3, 1) := by decide +kernel
theorem dX0_isTakenByAll_18 : decode cX0_isTakenByAll 18 = .ok (.invokevirtual 96, 3) := by decide +kernel
theorem dX0_isTakenByAll_21 : decode cX0_isTakenByAll 21 = .ok (.ifCond .ne 5, 3) := by decide +kernel
theorem dX0_isTakenByAll_24 : decode cX0_isTakenByAll 24 = .ok (.iconst 0, 1) := by decide +kernel
theorem dX0_isTakenByAll_25 : decode cX0_isTakenByAll 25 = .ok (.ireturn, 1) := by decide +kernel
theorem dX0_isTakenByAll_26 : decode cX0_isTakenByAll 26 = .ok (.iinc 3 2, 3) := by decide +kernel
theorem dX0_isTakenByAll_29 : decode cX0_isTakenByAll 29 = .ok (.goto (-27), 3) := by decide +kernel
theorem dX0_isTakenByAll_32 : decode cX0_isTakenByAll 32 = .ok (.iconst 1, 1) := by decide +kernel
theorem dX0_isTakenByAll_33 : decode cX0_isTakenByAll 33 = .ok (.ireturn, 1) := by decide +kernel
set_option maxHeartbeats 4000000 in
set_option maxRecDepth 100000 in
theorem x_isTakenByAll (l : Launch) (D : va_G) (k : Nat → ClassId) (st : Nat → Nat) (lo : Nat) (h0 : Nat) (h1 : Nat) (h2 : Nat) (h3 : Nat) (h4 : Nat) (n : Nat) (see : Nat) (tm : Nat) (g : Nat → Int32) (fp : Nat → Int32) (fl : Nat → Int32) (w0 : Nat) (w1 : Nat) (w2 : Nat) (w3 : Nat) (w4 : Nat) (on : Nat → Int32) (rn : Nat) (i : Nat) (hn : n ≤ 24) (hsee : see ≤ 2) (hrn : rn ≤ 3) (hi : i < n) : CRi l D k st lo yX0_isTakenByAll cX0_isTakenByAll 4 (some .boolean) ({ frames := 3, cells := 0, slots := 0, locals := 81 }) [.ref w0, .int (nI rn), .int (nI i)] [(h0, .inr (5, (fX5 h1 h2 h3 h4))), (aI k h1 10 (vv n see tm g)), (aI k h3 24 fp), (aI k h4 4 fl), (w0, .inr (0, (fX0 h0 w1 w2 w3 w4))), (aI k w1 768 on)] (fun r => r = 1 ∨ r = 0) := by
  intro sz
  refine Met.ofW (cc := cX0_isTakenByAll) (maxL := 4) (ret := (some .boolean)) (by decide) rfl ?_
  intro p e s m args below meth c s₁ B hml hv
  obtain ⟨rfl, hsz, hlo, hP, hK, hDL, hZ⟩ := hv
  have hx := B.exec
  have hb := B.bytes
  have hr := B.returns
  have hts := WS_ts B.pre
  have hown : s.vm.findClass RX0 = some m.cls := findClass_of_methodNamed B.named
  have hlocks := B.notSynchronized
  subst hsz
  have hA : ∀ q : Nat, s.heap.size ≤ q → (fun q : Nat => s.heap.size ≤ q) q := fun _ h => h
  have hAlo : ∀ q : Nat, (fun q : Nat => s.heap.size ≤ q) q → lo ≤ q := fun q h => Nat.le_trans hlo h
  have hS : va_S (fun q : Nat => s.heap.size ≤ q) s.heap s.heap [] := va_S.rf
  have hl := lv_entry ([.ref w0, .int (nI rn), .int (nI i)]) (n := 4) (Nat.le_of_ble_eq_true rfl)
  rw [lg_entry_eq]
  generalize (lg_sl ([.ref w0, .int (nI rn), .int (nI i)]) ++ List.replicate (4 - (lg_sl ([.ref w0, .int (nI rn), .int (nI i)])).length) Slot.unset).toArray = ls at hl ⊢
  have hl : lv_has ls 4 [(0, .ref w0), (1, .int (nI rn)), (2, .int (nI i))] := hl
  refine lv_iconst (v := 1) hx hb dX0_isTakenByAll_0 (by decide) ?_
  refine lv_istore_n (lv' := [(3, .int 1), (0, .ref w0), (1, .int (nI rn)), (2, .int (nI i))]) hx hb dX0_isTakenByAll_1 rfl hl (by decide) rfl (fun ls hl => ?_)
  refine W_loop (σ := Nat) (fun (n_ : Nat) (g2_1 : Nat) (H : Heap) (locs : List Loc) (ls : Array Slot) => n_ = 10 - g2_1 ∧ (g2_1 ≤ 9) ∧ va_P D classes [(h0, .inr (5, (fX5 h1 h2 h3 h4))), (aI k h1 10 (vv n see tm g)), (aI k h3 24 fp), (aI k h4 4 fl), (w0, .inr (0, (fX0 h0 w1 w2 w3 w4))), (aI k w1 768 on)] H ∧ va_S (fun q : Nat => s.heap.size ≤ q) s.heap H locs ∧ lv_has ls 4 [(3, .int (nI g2_1)), (0, .ref w0), (1, .int (nI rn)), (2, .int (nI i))]) (fun n_1 x_1 H locs ls hI ih_1 => ?_) _ 1 ⟨rfl, (by omega), hP, hS, (lv_sub hl [0, 1, 2, 3] rfl)⟩
  obtain ⟨g2_1, rfl⟩ : ∃ z, z = x_1 := ⟨_, rfl⟩
  obtain ⟨hm_1, hv_1, hP, hS, hl⟩ := hI
  subst hm_1
  refine lv_iload_n hx hb dX0_isTakenByAll_2 rfl (lv_at hl 0 rfl) ?_
  refine lv_aload_n hx hb dX0_isTakenByAll_3 rfl (lv_at hl 1 rfl) ?_
  refine va_get (D := D) (ci := 0) (v := .ref h0) (C := RX0) (T := TX0) (N := 5) hx hb hts inX0 hown hK hP 4 rfl rfl 0 (by decide) (hts _ tw_266) (fun _ h9 => h9) rfl dX0_isTakenByAll_4 ?_
  refine lv_iload_n hx hb dX0_isTakenByAll_7 rfl (lv_at hl 3 rfl) ?_
  refine ro_i (D := D) (va_runV (As := [.int (nI i)]) (rest := [.int (nI g2_1)]) ⟨hx, hb, hml, hown, hts⟩ ((x_sightsAt l D k st lo h0 h1 h2 h3 h4 n see tm g i (by omega) (by omega) (by omega)) H.size) (cwV 1 hts (gV tw_536 tw_537 tw_538 tw_81 tw_539) rfl rfl rfl (by decide +kernel) ⟨Nat.le_of_ble_eq_true rfl, Nat.le_of_ble_eq_true rfl⟩) (pV hS hAlo hlo hP hK hDL hZ [0, 1] (by decide) rfl (ci := 5) (q := (RX5, TX5, 4)) (q0 := 0) rfl rfl) rfl rfl hl.1 rfl (lv_room (Nat.le_of_ble_eq_true rfl)) dX0_isTakenByAll_8 ⟨Nat.le_of_ble_eq_true rfl, Nat.le_of_ble_eq_true rfl⟩) hS hA hP (fun r_2 H locs hw_2 hP hS => ?_)
  try dsimp only at hw_2
  obtain ⟨zs_3, rfl, hza_3, hzb_3, hzq_3⟩ := hw_2
  refine lv_icmp_ge (tgt := 32) hx hb dX0_isTakenByAll_11 (by decide) (fun c_4 => ?_) (fun c_4 => ?_)
  · have c_4 := (nI_leI (a := zs_3) (b := g2_1) (by omega) (by omega)).mp c_4
    refine lv_iconst (v := 1) hx hb dX0_isTakenByAll_32 (by decide) ?_
    exact W.zret (v := 1) (ty := .boolean) hx hb hr rfl (fun t ht hW => ⟨⟨1, (), rfl, .inl rfl, trivial⟩, hS.F ht⟩) hS.2.2 dX0_isTakenByAll_33
  · have c_4 : ¬ (zs_3 ≤ g2_1) := fun h => c_4 ((nI_leI (a := zs_3) (b := g2_1) (by omega) (by omega)).mpr h)
    refine lv_aload_n hx hb dX0_isTakenByAll_14 rfl (lv_at hl 1 rfl) ?_
    refine lv_iload_n hx hb dX0_isTakenByAll_15 rfl (lv_at hl 2 rfl) ?_
    refine lv_iload_n hx hb dX0_isTakenByAll_16 rfl (lv_at hl 3 rfl) ?_
    refine lv_iload_n hx hb dX0_isTakenByAll_17 rfl (lv_at hl 0 rfl) ?_
    refine ro_i (D := D) (va_runV (As := [.int (nI rn), .int (nI i), .int (nI g2_1)]) (rest := []) ⟨hx, hb, hml, hown, hts⟩ ((x_isTaken l D k st lo h0 h1 h2 h3 h4 n see tm g fp fl w0 w1 w2 w3 w4 on rn i g2_1 (by omega) (by omega) (by omega)) H.size) (cwV 3 hts (gV tw_662 tw_638 tw_639 tw_85 tw_640) rfl rfl rfl (by decide +kernel) ⟨Nat.le_of_ble_eq_true rfl, Nat.le_of_ble_eq_true rfl⟩) (pV hS hAlo hlo hP hK hDL hZ [0, 1, 2, 3, 4, 5] (by decide) rfl (ci := 0) (q := (RX0, TX0, 5)) (q0 := 4) rfl rfl) rfl rfl hl.1 rfl (lv_room (Nat.le_of_ble_eq_true rfl)) dX0_isTakenByAll_18 ⟨Nat.le_of_ble_eq_true rfl, Nat.le_of_ble_eq_true rfl⟩) hS hA hP (fun r_5 H locs hw_5 hP hS => ?_)
    try dsimp only at hw_5
    rcases hw_5 with rfl | rfl
    · refine lv_if_ne (tgt := 26) hx hb dX0_isTakenByAll_21 (by decide) (fun _ => ?_) (fun h => absurd h (by decide))
      refine lv_iinc (v := (nI (g2_1 + 2))) (lv' := [(3, .int (nI (g2_1 + 2))), (0, .ref w0), (1, .int (nI rn)), (2, .int (nI i))]) hx hb dX0_isTakenByAll_26 hl (k := 0) rfl (nI_add g2_1 2) (by decide) rfl (fun ls hl => ?_)
      refine lv_goto (tgt := 2) hx hb dX0_isTakenByAll_29 (by decide) ?_
      exact ih_1 _ (g2_1 + 2) _ _ _ (by omega) ⟨rfl, (by omega), hP, hS, (lv_sub hl [0, 1, 2, 3] rfl)⟩
    · refine lv_if_ne (tgt := 26) hx hb dX0_isTakenByAll_21 (by decide) (fun h => absurd (by decide) h) (fun _ => ?_)
      refine lv_iconst (v := 0) hx hb dX0_isTakenByAll_24 (by decide) ?_
      exact W.zret (v := 0) (ty := .boolean) hx hb hr rfl (fun t ht hW => ⟨⟨0, (), rfl, .inr rfl, trivial⟩, hS.F ht⟩) hS.2.2 dX0_isTakenByAll_25

theorem dX0_isTakenByAny_0 : decode cX0_isTakenByAny 0 = .ok (.iconst 1, 1) := by decide +kernel
theorem dX0_isTakenByAny_1 : decode cX0_isTakenByAny 1 = .ok (.istore_n 3, 1) := by decide +kernel
theorem dX0_isTakenByAny_2 : decode cX0_isTakenByAny 2 = .ok (.iload_n 3, 1) := by decide +kernel
theorem dX0_isTakenByAny_3 : decode cX0_isTakenByAny 3 = .ok (.aload_n 0, 1) := by decide +kernel
theorem dX0_isTakenByAny_4 : decode cX0_isTakenByAny 4 = .ok (.getfield 24, 3) := by decide +kernel
theorem dX0_isTakenByAny_7 : decode cX0_isTakenByAny 7 = .ok (.iload_n 2, 1) := by decide +kernel
theorem dX0_isTakenByAny_8 : decode cX0_isTakenByAny 8 = .ok (.invokevirtual 60, 3) := by decide +kernel
theorem dX0_isTakenByAny_11 : decode cX0_isTakenByAny 11 = .ok (.if_icmp .ge 21, 3) := by decide +kernel
theorem dX0_isTakenByAny_14 : decode cX0_isTakenByAny 14 = .ok (.aload_n 0, 1) := by decide +kernel
theorem dX0_isTakenByAny_15 : decode cX0_isTakenByAny 15 = .ok (.iload_n 1, 1) := by decide +kernel
theorem dX0_isTakenByAny_16 : decode cX0_isTakenByAny 16 = .ok (.iload_n 2, 1) := by decide +kernel
theorem dX0_isTakenByAny_17 : decode cX0_isTakenByAny 17 = .ok (.iload_n 3, 1) := by decide +kernel
theorem dX0_isTakenByAny_18 : decode cX0_isTakenByAny 18 = .ok (.invokevirtual 96, 3) := by decide +kernel
theorem dX0_isTakenByAny_21 : decode cX0_isTakenByAny 21 = .ok (.ifCond .eq 5, 3) := by decide +kernel
theorem dX0_isTakenByAny_24 : decode cX0_isTakenByAny 24 = .ok (.iconst 1, 1) := by decide +kernel
theorem dX0_isTakenByAny_25 : decode cX0_isTakenByAny 25 = .ok (.ireturn, 1) := by decide +kernel
theorem dX0_isTakenByAny_26 : decode cX0_isTakenByAny 26 = .ok (.iinc 3 2, 3) := by decide +kernel
theorem dX0_isTakenByAny_29 : decode cX0_isTakenByAny 29 = .ok (.goto (-27), 3) := by decide +kernel
theorem dX0_isTakenByAny_32 : decode cX0_isTakenByAny 32 = .ok (.iconst 0, 1) := by decide +kernel
theorem dX0_isTakenByAny_33 : decode cX0_isTakenByAny 33 = .ok (.ireturn, 1) := by decide +kernel
set_option maxHeartbeats 4000000 in
set_option maxRecDepth 100000 in
theorem x_isTakenByAny (l : Launch) (D : va_G) (k : Nat → ClassId) (st : Nat → Nat) (lo : Nat) (h0 : Nat) (h1 : Nat) (h2 : Nat) (h3 : Nat) (h4 : Nat) (n : Nat) (see : Nat) (tm : Nat) (g : Nat → Int32) (fp : Nat → Int32) (fl : Nat → Int32) (w0 : Nat) (w1 : Nat) (w2 : Nat) (w3 : Nat) (w4 : Nat) (on : Nat → Int32) (rn : Nat) (i : Nat) (hn : n ≤ 24) (hsee : see ≤ 2) (hrn : rn ≤ 3) (hi : i < n) : CRi l D k st lo yX0_isTakenByAny cX0_isTakenByAny 4 (some .boolean) ({ frames := 3, cells := 0, slots := 0, locals := 81 }) [.ref w0, .int (nI rn), .int (nI i)] [(h0, .inr (5, (fX5 h1 h2 h3 h4))), (aI k h1 10 (vv n see tm g)), (aI k h3 24 fp), (aI k h4 4 fl), (w0, .inr (0, (fX0 h0 w1 w2 w3 w4))), (aI k w1 768 on)] (fun r => r = 1 ∨ r = 0) := by
  intro sz
  refine Met.ofW (cc := cX0_isTakenByAny) (maxL := 4) (ret := (some .boolean)) (by decide) rfl ?_
  intro p e s m args below meth c s₁ B hml hv
  obtain ⟨rfl, hsz, hlo, hP, hK, hDL, hZ⟩ := hv
  have hx := B.exec
  have hb := B.bytes
  have hr := B.returns
  have hts := WS_ts B.pre
  have hown : s.vm.findClass RX0 = some m.cls := findClass_of_methodNamed B.named
  have hlocks := B.notSynchronized
  subst hsz
  have hA : ∀ q : Nat, s.heap.size ≤ q → (fun q : Nat => s.heap.size ≤ q) q := fun _ h => h
  have hAlo : ∀ q : Nat, (fun q : Nat => s.heap.size ≤ q) q → lo ≤ q := fun q h => Nat.le_trans hlo h
  have hS : va_S (fun q : Nat => s.heap.size ≤ q) s.heap s.heap [] := va_S.rf
  have hl := lv_entry ([.ref w0, .int (nI rn), .int (nI i)]) (n := 4) (Nat.le_of_ble_eq_true rfl)
  rw [lg_entry_eq]
  generalize (lg_sl ([.ref w0, .int (nI rn), .int (nI i)]) ++ List.replicate (4 - (lg_sl ([.ref w0, .int (nI rn), .int (nI i)])).length) Slot.unset).toArray = ls at hl ⊢
  have hl : lv_has ls 4 [(0, .ref w0), (1, .int (nI rn)), (2, .int (nI i))] := hl
  refine lv_iconst (v := 1) hx hb dX0_isTakenByAny_0 (by decide) ?_
  refine lv_istore_n (lv' := [(3, .int 1), (0, .ref w0), (1, .int (nI rn)), (2, .int (nI i))]) hx hb dX0_isTakenByAny_1 rfl hl (by decide) rfl (fun ls hl => ?_)
  refine W_loop (σ := Nat) (fun (n_ : Nat) (g2_1 : Nat) (H : Heap) (locs : List Loc) (ls : Array Slot) => n_ = 10 - g2_1 ∧ (g2_1 ≤ 9) ∧ va_P D classes [(h0, .inr (5, (fX5 h1 h2 h3 h4))), (aI k h1 10 (vv n see tm g)), (aI k h3 24 fp), (aI k h4 4 fl), (w0, .inr (0, (fX0 h0 w1 w2 w3 w4))), (aI k w1 768 on)] H ∧ va_S (fun q : Nat => s.heap.size ≤ q) s.heap H locs ∧ lv_has ls 4 [(3, .int (nI g2_1)), (0, .ref w0), (1, .int (nI rn)), (2, .int (nI i))]) (fun n_1 x_1 H locs ls hI ih_1 => ?_) _ 1 ⟨rfl, (by omega), hP, hS, (lv_sub hl [0, 1, 2, 3] rfl)⟩
  obtain ⟨g2_1, rfl⟩ : ∃ z, z = x_1 := ⟨_, rfl⟩
  obtain ⟨hm_1, hv_1, hP, hS, hl⟩ := hI
  subst hm_1
  refine lv_iload_n hx hb dX0_isTakenByAny_2 rfl (lv_at hl 0 rfl) ?_
  refine lv_aload_n hx hb dX0_isTakenByAny_3 rfl (lv_at hl 1 rfl) ?_
  refine va_get (D := D) (ci := 0) (v := .ref h0) (C := RX0) (T := TX0) (N := 5) hx hb hts inX0 hown hK hP 4 rfl rfl 0 (by decide) (hts _ tw_266) (fun _ h9 => h9) rfl dX0_isTakenByAny_4 ?_
  refine lv_iload_n hx hb dX0_isTakenByAny_7 rfl (lv_at hl 3 rfl) ?_
  refine ro_i (D := D) (va_runV (As := [.int (nI i)]) (rest := [.int (nI g2_1)]) ⟨hx, hb, hml, hown, hts⟩ ((x_sightsAt l D k st lo h0 h1 h2 h3 h4 n see tm g i (by omega) (by omega) (by omega)) H.size) (cwV 1 hts (gV tw_536 tw_537 tw_538 tw_81 tw_539) rfl rfl rfl (by decide +kernel) ⟨Nat.le_of_ble_eq_true rfl, Nat.le_of_ble_eq_true rfl⟩) (pV hS hAlo hlo hP hK hDL hZ [0, 1] (by decide) rfl (ci := 5) (q := (RX5, TX5, 4)) (q0 := 0) rfl rfl) rfl rfl hl.1 rfl (lv_room (Nat.le_of_ble_eq_true rfl)) dX0_isTakenByAny_8 ⟨Nat.le_of_ble_eq_true rfl, Nat.le_of_ble_eq_true rfl⟩) hS hA hP (fun r_2 H locs hw_2 hP hS => ?_)
  try dsimp only at hw_2
  obtain ⟨zs_3, rfl, hza_3, hzb_3, hzq_3⟩ := hw_2
  refine lv_icmp_ge (tgt := 32) hx hb dX0_isTakenByAny_11 (by decide) (fun c_4 => ?_) (fun c_4 => ?_)
  · have c_4 := (nI_leI (a := zs_3) (b := g2_1) (by omega) (by omega)).mp c_4
    refine lv_iconst (v := 0) hx hb dX0_isTakenByAny_32 (by decide) ?_
    exact W.zret (v := 0) (ty := .boolean) hx hb hr rfl (fun t ht hW => ⟨⟨0, (), rfl, .inr rfl, trivial⟩, hS.F ht⟩) hS.2.2 dX0_isTakenByAny_33
  · have c_4 : ¬ (zs_3 ≤ g2_1) := fun h => c_4 ((nI_leI (a := zs_3) (b := g2_1) (by omega) (by omega)).mpr h)
    refine lv_aload_n hx hb dX0_isTakenByAny_14 rfl (lv_at hl 1 rfl) ?_
    refine lv_iload_n hx hb dX0_isTakenByAny_15 rfl (lv_at hl 2 rfl) ?_
    refine lv_iload_n hx hb dX0_isTakenByAny_16 rfl (lv_at hl 3 rfl) ?_
    refine lv_iload_n hx hb dX0_isTakenByAny_17 rfl (lv_at hl 0 rfl) ?_
    refine ro_i (D := D) (va_runV (As := [.int (nI rn), .int (nI i), .int (nI g2_1)]) (rest := []) ⟨hx, hb, hml, hown, hts⟩ ((x_isTaken l D k st lo h0 h1 h2 h3 h4 n see tm g fp fl w0 w1 w2 w3 w4 on rn i g2_1 (by omega) (by omega) (by omega)) H.size) (cwV 3 hts (gV tw_662 tw_638 tw_639 tw_85 tw_640) rfl rfl rfl (by decide +kernel) ⟨Nat.le_of_ble_eq_true rfl, Nat.le_of_ble_eq_true rfl⟩) (pV hS hAlo hlo hP hK hDL hZ [0, 1, 2, 3, 4, 5] (by decide) rfl (ci := 0) (q := (RX0, TX0, 5)) (q0 := 4) rfl rfl) rfl rfl hl.1 rfl (lv_room (Nat.le_of_ble_eq_true rfl)) dX0_isTakenByAny_18 ⟨Nat.le_of_ble_eq_true rfl, Nat.le_of_ble_eq_true rfl⟩) hS hA hP (fun r_5 H locs hw_5 hP hS => ?_)
    try dsimp only at hw_5
    rcases hw_5 with rfl | rfl
    · refine lv_if_eq (tgt := 26) hx hb dX0_isTakenByAny_21 (by decide) (fun h => absurd h (by decide)) (fun _ => ?_)
      refine lv_iconst (v := 1) hx hb dX0_isTakenByAny_24 (by decide) ?_
      exact W.zret (v := 1) (ty := .boolean) hx hb hr rfl (fun t ht hW => ⟨⟨1, (), rfl, .inl rfl, trivial⟩, hS.F ht⟩) hS.2.2 dX0_isTakenByAny_25
    · refine lv_if_eq (tgt := 26) hx hb dX0_isTakenByAny_21 (by decide) (fun _ => ?_) (fun h => absurd (by decide) h)
      refine lv_iinc (v := (nI (g2_1 + 2))) (lv' := [(3, .int (nI (g2_1 + 2))), (0, .ref w0), (1, .int (nI rn)), (2, .int (nI i))]) hx hb dX0_isTakenByAny_26 hl (k := 0) rfl (nI_add g2_1 2) (by decide) rfl (fun ls hl => ?_)
      refine lv_goto (tgt := 2) hx hb dX0_isTakenByAny_29 (by decide) ?_
      exact ih_1 _ (g2_1 + 2) _ _ _ (by omega) ⟨rfl, (by omega), hP, hS, (lv_sub hl [0, 1, 2, 3] rfl)⟩

theorem dX0_barOf_0 : decode cX0_barOf 0 = .ok (.aload_n 0, 1) := by decide +kernel
theorem dX0_barOf_1 : decode cX0_barOf 1 = .ok (.getfield 24, 3) := by decide +kernel
theorem dX0_barOf_4 : decode cX0_barOf 4 = .ok (.invokevirtual 37, 3) := by decide +kernel
theorem dX0_barOf_7 : decode cX0_barOf 7 = .ok (.istore_n 2, 1) := by decide +kernel
theorem dX0_barOf_8 : decode cX0_barOf 8 = .ok (.iload_n 2, 1) := by decide +kernel
theorem dX0_barOf_9 : decode cX0_barOf 9 = .ok (.ifCond .le 20, 3) := by decide +kernel
theorem dX0_barOf_12 : decode cX0_barOf 12 = .ok (.aload_n 0, 1) := by decide +kernel
theorem dX0_barOf_13 : decode cX0_barOf 13 = .ok (.iload_n 1, 1) := by decide +kernel
theorem dX0_barOf_14 : decode cX0_barOf 14 = .ok (.iload_n 2, 1) := by decide +kernel
theorem dX0_barOf_15 : decode cX0_barOf 15 = .ok (.iconst 1, 1) := by decide +kernel
theorem dX0_barOf_16 : decode cX0_barOf 16 = .ok (.isub, 1) := by decide +kernel
theorem dX0_barOf_17 : decode cX0_barOf 17 = .ok (.invokevirtual 89, 3) := by decide +kernel
theorem dX0_barOf_20 : decode cX0_barOf 20 = .ok (.ifCond .eq 9, 3) := by decide +kernel
theorem dX0_barOf_23 : decode cX0_barOf 23 = .ok (.iinc 2 (-1), 3) := by decide +kernel
theorem dX0_barOf_26 : decode cX0_barOf 26 = .ok (.goto (-18), 3) := by decide +kernel
theorem dX0_barOf_29 : decode cX0_barOf 29 = .ok (.iconst 0, 1) := by decide +kernel
theorem dX0_barOf_30 : decode cX0_barOf 30 = .ok (.istore_n 3, 1) := by decide +kernel
theorem dX0_barOf_31 : decode cX0_barOf 31 = .ok (.iload_n 3, 1) := by decide +kernel
theorem dX0_barOf_32 : decode cX0_barOf 32 = .ok (.iload_n 2, 1) := by decide +kernel
theorem dX0_barOf_33 : decode cX0_barOf 33 = .ok (.if_icmp .ge 20, 3) := by decide +kernel
theorem dX0_barOf_36 : decode cX0_barOf 36 = .ok (.aload_n 0, 1) := by decide +kernel
theorem dX0_barOf_37 : decode cX0_barOf 37 = .ok (.iload_n 1, 1) := by decide +kernel
theorem dX0_barOf_38 : decode cX0_barOf 38 = .ok (.iload_n 3, 1) := by decide +kernel
theorem dX0_barOf_39 : decode cX0_barOf 39 = .ok (.invokevirtual 93, 3) := by decide +kernel
theorem dX0_barOf_42 : decode cX0_barOf 42 = .ok (.ifCond .eq 5, 3) := by decide +kernel
theorem dX0_barOf_45 : decode cX0_barOf 45 = .ok (.iconst (-1), 1) := by decide +kernel
theorem dX0_barOf_46 : decode cX0_barOf 46 = .ok (.ireturn, 1) := by decide +kernel
theorem dX0_barOf_47 : decode cX0_barOf 47 = .ok (.iinc 3 1, 3) := by decide +kernel
theorem dX0_barOf_50 : decode cX0_barOf 50 = .ok (.goto (-19), 3) := by decide +kernel
theorem dX0_barOf_53 : decode cX0_barOf 53 = .ok (.iload_n 2, 1) := by decide +kernel
theorem dX0_barOf_54 : decode cX0_barOf 54 = .ok (.ireturn, 1) := by decide +kernel
set_option maxHeartbeats 4000000 in
set_option maxRecDepth 100000 in
theorem x_barOf (l : Launch) (D : va_G) (k : Nat → ClassId) (st : Nat → Nat) (lo : Nat) (h0 : Nat) (h1 : Nat) (h2 : Nat) (h3 : Nat) (h4 : Nat) (n : Nat) (see : Nat) (tm : Nat) (g : Nat → Int32) (fp : Nat → Int32) (fl : Nat → Int32) (w0 : Nat) (w1 : Nat) (w2 : Nat) (w3 : Nat) (w4 : Nat) (on : Nat → Int32) (rn : Nat) (hn : n ≤ 24) (hsee : see ≤ 2) (hrn : rn ≤ 3) : CRi l D k st lo yX0_barOf cX0_barOf 4 (some .int) ({ frames := 4, cells := 0, slots := 0, locals := 104 }) [.ref w0, .int (nI rn)] [(h0, .inr (5, (fX5 h1 h2 h3 h4))), (aI k h1 10 (vv n see tm g)), (aI k h3 24 fp), (aI k h4 4 fl), (w0, .inr (0, (fX0 h0 w1 w2 w3 w4))), (aI k w1 768 on)] (fun _ => True) := by
  intro sz
  refine Met.ofW (cc := cX0_barOf) (maxL := 4) (ret := (some .int)) (by decide) rfl ?_
  intro p e s m args below meth c s₁ B hml hv
  obtain ⟨rfl, hsz, hlo, hP, hK, hDL, hZ⟩ := hv
  have hx := B.exec
  have hb := B.bytes
  have hr := B.returns
  have hts := WS_ts B.pre
  have hown : s.vm.findClass RX0 = some m.cls := findClass_of_methodNamed B.named
  have hlocks := B.notSynchronized
  subst hsz
  have hA : ∀ q : Nat, s.heap.size ≤ q → (fun q : Nat => s.heap.size ≤ q) q := fun _ h => h
  have hAlo : ∀ q : Nat, (fun q : Nat => s.heap.size ≤ q) q → lo ≤ q := fun q h => Nat.le_trans hlo h
  have hS : va_S (fun q : Nat => s.heap.size ≤ q) s.heap s.heap [] := va_S.rf
  have hl := lv_entry ([.ref w0, .int (nI rn)]) (n := 4) (Nat.le_of_ble_eq_true rfl)
  rw [lg_entry_eq]
  generalize (lg_sl ([.ref w0, .int (nI rn)]) ++ List.replicate (4 - (lg_sl ([.ref w0, .int (nI rn)])).length) Slot.unset).toArray = ls at hl ⊢
  have hl : lv_has ls 4 [(0, .ref w0), (1, .int (nI rn))] := hl
  refine lv_aload_n hx hb dX0_barOf_0 rfl (lv_at hl 0 rfl) ?_
  refine va_get (D := D) (ci := 0) (v := .ref h0) (C := RX0) (T := TX0) (N := 5) hx hb hts inX0 hown hK hP 4 rfl rfl 0 (by decide) (hts _ tw_266) (fun _ h9 => h9) rfl dX0_barOf_1 ?_
  refine ro_i (D := D) (va_runV (As := []) (rest := []) ⟨hx, hb, hml, hown, hts⟩ ((x_doors l D k st lo h0 h1 h2 h3 h4 n see tm g) s.heap.size) (cwV 0 hts (gV tw_531 tw_478 tw_479 tw_81 tw_480) rfl rfl rfl (by decide +kernel) ⟨Nat.le_of_ble_eq_true rfl, Nat.le_of_ble_eq_true rfl⟩) (pV hS hAlo hlo hP hK hDL hZ [0, 1] (by decide) rfl (ci := 5) (q := (RX5, TX5, 4)) (q0 := 0) rfl rfl) rfl rfl hl.1 rfl (lv_room (Nat.le_of_ble_eq_true rfl)) dX0_barOf_4 ⟨Nat.le_of_ble_eq_true rfl, Nat.le_of_ble_eq_true rfl⟩) hS hA hP (fun r_1 H locs hw_1 hP hS => ?_)
  try dsimp only at hw_1
  subst hw_1
  refine lv_istore_n (lv' := [(2, .int (nI n)), (0, .ref w0), (1, .int (nI rn))]) hx hb dX0_barOf_7 rfl hl (by decide) rfl (fun ls hl => ?_)
  refine W_loop (σ := Nat) (fun (n_ : Nat) (bb_2 : Nat) (H : Heap) (locs : List Loc) (ls : Array Slot) => n_ = 2 * bb_2 ∧ (bb_2 ≤ n) ∧ va_P D classes [(h0, .inr (5, (fX5 h1 h2 h3 h4))), (aI k h1 10 (vv n see tm g)), (aI k h3 24 fp), (aI k h4 4 fl), (w0, .inr (0, (fX0 h0 w1 w2 w3 w4))), (aI k w1 768 on)] H ∧ va_S (fun q : Nat => s.heap.size ≤ q) s.heap H locs ∧ lv_has ls 4 [(2, .int (nI bb_2)), (0, .ref w0), (1, .int (nI rn))]) (fun n_2 x_2 H locs ls hI ih_2 => ?_) _ n ⟨rfl, (by omega), hP, hS, (lv_sub hl [0, 1, 2] rfl)⟩
  obtain ⟨bb_2, rfl⟩ : ∃ z, z = x_2 := ⟨_, rfl⟩
  obtain ⟨hm_2, hv_2, hP, hS, hl⟩ := hI
  subst hm_2
  refine lv_iload_n hx hb dX0_barOf_8 rfl (lv_at hl 0 rfl) ?_
  refine lv_if_le (tgt := 29) hx hb dX0_barOf_9 (by decide) (fun c_3 => ?_) (fun c_3 => ?_)
  · have c_3 := (nI_leI (a := bb_2) (b := 0) (by omega) (by omega)).mp c_3
    refine lv_iconst (v := 0) hx hb dX0_barOf_29 (by decide) ?_
    refine lv_istore_n (lv' := [(3, .int 0), (2, .int (nI bb_2)), (0, .ref w0), (1, .int (nI rn))]) hx hb dX0_barOf_30 rfl hl (by decide) rfl (fun ls hl => ?_)
    refine W_loop (σ := Nat) (fun (n_ : Nat) (ii_4 : Nat) (H : Heap) (locs : List Loc) (ls : Array Slot) => n_ = 25 - ii_4 ∧ (ii_4 ≤ 24) ∧ va_P D classes [(h0, .inr (5, (fX5 h1 h2 h3 h4))), (aI k h1 10 (vv n see tm g)), (aI k h3 24 fp), (aI k h4 4 fl), (w0, .inr (0, (fX0 h0 w1 w2 w3 w4))), (aI k w1 768 on)] H ∧ va_S (fun q : Nat => s.heap.size ≤ q) s.heap H locs ∧ lv_has ls 4 [(3, .int (nI ii_4)), (2, .int (nI bb_2)), (0, .ref w0), (1, .int (nI rn))]) (fun n_4 x_4 H locs ls hI ih_4 => ?_) _ 0 ⟨rfl, (by omega), hP, hS, (lv_sub hl [0, 1, 2, 3] rfl)⟩
    obtain ⟨ii_4, rfl⟩ : ∃ z, z = x_4 := ⟨_, rfl⟩
    obtain ⟨hm_4, hv_4, hP, hS, hl⟩ := hI
    subst hm_4
    refine lv_iload_n hx hb dX0_barOf_31 rfl (lv_at hl 0 rfl) ?_
    refine lv_iload_n hx hb dX0_barOf_32 rfl (lv_at hl 1 rfl) ?_
    refine lv_icmp_ge (tgt := 53) hx hb dX0_barOf_33 (by decide) (fun c_5 => ?_) (fun c_5 => ?_)
    · have c_5 := (nI_leI (a := bb_2) (b := ii_4) (by omega) (by omega)).mp c_5
      refine lv_iload_n hx hb dX0_barOf_53 rfl (lv_at hl 1 rfl) ?_
      exact W.iret (v := (nI bb_2)) hx hb hr (fun t ht hW => ⟨⟨(nI bb_2), (), rfl, trivial, trivial⟩, hS.F ht⟩) hS.2.2 dX0_barOf_54
    · have c_5 : ¬ (bb_2 ≤ ii_4) := fun h => c_5 ((nI_leI (a := bb_2) (b := ii_4) (by omega) (by omega)).mpr h)
      refine lv_aload_n hx hb dX0_barOf_36 rfl (lv_at hl 2 rfl) ?_
      refine lv_iload_n hx hb dX0_barOf_37 rfl (lv_at hl 3 rfl) ?_
      refine lv_iload_n hx hb dX0_barOf_38 rfl (lv_at hl 0 rfl) ?_
      refine ro_i (D := D) (va_runV (As := [.int (nI rn), .int (nI ii_4)]) (rest := []) ⟨hx, hb, hml, hown, hts⟩ ((x_isTakenByAny l D k st lo h0 h1 h2 h3 h4 n see tm g fp fl w0 w1 w2 w3 w4 on rn ii_4 (by omega) (by omega) (by omega) (by omega)) H.size) (cwV 2 hts (gV tw_663 tw_665 tw_13 tw_85 tw_666) rfl rfl rfl (by decide +kernel) ⟨Nat.le_of_ble_eq_true rfl, Nat.le_of_ble_eq_true rfl⟩) (pV hS hAlo hlo hP hK hDL hZ [0, 1, 2, 3, 4, 5] (by decide) rfl (ci := 0) (q := (RX0, TX0, 5)) (q0 := 4) rfl rfl) rfl rfl hl.1 rfl (lv_room (Nat.le_of_ble_eq_true rfl)) dX0_barOf_39 ⟨Nat.le_of_ble_eq_true rfl, Nat.le_of_ble_eq_true rfl⟩) hS hA hP (fun r_6 H locs hw_6 hP hS => ?_)
      try dsimp only at hw_6
      rcases hw_6 with rfl | rfl
      · refine lv_if_eq (tgt := 47) hx hb dX0_barOf_42 (by decide) (fun h => absurd h (by decide)) (fun _ => ?_)
        refine lv_iconst (v := (-1)) hx hb dX0_barOf_45 (by decide) ?_
        exact W.iret (v := (-1)) hx hb hr (fun t ht hW => ⟨⟨(-1), (), rfl, trivial, trivial⟩, hS.F ht⟩) hS.2.2 dX0_barOf_46
      · refine lv_if_eq (tgt := 47) hx hb dX0_barOf_42 (by decide) (fun _ => ?_) (fun h => absurd (by decide) h)
        refine lv_iinc (v := (nI (ii_4 + 1))) (lv' := [(3, .int (nI (ii_4 + 1))), (2, .int (nI bb_2)), (0, .ref w0), (1, .int (nI rn))]) hx hb dX0_barOf_47 hl (k := 0) rfl (nI_add ii_4 1) (by decide) rfl (fun ls hl => ?_)
        refine lv_goto (tgt := 31) hx hb dX0_barOf_50 (by decide) ?_
        exact ih_4 _ (ii_4 + 1) _ _ _ (by omega) ⟨rfl, (by omega), hP, hS, (lv_sub hl [0, 1, 2, 3] rfl)⟩
  · have c_3 : ¬ (bb_2 ≤ 0) := fun h => c_3 ((nI_leI (a := bb_2) (b := 0) (by omega) (by omega)).mpr h)
    refine lv_aload_n hx hb dX0_barOf_12 rfl (lv_at hl 1 rfl) ?_
    refine lv_iload_n hx hb dX0_barOf_13 rfl (lv_at hl 2 rfl) ?_
    refine lv_iload_n hx hb dX0_barOf_14 rfl (lv_at hl 0 rfl) ?_
    refine lv_iconst (v := 1) hx hb dX0_barOf_15 (by decide) ?_
    refine lv_isub hx hb dX0_barOf_16 ?_
    refine lv_ti (y := (nI (bb_2 - 1))) (pk_sub (a := bb_2) (b := 1) (by omega)) ?_
    refine ro_i (D := D) (va_runV (As := [.int (nI rn), .int (nI (bb_2 - 1))]) (rest := []) ⟨hx, hb, hml, hown, hts⟩ ((x_isTakenByAll l D k st lo h0 h1 h2 h3 h4 n see tm g fp fl w0 w1 w2 w3 w4 on rn (bb_2 - 1) (by omega) (by omega) (by omega) (by omega)) H.size) (cwV 2 hts (gV tw_658 tw_660 tw_12 tw_85 tw_661) rfl rfl rfl (by decide +kernel) ⟨Nat.le_of_ble_eq_true rfl, Nat.le_of_ble_eq_true rfl⟩) (pV hS hAlo hlo hP hK hDL hZ [0, 1, 2, 3, 4, 5] (by decide) rfl (ci := 0) (q := (RX0, TX0, 5)) (q0 := 4) rfl rfl) rfl rfl hl.1 rfl (lv_room (Nat.le_of_ble_eq_true rfl)) dX0_barOf_17 ⟨Nat.le_of_ble_eq_true rfl, Nat.le_of_ble_eq_true rfl⟩) hS hA hP (fun r_7 H locs hw_7 hP hS => ?_)
    try dsimp only at hw_7
    rcases hw_7 with rfl | rfl
    · refine lv_if_eq (tgt := 29) hx hb dX0_barOf_20 (by decide) (fun h => absurd h (by decide)) (fun _ => ?_)
      refine lv_iinc (v := (nI (bb_2 - 1))) (lv' := [(2, .int (nI (bb_2 - 1))), (0, .ref w0), (1, .int (nI rn))]) hx hb dX0_barOf_23 hl (k := 0) rfl (by rw [dn1]; exact pk_sub (a := bb_2) (b := 1) (by omega)) (by decide) rfl (fun ls hl => ?_)
      refine lv_goto (tgt := 8) hx hb dX0_barOf_26 (by decide) ?_
      exact ih_2 _ (bb_2 - 1) _ _ _ (by omega) ⟨rfl, (by omega), hP, hS, (lv_sub hl [0, 1, 2] rfl)⟩
    · refine lv_if_eq (tgt := 29) hx hb dX0_barOf_20 (by decide) (fun _ => ?_) (fun h => absurd (by decide) h)
      refine lv_iconst (v := 0) hx hb dX0_barOf_29 (by decide) ?_
      refine lv_istore_n (lv' := [(3, .int 0), (2, .int (nI bb_2)), (0, .ref w0), (1, .int (nI rn))]) hx hb dX0_barOf_30 rfl hl (by decide) rfl (fun ls hl => ?_)
      refine W_loop (σ := Nat) (fun (n_ : Nat) (ii_8 : Nat) (H : Heap) (locs : List Loc) (ls : Array Slot) => n_ = 25 - ii_8 ∧ (ii_8 ≤ 24) ∧ va_P D classes [(h0, .inr (5, (fX5 h1 h2 h3 h4))), (aI k h1 10 (vv n see tm g)), (aI k h3 24 fp), (aI k h4 4 fl), (w0, .inr (0, (fX0 h0 w1 w2 w3 w4))), (aI k w1 768 on)] H ∧ va_S (fun q : Nat => s.heap.size ≤ q) s.heap H locs ∧ lv_has ls 4 [(3, .int (nI ii_8)), (2, .int (nI bb_2)), (0, .ref w0), (1, .int (nI rn))]) (fun n_8 x_8 H locs ls hI ih_8 => ?_) _ 0 ⟨rfl, (by omega), hP, hS, (lv_sub hl [0, 1, 2, 3] rfl)⟩
      obtain ⟨ii_8, rfl⟩ : ∃ z, z = x_8 := ⟨_, rfl⟩
      obtain ⟨hm_8, hv_8, hP, hS, hl⟩ := hI
      subst hm_8
      refine lv_iload_n hx hb dX0_barOf_31 rfl (lv_at hl 0 rfl) ?_
      refine lv_iload_n hx hb dX0_barOf_32 rfl (lv_at hl 1 rfl) ?_
      refine lv_icmp_ge (tgt := 53) hx hb dX0_barOf_33 (by decide) (fun c_9 => ?_) (fun c_9 => ?_)
      · have c_9 := (nI_leI (a := bb_2) (b := ii_8) (by omega) (by omega)).mp c_9
        refine lv_iload_n hx hb dX0_barOf_53 rfl (lv_at hl 1 rfl) ?_
        exact W.iret (v := (nI bb_2)) hx hb hr (fun t ht hW => ⟨⟨(nI bb_2), (), rfl, trivial, trivial⟩, hS.F ht⟩) hS.2.2 dX0_barOf_54
      · have c_9 : ¬ (bb_2 ≤ ii_8) := fun h => c_9 ((nI_leI (a := bb_2) (b := ii_8) (by omega) (by omega)).mpr h)
        refine lv_aload_n hx hb dX0_barOf_36 rfl (lv_at hl 2 rfl) ?_
        refine lv_iload_n hx hb dX0_barOf_37 rfl (lv_at hl 3 rfl) ?_
        refine lv_iload_n hx hb dX0_barOf_38 rfl (lv_at hl 0 rfl) ?_
        refine ro_i (D := D) (va_runV (As := [.int (nI rn), .int (nI ii_8)]) (rest := []) ⟨hx, hb, hml, hown, hts⟩ ((x_isTakenByAny l D k st lo h0 h1 h2 h3 h4 n see tm g fp fl w0 w1 w2 w3 w4 on rn ii_8 (by omega) (by omega) (by omega) (by omega)) H.size) (cwV 2 hts (gV tw_663 tw_665 tw_13 tw_85 tw_666) rfl rfl rfl (by decide +kernel) ⟨Nat.le_of_ble_eq_true rfl, Nat.le_of_ble_eq_true rfl⟩) (pV hS hAlo hlo hP hK hDL hZ [0, 1, 2, 3, 4, 5] (by decide) rfl (ci := 0) (q := (RX0, TX0, 5)) (q0 := 4) rfl rfl) rfl rfl hl.1 rfl (lv_room (Nat.le_of_ble_eq_true rfl)) dX0_barOf_39 ⟨Nat.le_of_ble_eq_true rfl, Nat.le_of_ble_eq_true rfl⟩) hS hA hP (fun r_10 H locs hw_10 hP hS => ?_)
        try dsimp only at hw_10
        rcases hw_10 with rfl | rfl
        · refine lv_if_eq (tgt := 47) hx hb dX0_barOf_42 (by decide) (fun h => absurd h (by decide)) (fun _ => ?_)
          refine lv_iconst (v := (-1)) hx hb dX0_barOf_45 (by decide) ?_
          exact W.iret (v := (-1)) hx hb hr (fun t ht hW => ⟨⟨(-1), (), rfl, trivial, trivial⟩, hS.F ht⟩) hS.2.2 dX0_barOf_46
        · refine lv_if_eq (tgt := 47) hx hb dX0_barOf_42 (by decide) (fun _ => ?_) (fun h => absurd (by decide) h)
          refine lv_iinc (v := (nI (ii_8 + 1))) (lv' := [(3, .int (nI (ii_8 + 1))), (2, .int (nI bb_2)), (0, .ref w0), (1, .int (nI rn))]) hx hb dX0_barOf_47 hl (k := 0) rfl (nI_add ii_8 1) (by decide) rfl (fun ls hl => ?_)
          refine lv_goto (tgt := 31) hx hb dX0_barOf_50 (by decide) ?_
          exact ih_8 _ (ii_8 + 1) _ _ _ (by omega) ⟨rfl, (by omega), hP, hS, (lv_sub hl [0, 1, 2, 3] rfl)⟩

theorem dX0_firstWrong_0 : decode cX0_firstWrong 0 = .ok (.aload_n 2, 1) := by decide +kernel
theorem dX0_firstWrong_1 : decode cX0_firstWrong 1 = .ok (.getfield 100, 3) := by decide +kernel
theorem dX0_firstWrong_4 : decode cX0_firstWrong 4 = .ok (.aload_n 0, 1) := by decide +kernel
theorem dX0_firstWrong_5 : decode cX0_firstWrong 5 = .ok (.getfield 24, 3) := by decide +kernel
theorem dX0_firstWrong_8 : decode cX0_firstWrong 8 = .ok (.invokevirtual 37, 3) := by decide +kernel
theorem dX0_firstWrong_11 : decode cX0_firstWrong 11 = .ok (.invokestatic 54, 3) := by decide +kernel
theorem dX0_firstWrong_14 : decode cX0_firstWrong 14 = .ok (.istore 4, 2) := by decide +kernel
theorem dX0_firstWrong_16 : decode cX0_firstWrong 16 = .ok (.iconst 0, 1) := by decide +kernel
theorem dX0_firstWrong_17 : decode cX0_firstWrong 17 = .ok (.istore 5, 2) := by decide +kernel
theorem dX0_firstWrong_19 : decode cX0_firstWrong 19 = .ok (.iload 5, 2) := by decide +kernel
theorem dX0_firstWrong_21 : decode cX0_firstWrong 21 = .ok (.iload 4, 2) := by decide +kernel
theorem dX0_firstWrong_23 : decode cX0_firstWrong 23 = .ok (.if_icmp .ge 110, 3) := by decide +kernel
theorem dX0_firstWrong_26 : decode cX0_firstWrong 26 = .ok (.iload 5, 2) := by decide +kernel
theorem dX0_firstWrong_28 : decode cX0_firstWrong 28 = .ok (.aload_n 0, 1) := by decide +kernel
theorem dX0_firstWrong_29 : decode cX0_firstWrong 29 = .ok (.getfield 24, 3) := by decide +kernel
theorem dX0_firstWrong_32 : decode cX0_firstWrong 32 = .ok (.getfield 28, 3) := by decide +kernel
theorem dX0_firstWrong_35 : decode cX0_firstWrong 35 = .ok (.bipush 6, 2) := by decide +kernel
theorem dX0_firstWrong_37 : decode cX0_firstWrong 37 = .ok (.iaload, 1) := by decide +kernel
theorem dX0_firstWrong_38 : decode cX0_firstWrong 38 = .ok (.iadd, 1) := by decide +kernel
theorem dX0_firstWrong_39 : decode cX0_firstWrong 39 = .ok (.iconst 1, 1) := by decide +kernel
theorem dX0_firstWrong_40 : decode cX0_firstWrong 40 = .ok (.iadd, 1) := by decide +kernel
theorem dX0_firstWrong_41 : decode cX0_firstWrong 41 = .ok (.aload_n 0, 1) := by decide +kernel
theorem dX0_firstWrong_42 : decode cX0_firstWrong 42 = .ok (.getfield 24, 3) := by decide +kernel
theorem dX0_firstWrong_45 : decode cX0_firstWrong 45 = .ok (.invokevirtual 37, 3) := by decide +kernel
theorem dX0_firstWrong_48 : decode cX0_firstWrong 48 = .ok (.invokestatic 54, 3) := by decide +kernel
theorem dX0_firstWrong_51 : decode cX0_firstWrong 51 = .ok (.istore 6, 2) := by decide +kernel
theorem dX0_firstWrong_53 : decode cX0_firstWrong 53 = .ok (.iload 6, 2) := by decide +kernel
theorem dX0_firstWrong_55 : decode cX0_firstWrong 55 = .ok (.iload 4, 2) := by decide +kernel
theorem dX0_firstWrong_57 : decode cX0_firstWrong 57 = .ok (.if_icmp .gt 70, 3) := by decide +kernel
theorem dX0_firstWrong_60 : decode cX0_firstWrong 60 = .ok (.aload_n 2, 1) := by decide +kernel
theorem dX0_firstWrong_61 : decode cX0_firstWrong 61 = .ok (.iload 5, 2) := by decide +kernel
theorem dX0_firstWrong_63 : decode cX0_firstWrong 63 = .ok (.invokevirtual 106, 3) := by decide +kernel
theorem dX0_firstWrong_66 : decode cX0_firstWrong 66 = .ok (.ifCond .eq 61, 3) := by decide +kernel
theorem dX0_firstWrong_69 : decode cX0_firstWrong 69 = .ok (.aload_n 2, 1) := by decide +kernel
theorem dX0_firstWrong_70 : decode cX0_firstWrong 70 = .ok (.getfield 110, 3) := by decide +kernel
theorem dX0_firstWrong_73 : decode cX0_firstWrong 73 = .ok (.iload 5, 2) := by decide +kernel
theorem dX0_firstWrong_75 : decode cX0_firstWrong 75 = .ok (.ishr, 1) := by decide +kernel
theorem dX0_firstWrong_76 : decode cX0_firstWrong 76 = .ok (.aload_n 0, 1) := by decide +kernel
theorem dX0_firstWrong_77 : decode cX0_firstWrong 77 = .ok (.getfield 24, 3) := by decide +kernel
theorem dX0_firstWrong_80 : decode cX0_firstWrong 80 = .ok (.iload 5, 2) := by decide +kernel
theorem dX0_firstWrong_82 : decode cX0_firstWrong 82 = .ok (.invokevirtual 60, 3) := by decide +kernel
theorem dX0_firstWrong_85 : decode cX0_firstWrong 85 = .ok (.iconst 1, 1) := by decide +kernel
theorem dX0_firstWrong_86 : decode cX0_firstWrong 86 = .ok (.isub, 1) := by decide +kernel
theorem dX0_firstWrong_87 : decode cX0_firstWrong 87 = .ok (.iand, 1) := by decide +kernel
theorem dX0_firstWrong_88 : decode cX0_firstWrong 88 = .ok (.istore 7, 2) := by decide +kernel
theorem dX0_firstWrong_90 : decode cX0_firstWrong 90 = .ok (.iload_n 3, 1) := by decide +kernel
theorem dX0_firstWrong_91 : decode cX0_firstWrong 91 = .ok (.ifCond .eq 16, 3) := by decide +kernel
theorem dX0_firstWrong_94 : decode cX0_firstWrong 94 = .ok (.iload 5, 2) := by decide +kernel
theorem dX0_firstWrong_96 : decode cX0_firstWrong 96 = .ok (.iload 4, 2) := by decide +kernel
theorem dX0_firstWrong_98 : decode cX0_firstWrong 98 = .ok (.iconst 1, 1) := by decide +kernel
theorem dX0_firstWrong_99 : decode cX0_firstWrong 99 = .ok (.isub, 1) := by decide +kernel
theorem dX0_firstWrong_100 : decode cX0_firstWrong 100 = .ok (.if_icmp .ne 7, 3) := by decide +kernel
theorem dX0_firstWrong_103 : decode cX0_firstWrong 103 = .ok (.iconst 1, 1) := by decide +kernel
theorem dX0_firstWrong_104 : decode cX0_firstWrong 104 = .ok (.goto 4, 3) := by decide +kernel
theorem dX0_firstWrong_107 : decode cX0_firstWrong 107 = .ok (.iconst 0, 1) := by decide +kernel
theorem dX0_firstWrong_108 : decode cX0_firstWrong 108 = .ok (.istore 8, 2) := by decide +kernel
theorem dX0_firstWrong_110 : decode cX0_firstWrong 110 = .ok (.aload_n 0, 1) := by decide +kernel
theorem dX0_firstWrong_111 : decode cX0_firstWrong 111 = .ok (.iload_n 1, 1) := by decide +kernel
theorem dX0_firstWrong_112 : decode cX0_firstWrong 112 = .ok (.iload 5, 2) := by decide +kernel
theorem dX0_firstWrong_114 : decode cX0_firstWrong 114 = .ok (.iload 7, 2) := by decide +kernel
theorem dX0_firstWrong_116 : decode cX0_firstWrong 116 = .ok (.invokevirtual 96, 3) := by decide +kernel
theorem dX0_firstWrong_119 : decode cX0_firstWrong 119 = .ok (.iload 8, 2) := by decide +kernel
theorem dX0_firstWrong_121 : decode cX0_firstWrong 121 = .ok (.if_icmp .eq 6, 3) := by decide +kernel
theorem dX0_firstWrong_124 : decode cX0_firstWrong 124 = .ok (.iload 5, 2) := by decide +kernel
theorem dX0_firstWrong_126 : decode cX0_firstWrong 126 = .ok (.ireturn, 1) := by decide +kernel
theorem dX0_firstWrong_127 : decode cX0_firstWrong 127 = .ok (.iinc 5 1, 3) := by decide +kernel
theorem dX0_firstWrong_130 : decode cX0_firstWrong 130 = .ok (.goto (-111), 3) := by decide +kernel
theorem dX0_firstWrong_133 : decode cX0_firstWrong 133 = .ok (.iconst (-1), 1) := by decide +kernel
theorem dX0_firstWrong_134 : decode cX0_firstWrong 134 = .ok (.ireturn, 1) := by decide +kernel
set_option maxHeartbeats 4000000 in
set_option maxRecDepth 100000 in
theorem x_firstWrong (l : Launch) (D : va_G) (k : Nat → ClassId) (st : Nat → Nat) (lo : Nat) (h0 : Nat) (h1 : Nat) (h2 : Nat) (h3 : Nat) (h4 : Nat) (n : Nat) (see : Nat) (tm : Nat) (g : Nat → Int32) (fp : Nat → Int32) (fl : Nat → Int32) (w0 : Nat) (w1 : Nat) (w2 : Nat) (w3 : Nat) (w4 : Nat) (on : Nat → Int32) (c0 : Nat) (c1 : Nat) (c2 : Nat) (cc : Nat) (rz : Nat) (ro : Int32) (sd : Int32) (rn : Nat) (p2 : Int32) (hn : n ≤ 24) (hsee : see ≤ 2) (hrn : rn ≤ 3) (hrz : rz ≤ 24) : CRi l D k st lo yX0_firstWrong cX0_firstWrong 9 (some .int) ({ frames := 3, cells := 0, slots := 0, locals := 81 }) [.ref w0, .int (nI rn), .ref c0, .int p2] [(h0, .inr (5, (fX5 h1 h2 h3 h4))), (aI k h1 10 (vv n see tm g)), (aI k h3 24 fp), (aI k h4 4 fl), (w0, .inr (0, (fX0 h0 w1 w2 w3 w4))), (aI k w1 768 on), (c0, .inr (4, (fX4 c1 c2 (nI cc) (nI rz) ro sd)))] (fun _ => True) := by
  intro sz
  refine Met.ofW (cc := cX0_firstWrong) (maxL := 9) (ret := (some .int)) (by decide) rfl ?_
  intro p e s m args below meth c s₁ B hml hv
  obtain ⟨rfl, hsz, hlo, hP, hK, hDL, hZ⟩ := hv
  have hx := B.exec
  have hb := B.bytes
  have hr := B.returns
  have hts := WS_ts B.pre
  have hown : s.vm.findClass RX0 = some m.cls := findClass_of_methodNamed B.named
  have hlocks := B.notSynchronized
  subst hsz
  have hA : ∀ q : Nat, s.heap.size ≤ q → (fun q : Nat => s.heap.size ≤ q) q := fun _ h => h
  have hAlo : ∀ q : Nat, (fun q : Nat => s.heap.size ≤ q) q → lo ≤ q := fun q h => Nat.le_trans hlo h
  have hS : va_S (fun q : Nat => s.heap.size ≤ q) s.heap s.heap [] := va_S.rf
  have hl := lv_entry ([.ref w0, .int (nI rn), .ref c0, .int p2]) (n := 9) (Nat.le_of_ble_eq_true rfl)
  rw [lg_entry_eq]
  generalize (lg_sl ([.ref w0, .int (nI rn), .ref c0, .int p2]) ++ List.replicate (9 - (lg_sl ([.ref w0, .int (nI rn), .ref c0, .int p2])).length) Slot.unset).toArray = ls at hl ⊢
  have hl : lv_has ls 9 [(0, .ref w0), (1, .int (nI rn)), (2, .ref c0), (3, .int p2)] := hl
  refine lv_aload_n hx hb dX0_firstWrong_0 rfl (lv_at hl 2 rfl) ?_
  refine va_get (D := D) (ci := 4) (v := .int (nI rz)) (C := RX4) (T := TX4) (N := 6) hx hb hts inX4 hown hK hP 6 rfl rfl 3 (by decide) (hts _ tw_183) (fun _ h9 => h9) rfl dX0_firstWrong_1 ?_
  refine lv_aload_n hx hb dX0_firstWrong_4 rfl (lv_at hl 0 rfl) ?_
  refine va_get (D := D) (ci := 0) (v := .ref h0) (C := RX0) (T := TX0) (N := 5) hx hb hts inX0 hown hK hP 4 rfl rfl 0 (by decide) (hts _ tw_266) (fun _ h9 => h9) rfl dX0_firstWrong_5 ?_
  refine ro_i (D := D) (va_runV (As := []) (rest := [.int (nI rz)]) ⟨hx, hb, hml, hown, hts⟩ ((x_doors l D k st lo h0 h1 h2 h3 h4 n see tm g) s.heap.size) (cwV 0 hts (gV tw_531 tw_478 tw_479 tw_81 tw_480) rfl rfl rfl (by decide +kernel) ⟨Nat.le_of_ble_eq_true rfl, Nat.le_of_ble_eq_true rfl⟩) (pV hS hAlo hlo hP hK hDL hZ [0, 1] (by decide) rfl (ci := 5) (q := (RX5, TX5, 4)) (q0 := 0) rfl rfl) rfl rfl hl.1 rfl (lv_room (Nat.le_of_ble_eq_true rfl)) dX0_firstWrong_8 ⟨Nat.le_of_ble_eq_true rfl, Nat.le_of_ble_eq_true rfl⟩) hS hA hP (fun r_1 H locs hw_1 hP hS => ?_)
  try dsimp only at hw_1
  subst hw_1
  refine va_mmin hx hb (by rw [hml]; exact hl.1.symm) hown (hts _ tw_528) (hts _ tw_529) (hts _ tw_93) (hts _ tw_530) (Nat.le_of_ble_eq_true rfl) (Nat.le_of_ble_eq_true rfl) (Nat.le_of_ble_eq_true rfl) (Nat.le_of_ble_eq_true rfl) dX0_firstWrong_11 ?_
  refine lv_ti (y := (nI (min rz n))) (mminN (by omega) (by omega)) ?_
  refine lv_istore (lv' := [(4, .int (nI (min rz n))), (0, .ref w0), (1, .int (nI rn)), (2, .ref c0), (3, .int p2)]) hx hb dX0_firstWrong_14 hl (by decide) rfl (fun ls hl => ?_)
  refine lv_iconst (v := 0) hx hb dX0_firstWrong_16 (by decide) ?_
  refine lv_istore (lv' := [(5, .int 0), (4, .int (nI (min rz n))), (0, .ref w0), (1, .int (nI rn)), (2, .ref c0), (3, .int p2)]) hx hb dX0_firstWrong_17 hl (by decide) rfl (fun ls hl => ?_)
  refine W_loop (σ := Nat) (fun (n_ : Nat) (ii_3 : Nat) (H : Heap) (locs : List Loc) (ls : Array Slot) => n_ = 25 - ii_3 ∧ (ii_3 ≤ min rz n) ∧ va_P D classes [(h0, .inr (5, (fX5 h1 h2 h3 h4))), (aI k h1 10 (vv n see tm g)), (aI k h3 24 fp), (aI k h4 4 fl), (w0, .inr (0, (fX0 h0 w1 w2 w3 w4))), (aI k w1 768 on), (c0, .inr (4, (fX4 c1 c2 (nI cc) (nI rz) ro sd)))] H ∧ va_S (fun q : Nat => s.heap.size ≤ q) s.heap H locs ∧ lv_has ls 9 [(5, .int (nI ii_3)), (4, .int (nI (min rz n))), (0, .ref w0), (1, .int (nI rn)), (2, .ref c0), (3, .int p2)]) (fun n_3 x_3 H locs ls hI ih_3 => ?_) _ 0 ⟨rfl, (by omega), hP, hS, (lv_sub hl [0, 1, 2, 3, 4, 5] rfl)⟩
  obtain ⟨ii_3, rfl⟩ : ∃ z, z = x_3 := ⟨_, rfl⟩
  obtain ⟨hm_3, hv_3, hP, hS, hl⟩ := hI
  subst hm_3
  refine lv_iload hx hb dX0_firstWrong_19 (lv_at hl 0 rfl) ?_
  refine lv_iload hx hb dX0_firstWrong_21 (lv_at hl 1 rfl) ?_
  refine lv_icmp_ge (tgt := 133) hx hb dX0_firstWrong_23 (by decide) (fun c_4 => ?_) (fun c_4 => ?_)
  · have c_4 := (nI_leI (a := (min rz n)) (b := ii_3) (by omega) (by omega)).mp c_4
    refine lv_iconst (v := (-1)) hx hb dX0_firstWrong_133 (by decide) ?_
    exact W.iret (v := (-1)) hx hb hr (fun t ht hW => ⟨⟨(-1), (), rfl, trivial, trivial⟩, hS.F ht⟩) hS.2.2 dX0_firstWrong_134
  · have c_4 : ¬ ((min rz n) ≤ ii_3) := fun h => c_4 ((nI_leI (a := (min rz n)) (b := ii_3) (by omega) (by omega)).mpr h)
    refine lv_iload hx hb dX0_firstWrong_26 (lv_at hl 0 rfl) ?_
    refine lv_aload_n hx hb dX0_firstWrong_28 rfl (lv_at hl 2 rfl) ?_
    refine va_get (D := D) (ci := 0) (v := .ref h0) (C := RX0) (T := TX0) (N := 5) hx hb hts inX0 hown hK hP 4 rfl rfl 0 (by decide) (hts _ tw_266) (fun _ h9 => h9) rfl dX0_firstWrong_29 ?_
    refine va_get (D := D) (ci := 5) (v := .ref h1) (C := RX5) (T := TX5) (N := 4) hx hb hts inX5 hown hK hP 0 rfl rfl 0 (by decide) (hts _ tw_147) (fun _ h9 => h9) rfl dX0_firstWrong_32 ?_
    refine lv_bipush (v := 6) hx hb dX0_firstWrong_35 (by decide) ?_
    refine va_iald hx hb hK hP 1 1 rfl rfl (by unfold vp_in; decide) dX0_firstWrong_37 ?_
    refine lv_ti (y := (nI see)) (by rfl) ?_
    refine lv_iadd hx hb dX0_firstWrong_38 ?_
    refine lv_ti (y := (nI (ii_3 + see))) (nI_add ii_3 see) ?_
    refine lv_iconst (v := 1) hx hb dX0_firstWrong_39 (by decide) ?_
    refine lv_iadd hx hb dX0_firstWrong_40 ?_
    refine lv_ti (y := (nI (ii_3 + see + 1))) (nI_add (ii_3 + see) 1) ?_
    refine lv_aload_n hx hb dX0_firstWrong_41 rfl (lv_at hl 2 rfl) ?_
    refine va_get (D := D) (ci := 0) (v := .ref h0) (C := RX0) (T := TX0) (N := 5) hx hb hts inX0 hown hK hP 4 rfl rfl 0 (by decide) (hts _ tw_266) (fun _ h9 => h9) rfl dX0_firstWrong_42 ?_
    refine ro_i (D := D) (va_runV (As := []) (rest := [.int (nI (ii_3 + see + 1))]) ⟨hx, hb, hml, hown, hts⟩ ((x_doors l D k st lo h0 h1 h2 h3 h4 n see tm g) H.size) (cwV 0 hts (gV tw_531 tw_478 tw_479 tw_81 tw_480) rfl rfl rfl (by decide +kernel) ⟨Nat.le_of_ble_eq_true rfl, Nat.le_of_ble_eq_true rfl⟩) (pV hS hAlo hlo hP hK hDL hZ [0, 1] (by decide) rfl (ci := 5) (q := (RX5, TX5, 4)) (q0 := 0) rfl rfl) rfl rfl hl.1 rfl (lv_room (Nat.le_of_ble_eq_true rfl)) dX0_firstWrong_45 ⟨Nat.le_of_ble_eq_true rfl, Nat.le_of_ble_eq_true rfl⟩) hS hA hP (fun r_5 H locs hw_5 hP hS => ?_)
    try dsimp only at hw_5
    subst hw_5
    refine va_mmin hx hb (by rw [hml]; exact hl.1.symm) hown (hts _ tw_528) (hts _ tw_529) (hts _ tw_93) (hts _ tw_530) (Nat.le_of_ble_eq_true rfl) (Nat.le_of_ble_eq_true rfl) (Nat.le_of_ble_eq_true rfl) (Nat.le_of_ble_eq_true rfl) dX0_firstWrong_48 ?_
    refine lv_ti (y := (nI (min (ii_3 + see + 1) n))) (mminN (by omega) (by omega)) ?_
    refine lv_istore (lv' := [(6, .int (nI (min (ii_3 + see + 1) n))), (5, .int (nI ii_3)), (4, .int (nI (min rz n))), (0, .ref w0), (1, .int (nI rn)), (2, .ref c0), (3, .int p2)]) hx hb dX0_firstWrong_51 hl (by decide) rfl (fun ls hl => ?_)
    refine lv_iload hx hb dX0_firstWrong_53 (lv_at hl 0 rfl) ?_
    refine lv_iload hx hb dX0_firstWrong_55 (lv_at hl 2 rfl) ?_
    refine lv_icmp_gt (tgt := 127) hx hb dX0_firstWrong_57 (by decide) (fun c_7 => ?_) (fun c_7 => ?_)
    · have c_7 := (nI_ltI (a := (min rz n)) (b := (min (ii_3 + see + 1) n)) (by omega) (by omega)).mp c_7
      refine lv_iinc (v := (nI (ii_3 + 1))) (lv' := [(5, .int (nI (ii_3 + 1))), (6, .int (nI (min (ii_3 + see + 1) n))), (4, .int (nI (min rz n))), (0, .ref w0), (1, .int (nI rn)), (2, .ref c0), (3, .int p2)]) hx hb dX0_firstWrong_127 hl (k := 1) rfl (nI_add ii_3 1) (by decide) rfl (fun ls hl => ?_)
      refine lv_goto (tgt := 19) hx hb dX0_firstWrong_130 (by decide) ?_
      exact ih_3 _ (ii_3 + 1) _ _ _ (by omega) ⟨rfl, (by omega), hP, hS, (lv_sub hl [0, 2, 3, 4, 5, 6] rfl)⟩
    · have c_7 : ¬ ((min rz n) < (min (ii_3 + see + 1) n)) := fun h => c_7 ((nI_ltI (a := (min rz n)) (b := (min (ii_3 + see + 1) n)) (by omega) (by omega)).mpr h)
      refine lv_aload_n hx hb dX0_firstWrong_60 rfl (lv_at hl 5 rfl) ?_
      refine lv_iload hx hb dX0_firstWrong_61 (lv_at hl 1 rfl) ?_
      refine ro_i (D := D) (va_runV (As := [.int (nI ii_3)]) (rest := []) ⟨hx, hb, hml, hown, hts⟩ ((x_sawFree l D k st lo c0 c1 c2 cc rz ro sd (nI ii_3)) H.size) (cwV 1 hts (gV tw_760 tw_753 tw_754 tw_82 tw_755) rfl rfl rfl (by decide +kernel) ⟨Nat.le_of_ble_eq_true rfl, Nat.le_of_ble_eq_true rfl⟩) (pV hS hAlo hlo hP hK hDL hZ [6] (by decide) rfl (ci := 4) (q := (RX4, TX4, 6)) (q0 := 0) rfl rfl) rfl rfl hl.1 rfl (lv_room (Nat.le_of_ble_eq_true rfl)) dX0_firstWrong_63 ⟨Nat.le_of_ble_eq_true rfl, Nat.le_of_ble_eq_true rfl⟩) hS hA hP (fun r_8 H locs hw_8 hP hS => ?_)
      try dsimp only at hw_8
      rcases hw_8 with rfl | rfl
      · refine lv_if_eq (tgt := 127) hx hb dX0_firstWrong_66 (by decide) (fun h => absurd h (by decide)) (fun _ => ?_)
        refine lv_aload_n hx hb dX0_firstWrong_69 rfl (lv_at hl 5 rfl) ?_
        refine va_get (D := D) (ci := 4) (v := .int ro) (C := RX4) (T := TX4) (N := 6) hx hb hts inX4 hown hK hP 6 rfl rfl 4 (by decide) (hts _ tw_186) (fun _ h9 => h9) rfl dX0_firstWrong_70 ?_
        refine lv_iload hx hb dX0_firstWrong_73 (lv_at hl 1 rfl) ?_
        refine lv_ishr hx hb dX0_firstWrong_75 ?_
        refine lv_topi (fun x_9 ex_9 => ?_)
        refine lv_aload_n hx hb dX0_firstWrong_76 rfl (lv_at hl 3 rfl) ?_
        refine va_get (D := D) (ci := 0) (v := .ref h0) (C := RX0) (T := TX0) (N := 5) hx hb hts inX0 hown hK hP 4 rfl rfl 0 (by decide) (hts _ tw_266) (fun _ h9 => h9) rfl dX0_firstWrong_77 ?_
        refine lv_iload hx hb dX0_firstWrong_80 (lv_at hl 1 rfl) ?_
        refine ro_i (D := D) (va_runV (As := [.int (nI ii_3)]) (rest := [.int x_9]) ⟨hx, hb, hml, hown, hts⟩ ((x_sightsAt l D k st lo h0 h1 h2 h3 h4 n see tm g ii_3 (by omega) (by omega) (by omega)) H.size) (cwV 1 hts (gV tw_536 tw_537 tw_538 tw_81 tw_539) rfl rfl rfl (by decide +kernel) ⟨Nat.le_of_ble_eq_true rfl, Nat.le_of_ble_eq_true rfl⟩) (pV hS hAlo hlo hP hK hDL hZ [0, 1] (by decide) rfl (ci := 5) (q := (RX5, TX5, 4)) (q0 := 0) rfl rfl) rfl rfl hl.1 rfl (lv_room (Nat.le_of_ble_eq_true rfl)) dX0_firstWrong_82 ⟨Nat.le_of_ble_eq_true rfl, Nat.le_of_ble_eq_true rfl⟩) hS hA hP (fun r_10 H locs hw_10 hP hS => ?_)
        try dsimp only at hw_10
        obtain ⟨zs_11, rfl, hza_11, hzb_11, hzq_11⟩ := hw_10
        refine lv_iconst (v := 1) hx hb dX0_firstWrong_85 (by decide) ?_
        refine lv_isub hx hb dX0_firstWrong_86 ?_
        refine lv_ti (y := (nI zs_11 - 1)) rfl ?_
        obtain ⟨q_12, hq_12, eq_12⟩ := hzq_11
        obtain ⟨z_12, hz_12, ez_12⟩ := mk8 hq_12 x_9
        refine lv_iand hx hb dX0_firstWrong_87 ?_
        refine lv_ti (y := (nI z_12)) (by rw [eq_12]; exact ez_12) ?_
        refine lv_istore (lv' := [(7, .int (nI z_12)), (6, .int (nI (min (ii_3 + see + 1) n))), (5, .int (nI ii_3)), (4, .int (nI (min rz n))), (0, .ref w0), (1, .int (nI rn)), (2, .ref c0), (3, .int p2)]) hx hb dX0_firstWrong_88 hl (by decide) rfl (fun ls hl => ?_)
        refine lv_iload_n hx hb dX0_firstWrong_90 rfl (lv_at hl 7 rfl) ?_
        refine lv_if_eq (tgt := 107) hx hb dX0_firstWrong_91 (by decide) (fun c_13 => ?_) (fun c_13 => ?_)
        · refine lv_iconst (v := 0) hx hb dX0_firstWrong_107 (by decide) ?_
          refine lv_istore (lv' := [(8, .int 0), (7, .int (nI z_12)), (6, .int (nI (min (ii_3 + see + 1) n))), (5, .int (nI ii_3)), (4, .int (nI (min rz n))), (0, .ref w0), (1, .int (nI rn)), (2, .ref c0), (3, .int p2)]) hx hb dX0_firstWrong_108 hl (by decide) rfl (fun ls hl => ?_)
          refine lv_aload_n hx hb dX0_firstWrong_110 rfl (lv_at hl 5 rfl) ?_
          refine lv_iload_n hx hb dX0_firstWrong_111 rfl (lv_at hl 6 rfl) ?_
          refine lv_iload hx hb dX0_firstWrong_112 (lv_at hl 3 rfl) ?_
          refine lv_iload hx hb dX0_firstWrong_114 (lv_at hl 1 rfl) ?_
          refine ro_i (D := D) (va_runV (As := [.int (nI rn), .int (nI ii_3), .int (nI z_12)]) (rest := []) ⟨hx, hb, hml, hown, hts⟩ ((x_isTaken l D k st lo h0 h1 h2 h3 h4 n see tm g fp fl w0 w1 w2 w3 w4 on rn ii_3 z_12 (by omega) (by omega) (by omega)) H.size) (cwV 3 hts (gV tw_662 tw_638 tw_639 tw_85 tw_640) rfl rfl rfl (by decide +kernel) ⟨Nat.le_of_ble_eq_true rfl, Nat.le_of_ble_eq_true rfl⟩) (pV hS hAlo hlo hP hK hDL hZ [0, 1, 2, 3, 4, 5] (by decide) rfl (ci := 0) (q := (RX0, TX0, 5)) (q0 := 4) rfl rfl) rfl rfl hl.1 rfl (lv_room (Nat.le_of_ble_eq_true rfl)) dX0_firstWrong_116 ⟨Nat.le_of_ble_eq_true rfl, Nat.le_of_ble_eq_true rfl⟩) hS hA hP (fun r_14 H locs hw_14 hP hS => ?_)
          try dsimp only at hw_14
          rcases hw_14 with rfl | rfl
          · refine lv_iload hx hb dX0_firstWrong_119 (lv_at hl 0 rfl) ?_
            refine lv_icmp_eq (tgt := 127) hx hb dX0_firstWrong_121 (by decide) (fun h => absurd h (by decide)) (fun _ => ?_)
            refine lv_iload hx hb dX0_firstWrong_124 (lv_at hl 3 rfl) ?_
            exact W.iret (v := (nI ii_3)) hx hb hr (fun t ht hW => ⟨⟨(nI ii_3), (), rfl, trivial, trivial⟩, hS.F ht⟩) hS.2.2 dX0_firstWrong_126
          · refine lv_iload hx hb dX0_firstWrong_119 (lv_at hl 0 rfl) ?_
            refine lv_icmp_eq (tgt := 127) hx hb dX0_firstWrong_121 (by decide) (fun _ => ?_) (fun h => absurd (by decide) h)
            refine lv_iinc (v := (nI (ii_3 + 1))) (lv' := [(5, .int (nI (ii_3 + 1))), (8, .int 0), (7, .int (nI z_12)), (6, .int (nI (min (ii_3 + see + 1) n))), (4, .int (nI (min rz n))), (0, .ref w0), (1, .int (nI rn)), (2, .ref c0), (3, .int p2)]) hx hb dX0_firstWrong_127 hl (k := 3) rfl (nI_add ii_3 1) (by decide) rfl (fun ls hl => ?_)
            refine lv_goto (tgt := 19) hx hb dX0_firstWrong_130 (by decide) ?_
            exact ih_3 _ (ii_3 + 1) _ _ _ (by omega) ⟨rfl, (by omega), hP, hS, (lv_sub hl [0, 4, 5, 6, 7, 8] rfl)⟩
        · refine lv_iload hx hb dX0_firstWrong_94 (lv_at hl 2 rfl) ?_
          refine lv_iload hx hb dX0_firstWrong_96 (lv_at hl 3 rfl) ?_
          refine lv_iconst (v := 1) hx hb dX0_firstWrong_98 (by decide) ?_
          refine lv_isub hx hb dX0_firstWrong_99 ?_
          refine lv_ti (y := (nI ((min rz n) - 1))) (pk_sub (a := (min rz n)) (b := 1) (by omega)) ?_
          refine lv_icmp_ne (tgt := 107) hx hb dX0_firstWrong_100 (by decide) (fun c_15 => ?_) (fun c_15 => ?_)
          · have c_15 : ¬ (ii_3 = ((min rz n) - 1)) := fun h => c_15 ((nI_eq (a := ii_3) (b := ((min rz n) - 1)) (by omega) (by omega)).mpr h)
            refine lv_iconst (v := 0) hx hb dX0_firstWrong_107 (by decide) ?_
            refine lv_istore (lv' := [(8, .int 0), (7, .int (nI z_12)), (6, .int (nI (min (ii_3 + see + 1) n))), (5, .int (nI ii_3)), (4, .int (nI (min rz n))), (0, .ref w0), (1, .int (nI rn)), (2, .ref c0), (3, .int p2)]) hx hb dX0_firstWrong_108 hl (by decide) rfl (fun ls hl => ?_)
            refine lv_aload_n hx hb dX0_firstWrong_110 rfl (lv_at hl 5 rfl) ?_
            refine lv_iload_n hx hb dX0_firstWrong_111 rfl (lv_at hl 6 rfl) ?_
            refine lv_iload hx hb dX0_firstWrong_112 (lv_at hl 3 rfl) ?_
            refine lv_iload hx hb dX0_firstWrong_114 (lv_at hl 1 rfl) ?_
            refine ro_i (D := D) (va_runV (As := [.int (nI rn), .int (nI ii_3), .int (nI z_12)]) (rest := []) ⟨hx, hb, hml, hown, hts⟩ ((x_isTaken l D k st lo h0 h1 h2 h3 h4 n see tm g fp fl w0 w1 w2 w3 w4 on rn ii_3 z_12 (by omega) (by omega) (by omega)) H.size) (cwV 3 hts (gV tw_662 tw_638 tw_639 tw_85 tw_640) rfl rfl rfl (by decide +kernel) ⟨Nat.le_of_ble_eq_true rfl, Nat.le_of_ble_eq_true rfl⟩) (pV hS hAlo hlo hP hK hDL hZ [0, 1, 2, 3, 4, 5] (by decide) rfl (ci := 0) (q := (RX0, TX0, 5)) (q0 := 4) rfl rfl) rfl rfl hl.1 rfl (lv_room (Nat.le_of_ble_eq_true rfl)) dX0_firstWrong_116 ⟨Nat.le_of_ble_eq_true rfl, Nat.le_of_ble_eq_true rfl⟩) hS hA hP (fun r_16 H locs hw_16 hP hS => ?_)
            try dsimp only at hw_16
            rcases hw_16 with rfl | rfl
            · refine lv_iload hx hb dX0_firstWrong_119 (lv_at hl 0 rfl) ?_
              refine lv_icmp_eq (tgt := 127) hx hb dX0_firstWrong_121 (by decide) (fun h => absurd h (by decide)) (fun _ => ?_)
              refine lv_iload hx hb dX0_firstWrong_124 (lv_at hl 3 rfl) ?_
              exact W.iret (v := (nI ii_3)) hx hb hr (fun t ht hW => ⟨⟨(nI ii_3), (), rfl, trivial, trivial⟩, hS.F ht⟩) hS.2.2 dX0_firstWrong_126
            · refine lv_iload hx hb dX0_firstWrong_119 (lv_at hl 0 rfl) ?_
              refine lv_icmp_eq (tgt := 127) hx hb dX0_firstWrong_121 (by decide) (fun _ => ?_) (fun h => absurd (by decide) h)
              refine lv_iinc (v := (nI (ii_3 + 1))) (lv' := [(5, .int (nI (ii_3 + 1))), (8, .int 0), (7, .int (nI z_12)), (6, .int (nI (min (ii_3 + see + 1) n))), (4, .int (nI (min rz n))), (0, .ref w0), (1, .int (nI rn)), (2, .ref c0), (3, .int p2)]) hx hb dX0_firstWrong_127 hl (k := 3) rfl (nI_add ii_3 1) (by decide) rfl (fun ls hl => ?_)
              refine lv_goto (tgt := 19) hx hb dX0_firstWrong_130 (by decide) ?_
              exact ih_3 _ (ii_3 + 1) _ _ _ (by omega) ⟨rfl, (by omega), hP, hS, (lv_sub hl [0, 4, 5, 6, 7, 8] rfl)⟩
          · have c_15 := (nI_eq (a := ii_3) (b := ((min rz n) - 1)) (by omega) (by omega)).mp c_15
            refine lv_iconst (v := 1) hx hb dX0_firstWrong_103 (by decide) ?_
            refine lv_goto (tgt := 108) hx hb dX0_firstWrong_104 (by decide) ?_
            refine lv_istore (lv' := [(8, .int 1), (7, .int (nI z_12)), (6, .int (nI (min (ii_3 + see + 1) n))), (5, .int (nI ii_3)), (4, .int (nI (min rz n))), (0, .ref w0), (1, .int (nI rn)), (2, .ref c0), (3, .int p2)]) hx hb dX0_firstWrong_108 hl (by decide) rfl (fun ls hl => ?_)
            refine lv_aload_n hx hb dX0_firstWrong_110 rfl (lv_at hl 5 rfl) ?_
            refine lv_iload_n hx hb dX0_firstWrong_111 rfl (lv_at hl 6 rfl) ?_
            refine lv_iload hx hb dX0_firstWrong_112 (lv_at hl 3 rfl) ?_
            refine lv_iload hx hb dX0_firstWrong_114 (lv_at hl 1 rfl) ?_
            refine ro_i (D := D) (va_runV (As := [.int (nI rn), .int (nI ii_3), .int (nI z_12)]) (rest := []) ⟨hx, hb, hml, hown, hts⟩ ((x_isTaken l D k st lo h0 h1 h2 h3 h4 n see tm g fp fl w0 w1 w2 w3 w4 on rn ii_3 z_12 (by omega) (by omega) (by omega)) H.size) (cwV 3 hts (gV tw_662 tw_638 tw_639 tw_85 tw_640) rfl rfl rfl (by decide +kernel) ⟨Nat.le_of_ble_eq_true rfl, Nat.le_of_ble_eq_true rfl⟩) (pV hS hAlo hlo hP hK hDL hZ [0, 1, 2, 3, 4, 5] (by decide) rfl (ci := 0) (q := (RX0, TX0, 5)) (q0 := 4) rfl rfl) rfl rfl hl.1 rfl (lv_room (Nat.le_of_ble_eq_true rfl)) dX0_firstWrong_116 ⟨Nat.le_of_ble_eq_true rfl, Nat.le_of_ble_eq_true rfl⟩) hS hA hP (fun r_17 H locs hw_17 hP hS => ?_)
            try dsimp only at hw_17
            rcases hw_17 with rfl | rfl
            · refine lv_iload hx hb dX0_firstWrong_119 (lv_at hl 0 rfl) ?_
              refine lv_icmp_eq (tgt := 127) hx hb dX0_firstWrong_121 (by decide) (fun _ => ?_) (fun h => absurd (by decide) h)
              refine lv_iinc (v := (nI (ii_3 + 1))) (lv' := [(5, .int (nI (ii_3 + 1))), (8, .int 1), (7, .int (nI z_12)), (6, .int (nI (min (ii_3 + see + 1) n))), (4, .int (nI (min rz n))), (0, .ref w0), (1, .int (nI rn)), (2, .ref c0), (3, .int p2)]) hx hb dX0_firstWrong_127 hl (k := 3) rfl (nI_add ii_3 1) (by decide) rfl (fun ls hl => ?_)
              refine lv_goto (tgt := 19) hx hb dX0_firstWrong_130 (by decide) ?_
              exact ih_3 _ (ii_3 + 1) _ _ _ (by omega) ⟨rfl, (by omega), hP, hS, (lv_sub hl [0, 4, 5, 6, 7, 8] rfl)⟩
            · refine lv_iload hx hb dX0_firstWrong_119 (lv_at hl 0 rfl) ?_
              refine lv_icmp_eq (tgt := 127) hx hb dX0_firstWrong_121 (by decide) (fun h => absurd h (by decide)) (fun _ => ?_)
              refine lv_iload hx hb dX0_firstWrong_124 (lv_at hl 3 rfl) ?_
              exact W.iret (v := (nI ii_3)) hx hb hr (fun t ht hW => ⟨⟨(nI ii_3), (), rfl, trivial, trivial⟩, hS.F ht⟩) hS.2.2 dX0_firstWrong_126
      · refine lv_if_eq (tgt := 127) hx hb dX0_firstWrong_66 (by decide) (fun _ => ?_) (fun h => absurd (by decide) h)
        refine lv_iinc (v := (nI (ii_3 + 1))) (lv' := [(5, .int (nI (ii_3 + 1))), (6, .int (nI (min (ii_3 + see + 1) n))), (4, .int (nI (min rz n))), (0, .ref w0), (1, .int (nI rn)), (2, .ref c0), (3, .int p2)]) hx hb dX0_firstWrong_127 hl (k := 1) rfl (nI_add ii_3 1) (by decide) rfl (fun ls hl => ?_)
        refine lv_goto (tgt := 19) hx hb dX0_firstWrong_130 (by decide) ?_
        exact ih_3 _ (ii_3 + 1) _ _ _ (by omega) ⟨rfl, (by omega), hP, hS, (lv_sub hl [0, 2, 3, 4, 5, 6] rfl)⟩


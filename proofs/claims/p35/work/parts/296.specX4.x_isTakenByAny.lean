theorem dX0_isTakenByAny_0 : decode cX0_isTakenByAny 0 = .ok (.iconst 1, 1) := by decide +kernel
theorem dX0_isTakenByAny_1 : decode cX0_isTakenByAny 1 = .ok (.istore_n 3, 1) := by decide +kernel
theorem dX0_isTakenByAny_2 : decode cX0_isTakenByAny 2 = .ok (.iload_n 3, 1) := by decide +kernel
theorem dX0_isTakenByAny_3 : decode cX0_isTakenByAny 3 = .ok (.aload_n 0, 1) := by decide +kernel
theorem dX0_isTakenByAny_4 : decode cX0_isTakenByAny 4 = .ok (.getfield 24, 3) := by decide +kernel
theorem dX0_isTakenByAny_7 : decode cX0_isTakenByAny 7 = .ok (.iload_n 2, 1) := by decide +kernel
theorem dX0_isTakenByAny_8 : decode cX0_isTakenByAny 8 = .ok (.invokevirtual 60, 3) := by decide +kernel
theorem dX0_isTakenByAny_11 : decode cX0_isTakenByAny 11 = .ok (.if_icmp .ge 21, 3) := by decide +kernel
theorem dX0_isTakenByAny_14 : decode cX0_isTakenByAny 14 = .ok (.aload_n 0, 1) := by decide +kernel
theorem dX0_isTakenByAny_15 : decode cX0_isTakenByAny 15 = .ok (.iload_n 1, 1) := by decide +kernel
theorem dX0_isTakenByAny_16 : decode cX0_isTakenByAny 16 = .ok (.iload_n 2, 1) := by decide +kernel
theorem dX0_isTakenByAny_17 : decode cX0_isTakenByAny 17 = .ok (.iload_n 3, 1) := by decide +kernel
theorem dX0_isTakenByAny_18 : decode cX0_isTakenByAny 18 = .ok (.invokevirtual 96, 3) := by decide +kernel
theorem dX0_isTakenByAny_21 : decode cX0_isTakenByAny 21 = .ok (.ifCond .eq 5, 3) := by decide +kernel
theorem dX0_isTakenByAny_24 : decode cX0_isTakenByAny 24 = .ok (.iconst 1, 1) := by decide +kernel
theorem dX0_isTakenByAny_25 : decode cX0_isTakenByAny 25 = .ok (.ireturn, 1) := by decide +kernel
theorem dX0_isTakenByAny_26 : decode cX0_isTakenByAny 26 = .ok (.iinc 3 2, 3) := by decide +kernel
theorem dX0_isTakenByAny_29 : decode cX0_isTakenByAny 29 = .ok (.goto (-27), 3) := by decide +kernel
theorem dX0_isTakenByAny_32 : decode cX0_isTakenByAny 32 = .ok (.iconst 0, 1) := by decide +kernel
theorem dX0_isTakenByAny_33 : decode cX0_isTakenByAny 33 = .ok (.ireturn, 1) := by decide +kernel
set_option maxHeartbeats 4000000 in
set_option maxRecDepth 100000 in
theorem x_isTakenByAny (l : Launch) (D : va_G) (k : Nat → ClassId) (st : Nat → Nat) (lo : Nat) (h0 : Nat) (h1 : Nat) (h2 : Nat) (h3 : Nat) (h4 : Nat) (n : Nat) (see : Nat) (tm : Nat) (g : Nat → Int32) (fp : Nat → Int32) (fl : Nat → Int32) (w0 : Nat) (w1 : Nat) (w2 : Nat) (w3 : Nat) (w4 : Nat) (on : Nat → Int32) (rn : Nat) (i : Nat) (hn : n ≤ 24) (hsee : see ≤ 2) (hrn : rn ≤ 3) (hi : i < n) : CRi l D k st lo yX0_isTakenByAny cX0_isTakenByAny 4 (some .boolean) ({ frames := 3, cells := 0, slots := 0, locals := 81 }) [.ref w0, .int (nI rn), .int (nI i)] [(h0, .inr (5, [.ref h1, .ref h2, .ref h3, .ref h4])), (h1, .inl (k 1, 10, .inl (vv n see tm g))), (h3, .inl (k 1, 24, .inl fp)), (h4, .inl (k 1, 4, .inl fl)), (w0, .inr (0, [.ref h0, .ref w1, .ref w2, .ref w3, .ref w4])), (w1, .inl (k 1, 768, .inl on))] (fun r => r = 1 ∨ r = 0) := by
  intro sz
  refine Met.ofW (cc := cX0_isTakenByAny) (maxL := 4) (ret := (some .boolean)) (by decide) rfl ?_
  intro p e s m args below meth c s₁ B hml hv
  obtain ⟨rfl, hsz, hlo, hP, hK, hDL, hZ⟩ := hv
  have hx := B.exec
  have hb := B.bytes
  have hr := B.returns
  have hts := WS_ts B.pre
  have hown : s.vm.findClass RX0 = some m.cls := findClass_of_methodNamed B.named
  have hlocks := B.notSynchronized
  subst hsz
  have hA : ∀ q : Nat, s.heap.size ≤ q → (fun q : Nat => s.heap.size ≤ q) q := fun _ h => h
  have hAlo : ∀ q : Nat, (fun q : Nat => s.heap.size ≤ q) q → lo ≤ q := fun q h => Nat.le_trans hlo h
  have hS : va_S (fun q : Nat => s.heap.size ≤ q) s.heap s.heap [] := va_S.rf
  have hl := lv_entry ([.ref w0, .int (nI rn), .int (nI i)]) (n := 4) (Nat.le_of_ble_eq_true rfl)
  rw [lg_entry_eq]
  generalize (lg_sl ([.ref w0, .int (nI rn), .int (nI i)]) ++ List.replicate (4 - (lg_sl ([.ref w0, .int (nI rn), .int (nI i)])).length) Slot.unset).toArray = ls at hl ⊢
  have hl : lv_has ls 4 [(0, .ref w0), (1, .int (nI rn)), (2, .int (nI i))] := hl
  refine lv_iconst (v := 1) hx hb dX0_isTakenByAny_0 (by decide) ?_
  refine lv_istore_n (lv' := [(3, .int 1), (0, .ref w0), (1, .int (nI rn)), (2, .int (nI i))]) hx hb dX0_isTakenByAny_1 rfl hl (by decide) rfl (fun ls hl => ?_)
  refine W_loop (σ := Nat) (fun (n_ : Nat) (g2_1 : Nat) (H : Heap) (locs : List Loc) (ls : Array Slot) => n_ = 10 - g2_1 ∧ (g2_1 ≤ 9) ∧ va_P D classes [(h0, .inr (5, [.ref h1, .ref h2, .ref h3, .ref h4])), (h1, .inl (k 1, 10, .inl (vv n see tm g))), (h3, .inl (k 1, 24, .inl fp)), (h4, .inl (k 1, 4, .inl fl)), (w0, .inr (0, [.ref h0, .ref w1, .ref w2, .ref w3, .ref w4])), (w1, .inl (k 1, 768, .inl on))] H ∧ va_S (fun q : Nat => s.heap.size ≤ q) s.heap H locs ∧ lv_has ls 4 [(3, .int (nI g2_1)), (0, .ref w0), (1, .int (nI rn)), (2, .int (nI i))]) (fun n_1 x_1 H locs ls hI ih_1 => ?_) _ 1 ⟨rfl, (by omega), hP, hS, (lv_sub hl [0, 1, 2, 3] rfl)⟩
  obtain ⟨g2_1, rfl⟩ : ∃ z, z = x_1 := ⟨_, rfl⟩
  obtain ⟨hm_1, hv_1, hP, hS, hl⟩ := hI
  subst hm_1
  refine lv_iload_n hx hb dX0_isTakenByAny_2 rfl (lv_at hl 0 rfl) ?_
  refine lv_aload_n hx hb dX0_isTakenByAny_3 rfl (lv_at hl 1 rfl) ?_
  refine va_get (D := D) (ci := 0) (v := .ref h0) (C := RX0) (T := TX0) (N := 5) hx hb hts inX0 hown hK hP 4 rfl rfl 0 (by decide) (hts _ tw_266) (fun _ h9 => h9) rfl dX0_isTakenByAny_4 ?_
  refine lv_iload_n hx hb dX0_isTakenByAny_7 rfl (lv_at hl 3 rfl) ?_
  refine ro_i (D := D) (va_runV (As := [.int (nI i)]) (rest := [.int (nI g2_1)]) ⟨hx, hb, hml, hown, hts⟩ ((x_sightsAt l D k st lo h0 h1 h2 h3 h4 n see tm g i (by omega) (by omega) (by omega)) H.size) (cwV 1 hts (gV tw_536 tw_537 tw_538 tw_81 tw_539) rfl rfl rfl (by decide +kernel) ⟨Nat.le_of_ble_eq_true rfl, Nat.le_of_ble_eq_true rfl⟩) (pV hS hAlo hlo hP hK hDL hZ [0, 1] (by decide) rfl (ci := 5) (q0 := 0) rfl rfl) rfl rfl hl.1 rfl (lv_room (Nat.le_of_ble_eq_true rfl)) dX0_isTakenByAny_8 ⟨Nat.le_of_ble_eq_true rfl, Nat.le_of_ble_eq_true rfl⟩) hS hA hP (fun r_2 H locs hw_2 hP hS => ?_)
  try dsimp only at hw_2
  obtain ⟨zs_3, rfl, hza_3, hzb_3, hzq_3⟩ := hw_2
  refine lv_icmp_ge (tgt := 32) hx hb dX0_isTakenByAny_11 (by decide) (fun c_4 => ?_) (fun c_4 => ?_)
  · have c_4 := (nI_leI (a := zs_3) (b := g2_1) (by omega) (by omega)).mp c_4
    refine lv_iconst (v := 0) hx hb dX0_isTakenByAny_32 (by decide) ?_
    exact W.zret (v := 0) (ty := .boolean) hx hb hr rfl (fun t ht hW => ⟨⟨0, (), rfl, .inr rfl, trivial⟩, hS.F ht⟩) hS.2.2 dX0_isTakenByAny_33
  · have c_4 : ¬ (zs_3 ≤ g2_1) := fun h => c_4 ((nI_leI (a := zs_3) (b := g2_1) (by omega) (by omega)).mpr h)
    refine lv_aload_n hx hb dX0_isTakenByAny_14 rfl (lv_at hl 1 rfl) ?_
    refine lv_iload_n hx hb dX0_isTakenByAny_15 rfl (lv_at hl 2 rfl) ?_
    refine lv_iload_n hx hb dX0_isTakenByAny_16 rfl (lv_at hl 3 rfl) ?_
    refine lv_iload_n hx hb dX0_isTakenByAny_17 rfl (lv_at hl 0 rfl) ?_
    refine ro_i (D := D) (va_runV (As := [.int (nI rn), .int (nI i), .int (nI g2_1)]) (rest := []) ⟨hx, hb, hml, hown, hts⟩ ((x_isTaken l D k st lo h0 h1 h2 h3 h4 n see tm g fp fl w0 w1 w2 w3 w4 on rn i g2_1 (by omega) (by omega) (by omega)) H.size) (cwV 3 hts (gV tw_662 tw_638 tw_639 tw_85 tw_640) rfl rfl rfl (by decide +kernel) ⟨Nat.le_of_ble_eq_true rfl, Nat.le_of_ble_eq_true rfl⟩) (pV hS hAlo hlo hP hK hDL hZ [0, 1, 2, 3, 4, 5] (by decide) rfl (ci := 0) (q0 := 4) rfl rfl) rfl rfl hl.1 rfl (lv_room (Nat.le_of_ble_eq_true rfl)) dX0_isTakenByAny_18 ⟨Nat.le_of_ble_eq_true rfl, Nat.le_of_ble_eq_true rfl⟩) hS hA hP (fun r_5 H locs hw_5 hP hS => ?_)
    try dsimp only at hw_5
    rcases hw_5 with rfl | rfl
    · refine lv_if_eq (tgt := 26) hx hb dX0_isTakenByAny_21 (by decide) (fun h => absurd h (by decide)) (fun _ => ?_)
      refine lv_iconst (v := 1) hx hb dX0_isTakenByAny_24 (by decide) ?_
      exact W.zret (v := 1) (ty := .boolean) hx hb hr rfl (fun t ht hW => ⟨⟨1, (), rfl, .inl rfl, trivial⟩, hS.F ht⟩) hS.2.2 dX0_isTakenByAny_25
    · refine lv_if_eq (tgt := 26) hx hb dX0_isTakenByAny_21 (by decide) (fun _ => ?_) (fun h => absurd (by decide) h)
      refine lv_iinc (v := (nI (g2_1 + 2))) (lv' := [(3, .int (nI (g2_1 + 2))), (0, .ref w0), (1, .int (nI rn)), (2, .int (nI i))]) hx hb dX0_isTakenByAny_26 hl (k := 0) rfl (nI_add g2_1 2) (by decide) rfl (fun ls hl => ?_)
      refine lv_goto (tgt := 2) hx hb dX0_isTakenByAny_29 (by decide) ?_
      exact ih_1 _ (g2_1 + 2) _ _ _ (by omega) ⟨rfl, (by omega), hP, hS, (lv_sub hl [0, 1, 2, 3] rfl)⟩


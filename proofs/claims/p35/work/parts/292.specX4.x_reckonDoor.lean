theorem dX0_reckonDoor_0 : decode cX0_reckonDoor 0 = .ok (.iload_n 2, 1) := by decide +kernel
theorem dX0_reckonDoor_1 : decode cX0_reckonDoor 1 = .ok (.aload_n 0, 1) := by decide +kernel
theorem dX0_reckonDoor_2 : decode cX0_reckonDoor 2 = .ok (.getfield 24, 3) := by decide +kernel
theorem dX0_reckonDoor_5 : decode cX0_reckonDoor 5 = .ok (.invokevirtual 37, 3) := by decide +kernel
theorem dX0_reckonDoor_8 : decode cX0_reckonDoor 8 = .ok (.iconst 1, 1) := by decide +kernel
theorem dX0_reckonDoor_9 : decode cX0_reckonDoor 9 = .ok (.isub, 1) := by decide +kernel
theorem dX0_reckonDoor_10 : decode cX0_reckonDoor 10 = .ok (.if_icmp .ne 7, 3) := by decide +kernel
theorem dX0_reckonDoor_13 : decode cX0_reckonDoor 13 = .ok (.iconst 1, 1) := by decide +kernel
theorem dX0_reckonDoor_14 : decode cX0_reckonDoor 14 = .ok (.goto 4, 3) := by decide +kernel
theorem dX0_reckonDoor_17 : decode cX0_reckonDoor 17 = .ok (.iconst 0, 1) := by decide +kernel
theorem dX0_reckonDoor_18 : decode cX0_reckonDoor 18 = .ok (.istore_n 3, 1) := by decide +kernel
theorem dX0_reckonDoor_19 : decode cX0_reckonDoor 19 = .ok (.iconst 0, 1) := by decide +kernel
theorem dX0_reckonDoor_20 : decode cX0_reckonDoor 20 = .ok (.istore 4, 2) := by decide +kernel
theorem dX0_reckonDoor_22 : decode cX0_reckonDoor 22 = .ok (.iload 4, 2) := by decide +kernel
theorem dX0_reckonDoor_24 : decode cX0_reckonDoor 24 = .ok (.aload_n 0, 1) := by decide +kernel
theorem dX0_reckonDoor_25 : decode cX0_reckonDoor 25 = .ok (.getfield 24, 3) := by decide +kernel
theorem dX0_reckonDoor_28 : decode cX0_reckonDoor 28 = .ok (.iload_n 2, 1) := by decide +kernel
theorem dX0_reckonDoor_29 : decode cX0_reckonDoor 29 = .ok (.invokevirtual 60, 3) := by decide +kernel
theorem dX0_reckonDoor_32 : decode cX0_reckonDoor 32 = .ok (.if_icmp .ge 54, 3) := by decide +kernel
theorem dX0_reckonDoor_35 : decode cX0_reckonDoor 35 = .ok (.iload_n 3, 1) := by decide +kernel
theorem dX0_reckonDoor_36 : decode cX0_reckonDoor 36 = .ok (.ifCond .eq 12, 3) := by decide +kernel
theorem dX0_reckonDoor_39 : decode cX0_reckonDoor 39 = .ok (.aload_n 0, 1) := by decide +kernel
theorem dX0_reckonDoor_40 : decode cX0_reckonDoor 40 = .ok (.getfield 18, 3) := by decide +kernel
theorem dX0_reckonDoor_43 : decode cX0_reckonDoor 43 = .ok (.iload_n 1, 1) := by decide +kernel
theorem dX0_reckonDoor_44 : decode cX0_reckonDoor 44 = .ok (.iaload, 1) := by decide +kernel
theorem dX0_reckonDoor_45 : decode cX0_reckonDoor 45 = .ok (.goto 11, 3) := by decide +kernel
theorem dX0_reckonDoor_48 : decode cX0_reckonDoor 48 = .ok (.aload_n 0, 1) := by decide +kernel
theorem dX0_reckonDoor_49 : decode cX0_reckonDoor 49 = .ok (.iload_n 1, 1) := by decide +kernel
theorem dX0_reckonDoor_50 : decode cX0_reckonDoor 50 = .ok (.iload_n 2, 1) := by decide +kernel
theorem dX0_reckonDoor_51 : decode cX0_reckonDoor 51 = .ok (.iload 4, 2) := by decide +kernel
theorem dX0_reckonDoor_53 : decode cX0_reckonDoor 53 = .ok (.invokevirtual 63, 3) := by decide +kernel
theorem dX0_reckonDoor_56 : decode cX0_reckonDoor 56 = .ok (.istore 5, 2) := by decide +kernel
theorem dX0_reckonDoor_58 : decode cX0_reckonDoor 58 = .ok (.aload_n 0, 1) := by decide +kernel
theorem dX0_reckonDoor_59 : decode cX0_reckonDoor 59 = .ok (.getfield 9, 3) := by decide +kernel
theorem dX0_reckonDoor_62 : decode cX0_reckonDoor 62 = .ok (.iload_n 1, 1) := by decide +kernel
theorem dX0_reckonDoor_63 : decode cX0_reckonDoor 63 = .ok (.iload_n 2, 1) := by decide +kernel
theorem dX0_reckonDoor_64 : decode cX0_reckonDoor 64 = .ok (.iload 4, 2) := by decide +kernel
theorem dX0_reckonDoor_66 : decode cX0_reckonDoor 66 = .ok (.invokestatic 67, 3) := by decide +kernel
theorem dX0_reckonDoor_69 : decode cX0_reckonDoor 69 = .ok (.aload_n 0, 1) := by decide +kernel
theorem dX0_reckonDoor_70 : decode cX0_reckonDoor 70 = .ok (.getfield 24, 3) := by decide +kernel
theorem dX0_reckonDoor_73 : decode cX0_reckonDoor 73 = .ok (.invokevirtual 70, 3) := by decide +kernel
theorem dX0_reckonDoor_76 : decode cX0_reckonDoor 76 = .ok (.iload 5, 2) := by decide +kernel
theorem dX0_reckonDoor_78 : decode cX0_reckonDoor 78 = .ok (.iadd, 1) := by decide +kernel
theorem dX0_reckonDoor_79 : decode cX0_reckonDoor 79 = .ok (.iastore, 1) := by decide +kernel
theorem dX0_reckonDoor_80 : decode cX0_reckonDoor 80 = .ok (.iinc 4 1, 3) := by decide +kernel
theorem dX0_reckonDoor_83 : decode cX0_reckonDoor 83 = .ok (.goto (-61), 3) := by decide +kernel
theorem dX0_reckonDoor_86 : decode cX0_reckonDoor 86 = .ok (.return_, 1) := by decide +kernel
set_option maxHeartbeats 4000000 in
set_option maxRecDepth 100000 in
theorem x_reckonDoor (l : Launch) (D : va_G) (k : Nat → ClassId) (st : Nat → Nat) (lo : Nat) (h0 : Nat) (h1 : Nat) (h2 : Nat) (h3 : Nat) (h4 : Nat) (n : Nat) (see : Nat) (tm : Nat) (g : Nat → Int32) (ff : Nat → Int32) (fp : Nat → Int32) (fl : Nat → Int32) (w0 : Nat) (w1 : Nat) (w2 : Nat) (w3 : Nat) (w4 : Nat) (on : Nat → Int32) (en : Nat → Int32) (rn : Nat) (i : Nat) (hn : n ≤ 24) (hsee : see ≤ 2) (hrn : rn ≤ 3) (hi : i < n) : CWv l D k st lo yX0_reckonDoor cX0_reckonDoor 6 none ({ frames := 4, cells := 0, slots := 0, locals := 111 }) 0 0 [.ref w0, .int (nI rn), .int (nI i)] [(h0, .inr (5, [.ref h1, .ref h2, .ref h3, .ref h4])), (h1, .inl (k 1, 10, .inl (vv n see tm g))), (h2, .inl (k 1, 24, .inl ff)), (h3, .inl (k 1, 24, .inl fp)), (h4, .inl (k 1, 4, .inl fl)), (w0, .inr (0, [.ref h0, .ref w1, .ref w2, .ref w3, .ref w4])), (w1, .inl (k 1, 768, .inl on)), (w3, .inl (k 1, 4, .inl en))] (fun (on_ : (Nat → Int32)) => True) (fun (on_ : (Nat → Int32)) => [(h0, .inr (5, [.ref h1, .ref h2, .ref h3, .ref h4])), (h1, .inl (k 1, 10, .inl (vv n see tm g))), (h2, .inl (k 1, 24, .inl ff)), (h3, .inl (k 1, 24, .inl fp)), (h4, .inl (k 1, 4, .inl fl)), (w0, .inr (0, [.ref h0, .ref w1, .ref w2, .ref w3, .ref w4])), (w1, .inl (k 1, 768, .inl on_)), (w3, .inl (k 1, 4, .inl en))]) := by
  intro sz
  refine Met.ofW (cc := cX0_reckonDoor) (maxL := 6) (ret := none) (by decide) rfl ?_
  intro p e s m args below meth c s₁ B hml hv
  obtain ⟨rfl, hsz, hlo, hP, hK, hDL, hZ⟩ := hv
  have hx := B.exec
  have hb := B.bytes
  have hr := B.returns
  have hts := WS_ts B.pre
  have hown : s.vm.findClass RX0 = some m.cls := findClass_of_methodNamed B.named
  have hlocks := B.notSynchronized
  subst hsz
  have hD := hDL.self (sz := s.heap.size)
  have hAlo := A_lo hDL hlo
  generalize hAe : va_A [(h0, .inr (5, [.ref h1, .ref h2, .ref h3, .ref h4])), (h1, .inl (k 1, 10, .inl (vv n see tm g))), (h2, .inl (k 1, 24, .inl ff)), (h3, .inl (k 1, 24, .inl fp)), (h4, .inl (k 1, 4, .inl fl)), (w0, .inr (0, [.ref h0, .ref w1, .ref w2, .ref w3, .ref w4])), (w1, .inl (k 1, 768, .inl on)), (w3, .inl (k 1, 4, .inl en))] s.heap.size = A at hD hAlo ⊢
  have hA : ∀ q : Nat, s.heap.size ≤ q → A q := fun q h => by rw [← hAe]; exact Or.inr h
  have hS : va_S A s.heap s.heap [] := va_S.rf
  have hl := lv_entry ([.ref w0, .int (nI rn), .int (nI i)]) (n := 6) (Nat.le_of_ble_eq_true rfl)
  rw [lg_entry_eq]
  generalize (lg_sl ([.ref w0, .int (nI rn), .int (nI i)]) ++ List.replicate (6 - (lg_sl ([.ref w0, .int (nI rn), .int (nI i)])).length) Slot.unset).toArray = ls at hl ⊢
  have hl : lv_has ls 6 [(0, .ref w0), (1, .int (nI rn)), (2, .int (nI i))] := hl
  refine lv_iload_n hx hb dX0_reckonDoor_0 rfl (lv_at hl 2 rfl) ?_
  refine lv_aload_n hx hb dX0_reckonDoor_1 rfl (lv_at hl 0 rfl) ?_
  refine va_get (D := D) (ci := 0) (v := .ref h0) (C := RX0) (T := TX0) (N := 5) hx hb hts inX0 hown hK hP 5 rfl rfl 0 (by decide) (hts _ tw_266) (fun _ h9 => h9) rfl dX0_reckonDoor_2 ?_
  refine ro_i (D := D) (va_runV (As := []) (rest := [.int (nI i)]) ⟨hx, hb, hml, hown, hts⟩ ((x_doors l D k st lo h0 h1 h2 h3 h4 n see tm g) s.heap.size) (cwV 0 hts (gV tw_531 tw_478 tw_479 tw_81 tw_480) rfl rfl rfl (by decide +kernel) ⟨Nat.le_of_ble_eq_true rfl, Nat.le_of_ble_eq_true rfl⟩) (pV hS hAlo hlo hP hK (va_Dlo hD hAlo) hZ [0, 1] (by decide) rfl (ci := 5) (q0 := 0) rfl rfl) rfl rfl hl.1 rfl (lv_room (Nat.le_of_ble_eq_true rfl)) dX0_reckonDoor_5 ⟨Nat.le_of_ble_eq_true rfl, Nat.le_of_ble_eq_true rfl⟩) hS hA hP (fun r_1 H locs hw_1 hP hS => ?_)
  try dsimp only at hw_1
  subst hw_1
  refine lv_iconst (v := 1) hx hb dX0_reckonDoor_8 (by decide) ?_
  refine lv_isub hx hb dX0_reckonDoor_9 ?_
  refine lv_ti (y := (nI (n - 1))) (pk_sub (a := n) (b := 1) (by omega)) ?_
  refine lv_icmp_ne (tgt := 17) hx hb dX0_reckonDoor_10 (by decide) (fun c_2 => ?_) (fun c_2 => ?_)
  · have c_2 : ¬ (i = (n - 1)) := fun h => c_2 ((nI_eq (a := i) (b := (n - 1)) (by omega) (by omega)).mpr h)
    refine lv_iconst (v := 0) hx hb dX0_reckonDoor_17 (by decide) ?_
    refine lv_istore_n (lv' := [(3, .int 0), (0, .ref w0), (1, .int (nI rn)), (2, .int (nI i))]) hx hb dX0_reckonDoor_18 rfl hl (by decide) rfl (fun ls hl => ?_)
    refine lv_iconst (v := 0) hx hb dX0_reckonDoor_19 (by decide) ?_
    refine lv_istore (lv' := [(4, .int 0), (3, .int 0), (0, .ref w0), (1, .int (nI rn)), (2, .int (nI i))]) hx hb dX0_reckonDoor_20 hl (by decide) rfl (fun ls hl => ?_)
    refine W_loop (σ := Nat × (Nat → Int32)) (fun (n_ : Nat) (x_ : Nat × (Nat → Int32)) (H : Heap) (locs : List Loc) (ls : Array Slot) => match x_ with | (g2_3, on2_3) => n_ = 8 - g2_3 ∧ (g2_3 ≤ 8) ∧ va_P D classes [(h0, .inr (5, [.ref h1, .ref h2, .ref h3, .ref h4])), (h1, .inl (k 1, 10, .inl (vv n see tm g))), (h2, .inl (k 1, 24, .inl ff)), (h3, .inl (k 1, 24, .inl fp)), (h4, .inl (k 1, 4, .inl fl)), (w0, .inr (0, [.ref h0, .ref w1, .ref w2, .ref w3, .ref w4])), (w1, .inl (k 1, 768, .inl on2_3)), (w3, .inl (k 1, 4, .inl en))] H ∧ va_D A [(h0, .inr (5, [.ref h1, .ref h2, .ref h3, .ref h4])), (h1, .inl (k 1, 10, .inl (vv n see tm g))), (h2, .inl (k 1, 24, .inl ff)), (h3, .inl (k 1, 24, .inl fp)), (h4, .inl (k 1, 4, .inl fl)), (w0, .inr (0, [.ref h0, .ref w1, .ref w2, .ref w3, .ref w4])), (w1, .inl (k 1, 768, .inl on2_3)), (w3, .inl (k 1, 4, .inl en))] ∧ va_S A s.heap H locs ∧ lv_has ls 6 [(4, .int (nI g2_3)), (3, .int 0), (0, .ref w0), (1, .int (nI rn)), (2, .int (nI i))]) (fun n_3 x_3 H locs ls hI ih_3 => ?_) _ (0, on) ⟨rfl, (by omega), hP, hD, hS, (lv_sub hl [0, 1, 2, 3, 4] rfl)⟩
    obtain ⟨g2_3, on2_3⟩ := x_3
    obtain ⟨hm_3, hv_3, hP, hD, hS, hl⟩ := hI
    subst hm_3
    refine lv_iload hx hb dX0_reckonDoor_22 (lv_at hl 0 rfl) ?_
    refine lv_aload_n hx hb dX0_reckonDoor_24 rfl (lv_at hl 2 rfl) ?_
    refine va_get (D := D) (ci := 0) (v := .ref h0) (C := RX0) (T := TX0) (N := 5) hx hb hts inX0 hown hK hP 5 rfl rfl 0 (by decide) (hts _ tw_266) (fun _ h9 => h9) rfl dX0_reckonDoor_25 ?_
    refine lv_iload_n hx hb dX0_reckonDoor_28 rfl (lv_at hl 4 rfl) ?_
    refine ro_i (D := D) (va_runV (As := [.int (nI i)]) (rest := [.int (nI g2_3)]) ⟨hx, hb, hml, hown, hts⟩ ((x_sightsAt l D k st lo h0 h1 h2 h3 h4 n see tm g i (by omega) (by omega) (by omega)) H.size) (cwV 1 hts (gV tw_536 tw_537 tw_538 tw_81 tw_539) rfl rfl rfl (by decide +kernel) ⟨Nat.le_of_ble_eq_true rfl, Nat.le_of_ble_eq_true rfl⟩) (pV hS hAlo hlo hP hK (va_Dlo hD hAlo) hZ [0, 1] (by decide) rfl (ci := 5) (q0 := 0) rfl rfl) rfl rfl hl.1 rfl (lv_room (Nat.le_of_ble_eq_true rfl)) dX0_reckonDoor_29 ⟨Nat.le_of_ble_eq_true rfl, Nat.le_of_ble_eq_true rfl⟩) hS hA hP (fun r_4 H locs hw_4 hP hS => ?_)
    try dsimp only at hw_4
    obtain ⟨zs_5, rfl, hza_5, hzb_5, hzq_5⟩ := hw_4
    refine lv_icmp_ge (tgt := 86) hx hb dX0_reckonDoor_32 (by decide) (fun c_6 => ?_) (fun c_6 => ?_)
    · have c_6 := (nI_leI (a := zs_5) (b := g2_3) (by omega) (by omega)).mp c_6
      have hP9 := hP.sub (ws' := [(h0, .inr (5, [.ref h1, .ref h2, .ref h3, .ref h4])), (h1, .inl (k 1, 10, .inl (vv n see tm g))), (h2, .inl (k 1, 24, .inl ff)), (h3, .inl (k 1, 24, .inl fp)), (h4, .inl (k 1, 4, .inl fl)), (w0, .inr (0, [.ref h0, .ref w1, .ref w2, .ref w3, .ref w4])), (w1, .inl (k 1, 768, .inl on2_3)), (w3, .inl (k 1, 4, .inl en))]) [0, 1, 2, 3, 4, 5, 6, 7] rfl
      have hD9 := hD.sub (ws' := [(h0, .inr (5, [.ref h1, .ref h2, .ref h3, .ref h4])), (h1, .inl (k 1, 10, .inl (vv n see tm g))), (h2, .inl (k 1, 24, .inl ff)), (h3, .inl (k 1, 24, .inl fp)), (h4, .inl (k 1, 4, .inl fl)), (w0, .inr (0, [.ref h0, .ref w1, .ref w2, .ref w3, .ref w4])), (w1, .inl (k 1, 768, .inl on2_3)), (w3, .inl (k 1, 4, .inl en))]) [0, 1, 2, 3, 4, 5, 6, 7] (by decide) rfl
      exact W.vret hx hb hr (fun t ht hW => ⟨⟨on2_3, rfl, trivial, by rw [ht]; exact hP9, hD9⟩, hS.F ht⟩) hS.2.2 dX0_reckonDoor_86
    · have c_6 : ¬ (zs_5 ≤ g2_3) := fun h => c_6 ((nI_leI (a := zs_5) (b := g2_3) (by omega) (by omega)).mpr h)
      refine lv_iload_n hx hb dX0_reckonDoor_35 rfl (lv_at hl 1 rfl) ?_
      refine lv_if_eq (tgt := 48) hx hb dX0_reckonDoor_36 (by decide) (fun _ => ?_) (fun h => absurd (by decide) h)
      refine lv_aload_n hx hb dX0_reckonDoor_48 rfl (lv_at hl 2 rfl) ?_
      refine lv_iload_n hx hb dX0_reckonDoor_49 rfl (lv_at hl 3 rfl) ?_
      refine lv_iload_n hx hb dX0_reckonDoor_50 rfl (lv_at hl 4 rfl) ?_
      refine lv_iload hx hb dX0_reckonDoor_51 (lv_at hl 0 rfl) ?_
      refine ro_i (D := D) (va_runV (As := [.int (nI rn), .int (nI i), .int (nI g2_3)]) (rest := []) ⟨hx, hb, hml, hown, hts⟩ ((x_reckonNext l D k st lo h0 h1 h2 h3 h4 n see tm g ff fp fl w0 w1 w2 w3 w4 on2_3 rn i g2_3 (by omega) (by omega) (by omega) (by omega) (by omega)) H.size) (cwV 3 hts (gV tw_541 tw_543 tw_6 tw_85 tw_544) rfl rfl rfl (by decide +kernel) ⟨Nat.le_of_ble_eq_true rfl, Nat.le_of_ble_eq_true rfl⟩) (pV hS hAlo hlo hP hK (va_Dlo hD hAlo) hZ [0, 1, 2, 3, 4, 5, 6] (by decide) rfl (ci := 0) (q0 := 5) rfl rfl) rfl rfl hl.1 rfl (lv_room (Nat.le_of_ble_eq_true rfl)) dX0_reckonDoor_53 ⟨Nat.le_of_ble_eq_true rfl, Nat.le_of_ble_eq_true rfl⟩) hS hA hP (fun r_7 H locs hw_7 hP hS => ?_)
      try dsimp only at hw_7
      refine lv_istore (lv' := [(5, .int r_7), (4, .int (nI g2_3)), (3, .int 0), (0, .ref w0), (1, .int (nI rn)), (2, .int (nI i))]) hx hb dX0_reckonDoor_56 hl (by decide) rfl (fun ls hl => ?_)
      refine lv_aload_n hx hb dX0_reckonDoor_58 rfl (lv_at hl 3 rfl) ?_
      refine va_get (D := D) (ci := 0) (v := .ref w1) (C := RX0) (T := TX0) (N := 5) hx hb hts inX0 hown hK hP 5 rfl rfl 1 (by decide) (hts _ tw_267) (fun _ h9 => h9) rfl dX0_reckonDoor_59 ?_
      refine lv_iload_n hx hb dX0_reckonDoor_62 rfl (lv_at hl 4 rfl) ?_
      refine lv_iload_n hx hb dX0_reckonDoor_63 rfl (lv_at hl 5 rfl) ?_
      refine lv_iload hx hb dX0_reckonDoor_64 (lv_at hl 1 rfl) ?_
      refine ro_i (D := D) (va_runS (As := [.int (nI rn), .int (nI i), .int (nI g2_3)]) (rest := [.ref w1]) ⟨hx, hb, hml, hown, hts⟩ ((x_slot l D k st lo rn i g2_3) H.size) (va_cwS 3 hts (gS tw_553 tw_554 tw_85 tw_555) rfl rfl rfl (by decide +kernel) ⟨Nat.le_of_ble_eq_true rfl, Nat.le_of_ble_eq_true rfl⟩) (pS hS hAlo hlo hP hK (va_Dlo hD hAlo) hZ [] (by decide) rfl) rfl rfl hl.1 rfl (lv_room (Nat.le_of_ble_eq_true rfl)) dX0_reckonDoor_66 ⟨Nat.le_of_ble_eq_true rfl, Nat.le_of_ble_eq_true rfl⟩) hS hA hP (fun r_8 H locs hw_8 hP hS => ?_)
      try dsimp only at hw_8
      subst hw_8
      refine lv_aload_n hx hb dX0_reckonDoor_69 rfl (lv_at hl 3 rfl) ?_
      refine va_get (D := D) (ci := 0) (v := .ref h0) (C := RX0) (T := TX0) (N := 5) hx hb hts inX0 hown hK hP 5 rfl rfl 0 (by decide) (hts _ tw_266) (fun _ h9 => h9) rfl dX0_reckonDoor_70 ?_
      refine ro_i (D := D) (va_runV (As := []) (rest := [.int (nI ((rn * 24 + i) * 8 + g2_3)), .ref w1]) ⟨hx, hb, hml, hown, hts⟩ ((x_passing l D k st lo h0 h1 h2 h3 h4 n see tm g) H.size) (cwV 0 hts (gV tw_572 tw_573 tw_574 tw_81 tw_575) rfl rfl rfl (by decide +kernel) ⟨Nat.le_of_ble_eq_true rfl, Nat.le_of_ble_eq_true rfl⟩) (pV hS hAlo hlo hP hK (va_Dlo hD hAlo) hZ [0, 1] (by decide) rfl (ci := 5) (q0 := 0) rfl rfl) rfl rfl hl.1 rfl (lv_room (Nat.le_of_ble_eq_true rfl)) dX0_reckonDoor_73 ⟨Nat.le_of_ble_eq_true rfl, Nat.le_of_ble_eq_true rfl⟩) hS hA hP (fun r_9 H locs hw_9 hP hS => ?_)
      try dsimp only at hw_9
      refine lv_iload hx hb dX0_reckonDoor_76 (lv_at hl 0 rfl) ?_
      refine lv_iadd hx hb dX0_reckonDoor_78 ?_
      refine lv_topi (fun x_10 ex_10 => ?_)
      refine va_iast hx hb hK hP hD hS 6 1 rfl rfl (vp_in_nI (by omega) (by decide)) dX0_reckonDoor_79 (fun H locs hP hD hS => ?_)
      replace hP : va_P D classes [(h0, .inr (5, [.ref h1, .ref h2, .ref h3, .ref h4])), (h1, .inl (k 1, 10, .inl (vv n see tm g))), (h2, .inl (k 1, 24, .inl ff)), (h3, .inl (k 1, 24, .inl fp)), (h4, .inl (k 1, 4, .inl fl)), (w0, .inr (0, [.ref h0, .ref w1, .ref w2, .ref w3, .ref w4])), (w1, .inl (k 1, 768, .inl (upd on2_3 (Int32.toNatClampNeg (nI ((rn * 24 + i) * 8 + g2_3))) x_10))), (w3, .inl (k 1, 4, .inl en))] H := hP
      replace hD : va_D A [(h0, .inr (5, [.ref h1, .ref h2, .ref h3, .ref h4])), (h1, .inl (k 1, 10, .inl (vv n see tm g))), (h2, .inl (k 1, 24, .inl ff)), (h3, .inl (k 1, 24, .inl fp)), (h4, .inl (k 1, 4, .inl fl)), (w0, .inr (0, [.ref h0, .ref w1, .ref w2, .ref w3, .ref w4])), (w1, .inl (k 1, 768, .inl (upd on2_3 (Int32.toNatClampNeg (nI ((rn * 24 + i) * 8 + g2_3))) x_10))), (w3, .inl (k 1, 4, .inl en))] := hD
      generalize (upd on2_3 (Int32.toNatClampNeg (nI ((rn * 24 + i) * 8 + g2_3))) x_10) = f_11 at hP hD
      refine lv_iinc (v := (nI (g2_3 + 1))) (lv' := [(4, .int (nI (g2_3 + 1))), (5, .int r_7), (3, .int 0), (0, .ref w0), (1, .int (nI rn)), (2, .int (nI i))]) hx hb dX0_reckonDoor_80 hl (k := 1) rfl (nI_add g2_3 1) (by decide) rfl (fun ls hl => ?_)
      refine lv_goto (tgt := 22) hx hb dX0_reckonDoor_83 (by decide) ?_
      exact ih_3 _ (g2_3 + 1, f_11) _ _ _ (by omega) ⟨rfl, (by omega), hP, hD, hS, (lv_sub hl [0, 2, 3, 4, 5] rfl)⟩
  · have c_2 := (nI_eq (a := i) (b := (n - 1)) (by omega) (by omega)).mp c_2
    refine lv_iconst (v := 1) hx hb dX0_reckonDoor_13 (by decide) ?_
    refine lv_goto (tgt := 18) hx hb dX0_reckonDoor_14 (by decide) ?_
    refine lv_istore_n (lv' := [(3, .int 1), (0, .ref w0), (1, .int (nI rn)), (2, .int (nI i))]) hx hb dX0_reckonDoor_18 rfl hl (by decide) rfl (fun ls hl => ?_)
    refine lv_iconst (v := 0) hx hb dX0_reckonDoor_19 (by decide) ?_
    refine lv_istore (lv' := [(4, .int 0), (3, .int 1), (0, .ref w0), (1, .int (nI rn)), (2, .int (nI i))]) hx hb dX0_reckonDoor_20 hl (by decide) rfl (fun ls hl => ?_)
    refine W_loop (σ := Nat × (Nat → Int32)) (fun (n_ : Nat) (x_ : Nat × (Nat → Int32)) (H : Heap) (locs : List Loc) (ls : Array Slot) => match x_ with | (g2_12, on2_12) => n_ = 8 - g2_12 ∧ (g2_12 ≤ 8) ∧ va_P D classes [(h0, .inr (5, [.ref h1, .ref h2, .ref h3, .ref h4])), (h1, .inl (k 1, 10, .inl (vv n see tm g))), (h2, .inl (k 1, 24, .inl ff)), (h3, .inl (k 1, 24, .inl fp)), (h4, .inl (k 1, 4, .inl fl)), (w0, .inr (0, [.ref h0, .ref w1, .ref w2, .ref w3, .ref w4])), (w1, .inl (k 1, 768, .inl on2_12)), (w3, .inl (k 1, 4, .inl en))] H ∧ va_D A [(h0, .inr (5, [.ref h1, .ref h2, .ref h3, .ref h4])), (h1, .inl (k 1, 10, .inl (vv n see tm g))), (h2, .inl (k 1, 24, .inl ff)), (h3, .inl (k 1, 24, .inl fp)), (h4, .inl (k 1, 4, .inl fl)), (w0, .inr (0, [.ref h0, .ref w1, .ref w2, .ref w3, .ref w4])), (w1, .inl (k 1, 768, .inl on2_12)), (w3, .inl (k 1, 4, .inl en))] ∧ va_S A s.heap H locs ∧ lv_has ls 6 [(4, .int (nI g2_12)), (3, .int 1), (0, .ref w0), (1, .int (nI rn)), (2, .int (nI i))]) (fun n_12 x_12 H locs ls hI ih_12 => ?_) _ (0, on) ⟨rfl, (by omega), hP, hD, hS, (lv_sub hl [0, 1, 2, 3, 4] rfl)⟩
    obtain ⟨g2_12, on2_12⟩ := x_12
    obtain ⟨hm_12, hv_12, hP, hD, hS, hl⟩ := hI
    subst hm_12
    refine lv_iload hx hb dX0_reckonDoor_22 (lv_at hl 0 rfl) ?_
    refine lv_aload_n hx hb dX0_reckonDoor_24 rfl (lv_at hl 2 rfl) ?_
    refine va_get (D := D) (ci := 0) (v := .ref h0) (C := RX0) (T := TX0) (N := 5) hx hb hts inX0 hown hK hP 5 rfl rfl 0 (by decide) (hts _ tw_266) (fun _ h9 => h9) rfl dX0_reckonDoor_25 ?_
    refine lv_iload_n hx hb dX0_reckonDoor_28 rfl (lv_at hl 4 rfl) ?_
    refine ro_i (D := D) (va_runV (As := [.int (nI i)]) (rest := [.int (nI g2_12)]) ⟨hx, hb, hml, hown, hts⟩ ((x_sightsAt l D k st lo h0 h1 h2 h3 h4 n see tm g i (by omega) (by omega) (by omega)) H.size) (cwV 1 hts (gV tw_536 tw_537 tw_538 tw_81 tw_539) rfl rfl rfl (by decide +kernel) ⟨Nat.le_of_ble_eq_true rfl, Nat.le_of_ble_eq_true rfl⟩) (pV hS hAlo hlo hP hK (va_Dlo hD hAlo) hZ [0, 1] (by decide) rfl (ci := 5) (q0 := 0) rfl rfl) rfl rfl hl.1 rfl (lv_room (Nat.le_of_ble_eq_true rfl)) dX0_reckonDoor_29 ⟨Nat.le_of_ble_eq_true rfl, Nat.le_of_ble_eq_true rfl⟩) hS hA hP (fun r_13 H locs hw_13 hP hS => ?_)
    try dsimp only at hw_13
    obtain ⟨zs_14, rfl, hza_14, hzb_14, hzq_14⟩ := hw_13
    refine lv_icmp_ge (tgt := 86) hx hb dX0_reckonDoor_32 (by decide) (fun c_15 => ?_) (fun c_15 => ?_)
    · have c_15 := (nI_leI (a := zs_14) (b := g2_12) (by omega) (by omega)).mp c_15
      have hP9 := hP.sub (ws' := [(h0, .inr (5, [.ref h1, .ref h2, .ref h3, .ref h4])), (h1, .inl (k 1, 10, .inl (vv n see tm g))), (h2, .inl (k 1, 24, .inl ff)), (h3, .inl (k 1, 24, .inl fp)), (h4, .inl (k 1, 4, .inl fl)), (w0, .inr (0, [.ref h0, .ref w1, .ref w2, .ref w3, .ref w4])), (w1, .inl (k 1, 768, .inl on2_12)), (w3, .inl (k 1, 4, .inl en))]) [0, 1, 2, 3, 4, 5, 6, 7] rfl
      have hD9 := hD.sub (ws' := [(h0, .inr (5, [.ref h1, .ref h2, .ref h3, .ref h4])), (h1, .inl (k 1, 10, .inl (vv n see tm g))), (h2, .inl (k 1, 24, .inl ff)), (h3, .inl (k 1, 24, .inl fp)), (h4, .inl (k 1, 4, .inl fl)), (w0, .inr (0, [.ref h0, .ref w1, .ref w2, .ref w3, .ref w4])), (w1, .inl (k 1, 768, .inl on2_12)), (w3, .inl (k 1, 4, .inl en))]) [0, 1, 2, 3, 4, 5, 6, 7] (by decide) rfl
      exact W.vret hx hb hr (fun t ht hW => ⟨⟨on2_12, rfl, trivial, by rw [ht]; exact hP9, hD9⟩, hS.F ht⟩) hS.2.2 dX0_reckonDoor_86
    · have c_15 : ¬ (zs_14 ≤ g2_12) := fun h => c_15 ((nI_leI (a := zs_14) (b := g2_12) (by omega) (by omega)).mpr h)
      refine lv_iload_n hx hb dX0_reckonDoor_35 rfl (lv_at hl 1 rfl) ?_
      refine lv_if_eq (tgt := 48) hx hb dX0_reckonDoor_36 (by decide) (fun h => absurd h (by decide)) (fun _ => ?_)
      refine lv_aload_n hx hb dX0_reckonDoor_39 rfl (lv_at hl 2 rfl) ?_
      refine va_get (D := D) (ci := 0) (v := .ref w3) (C := RX0) (T := TX0) (N := 5) hx hb hts inX0 hown hK hP 5 rfl rfl 3 (by decide) (hts _ tw_270) (fun _ h9 => h9) rfl dX0_reckonDoor_40 ?_
      refine lv_iload_n hx hb dX0_reckonDoor_43 rfl (lv_at hl 3 rfl) ?_
      refine va_iald hx hb hK hP 7 1 rfl rfl (vp_in_nI (by omega) (by decide)) dX0_reckonDoor_44 ?_
      refine lv_ti (y := (en rn)) (by rw [nI_clamp (by omega)]) ?_
      refine lv_goto (tgt := 56) hx hb dX0_reckonDoor_45 (by decide) ?_
      refine lv_istore (lv' := [(5, .int (en rn)), (4, .int (nI g2_12)), (3, .int 1), (0, .ref w0), (1, .int (nI rn)), (2, .int (nI i))]) hx hb dX0_reckonDoor_56 hl (by decide) rfl (fun ls hl => ?_)
      refine lv_aload_n hx hb dX0_reckonDoor_58 rfl (lv_at hl 3 rfl) ?_
      refine va_get (D := D) (ci := 0) (v := .ref w1) (C := RX0) (T := TX0) (N := 5) hx hb hts inX0 hown hK hP 5 rfl rfl 1 (by decide) (hts _ tw_267) (fun _ h9 => h9) rfl dX0_reckonDoor_59 ?_
      refine lv_iload_n hx hb dX0_reckonDoor_62 rfl (lv_at hl 4 rfl) ?_
      refine lv_iload_n hx hb dX0_reckonDoor_63 rfl (lv_at hl 5 rfl) ?_
      refine lv_iload hx hb dX0_reckonDoor_64 (lv_at hl 1 rfl) ?_
      refine ro_i (D := D) (va_runS (As := [.int (nI rn), .int (nI i), .int (nI g2_12)]) (rest := [.ref w1]) ⟨hx, hb, hml, hown, hts⟩ ((x_slot l D k st lo rn i g2_12) H.size) (va_cwS 3 hts (gS tw_553 tw_554 tw_85 tw_555) rfl rfl rfl (by decide +kernel) ⟨Nat.le_of_ble_eq_true rfl, Nat.le_of_ble_eq_true rfl⟩) (pS hS hAlo hlo hP hK (va_Dlo hD hAlo) hZ [] (by decide) rfl) rfl rfl hl.1 rfl (lv_room (Nat.le_of_ble_eq_true rfl)) dX0_reckonDoor_66 ⟨Nat.le_of_ble_eq_true rfl, Nat.le_of_ble_eq_true rfl⟩) hS hA hP (fun r_16 H locs hw_16 hP hS => ?_)
      try dsimp only at hw_16
      subst hw_16
      refine lv_aload_n hx hb dX0_reckonDoor_69 rfl (lv_at hl 3 rfl) ?_
      refine va_get (D := D) (ci := 0) (v := .ref h0) (C := RX0) (T := TX0) (N := 5) hx hb hts inX0 hown hK hP 5 rfl rfl 0 (by decide) (hts _ tw_266) (fun _ h9 => h9) rfl dX0_reckonDoor_70 ?_
      refine ro_i (D := D) (va_runV (As := []) (rest := [.int (nI ((rn * 24 + i) * 8 + g2_12)), .ref w1]) ⟨hx, hb, hml, hown, hts⟩ ((x_passing l D k st lo h0 h1 h2 h3 h4 n see tm g) H.size) (cwV 0 hts (gV tw_572 tw_573 tw_574 tw_81 tw_575) rfl rfl rfl (by decide +kernel) ⟨Nat.le_of_ble_eq_true rfl, Nat.le_of_ble_eq_true rfl⟩) (pV hS hAlo hlo hP hK (va_Dlo hD hAlo) hZ [0, 1] (by decide) rfl (ci := 5) (q0 := 0) rfl rfl) rfl rfl hl.1 rfl (lv_room (Nat.le_of_ble_eq_true rfl)) dX0_reckonDoor_73 ⟨Nat.le_of_ble_eq_true rfl, Nat.le_of_ble_eq_true rfl⟩) hS hA hP (fun r_17 H locs hw_17 hP hS => ?_)
      try dsimp only at hw_17
      refine lv_iload hx hb dX0_reckonDoor_76 (lv_at hl 0 rfl) ?_
      refine lv_iadd hx hb dX0_reckonDoor_78 ?_
      refine lv_topi (fun x_18 ex_18 => ?_)
      refine va_iast hx hb hK hP hD hS 6 1 rfl rfl (vp_in_nI (by omega) (by decide)) dX0_reckonDoor_79 (fun H locs hP hD hS => ?_)
      replace hP : va_P D classes [(h0, .inr (5, [.ref h1, .ref h2, .ref h3, .ref h4])), (h1, .inl (k 1, 10, .inl (vv n see tm g))), (h2, .inl (k 1, 24, .inl ff)), (h3, .inl (k 1, 24, .inl fp)), (h4, .inl (k 1, 4, .inl fl)), (w0, .inr (0, [.ref h0, .ref w1, .ref w2, .ref w3, .ref w4])), (w1, .inl (k 1, 768, .inl (upd on2_12 (Int32.toNatClampNeg (nI ((rn * 24 + i) * 8 + g2_12))) x_18))), (w3, .inl (k 1, 4, .inl en))] H := hP
      replace hD : va_D A [(h0, .inr (5, [.ref h1, .ref h2, .ref h3, .ref h4])), (h1, .inl (k 1, 10, .inl (vv n see tm g))), (h2, .inl (k 1, 24, .inl ff)), (h3, .inl (k 1, 24, .inl fp)), (h4, .inl (k 1, 4, .inl fl)), (w0, .inr (0, [.ref h0, .ref w1, .ref w2, .ref w3, .ref w4])), (w1, .inl (k 1, 768, .inl (upd on2_12 (Int32.toNatClampNeg (nI ((rn * 24 + i) * 8 + g2_12))) x_18))), (w3, .inl (k 1, 4, .inl en))] := hD
      generalize (upd on2_12 (Int32.toNatClampNeg (nI ((rn * 24 + i) * 8 + g2_12))) x_18) = f_19 at hP hD
      refine lv_iinc (v := (nI (g2_12 + 1))) (lv' := [(4, .int (nI (g2_12 + 1))), (5, .int (en rn)), (3, .int 1), (0, .ref w0), (1, .int (nI rn)), (2, .int (nI i))]) hx hb dX0_reckonDoor_80 hl (k := 1) rfl (nI_add g2_12 1) (by decide) rfl (fun ls hl => ?_)
      refine lv_goto (tgt := 22) hx hb dX0_reckonDoor_83 (by decide) ?_
      exact ih_12 _ (g2_12 + 1, f_19) _ _ _ (by omega) ⟨rfl, (by omega), hP, hD, hS, (lv_sub hl [0, 2, 3, 4, 5] rfl)⟩


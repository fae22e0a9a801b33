set_option maxHeartbeats 4000000 in
set_option maxRecDepth 100000 in
theorem y_become (l : Launch) (D : va_G) (k : Nat → ClassId) (st : Nat → Nat) (lo : Nat) (h0 : Nat) (h1 : Nat) (h2 : Nat) (h3 : Nat) (h4 : Nat) (n : Nat) (see : Nat) (tm : Nat) (g : Nat → Int32) (ff : Nat → Int32) (fp : Nat → Int32) (fl : Nat → Int32) (d0 : Nat) (d1 : Nat) (d2 : Nat) (d3 : Nat) (d4 : Nat) (nq : Nat) (seeq : Nat) (tmq : Nat) (gq : Nat → Int32) (ffq : Nat → Int32) (fpq : Nat → Int32) (flq : Nat → Int32) (hn : nq ≤ 24) : CWv l D k st lo yX5_become cX5_become 3 none ({ frames := 1, cells := 0, slots := 0, locals := 60 }) 0 0 [.ref h0, .ref d0] [(h0, .inr (5, (fX5 h1 h2 h3 h4))), (aI k h1 10 (vv n see tm g)), (aI k h2 24 ff), (aI k h3 24 fp), (aI k h4 4 fl), (d0, .inr (5, (fX5 d1 d2 d3 d4))), (aI k d1 10 (vv nq seeq tmq gq)), (aI k d2 24 ffq), (aI k d3 24 fpq), (aI k d4 4 flq)] (fun (u : Nat × Nat × Nat × (Nat → Int32) × (Nat → Int32) × (Nat → Int32) × (Nat → Int32)) => match u with | (n_, see_, tm_, g_, ff_, fp_, fl_) => n_ = nq ∧ see_ = seeq ∧ tm_ = tmq ∧ sdX nq seeq tmq g_ ff_ fp_ = sdX nq seeq tmq gq ffq fpq) (fun (u : Nat × Nat × Nat × (Nat → Int32) × (Nat → Int32) × (Nat → Int32) × (Nat → Int32)) => match u with | (n_, see_, tm_, g_, ff_, fp_, fl_) => [(h0, .inr (5, (fX5 h1 h2 h3 h4))), (aI k h1 10 (vv n_ see_ tm_ g_)), (aI k h2 24 ff_), (aI k h3 24 fp_), (aI k h4 4 fl_), (d0, .inr (5, (fX5 d1 d2 d3 d4))), (aI k d1 10 (vv nq seeq tmq gq)), (aI k d2 24 ffq), (aI k d3 24 fpq), (aI k d4 4 flq)]) := by
  intro sz
  refine Met.ofW (cc := cX5_become) (maxL := 3) (ret := none) (by decide) rfl ?_
  intro p e s m args below meth c s₁ B hml hv
  obtain ⟨rfl, hsz, hlo, hP, hK, hDL, hZ⟩ := hv
  have hx := B.exec
  have hb := B.bytes
  have hr := B.returns
  have hts := WS_ts B.pre
  have hown : s.vm.findClass RX5 = some m.cls := findClass_of_methodNamed B.named
  have hlocks := B.notSynchronized
  subst hsz
  have hD := hDL.self (sz := s.heap.size)
  have hAlo := A_lo hDL hlo
  generalize hAe : va_A [(h0, .inr (5, (fX5 h1 h2 h3 h4))), (aI k h1 10 (vv n see tm g)), (aI k h2 24 ff), (aI k h3 24 fp), (aI k h4 4 fl), (d0, .inr (5, (fX5 d1 d2 d3 d4))), (aI k d1 10 (vv nq seeq tmq gq)), (aI k d2 24 ffq), (aI k d3 24 fpq), (aI k d4 4 flq)] s.heap.size = A at hD hAlo ⊢
  have hA : ∀ q : Nat, s.heap.size ≤ q → A q := fun q h => by rw [← hAe]; exact Or.inr h
  have hS : va_S A s.heap s.heap [] := va_S.rf
  have hl := lv_entry ([.ref h0, .ref d0]) (n := 3) (Nat.le_of_ble_eq_true rfl)
  rw [lg_entry_eq]
  generalize (lg_sl ([.ref h0, .ref d0]) ++ List.replicate (3 - (lg_sl ([.ref h0, .ref d0])).length) Slot.unset).toArray = ls at hl ⊢
  have hl : lv_has ls 3 [(0, .ref h0), (1, .ref d0)] := hl
  refine lv_aload_n hx hb dX5_become_0 rfl (lv_at hl 1 rfl) ?_
  refine va_get (D := D) (ci := 5) (v := .ref d1) (C := RX5) (T := TX5) (N := 4) hx hb hts inX5 hown hK hP 5 rfl rfl 0 (by decide) (hts _ tw_146) (fun _ h9 => h9) rfl dX5_become_1 ?_
  refine lv_iconst (v := 0) hx hb dX5_become_4 (by decide) ?_
  refine lv_aload_n hx hb dX5_become_5 rfl (lv_at hl 0 rfl) ?_
  refine va_get (D := D) (ci := 5) (v := .ref h1) (C := RX5) (T := TX5) (N := 4) hx hb hts inX5 hown hK hP 0 rfl rfl 0 (by decide) (hts _ tw_146) (fun _ h9 => h9) rfl dX5_become_6 ?_
  refine lv_iconst (v := 0) hx hb dX5_become_9 (by decide) ?_
  refine lv_bipush (v := 10) hx hb dX5_become_10 (by decide) ?_
  refine va_copyi hx hb (by rw [hml]; exact hl.1.symm) hown (hts _ tw_364) (hts _ tw_366) (hts _ tw_365) (hts _ tw_88) hK hP hD hS 6 1 1 1 rfl rfl rfl rfl rfl (by decide) (by decide) (by decide) (by decide) (by decide) (fun _ _ => rfl) (Nat.le_of_ble_eq_true rfl) (Nat.le_of_ble_eq_true rfl) dX5_become_12 (fun H locs hP hD hS => ?_)
  replace hP : va_P D classes [(h0, .inr (5, (fX5 h1 h2 h3 h4))), (aI k h1 10 (va_cpy (vv nq seeq tmq gq) (vv n see tm g) 0 0 10)), (aI k h2 24 ff), (aI k h3 24 fp), (aI k h4 4 fl), (d0, .inr (5, (fX5 d1 d2 d3 d4))), (aI k d1 10 (vv nq seeq tmq gq)), (aI k d2 24 ffq), (aI k d3 24 fpq), (aI k d4 4 flq)] H := hP
  replace hD : va_D A [(h0, .inr (5, (fX5 h1 h2 h3 h4))), (aI k h1 10 (va_cpy (vv nq seeq tmq gq) (vv n see tm g) 0 0 10)), (aI k h2 24 ff), (aI k h3 24 fp), (aI k h4 4 fl), (d0, .inr (5, (fX5 d1 d2 d3 d4))), (aI k d1 10 (vv nq seeq tmq gq)), (aI k d2 24 ffq), (aI k d3 24 fpq), (aI k d4 4 flq)] := hD
  rw [show va_cpy (vv nq seeq tmq gq) (vv n see tm g) 0 0 10 = vv nq seeq tmq (va_cpy gq g 0 0 10) from vv_cpy _ _ _ _ _ _ _ _] at hP hD
  obtain ⟨gg_1, hgg_1⟩ : ∃ z : Nat → Int32, z = va_cpy gq g 0 0 10 := ⟨_, rfl⟩
  rw [← hgg_1] at hP hD
  replace hP : va_P D classes [(h0, .inr (5, (fX5 h1 h2 h3 h4))), (aI k h1 10 (vv nq seeq tmq gg_1)), (aI k h2 24 ff), (aI k h3 24 fp), (aI k h4 4 fl), (d0, .inr (5, (fX5 d1 d2 d3 d4))), (aI k d1 10 (vv nq seeq tmq gq)), (aI k d2 24 ffq), (aI k d3 24 fpq), (aI k d4 4 flq)] H := hP
  replace hD : va_D A [(h0, .inr (5, (fX5 h1 h2 h3 h4))), (aI k h1 10 (vv nq seeq tmq gg_1)), (aI k h2 24 ff), (aI k h3 24 fp), (aI k h4 4 fl), (d0, .inr (5, (fX5 d1 d2 d3 d4))), (aI k d1 10 (vv nq seeq tmq gq)), (aI k d2 24 ffq), (aI k d3 24 fpq), (aI k d4 4 flq)] := hD
  refine lv_aload_n hx hb dX5_become_15 rfl (lv_at hl 1 rfl) ?_
  refine va_get (D := D) (ci := 5) (v := .ref d2) (C := RX5) (T := TX5) (N := 4) hx hb hts inX5 hown hK hP 5 rfl rfl 1 (by decide) (hts _ tw_150) (fun _ h9 => h9) rfl dX5_become_16 ?_
  refine lv_iconst (v := 0) hx hb dX5_become_19 (by decide) ?_
  refine lv_aload_n hx hb dX5_become_20 rfl (lv_at hl 0 rfl) ?_
  refine va_get (D := D) (ci := 5) (v := .ref h2) (C := RX5) (T := TX5) (N := 4) hx hb hts inX5 hown hK hP 0 rfl rfl 1 (by decide) (hts _ tw_150) (fun _ h9 => h9) rfl dX5_become_21 ?_
  refine lv_iconst (v := 0) hx hb dX5_become_24 (by decide) ?_
  refine lv_bipush (v := 24) hx hb dX5_become_25 (by decide) ?_
  refine va_copyi hx hb (by rw [hml]; exact hl.1.symm) hown (hts _ tw_364) (hts _ tw_366) (hts _ tw_365) (hts _ tw_88) hK hP hD hS 7 2 1 1 rfl rfl rfl rfl rfl (by decide) (by decide) (by decide) (by decide) (by decide) (fun _ _ => rfl) (Nat.le_of_ble_eq_true rfl) (Nat.le_of_ble_eq_true rfl) dX5_become_27 (fun H locs hP hD hS => ?_)
  replace hP : va_P D classes [(h0, .inr (5, (fX5 h1 h2 h3 h4))), (aI k h1 10 (vv nq seeq tmq gg_1)), (aI k h2 24 (va_cpy ffq ff 0 0 24)), (aI k h3 24 fp), (aI k h4 4 fl), (d0, .inr (5, (fX5 d1 d2 d3 d4))), (aI k d1 10 (vv nq seeq tmq gq)), (aI k d2 24 ffq), (aI k d3 24 fpq), (aI k d4 4 flq)] H := hP
  replace hD : va_D A [(h0, .inr (5, (fX5 h1 h2 h3 h4))), (aI k h1 10 (vv nq seeq tmq gg_1)), (aI k h2 24 (va_cpy ffq ff 0 0 24)), (aI k h3 24 fp), (aI k h4 4 fl), (d0, .inr (5, (fX5 d1 d2 d3 d4))), (aI k d1 10 (vv nq seeq tmq gq)), (aI k d2 24 ffq), (aI k d3 24 fpq), (aI k d4 4 flq)] := hD
  refine lv_aload_n hx hb dX5_become_30 rfl (lv_at hl 1 rfl) ?_
  refine va_get (D := D) (ci := 5) (v := .ref d3) (C := RX5) (T := TX5) (N := 4) hx hb hts inX5 hown hK hP 5 rfl rfl 2 (by decide) (hts _ tw_152) (fun _ h9 => h9) rfl dX5_become_31 ?_
  refine lv_iconst (v := 0) hx hb dX5_become_34 (by decide) ?_
  refine lv_aload_n hx hb dX5_become_35 rfl (lv_at hl 0 rfl) ?_
  refine va_get (D := D) (ci := 5) (v := .ref h3) (C := RX5) (T := TX5) (N := 4) hx hb hts inX5 hown hK hP 0 rfl rfl 2 (by decide) (hts _ tw_152) (fun _ h9 => h9) rfl dX5_become_36 ?_
  refine lv_iconst (v := 0) hx hb dX5_become_39 (by decide) ?_
  refine lv_bipush (v := 24) hx hb dX5_become_40 (by decide) ?_
  refine va_copyi hx hb (by rw [hml]; exact hl.1.symm) hown (hts _ tw_364) (hts _ tw_366) (hts _ tw_365) (hts _ tw_88) hK hP hD hS 8 3 1 1 rfl rfl rfl rfl rfl (by decide) (by decide) (by decide) (by decide) (by decide) (fun _ _ => rfl) (Nat.le_of_ble_eq_true rfl) (Nat.le_of_ble_eq_true rfl) dX5_become_42 (fun H locs hP hD hS => ?_)
  replace hP : va_P D classes [(h0, .inr (5, (fX5 h1 h2 h3 h4))), (aI k h1 10 (vv nq seeq tmq gg_1)), (aI k h2 24 (va_cpy ffq ff 0 0 24)), (aI k h3 24 (va_cpy fpq fp 0 0 24)), (aI k h4 4 fl), (d0, .inr (5, (fX5 d1 d2 d3 d4))), (aI k d1 10 (vv nq seeq tmq gq)), (aI k d2 24 ffq), (aI k d3 24 fpq), (aI k d4 4 flq)] H := hP
  replace hD : va_D A [(h0, .inr (5, (fX5 h1 h2 h3 h4))), (aI k h1 10 (vv nq seeq tmq gg_1)), (aI k h2 24 (va_cpy ffq ff 0 0 24)), (aI k h3 24 (va_cpy fpq fp 0 0 24)), (aI k h4 4 fl), (d0, .inr (5, (fX5 d1 d2 d3 d4))), (aI k d1 10 (vv nq seeq tmq gq)), (aI k d2 24 ffq), (aI k d3 24 fpq), (aI k d4 4 flq)] := hD
  refine lv_iconst (v := 0) hx hb dX5_become_45 (by decide) ?_
  refine lv_istore_n (lv' := [(2, .int 0), (0, .ref h0), (1, .ref d0)]) hx hb dX5_become_46 rfl hl (by decide) rfl (fun ls hl => ?_)
  refine W_loop (σ := Nat × (Nat → Int32)) (fun (n_ : Nat) (x_ : Nat × (Nat → Int32)) (H : Heap) (locs : List Loc) (ls : Array Slot) => match x_ with | (rn2_7, fl2_7) => n_ = 4 - rn2_7 ∧ (rn2_7 ≤ 4) ∧ va_P D classes [(h0, .inr (5, (fX5 h1 h2 h3 h4))), (aI k h1 10 (vv nq seeq tmq gg_1)), (aI k h2 24 (va_cpy ffq ff 0 0 24)), (aI k h3 24 (va_cpy fpq fp 0 0 24)), (aI k h4 4 fl2_7), (d0, .inr (5, (fX5 d1 d2 d3 d4))), (aI k d1 10 (vv nq seeq tmq gq)), (aI k d2 24 ffq), (aI k d3 24 fpq), (aI k d4 4 flq)] H ∧ va_D A [(h0, .inr (5, (fX5 h1 h2 h3 h4))), (aI k h1 10 (vv nq seeq tmq gg_1)), (aI k h2 24 (va_cpy ffq ff 0 0 24)), (aI k h3 24 (va_cpy fpq fp 0 0 24)), (aI k h4 4 fl2_7), (d0, .inr (5, (fX5 d1 d2 d3 d4))), (aI k d1 10 (vv nq seeq tmq gq)), (aI k d2 24 ffq), (aI k d3 24 fpq), (aI k d4 4 flq)] ∧ va_S A s.heap H locs ∧ lv_has ls 3 [(2, .int (nI rn2_7)), (0, .ref h0), (1, .ref d0)]) (fun n_7 x_7 H locs ls hI ih_7 => ?_) _ (0, fl) ⟨rfl, (by omega), hP, hD, hS, (lv_sub hl [0, 1, 2] rfl)⟩
  obtain ⟨rn2_7, fl2_7⟩ := x_7
  obtain ⟨hm_7, hv_7, hP, hD, hS, hl⟩ := hI
  subst hm_7
  refine lv_iload_n hx hb dX5_become_47 rfl (lv_at hl 0 rfl) ?_
  refine lv_iconst (v := 4) hx hb dX5_become_48 (by decide) ?_
  refine lv_icmp_ge (tgt := 87) hx hb dX5_become_49 (by decide) (fun c_8 => ?_) (fun c_8 => ?_)
  · have c_8 := (nI_leI (a := 4) (b := rn2_7) (by omega) (by omega)).mp c_8
    have hP9 := hP.sub (ws' := [(h0, .inr (5, (fX5 h1 h2 h3 h4))), (aI k h1 10 (vv nq seeq tmq gg_1)), (aI k h2 24 (va_cpy ffq ff 0 0 24)), (aI k h3 24 (va_cpy fpq fp 0 0 24)), (aI k h4 4 fl2_7), (d0, .inr (5, (fX5 d1 d2 d3 d4))), (aI k d1 10 (vv nq seeq tmq gq)), (aI k d2 24 ffq), (aI k d3 24 fpq), (aI k d4 4 flq)]) [0, 1, 2, 3, 4, 5, 6, 7, 8, 9] rfl
    have hD9 := hD.sub (ws' := [(h0, .inr (5, (fX5 h1 h2 h3 h4))), (aI k h1 10 (vv nq seeq tmq gg_1)), (aI k h2 24 (va_cpy ffq ff 0 0 24)), (aI k h3 24 (va_cpy fpq fp 0 0 24)), (aI k h4 4 fl2_7), (d0, .inr (5, (fX5 d1 d2 d3 d4))), (aI k d1 10 (vv nq seeq tmq gq)), (aI k d2 24 ffq), (aI k d3 24 fpq), (aI k d4 4 flq)]) [0, 1, 2, 3, 4, 5, 6, 7, 8, 9] (by decide) rfl
    exact W.vret hx hb hr (fun t ht hW => ⟨⟨(nq, seeq, tmq, gg_1, (va_cpy ffq ff 0 0 24), (va_cpy fpq fp 0 0 24), fl2_7), rfl, ⟨rfl, rfl, rfl, sd_cp (by omega) hgg_1⟩, by rw [ht]; exact hP9, hD9⟩, hS.F ht⟩) hS.2.2 dX5_become_87
  · have c_8 : ¬ (4 ≤ rn2_7) := fun h => c_8 ((nI_leI (a := 4) (b := rn2_7) (by omega) (by omega)).mpr h)
    refine lv_aload_n hx hb dX5_become_52 rfl (lv_at hl 1 rfl) ?_
    refine va_get (D := D) (ci := 5) (v := .ref h4) (C := RX5) (T := TX5) (N := 4) hx hb hts inX5 hown hK hP 0 rfl rfl 3 (by decide) (hts _ tw_154) (fun _ h9 => h9) rfl dX5_become_53 ?_
    refine lv_iload_n hx hb dX5_become_56 rfl (lv_at hl 0 rfl) ?_
    refine lv_aload_n hx hb dX5_become_57 rfl (lv_at hl 1 rfl) ?_
    refine va_get (D := D) (ci := 5) (v := .ref h1) (C := RX5) (T := TX5) (N := 4) hx hb hts inX5 hown hK hP 0 rfl rfl 0 (by decide) (hts _ tw_146) (fun _ h9 => h9) rfl dX5_become_58 ?_
    refine lv_iconst (v := 4) hx hb dX5_become_61 (by decide) ?_
    refine va_iald hx hb hK hP 1 1 rfl rfl (by unfold vp_in; decide) dX5_become_62 ?_
    refine lv_ti (y := (gg_1 4)) (by rfl) ?_
    refine lv_iconst (v := 0) hx hb dX5_become_63 (by decide) ?_
    refine lv_aload_n hx hb dX5_become_64 rfl (lv_at hl 1 rfl) ?_
    refine lv_iload_n hx hb dX5_become_65 rfl (lv_at hl 0 rfl) ?_
    refine ro_i (D := D) (va_runV (As := [.int (nI rn2_7)]) (rest := [.int 0, .int (gg_1 4), .int (nI rn2_7), .ref h4]) ⟨hx, hb, hml, hown, hts⟩ ((y_arrivalOf l D k st lo h0 h1 h2 h3 h4 nq seeq tmq gg_1 rn2_7) H.size) (cwV 1 hts (gV tw_505 tw_507 tw_3 tw_81 tw_508) rfl rfl rfl (by decide +kernel) ⟨Nat.le_of_ble_eq_true rfl, Nat.le_of_ble_eq_true rfl⟩) (pV hS hAlo hlo hP hK (va_Dlo hD hAlo) hZ [0, 1] (by decide) rfl (ci := 5) (q := (RX5, TX5, 4)) (q0 := 0) rfl rfl) rfl rfl hl.1 rfl (lv_room (Nat.le_of_ble_eq_true rfl)) dX5_become_66 ⟨Nat.le_of_ble_eq_true rfl, Nat.le_of_ble_eq_true rfl⟩) hS hA hP (fun r_9 H locs hw_9 hP hS => ?_)
    try dsimp only at hw_9
    refine lv_aload_n hx hb dX5_become_69 rfl (lv_at hl 1 rfl) ?_
    refine va_get (D := D) (ci := 5) (v := .ref h1) (C := RX5) (T := TX5) (N := 4) hx hb hts inX5 hown hK hP 0 rfl rfl 0 (by decide) (hts _ tw_146) (fun _ h9 => h9) rfl dX5_become_70 ?_
    refine lv_iconst (v := 5) hx hb dX5_become_73 (by decide) ?_
    refine va_iald hx hb hK hP 1 1 rfl rfl (by unfold vp_in; decide) dX5_become_74 ?_
    refine lv_ti (y := (gg_1 5)) (by rfl) ?_
    refine lv_isub hx hb dX5_become_75 ?_
    refine lv_topi (fun x_10 ex_10 => ?_)
    refine va_mmax hx hb (by rw [hml]; exact hl.1.symm) hown (hts _ tw_509) (hts _ tw_510) (hts _ tw_93) (hts _ tw_511) (Nat.le_of_ble_eq_true rfl) (Nat.le_of_ble_eq_true rfl) (Nat.le_of_ble_eq_true rfl) (Nat.le_of_ble_eq_true rfl) dX5_become_76 ?_
    refine lv_topi (fun x_11 ex_11 => ?_)
    refine lv_imul hx hb dX5_become_79 ?_
    refine lv_topi (fun x_12 ex_12 => ?_)
    refine va_iast hx hb hK hP hD hS 4 1 rfl rfl (vp_in_nI (by omega) (by decide)) dX5_become_80 (fun H locs hP hD hS => ?_)
    replace hP : va_P D classes [(h0, .inr (5, (fX5 h1 h2 h3 h4))), (aI k h1 10 (vv nq seeq tmq gg_1)), (aI k h2 24 (va_cpy ffq ff 0 0 24)), (aI k h3 24 (va_cpy fpq fp 0 0 24)), (aI k h4 4 (upd fl2_7 (Int32.toNatClampNeg (nI rn2_7)) x_12)), (d0, .inr (5, (fX5 d1 d2 d3 d4))), (aI k d1 10 (vv nq seeq tmq gq)), (aI k d2 24 ffq), (aI k d3 24 fpq), (aI k d4 4 flq)] H := hP
    replace hD : va_D A [(h0, .inr (5, (fX5 h1 h2 h3 h4))), (aI k h1 10 (vv nq seeq tmq gg_1)), (aI k h2 24 (va_cpy ffq ff 0 0 24)), (aI k h3 24 (va_cpy fpq fp 0 0 24)), (aI k h4 4 (upd fl2_7 (Int32.toNatClampNeg (nI rn2_7)) x_12)), (d0, .inr (5, (fX5 d1 d2 d3 d4))), (aI k d1 10 (vv nq seeq tmq gq)), (aI k d2 24 ffq), (aI k d3 24 fpq), (aI k d4 4 flq)] := hD
    generalize (upd fl2_7 (Int32.toNatClampNeg (nI rn2_7)) x_12) = f_13 at hP hD
    refine lv_iinc (v := (nI (rn2_7 + 1))) (lv' := [(2, .int (nI (rn2_7 + 1))), (0, .ref h0), (1, .ref d0)]) hx hb dX5_become_81 hl (k := 0) rfl (nI_add rn2_7 1) (by decide) rfl (fun ls hl => ?_)
    refine lv_goto (tgt := 47) hx hb dX5_become_84 (by decide) ?_
    exact ih_7 _ (rn2_7 + 1, f_13) _ _ _ (by omega) ⟨rfl, (by omega), hP, hD, hS, (lv_sub hl [0, 1, 2] rfl)⟩


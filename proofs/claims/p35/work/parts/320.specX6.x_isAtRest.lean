theorem dX1_isAtRest_0 : decode cX1_isAtRest 0 = .ok (.aload_n 0, 1) := by decide +kernel
theorem dX1_isAtRest_1 : decode cX1_isAtRest 1 = .ok (.getfield 25, 3) := by decide +kernel
theorem dX1_isAtRest_4 : decode cX1_isAtRest 4 = .ok (.istore_n 1, 1) := by decide +kernel
theorem dX1_isAtRest_5 : decode cX1_isAtRest 5 = .ok (.iconst 0, 1) := by decide +kernel
theorem dX1_isAtRest_6 : decode cX1_isAtRest 6 = .ok (.istore_n 2, 1) := by decide +kernel
theorem dX1_isAtRest_7 : decode cX1_isAtRest 7 = .ok (.iload_n 2, 1) := by decide +kernel
theorem dX1_isAtRest_8 : decode cX1_isAtRest 8 = .ok (.aload_n 0, 1) := by decide +kernel
theorem dX1_isAtRest_9 : decode cX1_isAtRest 9 = .ok (.getfield 34, 3) := by decide +kernel
theorem dX1_isAtRest_12 : decode cX1_isAtRest 12 = .ok (.getfield 53, 3) := by decide +kernel
theorem dX1_isAtRest_15 : decode cX1_isAtRest 15 = .ok (.if_icmp .ge 55, 3) := by decide +kernel
theorem dX1_isAtRest_18 : decode cX1_isAtRest 18 = .ok (.aload_n 0, 1) := by decide +kernel
theorem dX1_isAtRest_19 : decode cX1_isAtRest 19 = .ok (.aload_n 0, 1) := by decide +kernel
theorem dX1_isAtRest_20 : decode cX1_isAtRest 20 = .ok (.iload_n 2, 1) := by decide +kernel
theorem dX1_isAtRest_21 : decode cX1_isAtRest 21 = .ok (.iload_n 1, 1) := by decide +kernel
theorem dX1_isAtRest_22 : decode cX1_isAtRest 22 = .ok (.invokevirtual 83, 3) := by decide +kernel
theorem dX1_isAtRest_25 : decode cX1_isAtRest 25 = .ok (.iload_n 1, 1) := by decide +kernel
theorem dX1_isAtRest_26 : decode cX1_isAtRest 26 = .ok (.invokevirtual 74, 3) := by decide +kernel
theorem dX1_isAtRest_29 : decode cX1_isAtRest 29 = .ok (.istore_n 3, 1) := by decide +kernel
theorem dX1_isAtRest_30 : decode cX1_isAtRest 30 = .ok (.aload_n 0, 1) := by decide +kernel
theorem dX1_isAtRest_31 : decode cX1_isAtRest 31 = .ok (.iload_n 2, 1) := by decide +kernel
theorem dX1_isAtRest_32 : decode cX1_isAtRest 32 = .ok (.iload_n 3, 1) := by decide +kernel
theorem dX1_isAtRest_33 : decode cX1_isAtRest 33 = .ok (.invokevirtual 80, 3) := by decide +kernel
theorem dX1_isAtRest_36 : decode cX1_isAtRest 36 = .ok (.aload_n 0, 1) := by decide +kernel
theorem dX1_isAtRest_37 : decode cX1_isAtRest 37 = .ok (.iload_n 2, 1) := by decide +kernel
theorem dX1_isAtRest_38 : decode cX1_isAtRest 38 = .ok (.aload_n 0, 1) := by decide +kernel
theorem dX1_isAtRest_39 : decode cX1_isAtRest 39 = .ok (.aload_n 0, 1) := by decide +kernel
theorem dX1_isAtRest_40 : decode cX1_isAtRest 40 = .ok (.getfield 9, 3) := by decide +kernel
theorem dX1_isAtRest_43 : decode cX1_isAtRest 43 = .ok (.iload_n 2, 1) := by decide +kernel
theorem dX1_isAtRest_44 : decode cX1_isAtRest 44 = .ok (.iaload, 1) := by decide +kernel
theorem dX1_isAtRest_45 : decode cX1_isAtRest 45 = .ok (.iload_n 1, 1) := by decide +kernel
theorem dX1_isAtRest_46 : decode cX1_isAtRest 46 = .ok (.invokevirtual 74, 3) := by decide +kernel
theorem dX1_isAtRest_49 : decode cX1_isAtRest 49 = .ok (.invokevirtual 80, 3) := by decide +kernel
theorem dX1_isAtRest_52 : decode cX1_isAtRest 52 = .ok (.if_icmp .ge 5, 3) := by decide +kernel
theorem dX1_isAtRest_55 : decode cX1_isAtRest 55 = .ok (.iconst 0, 1) := by decide +kernel
theorem dX1_isAtRest_56 : decode cX1_isAtRest 56 = .ok (.ireturn, 1) := by decide +kernel
theorem dX1_isAtRest_57 : decode cX1_isAtRest 57 = .ok (.aload_n 0, 1) := by decide +kernel
theorem dX1_isAtRest_58 : decode cX1_isAtRest 58 = .ok (.iload_n 2, 1) := by decide +kernel
theorem dX1_isAtRest_59 : decode cX1_isAtRest 59 = .ok (.iload_n 1, 1) := by decide +kernel
theorem dX1_isAtRest_60 : decode cX1_isAtRest 60 = .ok (.invokevirtual 77, 3) := by decide +kernel
theorem dX1_isAtRest_63 : decode cX1_isAtRest 63 = .ok (.istore_n 1, 1) := by decide +kernel
theorem dX1_isAtRest_64 : decode cX1_isAtRest 64 = .ok (.iinc 2 1, 3) := by decide +kernel
theorem dX1_isAtRest_67 : decode cX1_isAtRest 67 = .ok (.goto (-60), 3) := by decide +kernel
theorem dX1_isAtRest_70 : decode cX1_isAtRest 70 = .ok (.iconst 1, 1) := by decide +kernel
theorem dX1_isAtRest_71 : decode cX1_isAtRest 71 = .ok (.ireturn, 1) := by decide +kernel
set_option maxHeartbeats 4000000 in
set_option maxRecDepth 100000 in
theorem x_isAtRest (l : Launch) (D : va_G) (k : Nat → ClassId) (st : Nat → Nat) (lo : Nat) (c0 : Nat) (z0 : Nat) (z1 : Nat) (z2 : Nat) (z3 : Nat) (pn : Nat) (pf : Int32) (pd : Int32) (pe : Int32) (pb : Nat → Nat) (pco : Nat → Int32) (c1 : Nat) (c2 : Nat) (cc : Nat) (rz : Nat) (ro : Int32) (sd : Int32) (hpn : pn ≤ 24) (hcc : cc ≤ 4) (hpb : ∀ j, pb j ≤ 24) : CRi l D k st lo yX1_isAtRest cX1_isAtRest 4 (some .boolean) ({ frames := 3, cells := 0, slots := 0, locals := 72 }) [.ref z0] [(z0, .inr (1, [.ref c0, .ref z1, .ref z2, .ref z3, .int (nI pn), .int pf, .int pd, .int pe])), (z1, .inl (k 1, 4, .inl (nF pb))), (z2, .inl (k 1, 100, .inl pco)), (c0, .inr (4, [.ref c1, .ref c2, .int (nI cc), .int (nI rz), .int ro, .int sd]))] (fun r => r = 1 ∨ r = 0) := by
  intro sz
  refine Met.ofW (cc := cX1_isAtRest) (maxL := 4) (ret := (some .boolean)) (by decide) rfl ?_
  intro p e s m args below meth c s₁ B hml hv
  obtain ⟨rfl, hsz, hlo, hP, hK, hDL, hZ⟩ := hv
  have hx := B.exec
  have hb := B.bytes
  have hr := B.returns
  have hts := WS_ts B.pre
  have hown : s.vm.findClass RX1 = some m.cls := findClass_of_methodNamed B.named
  have hlocks := B.notSynchronized
  subst hsz
  have hA : ∀ q : Nat, s.heap.size ≤ q → (fun q : Nat => s.heap.size ≤ q) q := fun _ h => h
  have hAlo : ∀ q : Nat, (fun q : Nat => s.heap.size ≤ q) q → lo ≤ q := fun q h => Nat.le_trans hlo h
  have hS : va_S (fun q : Nat => s.heap.size ≤ q) s.heap s.heap [] := va_S.rf
  have hl := lv_entry ([.ref z0]) (n := 4) (Nat.le_of_ble_eq_true rfl)
  rw [lg_entry_eq]
  generalize (lg_sl ([.ref z0]) ++ List.replicate (4 - (lg_sl ([.ref z0])).length) Slot.unset).toArray = ls at hl ⊢
  have hl : lv_has ls 4 [(0, .ref z0)] := hl
  refine lv_aload_n hx hb dX1_isAtRest_0 rfl (lv_at hl 0 rfl) ?_
  refine va_get (D := D) (ci := 1) (v := .int pf) (C := RX1) (T := TX1) (N := 8) hx hb hts inX1 hown hK hP 0 rfl rfl 5 (by decide) (hts _ tw_241) (fun _ h9 => h9) rfl dX1_isAtRest_1 ?_
  refine lv_istore_n (lv' := [(1, .int pf), (0, .ref z0)]) hx hb dX1_isAtRest_4 rfl hl (by decide) rfl (fun ls hl => ?_)
  refine lv_iconst (v := 0) hx hb dX1_isAtRest_5 (by decide) ?_
  refine lv_istore_n (lv' := [(2, .int 0), (1, .int pf), (0, .ref z0)]) hx hb dX1_isAtRest_6 rfl hl (by decide) rfl (fun ls hl => ?_)
  refine W_loop (σ := Nat × Int32) (fun (n_ : Nat) (x_ : Nat × Int32) (H : Heap) (locs : List Loc) (ls : Array Slot) => match x_ with | (cn2_1, lf_1) => n_ = 5 - cn2_1 ∧ (cn2_1 ≤ 4) ∧ va_P D classes [(z0, .inr (1, [.ref c0, .ref z1, .ref z2, .ref z3, .int (nI pn), .int pf, .int pd, .int pe])), (z1, .inl (k 1, 4, .inl (nF pb))), (z2, .inl (k 1, 100, .inl pco)), (c0, .inr (4, [.ref c1, .ref c2, .int (nI cc), .int (nI rz), .int ro, .int sd]))] H ∧ va_S (fun q : Nat => s.heap.size ≤ q) s.heap H locs ∧ lv_has ls 4 [(2, .int (nI cn2_1)), (1, .int lf_1), (0, .ref z0)]) (fun n_1 x_1 H locs ls hI ih_1 => ?_) _ (0, pf) ⟨rfl, (by omega), hP, hS, (lv_sub hl [0, 1, 2] rfl)⟩
  obtain ⟨cn2_1, lf_1⟩ := x_1
  obtain ⟨hm_1, hv_1, hP, hS, hl⟩ := hI
  subst hm_1
  refine lv_iload_n hx hb dX1_isAtRest_7 rfl (lv_at hl 0 rfl) ?_
  refine lv_aload_n hx hb dX1_isAtRest_8 rfl (lv_at hl 2 rfl) ?_
  refine va_get (D := D) (ci := 1) (v := .ref c0) (C := RX1) (T := TX1) (N := 8) hx hb hts inX1 hown hK hP 0 rfl rfl 0 (by decide) (hts _ tw_235) (fun _ h9 => h9) rfl dX1_isAtRest_9 ?_
  refine va_get (D := D) (ci := 4) (v := .int (nI cc)) (C := RX4) (T := TX4) (N := 6) hx hb hts inX4 hown hK hP 3 rfl rfl 2 (by decide) (hts _ tw_179) (fun _ h9 => h9) rfl dX1_isAtRest_12 ?_
  refine lv_icmp_ge (tgt := 70) hx hb dX1_isAtRest_15 (by decide) (fun c_2 => ?_) (fun c_2 => ?_)
  · have c_2 := (nI_leI (a := cc) (b := cn2_1) (by omega) (by omega)).mp c_2
    refine lv_iconst (v := 1) hx hb dX1_isAtRest_70 (by decide) ?_
    exact W.zret (v := 1) (ty := .boolean) hx hb hr rfl (fun t ht hW => ⟨⟨1, (), rfl, .inl rfl, trivial⟩, hS.F ht⟩) hS.2.2 dX1_isAtRest_71
  · have c_2 : ¬ (cc ≤ cn2_1) := fun h => c_2 ((nI_leI (a := cc) (b := cn2_1) (by omega) (by omega)).mpr h)
    refine lv_aload_n hx hb dX1_isAtRest_18 rfl (lv_at hl 2 rfl) ?_
    refine lv_aload_n hx hb dX1_isAtRest_19 rfl (lv_at hl 2 rfl) ?_
    refine lv_iload_n hx hb dX1_isAtRest_20 rfl (lv_at hl 0 rfl) ?_
    refine lv_iload_n hx hb dX1_isAtRest_21 rfl (lv_at hl 1 rfl) ?_
    refine ro_i (D := D) (va_runV (As := [.int (nI cn2_1), .int lf_1]) (rest := [.ref z0]) ⟨hx, hb, hml, hown, hts⟩ ((x_bestBar l D k st lo c0 z0 z1 z2 z3 pn pf pd pe pb pco cn2_1 lf_1 (by omega) (by omega) hpb) H.size) (cwV 2 hts (gV tw_858 tw_860 tw_22 tw_84 tw_861) rfl rfl rfl (by decide +kernel) ⟨Nat.le_of_ble_eq_true rfl, Nat.le_of_ble_eq_true rfl⟩) (pV hS hAlo hlo hP hK hDL hZ [0, 1, 2] (by decide) rfl (ci := 1) (q0 := 0) rfl rfl) rfl rfl hl.1 rfl (lv_room (Nat.le_of_ble_eq_true rfl)) dX1_isAtRest_22 ⟨Nat.le_of_ble_eq_true rfl, Nat.le_of_ble_eq_true rfl⟩) hS hA hP (fun r_3 H locs hw_3 hP hS => ?_)
    try dsimp only at hw_3
    obtain ⟨zp_4, hzp_4, rfl⟩ := hw_3
    refine lv_iload_n hx hb dX1_isAtRest_25 rfl (lv_at hl 1 rfl) ?_
    refine ro_i (D := D) (va_runV (As := [.int (nI zp_4), .int lf_1]) (rest := []) ⟨hx, hb, hml, hown, hts⟩ ((x_placeFrom l D k st lo c0 z0 z1 z2 z3 pn pf pd pe zp_4 lf_1 (by omega) (by omega)) H.size) (cwV 2 hts (gV tw_838 tw_840 tw_20 tw_84 tw_841) rfl rfl rfl (by decide +kernel) ⟨Nat.le_of_ble_eq_true rfl, Nat.le_of_ble_eq_true rfl⟩) (pV hS hAlo hlo hP hK hDL hZ [0] (by decide) rfl (ci := 1) (q0 := 0) rfl rfl) rfl rfl hl.1 rfl (lv_room (Nat.le_of_ble_eq_true rfl)) dX1_isAtRest_26 ⟨Nat.le_of_ble_eq_true rfl, Nat.le_of_ble_eq_true rfl⟩) hS hA hP (fun r_5 H locs hw_5 hP hS => ?_)
    try dsimp only at hw_5
    obtain ⟨zp_6, hzp_6, rfl⟩ := hw_5
    refine lv_istore_n (lv' := [(3, .int (nI zp_6)), (2, .int (nI cn2_1)), (1, .int lf_1), (0, .ref z0)]) hx hb dX1_isAtRest_29 rfl hl (by decide) rfl (fun ls hl => ?_)
    refine lv_aload_n hx hb dX1_isAtRest_30 rfl (lv_at hl 3 rfl) ?_
    refine lv_iload_n hx hb dX1_isAtRest_31 rfl (lv_at hl 1 rfl) ?_
    refine lv_iload_n hx hb dX1_isAtRest_32 rfl (lv_at hl 0 rfl) ?_
    refine ro_i (D := D) (va_runV (As := [.int (nI cn2_1), .int (nI zp_6)]) (rest := []) ⟨hx, hb, hml, hown, hts⟩ ((x_paidAt l D k st lo c0 z0 z1 z2 z3 pn pf pd pe pco cn2_1 zp_6 (by omega) (by omega) (by omega)) H.size) (cwV 2 hts (gV tw_862 tw_864 tw_23 tw_84 tw_865) rfl rfl rfl (by decide +kernel) ⟨Nat.le_of_ble_eq_true rfl, Nat.le_of_ble_eq_true rfl⟩) (pV hS hAlo hlo hP hK hDL hZ [0, 2] (by decide) rfl (ci := 1) (q0 := 0) rfl rfl) rfl rfl hl.1 rfl (lv_room (Nat.le_of_ble_eq_true rfl)) dX1_isAtRest_33 ⟨Nat.le_of_ble_eq_true rfl, Nat.le_of_ble_eq_true rfl⟩) hS hA hP (fun r_7 H locs hw_7 hP hS => ?_)
    try dsimp only at hw_7
    refine lv_aload_n hx hb dX1_isAtRest_36 rfl (lv_at hl 3 rfl) ?_
    refine lv_iload_n hx hb dX1_isAtRest_37 rfl (lv_at hl 1 rfl) ?_
    refine lv_aload_n hx hb dX1_isAtRest_38 rfl (lv_at hl 3 rfl) ?_
    refine lv_aload_n hx hb dX1_isAtRest_39 rfl (lv_at hl 3 rfl) ?_
    refine va_get (D := D) (ci := 1) (v := .ref z1) (C := RX1) (T := TX1) (N := 8) hx hb hts inX1 hown hK hP 0 rfl rfl 1 (by decide) (hts _ tw_236) (fun _ h9 => h9) rfl dX1_isAtRest_40 ?_
    refine lv_iload_n hx hb dX1_isAtRest_43 rfl (lv_at hl 1 rfl) ?_
    refine va_iald hx hb hK hP 1 1 rfl rfl (vp_in_nI (by omega) (by decide)) dX1_isAtRest_44 ?_
    have hq_8 := hpb cn2_1
    refine lv_ti (y := (nI (pb cn2_1))) (by rw [nI_clamp (by omega)]; rfl) ?_
    refine lv_iload_n hx hb dX1_isAtRest_45 rfl (lv_at hl 2 rfl) ?_
    refine ro_i (D := D) (va_runV (As := [.int (nI (pb cn2_1)), .int lf_1]) (rest := [.int (nI cn2_1), .ref z0, .int r_7]) ⟨hx, hb, hml, hown, hts⟩ ((x_placeFrom l D k st lo c0 z0 z1 z2 z3 pn pf pd pe (pb cn2_1) lf_1 (by omega) (by omega)) H.size) (cwV 2 hts (gV tw_838 tw_840 tw_20 tw_84 tw_841) rfl rfl rfl (by decide +kernel) ⟨Nat.le_of_ble_eq_true rfl, Nat.le_of_ble_eq_true rfl⟩) (pV hS hAlo hlo hP hK hDL hZ [0] (by decide) rfl (ci := 1) (q0 := 0) rfl rfl) rfl rfl hl.1 rfl (lv_room (Nat.le_of_ble_eq_true rfl)) dX1_isAtRest_46 ⟨Nat.le_of_ble_eq_true rfl, Nat.le_of_ble_eq_true rfl⟩) hS hA hP (fun r_9 H locs hw_9 hP hS => ?_)
    try dsimp only at hw_9
    obtain ⟨zp_10, hzp_10, rfl⟩ := hw_9
    refine ro_i (D := D) (va_runV (As := [.int (nI cn2_1), .int (nI zp_10)]) (rest := [.int r_7]) ⟨hx, hb, hml, hown, hts⟩ ((x_paidAt l D k st lo c0 z0 z1 z2 z3 pn pf pd pe pco cn2_1 zp_10 (by omega) (by omega) (by omega)) H.size) (cwV 2 hts (gV tw_862 tw_864 tw_23 tw_84 tw_865) rfl rfl rfl (by decide +kernel) ⟨Nat.le_of_ble_eq_true rfl, Nat.le_of_ble_eq_true rfl⟩) (pV hS hAlo hlo hP hK hDL hZ [0, 2] (by decide) rfl (ci := 1) (q0 := 0) rfl rfl) rfl rfl hl.1 rfl (lv_room (Nat.le_of_ble_eq_true rfl)) dX1_isAtRest_49 ⟨Nat.le_of_ble_eq_true rfl, Nat.le_of_ble_eq_true rfl⟩) hS hA hP (fun r_11 H locs hw_11 hP hS => ?_)
    try dsimp only at hw_11
    refine lv_icmp_ge (tgt := 57) hx hb dX1_isAtRest_52 (by decide) (fun c_12 => ?_) (fun c_12 => ?_)
    · refine lv_aload_n hx hb dX1_isAtRest_57 rfl (lv_at hl 3 rfl) ?_
      refine lv_iload_n hx hb dX1_isAtRest_58 rfl (lv_at hl 1 rfl) ?_
      refine lv_iload_n hx hb dX1_isAtRest_59 rfl (lv_at hl 2 rfl) ?_
      refine ro_i (D := D) (va_runV (As := [.int (nI cn2_1), .int lf_1]) (rest := []) ⟨hx, hb, hml, hown, hts⟩ ((x_leftBehind l D k st lo c0 z0 z1 z2 z3 pn pf pd pe pb cn2_1 lf_1 (by omega) (by omega) hpb) H.size) (cwV 2 hts (gV tw_834 tw_836 tw_19 tw_84 tw_837) rfl rfl rfl (by decide +kernel) ⟨Nat.le_of_ble_eq_true rfl, Nat.le_of_ble_eq_true rfl⟩) (pV hS hAlo hlo hP hK hDL hZ [0, 1] (by decide) rfl (ci := 1) (q0 := 0) rfl rfl) rfl rfl hl.1 rfl (lv_room (Nat.le_of_ble_eq_true rfl)) dX1_isAtRest_60 ⟨Nat.le_of_ble_eq_true rfl, Nat.le_of_ble_eq_true rfl⟩) hS hA hP (fun r_13 H locs hw_13 hP hS => ?_)
      try dsimp only at hw_13
      refine lv_istore_n (lv' := [(1, .int r_13), (3, .int (nI zp_6)), (2, .int (nI cn2_1)), (0, .ref z0)]) hx hb dX1_isAtRest_63 rfl hl (by decide) rfl (fun ls hl => ?_)
      refine lv_iinc (v := (nI (cn2_1 + 1))) (lv' := [(2, .int (nI (cn2_1 + 1))), (1, .int r_13), (3, .int (nI zp_6)), (0, .ref z0)]) hx hb dX1_isAtRest_64 hl (k := 2) rfl (nI_add cn2_1 1) (by decide) rfl (fun ls hl => ?_)
      refine lv_goto (tgt := 7) hx hb dX1_isAtRest_67 (by decide) ?_
      exact ih_1 _ (cn2_1 + 1, r_13) _ _ _ (by omega) ⟨rfl, (by omega), hP, hS, (lv_sub hl [0, 1, 3] rfl)⟩
    · refine lv_iconst (v := 0) hx hb dX1_isAtRest_55 (by decide) ?_
      exact W.zret (v := 0) (ty := .boolean) hx hb hr rfl (fun t ht hW => ⟨⟨0, (), rfl, .inr rfl, trivial⟩, hS.F ht⟩) hS.2.2 dX1_isAtRest_56


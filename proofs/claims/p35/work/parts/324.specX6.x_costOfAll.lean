theorem dX1_costOfAll_0 : decode cX1_costOfAll 0 = .ok (.iconst 0, 1) := by decide +kernel
theorem dX1_costOfAll_1 : decode cX1_costOfAll 1 = .ok (.istore_n 1, 1) := by decide +kernel
theorem dX1_costOfAll_2 : decode cX1_costOfAll 2 = .ok (.aload_n 0, 1) := by decide +kernel
theorem dX1_costOfAll_3 : decode cX1_costOfAll 3 = .ok (.getfield 25, 3) := by decide +kernel
theorem dX1_costOfAll_6 : decode cX1_costOfAll 6 = .ok (.istore_n 2, 1) := by decide +kernel
theorem dX1_costOfAll_7 : decode cX1_costOfAll 7 = .ok (.iconst 0, 1) := by decide +kernel
theorem dX1_costOfAll_8 : decode cX1_costOfAll 8 = .ok (.istore_n 3, 1) := by decide +kernel
theorem dX1_costOfAll_9 : decode cX1_costOfAll 9 = .ok (.iload_n 3, 1) := by decide +kernel
theorem dX1_costOfAll_10 : decode cX1_costOfAll 10 = .ok (.aload_n 0, 1) := by decide +kernel
theorem dX1_costOfAll_11 : decode cX1_costOfAll 11 = .ok (.getfield 34, 3) := by decide +kernel
theorem dX1_costOfAll_14 : decode cX1_costOfAll 14 = .ok (.getfield 53, 3) := by decide +kernel
theorem dX1_costOfAll_17 : decode cX1_costOfAll 17 = .ok (.if_icmp .ge 35, 3) := by decide +kernel
theorem dX1_costOfAll_20 : decode cX1_costOfAll 20 = .ok (.iload_n 1, 1) := by decide +kernel
theorem dX1_costOfAll_21 : decode cX1_costOfAll 21 = .ok (.aload_n 0, 1) := by decide +kernel
theorem dX1_costOfAll_22 : decode cX1_costOfAll 22 = .ok (.iload_n 3, 1) := by decide +kernel
theorem dX1_costOfAll_23 : decode cX1_costOfAll 23 = .ok (.aload_n 0, 1) := by decide +kernel
theorem dX1_costOfAll_24 : decode cX1_costOfAll 24 = .ok (.aload_n 0, 1) := by decide +kernel
theorem dX1_costOfAll_25 : decode cX1_costOfAll 25 = .ok (.getfield 9, 3) := by decide +kernel
theorem dX1_costOfAll_28 : decode cX1_costOfAll 28 = .ok (.iload_n 3, 1) := by decide +kernel
theorem dX1_costOfAll_29 : decode cX1_costOfAll 29 = .ok (.iaload, 1) := by decide +kernel
theorem dX1_costOfAll_30 : decode cX1_costOfAll 30 = .ok (.iload_n 2, 1) := by decide +kernel
theorem dX1_costOfAll_31 : decode cX1_costOfAll 31 = .ok (.invokevirtual 74, 3) := by decide +kernel
theorem dX1_costOfAll_34 : decode cX1_costOfAll 34 = .ok (.invokevirtual 70, 3) := by decide +kernel
theorem dX1_costOfAll_37 : decode cX1_costOfAll 37 = .ok (.iadd, 1) := by decide +kernel
theorem dX1_costOfAll_38 : decode cX1_costOfAll 38 = .ok (.istore_n 1, 1) := by decide +kernel
theorem dX1_costOfAll_39 : decode cX1_costOfAll 39 = .ok (.aload_n 0, 1) := by decide +kernel
theorem dX1_costOfAll_40 : decode cX1_costOfAll 40 = .ok (.iload_n 3, 1) := by decide +kernel
theorem dX1_costOfAll_41 : decode cX1_costOfAll 41 = .ok (.iload_n 2, 1) := by decide +kernel
theorem dX1_costOfAll_42 : decode cX1_costOfAll 42 = .ok (.invokevirtual 77, 3) := by decide +kernel
theorem dX1_costOfAll_45 : decode cX1_costOfAll 45 = .ok (.istore_n 2, 1) := by decide +kernel
theorem dX1_costOfAll_46 : decode cX1_costOfAll 46 = .ok (.iinc 3 1, 3) := by decide +kernel
theorem dX1_costOfAll_49 : decode cX1_costOfAll 49 = .ok (.goto (-40), 3) := by decide +kernel
theorem dX1_costOfAll_52 : decode cX1_costOfAll 52 = .ok (.iload_n 1, 1) := by decide +kernel
theorem dX1_costOfAll_53 : decode cX1_costOfAll 53 = .ok (.ireturn, 1) := by decide +kernel
set_option maxHeartbeats 4000000 in
set_option maxRecDepth 100000 in
theorem x_costOfAll (l : Launch) (D : va_G) (k : Nat → ClassId) (st : Nat → Nat) (lo : Nat) (c0 : Nat) (z0 : Nat) (z1 : Nat) (z2 : Nat) (z3 : Nat) (pn : Nat) (pf : Int32) (pd : Int32) (pe : Int32) (pb : Nat → Nat) (pco : Nat → Int32) (c1 : Nat) (c2 : Nat) (cc : Nat) (rz : Nat) (ro : Int32) (sd : Int32) (hpn : pn ≤ 24) (hcc : cc ≤ 4) (hpb : ∀ j, pb j ≤ 24) : CRi l D k st lo yX1_costOfAll cX1_costOfAll 4 (some .int) ({ frames := 2, cells := 0, slots := 0, locals := 45 }) [.ref z0] [(z0, .inr (1, [.ref c0, .ref z1, .ref z2, .ref z3, .int (nI pn), .int pf, .int pd, .int pe])), (z1, .inl (k 1, 4, .inl (nF pb))), (z2, .inl (k 1, 100, .inl pco)), (c0, .inr (4, [.ref c1, .ref c2, .int (nI cc), .int (nI rz), .int ro, .int sd]))] (fun _ => True) := by
  intro sz
  refine Met.ofW (cc := cX1_costOfAll) (maxL := 4) (ret := (some .int)) (by decide) rfl ?_
  intro p e s m args below meth c s₁ B hml hv
  obtain ⟨rfl, hsz, hlo, hP, hK, hDL, hZ⟩ := hv
  have hx := B.exec
  have hb := B.bytes
  have hr := B.returns
  have hts := WS_ts B.pre
  have hown : s.vm.findClass RX1 = some m.cls := findClass_of_methodNamed B.named
  have hlocks := B.notSynchronized
  subst hsz
  have hA : ∀ q : Nat, s.heap.size ≤ q → (fun q : Nat => s.heap.size ≤ q) q := fun _ h => h
  have hAlo : ∀ q : Nat, (fun q : Nat => s.heap.size ≤ q) q → lo ≤ q := fun q h => Nat.le_trans hlo h
  have hS : va_S (fun q : Nat => s.heap.size ≤ q) s.heap s.heap [] := va_S.rf
  have hl := lv_entry ([.ref z0]) (n := 4) (Nat.le_of_ble_eq_true rfl)
  rw [lg_entry_eq]
  generalize (lg_sl ([.ref z0]) ++ List.replicate (4 - (lg_sl ([.ref z0])).length) Slot.unset).toArray = ls at hl ⊢
  have hl : lv_has ls 4 [(0, .ref z0)] := hl
  refine lv_iconst (v := 0) hx hb dX1_costOfAll_0 (by decide) ?_
  refine lv_istore_n (lv' := [(1, .int 0), (0, .ref z0)]) hx hb dX1_costOfAll_1 rfl hl (by decide) rfl (fun ls hl => ?_)
  refine lv_aload_n hx hb dX1_costOfAll_2 rfl (lv_at hl 1 rfl) ?_
  refine va_get (D := D) (ci := 1) (v := .int pf) (C := RX1) (T := TX1) (N := 8) hx hb hts inX1 hown hK hP 0 rfl rfl 5 (by decide) (hts _ tw_241) (fun _ h9 => h9) rfl dX1_costOfAll_3 ?_
  refine lv_istore_n (lv' := [(2, .int pf), (1, .int 0), (0, .ref z0)]) hx hb dX1_costOfAll_6 rfl hl (by decide) rfl (fun ls hl => ?_)
  refine lv_iconst (v := 0) hx hb dX1_costOfAll_7 (by decide) ?_
  refine lv_istore_n (lv' := [(3, .int 0), (2, .int pf), (1, .int 0), (0, .ref z0)]) hx hb dX1_costOfAll_8 rfl hl (by decide) rfl (fun ls hl => ?_)
  refine W_loop (σ := Nat × Int32 × Int32) (fun (n_ : Nat) (x_ : Nat × Int32 × Int32) (H : Heap) (locs : List Loc) (ls : Array Slot) => match x_ with | (cn2_1, al_1, lf_1) => n_ = 5 - cn2_1 ∧ (cn2_1 ≤ 4) ∧ va_P D classes [(z0, .inr (1, [.ref c0, .ref z1, .ref z2, .ref z3, .int (nI pn), .int pf, .int pd, .int pe])), (z1, .inl (k 1, 4, .inl (nF pb))), (z2, .inl (k 1, 100, .inl pco)), (c0, .inr (4, [.ref c1, .ref c2, .int (nI cc), .int (nI rz), .int ro, .int sd]))] H ∧ va_S (fun q : Nat => s.heap.size ≤ q) s.heap H locs ∧ lv_has ls 4 [(3, .int (nI cn2_1)), (2, .int lf_1), (1, .int al_1), (0, .ref z0)]) (fun n_1 x_1 H locs ls hI ih_1 => ?_) _ (0, 0, pf) ⟨rfl, (by omega), hP, hS, (lv_sub hl [0, 1, 2, 3] rfl)⟩
  obtain ⟨cn2_1, al_1, lf_1⟩ := x_1
  obtain ⟨hm_1, hv_1, hP, hS, hl⟩ := hI
  subst hm_1
  refine lv_iload_n hx hb dX1_costOfAll_9 rfl (lv_at hl 0 rfl) ?_
  refine lv_aload_n hx hb dX1_costOfAll_10 rfl (lv_at hl 3 rfl) ?_
  refine va_get (D := D) (ci := 1) (v := .ref c0) (C := RX1) (T := TX1) (N := 8) hx hb hts inX1 hown hK hP 0 rfl rfl 0 (by decide) (hts _ tw_235) (fun _ h9 => h9) rfl dX1_costOfAll_11 ?_
  refine va_get (D := D) (ci := 4) (v := .int (nI cc)) (C := RX4) (T := TX4) (N := 6) hx hb hts inX4 hown hK hP 3 rfl rfl 2 (by decide) (hts _ tw_179) (fun _ h9 => h9) rfl dX1_costOfAll_14 ?_
  refine lv_icmp_ge (tgt := 52) hx hb dX1_costOfAll_17 (by decide) (fun c_2 => ?_) (fun c_2 => ?_)
  · have c_2 := (nI_leI (a := cc) (b := cn2_1) (by omega) (by omega)).mp c_2
    refine lv_iload_n hx hb dX1_costOfAll_52 rfl (lv_at hl 2 rfl) ?_
    exact W.iret (v := al_1) hx hb hr (fun t ht hW => ⟨⟨al_1, (), rfl, trivial, trivial⟩, hS.F ht⟩) hS.2.2 dX1_costOfAll_53
  · have c_2 : ¬ (cc ≤ cn2_1) := fun h => c_2 ((nI_leI (a := cc) (b := cn2_1) (by omega) (by omega)).mpr h)
    refine lv_iload_n hx hb dX1_costOfAll_20 rfl (lv_at hl 2 rfl) ?_
    refine lv_aload_n hx hb dX1_costOfAll_21 rfl (lv_at hl 3 rfl) ?_
    refine lv_iload_n hx hb dX1_costOfAll_22 rfl (lv_at hl 0 rfl) ?_
    refine lv_aload_n hx hb dX1_costOfAll_23 rfl (lv_at hl 3 rfl) ?_
    refine lv_aload_n hx hb dX1_costOfAll_24 rfl (lv_at hl 3 rfl) ?_
    refine va_get (D := D) (ci := 1) (v := .ref z1) (C := RX1) (T := TX1) (N := 8) hx hb hts inX1 hown hK hP 0 rfl rfl 1 (by decide) (hts _ tw_236) (fun _ h9 => h9) rfl dX1_costOfAll_25 ?_
    refine lv_iload_n hx hb dX1_costOfAll_28 rfl (lv_at hl 0 rfl) ?_
    refine va_iald hx hb hK hP 1 1 rfl rfl (vp_in_nI (by omega) (by decide)) dX1_costOfAll_29 ?_
    have hq_3 := hpb cn2_1
    refine lv_ti (y := (nI (pb cn2_1))) (by rw [nI_clamp (by omega)]; rfl) ?_
    refine lv_iload_n hx hb dX1_costOfAll_30 rfl (lv_at hl 1 rfl) ?_
    refine ro_i (D := D) (va_runV (As := [.int (nI (pb cn2_1)), .int lf_1]) (rest := [.int (nI cn2_1), .ref z0, .int al_1]) ⟨hx, hb, hml, hown, hts⟩ ((x_placeFrom l D k st lo c0 z0 z1 z2 z3 pn pf pd pe (pb cn2_1) lf_1 (by omega) (by omega)) H.size) (cwV 2 hts (gV tw_838 tw_840 tw_20 tw_84 tw_841) rfl rfl rfl (by decide +kernel) ⟨Nat.le_of_ble_eq_true rfl, Nat.le_of_ble_eq_true rfl⟩) (pV hS hAlo hlo hP hK hDL hZ [0] (by decide) rfl (ci := 1) (q0 := 0) rfl rfl) rfl rfl hl.1 rfl (lv_room (Nat.le_of_ble_eq_true rfl)) dX1_costOfAll_31 ⟨Nat.le_of_ble_eq_true rfl, Nat.le_of_ble_eq_true rfl⟩) hS hA hP (fun r_4 H locs hw_4 hP hS => ?_)
    try dsimp only at hw_4
    obtain ⟨zp_5, hzp_5, rfl⟩ := hw_4
    refine ro_i (D := D) (va_runV (As := [.int (nI cn2_1), .int (nI zp_5)]) (rest := [.int al_1]) ⟨hx, hb, hml, hown, hts⟩ ((x_costAt l D k st lo c0 z0 z1 z2 z3 pn pf pd pe pco cn2_1 zp_5 (by omega) (by omega)) H.size) (cwV 2 hts (gV tw_866 tw_843 tw_844 tw_84 tw_845) rfl rfl rfl (by decide +kernel) ⟨Nat.le_of_ble_eq_true rfl, Nat.le_of_ble_eq_true rfl⟩) (pV hS hAlo hlo hP hK hDL hZ [0, 2] (by decide) rfl (ci := 1) (q0 := 0) rfl rfl) rfl rfl hl.1 rfl (lv_room (Nat.le_of_ble_eq_true rfl)) dX1_costOfAll_34 ⟨Nat.le_of_ble_eq_true rfl, Nat.le_of_ble_eq_true rfl⟩) hS hA hP (fun r_6 H locs hw_6 hP hS => ?_)
    try dsimp only at hw_6
    refine lv_iadd hx hb dX1_costOfAll_37 ?_
    refine lv_topi (fun x_7 ex_7 => ?_)
    refine lv_istore_n (lv' := [(1, .int x_7), (3, .int (nI cn2_1)), (2, .int lf_1), (0, .ref z0)]) hx hb dX1_costOfAll_38 rfl hl (by decide) rfl (fun ls hl => ?_)
    refine lv_aload_n hx hb dX1_costOfAll_39 rfl (lv_at hl 3 rfl) ?_
    refine lv_iload_n hx hb dX1_costOfAll_40 rfl (lv_at hl 1 rfl) ?_
    refine lv_iload_n hx hb dX1_costOfAll_41 rfl (lv_at hl 2 rfl) ?_
    refine ro_i (D := D) (va_runV (As := [.int (nI cn2_1), .int lf_1]) (rest := []) ⟨hx, hb, hml, hown, hts⟩ ((x_leftBehind l D k st lo c0 z0 z1 z2 z3 pn pf pd pe pb cn2_1 lf_1 (by omega) (by omega) hpb) H.size) (cwV 2 hts (gV tw_834 tw_836 tw_19 tw_84 tw_837) rfl rfl rfl (by decide +kernel) ⟨Nat.le_of_ble_eq_true rfl, Nat.le_of_ble_eq_true rfl⟩) (pV hS hAlo hlo hP hK hDL hZ [0, 1] (by decide) rfl (ci := 1) (q0 := 0) rfl rfl) rfl rfl hl.1 rfl (lv_room (Nat.le_of_ble_eq_true rfl)) dX1_costOfAll_42 ⟨Nat.le_of_ble_eq_true rfl, Nat.le_of_ble_eq_true rfl⟩) hS hA hP (fun r_8 H locs hw_8 hP hS => ?_)
    try dsimp only at hw_8
    refine lv_istore_n (lv' := [(2, .int r_8), (1, .int x_7), (3, .int (nI cn2_1)), (0, .ref z0)]) hx hb dX1_costOfAll_45 rfl hl (by decide) rfl (fun ls hl => ?_)
    refine lv_iinc (v := (nI (cn2_1 + 1))) (lv' := [(3, .int (nI (cn2_1 + 1))), (2, .int r_8), (1, .int x_7), (0, .ref z0)]) hx hb dX1_costOfAll_46 hl (k := 2) rfl (nI_add cn2_1 1) (by decide) rfl (fun ls hl => ?_)
    refine lv_goto (tgt := 9) hx hb dX1_costOfAll_49 (by decide) ?_
    exact ih_1 _ (cn2_1 + 1, x_7, r_8) _ _ _ (by omega) ⟨rfl, (by omega), hP, hS, (lv_sub hl [0, 1, 2, 3] rfl)⟩


theorem dX1_changeInTurn_0 : decode cX1_changeInTurn 0 = .ok (.iconst 0, 1) := by decide +kernel
theorem dX1_changeInTurn_1 : decode cX1_changeInTurn 1 = .ok (.istore_n 1, 1) := by decide +kernel
theorem dX1_changeInTurn_2 : decode cX1_changeInTurn 2 = .ok (.aload_n 0, 1) := by decide +kernel
theorem dX1_changeInTurn_3 : decode cX1_changeInTurn 3 = .ok (.getfield 25, 3) := by decide +kernel
theorem dX1_changeInTurn_6 : decode cX1_changeInTurn 6 = .ok (.istore_n 2, 1) := by decide +kernel
theorem dX1_changeInTurn_7 : decode cX1_changeInTurn 7 = .ok (.iconst 0, 1) := by decide +kernel
theorem dX1_changeInTurn_8 : decode cX1_changeInTurn 8 = .ok (.istore_n 3, 1) := by decide +kernel
theorem dX1_changeInTurn_9 : decode cX1_changeInTurn 9 = .ok (.iload_n 3, 1) := by decide +kernel
theorem dX1_changeInTurn_10 : decode cX1_changeInTurn 10 = .ok (.aload_n 0, 1) := by decide +kernel
theorem dX1_changeInTurn_11 : decode cX1_changeInTurn 11 = .ok (.getfield 34, 3) := by decide +kernel
theorem dX1_changeInTurn_14 : decode cX1_changeInTurn 14 = .ok (.getfield 53, 3) := by decide +kernel
theorem dX1_changeInTurn_17 : decode cX1_changeInTurn 17 = .ok (.if_icmp .ge 45, 3) := by decide +kernel
theorem dX1_changeInTurn_20 : decode cX1_changeInTurn 20 = .ok (.aload_n 0, 1) := by decide +kernel
theorem dX1_changeInTurn_21 : decode cX1_changeInTurn 21 = .ok (.iload_n 3, 1) := by decide +kernel
theorem dX1_changeInTurn_22 : decode cX1_changeInTurn 22 = .ok (.iload_n 2, 1) := by decide +kernel
theorem dX1_changeInTurn_23 : decode cX1_changeInTurn 23 = .ok (.invokevirtual 83, 3) := by decide +kernel
theorem dX1_changeInTurn_26 : decode cX1_changeInTurn 26 = .ok (.istore 4, 2) := by decide +kernel
theorem dX1_changeInTurn_28 : decode cX1_changeInTurn 28 = .ok (.iload 4, 2) := by decide +kernel
theorem dX1_changeInTurn_30 : decode cX1_changeInTurn 30 = .ok (.aload_n 0, 1) := by decide +kernel
theorem dX1_changeInTurn_31 : decode cX1_changeInTurn 31 = .ok (.getfield 9, 3) := by decide +kernel
theorem dX1_changeInTurn_34 : decode cX1_changeInTurn 34 = .ok (.iload_n 3, 1) := by decide +kernel
theorem dX1_changeInTurn_35 : decode cX1_changeInTurn 35 = .ok (.iaload, 1) := by decide +kernel
theorem dX1_changeInTurn_36 : decode cX1_changeInTurn 36 = .ok (.if_icmp .eq 13, 3) := by decide +kernel
theorem dX1_changeInTurn_39 : decode cX1_changeInTurn 39 = .ok (.aload_n 0, 1) := by decide +kernel
theorem dX1_changeInTurn_40 : decode cX1_changeInTurn 40 = .ok (.getfield 9, 3) := by decide +kernel
theorem dX1_changeInTurn_43 : decode cX1_changeInTurn 43 = .ok (.iload_n 3, 1) := by decide +kernel
theorem dX1_changeInTurn_44 : decode cX1_changeInTurn 44 = .ok (.iload 4, 2) := by decide +kernel
theorem dX1_changeInTurn_46 : decode cX1_changeInTurn 46 = .ok (.iastore, 1) := by decide +kernel
theorem dX1_changeInTurn_47 : decode cX1_changeInTurn 47 = .ok (.iconst 1, 1) := by decide +kernel
theorem dX1_changeInTurn_48 : decode cX1_changeInTurn 48 = .ok (.istore_n 1, 1) := by decide +kernel
theorem dX1_changeInTurn_49 : decode cX1_changeInTurn 49 = .ok (.aload_n 0, 1) := by decide +kernel
theorem dX1_changeInTurn_50 : decode cX1_changeInTurn 50 = .ok (.iload_n 3, 1) := by decide +kernel
theorem dX1_changeInTurn_51 : decode cX1_changeInTurn 51 = .ok (.iload_n 2, 1) := by decide +kernel
theorem dX1_changeInTurn_52 : decode cX1_changeInTurn 52 = .ok (.invokevirtual 77, 3) := by decide +kernel
theorem dX1_changeInTurn_55 : decode cX1_changeInTurn 55 = .ok (.istore_n 2, 1) := by decide +kernel
theorem dX1_changeInTurn_56 : decode cX1_changeInTurn 56 = .ok (.iinc 3 1, 3) := by decide +kernel
theorem dX1_changeInTurn_59 : decode cX1_changeInTurn 59 = .ok (.goto (-50), 3) := by decide +kernel
theorem dX1_changeInTurn_62 : decode cX1_changeInTurn 62 = .ok (.iload_n 1, 1) := by decide +kernel
theorem dX1_changeInTurn_63 : decode cX1_changeInTurn 63 = .ok (.ireturn, 1) := by decide +kernel
set_option maxHeartbeats 4000000 in
set_option maxRecDepth 100000 in
theorem x_changeInTurn (l : Launch) (D : va_G) (k : Nat → ClassId) (st : Nat → Nat) (lo : Nat) (c0 : Nat) (z0 : Nat) (z1 : Nat) (z2 : Nat) (z3 : Nat) (pn : Nat) (pf : Int32) (pd : Int32) (pe : Int32) (pb : Nat → Nat) (pco : Nat → Int32) (c1 : Nat) (c2 : Nat) (cc : Nat) (rz : Nat) (ro : Int32) (sd : Int32) (hpn : pn ≤ 24) (hcc : cc ≤ 4) (hpb : ∀ j, pb j ≤ 24) : CWi l D k st lo yX1_changeInTurn cX1_changeInTurn 5 (some .boolean) ({ frames := 3, cells := 0, slots := 0, locals := 72 }) 0 0 [.ref z0] [(z0, .inr (1, [.ref c0, .ref z1, .ref z2, .ref z3, .int (nI pn), .int pf, .int pd, .int pe])), (z1, .inl (k 1, 4, .inl (nF pb))), (z2, .inl (k 1, 100, .inl pco)), (c0, .inr (4, [.ref c1, .ref c2, .int (nI cc), .int (nI rz), .int ro, .int sd]))] (fun (r : Int32) (pb_ : (Nat → Nat)) => (r = 1 ∨ r = 0) ∧ (∀ j, pb_ j ≤ 24)) (fun (pb_ : (Nat → Nat)) => [(z0, .inr (1, [.ref c0, .ref z1, .ref z2, .ref z3, .int (nI pn), .int pf, .int pd, .int pe])), (z1, .inl (k 1, 4, .inl (nF pb_))), (z2, .inl (k 1, 100, .inl pco)), (c0, .inr (4, [.ref c1, .ref c2, .int (nI cc), .int (nI rz), .int ro, .int sd]))]) := by
  intro sz
  refine Met.ofW (cc := cX1_changeInTurn) (maxL := 5) (ret := (some .boolean)) (by decide) rfl ?_
  intro p e s m args below meth c s₁ B hml hv
  obtain ⟨rfl, hsz, hlo, hP, hK, hDL, hZ⟩ := hv
  have hx := B.exec
  have hb := B.bytes
  have hr := B.returns
  have hts := WS_ts B.pre
  have hown : s.vm.findClass RX1 = some m.cls := findClass_of_methodNamed B.named
  have hlocks := B.notSynchronized
  subst hsz
  have hD := hDL.self (sz := s.heap.size)
  have hAlo := A_lo hDL hlo
  generalize hAe : va_A [(z0, .inr (1, [.ref c0, .ref z1, .ref z2, .ref z3, .int (nI pn), .int pf, .int pd, .int pe])), (z1, .inl (k 1, 4, .inl (nF pb))), (z2, .inl (k 1, 100, .inl pco)), (c0, .inr (4, [.ref c1, .ref c2, .int (nI cc), .int (nI rz), .int ro, .int sd]))] s.heap.size = A at hD hAlo ⊢
  have hA : ∀ q : Nat, s.heap.size ≤ q → A q := fun q h => by rw [← hAe]; exact Or.inr h
  have hS : va_S A s.heap s.heap [] := va_S.rf
  have hl := lv_entry ([.ref z0]) (n := 5) (Nat.le_of_ble_eq_true rfl)
  rw [lg_entry_eq]
  generalize (lg_sl ([.ref z0]) ++ List.replicate (5 - (lg_sl ([.ref z0])).length) Slot.unset).toArray = ls at hl ⊢
  have hl : lv_has ls 5 [(0, .ref z0)] := hl
  refine lv_iconst (v := 0) hx hb dX1_changeInTurn_0 (by decide) ?_
  refine lv_istore_n (lv' := [(1, .int 0), (0, .ref z0)]) hx hb dX1_changeInTurn_1 rfl hl (by decide) rfl (fun ls hl => ?_)
  refine lv_aload_n hx hb dX1_changeInTurn_2 rfl (lv_at hl 1 rfl) ?_
  refine va_get (D := D) (ci := 1) (v := .int pf) (C := RX1) (T := TX1) (N := 8) hx hb hts inX1 hown hK hP 0 rfl rfl 5 (by decide) (hts _ tw_241) (fun _ h9 => h9) rfl dX1_changeInTurn_3 ?_
  refine lv_istore_n (lv' := [(2, .int pf), (1, .int 0), (0, .ref z0)]) hx hb dX1_changeInTurn_6 rfl hl (by decide) rfl (fun ls hl => ?_)
  refine lv_iconst (v := 0) hx hb dX1_changeInTurn_7 (by decide) ?_
  refine lv_istore_n (lv' := [(3, .int 0), (2, .int pf), (1, .int 0), (0, .ref z0)]) hx hb dX1_changeInTurn_8 rfl hl (by decide) rfl (fun ls hl => ?_)
  refine W_loop (σ := Nat × Int32 × Int32 × (Nat → Nat)) (fun (n_ : Nat) (x_ : Nat × Int32 × Int32 × (Nat → Nat)) (H : Heap) (locs : List Loc) (ls : Array Slot) => match x_ with | (cn2_1, ch_1, lf_1, pb2_1) => n_ = 5 - cn2_1 ∧ ((cn2_1 ≤ 4 ∧ (ch_1 = 1 ∨ ch_1 = 0)) ∧ (∀ j, pb2_1 j ≤ 24)) ∧ va_P D classes [(z0, .inr (1, [.ref c0, .ref z1, .ref z2, .ref z3, .int (nI pn), .int pf, .int pd, .int pe])), (z1, .inl (k 1, 4, .inl (nF pb2_1))), (z2, .inl (k 1, 100, .inl pco)), (c0, .inr (4, [.ref c1, .ref c2, .int (nI cc), .int (nI rz), .int ro, .int sd]))] H ∧ va_D A [(z0, .inr (1, [.ref c0, .ref z1, .ref z2, .ref z3, .int (nI pn), .int pf, .int pd, .int pe])), (z1, .inl (k 1, 4, .inl (nF pb2_1))), (z2, .inl (k 1, 100, .inl pco)), (c0, .inr (4, [.ref c1, .ref c2, .int (nI cc), .int (nI rz), .int ro, .int sd]))] ∧ va_S A s.heap H locs ∧ lv_has ls 5 [(3, .int (nI cn2_1)), (2, .int lf_1), (1, .int ch_1), (0, .ref z0)]) (fun n_1 x_1 H locs ls hI ih_1 => ?_) _ (0, 0, pf, pb) ⟨rfl, ⟨⟨by omega, .inr rfl⟩, hpb⟩, hP, hD, hS, (lv_sub hl [0, 1, 2, 3] rfl)⟩
  obtain ⟨cn2_1, ch_1, lf_1, pb2_1⟩ := x_1
  obtain ⟨hm_1, hv_1, hP, hD, hS, hl⟩ := hI
  subst hm_1
  have hpl_1 := hv_1.2
  refine lv_iload_n hx hb dX1_changeInTurn_9 rfl (lv_at hl 0 rfl) ?_
  refine lv_aload_n hx hb dX1_changeInTurn_10 rfl (lv_at hl 3 rfl) ?_
  refine va_get (D := D) (ci := 1) (v := .ref c0) (C := RX1) (T := TX1) (N := 8) hx hb hts inX1 hown hK hP 0 rfl rfl 0 (by decide) (hts _ tw_235) (fun _ h9 => h9) rfl dX1_changeInTurn_11 ?_
  refine va_get (D := D) (ci := 4) (v := .int (nI cc)) (C := RX4) (T := TX4) (N := 6) hx hb hts inX4 hown hK hP 3 rfl rfl 2 (by decide) (hts _ tw_179) (fun _ h9 => h9) rfl dX1_changeInTurn_14 ?_
  refine lv_icmp_ge (tgt := 62) hx hb dX1_changeInTurn_17 (by decide) (fun c_2 => ?_) (fun c_2 => ?_)
  · have c_2 := (nI_leI (a := cc) (b := cn2_1) (by omega) (by omega)).mp c_2
    refine lv_iload_n hx hb dX1_changeInTurn_62 rfl (lv_at hl 2 rfl) ?_
    rcases hv_1.1.2 with hE_9 | hE_9
    · refine lv_ti (y := 1) hE_9 ?_
      have hP9 := hP.sub (ws' := [(z0, .inr (1, [.ref c0, .ref z1, .ref z2, .ref z3, .int (nI pn), .int pf, .int pd, .int pe])), (z1, .inl (k 1, 4, .inl (nF pb2_1))), (z2, .inl (k 1, 100, .inl pco)), (c0, .inr (4, [.ref c1, .ref c2, .int (nI cc), .int (nI rz), .int ro, .int sd]))]) [0, 1, 2, 3] rfl
      have hD9 := hD.sub (ws' := [(z0, .inr (1, [.ref c0, .ref z1, .ref z2, .ref z3, .int (nI pn), .int pf, .int pd, .int pe])), (z1, .inl (k 1, 4, .inl (nF pb2_1))), (z2, .inl (k 1, 100, .inl pco)), (c0, .inr (4, [.ref c1, .ref c2, .int (nI cc), .int (nI rz), .int ro, .int sd]))]) [0, 1, 2, 3] (by decide) rfl
      exact W.zret (v := 1) (ty := .boolean) hx hb hr rfl (fun t ht hW => ⟨⟨1, pb2_1, rfl, ⟨.inl rfl, hpl_1⟩, by rw [ht]; exact hP9, hD9⟩, hS.F ht⟩) hS.2.2 dX1_changeInTurn_63
    · refine lv_ti (y := 0) hE_9 ?_
      have hP9 := hP.sub (ws' := [(z0, .inr (1, [.ref c0, .ref z1, .ref z2, .ref z3, .int (nI pn), .int pf, .int pd, .int pe])), (z1, .inl (k 1, 4, .inl (nF pb2_1))), (z2, .inl (k 1, 100, .inl pco)), (c0, .inr (4, [.ref c1, .ref c2, .int (nI cc), .int (nI rz), .int ro, .int sd]))]) [0, 1, 2, 3] rfl
      have hD9 := hD.sub (ws' := [(z0, .inr (1, [.ref c0, .ref z1, .ref z2, .ref z3, .int (nI pn), .int pf, .int pd, .int pe])), (z1, .inl (k 1, 4, .inl (nF pb2_1))), (z2, .inl (k 1, 100, .inl pco)), (c0, .inr (4, [.ref c1, .ref c2, .int (nI cc), .int (nI rz), .int ro, .int sd]))]) [0, 1, 2, 3] (by decide) rfl
      exact W.zret (v := 0) (ty := .boolean) hx hb hr rfl (fun t ht hW => ⟨⟨0, pb2_1, rfl, ⟨.inr rfl, hpl_1⟩, by rw [ht]; exact hP9, hD9⟩, hS.F ht⟩) hS.2.2 dX1_changeInTurn_63
  · have c_2 : ¬ (cc ≤ cn2_1) := fun h => c_2 ((nI_leI (a := cc) (b := cn2_1) (by omega) (by omega)).mpr h)
    refine lv_aload_n hx hb dX1_changeInTurn_20 rfl (lv_at hl 3 rfl) ?_
    refine lv_iload_n hx hb dX1_changeInTurn_21 rfl (lv_at hl 0 rfl) ?_
    refine lv_iload_n hx hb dX1_changeInTurn_22 rfl (lv_at hl 1 rfl) ?_
    refine ro_i (D := D) (va_runV (As := [.int (nI cn2_1), .int lf_1]) (rest := []) ⟨hx, hb, hml, hown, hts⟩ ((x_bestBar l D k st lo c0 z0 z1 z2 z3 pn pf pd pe pb2_1 pco cn2_1 lf_1 (by omega) (by omega) hpl_1) H.size) (cwV 2 hts (gV tw_858 tw_860 tw_22 tw_84 tw_861) rfl rfl rfl (by decide +kernel) ⟨Nat.le_of_ble_eq_true rfl, Nat.le_of_ble_eq_true rfl⟩) (pV hS hAlo hlo hP hK (va_Dlo hD hAlo) hZ [0, 1, 2] (by decide) rfl (ci := 1) (q0 := 0) rfl rfl) rfl rfl hl.1 rfl (lv_room (Nat.le_of_ble_eq_true rfl)) dX1_changeInTurn_23 ⟨Nat.le_of_ble_eq_true rfl, Nat.le_of_ble_eq_true rfl⟩) hS hA hP (fun r_3 H locs hw_3 hP hS => ?_)
    try dsimp only at hw_3
    obtain ⟨zp_4, hzp_4, rfl⟩ := hw_3
    refine lv_istore (lv' := [(4, .int (nI zp_4)), (3, .int (nI cn2_1)), (2, .int lf_1), (1, .int ch_1), (0, .ref z0)]) hx hb dX1_changeInTurn_26 hl (by decide) rfl (fun ls hl => ?_)
    refine lv_iload hx hb dX1_changeInTurn_28 (lv_at hl 0 rfl) ?_
    refine lv_aload_n hx hb dX1_changeInTurn_30 rfl (lv_at hl 4 rfl) ?_
    refine va_get (D := D) (ci := 1) (v := .ref z1) (C := RX1) (T := TX1) (N := 8) hx hb hts inX1 hown hK hP 0 rfl rfl 1 (by decide) (hts _ tw_236) (fun _ h9 => h9) rfl dX1_changeInTurn_31 ?_
    refine lv_iload_n hx hb dX1_changeInTurn_34 rfl (lv_at hl 1 rfl) ?_
    refine va_iald hx hb hK hP 1 1 rfl rfl (vp_in_nI (by omega) (by decide)) dX1_changeInTurn_35 ?_
    have hq_5 := hpl_1 cn2_1
    refine lv_ti (y := (nI (pb2_1 cn2_1))) (by rw [nI_clamp (by omega)]; rfl) ?_
    refine lv_icmp_eq (tgt := 49) hx hb dX1_changeInTurn_36 (by decide) (fun c_6 => ?_) (fun c_6 => ?_)
    · have c_6 := (nI_eq (a := zp_4) (b := (pb2_1 cn2_1)) (by omega) (by omega)).mp c_6
      refine lv_aload_n hx hb dX1_changeInTurn_49 rfl (lv_at hl 4 rfl) ?_
      refine lv_iload_n hx hb dX1_changeInTurn_50 rfl (lv_at hl 1 rfl) ?_
      refine lv_iload_n hx hb dX1_changeInTurn_51 rfl (lv_at hl 2 rfl) ?_
      refine ro_i (D := D) (va_runV (As := [.int (nI cn2_1), .int lf_1]) (rest := []) ⟨hx, hb, hml, hown, hts⟩ ((x_leftBehind l D k st lo c0 z0 z1 z2 z3 pn pf pd pe pb2_1 cn2_1 lf_1 (by omega) (by omega) hpl_1) H.size) (cwV 2 hts (gV tw_834 tw_836 tw_19 tw_84 tw_837) rfl rfl rfl (by decide +kernel) ⟨Nat.le_of_ble_eq_true rfl, Nat.le_of_ble_eq_true rfl⟩) (pV hS hAlo hlo hP hK (va_Dlo hD hAlo) hZ [0, 1] (by decide) rfl (ci := 1) (q0 := 0) rfl rfl) rfl rfl hl.1 rfl (lv_room (Nat.le_of_ble_eq_true rfl)) dX1_changeInTurn_52 ⟨Nat.le_of_ble_eq_true rfl, Nat.le_of_ble_eq_true rfl⟩) hS hA hP (fun r_7 H locs hw_7 hP hS => ?_)
      try dsimp only at hw_7
      refine lv_istore_n (lv' := [(2, .int r_7), (4, .int (nI zp_4)), (3, .int (nI cn2_1)), (1, .int ch_1), (0, .ref z0)]) hx hb dX1_changeInTurn_55 rfl hl (by decide) rfl (fun ls hl => ?_)
      refine lv_iinc (v := (nI (cn2_1 + 1))) (lv' := [(3, .int (nI (cn2_1 + 1))), (2, .int r_7), (4, .int (nI zp_4)), (1, .int ch_1), (0, .ref z0)]) hx hb dX1_changeInTurn_56 hl (k := 2) rfl (nI_add cn2_1 1) (by decide) rfl (fun ls hl => ?_)
      refine lv_goto (tgt := 9) hx hb dX1_changeInTurn_59 (by decide) ?_
      exact ih_1 _ (cn2_1 + 1, ch_1, r_7, pb2_1) _ _ _ (by omega) ⟨rfl, ⟨⟨by omega, hv_1.1.2⟩, hpl_1⟩, hP, hD, hS, (lv_sub hl [0, 1, 3, 4] rfl)⟩
    · have c_6 : ¬ (zp_4 = (pb2_1 cn2_1)) := fun h => c_6 ((nI_eq (a := zp_4) (b := (pb2_1 cn2_1)) (by omega) (by omega)).mpr h)
      refine lv_aload_n hx hb dX1_changeInTurn_39 rfl (lv_at hl 4 rfl) ?_
      refine va_get (D := D) (ci := 1) (v := .ref z1) (C := RX1) (T := TX1) (N := 8) hx hb hts inX1 hown hK hP 0 rfl rfl 1 (by decide) (hts _ tw_236) (fun _ h9 => h9) rfl dX1_changeInTurn_40 ?_
      refine lv_iload_n hx hb dX1_changeInTurn_43 rfl (lv_at hl 1 rfl) ?_
      refine lv_iload hx hb dX1_changeInTurn_44 (lv_at hl 0 rfl) ?_
      refine va_iast hx hb hK hP hD hS 1 1 rfl rfl (vp_in_nI (by omega) (by decide)) dX1_changeInTurn_46 (fun H locs hP hD hS => ?_)
      replace hP : va_P D classes [(z0, .inr (1, [.ref c0, .ref z1, .ref z2, .ref z3, .int (nI pn), .int pf, .int pd, .int pe])), (z1, .inl (k 1, 4, .inl (upd (nF pb2_1) (Int32.toNatClampNeg (nI cn2_1)) (nI zp_4)))), (z2, .inl (k 1, 100, .inl pco)), (c0, .inr (4, [.ref c1, .ref c2, .int (nI cc), .int (nI rz), .int ro, .int sd]))] H := hP
      replace hD : va_D A [(z0, .inr (1, [.ref c0, .ref z1, .ref z2, .ref z3, .int (nI pn), .int pf, .int pd, .int pe])), (z1, .inl (k 1, 4, .inl (upd (nF pb2_1) (Int32.toNatClampNeg (nI cn2_1)) (nI zp_4)))), (z2, .inl (k 1, 100, .inl pco)), (c0, .inr (4, [.ref c1, .ref c2, .int (nI cc), .int (nI rz), .int ro, .int sd]))] := hD
      rw [nI_clamp (n := cn2_1) (by omega)] at hP hD
      rw [show upd (nF pb2_1) cn2_1 (nI zp_4) = nF (fun j => if j = cn2_1 then zp_4 else pb2_1 j) from nF_upd _ _ _] at hP hD
      obtain ⟨d_9, hd_9⟩ : ∃ z : Nat → Nat, z = (fun j => if j = cn2_1 then zp_4 else pb2_1 j) := ⟨_, rfl⟩
      rw [← hd_9] at hP hD
      have hbb_9 : ∀ j, d_9 j ≤ 24 := by rw [hd_9]; exact up_le hpl_1 (by omega)
      refine lv_iconst (v := 1) hx hb dX1_changeInTurn_47 (by decide) ?_
      refine lv_istore_n (lv' := [(1, .int 1), (4, .int (nI zp_4)), (3, .int (nI cn2_1)), (2, .int lf_1), (0, .ref z0)]) hx hb dX1_changeInTurn_48 rfl hl (by decide) rfl (fun ls hl => ?_)
      refine lv_aload_n hx hb dX1_changeInTurn_49 rfl (lv_at hl 4 rfl) ?_
      refine lv_iload_n hx hb dX1_changeInTurn_50 rfl (lv_at hl 2 rfl) ?_
      refine lv_iload_n hx hb dX1_changeInTurn_51 rfl (lv_at hl 3 rfl) ?_
      refine ro_i (D := D) (va_runV (As := [.int (nI cn2_1), .int lf_1]) (rest := []) ⟨hx, hb, hml, hown, hts⟩ ((x_leftBehind l D k st lo c0 z0 z1 z2 z3 pn pf pd pe d_9 cn2_1 lf_1 (by omega) (by omega) hbb_9) H.size) (cwV 2 hts (gV tw_834 tw_836 tw_19 tw_84 tw_837) rfl rfl rfl (by decide +kernel) ⟨Nat.le_of_ble_eq_true rfl, Nat.le_of_ble_eq_true rfl⟩) (pV hS hAlo hlo hP hK (va_Dlo hD hAlo) hZ [0, 1] (by decide) rfl (ci := 1) (q0 := 0) rfl rfl) rfl rfl hl.1 rfl (lv_room (Nat.le_of_ble_eq_true rfl)) dX1_changeInTurn_52 ⟨Nat.le_of_ble_eq_true rfl, Nat.le_of_ble_eq_true rfl⟩) hS hA hP (fun r_10 H locs hw_10 hP hS => ?_)
      try dsimp only at hw_10
      refine lv_istore_n (lv' := [(2, .int r_10), (1, .int 1), (4, .int (nI zp_4)), (3, .int (nI cn2_1)), (0, .ref z0)]) hx hb dX1_changeInTurn_55 rfl hl (by decide) rfl (fun ls hl => ?_)
      refine lv_iinc (v := (nI (cn2_1 + 1))) (lv' := [(3, .int (nI (cn2_1 + 1))), (2, .int r_10), (1, .int 1), (4, .int (nI zp_4)), (0, .ref z0)]) hx hb dX1_changeInTurn_56 hl (k := 3) rfl (nI_add cn2_1 1) (by decide) rfl (fun ls hl => ?_)
      refine lv_goto (tgt := 9) hx hb dX1_changeInTurn_59 (by decide) ?_
      exact ih_1 _ (cn2_1 + 1, 1, r_10, d_9) _ _ _ (by omega) ⟨rfl, ⟨⟨by omega, .inl rfl⟩, hbb_9⟩, hP, hD, hS, (lv_sub hl [0, 1, 2, 4] rfl)⟩


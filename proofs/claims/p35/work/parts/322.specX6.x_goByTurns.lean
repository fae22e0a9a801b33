theorem dX1_goByTurns_0 : decode cX1_goByTurns 0 = .ok (.iconst 0, 1) := by decide +kernel
theorem dX1_goByTurns_1 : decode cX1_goByTurns 1 = .ok (.istore_n 1, 1) := by decide +kernel
theorem dX1_goByTurns_2 : decode cX1_goByTurns 2 = .ok (.iload_n 1, 1) := by decide +kernel
theorem dX1_goByTurns_3 : decode cX1_goByTurns 3 = .ok (.bipush 50, 2) := by decide +kernel
theorem dX1_goByTurns_5 : decode cX1_goByTurns 5 = .ok (.if_icmp .ge 18, 3) := by decide +kernel
theorem dX1_goByTurns_8 : decode cX1_goByTurns 8 = .ok (.aload_n 0, 1) := by decide +kernel
theorem dX1_goByTurns_9 : decode cX1_goByTurns 9 = .ok (.invokevirtual 86, 3) := by decide +kernel
theorem dX1_goByTurns_12 : decode cX1_goByTurns 12 = .ok (.ifCond .ne 5, 3) := by decide +kernel
theorem dX1_goByTurns_15 : decode cX1_goByTurns 15 = .ok (.iload_n 1, 1) := by decide +kernel
theorem dX1_goByTurns_16 : decode cX1_goByTurns 16 = .ok (.ireturn, 1) := by decide +kernel
theorem dX1_goByTurns_17 : decode cX1_goByTurns 17 = .ok (.iinc 1 1, 3) := by decide +kernel
theorem dX1_goByTurns_20 : decode cX1_goByTurns 20 = .ok (.goto (-18), 3) := by decide +kernel
theorem dX1_goByTurns_23 : decode cX1_goByTurns 23 = .ok (.iconst (-1), 1) := by decide +kernel
theorem dX1_goByTurns_24 : decode cX1_goByTurns 24 = .ok (.ireturn, 1) := by decide +kernel
set_option maxHeartbeats 4000000 in
set_option maxRecDepth 100000 in
theorem x_goByTurns (l : Launch) (D : va_G) (k : Nat → ClassId) (st : Nat → Nat) (lo : Nat) (c0 : Nat) (z0 : Nat) (z1 : Nat) (z2 : Nat) (z3 : Nat) (pn : Nat) (pf : Int32) (pd : Int32) (pe : Int32) (pb : Nat → Nat) (pco : Nat → Int32) (c1 : Nat) (c2 : Nat) (cc : Nat) (rz : Nat) (ro : Int32) (sd : Int32) (hpn : pn ≤ 24) (hcc : cc ≤ 4) (hpb : ∀ j, pb j ≤ 24) : CWi l D k st lo yX1_goByTurns cX1_goByTurns 2 (some .int) ({ frames := 4, cells := 0, slots := 0, locals := 96 }) 0 0 [.ref z0] [(z0, .inr (1, [.ref c0, .ref z1, .ref z2, .ref z3, .int (nI pn), .int pf, .int pd, .int pe])), (z1, .inl (k 1, 4, .inl (nF pb))), (z2, .inl (k 1, 100, .inl pco)), (c0, .inr (4, [.ref c1, .ref c2, .int (nI cc), .int (nI rz), .int ro, .int sd]))] (fun (r : Int32) (pb_ : (Nat → Nat)) => ∀ j, pb_ j ≤ 24) (fun (pb_ : (Nat → Nat)) => [(z0, .inr (1, [.ref c0, .ref z1, .ref z2, .ref z3, .int (nI pn), .int pf, .int pd, .int pe])), (z1, .inl (k 1, 4, .inl (nF pb_))), (z2, .inl (k 1, 100, .inl pco)), (c0, .inr (4, [.ref c1, .ref c2, .int (nI cc), .int (nI rz), .int ro, .int sd]))]) := by
  intro sz
  refine Met.ofW (cc := cX1_goByTurns) (maxL := 2) (ret := (some .int)) (by decide) rfl ?_
  intro p e s m args below meth c s₁ B hml hv
  obtain ⟨rfl, hsz, hlo, hP, hK, hDL, hZ⟩ := hv
  have hx := B.exec
  have hb := B.bytes
  have hr := B.returns
  have hts := WS_ts B.pre
  have hown : s.vm.findClass RX1 = some m.cls := findClass_of_methodNamed B.named
  have hlocks := B.notSynchronized
  subst hsz
  have hD := hDL.self (sz := s.heap.size)
  have hAlo := A_lo hDL hlo
  generalize hAe : va_A [(z0, .inr (1, [.ref c0, .ref z1, .ref z2, .ref z3, .int (nI pn), .int pf, .int pd, .int pe])), (z1, .inl (k 1, 4, .inl (nF pb))), (z2, .inl (k 1, 100, .inl pco)), (c0, .inr (4, [.ref c1, .ref c2, .int (nI cc), .int (nI rz), .int ro, .int sd]))] s.heap.size = A at hD hAlo ⊢
  have hA : ∀ q : Nat, s.heap.size ≤ q → A q := fun q h => by rw [← hAe]; exact Or.inr h
  have hS : va_S A s.heap s.heap [] := va_S.rf
  have hl := lv_entry ([.ref z0]) (n := 2) (Nat.le_of_ble_eq_true rfl)
  rw [lg_entry_eq]
  generalize (lg_sl ([.ref z0]) ++ List.replicate (2 - (lg_sl ([.ref z0])).length) Slot.unset).toArray = ls at hl ⊢
  have hl : lv_has ls 2 [(0, .ref z0)] := hl
  refine lv_iconst (v := 0) hx hb dX1_goByTurns_0 (by decide) ?_
  refine lv_istore_n (lv' := [(1, .int 0), (0, .ref z0)]) hx hb dX1_goByTurns_1 rfl hl (by decide) rfl (fun ls hl => ?_)
  refine W_loop (σ := Nat × (Nat → Nat)) (fun (n_ : Nat) (x_ : Nat × (Nat → Nat)) (H : Heap) (locs : List Loc) (ls : Array Slot) => match x_ with | (tt_1, pb2_1) => n_ = 51 - tt_1 ∧ ((tt_1 ≤ 50) ∧ (∀ j, pb2_1 j ≤ 24)) ∧ va_P D classes [(z0, .inr (1, [.ref c0, .ref z1, .ref z2, .ref z3, .int (nI pn), .int pf, .int pd, .int pe])), (z1, .inl (k 1, 4, .inl (nF pb2_1))), (z2, .inl (k 1, 100, .inl pco)), (c0, .inr (4, [.ref c1, .ref c2, .int (nI cc), .int (nI rz), .int ro, .int sd]))] H ∧ va_D A [(z0, .inr (1, [.ref c0, .ref z1, .ref z2, .ref z3, .int (nI pn), .int pf, .int pd, .int pe])), (z1, .inl (k 1, 4, .inl (nF pb2_1))), (z2, .inl (k 1, 100, .inl pco)), (c0, .inr (4, [.ref c1, .ref c2, .int (nI cc), .int (nI rz), .int ro, .int sd]))] ∧ va_S A s.heap H locs ∧ lv_has ls 2 [(1, .int (nI tt_1)), (0, .ref z0)]) (fun n_1 x_1 H locs ls hI ih_1 => ?_) _ (0, pb) ⟨rfl, ⟨by omega, hpb⟩, hP, hD, hS, (lv_sub hl [0, 1] rfl)⟩
  obtain ⟨tt_1, pb2_1⟩ := x_1
  obtain ⟨hm_1, hv_1, hP, hD, hS, hl⟩ := hI
  subst hm_1
  have hpl_1 := hv_1.2
  refine lv_iload_n hx hb dX1_goByTurns_2 rfl (lv_at hl 0 rfl) ?_
  refine lv_bipush (v := 50) hx hb dX1_goByTurns_3 (by decide) ?_
  refine lv_icmp_ge (tgt := 23) hx hb dX1_goByTurns_5 (by decide) (fun c_2 => ?_) (fun c_2 => ?_)
  · have c_2 := (nI_leI (a := 50) (b := tt_1) (by omega) (by omega)).mp c_2
    refine lv_iconst (v := (-1)) hx hb dX1_goByTurns_23 (by decide) ?_
    have hP9 := hP.sub (ws' := [(z0, .inr (1, [.ref c0, .ref z1, .ref z2, .ref z3, .int (nI pn), .int pf, .int pd, .int pe])), (z1, .inl (k 1, 4, .inl (nF pb2_1))), (z2, .inl (k 1, 100, .inl pco)), (c0, .inr (4, [.ref c1, .ref c2, .int (nI cc), .int (nI rz), .int ro, .int sd]))]) [0, 1, 2, 3] rfl
    have hD9 := hD.sub (ws' := [(z0, .inr (1, [.ref c0, .ref z1, .ref z2, .ref z3, .int (nI pn), .int pf, .int pd, .int pe])), (z1, .inl (k 1, 4, .inl (nF pb2_1))), (z2, .inl (k 1, 100, .inl pco)), (c0, .inr (4, [.ref c1, .ref c2, .int (nI cc), .int (nI rz), .int ro, .int sd]))]) [0, 1, 2, 3] (by decide) rfl
    exact W.iret (v := (-1)) hx hb hr (fun t ht hW => ⟨⟨(-1), pb2_1, rfl, hpl_1, by rw [ht]; exact hP9, hD9⟩, hS.F ht⟩) hS.2.2 dX1_goByTurns_24
  · have c_2 : ¬ (50 ≤ tt_1) := fun h => c_2 ((nI_leI (a := 50) (b := tt_1) (by omega) (by omega)).mpr h)
    refine lv_aload_n hx hb dX1_goByTurns_8 rfl (lv_at hl 1 rfl) ?_
    refine rw_i (D := D) (wr := []) (va_runV (As := []) (rest := []) ⟨hx, hb, hml, hown, hts⟩ ((x_changeInTurn l D k st lo c0 z0 z1 z2 z3 pn pf pd pe pb2_1 pco c1 c2 cc rz ro sd (by omega) (by omega) hpl_1) H.size) (cwV 0 hts (gV tw_875 tw_877 tw_24 tw_84 tw_878) rfl rfl rfl (by decide +kernel) ⟨Nat.le_of_ble_eq_true rfl, Nat.le_of_ble_eq_true rfl⟩) (pV hS hAlo hlo hP hK (va_Dlo hD hAlo) hZ [0, 1, 2, 3] (by decide) rfl (ci := 1) (q0 := 0) rfl rfl) rfl rfl hl.1 rfl (lv_room (Nat.le_of_ble_eq_true rfl)) dX1_goByTurns_9 ⟨Nat.le_of_ble_eq_true rfl, Nat.le_of_ble_eq_true rfl⟩) hS hA hP hD [0, 1, 2, 3] [] rfl rfl (by decide) (by decide) (fun r_3 u H locs hw_3 hP hD hS => ?_)
    obtain ⟨pb__3, rfl⟩ : ∃ z, z = u := ⟨_, rfl⟩
    replace hP : va_P D classes [(z0, .inr (1, [.ref c0, .ref z1, .ref z2, .ref z3, .int (nI pn), .int pf, .int pd, .int pe])), (z1, .inl (k 1, 4, .inl (nF pb__3))), (z2, .inl (k 1, 100, .inl pco)), (c0, .inr (4, [.ref c1, .ref c2, .int (nI cc), .int (nI rz), .int ro, .int sd]))] H := hP
    replace hD : va_D A [(z0, .inr (1, [.ref c0, .ref z1, .ref z2, .ref z3, .int (nI pn), .int pf, .int pd, .int pe])), (z1, .inl (k 1, 4, .inl (nF pb__3))), (z2, .inl (k 1, 100, .inl pco)), (c0, .inr (4, [.ref c1, .ref c2, .int (nI cc), .int (nI rz), .int ro, .int sd]))] := hD
    try dsimp only at hw_3
    rcases hw_3 with ⟨rfl | rfl, hw_3⟩
    · refine lv_if_ne (tgt := 17) hx hb dX1_goByTurns_12 (by decide) (fun _ => ?_) (fun h => absurd h (by decide))
      refine lv_iinc (v := (nI (tt_1 + 1))) (lv' := [(1, .int (nI (tt_1 + 1))), (0, .ref z0)]) hx hb dX1_goByTurns_17 hl (k := 0) rfl (nI_add tt_1 1) (by decide) rfl (fun ls hl => ?_)
      refine lv_goto (tgt := 2) hx hb dX1_goByTurns_20 (by decide) ?_
      exact ih_1 _ (tt_1 + 1, pb__3) _ _ _ (by omega) ⟨rfl, ⟨by omega, hw_3⟩, hP, hD, hS, (lv_sub hl [0, 1] rfl)⟩
    · refine lv_if_ne (tgt := 17) hx hb dX1_goByTurns_12 (by decide) (fun h => absurd (by decide) h) (fun _ => ?_)
      refine lv_iload_n hx hb dX1_goByTurns_15 rfl (lv_at hl 0 rfl) ?_
      have hP9 := hP.sub (ws' := [(z0, .inr (1, [.ref c0, .ref z1, .ref z2, .ref z3, .int (nI pn), .int pf, .int pd, .int pe])), (z1, .inl (k 1, 4, .inl (nF pb__3))), (z2, .inl (k 1, 100, .inl pco)), (c0, .inr (4, [.ref c1, .ref c2, .int (nI cc), .int (nI rz), .int ro, .int sd]))]) [0, 1, 2, 3] rfl
      have hD9 := hD.sub (ws' := [(z0, .inr (1, [.ref c0, .ref z1, .ref z2, .ref z3, .int (nI pn), .int pf, .int pd, .int pe])), (z1, .inl (k 1, 4, .inl (nF pb__3))), (z2, .inl (k 1, 100, .inl pco)), (c0, .inr (4, [.ref c1, .ref c2, .int (nI cc), .int (nI rz), .int ro, .int sd]))]) [0, 1, 2, 3] (by decide) rfl
      exact W.iret (v := (nI tt_1)) hx hb hr (fun t ht hW => ⟨⟨(nI tt_1), pb__3, rfl, hw_3, by rw [ht]; exact hP9, hD9⟩, hS.F ht⟩) hS.2.2 dX1_goByTurns_16


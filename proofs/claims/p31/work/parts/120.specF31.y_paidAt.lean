
set_option maxHeartbeats 4000000 in
set_option maxRecDepth 100000 in
theorem y_paidAt (l : Launch) (D : va_G) (k : Nat → ClassId) (st : Nat → Nat) (lo : Nat) (c0 : Nat) (z0 : Nat) (z1 : Nat) (z2 : Nat) (z3 : Nat) (pn : Nat) (pf : Nat) (pd : Int32) (pe : Int32) (pco : Nat → Int32) (cn : Nat) (pq : Nat) (hcn : cn < 4) (hpq : pq ≤ 24) (hpn : pn ≤ 24) : CRi l D k st lo yX1_paidAt cX1_paidAt 4 (some .int) ({ frames := 1, cells := 0, slots := 0, locals := 22 }) [.ref z0, .int (nI cn), .int (nI pq)] [(z0, .inr (1, (fX1 c0 z1 z2 z3 (nI pn) (nI pf) pd pe))), (aI k z2 100 pco)] (fun r => r = kx pco pd pe pn cn pq) := by
  intro sz
  refine Met.ofW (cc := cX1_paidAt) (maxL := 4) (ret := (some .int)) (by decide) rfl ?_
  intro p e s m args below meth c s₁ B hml hv
  obtain ⟨rfl, hsz, hlo, hP, hK, hDL, hZ⟩ := hv
  have hx := B.exec
  have hb := B.bytes
  have hr := B.returns
  have hts := WS_ts B.pre
  have hown : s.vm.findClass RX1 = some m.cls := findClass_of_methodNamed B.named
  have hlocks := B.notSynchronized
  subst hsz
  have hA : ∀ q : Nat, s.heap.size ≤ q → (fun q : Nat => s.heap.size ≤ q) q := fun _ h => h
  have hAlo : ∀ q : Nat, (fun q : Nat => s.heap.size ≤ q) q → lo ≤ q := fun q h => Nat.le_trans hlo h
  have hS : va_S (fun q : Nat => s.heap.size ≤ q) s.heap s.heap [] := va_S.rf
  have hl := lv_entry ([.ref z0, .int (nI cn), .int (nI pq)]) (n := 4) (Nat.le_of_ble_eq_true rfl)
  rw [lg_entry_eq]
  generalize (lg_sl ([.ref z0, .int (nI cn), .int (nI pq)]) ++ List.replicate (4 - (lg_sl ([.ref z0, .int (nI cn), .int (nI pq)])).length) Slot.unset).toArray = ls at hl ⊢
  have hl : lv_has ls 4 [(0, .ref z0), (1, .int (nI cn)), (2, .int (nI pq))] := hl
  refine lv_iload_n hx hb dX1_paidAt_0 rfl (lv_at hl 2 rfl) ?_
  refine lv_aload_n hx hb dX1_paidAt_1 rfl (lv_at hl 0 rfl) ?_
  refine va_get (D := D) (ci := 1) (v := .int pd) (C := RX1) (T := TX1) (N := 8) hx hb hts inX1 hown hK hP 0 rfl rfl 6 (by decide) (hts _ tw_242) (fun _ h9 => h9) rfl dX1_paidAt_2 ?_
  refine lv_icmp_lt (tgt := 20) hx hb dX1_paidAt_5 (by decide) (fun c_1 => ?_) (fun c_1 => ?_)
  · refine lv_iconst (v := 0) hx hb dX1_paidAt_20 (by decide) ?_
    refine lv_istore_n (lv' := [(3, .int 0), (0, .ref z0), (1, .int (nI cn)), (2, .int (nI pq))]) hx hb dX1_paidAt_21 rfl hl (by decide) rfl (fun ls hl => ?_)
    refine lv_aload_n hx hb dX1_paidAt_22 rfl (lv_at hl 1 rfl) ?_
    refine lv_iload_n hx hb dX1_paidAt_23 rfl (lv_at hl 2 rfl) ?_
    refine lv_iload_n hx hb dX1_paidAt_24 rfl (lv_at hl 3 rfl) ?_
    refine ro_i (D := D) (va_runV (As := [.int (nI cn), .int (nI pq)]) (rest := []) ⟨hx, hb, hml, hown, hts⟩ ((y_costAt l D k st lo c0 z0 z1 z2 z3 pn pf pd pe pco cn pq (by first | assumption | omega) (by first | assumption | omega)) s.heap.size) (cwV 2 hts (gV tw_866 tw_843 tw_844 tw_84 tw_845) rfl rfl rfl (by decide +kernel) ⟨Nat.le_of_ble_eq_true rfl, Nat.le_of_ble_eq_true rfl⟩) (pV hS hAlo hlo hP hK hDL hZ [0, 1] (by decide) rfl (ci := 1) (q := (RX1, TX1, 8)) (q0 := 0) rfl rfl) rfl rfl hl.1 rfl (lv_room (Nat.le_of_ble_eq_true rfl)) dX1_paidAt_25 ⟨Nat.le_of_ble_eq_true rfl, Nat.le_of_ble_eq_true rfl⟩) hS hA hP (fun r_2 H locs hw_2 hP hS => ?_)
    try dsimp only at hw_2
    refine lv_iload_n hx hb dX1_paidAt_28 rfl (lv_at hl 0 rfl) ?_
    refine lv_if_eq (tgt := 39) hx hb dX1_paidAt_29 (by decide) (fun _ => ?_) (fun h => absurd (by decide) h)
    refine lv_iconst (v := 0) hx hb dX1_paidAt_39 (by decide) ?_
    refine lv_iadd hx hb dX1_paidAt_40 ?_
    refine lv_topi (fun x_3 ex_3 => ?_)
    exact W.iret (v := x_3) hx hb hr (fun t ht hW => ⟨⟨x_3, (), rfl, (by rw [ex_3, hw_2]; exact kx_n (fun q => absurd q.1 (Int32.not_le.mpr c_1))), trivial⟩, hS.F ht⟩) hS.2.2 dX1_paidAt_41
  · refine lv_iload_n hx hb dX1_paidAt_8 rfl (lv_at hl 2 rfl) ?_
    refine lv_aload_n hx hb dX1_paidAt_9 rfl (lv_at hl 0 rfl) ?_
    refine va_get (D := D) (ci := 1) (v := .int (nI pn)) (C := RX1) (T := TX1) (N := 8) hx hb hts inX1 hown hK hP 0 rfl rfl 4 (by decide) (hts _ tw_240) (fun _ h9 => h9) rfl dX1_paidAt_10 ?_
    refine lv_icmp_ge (tgt := 20) hx hb dX1_paidAt_13 (by decide) (fun c_4 => ?_) (fun c_4 => ?_)
    · have c_4 := (nI_leI (a := pn) (b := pq) (by omega) (by omega)).mp c_4
      refine lv_iconst (v := 0) hx hb dX1_paidAt_20 (by decide) ?_
      refine lv_istore_n (lv' := [(3, .int 0), (0, .ref z0), (1, .int (nI cn)), (2, .int (nI pq))]) hx hb dX1_paidAt_21 rfl hl (by decide) rfl (fun ls hl => ?_)
      refine lv_aload_n hx hb dX1_paidAt_22 rfl (lv_at hl 1 rfl) ?_
      refine lv_iload_n hx hb dX1_paidAt_23 rfl (lv_at hl 2 rfl) ?_
      refine lv_iload_n hx hb dX1_paidAt_24 rfl (lv_at hl 3 rfl) ?_
      refine ro_i (D := D) (va_runV (As := [.int (nI cn), .int (nI pq)]) (rest := []) ⟨hx, hb, hml, hown, hts⟩ ((y_costAt l D k st lo c0 z0 z1 z2 z3 pn pf pd pe pco cn pq (by first | assumption | omega) (by first | assumption | omega)) s.heap.size) (cwV 2 hts (gV tw_866 tw_843 tw_844 tw_84 tw_845) rfl rfl rfl (by decide +kernel) ⟨Nat.le_of_ble_eq_true rfl, Nat.le_of_ble_eq_true rfl⟩) (pV hS hAlo hlo hP hK hDL hZ [0, 1] (by decide) rfl (ci := 1) (q := (RX1, TX1, 8)) (q0 := 0) rfl rfl) rfl rfl hl.1 rfl (lv_room (Nat.le_of_ble_eq_true rfl)) dX1_paidAt_25 ⟨Nat.le_of_ble_eq_true rfl, Nat.le_of_ble_eq_true rfl⟩) hS hA hP (fun r_5 H locs hw_5 hP hS => ?_)
      try dsimp only at hw_5
      refine lv_iload_n hx hb dX1_paidAt_28 rfl (lv_at hl 0 rfl) ?_
      refine lv_if_eq (tgt := 39) hx hb dX1_paidAt_29 (by decide) (fun _ => ?_) (fun h => absurd (by decide) h)
      refine lv_iconst (v := 0) hx hb dX1_paidAt_39 (by decide) ?_
      refine lv_iadd hx hb dX1_paidAt_40 ?_
      refine lv_topi (fun x_6 ex_6 => ?_)
      exact W.iret (v := x_6) hx hb hr (fun t ht hW => ⟨⟨x_6, (), rfl, (by rw [ex_6, hw_5]; exact kx_n (fun q => absurd q.2 (by omega))), trivial⟩, hS.F ht⟩) hS.2.2 dX1_paidAt_41
    · have c_4 : ¬ (pn ≤ pq) := fun h => c_4 ((nI_leI (a := pn) (b := pq) (by omega) (by omega)).mpr h)
      refine lv_iconst (v := 1) hx hb dX1_paidAt_16 (by decide) ?_
      refine lv_goto (tgt := 21) hx hb dX1_paidAt_17 (by decide) ?_
      refine lv_istore_n (lv' := [(3, .int 1), (0, .ref z0), (1, .int (nI cn)), (2, .int (nI pq))]) hx hb dX1_paidAt_21 rfl hl (by decide) rfl (fun ls hl => ?_)
      refine lv_aload_n hx hb dX1_paidAt_22 rfl (lv_at hl 1 rfl) ?_
      refine lv_iload_n hx hb dX1_paidAt_23 rfl (lv_at hl 2 rfl) ?_
      refine lv_iload_n hx hb dX1_paidAt_24 rfl (lv_at hl 3 rfl) ?_
      refine ro_i (D := D) (va_runV (As := [.int (nI cn), .int (nI pq)]) (rest := []) ⟨hx, hb, hml, hown, hts⟩ ((y_costAt l D k st lo c0 z0 z1 z2 z3 pn pf pd pe pco cn pq (by first | assumption | omega) (by first | assumption | omega)) s.heap.size) (cwV 2 hts (gV tw_866 tw_843 tw_844 tw_84 tw_845) rfl rfl rfl (by decide +kernel) ⟨Nat.le_of_ble_eq_true rfl, Nat.le_of_ble_eq_true rfl⟩) (pV hS hAlo hlo hP hK hDL hZ [0, 1] (by decide) rfl (ci := 1) (q := (RX1, TX1, 8)) (q0 := 0) rfl rfl) rfl rfl hl.1 rfl (lv_room (Nat.le_of_ble_eq_true rfl)) dX1_paidAt_25 ⟨Nat.le_of_ble_eq_true rfl, Nat.le_of_ble_eq_true rfl⟩) hS hA hP (fun r_7 H locs hw_7 hP hS => ?_)
      try dsimp only at hw_7
      refine lv_iload_n hx hb dX1_paidAt_28 rfl (lv_at hl 0 rfl) ?_
      refine lv_if_eq (tgt := 39) hx hb dX1_paidAt_29 (by decide) (fun h => absurd h (by decide)) (fun _ => ?_)
      refine lv_aload_n hx hb dX1_paidAt_32 rfl (lv_at hl 1 rfl) ?_
      refine va_get (D := D) (ci := 1) (v := .int pe) (C := RX1) (T := TX1) (N := 8) hx hb hts inX1 hown hK hP 0 rfl rfl 7 (by decide) (hts _ tw_243) (fun _ h9 => h9) rfl dX1_paidAt_33 ?_
      refine lv_goto (tgt := 40) hx hb dX1_paidAt_36 (by decide) ?_
      refine lv_iadd hx hb dX1_paidAt_40 ?_
      refine lv_topi (fun x_8 ex_8 => ?_)
      exact W.iret (v := x_8) hx hb hr (fun t ht hW => ⟨⟨x_8, (), rfl, (by rw [ex_8, hw_7]; exact kx_y (Int32.not_lt.mp c_1) (by omega)), trivial⟩, hS.F ht⟩) hS.2.2 dX1_paidAt_41


set_option maxHeartbeats 4000000 in
set_option maxRecDepth 100000 in
theorem y_placeFrom (l : Launch) (D : va_G) (k : Nat → ClassId) (st : Nat → Nat) (lo : Nat) (c0 : Nat) (z0 : Nat) (z1 : Nat) (z2 : Nat) (z3 : Nat) (pn : Nat) (pf : Nat) (pd : Int32) (pe : Int32) (bb : Nat) (lf : Nat) (hpn : pn ≤ 24) (hbb : bb ≤ 24) (hlf : lf < 16777216) : CRi l D k st lo yX1_placeFrom cX1_placeFrom 4 (some .int) ({ frames := 0, cells := 0, slots := 0, locals := 0 }) [.ref z0, .int (nI bb), .int (nI lf)] [(z0, .inr (1, (fX1 c0 z1 z2 z3 (nI pn) (nI pf) pd pe)))] (fun r => r = nI (plc pn lf bb)) := by
  intro sz
  refine Met.ofW (cc := cX1_placeFrom) (maxL := 4) (ret := (some .int)) (by decide) rfl ?_
  intro p e s m args below meth c s₁ B hml hv
  obtain ⟨rfl, hsz, hlo, hP, hK, hDL, hZ⟩ := hv
  have hx := B.exec
  have hb := B.bytes
  have hr := B.returns
  have hts := WS_ts B.pre
  have hown : s.vm.findClass RX1 = some m.cls := findClass_of_methodNamed B.named
  have hlocks := B.notSynchronized
  subst hsz
  have hA : ∀ q : Nat, s.heap.size ≤ q → (fun q : Nat => s.heap.size ≤ q) q := fun _ h => h
  have hAlo : ∀ q : Nat, (fun q : Nat => s.heap.size ≤ q) q → lo ≤ q := fun q h => Nat.le_trans hlo h
  have hS : va_S (fun q : Nat => s.heap.size ≤ q) s.heap s.heap [] := va_S.rf
  have hl := lv_entry ([.ref z0, .int (nI bb), .int (nI lf)]) (n := 4) (Nat.le_of_ble_eq_true rfl)
  rw [lg_entry_eq]
  generalize (lg_sl ([.ref z0, .int (nI bb), .int (nI lf)]) ++ List.replicate (4 - (lg_sl ([.ref z0, .int (nI bb), .int (nI lf)])).length) Slot.unset).toArray = ls at hl ⊢
  have hl : lv_has ls 4 [(0, .ref z0), (1, .int (nI bb)), (2, .int (nI lf))] := hl
  refine lv_iload_n hx hb dX1_placeFrom_0 rfl (lv_at hl 1 rfl) ?_
  refine lv_istore_n (lv' := [(3, .int (nI bb)), (0, .ref z0), (1, .int (nI bb)), (2, .int (nI lf))]) hx hb dX1_placeFrom_1 rfl hl (by decide) rfl (fun ls hl => ?_)
  refine W_loop (σ := Nat) (fun (n_ : Nat) (ii_1 : Nat) (H : Heap) (locs : List Loc) (ls : Array Slot) => n_ = 25 - ii_1 ∧ (ii_1 ≤ 24 ∧ plc pn lf ii_1 = plc pn lf bb) ∧ va_P D classes [(z0, .inr (1, (fX1 c0 z1 z2 z3 (nI pn) (nI pf) pd pe)))] H ∧ va_S (fun q : Nat => s.heap.size ≤ q) s.heap H locs ∧ lv_has ls 4 [(3, .int (nI ii_1)), (0, .ref z0), (1, .int (nI bb)), (2, .int (nI lf))]) (fun n_1 x_1 H locs ls hI ih_1 => ?_) _ bb ⟨rfl, ⟨by omega, rfl⟩, hP, hS, (lv_sub hl [0, 1, 2, 3] rfl)⟩
  obtain ⟨ii_1, rfl⟩ : ∃ z, z = x_1 := ⟨_, rfl⟩
  obtain ⟨hm_1, hv_1, hP, hS, hl⟩ := hI
  subst hm_1
  refine lv_iload_n hx hb dX1_placeFrom_2 rfl (lv_at hl 0 rfl) ?_
  refine lv_aload_n hx hb dX1_placeFrom_3 rfl (lv_at hl 1 rfl) ?_
  refine va_get (D := D) (ci := 1) (v := .int (nI pn)) (C := RX1) (T := TX1) (N := 8) hx hb hts inX1 hown hK hP 0 rfl rfl 4 (by decide) (hts _ tw_240) (fun _ h9 => h9) rfl dX1_placeFrom_4 ?_
  refine lv_icmp_ge (tgt := 26) hx hb dX1_placeFrom_7 (by decide) (fun c_2 => ?_) (fun c_2 => ?_)
  · have c_2 := (nI_leI (a := pn) (b := ii_1) (by omega) (by omega)).mp c_2
    refine lv_aload_n hx hb dX1_placeFrom_26 rfl (lv_at hl 1 rfl) ?_
    refine va_get (D := D) (ci := 1) (v := .int (nI pn)) (C := RX1) (T := TX1) (N := 8) hx hb hts inX1 hown hK hP 0 rfl rfl 4 (by decide) (hts _ tw_240) (fun _ h9 => h9) rfl dX1_placeFrom_27 ?_
    exact W.iret (v := (nI pn)) hx hb hr (fun t ht hW => ⟨⟨(nI pn), (), rfl, (congrArg nI ((pl_out (by omega)).symm.trans hv_1.2)), trivial⟩, hS.F ht⟩) hS.2.2 dX1_placeFrom_30
  · have c_2 : ¬ (pn ≤ ii_1) := fun h => c_2 ((nI_leI (a := pn) (b := ii_1) (by omega) (by omega)).mpr h)
    refine lv_iload_n hx hb dX1_placeFrom_10 rfl (lv_at hl 3 rfl) ?_
    refine lv_iload_n hx hb dX1_placeFrom_11 rfl (lv_at hl 0 rfl) ?_
    refine lv_ishr hx hb dX1_placeFrom_12 ?_
    refine lv_ti (y := (nI (lf / 2 ^ ii_1))) (shr24 (by omega) (by omega)) ?_
    refine lv_iconst (v := 1) hx hb dX1_placeFrom_13 (by decide) ?_
    refine lv_iand hx hb dX1_placeFrom_14 ?_
    refine lv_ti (y := (nI ((lf / 2 ^ ii_1) % 2))) and_1 ?_
    refine lv_if_eq (tgt := 20) hx hb dX1_placeFrom_15 (by decide) (fun c_3 => ?_) (fun c_3 => ?_)
    · have c_3 := (nI_eq (a := ((lf / 2 ^ ii_1) % 2)) (b := 0) (by omega) (by omega)).mp c_3
      refine lv_iinc (v := (nI (ii_1 + 1))) (lv' := [(3, .int (nI (ii_1 + 1))), (0, .ref z0), (1, .int (nI bb)), (2, .int (nI lf))]) hx hb dX1_placeFrom_20 hl (k := 0) rfl (nI_add ii_1 1) (by decide) rfl (fun ls hl => ?_)
      refine lv_goto (tgt := 2) hx hb dX1_placeFrom_23 (by decide) ?_
      exact ih_1 _ (ii_1 + 1) _ _ _ (by omega) ⟨rfl, ⟨by omega, (pl_n (by omega) (by omega)).symm.trans hv_1.2⟩, hP, hS, (lv_sub hl [0, 1, 2, 3] rfl)⟩
    · have c_3 : ¬ (((lf / 2 ^ ii_1) % 2) = 0) := fun h => c_3 ((nI_eq (a := ((lf / 2 ^ ii_1) % 2)) (b := 0) (by omega) (by omega)).mpr h)
      refine lv_iload_n hx hb dX1_placeFrom_18 rfl (lv_at hl 0 rfl) ?_
      exact W.iret (v := (nI ii_1)) hx hb hr (fun t ht hW => ⟨⟨(nI ii_1), (), rfl, (congrArg nI ((pl_y (by omega) (by omega)).symm.trans hv_1.2)), trivial⟩, hS.F ht⟩) hS.2.2 dX1_placeFrom_19


set_option maxHeartbeats 4000000 in
set_option maxRecDepth 100000 in
theorem y_leftBehind (l : Launch) (D : va_G) (k : Nat → ClassId) (st : Nat → Nat) (lo : Nat) (c0 : Nat) (z0 : Nat) (z1 : Nat) (z2 : Nat) (z3 : Nat) (pn : Nat) (pf : Nat) (pd : Int32) (pe : Int32) (pb : Nat → Nat) (cn : Nat) (lf : Nat) (hpn : pn ≤ 24) (hcn : cn < 4) (hpb : ∀ j, pb j ≤ 24) (hlf : lf < 16777216) : CRi l D k st lo yX1_leftBehind cX1_leftBehind 3 (some .int) ({ frames := 1, cells := 0, slots := 0, locals := 23 }) [.ref z0, .int (nI cn), .int (nI lf)] [(z0, .inr (1, (fX1 c0 z1 z2 z3 (nI pn) (nI pf) pd pe))), (aI k z1 4 (nF pb))] (fun r => r = nI (rmv lf (plc pn lf (pb cn)))) := by
  intro sz
  refine Met.ofW (cc := cX1_leftBehind) (maxL := 3) (ret := (some .int)) (by decide) rfl ?_
  intro p e s m args below meth c s₁ B hml hv
  obtain ⟨rfl, hsz, hlo, hP, hK, hDL, hZ⟩ := hv
  have hx := B.exec
  have hb := B.bytes
  have hr := B.returns
  have hts := WS_ts B.pre
  have hown : s.vm.findClass RX1 = some m.cls := findClass_of_methodNamed B.named
  have hlocks := B.notSynchronized
  subst hsz
  have hA : ∀ q : Nat, s.heap.size ≤ q → (fun q : Nat => s.heap.size ≤ q) q := fun _ h => h
  have hAlo : ∀ q : Nat, (fun q : Nat => s.heap.size ≤ q) q → lo ≤ q := fun q h => Nat.le_trans hlo h
  have hS : va_S (fun q : Nat => s.heap.size ≤ q) s.heap s.heap [] := va_S.rf
  have hl := lv_entry ([.ref z0, .int (nI cn), .int (nI lf)]) (n := 3) (Nat.le_of_ble_eq_true rfl)
  rw [lg_entry_eq]
  generalize (lg_sl ([.ref z0, .int (nI cn), .int (nI lf)]) ++ List.replicate (3 - (lg_sl ([.ref z0, .int (nI cn), .int (nI lf)])).length) Slot.unset).toArray = ls at hl ⊢
  have hl : lv_has ls 3 [(0, .ref z0), (1, .int (nI cn)), (2, .int (nI lf))] := hl
  refine lv_iload_n hx hb dX1_leftBehind_0 rfl (lv_at hl 2 rfl) ?_
  refine lv_iconst (v := 1) hx hb dX1_leftBehind_1 (by decide) ?_
  refine lv_aload_n hx hb dX1_leftBehind_2 rfl (lv_at hl 0 rfl) ?_
  refine lv_aload_n hx hb dX1_leftBehind_3 rfl (lv_at hl 0 rfl) ?_
  refine va_get (D := D) (ci := 1) (v := .ref z1) (C := RX1) (T := TX1) (N := 8) hx hb hts inX1 hown hK hP 0 rfl rfl 1 (by decide) (hts _ tw_236) (fun _ h9 => h9) rfl dX1_leftBehind_4 ?_
  refine lv_iload_n hx hb dX1_leftBehind_7 rfl (lv_at hl 1 rfl) ?_
  refine va_iald hx hb hK hP 1 1 rfl rfl (vp_in_nI (by omega) (by decide)) dX1_leftBehind_8 ?_
  have hq_1 := hpb cn
  refine lv_ti (y := (nI (pb cn))) (by rw [nI_clamp (by omega)]; rfl) ?_
  refine lv_iload_n hx hb dX1_leftBehind_9 rfl (lv_at hl 2 rfl) ?_
  refine ro_i (D := D) (va_runV (As := [.int (nI (pb cn)), .int (nI lf)]) (rest := [.int 1, .int (nI lf)]) ⟨hx, hb, hml, hown, hts⟩ ((y_placeFrom l D k st lo c0 z0 z1 z2 z3 pn pf pd pe (pb cn) lf (by first | assumption | omega) (by first | assumption | omega) (by first | assumption | omega)) s.heap.size) (cwV 2 hts (gV tw_838 tw_840 tw_20 tw_84 tw_841) rfl rfl rfl (by decide +kernel) ⟨Nat.le_of_ble_eq_true rfl, Nat.le_of_ble_eq_true rfl⟩) (pV hS hAlo hlo hP hK hDL hZ [0] (by decide) rfl (ci := 1) (q := (RX1, TX1, 8)) (q0 := 0) rfl rfl) rfl rfl hl.1 rfl (lv_room (Nat.le_of_ble_eq_true rfl)) dX1_leftBehind_10 ⟨Nat.le_of_ble_eq_true rfl, Nat.le_of_ble_eq_true rfl⟩) hS hA hP (fun r_2 H locs hw_2 hP hS => ?_)
  try dsimp only at hw_2
  obtain ⟨zp_3, ezp_3⟩ : ∃ z : Nat, z = plc pn lf (pb cn) := ⟨_, rfl⟩
  rw [← ezp_3] at hw_2
  subst hw_2
  have hzp_3 : zp_3 ≤ pn := by rw [ezp_3]; exact pl_le
  refine lv_ishl hx hb dX1_leftBehind_13 ?_
  refine lv_topi (fun x_4 ex_4 => ?_)
  refine lv_iconst (v := (-1)) hx hb dX1_leftBehind_14 (by decide) ?_
  refine lv_ixor hx hb dX1_leftBehind_15 ?_
  refine lv_topi (fun x_5 ex_5 => ?_)
  refine lv_iand hx hb dX1_leftBehind_16 ?_
  refine lv_topi (fun x_6 ex_6 => ?_)
  exact W.iret (v := x_6) hx hb hr (fun t ht hW => ⟨⟨x_6, (), rfl, (by rw [ex_6, ex_5, ex_4, ← ezp_3]; exact rm_and (by omega)), trivial⟩, hS.F ht⟩) hS.2.2 dX1_leftBehind_17


set_option maxHeartbeats 4000000 in
set_option maxRecDepth 100000 in
theorem y_bestBar (l : Launch) (D : va_G) (k : Nat → ClassId) (st : Nat → Nat) (lo : Nat) (c0 : Nat) (z0 : Nat) (z1 : Nat) (z2 : Nat) (z3 : Nat) (pn : Nat) (pf : Nat) (pd : Int32) (pe : Int32) (pb : Nat → Nat) (pco : Nat → Int32) (cn : Nat) (lf : Nat) (hpn : pn ≤ 24) (hcn : cn < 4) (hpb : ∀ j, pb j ≤ 24) (hlf : lf < 16777216) (hob : pb cn ≤ pn) : CRi l D k st lo yX1_bestBar cX1_bestBar 8 (some .int) ({ frames := 2, cells := 0, slots := 0, locals := 45 }) [.ref z0, .int (nI cn), .int (nI lf)] [(z0, .inr (1, (fX1 c0 z1 z2 z3 (nI pn) (nI pf) pd pe))), (aI k z1 4 (nF pb)), (aI k z2 100 pco)] (fun r => r = nI (bsF pn (fun b => kx pco pd pe pn cn (plc pn lf b)) (pb cn))) := by
  intro sz
  refine Met.ofW (cc := cX1_bestBar) (maxL := 8) (ret := (some .int)) (by decide) rfl ?_
  intro p e s m args below meth c s₁ B hml hv
  obtain ⟨rfl, hsz, hlo, hP, hK, hDL, hZ⟩ := hv
  have hx := B.exec
  have hb := B.bytes
  have hr := B.returns
  have hts := WS_ts B.pre
  have hown : s.vm.findClass RX1 = some m.cls := findClass_of_methodNamed B.named
  have hlocks := B.notSynchronized
  subst hsz
  have hA : ∀ q : Nat, s.heap.size ≤ q → (fun q : Nat => s.heap.size ≤ q) q := fun _ h => h
  have hAlo : ∀ q : Nat, (fun q : Nat => s.heap.size ≤ q) q → lo ≤ q := fun q h => Nat.le_trans hlo h
  have hS : va_S (fun q : Nat => s.heap.size ≤ q) s.heap s.heap [] := va_S.rf
  have hl := lv_entry ([.ref z0, .int (nI cn), .int (nI lf)]) (n := 8) (Nat.le_of_ble_eq_true rfl)
  rw [lg_entry_eq]
  generalize (lg_sl ([.ref z0, .int (nI cn), .int (nI lf)]) ++ List.replicate (8 - (lg_sl ([.ref z0, .int (nI cn), .int (nI lf)])).length) Slot.unset).toArray = ls at hl ⊢
  have hl : lv_has ls 8 [(0, .ref z0), (1, .int (nI cn)), (2, .int (nI lf))] := hl
  refine lv_aload_n hx hb dX1_bestBar_0 rfl (lv_at hl 0 rfl) ?_
  refine va_get (D := D) (ci := 1) (v := .int (nI pn)) (C := RX1) (T := TX1) (N := 8) hx hb hts inX1 hown hK hP 0 rfl rfl 4 (by decide) (hts _ tw_240) (fun _ h9 => h9) rfl dX1_bestBar_1 ?_
  refine lv_istore_n (lv' := [(3, .int (nI pn)), (0, .ref z0), (1, .int (nI cn)), (2, .int (nI lf))]) hx hb dX1_bestBar_4 rfl hl (by decide) rfl (fun ls hl => ?_)
  refine lv_iload_n hx hb dX1_bestBar_5 rfl (lv_at hl 0 rfl) ?_
  refine lv_istore (lv' := [(4, .int (nI pn)), (3, .int (nI pn)), (0, .ref z0), (1, .int (nI cn)), (2, .int (nI lf))]) hx hb dX1_bestBar_6 hl (by decide) rfl (fun ls hl => ?_)
  refine lv_aload_n hx hb dX1_bestBar_8 rfl (lv_at hl 2 rfl) ?_
  refine lv_iload_n hx hb dX1_bestBar_9 rfl (lv_at hl 3 rfl) ?_
  refine lv_iload hx hb dX1_bestBar_10 (lv_at hl 0 rfl) ?_
  refine ro_i (D := D) (va_runV (As := [.int (nI cn), .int (nI pn)]) (rest := []) ⟨hx, hb, hml, hown, hts⟩ ((y_paidAt l D k st lo c0 z0 z1 z2 z3 pn pf pd pe pco cn pn (by first | assumption | omega) (by first | assumption | omega) (by first | assumption | omega)) s.heap.size) (cwV 2 hts (gV tw_862 tw_864 tw_23 tw_84 tw_865) rfl rfl rfl (by decide +kernel) ⟨Nat.le_of_ble_eq_true rfl, Nat.le_of_ble_eq_true rfl⟩) (pV hS hAlo hlo hP hK hDL hZ [0, 2] (by decide) rfl (ci := 1) (q := (RX1, TX1, 8)) (q0 := 0) rfl rfl) rfl rfl hl.1 rfl (lv_room (Nat.le_of_ble_eq_true rfl)) dX1_bestBar_12 ⟨Nat.le_of_ble_eq_true rfl, Nat.le_of_ble_eq_true rfl⟩) hS hA hP (fun r_1 H locs hw_1 hP hS => ?_)
  try dsimp only at hw_1
  refine lv_istore (lv' := [(5, .int r_1), (4, .int (nI pn)), (3, .int (nI pn)), (0, .ref z0), (1, .int (nI cn)), (2, .int (nI lf))]) hx hb dX1_bestBar_15 hl (by decide) rfl (fun ls hl => ?_)
  refine lv_aload_n hx hb dX1_bestBar_17 rfl (lv_at hl 3 rfl) ?_
  refine va_get (D := D) (ci := 1) (v := .int (nI pn)) (C := RX1) (T := TX1) (N := 8) hx hb hts inX1 hown hK hP 0 rfl rfl 4 (by decide) (hts _ tw_240) (fun _ h9 => h9) rfl dX1_bestBar_18 ?_
  refine lv_iconst (v := 1) hx hb dX1_bestBar_21 (by decide) ?_
  refine lv_isub hx hb dX1_bestBar_22 ?_
  refine lv_ti (y := (nI pn - 1)) rfl ?_
  refine lv_istore (lv' := [(6, .int (nI pn - 1)), (5, .int r_1), (4, .int (nI pn)), (3, .int (nI pn)), (0, .ref z0), (1, .int (nI cn)), (2, .int (nI lf))]) hx hb dX1_bestBar_23 hl (by decide) rfl (fun ls hl => ?_)
  refine W_loop (σ := Nat × Nat × Nat × Int32) (fun (n_ : Nat) (x_ : Nat × Nat × Nat × Int32) (H : Heap) (locs : List Loc) (ls : Array Slot) => match x_ with | (q_2, be_2, pl2_2, le_2) => n_ = 2 * q_2 ∧ (q_2 ≤ pn ∧ pl2_2 ≤ pn ∧ pl2_2 = plc pn lf q_2 ∧ bbI pn (fun b => kx pco pd pe pn cn (plc pn lf b)) q_2 be_2 le_2) ∧ va_P D classes [(z0, .inr (1, (fX1 c0 z1 z2 z3 (nI pn) (nI pf) pd pe))), (aI k z1 4 (nF pb)), (aI k z2 100 pco)] H ∧ va_S (fun q : Nat => s.heap.size ≤ q) s.heap H locs ∧ lv_has ls 8 [(6, .int (nI q_2 - 1)), (5, .int le_2), (4, .int (nI pl2_2)), (3, .int (nI be_2)), (0, .ref z0), (1, .int (nI cn)), (2, .int (nI lf))]) (fun n_2 x_2 H locs ls hI ih_2 => ?_) _ (pn, pn, pn, r_1) ⟨rfl, ⟨by omega, by omega, (pl_out (by omega)).symm, bb_0 (show _ = kx pco pd pe pn cn (plc pn lf pn) from hw_1.trans (congrArg (kx pco pd pe pn cn) (pl_out (Nat.lt_irrefl pn)).symm))⟩, hP, hS, (lv_sub hl [0, 1, 2, 3, 4, 5, 6] rfl)⟩
  obtain ⟨q_2, be_2, pl2_2, le_2⟩ := x_2
  obtain ⟨hm_2, hv_2, hP, hS, hl⟩ := hI
  subst hm_2
  rcases q_2 with _ | q_2
  · rw [dn0] at hl
    refine lv_iload hx hb dX1_bestBar_25 (lv_at hl 0 rfl) ?_
    refine lv_if_lt (tgt := 72) hx hb dX1_bestBar_27 (by decide) (fun _ => ?_) (fun h => absurd (by decide) h)
    refine lv_aload_n hx hb dX1_bestBar_72 rfl (lv_at hl 4 rfl) ?_
    refine va_get (D := D) (ci := 1) (v := .ref z1) (C := RX1) (T := TX1) (N := 8) hx hb hts inX1 hown hK hP 0 rfl rfl 1 (by decide) (hts _ tw_236) (fun _ h9 => h9) rfl dX1_bestBar_73 ?_
    refine lv_iload_n hx hb dX1_bestBar_76 rfl (lv_at hl 5 rfl) ?_
    refine va_iald hx hb hK hP 1 1 rfl rfl (vp_in_nI (by omega) (by decide)) dX1_bestBar_77 ?_
    have hq_3 := hpb cn
    refine lv_ti (y := (nI (pb cn))) (by rw [nI_clamp (by omega)]; rfl) ?_
    refine lv_aload_n hx hb dX1_bestBar_78 rfl (lv_at hl 4 rfl) ?_
    refine va_get (D := D) (ci := 1) (v := .int (nI pn)) (C := RX1) (T := TX1) (N := 8) hx hb hts inX1 hown hK hP 0 rfl rfl 4 (by decide) (hts _ tw_240) (fun _ h9 => h9) rfl dX1_bestBar_79 ?_
    refine lv_icmp_gt (tgt := 110) hx hb dX1_bestBar_82 (by decide) (fun h => absurd ((nI_ltI (a := pn) (b := (pb cn)) (by omega) (by omega)).mp h) (by omega)) (fun _ => ?_)
    refine lv_aload_n hx hb dX1_bestBar_85 rfl (lv_at hl 4 rfl) ?_
    refine lv_iload_n hx hb dX1_bestBar_86 rfl (lv_at hl 5 rfl) ?_
    refine lv_aload_n hx hb dX1_bestBar_87 rfl (lv_at hl 4 rfl) ?_
    refine lv_aload_n hx hb dX1_bestBar_88 rfl (lv_at hl 4 rfl) ?_
    refine va_get (D := D) (ci := 1) (v := .ref z1) (C := RX1) (T := TX1) (N := 8) hx hb hts inX1 hown hK hP 0 rfl rfl 1 (by decide) (hts _ tw_236) (fun _ h9 => h9) rfl dX1_bestBar_89 ?_
    refine lv_iload_n hx hb dX1_bestBar_92 rfl (lv_at hl 5 rfl) ?_
    refine va_iald hx hb hK hP 1 1 rfl rfl (vp_in_nI (by omega) (by decide)) dX1_bestBar_93 ?_
    have hq_5 := hpb cn
    refine lv_ti (y := (nI (pb cn))) (by rw [nI_clamp (by omega)]; rfl) ?_
    refine lv_iload_n hx hb dX1_bestBar_94 rfl (lv_at hl 6 rfl) ?_
    refine ro_i (D := D) (va_runV (As := [.int (nI (pb cn)), .int (nI lf)]) (rest := [.int (nI cn), .ref z0]) ⟨hx, hb, hml, hown, hts⟩ ((y_placeFrom l D k st lo c0 z0 z1 z2 z3 pn pf pd pe (pb cn) lf (by first | assumption | omega) (by first | assumption | omega) (by first | assumption | omega)) H.size) (cwV 2 hts (gV tw_838 tw_840 tw_20 tw_84 tw_841) rfl rfl rfl (by decide +kernel) ⟨Nat.le_of_ble_eq_true rfl, Nat.le_of_ble_eq_true rfl⟩) (pV hS hAlo hlo hP hK hDL hZ [0] (by decide) rfl (ci := 1) (q := (RX1, TX1, 8)) (q0 := 0) rfl rfl) rfl rfl hl.1 rfl (lv_room (Nat.le_of_ble_eq_true rfl)) dX1_bestBar_95 ⟨Nat.le_of_ble_eq_true rfl, Nat.le_of_ble_eq_true rfl⟩) hS hA hP (fun r_6 H locs hw_6 hP hS => ?_)
    try dsimp only at hw_6
    obtain ⟨zp_7, ezp_7⟩ : ∃ z : Nat, z = plc pn lf (pb cn) := ⟨_, rfl⟩
    rw [← ezp_7] at hw_6
    subst hw_6
    have hzp_7 : zp_7 ≤ pn := by rw [ezp_7]; exact pl_le
    refine ro_i (D := D) (va_runV (As := [.int (nI cn), .int (nI zp_7)]) (rest := []) ⟨hx, hb, hml, hown, hts⟩ ((y_paidAt l D k st lo c0 z0 z1 z2 z3 pn pf pd pe pco cn zp_7 (by first | assumption | omega) (by first | assumption | omega) (by first | assumption | omega)) H.size) (cwV 2 hts (gV tw_862 tw_864 tw_23 tw_84 tw_865) rfl rfl rfl (by decide +kernel) ⟨Nat.le_of_ble_eq_true rfl, Nat.le_of_ble_eq_true rfl⟩) (pV hS hAlo hlo hP hK hDL hZ [0, 2] (by decide) rfl (ci := 1) (q := (RX1, TX1, 8)) (q0 := 0) rfl rfl) rfl rfl hl.1 rfl (lv_room (Nat.le_of_ble_eq_true rfl)) dX1_bestBar_98 ⟨Nat.le_of_ble_eq_true rfl, Nat.le_of_ble_eq_true rfl⟩) hS hA hP (fun r_8 H locs hw_8 hP hS => ?_)
    try dsimp only at hw_8
    refine lv_iload hx hb dX1_bestBar_101 (lv_at hl 1 rfl) ?_
    refine lv_icmp_ne (tgt := 110) hx hb dX1_bestBar_103 (by decide) (fun c_9 => ?_) (fun c_9 => ?_)
    · refine lv_iconst (v := 0) hx hb dX1_bestBar_110 (by decide) ?_
      refine lv_istore (lv' := [(6, .int 0), (5, .int le_2), (4, .int (nI pl2_2)), (3, .int (nI be_2)), (0, .ref z0), (1, .int (nI cn)), (2, .int (nI lf))]) hx hb dX1_bestBar_111 hl (by decide) rfl (fun ls hl => ?_)
      refine lv_iload hx hb dX1_bestBar_113 (lv_at hl 0 rfl) ?_
      refine lv_if_eq (tgt := 127) hx hb dX1_bestBar_115 (by decide) (fun _ => ?_) (fun h => absurd (by decide) h)
      refine lv_iload_n hx hb dX1_bestBar_127 rfl (lv_at hl 3 rfl) ?_
      exact W.iret (v := (nI be_2)) hx hb hr (fun t ht hW => ⟨⟨(nI be_2), (), rfl, (congrArg nI (bsF_of hob (bb_oth (C := (fun b => kx pco pd pe pn cn (plc pn lf b))) hv_2.2.2.2 hob (show _ = kx pco pd pe pn cn (plc pn lf (pb cn)) from hw_8.trans (congrArg (kx pco pd pe pn cn) ezp_7)) c_9))), trivial⟩, hS.F ht⟩) hS.2.2 dX1_bestBar_128
    · refine lv_iconst (v := 1) hx hb dX1_bestBar_106 (by decide) ?_
      refine lv_goto (tgt := 111) hx hb dX1_bestBar_107 (by decide) ?_
      refine lv_istore (lv' := [(6, .int 1), (5, .int le_2), (4, .int (nI pl2_2)), (3, .int (nI be_2)), (0, .ref z0), (1, .int (nI cn)), (2, .int (nI lf))]) hx hb dX1_bestBar_111 hl (by decide) rfl (fun ls hl => ?_)
      refine lv_iload hx hb dX1_bestBar_113 (lv_at hl 0 rfl) ?_
      refine lv_if_eq (tgt := 127) hx hb dX1_bestBar_115 (by decide) (fun h => absurd h (by decide)) (fun _ => ?_)
      refine lv_aload_n hx hb dX1_bestBar_118 rfl (lv_at hl 4 rfl) ?_
      refine va_get (D := D) (ci := 1) (v := .ref z1) (C := RX1) (T := TX1) (N := 8) hx hb hts inX1 hown hK hP 0 rfl rfl 1 (by decide) (hts _ tw_236) (fun _ h9 => h9) rfl dX1_bestBar_119 ?_
      refine lv_iload_n hx hb dX1_bestBar_122 rfl (lv_at hl 5 rfl) ?_
      refine va_iald hx hb hK hP 1 1 rfl rfl (vp_in_nI (by omega) (by decide)) dX1_bestBar_123 ?_
      have hq_10 := hpb cn
      refine lv_ti (y := (nI (pb cn))) (by rw [nI_clamp (by omega)]; rfl) ?_
      refine lv_goto (tgt := 128) hx hb dX1_bestBar_124 (by decide) ?_
      exact W.iret (v := (nI (pb cn))) hx hb hr (fun t ht hW => ⟨⟨(nI (pb cn)), (), rfl, (congrArg nI (bsF_of hob (bb_own (C := (fun b => kx pco pd pe pn cn (plc pn lf b))) hv_2.2.2.2 hob (show _ = kx pco pd pe pn cn (plc pn lf (pb cn)) from hw_8.trans (congrArg (kx pco pd pe pn cn) ezp_7)) c_9))), trivial⟩, hS.F ht⟩) hS.2.2 dX1_bestBar_128
  · rw [nI_pred] at hl
    refine lv_iload hx hb dX1_bestBar_25 (lv_at hl 0 rfl) ?_
    refine lv_if_lt (tgt := 72) hx hb dX1_bestBar_27 (by decide) (fun h => absurd h (nI_pos0 (by omega))) (fun _ => ?_)
    refine lv_iload_n hx hb dX1_bestBar_30 rfl (lv_at hl 6 rfl) ?_
    refine lv_iload hx hb dX1_bestBar_31 (lv_at hl 0 rfl) ?_
    refine lv_ishr hx hb dX1_bestBar_33 ?_
    refine lv_ti (y := (nI (lf / 2 ^ q_2))) (shr24 (by omega) (by omega)) ?_
    refine lv_iconst (v := 1) hx hb dX1_bestBar_34 (by decide) ?_
    refine lv_iand hx hb dX1_bestBar_35 ?_
    refine lv_ti (y := (nI ((lf / 2 ^ q_2) % 2))) and_1 ?_
    refine lv_if_eq (tgt := 43) hx hb dX1_bestBar_36 (by decide) (fun c_11 => ?_) (fun c_11 => ?_)
    · have c_11 := (nI_eq (a := ((lf / 2 ^ q_2) % 2)) (b := 0) (by omega) (by omega)).mp c_11
      refine lv_aload_n hx hb dX1_bestBar_43 rfl (lv_at hl 4 rfl) ?_
      refine lv_iload_n hx hb dX1_bestBar_44 rfl (lv_at hl 5 rfl) ?_
      refine lv_iload hx hb dX1_bestBar_45 (lv_at hl 2 rfl) ?_
      refine ro_i (D := D) (va_runV (As := [.int (nI cn), .int (nI pl2_2)]) (rest := []) ⟨hx, hb, hml, hown, hts⟩ ((y_paidAt l D k st lo c0 z0 z1 z2 z3 pn pf pd pe pco cn pl2_2 (by first | assumption | omega) (by first | assumption | omega) (by first | assumption | omega)) H.size) (cwV 2 hts (gV tw_862 tw_864 tw_23 tw_84 tw_865) rfl rfl rfl (by decide +kernel) ⟨Nat.le_of_ble_eq_true rfl, Nat.le_of_ble_eq_true rfl⟩) (pV hS hAlo hlo hP hK hDL hZ [0, 2] (by decide) rfl (ci := 1) (q := (RX1, TX1, 8)) (q0 := 0) rfl rfl) rfl rfl hl.1 rfl (lv_room (Nat.le_of_ble_eq_true rfl)) dX1_bestBar_47 ⟨Nat.le_of_ble_eq_true rfl, Nat.le_of_ble_eq_true rfl⟩) hS hA hP (fun r_12 H locs hw_12 hP hS => ?_)
      try dsimp only at hw_12
      refine lv_istore (lv' := [(7, .int r_12), (6, .int (nI q_2)), (5, .int le_2), (4, .int (nI pl2_2)), (3, .int (nI be_2)), (0, .ref z0), (1, .int (nI cn)), (2, .int (nI lf))]) hx hb dX1_bestBar_50 hl (by decide) rfl (fun ls hl => ?_)
      refine lv_iload hx hb dX1_bestBar_52 (lv_at hl 0 rfl) ?_
      refine lv_iload hx hb dX1_bestBar_54 (lv_at hl 2 rfl) ?_
      refine lv_icmp_gt (tgt := 66) hx hb dX1_bestBar_56 (by decide) (fun c_13 => ?_) (fun c_13 => ?_)
      · refine lv_iinc (v := (nI q_2 - 1)) (lv' := [(6, .int (nI q_2 - 1)), (7, .int r_12), (5, .int le_2), (4, .int (nI pl2_2)), (3, .int (nI be_2)), (0, .ref z0), (1, .int (nI cn)), (2, .int (nI lf))]) hx hb dX1_bestBar_66 hl (k := 1) rfl (dn1 _) (by decide) rfl (fun ls hl => ?_)
        refine lv_goto (tgt := 25) hx hb dX1_bestBar_69 (by decide) ?_
        exact ih_2 _ (q_2, be_2, pl2_2, le_2) _ _ _ (by omega) ⟨rfl, ⟨by omega, by omega, (hv_2.2.2.1.trans (pl_n (show q_2 < pn by omega) (by omega)).symm), bb_n (C := (fun b => kx pco pd pe pn cn (plc pn lf b))) hv_2.2.2.2 (show _ = kx pco pd pe pn cn (plc pn lf q_2) from hw_12.trans (congrArg (kx pco pd pe pn cn) (hv_2.2.2.1.trans (pl_n (show q_2 < pn by omega) (by omega)).symm))) c_13⟩, hP, hS, (lv_sub hl [0, 2, 3, 4, 5, 6, 7] rfl)⟩
      · refine lv_iload hx hb dX1_bestBar_59 (lv_at hl 0 rfl) ?_
        refine lv_istore (lv' := [(5, .int r_12), (7, .int r_12), (6, .int (nI q_2)), (4, .int (nI pl2_2)), (3, .int (nI be_2)), (0, .ref z0), (1, .int (nI cn)), (2, .int (nI lf))]) hx hb dX1_bestBar_61 hl (by decide) rfl (fun ls hl => ?_)
        refine lv_iload hx hb dX1_bestBar_63 (lv_at hl 2 rfl) ?_
        refine lv_istore_n (lv' := [(3, .int (nI q_2)), (5, .int r_12), (7, .int r_12), (6, .int (nI q_2)), (4, .int (nI pl2_2)), (0, .ref z0), (1, .int (nI cn)), (2, .int (nI lf))]) hx hb dX1_bestBar_65 rfl hl (by decide) rfl (fun ls hl => ?_)
        refine lv_iinc (v := (nI q_2 - 1)) (lv' := [(6, .int (nI q_2 - 1)), (3, .int (nI q_2)), (5, .int r_12), (7, .int r_12), (4, .int (nI pl2_2)), (0, .ref z0), (1, .int (nI cn)), (2, .int (nI lf))]) hx hb dX1_bestBar_66 hl (k := 3) rfl (dn1 _) (by decide) rfl (fun ls hl => ?_)
        refine lv_goto (tgt := 25) hx hb dX1_bestBar_69 (by decide) ?_
        exact ih_2 _ (q_2, q_2, pl2_2, r_12) _ _ _ (by omega) ⟨rfl, ⟨by omega, by omega, (hv_2.2.2.1.trans (pl_n (show q_2 < pn by omega) (by omega)).symm), bb_y (C := (fun b => kx pco pd pe pn cn (plc pn lf b))) hv_2.2.2.2 (show _ = kx pco pd pe pn cn (plc pn lf q_2) from hw_12.trans (congrArg (kx pco pd pe pn cn) (hv_2.2.2.1.trans (pl_n (show q_2 < pn by omega) (by omega)).symm))) (Int32.not_lt.mp c_13)⟩, hP, hS, (lv_sub hl [0, 2, 4, 1, 5, 6, 7] rfl)⟩
    · have c_11 : ¬ (((lf / 2 ^ q_2) % 2) = 0) := fun h => c_11 ((nI_eq (a := ((lf / 2 ^ q_2) % 2)) (b := 0) (by omega) (by omega)).mpr h)
      refine lv_iload hx hb dX1_bestBar_39 (lv_at hl 0 rfl) ?_
      refine lv_istore (lv' := [(4, .int (nI q_2)), (6, .int (nI q_2)), (5, .int le_2), (3, .int (nI be_2)), (0, .ref z0), (1, .int (nI cn)), (2, .int (nI lf))]) hx hb dX1_bestBar_41 hl (by decide) rfl (fun ls hl => ?_)
      refine lv_aload_n hx hb dX1_bestBar_43 rfl (lv_at hl 4 rfl) ?_
      refine lv_iload_n hx hb dX1_bestBar_44 rfl (lv_at hl 5 rfl) ?_
      refine lv_iload hx hb dX1_bestBar_45 (lv_at hl 0 rfl) ?_
      refine ro_i (D := D) (va_runV (As := [.int (nI cn), .int (nI q_2)]) (rest := []) ⟨hx, hb, hml, hown, hts⟩ ((y_paidAt l D k st lo c0 z0 z1 z2 z3 pn pf pd pe pco cn q_2 (by first | assumption | omega) (by first | assumption | omega) (by first | assumption | omega)) H.size) (cwV 2 hts (gV tw_862 tw_864 tw_23 tw_84 tw_865) rfl rfl rfl (by decide +kernel) ⟨Nat.le_of_ble_eq_true rfl, Nat.le_of_ble_eq_true rfl⟩) (pV hS hAlo hlo hP hK hDL hZ [0, 2] (by decide) rfl (ci := 1) (q := (RX1, TX1, 8)) (q0 := 0) rfl rfl) rfl rfl hl.1 rfl (lv_room (Nat.le_of_ble_eq_true rfl)) dX1_bestBar_47 ⟨Nat.le_of_ble_eq_true rfl, Nat.le_of_ble_eq_true rfl⟩) hS hA hP (fun r_14 H locs hw_14 hP hS => ?_)
      try dsimp only at hw_14
      refine lv_istore (lv' := [(7, .int r_14), (4, .int (nI q_2)), (6, .int (nI q_2)), (5, .int le_2), (3, .int (nI be_2)), (0, .ref z0), (1, .int (nI cn)), (2, .int (nI lf))]) hx hb dX1_bestBar_50 hl (by decide) rfl (fun ls hl => ?_)
      refine lv_iload hx hb dX1_bestBar_52 (lv_at hl 0 rfl) ?_
      refine lv_iload hx hb dX1_bestBar_54 (lv_at hl 3 rfl) ?_
      refine lv_icmp_gt (tgt := 66) hx hb dX1_bestBar_56 (by decide) (fun c_15 => ?_) (fun c_15 => ?_)
      · refine lv_iinc (v := (nI q_2 - 1)) (lv' := [(6, .int (nI q_2 - 1)), (7, .int r_14), (4, .int (nI q_2)), (5, .int le_2), (3, .int (nI be_2)), (0, .ref z0), (1, .int (nI cn)), (2, .int (nI lf))]) hx hb dX1_bestBar_66 hl (k := 2) rfl (dn1 _) (by decide) rfl (fun ls hl => ?_)
        refine lv_goto (tgt := 25) hx hb dX1_bestBar_69 (by decide) ?_
        exact ih_2 _ (q_2, be_2, q_2, le_2) _ _ _ (by omega) ⟨rfl, ⟨by omega, by omega, (pl_y (show q_2 < pn by omega) (by omega)).symm, bb_n (C := (fun b => kx pco pd pe pn cn (plc pn lf b))) hv_2.2.2.2 (show _ = kx pco pd pe pn cn (plc pn lf q_2) from hw_14.trans (congrArg (kx pco pd pe pn cn) (pl_y (show q_2 < pn by omega) (by omega)).symm)) c_15⟩, hP, hS, (lv_sub hl [0, 3, 2, 4, 5, 6, 7] rfl)⟩
      · refine lv_iload hx hb dX1_bestBar_59 (lv_at hl 0 rfl) ?_
        refine lv_istore (lv' := [(5, .int r_14), (7, .int r_14), (4, .int (nI q_2)), (6, .int (nI q_2)), (3, .int (nI be_2)), (0, .ref z0), (1, .int (nI cn)), (2, .int (nI lf))]) hx hb dX1_bestBar_61 hl (by decide) rfl (fun ls hl => ?_)
        refine lv_iload hx hb dX1_bestBar_63 (lv_at hl 3 rfl) ?_
        refine lv_istore_n (lv' := [(3, .int (nI q_2)), (5, .int r_14), (7, .int r_14), (4, .int (nI q_2)), (6, .int (nI q_2)), (0, .ref z0), (1, .int (nI cn)), (2, .int (nI lf))]) hx hb dX1_bestBar_65 rfl hl (by decide) rfl (fun ls hl => ?_)
        refine lv_iinc (v := (nI q_2 - 1)) (lv' := [(6, .int (nI q_2 - 1)), (3, .int (nI q_2)), (5, .int r_14), (7, .int r_14), (4, .int (nI q_2)), (0, .ref z0), (1, .int (nI cn)), (2, .int (nI lf))]) hx hb dX1_bestBar_66 hl (k := 4) rfl (dn1 _) (by decide) rfl (fun ls hl => ?_)
        refine lv_goto (tgt := 25) hx hb dX1_bestBar_69 (by decide) ?_
        exact ih_2 _ (q_2, q_2, q_2, r_14) _ _ _ (by omega) ⟨rfl, ⟨by omega, by omega, (pl_y (show q_2 < pn by omega) (by omega)).symm, bb_y (C := (fun b => kx pco pd pe pn cn (plc pn lf b))) hv_2.2.2.2 (show _ = kx pco pd pe pn cn (plc pn lf q_2) from hw_14.trans (congrArg (kx pco pd pe pn cn) (pl_y (show q_2 < pn by omega) (by omega)).symm)) (Int32.not_lt.mp c_15)⟩, hP, hS, (lv_sub hl [0, 2, 4, 1, 5, 6, 7] rfl)⟩


set_option maxHeartbeats 4000000 in
set_option maxRecDepth 100000 in
theorem y_isAtRest (l : Launch) (D : va_G) (k : Nat → ClassId) (st : Nat → Nat) (lo : Nat) (c0 : Nat) (z0 : Nat) (z1 : Nat) (z2 : Nat) (z3 : Nat) (pn : Nat) (pf : Nat) (pd : Int32) (pe : Int32) (pb : Nat → Nat) (pco : Nat → Int32) (c1 : Nat) (c2 : Nat) (cc : Nat) (rz : Nat) (ro : Int32) (sd : Int32) (hpn : pn ≤ 24) (hcc : cc ≤ 4) (hpb : ∀ j, pb j ≤ 24) (hpf : pf < 16777216) (hbn : ∀ j, j < cc → pb j ≤ pn) : CRi l D k st lo yX1_isAtRest cX1_isAtRest 4 (some .boolean) ({ frames := 3, cells := 0, slots := 0, locals := 72 }) [.ref z0] [(z0, .inr (1, (fX1 c0 z1 z2 z3 (nI pn) (nI pf) pd pe))), (aI k z1 4 (nF pb)), (aI k z2 100 pco), (c0, .inr (4, (fX4 c1 c2 (nI cc) (nI rz) ro sd)))] (fun r => (r = 1 ∧ rsP pn cc pf (kx pco pd pe pn) pb) ∨ (r = 0 ∧ ¬ rsP pn cc pf (kx pco pd pe pn) pb)) := by
  intro sz
  refine Met.ofW (cc := cX1_isAtRest) (maxL := 4) (ret := (some .boolean)) (by decide) rfl ?_
  intro p e s m args below meth c s₁ B hml hv
  obtain ⟨rfl, hsz, hlo, hP, hK, hDL, hZ⟩ := hv
  have hx := B.exec
  have hb := B.bytes
  have hr := B.returns
  have hts := WS_ts B.pre
  have hown : s.vm.findClass RX1 = some m.cls := findClass_of_methodNamed B.named
  have hlocks := B.notSynchronized
  subst hsz
  have hA : ∀ q : Nat, s.heap.size ≤ q → (fun q : Nat => s.heap.size ≤ q) q := fun _ h => h
  have hAlo : ∀ q : Nat, (fun q : Nat => s.heap.size ≤ q) q → lo ≤ q := fun q h => Nat.le_trans hlo h
  have hS : va_S (fun q : Nat => s.heap.size ≤ q) s.heap s.heap [] := va_S.rf
  have hl := lv_entry ([.ref z0]) (n := 4) (Nat.le_of_ble_eq_true rfl)
  rw [lg_entry_eq]
  generalize (lg_sl ([.ref z0]) ++ List.replicate (4 - (lg_sl ([.ref z0])).length) Slot.unset).toArray = ls at hl ⊢
  have hl : lv_has ls 4 [(0, .ref z0)] := hl
  refine lv_aload_n hx hb dX1_isAtRest_0 rfl (lv_at hl 0 rfl) ?_
  refine va_get (D := D) (ci := 1) (v := .int (nI pf)) (C := RX1) (T := TX1) (N := 8) hx hb hts inX1 hown hK hP 0 rfl rfl 5 (by decide) (hts _ tw_241) (fun _ h9 => h9) rfl dX1_isAtRest_1 ?_
  refine lv_istore_n (lv' := [(1, .int (nI pf)), (0, .ref z0)]) hx hb dX1_isAtRest_4 rfl hl (by decide) rfl (fun ls hl => ?_)
  refine lv_iconst (v := 0) hx hb dX1_isAtRest_5 (by decide) ?_
  refine lv_istore_n (lv' := [(2, .int 0), (1, .int (nI pf)), (0, .ref z0)]) hx hb dX1_isAtRest_6 rfl hl (by decide) rfl (fun ls hl => ?_)
  refine W_loop (σ := Nat × Nat) (fun (n_ : Nat) (x_ : Nat × Nat) (H : Heap) (locs : List Loc) (ls : Array Slot) => match x_ with | (cn2_1, lf_1) => n_ = 5 - cn2_1 ∧ (cn2_1 ≤ cc ∧ lf_1 = LF pn pb pf cn2_1 ∧ lf_1 ≤ pf ∧ ∀ k, k < cn2_1 → ∀ a, a ≤ pn → kb pn pf (kx pco pd pe pn) pb k (pb k) ≤ kb pn pf (kx pco pd pe pn) pb k a) ∧ va_P D classes [(z0, .inr (1, (fX1 c0 z1 z2 z3 (nI pn) (nI pf) pd pe))), (aI k z1 4 (nF pb)), (aI k z2 100 pco), (c0, .inr (4, (fX4 c1 c2 (nI cc) (nI rz) ro sd)))] H ∧ va_S (fun q : Nat => s.heap.size ≤ q) s.heap H locs ∧ lv_has ls 4 [(2, .int (nI cn2_1)), (1, .int (nI lf_1)), (0, .ref z0)]) (fun n_1 x_1 H locs ls hI ih_1 => ?_) _ (0, pf) ⟨rfl, ⟨by omega, rfl, Nat.le_refl _, fun k h => absurd h (Nat.not_lt_zero k)⟩, hP, hS, (lv_sub hl [0, 1, 2] rfl)⟩
  obtain ⟨cn2_1, lf_1⟩ := x_1
  obtain ⟨hm_1, hv_1, hP, hS, hl⟩ := hI
  subst hm_1
  refine lv_iload_n hx hb dX1_isAtRest_7 rfl (lv_at hl 0 rfl) ?_
  refine lv_aload_n hx hb dX1_isAtRest_8 rfl (lv_at hl 2 rfl) ?_
  refine va_get (D := D) (ci := 1) (v := .ref c0) (C := RX1) (T := TX1) (N := 8) hx hb hts inX1 hown hK hP 0 rfl rfl 0 (by decide) (hts _ tw_235) (fun _ h9 => h9) rfl dX1_isAtRest_9 ?_
  refine va_get (D := D) (ci := 4) (v := .int (nI cc)) (C := RX4) (T := TX4) (N := 6) hx hb hts inX4 hown hK hP 3 rfl rfl 2 (by decide) (hts _ tw_179) (fun _ h9 => h9) rfl dX1_isAtRest_12 ?_
  refine lv_icmp_ge (tgt := 70) hx hb dX1_isAtRest_15 (by decide) (fun c_2 => ?_) (fun c_2 => ?_)
  · have c_2 := (nI_leI (a := cc) (b := cn2_1) (by omega) (by omega)).mp c_2
    refine lv_iconst (v := 1) hx hb dX1_isAtRest_70 (by decide) ?_
    exact W.zret (v := 1) (ty := .boolean) hx hb hr rfl (fun t ht hW => ⟨⟨1, (), rfl, .inl ⟨rfl, fun k hk => hv_1.2.2.2 k (by omega)⟩, trivial⟩, hS.F ht⟩) hS.2.2 dX1_isAtRest_71
  · have c_2 : ¬ (cc ≤ cn2_1) := fun h => c_2 ((nI_leI (a := cc) (b := cn2_1) (by omega) (by omega)).mpr h)
    have hbq_1 := hbn cn2_1 (by omega)
    refine lv_aload_n hx hb dX1_isAtRest_18 rfl (lv_at hl 2 rfl) ?_
    refine lv_aload_n hx hb dX1_isAtRest_19 rfl (lv_at hl 2 rfl) ?_
    refine lv_iload_n hx hb dX1_isAtRest_20 rfl (lv_at hl 0 rfl) ?_
    refine lv_iload_n hx hb dX1_isAtRest_21 rfl (lv_at hl 1 rfl) ?_
    refine ro_i (D := D) (va_runV (As := [.int (nI cn2_1), .int (nI lf_1)]) (rest := [.ref z0]) ⟨hx, hb, hml, hown, hts⟩ ((y_bestBar l D k st lo c0 z0 z1 z2 z3 pn pf pd pe pb pco cn2_1 lf_1 (by first | assumption | omega) (by first | assumption | omega) hpb (by first | assumption | omega) (by first | assumption | omega)) H.size) (cwV 2 hts (gV tw_858 tw_860 tw_22 tw_84 tw_861) rfl rfl rfl (by decide +kernel) ⟨Nat.le_of_ble_eq_true rfl, Nat.le_of_ble_eq_true rfl⟩) (pV hS hAlo hlo hP hK hDL hZ [0, 1, 2] (by decide) rfl (ci := 1) (q := (RX1, TX1, 8)) (q0 := 0) rfl rfl) rfl rfl hl.1 rfl (lv_room (Nat.le_of_ble_eq_true rfl)) dX1_isAtRest_22 ⟨Nat.le_of_ble_eq_true rfl, Nat.le_of_ble_eq_true rfl⟩) hS hA hP (fun r_3 H locs hw_3 hP hS => ?_)
    try dsimp only at hw_3
    obtain ⟨zb_4, ezb_4⟩ : ∃ z : Nat, z = bsF pn (fun b => kx pco pd pe pn cn2_1 (plc pn lf_1 b)) (pb cn2_1) := ⟨_, rfl⟩
    rw [← ezb_4] at hw_3
    subst hw_3
    have hzb_4 : zb_4 ≤ pn := by rw [ezb_4]; exact bsF_le (by omega)
    refine lv_iload_n hx hb dX1_isAtRest_25 rfl (lv_at hl 1 rfl) ?_
    refine ro_i (D := D) (va_runV (As := [.int (nI zb_4), .int (nI lf_1)]) (rest := []) ⟨hx, hb, hml, hown, hts⟩ ((y_placeFrom l D k st lo c0 z0 z1 z2 z3 pn pf pd pe zb_4 lf_1 (by first | assumption | omega) (by first | assumption | omega) (by first | assumption | omega)) H.size) (cwV 2 hts (gV tw_838 tw_840 tw_20 tw_84 tw_841) rfl rfl rfl (by decide +kernel) ⟨Nat.le_of_ble_eq_true rfl, Nat.le_of_ble_eq_true rfl⟩) (pV hS hAlo hlo hP hK hDL hZ [0] (by decide) rfl (ci := 1) (q := (RX1, TX1, 8)) (q0 := 0) rfl rfl) rfl rfl hl.1 rfl (lv_room (Nat.le_of_ble_eq_true rfl)) dX1_isAtRest_26 ⟨Nat.le_of_ble_eq_true rfl, Nat.le_of_ble_eq_true rfl⟩) hS hA hP (fun r_5 H locs hw_5 hP hS => ?_)
    try dsimp only at hw_5
    obtain ⟨zp_6, ezp_6⟩ : ∃ z : Nat, z = plc pn lf_1 zb_4 := ⟨_, rfl⟩
    rw [← ezp_6] at hw_5
    subst hw_5
    have hzp_6 : zp_6 ≤ pn := by rw [ezp_6]; exact pl_le
    refine lv_istore_n (lv' := [(3, .int (nI zp_6)), (2, .int (nI cn2_1)), (1, .int (nI lf_1)), (0, .ref z0)]) hx hb dX1_isAtRest_29 rfl hl (by decide) rfl (fun ls hl => ?_)
    refine lv_aload_n hx hb dX1_isAtRest_30 rfl (lv_at hl 3 rfl) ?_
    refine lv_iload_n hx hb dX1_isAtRest_31 rfl (lv_at hl 1 rfl) ?_
    refine lv_iload_n hx hb dX1_isAtRest_32 rfl (lv_at hl 0 rfl) ?_
    refine ro_i (D := D) (va_runV (As := [.int (nI cn2_1), .int (nI zp_6)]) (rest := []) ⟨hx, hb, hml, hown, hts⟩ ((y_paidAt l D k st lo c0 z0 z1 z2 z3 pn pf pd pe pco cn2_1 zp_6 (by first | assumption | omega) (by first | assumption | omega) (by first | assumption | omega)) H.size) (cwV 2 hts (gV tw_862 tw_864 tw_23 tw_84 tw_865) rfl rfl rfl (by decide +kernel) ⟨Nat.le_of_ble_eq_true rfl, Nat.le_of_ble_eq_true rfl⟩) (pV hS hAlo hlo hP hK hDL hZ [0, 2] (by decide) rfl (ci := 1) (q := (RX1, TX1, 8)) (q0 := 0) rfl rfl) rfl rfl hl.1 rfl (lv_room (Nat.le_of_ble_eq_true rfl)) dX1_isAtRest_33 ⟨Nat.le_of_ble_eq_true rfl, Nat.le_of_ble_eq_true rfl⟩) hS hA hP (fun r_7 H locs hw_7 hP hS => ?_)
    try dsimp only at hw_7
    refine lv_aload_n hx hb dX1_isAtRest_36 rfl (lv_at hl 3 rfl) ?_
    refine lv_iload_n hx hb dX1_isAtRest_37 rfl (lv_at hl 1 rfl) ?_
    refine lv_aload_n hx hb dX1_isAtRest_38 rfl (lv_at hl 3 rfl) ?_
    refine lv_aload_n hx hb dX1_isAtRest_39 rfl (lv_at hl 3 rfl) ?_
    refine va_get (D := D) (ci := 1) (v := .ref z1) (C := RX1) (T := TX1) (N := 8) hx hb hts inX1 hown hK hP 0 rfl rfl 1 (by decide) (hts _ tw_236) (fun _ h9 => h9) rfl dX1_isAtRest_40 ?_
    refine lv_iload_n hx hb dX1_isAtRest_43 rfl (lv_at hl 1 rfl) ?_
    refine va_iald hx hb hK hP 1 1 rfl rfl (vp_in_nI (by omega) (by decide)) dX1_isAtRest_44 ?_
    have hq_8 := hpb cn2_1
    refine lv_ti (y := (nI (pb cn2_1))) (by rw [nI_clamp (by omega)]; rfl) ?_
    refine lv_iload_n hx hb dX1_isAtRest_45 rfl (lv_at hl 2 rfl) ?_
    refine ro_i (D := D) (va_runV (As := [.int (nI (pb cn2_1)), .int (nI lf_1)]) (rest := [.int (nI cn2_1), .ref z0, .int r_7]) ⟨hx, hb, hml, hown, hts⟩ ((y_placeFrom l D k st lo c0 z0 z1 z2 z3 pn pf pd pe (pb cn2_1) lf_1 (by first | assumption | omega) (by first | assumption | omega) (by first | assumption | omega)) H.size) (cwV 2 hts (gV tw_838 tw_840 tw_20 tw_84 tw_841) rfl rfl rfl (by decide +kernel) ⟨Nat.le_of_ble_eq_true rfl, Nat.le_of_ble_eq_true rfl⟩) (pV hS hAlo hlo hP hK hDL hZ [0] (by decide) rfl (ci := 1) (q := (RX1, TX1, 8)) (q0 := 0) rfl rfl) rfl rfl hl.1 rfl (lv_room (Nat.le_of_ble_eq_true rfl)) dX1_isAtRest_46 ⟨Nat.le_of_ble_eq_true rfl, Nat.le_of_ble_eq_true rfl⟩) hS hA hP (fun r_9 H locs hw_9 hP hS => ?_)
    try dsimp only at hw_9
    obtain ⟨zp_10, ezp_10⟩ : ∃ z : Nat, z = plc pn lf_1 (pb cn2_1) := ⟨_, rfl⟩
    rw [← ezp_10] at hw_9
    subst hw_9
    have hzp_10 : zp_10 ≤ pn := by rw [ezp_10]; exact pl_le
    refine ro_i (D := D) (va_runV (As := [.int (nI cn2_1), .int (nI zp_10)]) (rest := [.int r_7]) ⟨hx, hb, hml, hown, hts⟩ ((y_paidAt l D k st lo c0 z0 z1 z2 z3 pn pf pd pe pco cn2_1 zp_10 (by first | assumption | omega) (by first | assumption | omega) (by first | assumption | omega)) H.size) (cwV 2 hts (gV tw_862 tw_864 tw_23 tw_84 tw_865) rfl rfl rfl (by decide +kernel) ⟨Nat.le_of_ble_eq_true rfl, Nat.le_of_ble_eq_true rfl⟩) (pV hS hAlo hlo hP hK hDL hZ [0, 2] (by decide) rfl (ci := 1) (q := (RX1, TX1, 8)) (q0 := 0) rfl rfl) rfl rfl hl.1 rfl (lv_room (Nat.le_of_ble_eq_true rfl)) dX1_isAtRest_49 ⟨Nat.le_of_ble_eq_true rfl, Nat.le_of_ble_eq_true rfl⟩) hS hA hP (fun r_11 H locs hw_11 hP hS => ?_)
    try dsimp only at hw_11
    refine lv_icmp_ge (tgt := 57) hx hb dX1_isAtRest_52 (by decide) (fun c_12 => ?_) (fun c_12 => ?_)
    · refine lv_aload_n hx hb dX1_isAtRest_57 rfl (lv_at hl 3 rfl) ?_
      refine lv_iload_n hx hb dX1_isAtRest_58 rfl (lv_at hl 1 rfl) ?_
      refine lv_iload_n hx hb dX1_isAtRest_59 rfl (lv_at hl 2 rfl) ?_
      refine ro_i (D := D) (va_runV (As := [.int (nI cn2_1), .int (nI lf_1)]) (rest := []) ⟨hx, hb, hml, hown, hts⟩ ((y_leftBehind l D k st lo c0 z0 z1 z2 z3 pn pf pd pe pb cn2_1 lf_1 (by first | assumption | omega) (by first | assumption | omega) hpb (by first | assumption | omega)) H.size) (cwV 2 hts (gV tw_834 tw_836 tw_19 tw_84 tw_837) rfl rfl rfl (by decide +kernel) ⟨Nat.le_of_ble_eq_true rfl, Nat.le_of_ble_eq_true rfl⟩) (pV hS hAlo hlo hP hK hDL hZ [0, 1] (by decide) rfl (ci := 1) (q := (RX1, TX1, 8)) (q0 := 0) rfl rfl) rfl rfl hl.1 rfl (lv_room (Nat.le_of_ble_eq_true rfl)) dX1_isAtRest_60 ⟨Nat.le_of_ble_eq_true rfl, Nat.le_of_ble_eq_true rfl⟩) hS hA hP (fun r_13 H locs hw_13 hP hS => ?_)
      try dsimp only at hw_13
      obtain ⟨lz_14, elz_14⟩ : ∃ z : Nat, z = rmv lf_1 (plc pn lf_1 (pb cn2_1)) := ⟨_, rfl⟩
      rw [← elz_14] at hw_13
      subst hw_13
      have hlz_14 : lz_14 ≤ lf_1 := by rw [elz_14]; exact rmv_le
      refine lv_istore_n (lv' := [(1, .int (nI lz_14)), (3, .int (nI zp_6)), (2, .int (nI cn2_1)), (0, .ref z0)]) hx hb dX1_isAtRest_63 rfl hl (by decide) rfl (fun ls hl => ?_)
      refine lv_iinc (v := (nI (cn2_1 + 1))) (lv' := [(2, .int (nI (cn2_1 + 1))), (1, .int (nI lz_14)), (3, .int (nI zp_6)), (0, .ref z0)]) hx hb dX1_isAtRest_64 hl (k := 2) rfl (nI_add cn2_1 1) (by decide) rfl (fun ls hl => ?_)
      refine lv_goto (tgt := 7) hx hb dX1_isAtRest_67 (by decide) ?_
      exact ih_1 _ (cn2_1 + 1, lz_14) _ _ _ (by omega) ⟨rfl, ⟨by omega, elz_14.trans (by rw [hv_1.2.1]; rfl), by omega, fun k hk => by rcases (show k = cn2_1 ∨ k < cn2_1 by omega) with e | e; rw [e]; exact (rsx (K := (kx pco pd pe pn)) hv_1.2.1 hbq_1 ezb_4 (hw_7.trans (congrArg (kx pco pd pe pn cn2_1) ezp_6)) (hw_11.trans (congrArg (kx pco pd pe pn cn2_1) ezp_10))).mp (Int32.not_lt.mpr c_12); exact hv_1.2.2.2 k e⟩, hP, hS, (lv_sub hl [0, 1, 3] rfl)⟩
    · refine lv_iconst (v := 0) hx hb dX1_isAtRest_55 (by decide) ?_
      exact W.zret (v := 0) (ty := .boolean) hx hb hr rfl (fun t ht hW => ⟨⟨0, (), rfl, .inr ⟨rfl, fun q => absurd (Int32.not_le.mp c_12) ((rsx (K := (kx pco pd pe pn)) hv_1.2.1 hbq_1 ezb_4 (hw_7.trans (congrArg (kx pco pd pe pn cn2_1) ezp_6)) (hw_11.trans (congrArg (kx pco pd pe pn cn2_1) ezp_10))).mpr (fun a ha => q cn2_1 (by omega) a ha))⟩, trivial⟩, hS.F ht⟩) hS.2.2 dX1_isAtRest_56


set_option maxHeartbeats 4000000 in
set_option maxRecDepth 100000 in
theorem y_changeInTurn (l : Launch) (D : va_G) (k : Nat → ClassId) (st : Nat → Nat) (lo : Nat) (c0 : Nat) (z0 : Nat) (z1 : Nat) (z2 : Nat) (z3 : Nat) (pn : Nat) (pf : Nat) (pd : Int32) (pe : Int32) (pb : Nat → Nat) (pco : Nat → Int32) (c1 : Nat) (c2 : Nat) (cc : Nat) (rz : Nat) (ro : Int32) (sd : Int32) (hpn : pn ≤ 24) (hcc : cc ≤ 4) (hpb : ∀ j, pb j ≤ 24) (hpf : pf < 16777216) (hb4 : le4 pn pb) : CWi l D k st lo yX1_changeInTurn cX1_changeInTurn 5 (some .boolean) ({ frames := 3, cells := 0, slots := 0, locals := 72 }) 0 0 [.ref z0] [(z0, .inr (1, (fX1 c0 z1 z2 z3 (nI pn) (nI pf) pd pe))), (aI k z1 4 (nF pb)), (aI k z2 100 pco), (c0, .inr (4, (fX4 c1 c2 (nI cc) (nI rz) ro sd)))] (fun (r : Int32) (pb_ : (Nat → Nat)) => ((r = 1 ∧ ¬ eq4 (tnB pn pf (kx pco pd pe pn) pb cc) pb) ∨ (r = 0 ∧ eq4 (tnB pn pf (kx pco pd pe pn) pb cc) pb)) ∧ eq4 pb_ (tnB pn pf (kx pco pd pe pn) pb cc) ∧ (∀ j, pb_ j ≤ 24)) (fun (pb_ : (Nat → Nat)) => [(z0, .inr (1, (fX1 c0 z1 z2 z3 (nI pn) (nI pf) pd pe))), (aI k z1 4 (nF pb_)), (aI k z2 100 pco), (c0, .inr (4, (fX4 c1 c2 (nI cc) (nI rz) ro sd)))]) := by
  intro sz
  refine Met.ofW (cc := cX1_changeInTurn) (maxL := 5) (ret := (some .boolean)) (by decide) rfl ?_
  intro p e s m args below meth c s₁ B hml hv
  obtain ⟨rfl, hsz, hlo, hP, hK, hDL, hZ⟩ := hv
  have hx := B.exec
  have hb := B.bytes
  have hr := B.returns
  have hts := WS_ts B.pre
  have hown : s.vm.findClass RX1 = some m.cls := findClass_of_methodNamed B.named
  have hlocks := B.notSynchronized
  subst hsz
  have hD := hDL.self (sz := s.heap.size)
  have hAlo := A_lo hDL hlo
  generalize hAe : va_A [(z0, .inr (1, (fX1 c0 z1 z2 z3 (nI pn) (nI pf) pd pe))), (aI k z1 4 (nF pb)), (aI k z2 100 pco), (c0, .inr (4, (fX4 c1 c2 (nI cc) (nI rz) ro sd)))] s.heap.size = A at hD hAlo ⊢
  have hA : ∀ q : Nat, s.heap.size ≤ q → A q := fun q h => by rw [← hAe]; exact Or.inr h
  have hS : va_S A s.heap s.heap [] := va_S.rf
  have hl := lv_entry ([.ref z0]) (n := 5) (Nat.le_of_ble_eq_true rfl)
  rw [lg_entry_eq]
  generalize (lg_sl ([.ref z0]) ++ List.replicate (5 - (lg_sl ([.ref z0])).length) Slot.unset).toArray = ls at hl ⊢
  have hl : lv_has ls 5 [(0, .ref z0)] := hl
  refine lv_iconst (v := 0) hx hb dX1_changeInTurn_0 (by decide) ?_
  refine lv_istore_n (lv' := [(1, .int 0), (0, .ref z0)]) hx hb dX1_changeInTurn_1 rfl hl (by decide) rfl (fun ls hl => ?_)
  refine lv_aload_n hx hb dX1_changeInTurn_2 rfl (lv_at hl 1 rfl) ?_
  refine va_get (D := D) (ci := 1) (v := .int (nI pf)) (C := RX1) (T := TX1) (N := 8) hx hb hts inX1 hown hK hP 0 rfl rfl 5 (by decide) (hts _ tw_241) (fun _ h9 => h9) rfl dX1_changeInTurn_3 ?_
  refine lv_istore_n (lv' := [(2, .int (nI pf)), (1, .int 0), (0, .ref z0)]) hx hb dX1_changeInTurn_6 rfl hl (by decide) rfl (fun ls hl => ?_)
  refine lv_iconst (v := 0) hx hb dX1_changeInTurn_7 (by decide) ?_
  refine lv_istore_n (lv' := [(3, .int 0), (2, .int (nI pf)), (1, .int 0), (0, .ref z0)]) hx hb dX1_changeInTurn_8 rfl hl (by decide) rfl (fun ls hl => ?_)
  refine W_loop (σ := Nat × Int32 × Nat × (Nat → Nat)) (fun (n_ : Nat) (x_ : Nat × Int32 × Nat × (Nat → Nat)) (H : Heap) (locs : List Loc) (ls : Array Slot) => match x_ with | (cn2_1, ch_1, lf_1, pb2_1) => n_ = 5 - cn2_1 ∧ ((cn2_1 ≤ cc ∧ lf_1 = LF pn pb2_1 pf cn2_1 ∧ lf_1 ≤ pf) ∧ eq4 pb2_1 (tnB pn pf (kx pco pd pe pn) pb cn2_1) ∧ chP pn pf (kx pco pd pe pn) pb cn2_1 ch_1 ∧ (∀ j, pb2_1 j ≤ 24)) ∧ va_P D classes [(z0, .inr (1, (fX1 c0 z1 z2 z3 (nI pn) (nI pf) pd pe))), (aI k z1 4 (nF pb2_1)), (aI k z2 100 pco), (c0, .inr (4, (fX4 c1 c2 (nI cc) (nI rz) ro sd)))] H ∧ va_D A [(z0, .inr (1, (fX1 c0 z1 z2 z3 (nI pn) (nI pf) pd pe))), (aI k z1 4 (nF pb2_1)), (aI k z2 100 pco), (c0, .inr (4, (fX4 c1 c2 (nI cc) (nI rz) ro sd)))] ∧ va_S A s.heap H locs ∧ lv_has ls 5 [(3, .int (nI cn2_1)), (2, .int (nI lf_1)), (1, .int ch_1), (0, .ref z0)]) (fun n_1 x_1 H locs ls hI ih_1 => ?_) _ (0, 0, pf, pb) ⟨rfl, ⟨⟨by omega, rfl, Nat.le_refl _⟩, eq4_r _, .inr ⟨rfl, fun j h => absurd h (Nat.not_lt_zero j)⟩, hpb⟩, hP, hD, hS, (lv_sub hl [0, 1, 2, 3] rfl)⟩
  obtain ⟨cn2_1, ch_1, lf_1, pb2_1⟩ := x_1
  obtain ⟨hm_1, hv_1, hP, hD, hS, hl⟩ := hI
  subst hm_1
  have hpl_1 := hv_1.2.2.2
  refine lv_iload_n hx hb dX1_changeInTurn_9 rfl (lv_at hl 0 rfl) ?_
  refine lv_aload_n hx hb dX1_changeInTurn_10 rfl (lv_at hl 3 rfl) ?_
  refine va_get (D := D) (ci := 1) (v := .ref c0) (C := RX1) (T := TX1) (N := 8) hx hb hts inX1 hown hK hP 0 rfl rfl 0 (by decide) (hts _ tw_235) (fun _ h9 => h9) rfl dX1_changeInTurn_11 ?_
  refine va_get (D := D) (ci := 4) (v := .int (nI cc)) (C := RX4) (T := TX4) (N := 6) hx hb hts inX4 hown hK hP 3 rfl rfl 2 (by decide) (hts _ tw_179) (fun _ h9 => h9) rfl dX1_changeInTurn_14 ?_
  refine lv_icmp_ge (tgt := 62) hx hb dX1_changeInTurn_17 (by decide) (fun c_2 => ?_) (fun c_2 => ?_)
  · have c_2 := (nI_leI (a := cc) (b := cn2_1) (by omega) (by omega)).mp c_2
    refine lv_iload_n hx hb dX1_changeInTurn_62 rfl (lv_at hl 2 rfl) ?_
    have hce_9 := ch_end (show cn2_1 ≤ 4 by omega) hv_1.2.2.1
    rw [show cn2_1 = cc by omega] at hce_9
    rcases hce_9 with ⟨hE_9, hce_9⟩ | ⟨hE_9, hce_9⟩
    · refine lv_ti (y := 1) hE_9 ?_
      obtain ⟨hP9, hD9⟩ := pd_sub [(z0, .inr (1, (fX1 c0 z1 z2 z3 (nI pn) (nI pf) pd pe))), (aI k z1 4 (nF pb2_1)), (aI k z2 100 pco), (c0, .inr (4, (fX4 c1 c2 (nI cc) (nI rz) ro sd)))] [0, 1, 2, 3] hP hD (by decide) rfl
      exact W.zret (v := 1) (ty := .boolean) hx hb hr rfl (fun t ht hW => ⟨⟨1, pb2_1, rfl, ⟨.inl ⟨rfl, hce_9⟩, (by have h9 := hv_1.2.1; rw [show cn2_1 = cc by omega] at h9; exact h9), hpl_1⟩, by rw [ht]; exact hP9, hD9⟩, hS.F ht⟩) hS.2.2 dX1_changeInTurn_63
    · refine lv_ti (y := 0) hE_9 ?_
      obtain ⟨hP9, hD9⟩ := pd_sub [(z0, .inr (1, (fX1 c0 z1 z2 z3 (nI pn) (nI pf) pd pe))), (aI k z1 4 (nF pb2_1)), (aI k z2 100 pco), (c0, .inr (4, (fX4 c1 c2 (nI cc) (nI rz) ro sd)))] [0, 1, 2, 3] hP hD (by decide) rfl
      exact W.zret (v := 0) (ty := .boolean) hx hb hr rfl (fun t ht hW => ⟨⟨0, pb2_1, rfl, ⟨.inr ⟨rfl, hce_9⟩, (by have h9 := hv_1.2.1; rw [show cn2_1 = cc by omega] at h9; exact h9), hpl_1⟩, by rw [ht]; exact hP9, hD9⟩, hS.F ht⟩) hS.2.2 dX1_changeInTurn_63
  · have c_2 : ¬ (cc ≤ cn2_1) := fun h => c_2 ((nI_leI (a := cc) (b := cn2_1) (by omega) (by omega)).mpr h)
    have hbq_1 : pb2_1 cn2_1 ≤ pn := by rw [hv_1.2.1 cn2_1 (by omega), tnB_hi cn2_1 cn2_1 (Nat.le_refl _)]; exact hb4 cn2_1 (by omega)
    refine lv_aload_n hx hb dX1_changeInTurn_20 rfl (lv_at hl 3 rfl) ?_
    refine lv_iload_n hx hb dX1_changeInTurn_21 rfl (lv_at hl 0 rfl) ?_
    refine lv_iload_n hx hb dX1_changeInTurn_22 rfl (lv_at hl 1 rfl) ?_
    refine ro_i (D := D) (va_runV (As := [.int (nI cn2_1), .int (nI lf_1)]) (rest := []) ⟨hx, hb, hml, hown, hts⟩ ((y_bestBar l D k st lo c0 z0 z1 z2 z3 pn pf pd pe pb2_1 pco cn2_1 lf_1 (by first | assumption | omega) (by first | assumption | omega) hpl_1 (by first | assumption | omega) (by first | assumption | omega)) H.size) (cwV 2 hts (gV tw_858 tw_860 tw_22 tw_84 tw_861) rfl rfl rfl (by decide +kernel) ⟨Nat.le_of_ble_eq_true rfl, Nat.le_of_ble_eq_true rfl⟩) (pV hS hAlo hlo hP hK (va_Dlo hD hAlo) hZ [0, 1, 2] (by decide) rfl (ci := 1) (q := (RX1, TX1, 8)) (q0 := 0) rfl rfl) rfl rfl hl.1 rfl (lv_room (Nat.le_of_ble_eq_true rfl)) dX1_changeInTurn_23 ⟨Nat.le_of_ble_eq_true rfl, Nat.le_of_ble_eq_true rfl⟩) hS hA hP (fun r_3 H locs hw_3 hP hS => ?_)
    try dsimp only at hw_3
    obtain ⟨zb_4, ezb_4⟩ : ∃ z : Nat, z = bsF pn (fun b => kx pco pd pe pn cn2_1 (plc pn lf_1 b)) (pb2_1 cn2_1) := ⟨_, rfl⟩
    rw [← ezb_4] at hw_3
    subst hw_3
    have hzb_4 : zb_4 ≤ pn := by rw [ezb_4]; exact bsF_le (by omega)
    refine lv_istore (lv' := [(4, .int (nI zb_4)), (3, .int (nI cn2_1)), (2, .int (nI lf_1)), (1, .int ch_1), (0, .ref z0)]) hx hb dX1_changeInTurn_26 hl (by decide) rfl (fun ls hl => ?_)
    refine lv_iload hx hb dX1_changeInTurn_28 (lv_at hl 0 rfl) ?_
    refine lv_aload_n hx hb dX1_changeInTurn_30 rfl (lv_at hl 4 rfl) ?_
    refine va_get (D := D) (ci := 1) (v := .ref z1) (C := RX1) (T := TX1) (N := 8) hx hb hts inX1 hown hK hP 0 rfl rfl 1 (by decide) (hts _ tw_236) (fun _ h9 => h9) rfl dX1_changeInTurn_31 ?_
    refine lv_iload_n hx hb dX1_changeInTurn_34 rfl (lv_at hl 1 rfl) ?_
    refine va_iald hx hb hK hP 1 1 rfl rfl (vp_in_nI (by omega) (by decide)) dX1_changeInTurn_35 ?_
    have hq_5 := hpl_1 cn2_1
    refine lv_ti (y := (nI (pb2_1 cn2_1))) (by rw [nI_clamp (by omega)]; rfl) ?_
    refine lv_icmp_eq (tgt := 49) hx hb dX1_changeInTurn_36 (by decide) (fun c_6 => ?_) (fun c_6 => ?_)
    · have c_6 := (nI_eq (a := zb_4) (b := (pb2_1 cn2_1)) (by omega) (by omega)).mp c_6
      refine lv_aload_n hx hb dX1_changeInTurn_49 rfl (lv_at hl 4 rfl) ?_
      refine lv_iload_n hx hb dX1_changeInTurn_50 rfl (lv_at hl 1 rfl) ?_
      refine lv_iload_n hx hb dX1_changeInTurn_51 rfl (lv_at hl 2 rfl) ?_
      refine ro_i (D := D) (va_runV (As := [.int (nI cn2_1), .int (nI lf_1)]) (rest := []) ⟨hx, hb, hml, hown, hts⟩ ((y_leftBehind l D k st lo c0 z0 z1 z2 z3 pn pf pd pe pb2_1 cn2_1 lf_1 (by first | assumption | omega) (by first | assumption | omega) hpl_1 (by first | assumption | omega)) H.size) (cwV 2 hts (gV tw_834 tw_836 tw_19 tw_84 tw_837) rfl rfl rfl (by decide +kernel) ⟨Nat.le_of_ble_eq_true rfl, Nat.le_of_ble_eq_true rfl⟩) (pV hS hAlo hlo hP hK (va_Dlo hD hAlo) hZ [0, 1] (by decide) rfl (ci := 1) (q := (RX1, TX1, 8)) (q0 := 0) rfl rfl) rfl rfl hl.1 rfl (lv_room (Nat.le_of_ble_eq_true rfl)) dX1_changeInTurn_52 ⟨Nat.le_of_ble_eq_true rfl, Nat.le_of_ble_eq_true rfl⟩) hS hA hP (fun r_7 H locs hw_7 hP hS => ?_)
      try dsimp only at hw_7
      obtain ⟨lz_8, elz_8⟩ : ∃ z : Nat, z = rmv lf_1 (plc pn lf_1 (pb2_1 cn2_1)) := ⟨_, rfl⟩
      rw [← elz_8] at hw_7
      subst hw_7
      have hlz_8 : lz_8 ≤ lf_1 := by rw [elz_8]; exact rmv_le
      refine lv_istore_n (lv' := [(2, .int (nI lz_8)), (4, .int (nI zb_4)), (3, .int (nI cn2_1)), (1, .int ch_1), (0, .ref z0)]) hx hb dX1_changeInTurn_55 rfl hl (by decide) rfl (fun ls hl => ?_)
      refine lv_iinc (v := (nI (cn2_1 + 1))) (lv' := [(3, .int (nI (cn2_1 + 1))), (2, .int (nI lz_8)), (4, .int (nI zb_4)), (1, .int ch_1), (0, .ref z0)]) hx hb dX1_changeInTurn_56 hl (k := 2) rfl (nI_add cn2_1 1) (by decide) rfl (fun ls hl => ?_)
      refine lv_goto (tgt := 9) hx hb dX1_changeInTurn_59 (by decide) ?_
      have hts_9 := tn_step (b3 := pb2_1) (show cn2_1 < 4 by omega) hv_1.2.1 hv_1.1.2.1 ezb_4 (fun j => by by_cases q : j = cn2_1; rw [if_pos q, q]; omega; rw [if_neg q])
      have hcs_9 := ch_st (show cn2_1 < 4 by omega) hv_1.2.1 (tn_at (lf := 0) (zb := zb_4) (b2 := pb2_1) (show cn2_1 < 4 by omega) hts_9.1 (fun j => by by_cases q : j = cn2_1; rw [if_pos q, q]; omega; rw [if_neg q])) hv_1.2.2.1
      exact ih_1 _ (cn2_1 + 1, ch_1, lz_8, pb2_1) _ _ _ (by omega) ⟨rfl, ⟨⟨by omega, elz_8.trans hts_9.2, by omega⟩, hts_9.1, hcs_9.1 (by omega), hpl_1⟩, hP, hD, hS, (lv_sub hl [0, 1, 3, 4] rfl)⟩
    · have c_6 : ¬ (zb_4 = (pb2_1 cn2_1)) := fun h => c_6 ((nI_eq (a := zb_4) (b := (pb2_1 cn2_1)) (by omega) (by omega)).mpr h)
      refine lv_aload_n hx hb dX1_changeInTurn_39 rfl (lv_at hl 4 rfl) ?_
      refine va_get (D := D) (ci := 1) (v := .ref z1) (C := RX1) (T := TX1) (N := 8) hx hb hts inX1 hown hK hP 0 rfl rfl 1 (by decide) (hts _ tw_236) (fun _ h9 => h9) rfl dX1_changeInTurn_40 ?_
      refine lv_iload_n hx hb dX1_changeInTurn_43 rfl (lv_at hl 1 rfl) ?_
      refine lv_iload hx hb dX1_changeInTurn_44 (lv_at hl 0 rfl) ?_
      refine va_iast hx hb hK hP hD hS 1 1 rfl rfl (vp_in_nI (by omega) (by decide)) dX1_changeInTurn_46 (fun H locs hP hD hS => ?_)
      have hQ9 := pd_mk [(z0, .inr (1, (fX1 c0 z1 z2 z3 (nI pn) (nI pf) pd pe))), (aI k z1 4 (upd (nF pb2_1) (Int32.toNatClampNeg (nI cn2_1)) (nI zb_4))), (aI k z2 100 pco), (c0, .inr (4, (fX4 c1 c2 (nI cc) (nI rz) ro sd)))] hP hD
      clear hP hD
      obtain ⟨hP, hD⟩ := hQ9
      rw [nI_clamp (n := cn2_1) (by omega)] at hP hD
      rw [show upd (nF pb2_1) cn2_1 (nI zb_4) = nF (fun j => if j = cn2_1 then zb_4 else pb2_1 j) from nF_upd _ _ _] at hP hD
      obtain ⟨d_11, hd_11⟩ : ∃ z : Nat → Nat, z = (fun j => if j = cn2_1 then zb_4 else pb2_1 j) := ⟨_, rfl⟩
      rw [← hd_11] at hP hD
      have hbb_11 : ∀ j, d_11 j ≤ 24 := by rw [hd_11]; exact up_le hpl_1 (by omega)
      refine lv_iconst (v := 1) hx hb dX1_changeInTurn_47 (by decide) ?_
      refine lv_istore_n (lv' := [(1, .int 1), (4, .int (nI zb_4)), (3, .int (nI cn2_1)), (2, .int (nI lf_1)), (0, .ref z0)]) hx hb dX1_changeInTurn_48 rfl hl (by decide) rfl (fun ls hl => ?_)
      refine lv_aload_n hx hb dX1_changeInTurn_49 rfl (lv_at hl 4 rfl) ?_
      refine lv_iload_n hx hb dX1_changeInTurn_50 rfl (lv_at hl 2 rfl) ?_
      refine lv_iload_n hx hb dX1_changeInTurn_51 rfl (lv_at hl 3 rfl) ?_
      refine ro_i (D := D) (va_runV (As := [.int (nI cn2_1), .int (nI lf_1)]) (rest := []) ⟨hx, hb, hml, hown, hts⟩ ((y_leftBehind l D k st lo c0 z0 z1 z2 z3 pn pf pd pe d_11 cn2_1 lf_1 (by first | assumption | omega) (by first | assumption | omega) hbb_11 (by first | assumption | omega)) H.size) (cwV 2 hts (gV tw_834 tw_836 tw_19 tw_84 tw_837) rfl rfl rfl (by decide +kernel) ⟨Nat.le_of_ble_eq_true rfl, Nat.le_of_ble_eq_true rfl⟩) (pV hS hAlo hlo hP hK (va_Dlo hD hAlo) hZ [0, 1] (by decide) rfl (ci := 1) (q := (RX1, TX1, 8)) (q0 := 0) rfl rfl) rfl rfl hl.1 rfl (lv_room (Nat.le_of_ble_eq_true rfl)) dX1_changeInTurn_52 ⟨Nat.le_of_ble_eq_true rfl, Nat.le_of_ble_eq_true rfl⟩) hS hA hP (fun r_12 H locs hw_12 hP hS => ?_)
      try dsimp only at hw_12
      obtain ⟨lz_13, elz_13⟩ : ∃ z : Nat, z = rmv lf_1 (plc pn lf_1 (d_11 cn2_1)) := ⟨_, rfl⟩
      rw [← elz_13] at hw_12
      subst hw_12
      have hlz_13 : lz_13 ≤ lf_1 := by rw [elz_13]; exact rmv_le
      refine lv_istore_n (lv' := [(2, .int (nI lz_13)), (1, .int 1), (4, .int (nI zb_4)), (3, .int (nI cn2_1)), (0, .ref z0)]) hx hb dX1_changeInTurn_55 rfl hl (by decide) rfl (fun ls hl => ?_)
      refine lv_iinc (v := (nI (cn2_1 + 1))) (lv' := [(3, .int (nI (cn2_1 + 1))), (2, .int (nI lz_13)), (1, .int 1), (4, .int (nI zb_4)), (0, .ref z0)]) hx hb dX1_changeInTurn_56 hl (k := 3) rfl (nI_add cn2_1 1) (by decide) rfl (fun ls hl => ?_)
      refine lv_goto (tgt := 9) hx hb dX1_changeInTurn_59 (by decide) ?_
      have hts_14 := tn_step (b3 := d_11) (show cn2_1 < 4 by omega) hv_1.2.1 hv_1.1.2.1 ezb_4 (fun j => by rw [hd_11])
      have hcs_14 := ch_st (show cn2_1 < 4 by omega) hv_1.2.1 (tn_at (lf := 0) (zb := zb_4) (b2 := pb2_1) (show cn2_1 < 4 by omega) hts_14.1 (fun j => by rw [hd_11])) hv_1.2.2.1
      exact ih_1 _ (cn2_1 + 1, 1, lz_13, d_11) _ _ _ (by omega) ⟨rfl, ⟨⟨by omega, elz_13.trans hts_14.2, by omega⟩, hts_14.1, hcs_14.2 (by omega), hbb_11⟩, hP, hD, hS, (lv_sub hl [0, 1, 2, 4] rfl)⟩


set_option maxHeartbeats 4000000 in
set_option maxRecDepth 100000 in
theorem y_goByTurns (l : Launch) (D : va_G) (k : Nat → ClassId) (st : Nat → Nat) (lo : Nat) (c0 : Nat) (z0 : Nat) (z1 : Nat) (z2 : Nat) (z3 : Nat) (pn : Nat) (pf : Nat) (pd : Int32) (pe : Int32) (pb : Nat → Nat) (pco : Nat → Int32) (c1 : Nat) (c2 : Nat) (cc : Nat) (rz : Nat) (ro : Int32) (sd : Int32) (hpn : pn ≤ 24) (hcc : cc ≤ 4) (hpb : ∀ j, pb j ≤ 24) (hpf : pf < 16777216) (hb4 : le4 pn pb) : CWi l D k st lo yX1_goByTurns cX1_goByTurns 2 (some .int) ({ frames := 4, cells := 0, slots := 0, locals := 96 }) 0 0 [.ref z0] [(z0, .inr (1, (fX1 c0 z1 z2 z3 (nI pn) (nI pf) pd pe))), (aI k z1 4 (nF pb)), (aI k z2 100 pco), (c0, .inr (4, (fX4 c1 c2 (nI cc) (nI rz) ro sd)))] (fun (r : Int32) (pb_ : (Nat → Nat)) => gtP (tnT pn pf (kx pco pd pe pn) cc) 50 pb pb_ ∧ (∀ j, pb_ j ≤ 24) ∧ le4 pn pb_) (fun (pb_ : (Nat → Nat)) => [(z0, .inr (1, (fX1 c0 z1 z2 z3 (nI pn) (nI pf) pd pe))), (aI k z1 4 (nF pb_)), (aI k z2 100 pco), (c0, .inr (4, (fX4 c1 c2 (nI cc) (nI rz) ro sd)))]) := by
  intro sz
  refine Met.ofW (cc := cX1_goByTurns) (maxL := 2) (ret := (some .int)) (by decide) rfl ?_
  intro p e s m args below meth c s₁ B hml hv
  obtain ⟨rfl, hsz, hlo, hP, hK, hDL, hZ⟩ := hv
  have hx := B.exec
  have hb := B.bytes
  have hr := B.returns
  have hts := WS_ts B.pre
  have hown : s.vm.findClass RX1 = some m.cls := findClass_of_methodNamed B.named
  have hlocks := B.notSynchronized
  subst hsz
  have hD := hDL.self (sz := s.heap.size)
  have hAlo := A_lo hDL hlo
  generalize hAe : va_A [(z0, .inr (1, (fX1 c0 z1 z2 z3 (nI pn) (nI pf) pd pe))), (aI k z1 4 (nF pb)), (aI k z2 100 pco), (c0, .inr (4, (fX4 c1 c2 (nI cc) (nI rz) ro sd)))] s.heap.size = A at hD hAlo ⊢
  have hA : ∀ q : Nat, s.heap.size ≤ q → A q := fun q h => by rw [← hAe]; exact Or.inr h
  have hS : va_S A s.heap s.heap [] := va_S.rf
  have hl := lv_entry ([.ref z0]) (n := 2) (Nat.le_of_ble_eq_true rfl)
  rw [lg_entry_eq]
  generalize (lg_sl ([.ref z0]) ++ List.replicate (2 - (lg_sl ([.ref z0])).length) Slot.unset).toArray = ls at hl ⊢
  have hl : lv_has ls 2 [(0, .ref z0)] := hl
  refine lv_iconst (v := 0) hx hb dX1_goByTurns_0 (by decide) ?_
  refine lv_istore_n (lv' := [(1, .int 0), (0, .ref z0)]) hx hb dX1_goByTurns_1 rfl hl (by decide) rfl (fun ls hl => ?_)
  refine W_loop (σ := Nat × (Nat → Nat)) (fun (n_ : Nat) (x_ : Nat × (Nat → Nat)) (H : Heap) (locs : List Loc) (ls : Array Slot) => match x_ with | (tt_1, pb2_1) => n_ = 51 - tt_1 ∧ (tt_1 ≤ 50 ∧ (∀ z, gtP (tnT pn pf (kx pco pd pe pn) cc) (50 - tt_1) pb2_1 z → gtP (tnT pn pf (kx pco pd pe pn) cc) 50 pb z) ∧ le4 pn pb2_1 ∧ (∀ j, pb2_1 j ≤ 24)) ∧ va_P D classes [(z0, .inr (1, (fX1 c0 z1 z2 z3 (nI pn) (nI pf) pd pe))), (aI k z1 4 (nF pb2_1)), (aI k z2 100 pco), (c0, .inr (4, (fX4 c1 c2 (nI cc) (nI rz) ro sd)))] H ∧ va_D A [(z0, .inr (1, (fX1 c0 z1 z2 z3 (nI pn) (nI pf) pd pe))), (aI k z1 4 (nF pb2_1)), (aI k z2 100 pco), (c0, .inr (4, (fX4 c1 c2 (nI cc) (nI rz) ro sd)))] ∧ va_S A s.heap H locs ∧ lv_has ls 2 [(1, .int (nI tt_1)), (0, .ref z0)]) (fun n_1 x_1 H locs ls hI ih_1 => ?_) _ (0, pb) ⟨rfl, ⟨by omega, fun _ h => h, hb4, hpb⟩, hP, hD, hS, (lv_sub hl [0, 1] rfl)⟩
  obtain ⟨tt_1, pb2_1⟩ := x_1
  obtain ⟨hm_1, hv_1, hP, hD, hS, hl⟩ := hI
  subst hm_1
  have hpl_1 := hv_1.2.2.2
  refine lv_iload_n hx hb dX1_goByTurns_2 rfl (lv_at hl 0 rfl) ?_
  refine lv_bipush (v := 50) hx hb dX1_goByTurns_3 (by decide) ?_
  refine lv_icmp_ge (tgt := 23) hx hb dX1_goByTurns_5 (by decide) (fun c_2 => ?_) (fun c_2 => ?_)
  · have c_2 := (nI_leI (a := 50) (b := tt_1) (by omega) (by omega)).mp c_2
    refine lv_iconst (v := (-1)) hx hb dX1_goByTurns_23 (by decide) ?_
    obtain ⟨hP9, hD9⟩ := pd_sub [(z0, .inr (1, (fX1 c0 z1 z2 z3 (nI pn) (nI pf) pd pe))), (aI k z1 4 (nF pb2_1)), (aI k z2 100 pco), (c0, .inr (4, (fX4 c1 c2 (nI cc) (nI rz) ro sd)))] [0, 1, 2, 3] hP hD (by decide) rfl
    exact W.iret (v := (-1)) hx hb hr (fun t ht hW => ⟨⟨(-1), pb2_1, rfl, ⟨hv_1.2.1 _ (by rw [show 50 - tt_1 = 0 by omega]; exact eq4_r _), hv_1.2.2.2, hv_1.2.2.1⟩, by rw [ht]; exact hP9, hD9⟩, hS.F ht⟩) hS.2.2 dX1_goByTurns_24
  · have c_2 : ¬ (50 ≤ tt_1) := fun h => c_2 ((nI_leI (a := 50) (b := tt_1) (by omega) (by omega)).mpr h)
    refine lv_aload_n hx hb dX1_goByTurns_8 rfl (lv_at hl 1 rfl) ?_
    refine rw_i (D := D) (wr := []) (va_runV (As := []) (rest := []) ⟨hx, hb, hml, hown, hts⟩ ((y_changeInTurn l D k st lo c0 z0 z1 z2 z3 pn pf pd pe pb2_1 pco c1 c2 cc rz ro sd (by first | assumption | omega) (by first | assumption | omega) hpl_1 (by first | assumption | omega) hv_1.2.2.1) H.size) (cwV 0 hts (gV tw_875 tw_877 tw_24 tw_84 tw_878) rfl rfl rfl (by decide +kernel) ⟨Nat.le_of_ble_eq_true rfl, Nat.le_of_ble_eq_true rfl⟩) (pV hS hAlo hlo hP hK (va_Dlo hD hAlo) hZ [0, 1, 2, 3] (by decide) rfl (ci := 1) (q := (RX1, TX1, 8)) (q0 := 0) rfl rfl) rfl rfl hl.1 rfl (lv_room (Nat.le_of_ble_eq_true rfl)) dX1_goByTurns_9 ⟨Nat.le_of_ble_eq_true rfl, Nat.le_of_ble_eq_true rfl⟩) hS hA hP hD [0, 1, 2, 3] [] rfl rfl (by decide) (by decide) (fun r_3 u H locs hw_3 hP hD hS => ?_)
    obtain ⟨pb__3, rfl⟩ : ∃ z, z = u := ⟨_, rfl⟩
    have hQ9 := pd_mk [(z0, .inr (1, (fX1 c0 z1 z2 z3 (nI pn) (nI pf) pd pe))), (aI k z1 4 (nF pb__3)), (aI k z2 100 pco), (c0, .inr (4, (fX4 c1 c2 (nI cc) (nI rz) ro sd)))] hP hD
    clear hP hD
    obtain ⟨hP, hD⟩ := hQ9
    try dsimp only at hw_3
    obtain ⟨hcq_4, hct_4, hcb_4⟩ := hw_3
    rcases hcq_4 with ⟨rfl, hcq_4⟩ | ⟨rfl, hcq_4⟩
    · refine lv_if_ne (tgt := 17) hx hb dX1_goByTurns_12 (by decide) (fun _ => ?_) (fun h => absurd h (by decide))
      refine lv_iinc (v := (nI (tt_1 + 1))) (lv' := [(1, .int (nI (tt_1 + 1))), (0, .ref z0)]) hx hb dX1_goByTurns_17 hl (k := 0) rfl (nI_add tt_1 1) (by decide) rfl (fun ls hl => ?_)
      refine lv_goto (tgt := 2) hx hb dX1_goByTurns_20 (by decide) ?_
      have hl4_4 : le4 pn pb__3 := le4_e (tnT_le (S := pf) (K := (kx pco pd pe pn)) hcc _ hv_1.2.2.1) (eq4_s hct_4)
      exact ih_1 _ (tt_1 + 1, pb__3) _ _ _ (by omega) ⟨rfl, ⟨by omega, fun z h => hv_1.2.1 z (by rw [show 50 - tt_1 = (50 - (tt_1 + 1)) + 1 by omega]; exact gt_more (tnT_le hcc) (tnT_e hcc (fun _ _ _ _ => rfl)) hv_1.2.2.1 hl4_4 hcq_4 hct_4 h), hl4_4, hcb_4⟩, hP, hD, hS, (lv_sub hl [0, 1] rfl)⟩
    · refine lv_if_ne (tgt := 17) hx hb dX1_goByTurns_12 (by decide) (fun h => absurd (by decide) h) (fun _ => ?_)
      refine lv_iload_n hx hb dX1_goByTurns_15 rfl (lv_at hl 0 rfl) ?_
      obtain ⟨hP9, hD9⟩ := pd_sub [(z0, .inr (1, (fX1 c0 z1 z2 z3 (nI pn) (nI pf) pd pe))), (aI k z1 4 (nF pb__3)), (aI k z2 100 pco), (c0, .inr (4, (fX4 c1 c2 (nI cc) (nI rz) ro sd)))] [0, 1, 2, 3] hP hD (by decide) rfl
      exact W.iret (v := (nI tt_1)) hx hb hr (fun t ht hW => ⟨⟨(nI tt_1), pb__3, rfl, ⟨hv_1.2.1 _ (by rw [show 50 - tt_1 = (49 - tt_1) + 1 by omega]; exact gt_stop hcq_4 hct_4), hcb_4, le4_e (tnT_le (S := pf) (K := (kx pco pd pe pn)) hcc _ hv_1.2.2.1) (eq4_s hct_4)⟩, by rw [ht]; exact hP9, hD9⟩, hS.F ht⟩) hS.2.2 dX1_goByTurns_16


set_option maxHeartbeats 4000000 in
set_option maxRecDepth 100000 in
theorem y_costOfAll (l : Launch) (D : va_G) (k : Nat → ClassId) (st : Nat → Nat) (lo : Nat) (c0 : Nat) (z0 : Nat) (z1 : Nat) (z2 : Nat) (z3 : Nat) (pn : Nat) (pf : Nat) (pd : Int32) (pe : Int32) (pb : Nat → Nat) (pco : Nat → Int32) (c1 : Nat) (c2 : Nat) (cc : Nat) (rz : Nat) (ro : Int32) (sd : Int32) (hpn : pn ≤ 24) (hcc : cc ≤ 4) (hpb : ∀ j, pb j ≤ 24) (hpf : pf < 16777216) : CRi l D k st lo yX1_costOfAll cX1_costOfAll 4 (some .int) ({ frames := 2, cells := 0, slots := 0, locals := 45 }) [.ref z0] [(z0, .inr (1, (fX1 c0 z1 z2 z3 (nI pn) (nI pf) pd pe))), (aI k z1 4 (nF pb)), (aI k z2 100 pco), (c0, .inr (4, (fX4 c1 c2 (nI cc) (nI rz) ro sd)))] (fun r => r = smF pn pf (fun c i => pco (c * 25 + i)) pb cc) := by
  intro sz
  refine Met.ofW (cc := cX1_costOfAll) (maxL := 4) (ret := (some .int)) (by decide) rfl ?_
  intro p e s m args below meth c s₁ B hml hv
  obtain ⟨rfl, hsz, hlo, hP, hK, hDL, hZ⟩ := hv
  have hx := B.exec
  have hb := B.bytes
  have hr := B.returns
  have hts := WS_ts B.pre
  have hown : s.vm.findClass RX1 = some m.cls := findClass_of_methodNamed B.named
  have hlocks := B.notSynchronized
  subst hsz
  have hA : ∀ q : Nat, s.heap.size ≤ q → (fun q : Nat => s.heap.size ≤ q) q := fun _ h => h
  have hAlo : ∀ q : Nat, (fun q : Nat => s.heap.size ≤ q) q → lo ≤ q := fun q h => Nat.le_trans hlo h
  have hS : va_S (fun q : Nat => s.heap.size ≤ q) s.heap s.heap [] := va_S.rf
  have hl := lv_entry ([.ref z0]) (n := 4) (Nat.le_of_ble_eq_true rfl)
  rw [lg_entry_eq]
  generalize (lg_sl ([.ref z0]) ++ List.replicate (4 - (lg_sl ([.ref z0])).length) Slot.unset).toArray = ls at hl ⊢
  have hl : lv_has ls 4 [(0, .ref z0)] := hl
  refine lv_iconst (v := 0) hx hb dX1_costOfAll_0 (by decide) ?_
  refine lv_istore_n (lv' := [(1, .int 0), (0, .ref z0)]) hx hb dX1_costOfAll_1 rfl hl (by decide) rfl (fun ls hl => ?_)
  refine lv_aload_n hx hb dX1_costOfAll_2 rfl (lv_at hl 1 rfl) ?_
  refine va_get (D := D) (ci := 1) (v := .int (nI pf)) (C := RX1) (T := TX1) (N := 8) hx hb hts inX1 hown hK hP 0 rfl rfl 5 (by decide) (hts _ tw_241) (fun _ h9 => h9) rfl dX1_costOfAll_3 ?_
  refine lv_istore_n (lv' := [(2, .int (nI pf)), (1, .int 0), (0, .ref z0)]) hx hb dX1_costOfAll_6 rfl hl (by decide) rfl (fun ls hl => ?_)
  refine lv_iconst (v := 0) hx hb dX1_costOfAll_7 (by decide) ?_
  refine lv_istore_n (lv' := [(3, .int 0), (2, .int (nI pf)), (1, .int 0), (0, .ref z0)]) hx hb dX1_costOfAll_8 rfl hl (by decide) rfl (fun ls hl => ?_)
  refine W_loop (σ := Nat × Int32 × Nat) (fun (n_ : Nat) (x_ : Nat × Int32 × Nat) (H : Heap) (locs : List Loc) (ls : Array Slot) => match x_ with | (cn2_1, al_1, lf_1) => n_ = 5 - cn2_1 ∧ (cn2_1 ≤ cc ∧ lf_1 = LF pn pb pf cn2_1 ∧ lf_1 ≤ pf ∧ al_1 = smF pn pf (fun c i => pco (c * 25 + i)) pb cn2_1) ∧ va_P D classes [(z0, .inr (1, (fX1 c0 z1 z2 z3 (nI pn) (nI pf) pd pe))), (aI k z1 4 (nF pb)), (aI k z2 100 pco), (c0, .inr (4, (fX4 c1 c2 (nI cc) (nI rz) ro sd)))] H ∧ va_S (fun q : Nat => s.heap.size ≤ q) s.heap H locs ∧ lv_has ls 4 [(3, .int (nI cn2_1)), (2, .int (nI lf_1)), (1, .int al_1), (0, .ref z0)]) (fun n_1 x_1 H locs ls hI ih_1 => ?_) _ (0, 0, pf) ⟨rfl, ⟨by omega, rfl, Nat.le_refl _, rfl⟩, hP, hS, (lv_sub hl [0, 1, 2, 3] rfl)⟩
  obtain ⟨cn2_1, al_1, lf_1⟩ := x_1
  obtain ⟨hm_1, hv_1, hP, hS, hl⟩ := hI
  subst hm_1
  refine lv_iload_n hx hb dX1_costOfAll_9 rfl (lv_at hl 0 rfl) ?_
  refine lv_aload_n hx hb dX1_costOfAll_10 rfl (lv_at hl 3 rfl) ?_
  refine va_get (D := D) (ci := 1) (v := .ref c0) (C := RX1) (T := TX1) (N := 8) hx hb hts inX1 hown hK hP 0 rfl rfl 0 (by decide) (hts _ tw_235) (fun _ h9 => h9) rfl dX1_costOfAll_11 ?_
  refine va_get (D := D) (ci := 4) (v := .int (nI cc)) (C := RX4) (T := TX4) (N := 6) hx hb hts inX4 hown hK hP 3 rfl rfl 2 (by decide) (hts _ tw_179) (fun _ h9 => h9) rfl dX1_costOfAll_14 ?_
  refine lv_icmp_ge (tgt := 52) hx hb dX1_costOfAll_17 (by decide) (fun c_2 => ?_) (fun c_2 => ?_)
  · have c_2 := (nI_leI (a := cc) (b := cn2_1) (by omega) (by omega)).mp c_2
    refine lv_iload_n hx hb dX1_costOfAll_52 rfl (lv_at hl 2 rfl) ?_
    exact W.iret (v := al_1) hx hb hr (fun t ht hW => ⟨⟨al_1, (), rfl, (by rw [hv_1.2.2.2, show cn2_1 = cc by omega]), trivial⟩, hS.F ht⟩) hS.2.2 dX1_costOfAll_53
  · have c_2 : ¬ (cc ≤ cn2_1) := fun h => c_2 ((nI_leI (a := cc) (b := cn2_1) (by omega) (by omega)).mpr h)
    refine lv_iload_n hx hb dX1_costOfAll_20 rfl (lv_at hl 2 rfl) ?_
    refine lv_aload_n hx hb dX1_costOfAll_21 rfl (lv_at hl 3 rfl) ?_
    refine lv_iload_n hx hb dX1_costOfAll_22 rfl (lv_at hl 0 rfl) ?_
    refine lv_aload_n hx hb dX1_costOfAll_23 rfl (lv_at hl 3 rfl) ?_
    refine lv_aload_n hx hb dX1_costOfAll_24 rfl (lv_at hl 3 rfl) ?_
    refine va_get (D := D) (ci := 1) (v := .ref z1) (C := RX1) (T := TX1) (N := 8) hx hb hts inX1 hown hK hP 0 rfl rfl 1 (by decide) (hts _ tw_236) (fun _ h9 => h9) rfl dX1_costOfAll_25 ?_
    refine lv_iload_n hx hb dX1_costOfAll_28 rfl (lv_at hl 0 rfl) ?_
    refine va_iald hx hb hK hP 1 1 rfl rfl (vp_in_nI (by omega) (by decide)) dX1_costOfAll_29 ?_
    have hq_3 := hpb cn2_1
    refine lv_ti (y := (nI (pb cn2_1))) (by rw [nI_clamp (by omega)]; rfl) ?_
    refine lv_iload_n hx hb dX1_costOfAll_30 rfl (lv_at hl 1 rfl) ?_
    refine ro_i (D := D) (va_runV (As := [.int (nI (pb cn2_1)), .int (nI lf_1)]) (rest := [.int (nI cn2_1), .ref z0, .int al_1]) ⟨hx, hb, hml, hown, hts⟩ ((y_placeFrom l D k st lo c0 z0 z1 z2 z3 pn pf pd pe (pb cn2_1) lf_1 (by first | assumption | omega) (by first | assumption | omega) (by first | assumption | omega)) H.size) (cwV 2 hts (gV tw_838 tw_840 tw_20 tw_84 tw_841) rfl rfl rfl (by decide +kernel) ⟨Nat.le_of_ble_eq_true rfl, Nat.le_of_ble_eq_true rfl⟩) (pV hS hAlo hlo hP hK hDL hZ [0] (by decide) rfl (ci := 1) (q := (RX1, TX1, 8)) (q0 := 0) rfl rfl) rfl rfl hl.1 rfl (lv_room (Nat.le_of_ble_eq_true rfl)) dX1_costOfAll_31 ⟨Nat.le_of_ble_eq_true rfl, Nat.le_of_ble_eq_true rfl⟩) hS hA hP (fun r_4 H locs hw_4 hP hS => ?_)
    try dsimp only at hw_4
    obtain ⟨zp_5, ezp_5⟩ : ∃ z : Nat, z = plc pn lf_1 (pb cn2_1) := ⟨_, rfl⟩
    rw [← ezp_5] at hw_4
    subst hw_4
    have hzp_5 : zp_5 ≤ pn := by rw [ezp_5]; exact pl_le
    refine ro_i (D := D) (va_runV (As := [.int (nI cn2_1), .int (nI zp_5)]) (rest := [.int al_1]) ⟨hx, hb, hml, hown, hts⟩ ((y_costAt l D k st lo c0 z0 z1 z2 z3 pn pf pd pe pco cn2_1 zp_5 (by first | assumption | omega) (by first | assumption | omega)) H.size) (cwV 2 hts (gV tw_866 tw_843 tw_844 tw_84 tw_845) rfl rfl rfl (by decide +kernel) ⟨Nat.le_of_ble_eq_true rfl, Nat.le_of_ble_eq_true rfl⟩) (pV hS hAlo hlo hP hK hDL hZ [0, 2] (by decide) rfl (ci := 1) (q := (RX1, TX1, 8)) (q0 := 0) rfl rfl) rfl rfl hl.1 rfl (lv_room (Nat.le_of_ble_eq_true rfl)) dX1_costOfAll_34 ⟨Nat.le_of_ble_eq_true rfl, Nat.le_of_ble_eq_true rfl⟩) hS hA hP (fun r_6 H locs hw_6 hP hS => ?_)
    try dsimp only at hw_6
    refine lv_iadd hx hb dX1_costOfAll_37 ?_
    refine lv_topi (fun x_7 ex_7 => ?_)
    refine lv_istore_n (lv' := [(1, .int x_7), (3, .int (nI cn2_1)), (2, .int (nI lf_1)), (0, .ref z0)]) hx hb dX1_costOfAll_38 rfl hl (by decide) rfl (fun ls hl => ?_)
    refine lv_aload_n hx hb dX1_costOfAll_39 rfl (lv_at hl 3 rfl) ?_
    refine lv_iload_n hx hb dX1_costOfAll_40 rfl (lv_at hl 1 rfl) ?_
    refine lv_iload_n hx hb dX1_costOfAll_41 rfl (lv_at hl 2 rfl) ?_
    refine ro_i (D := D) (va_runV (As := [.int (nI cn2_1), .int (nI lf_1)]) (rest := []) ⟨hx, hb, hml, hown, hts⟩ ((y_leftBehind l D k st lo c0 z0 z1 z2 z3 pn pf pd pe pb cn2_1 lf_1 (by first | assumption | omega) (by first | assumption | omega) hpb (by first | assumption | omega)) H.size) (cwV 2 hts (gV tw_834 tw_836 tw_19 tw_84 tw_837) rfl rfl rfl (by decide +kernel) ⟨Nat.le_of_ble_eq_true rfl, Nat.le_of_ble_eq_true rfl⟩) (pV hS hAlo hlo hP hK hDL hZ [0, 1] (by decide) rfl (ci := 1) (q := (RX1, TX1, 8)) (q0 := 0) rfl rfl) rfl rfl hl.1 rfl (lv_room (Nat.le_of_ble_eq_true rfl)) dX1_costOfAll_42 ⟨Nat.le_of_ble_eq_true rfl, Nat.le_of_ble_eq_true rfl⟩) hS hA hP (fun r_8 H locs hw_8 hP hS => ?_)
    try dsimp only at hw_8
    obtain ⟨lz_9, elz_9⟩ : ∃ z : Nat, z = rmv lf_1 (plc pn lf_1 (pb cn2_1)) := ⟨_, rfl⟩
    rw [← elz_9] at hw_8
    subst hw_8
    have hlz_9 : lz_9 ≤ lf_1 := by rw [elz_9]; exact rmv_le
    refine lv_istore_n (lv' := [(2, .int (nI lz_9)), (1, .int x_7), (3, .int (nI cn2_1)), (0, .ref z0)]) hx hb dX1_costOfAll_45 rfl hl (by decide) rfl (fun ls hl => ?_)
    refine lv_iinc (v := (nI (cn2_1 + 1))) (lv' := [(3, .int (nI (cn2_1 + 1))), (2, .int (nI lz_9)), (1, .int x_7), (0, .ref z0)]) hx hb dX1_costOfAll_46 hl (k := 2) rfl (nI_add cn2_1 1) (by decide) rfl (fun ls hl => ?_)
    refine lv_goto (tgt := 9) hx hb dX1_costOfAll_49 (by decide) ?_
    exact ih_1 _ (cn2_1 + 1, x_7, lz_9) _ _ _ (by omega) ⟨rfl, ⟨by omega, elz_9.trans (by rw [hv_1.2.1]; rfl), by omega, (by rw [ex_7, hw_6, hv_1.2.2.2, ezp_5, hv_1.2.1]; rfl)⟩, hP, hS, (lv_sub hl [0, 1, 2, 3] rfl)⟩


set_option maxHeartbeats 4000000 in
set_option maxRecDepth 100000 in
theorem y_mendingPrice (l : Launch) (D : va_G) (k : Nat → ClassId) (st : Nat → Nat) (lo : Nat) (c0 : Nat) (z0 : Nat) (z1 : Nat) (z2 : Nat) (z3 : Nat) (pn : Nat) (pf : Nat) (pd : Int32) (pe : Int32) (pb : Nat → Nat) (pco : Nat → Int32) (c1 : Nat) (c2 : Nat) (cc : Nat) (rz : Nat) (ro : Int32) (sd : Int32) (p0 : Int32) (hpn : pn ≤ 24) (hcc : cc ≤ 4) (hpb : ∀ j, pb j ≤ 24) (hpf : pf < 16777216) : CWi l D k st lo yX1_mendingPrice cX1_mendingPrice 6 (some .int) ({ frames := 5, cells := 0, slots := 0, locals := 117 }) 0 0 [.ref z0, .int p0] [(z0, .inr (1, (fX1 c0 z1 z2 z3 (nI pn) (nI pf) pd pe))), (aI k z1 4 (nF pb)), (aI k z2 100 pco), (c0, .inr (4, (fX4 c1 c2 (nI cc) (nI rz) ro sd)))] (fun (r : Int32) (u : Int32 × Int32 × (Nat → Nat)) => match u with | (pd_, pe_, pb_) => mdP pn pf cc (fun q => kx pco p0 (nI (10 * q * 1000)) pn) (fun c i => pco (c * 25 + i)) r ∧ (∀ j, pb_ j ≤ 24)) (fun (u : Int32 × Int32 × (Nat → Nat)) => match u with | (pd_, pe_, pb_) => [(z0, .inr (1, (fX1 c0 z1 z2 z3 (nI pn) (nI pf) pd_ pe_))), (aI k z1 4 (nF pb_)), (aI k z2 100 pco), (c0, .inr (4, (fX4 c1 c2 (nI cc) (nI rz) ro sd)))]) := by
  intro sz
  refine Met.ofW (cc := cX1_mendingPrice) (maxL := 6) (ret := (some .int)) (by decide) rfl ?_
  intro p e s m args below meth c s₁ B hml hv
  obtain ⟨rfl, hsz, hlo, hP, hK, hDL, hZ⟩ := hv
  have hx := B.exec
  have hb := B.bytes
  have hr := B.returns
  have hts := WS_ts B.pre
  have hown : s.vm.findClass RX1 = some m.cls := findClass_of_methodNamed B.named
  have hlocks := B.notSynchronized
  subst hsz
  have hD := hDL.self (sz := s.heap.size)
  have hAlo := A_lo hDL hlo
  generalize hAe : va_A [(z0, .inr (1, (fX1 c0 z1 z2 z3 (nI pn) (nI pf) pd pe))), (aI k z1 4 (nF pb)), (aI k z2 100 pco), (c0, .inr (4, (fX4 c1 c2 (nI cc) (nI rz) ro sd)))] s.heap.size = A at hD hAlo ⊢
  have hA : ∀ q : Nat, s.heap.size ≤ q → A q := fun q h => by rw [← hAe]; exact Or.inr h
  have hS : va_S A s.heap s.heap [] := va_S.rf
  have hl := lv_entry ([.ref z0, .int p0]) (n := 6) (Nat.le_of_ble_eq_true rfl)
  rw [lg_entry_eq]
  generalize (lg_sl ([.ref z0, .int p0]) ++ List.replicate (6 - (lg_sl ([.ref z0, .int p0])).length) Slot.unset).toArray = ls at hl ⊢
  have hl : lv_has ls 6 [(0, .ref z0), (1, .int p0)] := hl
  refine lv_aload_n hx hb dX1_mendingPrice_0 rfl (lv_at hl 0 rfl) ?_
  refine lv_iload_n hx hb dX1_mendingPrice_1 rfl (lv_at hl 1 rfl) ?_
  refine va_put (D := D) (ci := 1) (v := .int p0) (ty := .int) (C := RX1) (T := TX1) (N := 8) hx hb hts inX1 tyX1 tyX1_ok nmX1 hown hK hP hD hS 0 rfl rfl 6 (by decide) (hts _ tw_242) (fun _ h9 => h9) rfl (by decide +kernel) rfl rfl (Nat.le_of_ble_eq_true rfl) dX1_mendingPrice_2 (fun H locs hP hD hS => ?_)
  have hQ9 := pd_mk [(z0, .inr (1, (fX1 c0 z1 z2 z3 (nI pn) (nI pf) p0 pe))), (aI k z1 4 (nF pb)), (aI k z2 100 pco), (c0, .inr (4, (fX4 c1 c2 (nI cc) (nI rz) ro sd)))] hP hD
  clear hP hD
  obtain ⟨hP, hD⟩ := hQ9
  refine lv_iconst (v := 0) hx hb dX1_mendingPrice_5 (by decide) ?_
  refine lv_istore_n (lv' := [(2, .int 0), (0, .ref z0), (1, .int p0)]) hx hb dX1_mendingPrice_6 rfl hl (by decide) rfl (fun ls hl => ?_)
  refine lv_iconst (v := 0) hx hb dX1_mendingPrice_7 (by decide) ?_
  refine lv_istore_n (lv' := [(3, .int 0), (2, .int 0), (0, .ref z0), (1, .int p0)]) hx hb dX1_mendingPrice_8 rfl hl (by decide) rfl (fun ls hl => ?_)
  refine lv_iconst (v := 0) hx hb dX1_mendingPrice_9 (by decide) ?_
  refine lv_istore (lv' := [(4, .int 0), (3, .int 0), (2, .int 0), (0, .ref z0), (1, .int p0)]) hx hb dX1_mendingPrice_10 hl (by decide) rfl (fun ls hl => ?_)
  refine W_loop (σ := Nat × Nat × Int32 × Int32 × (Nat → Nat)) (fun (n_ : Nat) (x_ : Nat × Nat × Int32 × Int32 × (Nat → Nat)) (H : Heap) (locs : List Loc) (ls : Array Slot) => match x_ with | (pp_1, me_1, le_1, pe2_1, pb2_1) => n_ = 22 - pp_1 ∧ (pp_1 ≤ 21 ∧ mdI pn pf cc (fun q => kx pco p0 (nI (10 * q * 1000)) pn) (fun c i => pco (c * 25 + i)) pp_1 le_1 me_1 ∧ (∀ j, pb2_1 j ≤ 24)) ∧ va_P D classes [(z0, .inr (1, (fX1 c0 z1 z2 z3 (nI pn) (nI pf) p0 pe2_1))), (aI k z1 4 (nF pb2_1)), (aI k z2 100 pco), (c0, .inr (4, (fX4 c1 c2 (nI cc) (nI rz) ro sd)))] H ∧ va_D A [(z0, .inr (1, (fX1 c0 z1 z2 z3 (nI pn) (nI pf) p0 pe2_1))), (aI k z1 4 (nF pb2_1)), (aI k z2 100 pco), (c0, .inr (4, (fX4 c1 c2 (nI cc) (nI rz) ro sd)))] ∧ va_S A s.heap H locs ∧ lv_has ls 6 [(4, .int (nI pp_1)), (3, .int le_1), (2, .int (nI me_1)), (0, .ref z0), (1, .int p0)]) (fun n_1 x_1 H locs ls hI ih_1 => ?_) _ (0, 0, 0, pe, pb) ⟨rfl, ⟨by omega, md_0, hpb⟩, hP, hD, hS, (lv_sub hl [0, 1, 2, 3, 4] rfl)⟩
  obtain ⟨pp_1, me_1, le_1, pe2_1, pb2_1⟩ := x_1
  obtain ⟨hm_1, hv_1, hP, hD, hS, hl⟩ := hI
  subst hm_1
  have hpl_1 := hv_1.2.2
  refine lv_iload hx hb dX1_mendingPrice_12 (lv_at hl 0 rfl) ?_
  refine lv_bipush (v := 20) hx hb dX1_mendingPrice_14 (by decide) ?_
  refine lv_icmp_gt (tgt := 89) hx hb dX1_mendingPrice_16 (by decide) (fun c_2 => ?_) (fun c_2 => ?_)
  · have c_2 := (nI_ltI (a := 20) (b := pp_1) (by omega) (by omega)).mp c_2
    refine lv_iload_n hx hb dX1_mendingPrice_89 rfl (lv_at hl 2 rfl) ?_
    obtain ⟨hP9, hD9⟩ := pd_sub [(z0, .inr (1, (fX1 c0 z1 z2 z3 (nI pn) (nI pf) p0 pe2_1))), (aI k z1 4 (nF pb2_1)), (aI k z2 100 pco), (c0, .inr (4, (fX4 c1 c2 (nI cc) (nI rz) ro sd)))] [0, 1, 2, 3] hP hD (by decide) rfl
    exact W.iret (v := (nI me_1)) hx hb hr (fun t ht hW => ⟨⟨(nI me_1), (p0, pe2_1, pb2_1), rfl, ⟨md_e (by have h9 := hv_1.2.1; rw [show pp_1 = 21 by omega] at h9; exact h9), hpl_1⟩, by rw [ht]; exact hP9, hD9⟩, hS.F ht⟩) hS.2.2 dX1_mendingPrice_90
  · have c_2 : ¬ (20 < pp_1) := fun h => c_2 ((nI_ltI (a := 20) (b := pp_1) (by omega) (by omega)).mpr h)
    refine lv_aload_n hx hb dX1_mendingPrice_19 rfl (lv_at hl 3 rfl) ?_
    refine lv_bipush (v := 10) hx hb dX1_mendingPrice_20 (by decide) ?_
    refine lv_iload hx hb dX1_mendingPrice_22 (lv_at hl 0 rfl) ?_
    refine lv_imul hx hb dX1_mendingPrice_24 ?_
    refine lv_ti (y := (nI (10 * pp_1))) (pk_mul 10 pp_1) ?_
    refine lv_sipush (v := 1000) hx hb dX1_mendingPrice_25 (by decide) ?_
    refine lv_imul hx hb dX1_mendingPrice_28 ?_
    refine lv_ti (y := (nI ((10 * pp_1) * 1000))) (pk_mul (10 * pp_1) 1000) ?_
    refine va_put (D := D) (ci := 1) (v := .int (nI ((10 * pp_1) * 1000))) (ty := .int) (C := RX1) (T := TX1) (N := 8) hx hb hts inX1 tyX1 tyX1_ok nmX1 hown hK hP hD hS 0 rfl rfl 7 (by decide) (hts _ tw_243) (fun _ h9 => h9) rfl (by decide +kernel) rfl rfl (Nat.le_of_ble_eq_true rfl) dX1_mendingPrice_29 (fun H locs hP hD hS => ?_)
    have hQ9 := pd_mk [(z0, .inr (1, (fX1 c0 z1 z2 z3 (nI pn) (nI pf) p0 (nI ((10 * pp_1) * 1000))))), (aI k z1 4 (nF pb2_1)), (aI k z2 100 pco), (c0, .inr (4, (fX4 c1 c2 (nI cc) (nI rz) ro sd)))] hP hD
    clear hP hD
    obtain ⟨hP, hD⟩ := hQ9
    refine lv_iconst (v := 0) hx hb dX1_mendingPrice_32 (by decide) ?_
    refine lv_istore (lv' := [(5, .int 0), (4, .int (nI pp_1)), (3, .int le_1), (2, .int (nI me_1)), (0, .ref z0), (1, .int p0)]) hx hb dX1_mendingPrice_33 hl (by decide) rfl (fun ls hl => ?_)
    refine lv_iload hx hb dX1_mendingPrice_35 (lv_at hl 0 rfl) ?_
    refine lv_iconst (v := 4) hx hb dX1_mendingPrice_37 (by decide) ?_
    refine lv_icmp_ge (tgt := 55) hx hb dX1_mendingPrice_38 (by decide) (fun h => absurd h (by decide)) (fun _ => ?_)
    refine lv_aload_n hx hb dX1_mendingPrice_41 rfl (lv_at hl 4 rfl) ?_
    refine va_get (D := D) (ci := 1) (v := .ref z1) (C := RX1) (T := TX1) (N := 8) hx hb hts inX1 hown hK hP 0 rfl rfl 1 (by decide) (hts _ tw_236) (fun _ h9 => h9) rfl dX1_mendingPrice_42 ?_
    refine lv_iload hx hb dX1_mendingPrice_45 (lv_at hl 0 rfl) ?_
    refine lv_iconst (v := 0) hx hb dX1_mendingPrice_47 (by decide) ?_
    refine va_iast hx hb hK hP hD hS 1 1 rfl rfl (by unfold vp_in; decide) dX1_mendingPrice_48 (fun H locs hP hD hS => ?_)
    have hQ9 := pd_mk [(z0, .inr (1, (fX1 c0 z1 z2 z3 (nI pn) (nI pf) p0 (nI ((10 * pp_1) * 1000))))), (aI k z1 4 (upd (nF pb2_1) (Int32.toNatClampNeg 0) 0)), (aI k z2 100 pco), (c0, .inr (4, (fX4 c1 c2 (nI cc) (nI rz) ro sd)))] hP hD
    clear hP hD
    obtain ⟨hP, hD⟩ := hQ9
    rw [show upd (nF pb2_1) (Int32.toNatClampNeg 0) 0 = nF (fun j => if j = 0 then 0 else pb2_1 j) from nF_upd _ _ _] at hP hD
    obtain ⟨d_4, hd_4⟩ : ∃ z : Nat → Nat, z = (fun j => if j = 0 then 0 else pb2_1 j) := ⟨_, rfl⟩
    rw [← hd_4] at hP hD
    have hbb_4 : ∀ j, d_4 j ≤ 24 := by rw [hd_4]; exact up_le hpl_1 (by omega)
    refine lv_iinc (v := 1) (lv' := [(5, .int 1), (4, .int (nI pp_1)), (3, .int le_1), (2, .int (nI me_1)), (0, .ref z0), (1, .int p0)]) hx hb dX1_mendingPrice_49 hl (k := 0) rfl (by decide) (by decide) rfl (fun ls hl => ?_)
    refine lv_goto (tgt := 35) hx hb dX1_mendingPrice_52 (by decide) ?_
    refine lv_iload hx hb dX1_mendingPrice_35 (lv_at hl 0 rfl) ?_
    refine lv_iconst (v := 4) hx hb dX1_mendingPrice_37 (by decide) ?_
    refine lv_icmp_ge (tgt := 55) hx hb dX1_mendingPrice_38 (by decide) (fun h => absurd h (by decide)) (fun _ => ?_)
    refine lv_aload_n hx hb dX1_mendingPrice_41 rfl (lv_at hl 4 rfl) ?_
    refine va_get (D := D) (ci := 1) (v := .ref z1) (C := RX1) (T := TX1) (N := 8) hx hb hts inX1 hown hK hP 0 rfl rfl 1 (by decide) (hts _ tw_236) (fun _ h9 => h9) rfl dX1_mendingPrice_42 ?_
    refine lv_iload hx hb dX1_mendingPrice_45 (lv_at hl 0 rfl) ?_
    refine lv_iconst (v := 0) hx hb dX1_mendingPrice_47 (by decide) ?_
    refine va_iast hx hb hK hP hD hS 1 1 rfl rfl (by unfold vp_in; decide) dX1_mendingPrice_48 (fun H locs hP hD hS => ?_)
    have hQ9 := pd_mk [(z0, .inr (1, (fX1 c0 z1 z2 z3 (nI pn) (nI pf) p0 (nI ((10 * pp_1) * 1000))))), (aI k z1 4 (upd (nF d_4) (Int32.toNatClampNeg 1) 0)), (aI k z2 100 pco), (c0, .inr (4, (fX4 c1 c2 (nI cc) (nI rz) ro sd)))] hP hD
    clear hP hD
    obtain ⟨hP, hD⟩ := hQ9
    rw [show upd (nF d_4) (Int32.toNatClampNeg 1) 0 = nF (fun j => if j = 1 then 0 else d_4 j) from nF_upd _ _ _] at hP hD
    obtain ⟨d_6, hd_6⟩ : ∃ z : Nat → Nat, z = (fun j => if j = 1 then 0 else d_4 j) := ⟨_, rfl⟩
    rw [← hd_6] at hP hD
    have hbb_6 : ∀ j, d_6 j ≤ 24 := by rw [hd_6]; exact up_le hbb_4 (by omega)
    refine lv_iinc (v := 2) (lv' := [(5, .int 2), (4, .int (nI pp_1)), (3, .int le_1), (2, .int (nI me_1)), (0, .ref z0), (1, .int p0)]) hx hb dX1_mendingPrice_49 hl (k := 0) rfl (by decide) (by decide) rfl (fun ls hl => ?_)
    refine lv_goto (tgt := 35) hx hb dX1_mendingPrice_52 (by decide) ?_
    refine lv_iload hx hb dX1_mendingPrice_35 (lv_at hl 0 rfl) ?_
    refine lv_iconst (v := 4) hx hb dX1_mendingPrice_37 (by decide) ?_
    refine lv_icmp_ge (tgt := 55) hx hb dX1_mendingPrice_38 (by decide) (fun h => absurd h (by decide)) (fun _ => ?_)
    refine lv_aload_n hx hb dX1_mendingPrice_41 rfl (lv_at hl 4 rfl) ?_
    refine va_get (D := D) (ci := 1) (v := .ref z1) (C := RX1) (T := TX1) (N := 8) hx hb hts inX1 hown hK hP 0 rfl rfl 1 (by decide) (hts _ tw_236) (fun _ h9 => h9) rfl dX1_mendingPrice_42 ?_
    refine lv_iload hx hb dX1_mendingPrice_45 (lv_at hl 0 rfl) ?_
    refine lv_iconst (v := 0) hx hb dX1_mendingPrice_47 (by decide) ?_
    refine va_iast hx hb hK hP hD hS 1 1 rfl rfl (by unfold vp_in; decide) dX1_mendingPrice_48 (fun H locs hP hD hS => ?_)
    have hQ9 := pd_mk [(z0, .inr (1, (fX1 c0 z1 z2 z3 (nI pn) (nI pf) p0 (nI ((10 * pp_1) * 1000))))), (aI k z1 4 (upd (nF d_6) (Int32.toNatClampNeg 2) 0)), (aI k z2 100 pco), (c0, .inr (4, (fX4 c1 c2 (nI cc) (nI rz) ro sd)))] hP hD
    clear hP hD
    obtain ⟨hP, hD⟩ := hQ9
    rw [show upd (nF d_6) (Int32.toNatClampNeg 2) 0 = nF (fun j => if j = 2 then 0 else d_6 j) from nF_upd _ _ _] at hP hD
    obtain ⟨d_8, hd_8⟩ : ∃ z : Nat → Nat, z = (fun j => if j = 2 then 0 else d_6 j) := ⟨_, rfl⟩
    rw [← hd_8] at hP hD
    have hbb_8 : ∀ j, d_8 j ≤ 24 := by rw [hd_8]; exact up_le hbb_6 (by omega)
    refine lv_iinc (v := 3) (lv' := [(5, .int 3), (4, .int (nI pp_1)), (3, .int le_1), (2, .int (nI me_1)), (0, .ref z0), (1, .int p0)]) hx hb dX1_mendingPrice_49 hl (k := 0) rfl (by decide) (by decide) rfl (fun ls hl => ?_)
    refine lv_goto (tgt := 35) hx hb dX1_mendingPrice_52 (by decide) ?_
    refine lv_iload hx hb dX1_mendingPrice_35 (lv_at hl 0 rfl) ?_
    refine lv_iconst (v := 4) hx hb dX1_mendingPrice_37 (by decide) ?_
    refine lv_icmp_ge (tgt := 55) hx hb dX1_mendingPrice_38 (by decide) (fun h => absurd h (by decide)) (fun _ => ?_)
    refine lv_aload_n hx hb dX1_mendingPrice_41 rfl (lv_at hl 4 rfl) ?_
    refine va_get (D := D) (ci := 1) (v := .ref z1) (C := RX1) (T := TX1) (N := 8) hx hb hts inX1 hown hK hP 0 rfl rfl 1 (by decide) (hts _ tw_236) (fun _ h9 => h9) rfl dX1_mendingPrice_42 ?_
    refine lv_iload hx hb dX1_mendingPrice_45 (lv_at hl 0 rfl) ?_
    refine lv_iconst (v := 0) hx hb dX1_mendingPrice_47 (by decide) ?_
    refine va_iast hx hb hK hP hD hS 1 1 rfl rfl (by unfold vp_in; decide) dX1_mendingPrice_48 (fun H locs hP hD hS => ?_)
    have hQ9 := pd_mk [(z0, .inr (1, (fX1 c0 z1 z2 z3 (nI pn) (nI pf) p0 (nI ((10 * pp_1) * 1000))))), (aI k z1 4 (upd (nF d_8) (Int32.toNatClampNeg 3) 0)), (aI k z2 100 pco), (c0, .inr (4, (fX4 c1 c2 (nI cc) (nI rz) ro sd)))] hP hD
    clear hP hD
    obtain ⟨hP, hD⟩ := hQ9
    rw [show upd (nF d_8) (Int32.toNatClampNeg 3) 0 = nF (fun j => if j = 3 then 0 else d_8 j) from nF_upd _ _ _] at hP hD
    obtain ⟨d_10, hd_10⟩ : ∃ z : Nat → Nat, z = (fun j => if j = 3 then 0 else d_8 j) := ⟨_, rfl⟩
    rw [← hd_10] at hP hD
    have hbb_10 : ∀ j, d_10 j ≤ 24 := by rw [hd_10]; exact up_le hbb_8 (by omega)
    refine lv_iinc (v := 4) (lv' := [(5, .int 4), (4, .int (nI pp_1)), (3, .int le_1), (2, .int (nI me_1)), (0, .ref z0), (1, .int p0)]) hx hb dX1_mendingPrice_49 hl (k := 0) rfl (by decide) (by decide) rfl (fun ls hl => ?_)
    refine lv_goto (tgt := 35) hx hb dX1_mendingPrice_52 (by decide) ?_
    refine lv_iload hx hb dX1_mendingPrice_35 (lv_at hl 0 rfl) ?_
    refine lv_iconst (v := 4) hx hb dX1_mendingPrice_37 (by decide) ?_
    refine lv_icmp_ge (tgt := 55) hx hb dX1_mendingPrice_38 (by decide) (fun _ => ?_) (fun h => absurd (by decide) h)
    have hz4_11 : eq4 d_10 (fun _ => 0) := by intro j hj; rcases (show j = 0 ∨ j = 1 ∨ j = 2 ∨ j = 3 by omega) with e | e | e | e <;> rw [e, hd_10, hd_8, hd_6, hd_4] <;> rfl
    have hzl_11 : le4 pn d_10 := fun j hj => by rw [hz4_11 j hj]; exact Nat.zero_le _
    refine lv_aload_n hx hb dX1_mendingPrice_55 rfl (lv_at hl 4 rfl) ?_
    refine rw_i (D := D) (wr := []) (va_runV (As := []) (rest := []) ⟨hx, hb, hml, hown, hts⟩ ((y_goByTurns l D k st lo c0 z0 z1 z2 z3 pn pf p0 (nI ((10 * pp_1) * 1000)) d_10 pco c1 c2 cc rz ro sd (by first | assumption | omega) (by first | assumption | omega) hbb_10 (by first | assumption | omega) hzl_11) H.size) (cwV 0 hts (gV tw_918 tw_872 tw_873 tw_84 tw_874) rfl rfl rfl (by decide +kernel) ⟨Nat.le_of_ble_eq_true rfl, Nat.le_of_ble_eq_true rfl⟩) (pV hS hAlo hlo hP hK (va_Dlo hD hAlo) hZ [0, 1, 2, 3] (by decide) rfl (ci := 1) (q := (RX1, TX1, 8)) (q0 := 0) rfl rfl) rfl rfl hl.1 rfl (lv_room (Nat.le_of_ble_eq_true rfl)) dX1_mendingPrice_56 ⟨Nat.le_of_ble_eq_true rfl, Nat.le_of_ble_eq_true rfl⟩) hS hA hP hD [0, 1, 2, 3] [] rfl rfl (by decide) (by decide) (fun r_12 u H locs hw_12 hP hD hS => ?_)
    obtain ⟨pb__12, rfl⟩ : ∃ z, z = u := ⟨_, rfl⟩
    have hQ9 := pd_mk [(z0, .inr (1, (fX1 c0 z1 z2 z3 (nI pn) (nI pf) p0 (nI ((10 * pp_1) * 1000))))), (aI k z1 4 (nF pb__12)), (aI k z2 100 pco), (c0, .inr (4, (fX4 c1 c2 (nI cc) (nI rz) ro sd)))] hP hD
    clear hP hD
    obtain ⟨hP, hD⟩ := hQ9
    try dsimp only at hw_12
    obtain ⟨hgt_13, hgb_13, hg4_13⟩ := hw_12
    refine lv_pop hx hb dX1_mendingPrice_59 rfl ?_
    refine lv_aload_n hx hb dX1_mendingPrice_60 rfl (lv_at hl 4 rfl) ?_
    refine ro_i (D := D) (va_runV (As := []) (rest := []) ⟨hx, hb, hml, hown, hts⟩ ((y_costOfAll l D k st lo c0 z0 z1 z2 z3 pn pf p0 (nI ((10 * pp_1) * 1000)) pb__12 pco c1 c2 cc rz ro sd (by first | assumption | omega) (by first | assumption | omega) hgb_13 (by first | assumption | omega)) H.size) (cwV 0 hts (gV tw_919 tw_898 tw_899 tw_84 tw_900) rfl rfl rfl (by decide +kernel) ⟨Nat.le_of_ble_eq_true rfl, Nat.le_of_ble_eq_true rfl⟩) (pV hS hAlo hlo hP hK (va_Dlo hD hAlo) hZ [0, 1, 2, 3] (by decide) rfl (ci := 1) (q := (RX1, TX1, 8)) (q0 := 0) rfl rfl) rfl rfl hl.1 rfl (lv_room (Nat.le_of_ble_eq_true rfl)) dX1_mendingPrice_61 ⟨Nat.le_of_ble_eq_true rfl, Nat.le_of_ble_eq_true rfl⟩) hS hA hP (fun r_14 H locs hw_14 hP hS => ?_)
    try dsimp only at hw_14
    have hal_15 : alP pn pf cc (kx pco p0 (nI (10 * pp_1 * 1000)) pn) (fun c i => pco (c * 25 + i)) r_14 := ⟨pb__12, gtP_e (tnT_le hcc) (tnT_e hcc (fun _ _ _ _ => rfl)) 50 d_10 (fun _ => 0) pb__12 hzl_11 hz4_11 hgt_13, hw_14⟩
    refine lv_istore (lv' := [(5, .int r_14), (4, .int (nI pp_1)), (3, .int le_1), (2, .int (nI me_1)), (0, .ref z0), (1, .int p0)]) hx hb dX1_mendingPrice_64 hl (by decide) rfl (fun ls hl => ?_)
    refine lv_iload hx hb dX1_mendingPrice_66 (lv_at hl 1 rfl) ?_
    refine lv_if_eq (tgt := 77) hx hb dX1_mendingPrice_68 (by decide) (fun c_16 => ?_) (fun c_16 => ?_)
    · have c_16 := (nI_eq (a := pp_1) (b := 0) (by omega) (by omega)).mp c_16
      refine lv_iload hx hb dX1_mendingPrice_77 (lv_at hl 0 rfl) ?_
      refine lv_istore_n (lv' := [(3, .int r_14), (5, .int r_14), (4, .int (nI pp_1)), (2, .int (nI me_1)), (0, .ref z0), (1, .int p0)]) hx hb dX1_mendingPrice_79 rfl hl (by decide) rfl (fun ls hl => ?_)
      refine lv_iload hx hb dX1_mendingPrice_80 (lv_at hl 2 rfl) ?_
      refine lv_istore_n (lv' := [(2, .int (nI pp_1)), (3, .int r_14), (5, .int r_14), (4, .int (nI pp_1)), (0, .ref z0), (1, .int p0)]) hx hb dX1_mendingPrice_82 rfl hl (by decide) rfl (fun ls hl => ?_)
      refine lv_iinc (v := (nI (pp_1 + 1))) (lv' := [(4, .int (nI (pp_1 + 1))), (2, .int (nI pp_1)), (3, .int r_14), (5, .int r_14), (0, .ref z0), (1, .int p0)]) hx hb dX1_mendingPrice_83 hl (k := 3) rfl (nI_add pp_1 1) (by decide) rfl (fun ls hl => ?_)
      refine lv_goto (tgt := 12) hx hb dX1_mendingPrice_86 (by decide) ?_
      exact ih_1 _ (pp_1 + 1, pp_1, r_14, (nI ((10 * pp_1) * 1000)), pb__12) _ _ _ (by omega) ⟨rfl, ⟨by omega, md_y hv_1.2.1 hal_15 (.inl (by omega)), hgb_13⟩, hP, hD, hS, (lv_sub hl [0, 2, 1, 4, 5] rfl)⟩
    · have c_16 : ¬ (pp_1 = 0) := fun h => c_16 ((nI_eq (a := pp_1) (b := 0) (by omega) (by omega)).mpr h)
      refine lv_iload hx hb dX1_mendingPrice_71 (lv_at hl 0 rfl) ?_
      refine lv_iload_n hx hb dX1_mendingPrice_73 rfl (lv_at hl 2 rfl) ?_
      refine lv_icmp_ge (tgt := 83) hx hb dX1_mendingPrice_74 (by decide) (fun c_17 => ?_) (fun c_17 => ?_)
      · refine lv_iinc (v := (nI (pp_1 + 1))) (lv' := [(4, .int (nI (pp_1 + 1))), (5, .int r_14), (3, .int le_1), (2, .int (nI me_1)), (0, .ref z0), (1, .int p0)]) hx hb dX1_mendingPrice_83 hl (k := 1) rfl (nI_add pp_1 1) (by decide) rfl (fun ls hl => ?_)
        refine lv_goto (tgt := 12) hx hb dX1_mendingPrice_86 (by decide) ?_
        exact ih_1 _ (pp_1 + 1, me_1, le_1, (nI ((10 * pp_1) * 1000)), pb__12) _ _ _ (by omega) ⟨rfl, ⟨by omega, md_n hv_1.2.1 hal_15 (by omega) c_17, hgb_13⟩, hP, hD, hS, (lv_sub hl [0, 2, 3, 4, 5] rfl)⟩
      · refine lv_iload hx hb dX1_mendingPrice_77 (lv_at hl 0 rfl) ?_
        refine lv_istore_n (lv' := [(3, .int r_14), (5, .int r_14), (4, .int (nI pp_1)), (2, .int (nI me_1)), (0, .ref z0), (1, .int p0)]) hx hb dX1_mendingPrice_79 rfl hl (by decide) rfl (fun ls hl => ?_)
        refine lv_iload hx hb dX1_mendingPrice_80 (lv_at hl 2 rfl) ?_
        refine lv_istore_n (lv' := [(2, .int (nI pp_1)), (3, .int r_14), (5, .int r_14), (4, .int (nI pp_1)), (0, .ref z0), (1, .int p0)]) hx hb dX1_mendingPrice_82 rfl hl (by decide) rfl (fun ls hl => ?_)
        refine lv_iinc (v := (nI (pp_1 + 1))) (lv' := [(4, .int (nI (pp_1 + 1))), (2, .int (nI pp_1)), (3, .int r_14), (5, .int r_14), (0, .ref z0), (1, .int p0)]) hx hb dX1_mendingPrice_83 hl (k := 3) rfl (nI_add pp_1 1) (by decide) rfl (fun ls hl => ?_)
        refine lv_goto (tgt := 12) hx hb dX1_mendingPrice_86 (by decide) ?_
        exact ih_1 _ (pp_1 + 1, pp_1, r_14, (nI ((10 * pp_1) * 1000)), pb__12) _ _ _ (by omega) ⟨rfl, ⟨by omega, md_y hv_1.2.1 hal_15 (.inr (Int32.not_le.mp c_17)), hgb_13⟩, hP, hD, hS, (lv_sub hl [0, 2, 1, 4, 5] rfl)⟩


set_option maxHeartbeats 4000000 in
set_option maxRecDepth 100000 in
theorem y_countRests (l : Launch) (D : va_G) (k : Nat → ClassId) (st : Nat → Nat) (lo : Nat) (c0 : Nat) (z0 : Nat) (z1 : Nat) (z2 : Nat) (z3 : Nat) (pn : Nat) (pf : Nat) (pd : Int32) (pe : Int32) (pb : Nat → Nat) (pco : Nat → Int32) (c1 : Nat) (c2 : Nat) (cc : Nat) (rz : Nat) (ro : Int32) (sd : Int32) (hpn : pn ≤ 24) (hcc : cc ≤ 4) (hpb : ∀ j, pb j ≤ 24) (hpf : pf < 16777216) (hc2 : cc ≤ 2) : CWi l D k st lo yX1_countRests cX1_countRests 6 (some .int) ({ frames := 4, cells := 0, slots := 0, locals := 95 }) 0 0 [.ref z0] [(z0, .inr (1, (fX1 c0 z1 z2 z3 (nI pn) (nI pf) pd pe))), (aI k z1 4 (nF pb)), (aI k z2 100 pco), (c0, .inr (4, (fX4 c1 c2 (nI cc) (nI rz) ro sd)))] (fun (r : Int32) (pb_ : (Nat → Nat)) => r = nI (crO (rsA pn cc pf (kx pco pd pe pn)) (crM 1 cc pn + 1) (crM 0 cc pn + 1)) ∧ (∀ j, pb_ j ≤ 24)) (fun (pb_ : (Nat → Nat)) => [(z0, .inr (1, (fX1 c0 z1 z2 z3 (nI pn) (nI pf) pd pe))), (aI k z1 4 (nF pb_)), (aI k z2 100 pco), (c0, .inr (4, (fX4 c1 c2 (nI cc) (nI rz) ro sd)))]) := by
  intro sz
  refine Met.ofW (cc := cX1_countRests) (maxL := 6) (ret := (some .int)) (by decide) rfl ?_
  intro p e s m args below meth c s₁ B hml hv
  obtain ⟨rfl, hsz, hlo, hP, hK, hDL, hZ⟩ := hv
  have hx := B.exec
  have hb := B.bytes
  have hr := B.returns
  have hts := WS_ts B.pre
  have hown : s.vm.findClass RX1 = some m.cls := findClass_of_methodNamed B.named
  have hlocks := B.notSynchronized
  subst hsz
  have hD := hDL.self (sz := s.heap.size)
  have hAlo := A_lo hDL hlo
  generalize hAe : va_A [(z0, .inr (1, (fX1 c0 z1 z2 z3 (nI pn) (nI pf) pd pe))), (aI k z1 4 (nF pb)), (aI k z2 100 pco), (c0, .inr (4, (fX4 c1 c2 (nI cc) (nI rz) ro sd)))] s.heap.size = A at hD hAlo ⊢
  have hA : ∀ q : Nat, s.heap.size ≤ q → A q := fun q h => by rw [← hAe]; exact Or.inr h
  have hS : va_S A s.heap s.heap [] := va_S.rf
  have hl := lv_entry ([.ref z0]) (n := 6) (Nat.le_of_ble_eq_true rfl)
  rw [lg_entry_eq]
  generalize (lg_sl ([.ref z0]) ++ List.replicate (6 - (lg_sl ([.ref z0])).length) Slot.unset).toArray = ls at hl ⊢
  have hl : lv_has ls 6 [(0, .ref z0)] := hl
  refine lv_aload_n hx hb dX1_countRests_0 rfl (lv_at hl 0 rfl) ?_
  refine va_get (D := D) (ci := 1) (v := .ref c0) (C := RX1) (T := TX1) (N := 8) hx hb hts inX1 hown hK hP 0 rfl rfl 0 (by decide) (hts _ tw_235) (fun _ h9 => h9) rfl dX1_countRests_1 ?_
  refine va_get (D := D) (ci := 4) (v := .int (nI cc)) (C := RX4) (T := TX4) (N := 6) hx hb hts inX4 hown hK hP 3 rfl rfl 2 (by decide) (hts _ tw_179) (fun _ h9 => h9) rfl dX1_countRests_4 ?_
  refine lv_if_le (tgt := 17) hx hb dX1_countRests_7 (by decide) (fun c_1 => ?_) (fun c_1 => ?_)
  · have c_1 := (nI_leI (a := cc) (b := 0) (by omega) (by omega)).mp c_1
    refine lv_iconst (v := 0) hx hb dX1_countRests_17 (by decide) ?_
    refine lv_istore_n (lv' := [(1, .int 0), (0, .ref z0)]) hx hb dX1_countRests_18 rfl hl (by decide) rfl (fun ls hl => ?_)
    refine lv_aload_n hx hb dX1_countRests_19 rfl (lv_at hl 1 rfl) ?_
    refine va_get (D := D) (ci := 1) (v := .ref c0) (C := RX1) (T := TX1) (N := 8) hx hb hts inX1 hown hK hP 0 rfl rfl 0 (by decide) (hts _ tw_235) (fun _ h9 => h9) rfl dX1_countRests_20 ?_
    refine va_get (D := D) (ci := 4) (v := .int (nI cc)) (C := RX4) (T := TX4) (N := 6) hx hb hts inX4 hown hK hP 3 rfl rfl 2 (by decide) (hts _ tw_179) (fun _ h9 => h9) rfl dX1_countRests_23 ?_
    refine lv_iconst (v := 1) hx hb dX1_countRests_26 (by decide) ?_
    refine lv_icmp_le (tgt := 37) hx hb dX1_countRests_27 (by decide) (fun _ => ?_) (fun h => absurd ((nI_leI (a := cc) (b := 1) (by omega) (by omega)).mpr (by omega)) h)
    refine lv_iconst (v := 0) hx hb dX1_countRests_37 (by decide) ?_
    refine lv_istore_n (lv' := [(2, .int 0), (1, .int 0), (0, .ref z0)]) hx hb dX1_countRests_38 rfl hl (by decide) rfl (fun ls hl => ?_)
    refine lv_iconst (v := 0) hx hb dX1_countRests_39 (by decide) ?_
    refine lv_istore_n (lv' := [(3, .int 0), (2, .int 0), (1, .int 0), (0, .ref z0)]) hx hb dX1_countRests_40 rfl hl (by decide) rfl (fun ls hl => ?_)
    refine lv_iconst (v := 0) hx hb dX1_countRests_41 (by decide) ?_
    refine lv_istore (lv' := [(4, .int 0), (3, .int 0), (2, .int 0), (1, .int 0), (0, .ref z0)]) hx hb dX1_countRests_42 hl (by decide) rfl (fun ls hl => ?_)
    refine W_loop (σ := Nat × Nat × (Nat → Nat)) (fun (n_ : Nat) (x_ : Nat × Nat × (Nat → Nat)) (H : Heap) (locs : List Loc) (ls : Array Slot) => match x_ with | (aa_3, rs2_3, pb2_3) => n_ = 26 - aa_3 ∧ (aa_3 ≤ 0 + 1 ∧ rs2_3 = crO (rsA pn cc pf (kx pco pd pe pn)) (0 + 1) aa_3 ∧ (∀ j, pb2_3 j ≤ 24)) ∧ va_P D classes [(z0, .inr (1, (fX1 c0 z1 z2 z3 (nI pn) (nI pf) pd pe))), (aI k z1 4 (nF pb2_3)), (aI k z2 100 pco), (c0, .inr (4, (fX4 c1 c2 (nI cc) (nI rz) ro sd)))] H ∧ va_D A [(z0, .inr (1, (fX1 c0 z1 z2 z3 (nI pn) (nI pf) pd pe))), (aI k z1 4 (nF pb2_3)), (aI k z2 100 pco), (c0, .inr (4, (fX4 c1 c2 (nI cc) (nI rz) ro sd)))] ∧ va_S A s.heap H locs ∧ lv_has ls 6 [(4, .int (nI aa_3)), (3, .int (nI rs2_3)), (2, .int 0), (1, .int 0), (0, .ref z0)]) (fun n_3 x_3 H locs ls hI ih_3 => ?_) _ (0, 0, pb) ⟨rfl, ⟨by omega, rfl, hpb⟩, hP, hD, hS, (lv_sub hl [0, 1, 2, 3, 4] rfl)⟩
    obtain ⟨aa_3, rs2_3, pb2_3⟩ := x_3
    obtain ⟨hm_3, hv_3, hP, hD, hS, hl⟩ := hI
    subst hm_3
    have hpl_3 := hv_3.2.2
    refine lv_iload hx hb dX1_countRests_44 (lv_at hl 0 rfl) ?_
    refine lv_iload_n hx hb dX1_countRests_46 rfl (lv_at hl 3 rfl) ?_
    refine lv_icmp_gt (tgt := 102) hx hb dX1_countRests_47 (by decide) (fun c_4 => ?_) (fun c_4 => ?_)
    · have c_4 := (nI_ltI (a := 0) (b := aa_3) (by omega) (by omega)).mp c_4
      refine lv_iload_n hx hb dX1_countRests_102 rfl (lv_at hl 1 rfl) ?_
      obtain ⟨hP9, hD9⟩ := pd_sub [(z0, .inr (1, (fX1 c0 z1 z2 z3 (nI pn) (nI pf) pd pe))), (aI k z1 4 (nF pb2_3)), (aI k z2 100 pco), (c0, .inr (4, (fX4 c1 c2 (nI cc) (nI rz) ro sd)))] [0, 1, 2, 3] hP hD (by decide) rfl
      exact W.iret (v := (nI rs2_3)) hx hb hr (fun t ht hW => ⟨⟨(nI rs2_3), pb2_3, rfl, ⟨congrArg nI (by rw [hv_3.2.1, show aa_3 = 0 + 1 by omega, show crM 0 cc pn = 0 from if_neg (by omega), show crM 1 cc pn = 0 from if_neg (by omega)]), hpl_3⟩, by rw [ht]; exact hP9, hD9⟩, hS.F ht⟩) hS.2.2 dX1_countRests_103
    · have c_4 : ¬ (0 < aa_3) := fun h => c_4 ((nI_ltI (a := 0) (b := aa_3) (by omega) (by omega)).mpr h)
      refine lv_iconst (v := 0) hx hb dX1_countRests_50 (by decide) ?_
      refine lv_istore (lv' := [(5, .int 0), (4, .int (nI aa_3)), (3, .int (nI rs2_3)), (2, .int 0), (1, .int 0), (0, .ref z0)]) hx hb dX1_countRests_51 hl (by decide) rfl (fun ls hl => ?_)
      refine W_loop (σ := Nat × Nat × (Nat → Nat)) (fun (n_ : Nat) (x_ : Nat × Nat × (Nat → Nat)) (H : Heap) (locs : List Loc) (ls : Array Slot) => match x_ with | (b3_5, rs3_5, pb3_5) => n_ = 26 - b3_5 ∧ (b3_5 ≤ 0 + 1 ∧ rs3_5 = crO (rsA pn cc pf (kx pco pd pe pn)) (0 + 1) aa_3 + crI ((rsA pn cc pf (kx pco pd pe pn)) aa_3) b3_5 ∧ (∀ j, pb3_5 j ≤ 24)) ∧ va_P D classes [(z0, .inr (1, (fX1 c0 z1 z2 z3 (nI pn) (nI pf) pd pe))), (aI k z1 4 (nF pb3_5)), (aI k z2 100 pco), (c0, .inr (4, (fX4 c1 c2 (nI cc) (nI rz) ro sd)))] H ∧ va_D A [(z0, .inr (1, (fX1 c0 z1 z2 z3 (nI pn) (nI pf) pd pe))), (aI k z1 4 (nF pb3_5)), (aI k z2 100 pco), (c0, .inr (4, (fX4 c1 c2 (nI cc) (nI rz) ro sd)))] ∧ va_S A s.heap H locs ∧ lv_has ls 6 [(5, .int (nI b3_5)), (4, .int (nI aa_3)), (3, .int (nI rs3_5)), (2, .int 0), (1, .int 0), (0, .ref z0)]) (fun n_5 x_5 H locs ls hI ih_5 => ?_) _ (0, rs2_3, pb2_3) ⟨rfl, ⟨by omega, hv_3.2.1, hpl_3⟩, hP, hD, hS, (lv_sub hl [0, 1, 2, 3, 4, 5] rfl)⟩
      obtain ⟨b3_5, rs3_5, pb3_5⟩ := x_5
      obtain ⟨hm_5, hv_5, hP, hD, hS, hl⟩ := hI
      subst hm_5
      have hpl_5 := hv_5.2.2
      refine lv_iload hx hb dX1_countRests_53 (lv_at hl 0 rfl) ?_
      refine lv_iload_n hx hb dX1_countRests_55 rfl (lv_at hl 3 rfl) ?_
      refine lv_icmp_gt (tgt := 96) hx hb dX1_countRests_56 (by decide) (fun c_6 => ?_) (fun c_6 => ?_)
      · have c_6 := (nI_ltI (a := 0) (b := b3_5) (by omega) (by omega)).mp c_6
        refine lv_iinc (v := (nI (aa_3 + 1))) (lv' := [(4, .int (nI (aa_3 + 1))), (5, .int (nI b3_5)), (3, .int (nI rs3_5)), (2, .int 0), (1, .int 0), (0, .ref z0)]) hx hb dX1_countRests_96 hl (k := 1) rfl (nI_add aa_3 1) (by decide) rfl (fun ls hl => ?_)
        refine lv_goto (tgt := 44) hx hb dX1_countRests_99 (by decide) ?_
        exact ih_3 _ (aa_3 + 1, rs3_5, pb3_5) _ _ _ (by omega) ⟨rfl, ⟨by omega, (by show _ = crO (rsA pn cc pf (kx pco pd pe pn)) (0 + 1) aa_3 + crI ((rsA pn cc pf (kx pco pd pe pn)) aa_3) (0 + 1); rw [hv_5.2.1, show b3_5 = 0 + 1 by omega]), hv_5.2.2⟩, hP, hD, hS, (lv_sub hl [0, 2, 3, 4, 5] rfl)⟩
      · have c_6 : ¬ (0 < b3_5) := fun h => c_6 ((nI_ltI (a := 0) (b := b3_5) (by omega) (by omega)).mpr h)
        refine lv_aload_n hx hb dX1_countRests_59 rfl (lv_at hl 5 rfl) ?_
        refine va_get (D := D) (ci := 1) (v := .ref z1) (C := RX1) (T := TX1) (N := 8) hx hb hts inX1 hown hK hP 0 rfl rfl 1 (by decide) (hts _ tw_236) (fun _ h9 => h9) rfl dX1_countRests_60 ?_
        refine lv_iconst (v := 0) hx hb dX1_countRests_63 (by decide) ?_
        refine lv_iload hx hb dX1_countRests_64 (lv_at hl 1 rfl) ?_
        refine va_iast hx hb hK hP hD hS 1 1 rfl rfl (by unfold vp_in; decide) dX1_countRests_66 (fun H locs hP hD hS => ?_)
        have hQ9 := pd_mk [(z0, .inr (1, (fX1 c0 z1 z2 z3 (nI pn) (nI pf) pd pe))), (aI k z1 4 (upd (nF pb3_5) (Int32.toNatClampNeg 0) (nI aa_3))), (aI k z2 100 pco), (c0, .inr (4, (fX4 c1 c2 (nI cc) (nI rz) ro sd)))] hP hD
        clear hP hD
        obtain ⟨hP, hD⟩ := hQ9
        rw [show upd (nF pb3_5) (Int32.toNatClampNeg 0) (nI aa_3) = nF (fun j => if j = 0 then aa_3 else pb3_5 j) from nF_upd _ _ _] at hP hD
        obtain ⟨d_8, hd_8⟩ : ∃ z : Nat → Nat, z = (fun j => if j = 0 then aa_3 else pb3_5 j) := ⟨_, rfl⟩
        rw [← hd_8] at hP hD
        have hbb_8 : ∀ j, d_8 j ≤ 24 := by rw [hd_8]; exact up_le hpl_5 (by omega)
        refine lv_aload_n hx hb dX1_countRests_67 rfl (lv_at hl 5 rfl) ?_
        refine va_get (D := D) (ci := 1) (v := .ref z1) (C := RX1) (T := TX1) (N := 8) hx hb hts inX1 hown hK hP 0 rfl rfl 1 (by decide) (hts _ tw_236) (fun _ h9 => h9) rfl dX1_countRests_68 ?_
        refine lv_iconst (v := 1) hx hb dX1_countRests_71 (by decide) ?_
        refine lv_iload hx hb dX1_countRests_72 (lv_at hl 0 rfl) ?_
        refine va_iast hx hb hK hP hD hS 1 1 rfl rfl (by unfold vp_in; decide) dX1_countRests_74 (fun H locs hP hD hS => ?_)
        have hQ9 := pd_mk [(z0, .inr (1, (fX1 c0 z1 z2 z3 (nI pn) (nI pf) pd pe))), (aI k z1 4 (upd (nF d_8) (Int32.toNatClampNeg 1) (nI b3_5))), (aI k z2 100 pco), (c0, .inr (4, (fX4 c1 c2 (nI cc) (nI rz) ro sd)))] hP hD
        clear hP hD
        obtain ⟨hP, hD⟩ := hQ9
        rw [show upd (nF d_8) (Int32.toNatClampNeg 1) (nI b3_5) = nF (fun j => if j = 1 then b3_5 else d_8 j) from nF_upd _ _ _] at hP hD
        obtain ⟨d_10, hd_10⟩ : ∃ z : Nat → Nat, z = (fun j => if j = 1 then b3_5 else d_8 j) := ⟨_, rfl⟩
        rw [← hd_10] at hP hD
        have hbb_10 : ∀ j, d_10 j ≤ 24 := by rw [hd_10]; exact up_le hbb_8 (by omega)
        have hbn_11 : ∀ j, j < cc → d_10 j ≤ pn := by intro j hj; rcases (show j = 0 ∨ j = 1 by omega) with e | e; rw [e, hd_10, hd_8]; show aa_3 ≤ pn; omega; rw [e, hd_10]; show b3_5 ≤ pn; omega
        have hvc_11 : ∀ j, j < cc → d_10 j = vc aa_3 b3_5 j := by intro j hj; rcases (show j = 0 ∨ j = 1 by omega) with e | e; rw [e, hd_10, hd_8]; rfl; rw [e, hd_10]; rfl
        refine lv_iload_n hx hb dX1_countRests_75 rfl (lv_at hl 2 rfl) ?_
        refine lv_aload_n hx hb dX1_countRests_76 rfl (lv_at hl 5 rfl) ?_
        refine ro_i (D := D) (va_runV (As := []) (rest := [.int (nI rs3_5)]) ⟨hx, hb, hml, hown, hts⟩ ((y_isAtRest l D k st lo c0 z0 z1 z2 z3 pn pf pd pe d_10 pco c1 c2 cc rz ro sd (by first | assumption | omega) (by first | assumption | omega) hbb_10 (by first | assumption | omega) hbn_11) H.size) (cwV 0 hts (gV tw_892 tw_855 tw_856 tw_84 tw_857) rfl rfl rfl (by decide +kernel) ⟨Nat.le_of_ble_eq_true rfl, Nat.le_of_ble_eq_true rfl⟩) (pV hS hAlo hlo hP hK (va_Dlo hD hAlo) hZ [0, 1, 2, 3] (by decide) rfl (ci := 1) (q := (RX1, TX1, 8)) (q0 := 0) rfl rfl) rfl rfl hl.1 rfl (lv_room (Nat.le_of_ble_eq_true rfl)) dX1_countRests_77 ⟨Nat.le_of_ble_eq_true rfl, Nat.le_of_ble_eq_true rfl⟩) hS hA hP (fun r_12 H locs hw_12 hP hS => ?_)
        try dsimp only at hw_12
        rcases hw_12 with ⟨rfl, hw_12⟩ | ⟨rfl, hw_12⟩
        · refine lv_if_eq (tgt := 87) hx hb dX1_countRests_80 (by decide) (fun h => absurd h (by decide)) (fun _ => ?_)
          refine lv_iconst (v := 1) hx hb dX1_countRests_83 (by decide) ?_
          refine lv_goto (tgt := 88) hx hb dX1_countRests_84 (by decide) ?_
          refine lv_iadd hx hb dX1_countRests_88 ?_
          refine lv_ti (y := (nI (rs3_5 + 1))) (nI_add rs3_5 1) ?_
          refine lv_istore_n (lv' := [(3, .int (nI (rs3_5 + 1))), (5, .int (nI b3_5)), (4, .int (nI aa_3)), (2, .int 0), (1, .int 0), (0, .ref z0)]) hx hb dX1_countRests_89 rfl hl (by decide) rfl (fun ls hl => ?_)
          refine lv_iinc (v := (nI (b3_5 + 1))) (lv' := [(5, .int (nI (b3_5 + 1))), (3, .int (nI (rs3_5 + 1))), (4, .int (nI aa_3)), (2, .int 0), (1, .int 0), (0, .ref z0)]) hx hb dX1_countRests_90 hl (k := 1) rfl (nI_add b3_5 1) (by decide) rfl (fun ls hl => ?_)
          refine lv_goto (tgt := 53) hx hb dX1_countRests_93 (by decide) ?_
          exact ih_5 _ (b3_5 + 1, rs3_5 + 1, d_10) _ _ _ (by omega) ⟨rfl, ⟨by omega, (by show _ = crO (rsA pn cc pf (kx pco pd pe pn)) (0 + 1) aa_3 + (crI ((rsA pn cc pf (kx pco pd pe pn)) aa_3) b3_5 + rsB (rsP pn cc pf (kx pco pd pe pn) (vc aa_3 b3_5))); rw [rsB_1 (rsP_congr (fun _ _ _ _ => rfl) hvc_11 hw_12), hv_5.2.1, Nat.add_assoc]), hbb_10⟩, hP, hD, hS, (lv_sub hl [0, 2, 1, 3, 4, 5] rfl)⟩
        · refine lv_if_eq (tgt := 87) hx hb dX1_countRests_80 (by decide) (fun _ => ?_) (fun h => absurd (by decide) h)
          refine lv_iconst (v := 0) hx hb dX1_countRests_87 (by decide) ?_
          refine lv_iadd hx hb dX1_countRests_88 ?_
          refine lv_ti (y := (nI (rs3_5 + 0))) (nI_add rs3_5 0) ?_
          refine lv_istore_n (lv' := [(3, .int (nI (rs3_5 + 0))), (5, .int (nI b3_5)), (4, .int (nI aa_3)), (2, .int 0), (1, .int 0), (0, .ref z0)]) hx hb dX1_countRests_89 rfl hl (by decide) rfl (fun ls hl => ?_)
          refine lv_iinc (v := (nI (b3_5 + 1))) (lv' := [(5, .int (nI (b3_5 + 1))), (3, .int (nI (rs3_5 + 0))), (4, .int (nI aa_3)), (2, .int 0), (1, .int 0), (0, .ref z0)]) hx hb dX1_countRests_90 hl (k := 1) rfl (nI_add b3_5 1) (by decide) rfl (fun ls hl => ?_)
          refine lv_goto (tgt := 53) hx hb dX1_countRests_93 (by decide) ?_
          exact ih_5 _ (b3_5 + 1, rs3_5 + 0, d_10) _ _ _ (by omega) ⟨rfl, ⟨by omega, (by show _ = crO (rsA pn cc pf (kx pco pd pe pn)) (0 + 1) aa_3 + (crI ((rsA pn cc pf (kx pco pd pe pn)) aa_3) b3_5 + rsB (rsP pn cc pf (kx pco pd pe pn) (vc aa_3 b3_5))); rw [rsB_0 (fun q => hw_12 (rsP_congr (fun _ _ _ _ => rfl) (fun j hj => (hvc_11 j hj).symm) q)), hv_5.2.1, Nat.add_assoc]), hbb_10⟩, hP, hD, hS, (lv_sub hl [0, 2, 1, 3, 4, 5] rfl)⟩
  · have c_1 : ¬ (cc ≤ 0) := fun h => c_1 ((nI_leI (a := cc) (b := 0) (by omega) (by omega)).mpr h)
    refine lv_aload_n hx hb dX1_countRests_10 rfl (lv_at hl 0 rfl) ?_
    refine va_get (D := D) (ci := 1) (v := .int (nI pn)) (C := RX1) (T := TX1) (N := 8) hx hb hts inX1 hown hK hP 0 rfl rfl 4 (by decide) (hts _ tw_240) (fun _ h9 => h9) rfl dX1_countRests_11 ?_
    refine lv_goto (tgt := 18) hx hb dX1_countRests_14 (by decide) ?_
    refine lv_istore_n (lv' := [(1, .int (nI pn)), (0, .ref z0)]) hx hb dX1_countRests_18 rfl hl (by decide) rfl (fun ls hl => ?_)
    refine lv_aload_n hx hb dX1_countRests_19 rfl (lv_at hl 1 rfl) ?_
    refine va_get (D := D) (ci := 1) (v := .ref c0) (C := RX1) (T := TX1) (N := 8) hx hb hts inX1 hown hK hP 0 rfl rfl 0 (by decide) (hts _ tw_235) (fun _ h9 => h9) rfl dX1_countRests_20 ?_
    refine va_get (D := D) (ci := 4) (v := .int (nI cc)) (C := RX4) (T := TX4) (N := 6) hx hb hts inX4 hown hK hP 3 rfl rfl 2 (by decide) (hts _ tw_179) (fun _ h9 => h9) rfl dX1_countRests_23 ?_
    refine lv_iconst (v := 1) hx hb dX1_countRests_26 (by decide) ?_
    refine lv_icmp_le (tgt := 37) hx hb dX1_countRests_27 (by decide) (fun c_13 => ?_) (fun c_13 => ?_)
    · have c_13 := (nI_leI (a := cc) (b := 1) (by omega) (by omega)).mp c_13
      refine lv_iconst (v := 0) hx hb dX1_countRests_37 (by decide) ?_
      refine lv_istore_n (lv' := [(2, .int 0), (1, .int (nI pn)), (0, .ref z0)]) hx hb dX1_countRests_38 rfl hl (by decide) rfl (fun ls hl => ?_)
      refine lv_iconst (v := 0) hx hb dX1_countRests_39 (by decide) ?_
      refine lv_istore_n (lv' := [(3, .int 0), (2, .int 0), (1, .int (nI pn)), (0, .ref z0)]) hx hb dX1_countRests_40 rfl hl (by decide) rfl (fun ls hl => ?_)
      refine lv_iconst (v := 0) hx hb dX1_countRests_41 (by decide) ?_
      refine lv_istore (lv' := [(4, .int 0), (3, .int 0), (2, .int 0), (1, .int (nI pn)), (0, .ref z0)]) hx hb dX1_countRests_42 hl (by decide) rfl (fun ls hl => ?_)
      refine W_loop (σ := Nat × Nat × (Nat → Nat)) (fun (n_ : Nat) (x_ : Nat × Nat × (Nat → Nat)) (H : Heap) (locs : List Loc) (ls : Array Slot) => match x_ with | (aa_14, rs2_14, pb2_14) => n_ = 26 - aa_14 ∧ (aa_14 ≤ pn + 1 ∧ rs2_14 = crO (rsA pn cc pf (kx pco pd pe pn)) (0 + 1) aa_14 ∧ (∀ j, pb2_14 j ≤ 24)) ∧ va_P D classes [(z0, .inr (1, (fX1 c0 z1 z2 z3 (nI pn) (nI pf) pd pe))), (aI k z1 4 (nF pb2_14)), (aI k z2 100 pco), (c0, .inr (4, (fX4 c1 c2 (nI cc) (nI rz) ro sd)))] H ∧ va_D A [(z0, .inr (1, (fX1 c0 z1 z2 z3 (nI pn) (nI pf) pd pe))), (aI k z1 4 (nF pb2_14)), (aI k z2 100 pco), (c0, .inr (4, (fX4 c1 c2 (nI cc) (nI rz) ro sd)))] ∧ va_S A s.heap H locs ∧ lv_has ls 6 [(4, .int (nI aa_14)), (3, .int (nI rs2_14)), (2, .int 0), (1, .int (nI pn)), (0, .ref z0)]) (fun n_14 x_14 H locs ls hI ih_14 => ?_) _ (0, 0, pb) ⟨rfl, ⟨by omega, rfl, hpb⟩, hP, hD, hS, (lv_sub hl [0, 1, 2, 3, 4] rfl)⟩
      obtain ⟨aa_14, rs2_14, pb2_14⟩ := x_14
      obtain ⟨hm_14, hv_14, hP, hD, hS, hl⟩ := hI
      subst hm_14
      have hpl_14 := hv_14.2.2
      refine lv_iload hx hb dX1_countRests_44 (lv_at hl 0 rfl) ?_
      refine lv_iload_n hx hb dX1_countRests_46 rfl (lv_at hl 3 rfl) ?_
      refine lv_icmp_gt (tgt := 102) hx hb dX1_countRests_47 (by decide) (fun c_15 => ?_) (fun c_15 => ?_)
      · have c_15 := (nI_ltI (a := pn) (b := aa_14) (by omega) (by omega)).mp c_15
        refine lv_iload_n hx hb dX1_countRests_102 rfl (lv_at hl 1 rfl) ?_
        obtain ⟨hP9, hD9⟩ := pd_sub [(z0, .inr (1, (fX1 c0 z1 z2 z3 (nI pn) (nI pf) pd pe))), (aI k z1 4 (nF pb2_14)), (aI k z2 100 pco), (c0, .inr (4, (fX4 c1 c2 (nI cc) (nI rz) ro sd)))] [0, 1, 2, 3] hP hD (by decide) rfl
        exact W.iret (v := (nI rs2_14)) hx hb hr (fun t ht hW => ⟨⟨(nI rs2_14), pb2_14, rfl, ⟨congrArg nI (by rw [hv_14.2.1, show aa_14 = pn + 1 by omega, show crM 0 cc pn = pn from if_pos (by omega), show crM 1 cc pn = 0 from if_neg (by omega)]), hpl_14⟩, by rw [ht]; exact hP9, hD9⟩, hS.F ht⟩) hS.2.2 dX1_countRests_103
      · have c_15 : ¬ (pn < aa_14) := fun h => c_15 ((nI_ltI (a := pn) (b := aa_14) (by omega) (by omega)).mpr h)
        refine lv_iconst (v := 0) hx hb dX1_countRests_50 (by decide) ?_
        refine lv_istore (lv' := [(5, .int 0), (4, .int (nI aa_14)), (3, .int (nI rs2_14)), (2, .int 0), (1, .int (nI pn)), (0, .ref z0)]) hx hb dX1_countRests_51 hl (by decide) rfl (fun ls hl => ?_)
        refine W_loop (σ := Nat × Nat × (Nat → Nat)) (fun (n_ : Nat) (x_ : Nat × Nat × (Nat → Nat)) (H : Heap) (locs : List Loc) (ls : Array Slot) => match x_ with | (b3_16, rs3_16, pb3_16) => n_ = 26 - b3_16 ∧ (b3_16 ≤ 0 + 1 ∧ rs3_16 = crO (rsA pn cc pf (kx pco pd pe pn)) (0 + 1) aa_14 + crI ((rsA pn cc pf (kx pco pd pe pn)) aa_14) b3_16 ∧ (∀ j, pb3_16 j ≤ 24)) ∧ va_P D classes [(z0, .inr (1, (fX1 c0 z1 z2 z3 (nI pn) (nI pf) pd pe))), (aI k z1 4 (nF pb3_16)), (aI k z2 100 pco), (c0, .inr (4, (fX4 c1 c2 (nI cc) (nI rz) ro sd)))] H ∧ va_D A [(z0, .inr (1, (fX1 c0 z1 z2 z3 (nI pn) (nI pf) pd pe))), (aI k z1 4 (nF pb3_16)), (aI k z2 100 pco), (c0, .inr (4, (fX4 c1 c2 (nI cc) (nI rz) ro sd)))] ∧ va_S A s.heap H locs ∧ lv_has ls 6 [(5, .int (nI b3_16)), (4, .int (nI aa_14)), (3, .int (nI rs3_16)), (2, .int 0), (1, .int (nI pn)), (0, .ref z0)]) (fun n_16 x_16 H locs ls hI ih_16 => ?_) _ (0, rs2_14, pb2_14) ⟨rfl, ⟨by omega, hv_14.2.1, hpl_14⟩, hP, hD, hS, (lv_sub hl [0, 1, 2, 3, 4, 5] rfl)⟩
        obtain ⟨b3_16, rs3_16, pb3_16⟩ := x_16
        obtain ⟨hm_16, hv_16, hP, hD, hS, hl⟩ := hI
        subst hm_16
        have hpl_16 := hv_16.2.2
        refine lv_iload hx hb dX1_countRests_53 (lv_at hl 0 rfl) ?_
        refine lv_iload_n hx hb dX1_countRests_55 rfl (lv_at hl 3 rfl) ?_
        refine lv_icmp_gt (tgt := 96) hx hb dX1_countRests_56 (by decide) (fun c_17 => ?_) (fun c_17 => ?_)
        · have c_17 := (nI_ltI (a := 0) (b := b3_16) (by omega) (by omega)).mp c_17
          refine lv_iinc (v := (nI (aa_14 + 1))) (lv' := [(4, .int (nI (aa_14 + 1))), (5, .int (nI b3_16)), (3, .int (nI rs3_16)), (2, .int 0), (1, .int (nI pn)), (0, .ref z0)]) hx hb dX1_countRests_96 hl (k := 1) rfl (nI_add aa_14 1) (by decide) rfl (fun ls hl => ?_)
          refine lv_goto (tgt := 44) hx hb dX1_countRests_99 (by decide) ?_
          exact ih_14 _ (aa_14 + 1, rs3_16, pb3_16) _ _ _ (by omega) ⟨rfl, ⟨by omega, (by show _ = crO (rsA pn cc pf (kx pco pd pe pn)) (0 + 1) aa_14 + crI ((rsA pn cc pf (kx pco pd pe pn)) aa_14) (0 + 1); rw [hv_16.2.1, show b3_16 = 0 + 1 by omega]), hv_16.2.2⟩, hP, hD, hS, (lv_sub hl [0, 2, 3, 4, 5] rfl)⟩
        · have c_17 : ¬ (0 < b3_16) := fun h => c_17 ((nI_ltI (a := 0) (b := b3_16) (by omega) (by omega)).mpr h)
          refine lv_aload_n hx hb dX1_countRests_59 rfl (lv_at hl 5 rfl) ?_
          refine va_get (D := D) (ci := 1) (v := .ref z1) (C := RX1) (T := TX1) (N := 8) hx hb hts inX1 hown hK hP 0 rfl rfl 1 (by decide) (hts _ tw_236) (fun _ h9 => h9) rfl dX1_countRests_60 ?_
          refine lv_iconst (v := 0) hx hb dX1_countRests_63 (by decide) ?_
          refine lv_iload hx hb dX1_countRests_64 (lv_at hl 1 rfl) ?_
          refine va_iast hx hb hK hP hD hS 1 1 rfl rfl (by unfold vp_in; decide) dX1_countRests_66 (fun H locs hP hD hS => ?_)
          have hQ9 := pd_mk [(z0, .inr (1, (fX1 c0 z1 z2 z3 (nI pn) (nI pf) pd pe))), (aI k z1 4 (upd (nF pb3_16) (Int32.toNatClampNeg 0) (nI aa_14))), (aI k z2 100 pco), (c0, .inr (4, (fX4 c1 c2 (nI cc) (nI rz) ro sd)))] hP hD
          clear hP hD
          obtain ⟨hP, hD⟩ := hQ9
          rw [show upd (nF pb3_16) (Int32.toNatClampNeg 0) (nI aa_14) = nF (fun j => if j = 0 then aa_14 else pb3_16 j) from nF_upd _ _ _] at hP hD
          obtain ⟨d_19, hd_19⟩ : ∃ z : Nat → Nat, z = (fun j => if j = 0 then aa_14 else pb3_16 j) := ⟨_, rfl⟩
          rw [← hd_19] at hP hD
          have hbb_19 : ∀ j, d_19 j ≤ 24 := by rw [hd_19]; exact up_le hpl_16 (by omega)
          refine lv_aload_n hx hb dX1_countRests_67 rfl (lv_at hl 5 rfl) ?_
          refine va_get (D := D) (ci := 1) (v := .ref z1) (C := RX1) (T := TX1) (N := 8) hx hb hts inX1 hown hK hP 0 rfl rfl 1 (by decide) (hts _ tw_236) (fun _ h9 => h9) rfl dX1_countRests_68 ?_
          refine lv_iconst (v := 1) hx hb dX1_countRests_71 (by decide) ?_
          refine lv_iload hx hb dX1_countRests_72 (lv_at hl 0 rfl) ?_
          refine va_iast hx hb hK hP hD hS 1 1 rfl rfl (by unfold vp_in; decide) dX1_countRests_74 (fun H locs hP hD hS => ?_)
          have hQ9 := pd_mk [(z0, .inr (1, (fX1 c0 z1 z2 z3 (nI pn) (nI pf) pd pe))), (aI k z1 4 (upd (nF d_19) (Int32.toNatClampNeg 1) (nI b3_16))), (aI k z2 100 pco), (c0, .inr (4, (fX4 c1 c2 (nI cc) (nI rz) ro sd)))] hP hD
          clear hP hD
          obtain ⟨hP, hD⟩ := hQ9
          rw [show upd (nF d_19) (Int32.toNatClampNeg 1) (nI b3_16) = nF (fun j => if j = 1 then b3_16 else d_19 j) from nF_upd _ _ _] at hP hD
          obtain ⟨d_21, hd_21⟩ : ∃ z : Nat → Nat, z = (fun j => if j = 1 then b3_16 else d_19 j) := ⟨_, rfl⟩
          rw [← hd_21] at hP hD
          have hbb_21 : ∀ j, d_21 j ≤ 24 := by rw [hd_21]; exact up_le hbb_19 (by omega)
          have hbn_22 : ∀ j, j < cc → d_21 j ≤ pn := by intro j hj; rcases (show j = 0 ∨ j = 1 by omega) with e | e; rw [e, hd_21, hd_19]; show aa_14 ≤ pn; omega; rw [e, hd_21]; show b3_16 ≤ pn; omega
          have hvc_22 : ∀ j, j < cc → d_21 j = vc aa_14 b3_16 j := by intro j hj; rcases (show j = 0 ∨ j = 1 by omega) with e | e; rw [e, hd_21, hd_19]; rfl; rw [e, hd_21]; rfl
          refine lv_iload_n hx hb dX1_countRests_75 rfl (lv_at hl 2 rfl) ?_
          refine lv_aload_n hx hb dX1_countRests_76 rfl (lv_at hl 5 rfl) ?_
          refine ro_i (D := D) (va_runV (As := []) (rest := [.int (nI rs3_16)]) ⟨hx, hb, hml, hown, hts⟩ ((y_isAtRest l D k st lo c0 z0 z1 z2 z3 pn pf pd pe d_21 pco c1 c2 cc rz ro sd (by first | assumption | omega) (by first | assumption | omega) hbb_21 (by first | assumption | omega) hbn_22) H.size) (cwV 0 hts (gV tw_892 tw_855 tw_856 tw_84 tw_857) rfl rfl rfl (by decide +kernel) ⟨Nat.le_of_ble_eq_true rfl, Nat.le_of_ble_eq_true rfl⟩) (pV hS hAlo hlo hP hK (va_Dlo hD hAlo) hZ [0, 1, 2, 3] (by decide) rfl (ci := 1) (q := (RX1, TX1, 8)) (q0 := 0) rfl rfl) rfl rfl hl.1 rfl (lv_room (Nat.le_of_ble_eq_true rfl)) dX1_countRests_77 ⟨Nat.le_of_ble_eq_true rfl, Nat.le_of_ble_eq_true rfl⟩) hS hA hP (fun r_23 H locs hw_23 hP hS => ?_)
          try dsimp only at hw_23
          rcases hw_23 with ⟨rfl, hw_23⟩ | ⟨rfl, hw_23⟩
          · refine lv_if_eq (tgt := 87) hx hb dX1_countRests_80 (by decide) (fun h => absurd h (by decide)) (fun _ => ?_)
            refine lv_iconst (v := 1) hx hb dX1_countRests_83 (by decide) ?_
            refine lv_goto (tgt := 88) hx hb dX1_countRests_84 (by decide) ?_
            refine lv_iadd hx hb dX1_countRests_88 ?_
            refine lv_ti (y := (nI (rs3_16 + 1))) (nI_add rs3_16 1) ?_
            refine lv_istore_n (lv' := [(3, .int (nI (rs3_16 + 1))), (5, .int (nI b3_16)), (4, .int (nI aa_14)), (2, .int 0), (1, .int (nI pn)), (0, .ref z0)]) hx hb dX1_countRests_89 rfl hl (by decide) rfl (fun ls hl => ?_)
            refine lv_iinc (v := (nI (b3_16 + 1))) (lv' := [(5, .int (nI (b3_16 + 1))), (3, .int (nI (rs3_16 + 1))), (4, .int (nI aa_14)), (2, .int 0), (1, .int (nI pn)), (0, .ref z0)]) hx hb dX1_countRests_90 hl (k := 1) rfl (nI_add b3_16 1) (by decide) rfl (fun ls hl => ?_)
            refine lv_goto (tgt := 53) hx hb dX1_countRests_93 (by decide) ?_
            exact ih_16 _ (b3_16 + 1, rs3_16 + 1, d_21) _ _ _ (by omega) ⟨rfl, ⟨by omega, (by show _ = crO (rsA pn cc pf (kx pco pd pe pn)) (0 + 1) aa_14 + (crI ((rsA pn cc pf (kx pco pd pe pn)) aa_14) b3_16 + rsB (rsP pn cc pf (kx pco pd pe pn) (vc aa_14 b3_16))); rw [rsB_1 (rsP_congr (fun _ _ _ _ => rfl) hvc_22 hw_23), hv_16.2.1, Nat.add_assoc]), hbb_21⟩, hP, hD, hS, (lv_sub hl [0, 2, 1, 3, 4, 5] rfl)⟩
          · refine lv_if_eq (tgt := 87) hx hb dX1_countRests_80 (by decide) (fun _ => ?_) (fun h => absurd (by decide) h)
            refine lv_iconst (v := 0) hx hb dX1_countRests_87 (by decide) ?_
            refine lv_iadd hx hb dX1_countRests_88 ?_
            refine lv_ti (y := (nI (rs3_16 + 0))) (nI_add rs3_16 0) ?_
            refine lv_istore_n (lv' := [(3, .int (nI (rs3_16 + 0))), (5, .int (nI b3_16)), (4, .int (nI aa_14)), (2, .int 0), (1, .int (nI pn)), (0, .ref z0)]) hx hb dX1_countRests_89 rfl hl (by decide) rfl (fun ls hl => ?_)
            refine lv_iinc (v := (nI (b3_16 + 1))) (lv' := [(5, .int (nI (b3_16 + 1))), (3, .int (nI (rs3_16 + 0))), (4, .int (nI aa_14)), (2, .int 0), (1, .int (nI pn)), (0, .ref z0)]) hx hb dX1_countRests_90 hl (k := 1) rfl (nI_add b3_16 1) (by decide) rfl (fun ls hl => ?_)
            refine lv_goto (tgt := 53) hx hb dX1_countRests_93 (by decide) ?_
            exact ih_16 _ (b3_16 + 1, rs3_16 + 0, d_21) _ _ _ (by omega) ⟨rfl, ⟨by omega, (by show _ = crO (rsA pn cc pf (kx pco pd pe pn)) (0 + 1) aa_14 + (crI ((rsA pn cc pf (kx pco pd pe pn)) aa_14) b3_16 + rsB (rsP pn cc pf (kx pco pd pe pn) (vc aa_14 b3_16))); rw [rsB_0 (fun q => hw_23 (rsP_congr (fun _ _ _ _ => rfl) (fun j hj => (hvc_22 j hj).symm) q)), hv_16.2.1, Nat.add_assoc]), hbb_21⟩, hP, hD, hS, (lv_sub hl [0, 2, 1, 3, 4, 5] rfl)⟩
    · have c_13 : ¬ (cc ≤ 1) := fun h => c_13 ((nI_leI (a := cc) (b := 1) (by omega) (by omega)).mpr h)
      refine lv_aload_n hx hb dX1_countRests_30 rfl (lv_at hl 1 rfl) ?_
      refine va_get (D := D) (ci := 1) (v := .int (nI pn)) (C := RX1) (T := TX1) (N := 8) hx hb hts inX1 hown hK hP 0 rfl rfl 4 (by decide) (hts _ tw_240) (fun _ h9 => h9) rfl dX1_countRests_31 ?_
      refine lv_goto (tgt := 38) hx hb dX1_countRests_34 (by decide) ?_
      refine lv_istore_n (lv' := [(2, .int (nI pn)), (1, .int (nI pn)), (0, .ref z0)]) hx hb dX1_countRests_38 rfl hl (by decide) rfl (fun ls hl => ?_)
      refine lv_iconst (v := 0) hx hb dX1_countRests_39 (by decide) ?_
      refine lv_istore_n (lv' := [(3, .int 0), (2, .int (nI pn)), (1, .int (nI pn)), (0, .ref z0)]) hx hb dX1_countRests_40 rfl hl (by decide) rfl (fun ls hl => ?_)
      refine lv_iconst (v := 0) hx hb dX1_countRests_41 (by decide) ?_
      refine lv_istore (lv' := [(4, .int 0), (3, .int 0), (2, .int (nI pn)), (1, .int (nI pn)), (0, .ref z0)]) hx hb dX1_countRests_42 hl (by decide) rfl (fun ls hl => ?_)
      refine W_loop (σ := Nat × Nat × (Nat → Nat)) (fun (n_ : Nat) (x_ : Nat × Nat × (Nat → Nat)) (H : Heap) (locs : List Loc) (ls : Array Slot) => match x_ with | (aa_24, rs2_24, pb2_24) => n_ = 26 - aa_24 ∧ (aa_24 ≤ pn + 1 ∧ rs2_24 = crO (rsA pn cc pf (kx pco pd pe pn)) (pn + 1) aa_24 ∧ (∀ j, pb2_24 j ≤ 24)) ∧ va_P D classes [(z0, .inr (1, (fX1 c0 z1 z2 z3 (nI pn) (nI pf) pd pe))), (aI k z1 4 (nF pb2_24)), (aI k z2 100 pco), (c0, .inr (4, (fX4 c1 c2 (nI cc) (nI rz) ro sd)))] H ∧ va_D A [(z0, .inr (1, (fX1 c0 z1 z2 z3 (nI pn) (nI pf) pd pe))), (aI k z1 4 (nF pb2_24)), (aI k z2 100 pco), (c0, .inr (4, (fX4 c1 c2 (nI cc) (nI rz) ro sd)))] ∧ va_S A s.heap H locs ∧ lv_has ls 6 [(4, .int (nI aa_24)), (3, .int (nI rs2_24)), (2, .int (nI pn)), (1, .int (nI pn)), (0, .ref z0)]) (fun n_24 x_24 H locs ls hI ih_24 => ?_) _ (0, 0, pb) ⟨rfl, ⟨by omega, rfl, hpb⟩, hP, hD, hS, (lv_sub hl [0, 1, 2, 3, 4] rfl)⟩
      obtain ⟨aa_24, rs2_24, pb2_24⟩ := x_24
      obtain ⟨hm_24, hv_24, hP, hD, hS, hl⟩ := hI
      subst hm_24
      have hpl_24 := hv_24.2.2
      refine lv_iload hx hb dX1_countRests_44 (lv_at hl 0 rfl) ?_
      refine lv_iload_n hx hb dX1_countRests_46 rfl (lv_at hl 3 rfl) ?_
      refine lv_icmp_gt (tgt := 102) hx hb dX1_countRests_47 (by decide) (fun c_25 => ?_) (fun c_25 => ?_)
      · have c_25 := (nI_ltI (a := pn) (b := aa_24) (by omega) (by omega)).mp c_25
        refine lv_iload_n hx hb dX1_countRests_102 rfl (lv_at hl 1 rfl) ?_
        obtain ⟨hP9, hD9⟩ := pd_sub [(z0, .inr (1, (fX1 c0 z1 z2 z3 (nI pn) (nI pf) pd pe))), (aI k z1 4 (nF pb2_24)), (aI k z2 100 pco), (c0, .inr (4, (fX4 c1 c2 (nI cc) (nI rz) ro sd)))] [0, 1, 2, 3] hP hD (by decide) rfl
        exact W.iret (v := (nI rs2_24)) hx hb hr (fun t ht hW => ⟨⟨(nI rs2_24), pb2_24, rfl, ⟨congrArg nI (by rw [hv_24.2.1, show aa_24 = pn + 1 by omega, show crM 0 cc pn = pn from if_pos (by omega), show crM 1 cc pn = pn from if_pos (by omega)]), hpl_24⟩, by rw [ht]; exact hP9, hD9⟩, hS.F ht⟩) hS.2.2 dX1_countRests_103
      · have c_25 : ¬ (pn < aa_24) := fun h => c_25 ((nI_ltI (a := pn) (b := aa_24) (by omega) (by omega)).mpr h)
        refine lv_iconst (v := 0) hx hb dX1_countRests_50 (by decide) ?_
        refine lv_istore (lv' := [(5, .int 0), (4, .int (nI aa_24)), (3, .int (nI rs2_24)), (2, .int (nI pn)), (1, .int (nI pn)), (0, .ref z0)]) hx hb dX1_countRests_51 hl (by decide) rfl (fun ls hl => ?_)
        refine W_loop (σ := Nat × Nat × (Nat → Nat)) (fun (n_ : Nat) (x_ : Nat × Nat × (Nat → Nat)) (H : Heap) (locs : List Loc) (ls : Array Slot) => match x_ with | (b3_26, rs3_26, pb3_26) => n_ = 26 - b3_26 ∧ (b3_26 ≤ pn + 1 ∧ rs3_26 = crO (rsA pn cc pf (kx pco pd pe pn)) (pn + 1) aa_24 + crI ((rsA pn cc pf (kx pco pd pe pn)) aa_24) b3_26 ∧ (∀ j, pb3_26 j ≤ 24)) ∧ va_P D classes [(z0, .inr (1, (fX1 c0 z1 z2 z3 (nI pn) (nI pf) pd pe))), (aI k z1 4 (nF pb3_26)), (aI k z2 100 pco), (c0, .inr (4, (fX4 c1 c2 (nI cc) (nI rz) ro sd)))] H ∧ va_D A [(z0, .inr (1, (fX1 c0 z1 z2 z3 (nI pn) (nI pf) pd pe))), (aI k z1 4 (nF pb3_26)), (aI k z2 100 pco), (c0, .inr (4, (fX4 c1 c2 (nI cc) (nI rz) ro sd)))] ∧ va_S A s.heap H locs ∧ lv_has ls 6 [(5, .int (nI b3_26)), (4, .int (nI aa_24)), (3, .int (nI rs3_26)), (2, .int (nI pn)), (1, .int (nI pn)), (0, .ref z0)]) (fun n_26 x_26 H locs ls hI ih_26 => ?_) _ (0, rs2_24, pb2_24) ⟨rfl, ⟨by omega, hv_24.2.1, hpl_24⟩, hP, hD, hS, (lv_sub hl [0, 1, 2, 3, 4, 5] rfl)⟩
        obtain ⟨b3_26, rs3_26, pb3_26⟩ := x_26
        obtain ⟨hm_26, hv_26, hP, hD, hS, hl⟩ := hI
        subst hm_26
        have hpl_26 := hv_26.2.2
        refine lv_iload hx hb dX1_countRests_53 (lv_at hl 0 rfl) ?_
        refine lv_iload_n hx hb dX1_countRests_55 rfl (lv_at hl 3 rfl) ?_
        refine lv_icmp_gt (tgt := 96) hx hb dX1_countRests_56 (by decide) (fun c_27 => ?_) (fun c_27 => ?_)
        · have c_27 := (nI_ltI (a := pn) (b := b3_26) (by omega) (by omega)).mp c_27
          refine lv_iinc (v := (nI (aa_24 + 1))) (lv' := [(4, .int (nI (aa_24 + 1))), (5, .int (nI b3_26)), (3, .int (nI rs3_26)), (2, .int (nI pn)), (1, .int (nI pn)), (0, .ref z0)]) hx hb dX1_countRests_96 hl (k := 1) rfl (nI_add aa_24 1) (by decide) rfl (fun ls hl => ?_)
          refine lv_goto (tgt := 44) hx hb dX1_countRests_99 (by decide) ?_
          exact ih_24 _ (aa_24 + 1, rs3_26, pb3_26) _ _ _ (by omega) ⟨rfl, ⟨by omega, (by show _ = crO (rsA pn cc pf (kx pco pd pe pn)) (pn + 1) aa_24 + crI ((rsA pn cc pf (kx pco pd pe pn)) aa_24) (pn + 1); rw [hv_26.2.1, show b3_26 = pn + 1 by omega]), hv_26.2.2⟩, hP, hD, hS, (lv_sub hl [0, 2, 3, 4, 5] rfl)⟩
        · have c_27 : ¬ (pn < b3_26) := fun h => c_27 ((nI_ltI (a := pn) (b := b3_26) (by omega) (by omega)).mpr h)
          refine lv_aload_n hx hb dX1_countRests_59 rfl (lv_at hl 5 rfl) ?_
          refine va_get (D := D) (ci := 1) (v := .ref z1) (C := RX1) (T := TX1) (N := 8) hx hb hts inX1 hown hK hP 0 rfl rfl 1 (by decide) (hts _ tw_236) (fun _ h9 => h9) rfl dX1_countRests_60 ?_
          refine lv_iconst (v := 0) hx hb dX1_countRests_63 (by decide) ?_
          refine lv_iload hx hb dX1_countRests_64 (lv_at hl 1 rfl) ?_
          refine va_iast hx hb hK hP hD hS 1 1 rfl rfl (by unfold vp_in; decide) dX1_countRests_66 (fun H locs hP hD hS => ?_)
          have hQ9 := pd_mk [(z0, .inr (1, (fX1 c0 z1 z2 z3 (nI pn) (nI pf) pd pe))), (aI k z1 4 (upd (nF pb3_26) (Int32.toNatClampNeg 0) (nI aa_24))), (aI k z2 100 pco), (c0, .inr (4, (fX4 c1 c2 (nI cc) (nI rz) ro sd)))] hP hD
          clear hP hD
          obtain ⟨hP, hD⟩ := hQ9
          rw [show upd (nF pb3_26) (Int32.toNatClampNeg 0) (nI aa_24) = nF (fun j => if j = 0 then aa_24 else pb3_26 j) from nF_upd _ _ _] at hP hD
          obtain ⟨d_29, hd_29⟩ : ∃ z : Nat → Nat, z = (fun j => if j = 0 then aa_24 else pb3_26 j) := ⟨_, rfl⟩
          rw [← hd_29] at hP hD
          have hbb_29 : ∀ j, d_29 j ≤ 24 := by rw [hd_29]; exact up_le hpl_26 (by omega)
          refine lv_aload_n hx hb dX1_countRests_67 rfl (lv_at hl 5 rfl) ?_
          refine va_get (D := D) (ci := 1) (v := .ref z1) (C := RX1) (T := TX1) (N := 8) hx hb hts inX1 hown hK hP 0 rfl rfl 1 (by decide) (hts _ tw_236) (fun _ h9 => h9) rfl dX1_countRests_68 ?_
          refine lv_iconst (v := 1) hx hb dX1_countRests_71 (by decide) ?_
          refine lv_iload hx hb dX1_countRests_72 (lv_at hl 0 rfl) ?_
          refine va_iast hx hb hK hP hD hS 1 1 rfl rfl (by unfold vp_in; decide) dX1_countRests_74 (fun H locs hP hD hS => ?_)
          have hQ9 := pd_mk [(z0, .inr (1, (fX1 c0 z1 z2 z3 (nI pn) (nI pf) pd pe))), (aI k z1 4 (upd (nF d_29) (Int32.toNatClampNeg 1) (nI b3_26))), (aI k z2 100 pco), (c0, .inr (4, (fX4 c1 c2 (nI cc) (nI rz) ro sd)))] hP hD
          clear hP hD
          obtain ⟨hP, hD⟩ := hQ9
          rw [show upd (nF d_29) (Int32.toNatClampNeg 1) (nI b3_26) = nF (fun j => if j = 1 then b3_26 else d_29 j) from nF_upd _ _ _] at hP hD
          obtain ⟨d_31, hd_31⟩ : ∃ z : Nat → Nat, z = (fun j => if j = 1 then b3_26 else d_29 j) := ⟨_, rfl⟩
          rw [← hd_31] at hP hD
          have hbb_31 : ∀ j, d_31 j ≤ 24 := by rw [hd_31]; exact up_le hbb_29 (by omega)
          have hbn_32 : ∀ j, j < cc → d_31 j ≤ pn := by intro j hj; rcases (show j = 0 ∨ j = 1 by omega) with e | e; rw [e, hd_31, hd_29]; show aa_24 ≤ pn; omega; rw [e, hd_31]; show b3_26 ≤ pn; omega
          have hvc_32 : ∀ j, j < cc → d_31 j = vc aa_24 b3_26 j := by intro j hj; rcases (show j = 0 ∨ j = 1 by omega) with e | e; rw [e, hd_31, hd_29]; rfl; rw [e, hd_31]; rfl
          refine lv_iload_n hx hb dX1_countRests_75 rfl (lv_at hl 2 rfl) ?_
          refine lv_aload_n hx hb dX1_countRests_76 rfl (lv_at hl 5 rfl) ?_
          refine ro_i (D := D) (va_runV (As := []) (rest := [.int (nI rs3_26)]) ⟨hx, hb, hml, hown, hts⟩ ((y_isAtRest l D k st lo c0 z0 z1 z2 z3 pn pf pd pe d_31 pco c1 c2 cc rz ro sd (by first | assumption | omega) (by first | assumption | omega) hbb_31 (by first | assumption | omega) hbn_32) H.size) (cwV 0 hts (gV tw_892 tw_855 tw_856 tw_84 tw_857) rfl rfl rfl (by decide +kernel) ⟨Nat.le_of_ble_eq_true rfl, Nat.le_of_ble_eq_true rfl⟩) (pV hS hAlo hlo hP hK (va_Dlo hD hAlo) hZ [0, 1, 2, 3] (by decide) rfl (ci := 1) (q := (RX1, TX1, 8)) (q0 := 0) rfl rfl) rfl rfl hl.1 rfl (lv_room (Nat.le_of_ble_eq_true rfl)) dX1_countRests_77 ⟨Nat.le_of_ble_eq_true rfl, Nat.le_of_ble_eq_true rfl⟩) hS hA hP (fun r_33 H locs hw_33 hP hS => ?_)
          try dsimp only at hw_33
          rcases hw_33 with ⟨rfl, hw_33⟩ | ⟨rfl, hw_33⟩
          · refine lv_if_eq (tgt := 87) hx hb dX1_countRests_80 (by decide) (fun h => absurd h (by decide)) (fun _ => ?_)
            refine lv_iconst (v := 1) hx hb dX1_countRests_83 (by decide) ?_
            refine lv_goto (tgt := 88) hx hb dX1_countRests_84 (by decide) ?_
            refine lv_iadd hx hb dX1_countRests_88 ?_
            refine lv_ti (y := (nI (rs3_26 + 1))) (nI_add rs3_26 1) ?_
            refine lv_istore_n (lv' := [(3, .int (nI (rs3_26 + 1))), (5, .int (nI b3_26)), (4, .int (nI aa_24)), (2, .int (nI pn)), (1, .int (nI pn)), (0, .ref z0)]) hx hb dX1_countRests_89 rfl hl (by decide) rfl (fun ls hl => ?_)
            refine lv_iinc (v := (nI (b3_26 + 1))) (lv' := [(5, .int (nI (b3_26 + 1))), (3, .int (nI (rs3_26 + 1))), (4, .int (nI aa_24)), (2, .int (nI pn)), (1, .int (nI pn)), (0, .ref z0)]) hx hb dX1_countRests_90 hl (k := 1) rfl (nI_add b3_26 1) (by decide) rfl (fun ls hl => ?_)
            refine lv_goto (tgt := 53) hx hb dX1_countRests_93 (by decide) ?_
            exact ih_26 _ (b3_26 + 1, rs3_26 + 1, d_31) _ _ _ (by omega) ⟨rfl, ⟨by omega, (by show _ = crO (rsA pn cc pf (kx pco pd pe pn)) (pn + 1) aa_24 + (crI ((rsA pn cc pf (kx pco pd pe pn)) aa_24) b3_26 + rsB (rsP pn cc pf (kx pco pd pe pn) (vc aa_24 b3_26))); rw [rsB_1 (rsP_congr (fun _ _ _ _ => rfl) hvc_32 hw_33), hv_26.2.1, Nat.add_assoc]), hbb_31⟩, hP, hD, hS, (lv_sub hl [0, 2, 1, 3, 4, 5] rfl)⟩
          · refine lv_if_eq (tgt := 87) hx hb dX1_countRests_80 (by decide) (fun _ => ?_) (fun h => absurd (by decide) h)
            refine lv_iconst (v := 0) hx hb dX1_countRests_87 (by decide) ?_
            refine lv_iadd hx hb dX1_countRests_88 ?_
            refine lv_ti (y := (nI (rs3_26 + 0))) (nI_add rs3_26 0) ?_
            refine lv_istore_n (lv' := [(3, .int (nI (rs3_26 + 0))), (5, .int (nI b3_26)), (4, .int (nI aa_24)), (2, .int (nI pn)), (1, .int (nI pn)), (0, .ref z0)]) hx hb dX1_countRests_89 rfl hl (by decide) rfl (fun ls hl => ?_)
            refine lv_iinc (v := (nI (b3_26 + 1))) (lv' := [(5, .int (nI (b3_26 + 1))), (3, .int (nI (rs3_26 + 0))), (4, .int (nI aa_24)), (2, .int (nI pn)), (1, .int (nI pn)), (0, .ref z0)]) hx hb dX1_countRests_90 hl (k := 1) rfl (nI_add b3_26 1) (by decide) rfl (fun ls hl => ?_)
            refine lv_goto (tgt := 53) hx hb dX1_countRests_93 (by decide) ?_
            exact ih_26 _ (b3_26 + 1, rs3_26 + 0, d_31) _ _ _ (by omega) ⟨rfl, ⟨by omega, (by show _ = crO (rsA pn cc pf (kx pco pd pe pn)) (pn + 1) aa_24 + (crI ((rsA pn cc pf (kx pco pd pe pn)) aa_24) b3_26 + rsB (rsP pn cc pf (kx pco pd pe pn) (vc aa_24 b3_26))); rw [rsB_0 (fun q => hw_33 (rsP_congr (fun _ _ _ _ => rfl) (fun j hj => (hvc_32 j hj).symm) q)), hv_26.2.1, Nat.add_assoc]), hbb_31⟩, hP, hD, hS, (lv_sub hl [0, 2, 1, 3, 4, 5] rfl)⟩


set_option maxHeartbeats 4000000 in
set_option maxRecDepth 100000 in
theorem y_comeTo (l : Launch) (D : va_G) (k : Nat → ClassId) (st : Nat → Nat) (lo : Nat) (c0 : Nat) (z0 : Nat) (z1 : Nat) (z2 : Nat) (z3 : Nat) (pn : Int32) (pf : Int32) (pd : Int32) (pe : Int32) (pb : Nat → Nat) (pco : Nat → Int32) (h0 : Nat) (h1 : Nat) (h2 : Nat) (h3 : Nat) (h4 : Nat) (n : Nat) (see : Nat) (tm : Nat) (g : Nat → Int32) (ff : Nat → Int32) (fp : Nat → Int32) (fl : Nat → Int32) (c1 : Nat) (c2 : Nat) (cc : Nat) (rz : Nat) (ro : Int32) (sd : Int32) (wk : Nat → Int32) (br : Nat → Nat) (se9 : Nat) (hn : n ≤ 24) (hcc : cc ≤ 4) (hbr : ∀ j, br j ≤ 24) (hpb : ∀ j, pb j ≤ 24) (hl9 : ∀ r, r < 4 → fl r = pLate (sdX n see tm g ff fp) r) : CWv l D k st lo yX1_comeTo cX1_comeTo 5 none ({ frames := 1, cells := 0, slots := 0, locals := 60 }) 0 0 [.ref z0, .ref h0, .int (nI se9)] [(z0, .inr (1, (fX1 c0 z1 z2 z3 pn pf pd pe))), (aI k z1 4 (nF pb)), (aI k z2 100 pco), (h0, .inr (5, (fX5 h1 h2 h3 h4))), (aI k h1 10 (vv n see tm g)), (aI k h2 24 ff), (aI k h3 24 fp), (aI k h4 4 fl), (c0, .inr (4, (fX4 c1 c2 (nI cc) (nI rz) ro sd))), (aI k c1 4 wk), (aI k c2 4 (nF br))] (fun (u : (Nat → Nat) × (Nat → Int32)) => match u with | (pb_, pco_) => (∀ j, pb_ j ≤ 24) ∧ ∀ k, k < cc → ∀ i, i ≤ n → pco_ (k * 25 + i) = pC (sdX n see tm g ff fp) (wk k) i) (fun (u : (Nat → Nat) × (Nat → Int32)) => match u with | (pb_, pco_) => [(z0, .inr (1, (fX1 c0 z1 z2 z3 (nI n) (nI se9) 0 0))), (aI k z1 4 (nF pb_)), (aI k z2 100 pco_), (h0, .inr (5, (fX5 h1 h2 h3 h4))), (aI k h1 10 (vv n see tm g)), (aI k h2 24 ff), (aI k h3 24 fp), (aI k h4 4 fl), (c0, .inr (4, (fX4 c1 c2 (nI cc) (nI rz) ro sd))), (aI k c1 4 wk), (aI k c2 4 (nF br))]) := by
  intro sz
  refine Met.ofW (cc := cX1_comeTo) (maxL := 5) (ret := none) (by decide) rfl ?_
  intro p e s m args below meth c s₁ B hml hv
  obtain ⟨rfl, hsz, hlo, hP, hK, hDL, hZ⟩ := hv
  have hx := B.exec
  have hb := B.bytes
  have hr := B.returns
  have hts := WS_ts B.pre
  have hown : s.vm.findClass RX1 = some m.cls := findClass_of_methodNamed B.named
  have hlocks := B.notSynchronized
  subst hsz
  have hD := hDL.self (sz := s.heap.size)
  have hAlo := A_lo hDL hlo
  generalize hAe : va_A [(z0, .inr (1, (fX1 c0 z1 z2 z3 pn pf pd pe))), (aI k z1 4 (nF pb)), (aI k z2 100 pco), (h0, .inr (5, (fX5 h1 h2 h3 h4))), (aI k h1 10 (vv n see tm g)), (aI k h2 24 ff), (aI k h3 24 fp), (aI k h4 4 fl), (c0, .inr (4, (fX4 c1 c2 (nI cc) (nI rz) ro sd))), (aI k c1 4 wk), (aI k c2 4 (nF br))] s.heap.size = A at hD hAlo ⊢
  have hA : ∀ q : Nat, s.heap.size ≤ q → A q := fun q h => by rw [← hAe]; exact Or.inr h
  have hS : va_S A s.heap s.heap [] := va_S.rf
  have hl := lv_entry ([.ref z0, .ref h0, .int (nI se9)]) (n := 5) (Nat.le_of_ble_eq_true rfl)
  rw [lg_entry_eq]
  generalize (lg_sl ([.ref z0, .ref h0, .int (nI se9)]) ++ List.replicate (5 - (lg_sl ([.ref z0, .ref h0, .int (nI se9)])).length) Slot.unset).toArray = ls at hl ⊢
  have hl : lv_has ls 5 [(0, .ref z0), (1, .ref h0), (2, .int (nI se9))] := hl
  refine lv_aload_n hx hb dX1_comeTo_0 rfl (lv_at hl 0 rfl) ?_
  refine lv_aload_n hx hb dX1_comeTo_1 rfl (lv_at hl 1 rfl) ?_
  refine ro_i (D := D) (va_runV (As := []) (rest := [.ref z0]) ⟨hx, hb, hml, hown, hts⟩ ((x_doors l D k st lo h0 h1 h2 h3 h4 n see tm g) s.heap.size) (cwV 0 hts (gV tw_825 tw_478 tw_479 tw_81 tw_480) rfl rfl rfl (by decide +kernel) ⟨Nat.le_of_ble_eq_true rfl, Nat.le_of_ble_eq_true rfl⟩) (pV hS hAlo hlo hP hK (va_Dlo hD hAlo) hZ [3, 4] (by decide) rfl (ci := 5) (q := (RX5, TX5, 4)) (q0 := 0) rfl rfl) rfl rfl hl.1 rfl (lv_room (Nat.le_of_ble_eq_true rfl)) dX1_comeTo_2 ⟨Nat.le_of_ble_eq_true rfl, Nat.le_of_ble_eq_true rfl⟩) hS hA hP (fun r_1 H locs hw_1 hP hS => ?_)
  try dsimp only at hw_1
  subst hw_1
  refine va_put (D := D) (ci := 1) (v := .int (nI n)) (ty := .int) (C := RX1) (T := TX1) (N := 8) hx hb hts inX1 tyX1 tyX1_ok nmX1 hown hK hP hD hS 0 rfl rfl 4 (by decide) (hts _ tw_240) (fun _ h9 => h9) rfl (by decide +kernel) rfl rfl (Nat.le_of_ble_eq_true rfl) dX1_comeTo_5 (fun H locs hP hD hS => ?_)
  have hQ9 := pd_mk [(z0, .inr (1, (fX1 c0 z1 z2 z3 (nI n) pf pd pe))), (aI k z1 4 (nF pb)), (aI k z2 100 pco), (h0, .inr (5, (fX5 h1 h2 h3 h4))), (aI k h1 10 (vv n see tm g)), (aI k h2 24 ff), (aI k h3 24 fp), (aI k h4 4 fl), (c0, .inr (4, (fX4 c1 c2 (nI cc) (nI rz) ro sd))), (aI k c1 4 wk), (aI k c2 4 (nF br))] hP hD
  clear hP hD
  obtain ⟨hP, hD⟩ := hQ9
  refine lv_aload_n hx hb dX1_comeTo_8 rfl (lv_at hl 0 rfl) ?_
  refine lv_iload_n hx hb dX1_comeTo_9 rfl (lv_at hl 2 rfl) ?_
  refine va_put (D := D) (ci := 1) (v := .int (nI se9)) (ty := .int) (C := RX1) (T := TX1) (N := 8) hx hb hts inX1 tyX1 tyX1_ok nmX1 hown hK hP hD hS 0 rfl rfl 5 (by decide) (hts _ tw_241) (fun _ h9 => h9) rfl (by decide +kernel) rfl rfl (Nat.le_of_ble_eq_true rfl) dX1_comeTo_10 (fun H locs hP hD hS => ?_)
  have hQ9 := pd_mk [(z0, .inr (1, (fX1 c0 z1 z2 z3 (nI n) (nI se9) pd pe))), (aI k z1 4 (nF pb)), (aI k z2 100 pco), (h0, .inr (5, (fX5 h1 h2 h3 h4))), (aI k h1 10 (vv n see tm g)), (aI k h2 24 ff), (aI k h3 24 fp), (aI k h4 4 fl), (c0, .inr (4, (fX4 c1 c2 (nI cc) (nI rz) ro sd))), (aI k c1 4 wk), (aI k c2 4 (nF br))] hP hD
  clear hP hD
  obtain ⟨hP, hD⟩ := hQ9
  refine lv_aload_n hx hb dX1_comeTo_13 rfl (lv_at hl 0 rfl) ?_
  refine lv_iconst (v := 0) hx hb dX1_comeTo_14 (by decide) ?_
  refine va_put (D := D) (ci := 1) (v := .int 0) (ty := .int) (C := RX1) (T := TX1) (N := 8) hx hb hts inX1 tyX1 tyX1_ok nmX1 hown hK hP hD hS 0 rfl rfl 6 (by decide) (hts _ tw_242) (fun _ h9 => h9) rfl (by decide +kernel) rfl rfl (Nat.le_of_ble_eq_true rfl) dX1_comeTo_15 (fun H locs hP hD hS => ?_)
  have hQ9 := pd_mk [(z0, .inr (1, (fX1 c0 z1 z2 z3 (nI n) (nI se9) 0 pe))), (aI k z1 4 (nF pb)), (aI k z2 100 pco), (h0, .inr (5, (fX5 h1 h2 h3 h4))), (aI k h1 10 (vv n see tm g)), (aI k h2 24 ff), (aI k h3 24 fp), (aI k h4 4 fl), (c0, .inr (4, (fX4 c1 c2 (nI cc) (nI rz) ro sd))), (aI k c1 4 wk), (aI k c2 4 (nF br))] hP hD
  clear hP hD
  obtain ⟨hP, hD⟩ := hQ9
  refine lv_aload_n hx hb dX1_comeTo_18 rfl (lv_at hl 0 rfl) ?_
  refine lv_iconst (v := 0) hx hb dX1_comeTo_19 (by decide) ?_
  refine va_put (D := D) (ci := 1) (v := .int 0) (ty := .int) (C := RX1) (T := TX1) (N := 8) hx hb hts inX1 tyX1 tyX1_ok nmX1 hown hK hP hD hS 0 rfl rfl 7 (by decide) (hts _ tw_243) (fun _ h9 => h9) rfl (by decide +kernel) rfl rfl (Nat.le_of_ble_eq_true rfl) dX1_comeTo_20 (fun H locs hP hD hS => ?_)
  have hQ9 := pd_mk [(z0, .inr (1, (fX1 c0 z1 z2 z3 (nI n) (nI se9) 0 0))), (aI k z1 4 (nF pb)), (aI k z2 100 pco), (h0, .inr (5, (fX5 h1 h2 h3 h4))), (aI k h1 10 (vv n see tm g)), (aI k h2 24 ff), (aI k h3 24 fp), (aI k h4 4 fl), (c0, .inr (4, (fX4 c1 c2 (nI cc) (nI rz) ro sd))), (aI k c1 4 wk), (aI k c2 4 (nF br))] hP hD
  clear hP hD
  obtain ⟨hP, hD⟩ := hQ9
  refine lv_aload_n hx hb dX1_comeTo_23 rfl (lv_at hl 0 rfl) ?_
  refine va_get (D := D) (ci := 1) (v := .ref c0) (C := RX1) (T := TX1) (N := 8) hx hb hts inX1 hown hK hP 0 rfl rfl 0 (by decide) (hts _ tw_235) (fun _ h9 => h9) rfl dX1_comeTo_24 ?_
  refine va_get (D := D) (ci := 4) (v := .ref c2) (C := RX4) (T := TX4) (N := 6) hx hb hts inX4 hown hK hP 8 rfl rfl 1 (by decide) (hts _ tw_176) (fun _ h9 => h9) rfl dX1_comeTo_27 ?_
  refine lv_iconst (v := 0) hx hb dX1_comeTo_30 (by decide) ?_
  refine lv_aload_n hx hb dX1_comeTo_31 rfl (lv_at hl 0 rfl) ?_
  refine va_get (D := D) (ci := 1) (v := .ref z1) (C := RX1) (T := TX1) (N := 8) hx hb hts inX1 hown hK hP 0 rfl rfl 1 (by decide) (hts _ tw_236) (fun _ h9 => h9) rfl dX1_comeTo_32 ?_
  refine lv_iconst (v := 0) hx hb dX1_comeTo_35 (by decide) ?_
  refine lv_iconst (v := 4) hx hb dX1_comeTo_36 (by decide) ?_
  refine va_copyi hx hb (by rw [hml]; exact hl.1.symm) hown (hts _ tw_826) (hts _ tw_366) (hts _ tw_365) (hts _ tw_88) hK hP hD hS 10 1 1 1 rfl rfl rfl rfl rfl (by decide) (by decide) (by decide) (by decide) (by decide) (fun _ _ => rfl) (Nat.le_of_ble_eq_true rfl) (Nat.le_of_ble_eq_true rfl) dX1_comeTo_37 (fun H locs hP hD hS => ?_)
  have hQ9 := pd_mk [(z0, .inr (1, (fX1 c0 z1 z2 z3 (nI n) (nI se9) 0 0))), (aI k z1 4 (va_cpy (nF br) (nF pb) 0 0 4)), (aI k z2 100 pco), (h0, .inr (5, (fX5 h1 h2 h3 h4))), (aI k h1 10 (vv n see tm g)), (aI k h2 24 ff), (aI k h3 24 fp), (aI k h4 4 fl), (c0, .inr (4, (fX4 c1 c2 (nI cc) (nI rz) ro sd))), (aI k c1 4 wk), (aI k c2 4 (nF br))] hP hD
  clear hP hD
  obtain ⟨hP, hD⟩ := hQ9
  obtain ⟨d_2, hd_2, hbb_2⟩ := nF_cpy hbr hpb
  rw [show va_cpy (nF br) (nF pb) 0 0 4 = nF d_2 from hd_2] at hP hD
  have hQ9 := pd_mk [(z0, .inr (1, (fX1 c0 z1 z2 z3 (nI n) (nI se9) 0 0))), (aI k z1 4 (nF d_2)), (aI k z2 100 pco), (h0, .inr (5, (fX5 h1 h2 h3 h4))), (aI k h1 10 (vv n see tm g)), (aI k h2 24 ff), (aI k h3 24 fp), (aI k h4 4 fl), (c0, .inr (4, (fX4 c1 c2 (nI cc) (nI rz) ro sd))), (aI k c1 4 wk), (aI k c2 4 (nF br))] hP hD
  clear hP hD
  obtain ⟨hP, hD⟩ := hQ9
  refine lv_iconst (v := 0) hx hb dX1_comeTo_40 (by decide) ?_
  refine lv_istore_n (lv' := [(3, .int 0), (0, .ref z0), (1, .ref h0), (2, .int (nI se9))]) hx hb dX1_comeTo_41 rfl hl (by decide) rfl (fun ls hl => ?_)
  refine W_loop (σ := Nat × (Nat → Int32)) (fun (n_ : Nat) (x_ : Nat × (Nat → Int32)) (H : Heap) (locs : List Loc) (ls : Array Slot) => match x_ with | (cn2_4, pco2_4) => n_ = 5 - cn2_4 ∧ (cn2_4 ≤ cc ∧ ∀ k, k < cn2_4 → ∀ i, i ≤ n → pco2_4 (k * 25 + i) = pC (sdX n see tm g ff fp) (wk k) i) ∧ va_P D classes [(z0, .inr (1, (fX1 c0 z1 z2 z3 (nI n) (nI se9) 0 0))), (aI k z1 4 (nF d_2)), (aI k z2 100 pco2_4), (h0, .inr (5, (fX5 h1 h2 h3 h4))), (aI k h1 10 (vv n see tm g)), (aI k h2 24 ff), (aI k h3 24 fp), (aI k h4 4 fl), (c0, .inr (4, (fX4 c1 c2 (nI cc) (nI rz) ro sd))), (aI k c1 4 wk), (aI k c2 4 (nF br))] H ∧ va_D A [(z0, .inr (1, (fX1 c0 z1 z2 z3 (nI n) (nI se9) 0 0))), (aI k z1 4 (nF d_2)), (aI k z2 100 pco2_4), (h0, .inr (5, (fX5 h1 h2 h3 h4))), (aI k h1 10 (vv n see tm g)), (aI k h2 24 ff), (aI k h3 24 fp), (aI k h4 4 fl), (c0, .inr (4, (fX4 c1 c2 (nI cc) (nI rz) ro sd))), (aI k c1 4 wk), (aI k c2 4 (nF br))] ∧ va_S A s.heap H locs ∧ lv_has ls 5 [(3, .int (nI cn2_4)), (0, .ref z0), (1, .ref h0), (2, .int (nI se9))]) (fun n_4 x_4 H locs ls hI ih_4 => ?_) _ (0, pco) ⟨rfl, ⟨by omega, fun k h => absurd h (Nat.not_lt_zero k)⟩, hP, hD, hS, (lv_sub hl [0, 1, 2, 3] rfl)⟩
  obtain ⟨cn2_4, pco2_4⟩ := x_4
  obtain ⟨hm_4, hv_4, hP, hD, hS, hl⟩ := hI
  subst hm_4
  refine lv_iload_n hx hb dX1_comeTo_42 rfl (lv_at hl 0 rfl) ?_
  refine lv_aload_n hx hb dX1_comeTo_43 rfl (lv_at hl 1 rfl) ?_
  refine va_get (D := D) (ci := 1) (v := .ref c0) (C := RX1) (T := TX1) (N := 8) hx hb hts inX1 hown hK hP 0 rfl rfl 0 (by decide) (hts _ tw_235) (fun _ h9 => h9) rfl dX1_comeTo_44 ?_
  refine va_get (D := D) (ci := 4) (v := .int (nI cc)) (C := RX4) (T := TX4) (N := 6) hx hb hts inX4 hown hK hP 8 rfl rfl 2 (by decide) (hts _ tw_179) (fun _ h9 => h9) rfl dX1_comeTo_47 ?_
  refine lv_icmp_ge (tgt := 142) hx hb dX1_comeTo_50 (by decide) (fun c_5 => ?_) (fun c_5 => ?_)
  · have c_5 := (nI_leI (a := cc) (b := cn2_4) (by omega) (by omega)).mp c_5
    obtain ⟨hP9, hD9⟩ := pd_sub [(z0, .inr (1, (fX1 c0 z1 z2 z3 (nI n) (nI se9) 0 0))), (aI k z1 4 (nF d_2)), (aI k z2 100 pco2_4), (h0, .inr (5, (fX5 h1 h2 h3 h4))), (aI k h1 10 (vv n see tm g)), (aI k h2 24 ff), (aI k h3 24 fp), (aI k h4 4 fl), (c0, .inr (4, (fX4 c1 c2 (nI cc) (nI rz) ro sd))), (aI k c1 4 wk), (aI k c2 4 (nF br))] [0, 1, 2, 3, 4, 5, 6, 7, 8, 9, 10] hP hD (by decide +kernel) rfl
    exact W.vret hx hb hr (fun t ht hW => ⟨⟨(d_2, pco2_4), rfl, ⟨hbb_2, fun k hk => hv_4.2 k (by omega)⟩, by rw [ht]; exact hP9, hD9⟩, hS.F ht⟩) hS.2.2 dX1_comeTo_142
  · have c_5 : ¬ (cc ≤ cn2_4) := fun h => c_5 ((nI_leI (a := cc) (b := cn2_4) (by omega) (by omega)).mpr h)
    refine lv_iconst (v := 0) hx hb dX1_comeTo_53 (by decide) ?_
    refine lv_istore (lv' := [(4, .int 0), (3, .int (nI cn2_4)), (0, .ref z0), (1, .ref h0), (2, .int (nI se9))]) hx hb dX1_comeTo_54 hl (by decide) rfl (fun ls hl => ?_)
    refine W_loop (σ := Nat × (Nat → Int32)) (fun (n_ : Nat) (x_ : Nat × (Nat → Int32)) (H : Heap) (locs : List Loc) (ls : Array Slot) => match x_ with | (ii_6, pco3_6) => n_ = 25 - ii_6 ∧ (ii_6 ≤ n ∧ (∀ k, k < cn2_4 → ∀ i, i ≤ n → pco3_6 (k * 25 + i) = pC (sdX n see tm g ff fp) (wk k) i) ∧ (∀ i, i < ii_6 → pco3_6 (cn2_4 * 25 + i) = pC (sdX n see tm g ff fp) (wk cn2_4) i)) ∧ va_P D classes [(z0, .inr (1, (fX1 c0 z1 z2 z3 (nI n) (nI se9) 0 0))), (aI k z1 4 (nF d_2)), (aI k z2 100 pco3_6), (h0, .inr (5, (fX5 h1 h2 h3 h4))), (aI k h1 10 (vv n see tm g)), (aI k h2 24 ff), (aI k h3 24 fp), (aI k h4 4 fl), (c0, .inr (4, (fX4 c1 c2 (nI cc) (nI rz) ro sd))), (aI k c1 4 wk), (aI k c2 4 (nF br))] H ∧ va_D A [(z0, .inr (1, (fX1 c0 z1 z2 z3 (nI n) (nI se9) 0 0))), (aI k z1 4 (nF d_2)), (aI k z2 100 pco3_6), (h0, .inr (5, (fX5 h1 h2 h3 h4))), (aI k h1 10 (vv n see tm g)), (aI k h2 24 ff), (aI k h3 24 fp), (aI k h4 4 fl), (c0, .inr (4, (fX4 c1 c2 (nI cc) (nI rz) ro sd))), (aI k c1 4 wk), (aI k c2 4 (nF br))] ∧ va_S A s.heap H locs ∧ lv_has ls 5 [(4, .int (nI ii_6)), (3, .int (nI cn2_4)), (0, .ref z0), (1, .ref h0), (2, .int (nI se9))]) (fun n_6 x_6 H locs ls hI ih_6 => ?_) _ (0, pco2_4) ⟨rfl, ⟨by omega, hv_4.2, fun i h => absurd h (Nat.not_lt_zero i)⟩, hP, hD, hS, (lv_sub hl [0, 1, 2, 3, 4] rfl)⟩
    obtain ⟨ii_6, pco3_6⟩ := x_6
    obtain ⟨hm_6, hv_6, hP, hD, hS, hl⟩ := hI
    subst hm_6
    refine lv_iload hx hb dX1_comeTo_56 (lv_at hl 0 rfl) ?_
    refine lv_aload_n hx hb dX1_comeTo_58 rfl (lv_at hl 2 rfl) ?_
    refine va_get (D := D) (ci := 1) (v := .int (nI n)) (C := RX1) (T := TX1) (N := 8) hx hb hts inX1 hown hK hP 0 rfl rfl 4 (by decide) (hts _ tw_240) (fun _ h9 => h9) rfl dX1_comeTo_59 ?_
    refine lv_icmp_ge (tgt := 107) hx hb dX1_comeTo_62 (by decide) (fun c_7 => ?_) (fun c_7 => ?_)
    · have c_7 := (nI_leI (a := n) (b := ii_6) (by omega) (by omega)).mp c_7
      refine lv_aload_n hx hb dX1_comeTo_107 rfl (lv_at hl 2 rfl) ?_
      refine va_get (D := D) (ci := 1) (v := .ref z2) (C := RX1) (T := TX1) (N := 8) hx hb hts inX1 hown hK hP 0 rfl rfl 2 (by decide) (hts _ tw_238) (fun _ h9 => h9) rfl dX1_comeTo_108 ?_
      refine lv_iload_n hx hb dX1_comeTo_111 rfl (lv_at hl 1 rfl) ?_
      refine lv_bipush (v := 25) hx hb dX1_comeTo_112 (by decide) ?_
      refine lv_imul hx hb dX1_comeTo_114 ?_
      refine lv_ti (y := (nI (cn2_4 * 25))) (pk_mul cn2_4 25) ?_
      refine lv_aload_n hx hb dX1_comeTo_115 rfl (lv_at hl 2 rfl) ?_
      refine va_get (D := D) (ci := 1) (v := .int (nI n)) (C := RX1) (T := TX1) (N := 8) hx hb hts inX1 hown hK hP 0 rfl rfl 4 (by decide) (hts _ tw_240) (fun _ h9 => h9) rfl dX1_comeTo_116 ?_
      refine lv_iadd hx hb dX1_comeTo_119 ?_
      refine lv_ti (y := (nI (cn2_4 * 25 + n))) (nI_add (cn2_4 * 25) n) ?_
      refine lv_aload_n hx hb dX1_comeTo_120 rfl (lv_at hl 3 rfl) ?_
      refine lv_iconst (v := 0) hx hb dX1_comeTo_121 (by decide) ?_
      refine ro_i (D := D) (va_runV (As := [.int 0]) (rest := [.int (nI (cn2_4 * 25 + n)), .ref z2]) ⟨hx, hb, hml, hown, hts⟩ ((y_garageOf l D k st lo h0 h1 h2 h3 h4 n see tm g fl 0 (by first | assumption | omega)) H.size) (cwV 1 hts (gV tw_829 tw_521 tw_522 tw_81 tw_523) rfl rfl rfl (by decide +kernel) ⟨Nat.le_of_ble_eq_true rfl, Nat.le_of_ble_eq_true rfl⟩) (pV hS hAlo hlo hP hK (va_Dlo hD hAlo) hZ [3, 4, 7] (by decide) rfl (ci := 5) (q := (RX5, TX5, 4)) (q0 := 0) rfl rfl) rfl rfl hl.1 rfl (lv_room (Nat.le_of_ble_eq_true rfl)) dX1_comeTo_122 ⟨Nat.le_of_ble_eq_true rfl, Nat.le_of_ble_eq_true rfl⟩) hS hA hP (fun r_8 H locs hw_8 hP hS => ?_)
      try dsimp only at hw_8
      refine lv_aload_n hx hb dX1_comeTo_125 rfl (lv_at hl 2 rfl) ?_
      refine va_get (D := D) (ci := 1) (v := .int (nI n)) (C := RX1) (T := TX1) (N := 8) hx hb hts inX1 hown hK hP 0 rfl rfl 4 (by decide) (hts _ tw_240) (fun _ h9 => h9) rfl dX1_comeTo_126 ?_
      refine lv_aload_n hx hb dX1_comeTo_129 rfl (lv_at hl 3 rfl) ?_
      refine ro_i (D := D) (va_runV (As := []) (rest := [.int (nI n), .int r_8, .int (nI (cn2_4 * 25 + n)), .ref z2]) ⟨hx, hb, hml, hown, hts⟩ ((y_passing l D k st lo h0 h1 h2 h3 h4 n see tm g) H.size) (cwV 0 hts (gV tw_828 tw_573 tw_574 tw_81 tw_575) rfl rfl rfl (by decide +kernel) ⟨Nat.le_of_ble_eq_true rfl, Nat.le_of_ble_eq_true rfl⟩) (pV hS hAlo hlo hP hK (va_Dlo hD hAlo) hZ [3, 4] (by decide) rfl (ci := 5) (q := (RX5, TX5, 4)) (q0 := 0) rfl rfl) rfl rfl hl.1 rfl (lv_room (Nat.le_of_ble_eq_true rfl)) dX1_comeTo_130 ⟨Nat.le_of_ble_eq_true rfl, Nat.le_of_ble_eq_true rfl⟩) hS hA hP (fun r_9 H locs hw_9 hP hS => ?_)
      try dsimp only at hw_9
      refine lv_imul hx hb dX1_comeTo_133 ?_
      refine lv_topi (fun x_10 ex_10 => ?_)
      refine lv_iadd hx hb dX1_comeTo_134 ?_
      refine lv_topi (fun x_11 ex_11 => ?_)
      refine va_iast hx hb hK hP hD hS 2 1 rfl rfl (vp_in_nI (by omega) (by decide)) dX1_comeTo_135 (fun H locs hP hD hS => ?_)
      have hQ9 := pd_mk [(z0, .inr (1, (fX1 c0 z1 z2 z3 (nI n) (nI se9) 0 0))), (aI k z1 4 (nF d_2)), (aI k z2 100 (upd pco3_6 (Int32.toNatClampNeg (nI (cn2_4 * 25 + n))) x_11)), (h0, .inr (5, (fX5 h1 h2 h3 h4))), (aI k h1 10 (vv n see tm g)), (aI k h2 24 ff), (aI k h3 24 fp), (aI k h4 4 fl), (c0, .inr (4, (fX4 c1 c2 (nI cc) (nI rz) ro sd))), (aI k c1 4 wk), (aI k c2 4 (nF br))] hP hD
      clear hP hD
      obtain ⟨hP, hD⟩ := hQ9
      rw [nI_clamp (n := (cn2_4 * 25 + n)) (by omega)] at hP hD
      have hQ9 := pd_mk [(z0, .inr (1, (fX1 c0 z1 z2 z3 (nI n) (nI se9) 0 0))), (aI k z1 4 (nF d_2)), (aI k z2 100 (upd pco3_6 (cn2_4 * 25 + n) x_11)), (h0, .inr (5, (fX5 h1 h2 h3 h4))), (aI k h1 10 (vv n see tm g)), (aI k h2 24 ff), (aI k h3 24 fp), (aI k h4 4 fl), (c0, .inr (4, (fX4 c1 c2 (nI cc) (nI rz) ro sd))), (aI k c1 4 wk), (aI k c2 4 (nF br))] hP hD
      clear hP hD
      obtain ⟨hP, hD⟩ := hQ9
      refine lv_iinc (v := (nI (cn2_4 + 1))) (lv' := [(3, .int (nI (cn2_4 + 1))), (4, .int (nI ii_6)), (0, .ref z0), (1, .ref h0), (2, .int (nI se9))]) hx hb dX1_comeTo_136 hl (k := 1) rfl (nI_add cn2_4 1) (by decide) rfl (fun ls hl => ?_)
      refine lv_goto (tgt := 42) hx hb dX1_comeTo_139 (by decide) ?_
      exact ih_4 _ (cn2_4 + 1, (upd pco3_6 (cn2_4 * 25 + n) x_11)) _ _ _ (by omega) ⟨rfl, ⟨by omega, fun k hk i hi => by rcases (show k = cn2_4 ∨ k < cn2_4 by omega) with e | e; rw [e]; rcases (show i = n ∨ i < n by omega) with q | q; rw [q, pk_us]; exact (by rw [ex_11, ex_10, hw_8, hw_9, xGar (see := see) (tm := tm) (ff := ff) (fp := fp) (hl9 0 (by omega)), xPass (n := n) (see := see) (tm := tm) (ff := ff) (fp := fp)]; exact pC_n); rw [pk_un (by omega)]; exact hv_6.2.2 i (by omega); rw [pk_un (by omega)]; exact hv_6.2.1 k e i hi⟩, hP, hD, hS, (lv_sub hl [0, 2, 3, 4] rfl)⟩
    · have c_7 : ¬ (n ≤ ii_6) := fun h => c_7 ((nI_leI (a := n) (b := ii_6) (by omega) (by omega)).mpr h)
      refine lv_aload_n hx hb dX1_comeTo_65 rfl (lv_at hl 2 rfl) ?_
      refine va_get (D := D) (ci := 1) (v := .ref z2) (C := RX1) (T := TX1) (N := 8) hx hb hts inX1 hown hK hP 0 rfl rfl 2 (by decide) (hts _ tw_238) (fun _ h9 => h9) rfl dX1_comeTo_66 ?_
      refine lv_iload_n hx hb dX1_comeTo_69 rfl (lv_at hl 1 rfl) ?_
      refine lv_bipush (v := 25) hx hb dX1_comeTo_70 (by decide) ?_
      refine lv_imul hx hb dX1_comeTo_72 ?_
      refine lv_ti (y := (nI (cn2_4 * 25))) (pk_mul cn2_4 25) ?_
      refine lv_iload hx hb dX1_comeTo_73 (lv_at hl 0 rfl) ?_
      refine lv_iadd hx hb dX1_comeTo_75 ?_
      refine lv_ti (y := (nI (cn2_4 * 25 + ii_6))) (nI_add (cn2_4 * 25) ii_6) ?_
      refine lv_aload_n hx hb dX1_comeTo_76 rfl (lv_at hl 3 rfl) ?_
      refine lv_aload_n hx hb dX1_comeTo_77 rfl (lv_at hl 2 rfl) ?_
      refine va_get (D := D) (ci := 1) (v := .ref c0) (C := RX1) (T := TX1) (N := 8) hx hb hts inX1 hown hK hP 0 rfl rfl 0 (by decide) (hts _ tw_235) (fun _ h9 => h9) rfl dX1_comeTo_78 ?_
      refine va_get (D := D) (ci := 4) (v := .ref c1) (C := RX4) (T := TX4) (N := 6) hx hb hts inX4 hown hK hP 8 rfl rfl 0 (by decide) (hts _ tw_174) (fun _ h9 => h9) rfl dX1_comeTo_81 ?_
      refine lv_iload_n hx hb dX1_comeTo_84 rfl (lv_at hl 1 rfl) ?_
      refine va_iald hx hb hK hP 9 1 rfl rfl (vp_in_nI (by omega) (by decide)) dX1_comeTo_85 ?_
      refine lv_ti (y := (wk cn2_4)) (by rw [nI_clamp (by omega)]) ?_
      refine lv_iconst (v := 0) hx hb dX1_comeTo_86 (by decide) ?_
      refine lv_iload hx hb dX1_comeTo_87 (lv_at hl 0 rfl) ?_
      refine ro_i (D := D) (va_runV (As := [.int (wk cn2_4), .int 0, .int (nI ii_6)]) (rest := [.int (nI (cn2_4 * 25 + ii_6)), .ref z2]) ⟨hx, hb, hml, hown, hts⟩ ((y_takingBy l D k st lo h0 h1 h2 h3 h4 n see tm g fp fl (wk cn2_4) 0 ii_6 (by first | assumption | omega) (by first | assumption | omega)) H.size) (cwV 3 hts (gV tw_827 tw_561 tw_562 tw_81 tw_563) rfl rfl rfl (by decide +kernel) ⟨Nat.le_of_ble_eq_true rfl, Nat.le_of_ble_eq_true rfl⟩) (pV hS hAlo hlo hP hK (va_Dlo hD hAlo) hZ [3, 4, 6, 7] (by decide) rfl (ci := 5) (q := (RX5, TX5, 4)) (q0 := 0) rfl rfl) rfl rfl hl.1 rfl (lv_room (Nat.le_of_ble_eq_true rfl)) dX1_comeTo_89 ⟨Nat.le_of_ble_eq_true rfl, Nat.le_of_ble_eq_true rfl⟩) hS hA hP (fun r_13 H locs hw_13 hP hS => ?_)
      try dsimp only at hw_13
      refine lv_iload hx hb dX1_comeTo_92 (lv_at hl 0 rfl) ?_
      refine lv_aload_n hx hb dX1_comeTo_94 rfl (lv_at hl 3 rfl) ?_
      refine ro_i (D := D) (va_runV (As := []) (rest := [.int (nI ii_6), .int r_13, .int (nI (cn2_4 * 25 + ii_6)), .ref z2]) ⟨hx, hb, hml, hown, hts⟩ ((y_passing l D k st lo h0 h1 h2 h3 h4 n see tm g) H.size) (cwV 0 hts (gV tw_828 tw_573 tw_574 tw_81 tw_575) rfl rfl rfl (by decide +kernel) ⟨Nat.le_of_ble_eq_true rfl, Nat.le_of_ble_eq_true rfl⟩) (pV hS hAlo hlo hP hK (va_Dlo hD hAlo) hZ [3, 4] (by decide) rfl (ci := 5) (q := (RX5, TX5, 4)) (q0 := 0) rfl rfl) rfl rfl hl.1 rfl (lv_room (Nat.le_of_ble_eq_true rfl)) dX1_comeTo_95 ⟨Nat.le_of_ble_eq_true rfl, Nat.le_of_ble_eq_true rfl⟩) hS hA hP (fun r_14 H locs hw_14 hP hS => ?_)
      try dsimp only at hw_14
      refine lv_imul hx hb dX1_comeTo_98 ?_
      refine lv_topi (fun x_15 ex_15 => ?_)
      refine lv_iadd hx hb dX1_comeTo_99 ?_
      refine lv_topi (fun x_16 ex_16 => ?_)
      refine va_iast hx hb hK hP hD hS 2 1 rfl rfl (vp_in_nI (by omega) (by decide)) dX1_comeTo_100 (fun H locs hP hD hS => ?_)
      have hQ9 := pd_mk [(z0, .inr (1, (fX1 c0 z1 z2 z3 (nI n) (nI se9) 0 0))), (aI k z1 4 (nF d_2)), (aI k z2 100 (upd pco3_6 (Int32.toNatClampNeg (nI (cn2_4 * 25 + ii_6))) x_16)), (h0, .inr (5, (fX5 h1 h2 h3 h4))), (aI k h1 10 (vv n see tm g)), (aI k h2 24 ff), (aI k h3 24 fp), (aI k h4 4 fl), (c0, .inr (4, (fX4 c1 c2 (nI cc) (nI rz) ro sd))), (aI k c1 4 wk), (aI k c2 4 (nF br))] hP hD
      clear hP hD
      obtain ⟨hP, hD⟩ := hQ9
      rw [nI_clamp (n := (cn2_4 * 25 + ii_6)) (by omega)] at hP hD
      have hQ9 := pd_mk [(z0, .inr (1, (fX1 c0 z1 z2 z3 (nI n) (nI se9) 0 0))), (aI k z1 4 (nF d_2)), (aI k z2 100 (upd pco3_6 (cn2_4 * 25 + ii_6) x_16)), (h0, .inr (5, (fX5 h1 h2 h3 h4))), (aI k h1 10 (vv n see tm g)), (aI k h2 24 ff), (aI k h3 24 fp), (aI k h4 4 fl), (c0, .inr (4, (fX4 c1 c2 (nI cc) (nI rz) ro sd))), (aI k c1 4 wk), (aI k c2 4 (nF br))] hP hD
      clear hP hD
      obtain ⟨hP, hD⟩ := hQ9
      refine lv_iinc (v := (nI (ii_6 + 1))) (lv' := [(4, .int (nI (ii_6 + 1))), (3, .int (nI cn2_4)), (0, .ref z0), (1, .ref h0), (2, .int (nI se9))]) hx hb dX1_comeTo_101 hl (k := 0) rfl (nI_add ii_6 1) (by decide) rfl (fun ls hl => ?_)
      refine lv_goto (tgt := 56) hx hb dX1_comeTo_104 (by decide) ?_
      exact ih_6 _ (ii_6 + 1, (upd pco3_6 (cn2_4 * 25 + ii_6) x_16)) _ _ _ (by omega) ⟨rfl, ⟨by omega, fun k hk i hi => (pk_un (by omega)).trans (hv_6.2.1 k hk i hi), fun i hi => by rcases (show i = ii_6 ∨ i < ii_6 by omega) with e | e; rw [e, pk_us]; exact (by rw [ex_16, ex_15, hw_13, hw_14, xTakeBy (see := see) (tm := tm) (ff := ff) (g := g) (show ii_6 < n by omega) (hl9 0 (by omega)), xPass (n := n) (see := see) (tm := tm) (ff := ff) (fp := fp)]; exact pC_i (show ii_6 < n by omega)); rw [pk_un (by omega)]; exact hv_6.2.2 i e⟩, hP, hD, hS, (lv_sub hl [0, 1, 2, 3, 4] rfl)⟩


set_option maxHeartbeats 4000000 in
set_option maxRecDepth 100000 in
theorem y_isSet_0 (l : Launch) (D : va_G) (k : Nat → ClassId) (st : Nat → Nat) (lo : Nat) (a : Nat → Nat) (rk : Nat) (lfa : Int32) (n0 : Nat) (see0 : Nat) (tm0 : Nat) (g0 : Nat → Int32) (p1 : Int32) (hn0 : n0 ≤ 24) : CRi l D k st lo yX7_isSet cX7_isSet 3 (some .boolean) ({ frames := 1, cells := 0, slots := 0, locals := 20 }) [.ref (a 0), .int 0, .int p1] [((a 0), .inr (7, (fX7 (a 1) (a 3) (a 19) (a 35) (a 40) (nI rk) lfa (a 53) (a 56) (a 63) (a 64) (a 68)))), ((a 3), .inl (k 3, 3, .inr (.inr (.inr (.inr (a3 (a 4) (a 9) (a 14))))))), ((a 4), .inr (5, (fX5 (a 5) (a 6) (a 7) (a 8)))), (aI k (a 5) 10 (vv n0 see0 tm0 g0))] (fun r => (r = 1 ∧ ∃ S : Nat, S < 2 ^ n0 ∧ p1 = nI S) ∨ (r = 0 ∧ ∀ S : Nat, S < 2 ^ n0 → ¬ p1 = nI S)) := by
  intro sz
  refine Met.ofW (cc := cX7_isSet) (maxL := 3) (ret := (some .boolean)) (by decide) rfl ?_
  intro p e s m args below meth c s₁ B hml hv
  obtain ⟨rfl, hsz, hlo, hP, hK, hDL, hZ⟩ := hv
  have hx := B.exec
  have hb := B.bytes
  have hr := B.returns
  have hts := WS_ts B.pre
  have hown : s.vm.findClass RX7 = some m.cls := findClass_of_methodNamed B.named
  have hlocks := B.notSynchronized
  subst hsz
  have hA : ∀ q : Nat, s.heap.size ≤ q → (fun q : Nat => s.heap.size ≤ q) q := fun _ h => h
  have hAlo : ∀ q : Nat, (fun q : Nat => s.heap.size ≤ q) q → lo ≤ q := fun q h => Nat.le_trans hlo h
  have hS : va_S (fun q : Nat => s.heap.size ≤ q) s.heap s.heap [] := va_S.rf
  have hl := lv_entry ([.ref (a 0), .int 0, .int p1]) (n := 3) (Nat.le_of_ble_eq_true rfl)
  rw [lg_entry_eq]
  generalize (lg_sl ([.ref (a 0), .int 0, .int p1]) ++ List.replicate (3 - (lg_sl ([.ref (a 0), .int 0, .int p1])).length) Slot.unset).toArray = ls at hl ⊢
  have hl : lv_has ls 3 [(0, .ref (a 0)), (1, .int 0), (2, .int p1)] := hl
  have hpw_9 := pw31 hn0
  refine lv_iload_n hx hb dX7_isSet_0 rfl (lv_at hl 2 rfl) ?_
  refine lv_if_lt (tgt := 23) hx hb dX7_isSet_1 (by decide) (fun c_1 => ?_) (fun c_1 => ?_)
  · refine lv_iconst (v := 0) hx hb dX7_isSet_23 (by decide) ?_
    exact W.zret (v := 0) (ty := .boolean) hx hb hr rfl (fun t ht hW => ⟨⟨0, (), rfl, .inr ⟨rfl, fun S h e => absurd c_1 (by rw [e]; exact Int32.not_lt.mpr (nI_ge0 (by omega)))⟩, trivial⟩, hS.F ht⟩) hS.2.2 dX7_isSet_24
  · obtain ⟨sv_9, hsv_9, rfl⟩ := nI_of c_1
    refine lv_iload_n hx hb dX7_isSet_4 rfl (lv_at hl 2 rfl) ?_
    refine lv_iconst (v := 1) hx hb dX7_isSet_5 (by decide) ?_
    refine lv_aload_n hx hb dX7_isSet_6 rfl (lv_at hl 0 rfl) ?_
    refine va_get (D := D) (ci := 7) (v := .ref (a 3)) (C := RX7) (T := TX7) (N := 12) hx hb hts inX7 hown hK hP 0 rfl rfl 1 (by decide) (hts _ tw_306) (fun _ h9 => h9) rfl dX7_isSet_7 ?_
    refine lv_iload_n hx hb dX7_isSet_10 rfl (lv_at hl 1 rfl) ?_
    refine va_aldq hx hb hK hP 1 3 rfl rfl (by unfold vp_in; decide) dX7_isSet_11 ?_
    refine lv_tr (y := .ref (a 4)) rfl ?_
    refine ro_i (D := D) (va_runV (As := []) (rest := [.int 1, .int (nI sv_9)]) ⟨hx, hb, hml, hown, hts⟩ ((x_doors l D k st lo (a 4) (a 5) (a 6) (a 7) (a 8) n0 see0 tm0 g0) s.heap.size) (cwV 0 hts (gV tw_580 tw_478 tw_479 tw_81 tw_480) rfl rfl rfl (by decide +kernel) ⟨Nat.le_of_ble_eq_true rfl, Nat.le_of_ble_eq_true rfl⟩) (pV hS hAlo hlo hP hK hDL hZ [2, 3] (by decide) rfl (ci := 5) (q := (RX5, TX5, 4)) (q0 := 0) rfl rfl) rfl rfl hl.1 rfl (lv_room (Nat.le_of_ble_eq_true rfl)) dX7_isSet_12 ⟨Nat.le_of_ble_eq_true rfl, Nat.le_of_ble_eq_true rfl⟩) hS hA hP (fun r_2 H locs hw_2 hP hS => ?_)
    try dsimp only at hw_2
    subst hw_2
    refine lv_ishl hx hb dX7_isSet_15 ?_
    refine lv_ti (y := (nI (2 ^ n0))) (shl25 _ (by omega)) ?_
    refine lv_icmp_ge (tgt := 23) hx hb dX7_isSet_16 (by decide) (fun c_3 => ?_) (fun c_3 => ?_)
    · have c_3 := (nI_leI (a := (2 ^ n0)) (b := sv_9) (by omega) (by omega)).mp c_3
      refine lv_iconst (v := 0) hx hb dX7_isSet_23 (by decide) ?_
      exact W.zret (v := 0) (ty := .boolean) hx hb hr rfl (fun t ht hW => ⟨⟨0, (), rfl, .inr ⟨rfl, fun S h e => by have h9 := nI_inj (by omega) (by omega) e; omega⟩, trivial⟩, hS.F ht⟩) hS.2.2 dX7_isSet_24
    · have c_3 : ¬ ((2 ^ n0) ≤ sv_9) := fun h => c_3 ((nI_leI (a := (2 ^ n0)) (b := sv_9) (by omega) (by omega)).mpr h)
      refine lv_iconst (v := 1) hx hb dX7_isSet_19 (by decide) ?_
      refine lv_goto (tgt := 24) hx hb dX7_isSet_20 (by decide) ?_
      exact W.zret (v := 1) (ty := .boolean) hx hb hr rfl (fun t ht hW => ⟨⟨1, (), rfl, .inl ⟨rfl, sv_9, by omega, rfl⟩, trivial⟩, hS.F ht⟩) hS.2.2 dX7_isSet_24


set_option maxHeartbeats 4000000 in
set_option maxRecDepth 100000 in
theorem y_isSet_1 (l : Launch) (D : va_G) (k : Nat → ClassId) (st : Nat → Nat) (lo : Nat) (a : Nat → Nat) (rk : Nat) (lfa : Int32) (n1 : Nat) (see1 : Nat) (tm1 : Nat) (g1 : Nat → Int32) (p1 : Int32) (hn1 : n1 ≤ 24) : CRi l D k st lo yX7_isSet cX7_isSet 3 (some .boolean) ({ frames := 1, cells := 0, slots := 0, locals := 20 }) [.ref (a 0), .int 1, .int p1] [((a 0), .inr (7, (fX7 (a 1) (a 3) (a 19) (a 35) (a 40) (nI rk) lfa (a 53) (a 56) (a 63) (a 64) (a 68)))), ((a 3), .inl (k 3, 3, .inr (.inr (.inr (.inr (a3 (a 4) (a 9) (a 14))))))), ((a 9), .inr (5, (fX5 (a 10) (a 11) (a 12) (a 13)))), (aI k (a 10) 10 (vv n1 see1 tm1 g1))] (fun r => (r = 1 ∧ ∃ S : Nat, S < 2 ^ n1 ∧ p1 = nI S) ∨ (r = 0 ∧ ∀ S : Nat, S < 2 ^ n1 → ¬ p1 = nI S)) := by
  intro sz
  refine Met.ofW (cc := cX7_isSet) (maxL := 3) (ret := (some .boolean)) (by decide) rfl ?_
  intro p e s m args below meth c s₁ B hml hv
  obtain ⟨rfl, hsz, hlo, hP, hK, hDL, hZ⟩ := hv
  have hx := B.exec
  have hb := B.bytes
  have hr := B.returns
  have hts := WS_ts B.pre
  have hown : s.vm.findClass RX7 = some m.cls := findClass_of_methodNamed B.named
  have hlocks := B.notSynchronized
  subst hsz
  have hA : ∀ q : Nat, s.heap.size ≤ q → (fun q : Nat => s.heap.size ≤ q) q := fun _ h => h
  have hAlo : ∀ q : Nat, (fun q : Nat => s.heap.size ≤ q) q → lo ≤ q := fun q h => Nat.le_trans hlo h
  have hS : va_S (fun q : Nat => s.heap.size ≤ q) s.heap s.heap [] := va_S.rf
  have hl := lv_entry ([.ref (a 0), .int 1, .int p1]) (n := 3) (Nat.le_of_ble_eq_true rfl)
  rw [lg_entry_eq]
  generalize (lg_sl ([.ref (a 0), .int 1, .int p1]) ++ List.replicate (3 - (lg_sl ([.ref (a 0), .int 1, .int p1])).length) Slot.unset).toArray = ls at hl ⊢
  have hl : lv_has ls 3 [(0, .ref (a 0)), (1, .int 1), (2, .int p1)] := hl
  have hpw_9 := pw31 hn1
  refine lv_iload_n hx hb dX7_isSet_0 rfl (lv_at hl 2 rfl) ?_
  refine lv_if_lt (tgt := 23) hx hb dX7_isSet_1 (by decide) (fun c_1 => ?_) (fun c_1 => ?_)
  · refine lv_iconst (v := 0) hx hb dX7_isSet_23 (by decide) ?_
    exact W.zret (v := 0) (ty := .boolean) hx hb hr rfl (fun t ht hW => ⟨⟨0, (), rfl, .inr ⟨rfl, fun S h e => absurd c_1 (by rw [e]; exact Int32.not_lt.mpr (nI_ge0 (by omega)))⟩, trivial⟩, hS.F ht⟩) hS.2.2 dX7_isSet_24
  · obtain ⟨sv_9, hsv_9, rfl⟩ := nI_of c_1
    refine lv_iload_n hx hb dX7_isSet_4 rfl (lv_at hl 2 rfl) ?_
    refine lv_iconst (v := 1) hx hb dX7_isSet_5 (by decide) ?_
    refine lv_aload_n hx hb dX7_isSet_6 rfl (lv_at hl 0 rfl) ?_
    refine va_get (D := D) (ci := 7) (v := .ref (a 3)) (C := RX7) (T := TX7) (N := 12) hx hb hts inX7 hown hK hP 0 rfl rfl 1 (by decide) (hts _ tw_306) (fun _ h9 => h9) rfl dX7_isSet_7 ?_
    refine lv_iload_n hx hb dX7_isSet_10 rfl (lv_at hl 1 rfl) ?_
    refine va_aldq hx hb hK hP 1 3 rfl rfl (by unfold vp_in; decide) dX7_isSet_11 ?_
    refine lv_tr (y := .ref (a 9)) rfl ?_
    refine ro_i (D := D) (va_runV (As := []) (rest := [.int 1, .int (nI sv_9)]) ⟨hx, hb, hml, hown, hts⟩ ((x_doors l D k st lo (a 9) (a 10) (a 11) (a 12) (a 13) n1 see1 tm1 g1) s.heap.size) (cwV 0 hts (gV tw_580 tw_478 tw_479 tw_81 tw_480) rfl rfl rfl (by decide +kernel) ⟨Nat.le_of_ble_eq_true rfl, Nat.le_of_ble_eq_true rfl⟩) (pV hS hAlo hlo hP hK hDL hZ [2, 3] (by decide) rfl (ci := 5) (q := (RX5, TX5, 4)) (q0 := 0) rfl rfl) rfl rfl hl.1 rfl (lv_room (Nat.le_of_ble_eq_true rfl)) dX7_isSet_12 ⟨Nat.le_of_ble_eq_true rfl, Nat.le_of_ble_eq_true rfl⟩) hS hA hP (fun r_2 H locs hw_2 hP hS => ?_)
    try dsimp only at hw_2
    subst hw_2
    refine lv_ishl hx hb dX7_isSet_15 ?_
    refine lv_ti (y := (nI (2 ^ n1))) (shl25 _ (by omega)) ?_
    refine lv_icmp_ge (tgt := 23) hx hb dX7_isSet_16 (by decide) (fun c_3 => ?_) (fun c_3 => ?_)
    · have c_3 := (nI_leI (a := (2 ^ n1)) (b := sv_9) (by omega) (by omega)).mp c_3
      refine lv_iconst (v := 0) hx hb dX7_isSet_23 (by decide) ?_
      exact W.zret (v := 0) (ty := .boolean) hx hb hr rfl (fun t ht hW => ⟨⟨0, (), rfl, .inr ⟨rfl, fun S h e => by have h9 := nI_inj (by omega) (by omega) e; omega⟩, trivial⟩, hS.F ht⟩) hS.2.2 dX7_isSet_24
    · have c_3 : ¬ ((2 ^ n1) ≤ sv_9) := fun h => c_3 ((nI_leI (a := (2 ^ n1)) (b := sv_9) (by omega) (by omega)).mpr h)
      refine lv_iconst (v := 1) hx hb dX7_isSet_19 (by decide) ?_
      refine lv_goto (tgt := 24) hx hb dX7_isSet_20 (by decide) ?_
      exact W.zret (v := 1) (ty := .boolean) hx hb hr rfl (fun t ht hW => ⟨⟨1, (), rfl, .inl ⟨rfl, sv_9, by omega, rfl⟩, trivial⟩, hS.F ht⟩) hS.2.2 dX7_isSet_24


set_option maxHeartbeats 4000000 in
set_option maxRecDepth 100000 in
theorem y_isSet_2 (l : Launch) (D : va_G) (k : Nat → ClassId) (st : Nat → Nat) (lo : Nat) (a : Nat → Nat) (rk : Nat) (lfa : Int32) (n2 : Nat) (see2 : Nat) (tm2 : Nat) (g2 : Nat → Int32) (p1 : Int32) (hn2 : n2 ≤ 24) : CRi l D k st lo yX7_isSet cX7_isSet 3 (some .boolean) ({ frames := 1, cells := 0, slots := 0, locals := 20 }) [.ref (a 0), .int 2, .int p1] [((a 0), .inr (7, (fX7 (a 1) (a 3) (a 19) (a 35) (a 40) (nI rk) lfa (a 53) (a 56) (a 63) (a 64) (a 68)))), ((a 3), .inl (k 3, 3, .inr (.inr (.inr (.inr (a3 (a 4) (a 9) (a 14))))))), ((a 14), .inr (5, (fX5 (a 15) (a 16) (a 17) (a 18)))), (aI k (a 15) 10 (vv n2 see2 tm2 g2))] (fun r => (r = 1 ∧ ∃ S : Nat, S < 2 ^ n2 ∧ p1 = nI S) ∨ (r = 0 ∧ ∀ S : Nat, S < 2 ^ n2 → ¬ p1 = nI S)) := by
  intro sz
  refine Met.ofW (cc := cX7_isSet) (maxL := 3) (ret := (some .boolean)) (by decide) rfl ?_
  intro p e s m args below meth c s₁ B hml hv
  obtain ⟨rfl, hsz, hlo, hP, hK, hDL, hZ⟩ := hv
  have hx := B.exec
  have hb := B.bytes
  have hr := B.returns
  have hts := WS_ts B.pre
  have hown : s.vm.findClass RX7 = some m.cls := findClass_of_methodNamed B.named
  have hlocks := B.notSynchronized
  subst hsz
  have hA : ∀ q : Nat, s.heap.size ≤ q → (fun q : Nat => s.heap.size ≤ q) q := fun _ h => h
  have hAlo : ∀ q : Nat, (fun q : Nat => s.heap.size ≤ q) q → lo ≤ q := fun q h => Nat.le_trans hlo h
  have hS : va_S (fun q : Nat => s.heap.size ≤ q) s.heap s.heap [] := va_S.rf
  have hl := lv_entry ([.ref (a 0), .int 2, .int p1]) (n := 3) (Nat.le_of_ble_eq_true rfl)
  rw [lg_entry_eq]
  generalize (lg_sl ([.ref (a 0), .int 2, .int p1]) ++ List.replicate (3 - (lg_sl ([.ref (a 0), .int 2, .int p1])).length) Slot.unset).toArray = ls at hl ⊢
  have hl : lv_has ls 3 [(0, .ref (a 0)), (1, .int 2), (2, .int p1)] := hl
  have hpw_9 := pw31 hn2
  refine lv_iload_n hx hb dX7_isSet_0 rfl (lv_at hl 2 rfl) ?_
  refine lv_if_lt (tgt := 23) hx hb dX7_isSet_1 (by decide) (fun c_1 => ?_) (fun c_1 => ?_)
  · refine lv_iconst (v := 0) hx hb dX7_isSet_23 (by decide) ?_
    exact W.zret (v := 0) (ty := .boolean) hx hb hr rfl (fun t ht hW => ⟨⟨0, (), rfl, .inr ⟨rfl, fun S h e => absurd c_1 (by rw [e]; exact Int32.not_lt.mpr (nI_ge0 (by omega)))⟩, trivial⟩, hS.F ht⟩) hS.2.2 dX7_isSet_24
  · obtain ⟨sv_9, hsv_9, rfl⟩ := nI_of c_1
    refine lv_iload_n hx hb dX7_isSet_4 rfl (lv_at hl 2 rfl) ?_
    refine lv_iconst (v := 1) hx hb dX7_isSet_5 (by decide) ?_
    refine lv_aload_n hx hb dX7_isSet_6 rfl (lv_at hl 0 rfl) ?_
    refine va_get (D := D) (ci := 7) (v := .ref (a 3)) (C := RX7) (T := TX7) (N := 12) hx hb hts inX7 hown hK hP 0 rfl rfl 1 (by decide) (hts _ tw_306) (fun _ h9 => h9) rfl dX7_isSet_7 ?_
    refine lv_iload_n hx hb dX7_isSet_10 rfl (lv_at hl 1 rfl) ?_
    refine va_aldq hx hb hK hP 1 3 rfl rfl (by unfold vp_in; decide) dX7_isSet_11 ?_
    refine lv_tr (y := .ref (a 14)) rfl ?_
    refine ro_i (D := D) (va_runV (As := []) (rest := [.int 1, .int (nI sv_9)]) ⟨hx, hb, hml, hown, hts⟩ ((x_doors l D k st lo (a 14) (a 15) (a 16) (a 17) (a 18) n2 see2 tm2 g2) s.heap.size) (cwV 0 hts (gV tw_580 tw_478 tw_479 tw_81 tw_480) rfl rfl rfl (by decide +kernel) ⟨Nat.le_of_ble_eq_true rfl, Nat.le_of_ble_eq_true rfl⟩) (pV hS hAlo hlo hP hK hDL hZ [2, 3] (by decide) rfl (ci := 5) (q := (RX5, TX5, 4)) (q0 := 0) rfl rfl) rfl rfl hl.1 rfl (lv_room (Nat.le_of_ble_eq_true rfl)) dX7_isSet_12 ⟨Nat.le_of_ble_eq_true rfl, Nat.le_of_ble_eq_true rfl⟩) hS hA hP (fun r_2 H locs hw_2 hP hS => ?_)
    try dsimp only at hw_2
    subst hw_2
    refine lv_ishl hx hb dX7_isSet_15 ?_
    refine lv_ti (y := (nI (2 ^ n2))) (shl25 _ (by omega)) ?_
    refine lv_icmp_ge (tgt := 23) hx hb dX7_isSet_16 (by decide) (fun c_3 => ?_) (fun c_3 => ?_)
    · have c_3 := (nI_leI (a := (2 ^ n2)) (b := sv_9) (by omega) (by omega)).mp c_3
      refine lv_iconst (v := 0) hx hb dX7_isSet_23 (by decide) ?_
      exact W.zret (v := 0) (ty := .boolean) hx hb hr rfl (fun t ht hW => ⟨⟨0, (), rfl, .inr ⟨rfl, fun S h e => by have h9 := nI_inj (by omega) (by omega) e; omega⟩, trivial⟩, hS.F ht⟩) hS.2.2 dX7_isSet_24
    · have c_3 : ¬ ((2 ^ n2) ≤ sv_9) := fun h => c_3 ((nI_leI (a := (2 ^ n2)) (b := sv_9) (by omega) (by omega)).mpr h)
      refine lv_iconst (v := 1) hx hb dX7_isSet_19 (by decide) ?_
      refine lv_goto (tgt := 24) hx hb dX7_isSet_20 (by decide) ?_
      exact W.zret (v := 1) (ty := .boolean) hx hb hr rfl (fun t ht hW => ⟨⟨1, (), rfl, .inl ⟨rfl, sv_9, by omega, rfl⟩, trivial⟩, hS.F ht⟩) hS.2.2 dX7_isSet_24


set_option maxHeartbeats 4000000 in
set_option maxRecDepth 100000 in
theorem y_refuseSet (l : Launch) (D : va_G) (k : Nat → ClassId) (st : Nat → Nat) (lo : Nat) (a : Nat → Nat) (rk : Nat) (lfa : Int32) (n0 : Nat) (see0 : Nat) (tm0 : Nat) (g0 : Nat → Int32) (n1 : Nat) (see1 : Nat) (tm1 : Nat) (g1 : Nat → Int32) (n2 : Nat) (see2 : Nat) (tm2 : Nat) (g2 : Nat → Int32) (pz : Int32) (p1 : Int32) (hn0 : n0 ≤ 24) (hn1 : n1 ≤ 24) (hn2 : n2 ≤ 24) : CRi l D k st lo yX7_refuseSet cX7_refuseSet 3 (some .int) ({ frames := 2, cells := 0, slots := 0, locals := 42 }) [.ref (a 0), .int pz, .int p1] [((a 0), .inr (7, (fX7 (a 1) (a 3) (a 19) (a 35) (a 40) (nI rk) lfa (a 53) (a 56) (a 63) (a 64) (a 68)))), ((a 3), .inl (k 3, 3, .inr (.inr (.inr (.inr (a3 (a 4) (a 9) (a 14))))))), ((a 4), .inr (5, (fX5 (a 5) (a 6) (a 7) (a 8)))), (aI k (a 5) 10 (vv n0 see0 tm0 g0)), ((a 9), .inr (5, (fX5 (a 10) (a 11) (a 12) (a 13)))), (aI k (a 10) 10 (vv n1 see1 tm1 g1)), ((a 14), .inr (5, (fX5 (a 15) (a 16) (a 17) (a 18)))), (aI k (a 15) 10 (vv n2 see2 tm2 g2))] (fun r => (r = 0 ∧ ((pz = 0 ∧ 0 < n0 ∧ ∃ S : Nat, S < 2 ^ n0 ∧ p1 = nI S) ∨ (pz = 1 ∧ 0 < n1 ∧ ∃ S : Nat, S < 2 ^ n1 ∧ p1 = nI S) ∨ (pz = 2 ∧ 0 < n2 ∧ ∃ S : Nat, S < 2 ^ n2 ∧ p1 = nI S))) ∨ (r = -1001 ∧ ∀ s, s < 3 → pz = nI s → ¬ 0 < d3 n0 n1 n2 s) ∨ (r = -1002 ∧ ((pz = 0 ∧ 0 < n0 ∧ ∀ S : Nat, S < 2 ^ n0 → ¬ p1 = nI S) ∨ (pz = 1 ∧ 0 < n1 ∧ ∀ S : Nat, S < 2 ^ n1 → ¬ p1 = nI S) ∨ (pz = 2 ∧ 0 < n2 ∧ ∀ S : Nat, S < 2 ^ n2 → ¬ p1 = nI S)))) := by
  intro sz
  refine Met.ofW (cc := cX7_refuseSet) (maxL := 3) (ret := (some .int)) (by decide) rfl ?_
  intro p e s m args below meth c s₁ B hml hv
  obtain ⟨rfl, hsz, hlo, hP, hK, hDL, hZ⟩ := hv
  have hx := B.exec
  have hb := B.bytes
  have hr := B.returns
  have hts := WS_ts B.pre
  have hown : s.vm.findClass RX7 = some m.cls := findClass_of_methodNamed B.named
  have hlocks := B.notSynchronized
  subst hsz
  have hA : ∀ q : Nat, s.heap.size ≤ q → (fun q : Nat => s.heap.size ≤ q) q := fun _ h => h
  have hAlo : ∀ q : Nat, (fun q : Nat => s.heap.size ≤ q) q → lo ≤ q := fun q h => Nat.le_trans hlo h
  have hS : va_S (fun q : Nat => s.heap.size ≤ q) s.heap s.heap [] := va_S.rf
  have hl := lv_entry ([.ref (a 0), .int pz, .int p1]) (n := 3) (Nat.le_of_ble_eq_true rfl)
  rw [lg_entry_eq]
  generalize (lg_sl ([.ref (a 0), .int pz, .int p1]) ++ List.replicate (3 - (lg_sl ([.ref (a 0), .int pz, .int p1])).length) Slot.unset).toArray = ls at hl ⊢
  have hl : lv_has ls 3 [(0, .ref (a 0)), (1, .int pz), (2, .int p1)] := hl
  refine lv_aload_n hx hb dX7_refuseSet_0 rfl (lv_at hl 0 rfl) ?_
  refine lv_iload_n hx hb dX7_refuseSet_1 rfl (lv_at hl 1 rfl) ?_
  refine ro_i (D := D) (va_runV (As := [.int pz]) (rest := []) ⟨hx, hb, hml, hown, hts⟩ ((y_isStreet l D k st lo a rk lfa n0 see0 tm0 g0 n1 see1 tm1 g1 n2 see2 tm2 g2 pz (by first | assumption | omega) (by first | assumption | omega) (by first | assumption | omega)) s.heap.size) (cwV 1 hts (gV tw_589 tw_591 tw_8 tw_79 tw_592) rfl rfl rfl (by decide +kernel) ⟨Nat.le_of_ble_eq_true rfl, Nat.le_of_ble_eq_true rfl⟩) (pV hS hAlo hlo hP hK hDL hZ [0, 1, 2, 3, 4, 5, 6, 7] (by decide) rfl (ci := 7) (q := (RX7, TX7, 12)) (q0 := 0) rfl rfl) rfl rfl hl.1 rfl (lv_room (Nat.le_of_ble_eq_true rfl)) dX7_refuseSet_2 ⟨Nat.le_of_ble_eq_true rfl, Nat.le_of_ble_eq_true rfl⟩) hS hA hP (fun r_1 H locs hw_1 hP hS => ?_)
  try dsimp only at hw_1
  rcases hw_1 with ⟨rfl, ⟨rfl, hw_1⟩ | ⟨rfl, hw_1⟩ | ⟨rfl, hw_1⟩⟩ | ⟨rfl, hw_1⟩
  · refine lv_if_ne (tgt := 12) hx hb dX7_refuseSet_5 (by decide) (fun _ => ?_) (fun h => absurd h (by decide))
    refine lv_aload_n hx hb dX7_refuseSet_12 rfl (lv_at hl 0 rfl) ?_
    refine lv_iload_n hx hb dX7_refuseSet_13 rfl (lv_at hl 1 rfl) ?_
    refine lv_iload_n hx hb dX7_refuseSet_14 rfl (lv_at hl 2 rfl) ?_
    refine ro_i (D := D) (va_runV (As := [.int 0, .int p1]) (rest := []) ⟨hx, hb, hml, hown, hts⟩ ((y_isSet_0 l D k st lo a rk lfa n0 see0 tm0 g0 p1 (by first | assumption | omega)) H.size) (cwV 2 hts (gV tw_817 tw_819 tw_18 tw_79 tw_820) rfl rfl rfl (by decide +kernel) ⟨Nat.le_of_ble_eq_true rfl, Nat.le_of_ble_eq_true rfl⟩) (pV hS hAlo hlo hP hK hDL hZ [0, 1, 2, 3] (by decide) rfl (ci := 7) (q := (RX7, TX7, 12)) (q0 := 0) rfl rfl) rfl rfl hl.1 rfl (lv_room (Nat.le_of_ble_eq_true rfl)) dX7_refuseSet_15 ⟨Nat.le_of_ble_eq_true rfl, Nat.le_of_ble_eq_true rfl⟩) hS hA hP (fun r_2 H locs hw_2 hP hS => ?_)
    try dsimp only at hw_2
    rcases hw_2 with ⟨rfl, se_3, hse_3, rfl⟩ | ⟨rfl, hw_2⟩
    · refine lv_if_eq (tgt := 25) hx hb dX7_refuseSet_18 (by decide) (fun h => absurd h (by decide)) (fun _ => ?_)
      refine lv_iconst (v := 0) hx hb dX7_refuseSet_21 (by decide) ?_
      refine lv_goto (tgt := 28) hx hb dX7_refuseSet_22 (by decide) ?_
      exact W.iret (v := 0) hx hb hr (fun t ht hW => ⟨⟨0, (), rfl, .inl ⟨rfl, .inl ⟨rfl, by omega, se_3, hse_3, rfl⟩⟩, trivial⟩, hS.F ht⟩) hS.2.2 dX7_refuseSet_28
    · refine lv_if_eq (tgt := 25) hx hb dX7_refuseSet_18 (by decide) (fun _ => ?_) (fun h => absurd (by decide) h)
      refine lv_sipush (v := (-1002)) hx hb dX7_refuseSet_25 (by decide) ?_
      exact W.iret (v := (-1002)) hx hb hr (fun t ht hW => ⟨⟨(-1002), (), rfl, .inr (.inr ⟨rfl, .inl ⟨rfl, by omega, hw_2⟩⟩), trivial⟩, hS.F ht⟩) hS.2.2 dX7_refuseSet_28
  · refine lv_if_ne (tgt := 12) hx hb dX7_refuseSet_5 (by decide) (fun _ => ?_) (fun h => absurd h (by decide))
    refine lv_aload_n hx hb dX7_refuseSet_12 rfl (lv_at hl 0 rfl) ?_
    refine lv_iload_n hx hb dX7_refuseSet_13 rfl (lv_at hl 1 rfl) ?_
    refine lv_iload_n hx hb dX7_refuseSet_14 rfl (lv_at hl 2 rfl) ?_
    refine ro_i (D := D) (va_runV (As := [.int 1, .int p1]) (rest := []) ⟨hx, hb, hml, hown, hts⟩ ((y_isSet_1 l D k st lo a rk lfa n1 see1 tm1 g1 p1 (by first | assumption | omega)) H.size) (cwV 2 hts (gV tw_817 tw_819 tw_18 tw_79 tw_820) rfl rfl rfl (by decide +kernel) ⟨Nat.le_of_ble_eq_true rfl, Nat.le_of_ble_eq_true rfl⟩) (pV hS hAlo hlo hP hK hDL hZ [0, 1, 4, 5] (by decide) rfl (ci := 7) (q := (RX7, TX7, 12)) (q0 := 0) rfl rfl) rfl rfl hl.1 rfl (lv_room (Nat.le_of_ble_eq_true rfl)) dX7_refuseSet_15 ⟨Nat.le_of_ble_eq_true rfl, Nat.le_of_ble_eq_true rfl⟩) hS hA hP (fun r_4 H locs hw_4 hP hS => ?_)
    try dsimp only at hw_4
    rcases hw_4 with ⟨rfl, se_5, hse_5, rfl⟩ | ⟨rfl, hw_4⟩
    · refine lv_if_eq (tgt := 25) hx hb dX7_refuseSet_18 (by decide) (fun h => absurd h (by decide)) (fun _ => ?_)
      refine lv_iconst (v := 0) hx hb dX7_refuseSet_21 (by decide) ?_
      refine lv_goto (tgt := 28) hx hb dX7_refuseSet_22 (by decide) ?_
      exact W.iret (v := 0) hx hb hr (fun t ht hW => ⟨⟨0, (), rfl, .inl ⟨rfl, .inr (.inl ⟨rfl, by omega, se_5, hse_5, rfl⟩)⟩, trivial⟩, hS.F ht⟩) hS.2.2 dX7_refuseSet_28
    · refine lv_if_eq (tgt := 25) hx hb dX7_refuseSet_18 (by decide) (fun _ => ?_) (fun h => absurd (by decide) h)
      refine lv_sipush (v := (-1002)) hx hb dX7_refuseSet_25 (by decide) ?_
      exact W.iret (v := (-1002)) hx hb hr (fun t ht hW => ⟨⟨(-1002), (), rfl, .inr (.inr ⟨rfl, .inr (.inl ⟨rfl, by omega, hw_4⟩)⟩), trivial⟩, hS.F ht⟩) hS.2.2 dX7_refuseSet_28
  · refine lv_if_ne (tgt := 12) hx hb dX7_refuseSet_5 (by decide) (fun _ => ?_) (fun h => absurd h (by decide))
    refine lv_aload_n hx hb dX7_refuseSet_12 rfl (lv_at hl 0 rfl) ?_
    refine lv_iload_n hx hb dX7_refuseSet_13 rfl (lv_at hl 1 rfl) ?_
    refine lv_iload_n hx hb dX7_refuseSet_14 rfl (lv_at hl 2 rfl) ?_
    refine ro_i (D := D) (va_runV (As := [.int 2, .int p1]) (rest := []) ⟨hx, hb, hml, hown, hts⟩ ((y_isSet_2 l D k st lo a rk lfa n2 see2 tm2 g2 p1 (by first | assumption | omega)) H.size) (cwV 2 hts (gV tw_817 tw_819 tw_18 tw_79 tw_820) rfl rfl rfl (by decide +kernel) ⟨Nat.le_of_ble_eq_true rfl, Nat.le_of_ble_eq_true rfl⟩) (pV hS hAlo hlo hP hK hDL hZ [0, 1, 6, 7] (by decide) rfl (ci := 7) (q := (RX7, TX7, 12)) (q0 := 0) rfl rfl) rfl rfl hl.1 rfl (lv_room (Nat.le_of_ble_eq_true rfl)) dX7_refuseSet_15 ⟨Nat.le_of_ble_eq_true rfl, Nat.le_of_ble_eq_true rfl⟩) hS hA hP (fun r_6 H locs hw_6 hP hS => ?_)
    try dsimp only at hw_6
    rcases hw_6 with ⟨rfl, se_7, hse_7, rfl⟩ | ⟨rfl, hw_6⟩
    · refine lv_if_eq (tgt := 25) hx hb dX7_refuseSet_18 (by decide) (fun h => absurd h (by decide)) (fun _ => ?_)
      refine lv_iconst (v := 0) hx hb dX7_refuseSet_21 (by decide) ?_
      refine lv_goto (tgt := 28) hx hb dX7_refuseSet_22 (by decide) ?_
      exact W.iret (v := 0) hx hb hr (fun t ht hW => ⟨⟨0, (), rfl, .inl ⟨rfl, .inr (.inr ⟨rfl, by omega, se_7, hse_7, rfl⟩)⟩, trivial⟩, hS.F ht⟩) hS.2.2 dX7_refuseSet_28
    · refine lv_if_eq (tgt := 25) hx hb dX7_refuseSet_18 (by decide) (fun _ => ?_) (fun h => absurd (by decide) h)
      refine lv_sipush (v := (-1002)) hx hb dX7_refuseSet_25 (by decide) ?_
      exact W.iret (v := (-1002)) hx hb hr (fun t ht hW => ⟨⟨(-1002), (), rfl, .inr (.inr ⟨rfl, .inr (.inr ⟨rfl, by omega, hw_6⟩)⟩), trivial⟩, hS.F ht⟩) hS.2.2 dX7_refuseSet_28
  · refine lv_if_ne (tgt := 12) hx hb dX7_refuseSet_5 (by decide) (fun h => absurd (by decide) h) (fun _ => ?_)
    refine lv_sipush (v := (-1001)) hx hb dX7_refuseSet_8 (by decide) ?_
    exact W.iret (v := (-1001)) hx hb hr (fun t ht hW => ⟨⟨(-1001), (), rfl, .inr (.inl ⟨rfl, hw_1⟩), trivial⟩, hS.F ht⟩) hS.2.2 dX7_refuseSet_11


set_option maxHeartbeats 4000000 in
set_option maxRecDepth 100000 in
theorem y_allRests (l : Launch) (D : va_G) (k : Nat → ClassId) (st : Nat → Nat) (lo : Nat) (a : Nat → Nat) (rk : Nat) (lfa : Int32) (n0 : Nat) (see0 : Nat) (tm0 : Nat) (g0 : Nat → Int32) (ff0 : Nat → Int32) (fp0 : Nat → Int32) (fl0 : Nat → Int32) (n1 : Nat) (see1 : Nat) (tm1 : Nat) (g1 : Nat → Int32) (ff1 : Nat → Int32) (fp1 : Nat → Int32) (fl1 : Nat → Int32) (n2 : Nat) (see2 : Nat) (tm2 : Nat) (g2 : Nat → Int32) (ff2 : Nat → Int32) (fp2 : Nat → Int32) (fl2 : Nat → Int32) (cc : Nat) (rz : Nat) (ro : Int32) (sd : Int32) (wk : Nat → Int32) (br : Nat → Nat) (pn : Int32) (pf : Int32) (pd : Int32) (pe : Int32) (pb : Nat → Nat) (pco : Nat → Int32) (pg : Nat → Int32) (p0 : Int32) (p1 : Int32) (hn0 : n0 ≤ 24) (hse0 : see0 ≤ 2) (htm0 : tm0 ≤ 3) (hn1 : n1 ≤ 24) (hse1 : see1 ≤ 2) (htm1 : tm1 ≤ 3) (hn2 : n2 ≤ 24) (hse2 : see2 ≤ 2) (htm2 : tm2 ≤ 3) (hcc : cc ≤ 4) (hbr : ∀ j, br j ≤ 24) (hpb : ∀ j, pb j ≤ 24) (hlt : ltP (d3 fl0 fl1 fl2) (d3 (sdX n0 see0 tm0 g0 ff0 fp0) (sdX n1 see1 tm1 g1 ff1 fp1) (sdX n2 see2 tm2 g2 ff2 fp2))) : CWi l D k st lo yX7_allRests cX7_allRests 4 (some .int) ({ frames := 5, cells := 0, slots := 0, locals := 120 }) 0 0 [.ref (a 0), .int p0, .int p1] [((a 0), .inr (7, (fX7 (a 1) (a 3) (a 19) (a 35) (a 40) (nI rk) lfa (a 53) (a 56) (a 63) (a 64) (a 68)))), ((a 3), .inl (k 3, 3, .inr (.inr (.inr (.inr (a3 (a 4) (a 9) (a 14))))))), ((a 4), .inr (5, (fX5 (a 5) (a 6) (a 7) (a 8)))), (aI k (a 5) 10 (vv n0 see0 tm0 g0)), (aI k (a 6) 24 ff0), (aI k (a 7) 24 fp0), (aI k (a 8) 4 fl0), ((a 9), .inr (5, (fX5 (a 10) (a 11) (a 12) (a 13)))), (aI k (a 10) 10 (vv n1 see1 tm1 g1)), (aI k (a 11) 24 ff1), (aI k (a 12) 24 fp1), (aI k (a 13) 4 fl1), ((a 14), .inr (5, (fX5 (a 15) (a 16) (a 17) (a 18)))), (aI k (a 15) 10 (vv n2 see2 tm2 g2)), (aI k (a 16) 24 ff2), (aI k (a 17) 24 fp2), (aI k (a 18) 4 fl2), ((a 53), .inr (4, (fX4 (a 54) (a 55) (nI cc) (nI rz) ro sd))), (aI k (a 54) 4 wk), (aI k (a 55) 4 (nF br)), ((a 68), .inr (1, (fX1 (a 53) (a 69) (a 70) (a 71) pn pf pd pe))), (aI k (a 69) 4 (nF pb)), (aI k (a 70) 100 pco), (aI k (a 71) 16 pg)] (fun (r : Int32) (u : Int32 × Int32 × Int32 × Int32 × (Nat → Nat) × (Nat → Int32)) => match u with | (pn_, pf_, pd_, pe_, pb_, pco_) => tqP (d3 (sdX n0 see0 tm0 g0 ff0 fp0) (sdX n1 see1 tm1 g1 ff1 fp1) (sdX n2 see2 tm2 g2 ff2 fp2)) p0 (arA p1 cc wk) r ∧ (∀ j, pb_ j ≤ 24)) (fun (u : Int32 × Int32 × Int32 × Int32 × (Nat → Nat) × (Nat → Int32)) => match u with | (pn_, pf_, pd_, pe_, pb_, pco_) => [((a 0), .inr (7, (fX7 (a 1) (a 3) (a 19) (a 35) (a 40) (nI rk) lfa (a 53) (a 56) (a 63) (a 64) (a 68)))), ((a 3), .inl (k 3, 3, .inr (.inr (.inr (.inr (a3 (a 4) (a 9) (a 14))))))), ((a 4), .inr (5, (fX5 (a 5) (a 6) (a 7) (a 8)))), (aI k (a 5) 10 (vv n0 see0 tm0 g0)), (aI k (a 6) 24 ff0), (aI k (a 7) 24 fp0), (aI k (a 8) 4 fl0), ((a 9), .inr (5, (fX5 (a 10) (a 11) (a 12) (a 13)))), (aI k (a 10) 10 (vv n1 see1 tm1 g1)), (aI k (a 11) 24 ff1), (aI k (a 12) 24 fp1), (aI k (a 13) 4 fl1), ((a 14), .inr (5, (fX5 (a 15) (a 16) (a 17) (a 18)))), (aI k (a 15) 10 (vv n2 see2 tm2 g2)), (aI k (a 16) 24 ff2), (aI k (a 17) 24 fp2), (aI k (a 18) 4 fl2), ((a 53), .inr (4, (fX4 (a 54) (a 55) (nI cc) (nI rz) ro sd))), (aI k (a 54) 4 wk), (aI k (a 55) 4 (nF br)), ((a 68), .inr (1, (fX1 (a 53) (a 69) (a 70) (a 71) pn_ pf_ pd_ pe_))), (aI k (a 69) 4 (nF pb_)), (aI k (a 70) 100 pco_), (aI k (a 71) 16 pg)]) := by
  intro sz
  refine Met.ofW (cc := cX7_allRests) (maxL := 4) (ret := (some .int)) (by decide) rfl ?_
  intro p e s m args below meth c s₁ B hml hv
  obtain ⟨rfl, hsz, hlo, hP, hK, hDL, hZ⟩ := hv
  have hx := B.exec
  have hb := B.bytes
  have hr := B.returns
  have hts := WS_ts B.pre
  have hown : s.vm.findClass RX7 = some m.cls := findClass_of_methodNamed B.named
  have hlocks := B.notSynchronized
  subst hsz
  have hD := hDL.self (sz := s.heap.size)
  have hAlo := A_lo hDL hlo
  generalize hAe : va_A [((a 0), .inr (7, (fX7 (a 1) (a 3) (a 19) (a 35) (a 40) (nI rk) lfa (a 53) (a 56) (a 63) (a 64) (a 68)))), ((a 3), .inl (k 3, 3, .inr (.inr (.inr (.inr (a3 (a 4) (a 9) (a 14))))))), ((a 4), .inr (5, (fX5 (a 5) (a 6) (a 7) (a 8)))), (aI k (a 5) 10 (vv n0 see0 tm0 g0)), (aI k (a 6) 24 ff0), (aI k (a 7) 24 fp0), (aI k (a 8) 4 fl0), ((a 9), .inr (5, (fX5 (a 10) (a 11) (a 12) (a 13)))), (aI k (a 10) 10 (vv n1 see1 tm1 g1)), (aI k (a 11) 24 ff1), (aI k (a 12) 24 fp1), (aI k (a 13) 4 fl1), ((a 14), .inr (5, (fX5 (a 15) (a 16) (a 17) (a 18)))), (aI k (a 15) 10 (vv n2 see2 tm2 g2)), (aI k (a 16) 24 ff2), (aI k (a 17) 24 fp2), (aI k (a 18) 4 fl2), ((a 53), .inr (4, (fX4 (a 54) (a 55) (nI cc) (nI rz) ro sd))), (aI k (a 54) 4 wk), (aI k (a 55) 4 (nF br)), ((a 68), .inr (1, (fX1 (a 53) (a 69) (a 70) (a 71) pn pf pd pe))), (aI k (a 69) 4 (nF pb)), (aI k (a 70) 100 pco), (aI k (a 71) 16 pg)] s.heap.size = A at hD hAlo ⊢
  have hA : ∀ q : Nat, s.heap.size ≤ q → A q := fun q h => by rw [← hAe]; exact Or.inr h
  have hS : va_S A s.heap s.heap [] := va_S.rf
  have hl := lv_entry ([.ref (a 0), .int p0, .int p1]) (n := 4) (Nat.le_of_ble_eq_true rfl)
  rw [lg_entry_eq]
  generalize (lg_sl ([.ref (a 0), .int p0, .int p1]) ++ List.replicate (4 - (lg_sl ([.ref (a 0), .int p0, .int p1])).length) Slot.unset).toArray = ls at hl ⊢
  have hl : lv_has ls 4 [(0, .ref (a 0)), (1, .int p0), (2, .int p1)] := hl
  refine lv_aload_n hx hb dX7_allRests_0 rfl (lv_at hl 0 rfl) ?_
  refine lv_iload_n hx hb dX7_allRests_1 rfl (lv_at hl 1 rfl) ?_
  refine lv_iload_n hx hb dX7_allRests_2 rfl (lv_at hl 2 rfl) ?_
  refine ro_i (D := D) (va_runV (As := [.int p0, .int p1]) (rest := []) ⟨hx, hb, hml, hown, hts⟩ ((y_refuseSet l D k st lo a rk lfa n0 see0 tm0 g0 n1 see1 tm1 g1 n2 see2 tm2 g2 p0 p1 (by first | assumption | omega) (by first | assumption | omega) (by first | assumption | omega)) s.heap.size) (cwV 2 hts (gV tw_850 tw_852 tw_21 tw_79 tw_853) rfl rfl rfl (by decide +kernel) ⟨Nat.le_of_ble_eq_true rfl, Nat.le_of_ble_eq_true rfl⟩) (pV hS hAlo hlo hP hK (va_Dlo hD hAlo) hZ [0, 1, 2, 3, 7, 8, 12, 13] (by decide) rfl (ci := 7) (q := (RX7, TX7, 12)) (q0 := 0) rfl rfl) rfl rfl hl.1 rfl (lv_room (Nat.le_of_ble_eq_true rfl)) dX7_allRests_3 ⟨Nat.le_of_ble_eq_true rfl, Nat.le_of_ble_eq_true rfl⟩) hS hA hP (fun r_1 H locs hw_1 hP hS => ?_)
  try dsimp only at hw_1
  rcases hw_1 with ⟨rfl, ⟨rfl, hq_2, se_2, hse_2, rfl⟩ | ⟨rfl, hq_2, se_2, hse_2, rfl⟩ | ⟨rfl, hq_2, se_2, hse_2, rfl⟩⟩ | ⟨rfl, hw_1⟩ | ⟨rfl, ⟨rfl, hq_2, hw_1⟩ | ⟨rfl, hq_2, hw_1⟩ | ⟨rfl, hq_2, hw_1⟩⟩
  · refine lv_istore_n (lv' := [(3, .int 0), (0, .ref (a 0)), (1, .int 0), (2, .int (nI se_2))]) hx hb dX7_allRests_6 rfl hl (by decide) rfl (fun ls hl => ?_)
    refine lv_iload_n hx hb dX7_allRests_7 rfl (lv_at hl 0 rfl) ?_
    refine lv_if_eq (tgt := 13) hx hb dX7_allRests_8 (by decide) (fun _ => ?_) (fun h => absurd (by decide) h)
    refine lv_aload_n hx hb dX7_allRests_13 rfl (lv_at hl 1 rfl) ?_
    refine va_get (D := D) (ci := 7) (v := .ref (a 53)) (C := RX7) (T := TX7) (N := 12) hx hb hts inX7 hown hK hP 0 rfl rfl 7 (by decide) (hts _ tw_312) (fun _ h9 => h9) rfl dX7_allRests_14 ?_
    refine va_get (D := D) (ci := 4) (v := .int (nI cc)) (C := RX4) (T := TX4) (N := 6) hx hb hts inX4 hown hK hP 17 rfl rfl 2 (by decide) (hts _ tw_180) (fun _ h9 => h9) rfl dX7_allRests_17 ?_
    refine lv_iconst (v := 2) hx hb dX7_allRests_20 (by decide) ?_
    refine lv_icmp_le (tgt := 28) hx hb dX7_allRests_21 (by decide) (fun c_3 => ?_) (fun c_3 => ?_)
    · have c_3 := (nI_leI (a := cc) (b := 2) (by omega) (by omega)).mp c_3
      have hpw_9 := pw31 (show n0 ≤ 24 by omega)
      refine lv_aload_n hx hb dX7_allRests_28 rfl (lv_at hl 1 rfl) ?_
      refine va_get (D := D) (ci := 7) (v := .ref (a 68)) (C := RX7) (T := TX7) (N := 12) hx hb hts inX7 hown hK hP 0 rfl rfl 11 (by decide) (hts _ tw_316) (fun _ h9 => h9) rfl dX7_allRests_29 ?_
      refine lv_aload_n hx hb dX7_allRests_32 rfl (lv_at hl 1 rfl) ?_
      refine va_get (D := D) (ci := 7) (v := .ref (a 3)) (C := RX7) (T := TX7) (N := 12) hx hb hts inX7 hown hK hP 0 rfl rfl 1 (by decide) (hts _ tw_306) (fun _ h9 => h9) rfl dX7_allRests_33 ?_
      refine lv_iload_n hx hb dX7_allRests_36 rfl (lv_at hl 2 rfl) ?_
      refine va_aldq hx hb hK hP 1 3 rfl rfl (by unfold vp_in; decide) dX7_allRests_37 ?_
      refine lv_tr (y := .ref (a 4)) rfl ?_
      refine lv_iload_n hx hb dX7_allRests_38 rfl (lv_at hl 3 rfl) ?_
      refine rw_v (D := D) (wr := [((a 0), .inr (7, (fX7 (a 1) (a 3) (a 19) (a 35) (a 40) (nI rk) lfa (a 53) (a 56) (a 63) (a 64) (a 68)))), ((a 3), .inl (k 3, 3, .inr (.inr (.inr (.inr (a3 (a 4) (a 9) (a 14))))))), ((a 9), .inr (5, (fX5 (a 10) (a 11) (a 12) (a 13)))), (aI k (a 10) 10 (vv n1 see1 tm1 g1)), (aI k (a 11) 24 ff1), (aI k (a 12) 24 fp1), (aI k (a 13) 4 fl1), ((a 14), .inr (5, (fX5 (a 15) (a 16) (a 17) (a 18)))), (aI k (a 15) 10 (vv n2 see2 tm2 g2)), (aI k (a 16) 24 ff2), (aI k (a 17) 24 fp2), (aI k (a 18) 4 fl2), (aI k (a 71) 16 pg)]) (va_runV (As := [.ref (a 4), .int (nI se_2)]) (rest := []) ⟨hx, hb, hml, hown, hts⟩ ((y_comeTo l D k st lo (a 53) (a 68) (a 69) (a 70) (a 71) pn pf pd pe pb pco (a 4) (a 5) (a 6) (a 7) (a 8) n0 see0 tm0 g0 ff0 fp0 fl0 (a 54) (a 55) cc rz ro sd wk br se_2 (by first | assumption | omega) (by first | assumption | omega) hbr hpb (hlt 0 (by omega))) H.size) (cwV 2 hts (gV tw_821 tw_822 tw_823 tw_84 tw_824) rfl rfl rfl (by decide +kernel) ⟨Nat.le_of_ble_eq_true rfl, Nat.le_of_ble_eq_true rfl⟩) (pV hS hAlo hlo hP hK (va_Dlo hD hAlo) hZ [20, 21, 22, 2, 3, 4, 5, 6, 17, 18, 19] (by decide +kernel) rfl (ci := 1) (q := (RX1, TX1, 8)) (q0 := 0) rfl rfl) rfl rfl hl.1 rfl (lv_room (Nat.le_of_ble_eq_true rfl)) dX7_allRests_39 ⟨Nat.le_of_ble_eq_true rfl, Nat.le_of_ble_eq_true rfl⟩) hS hA hP hD [20, 21, 22, 2, 3, 4, 5, 6, 17, 18, 19] [0, 1, 7, 8, 9, 10, 11, 12, 13, 14, 15, 16, 23] rfl rfl (by decide +kernel) (by decide +kernel) (fun u H locs hw_4 hP hD hS => ?_)
      obtain ⟨pb__4, pco__4⟩ := u
      have hQ9 := pd_mk [((a 0), .inr (7, (fX7 (a 1) (a 3) (a 19) (a 35) (a 40) (nI rk) lfa (a 53) (a 56) (a 63) (a 64) (a 68)))), ((a 3), .inl (k 3, 3, .inr (.inr (.inr (.inr (a3 (a 4) (a 9) (a 14))))))), ((a 9), .inr (5, (fX5 (a 10) (a 11) (a 12) (a 13)))), (aI k (a 10) 10 (vv n1 see1 tm1 g1)), (aI k (a 11) 24 ff1), (aI k (a 12) 24 fp1), (aI k (a 13) 4 fl1), ((a 14), .inr (5, (fX5 (a 15) (a 16) (a 17) (a 18)))), (aI k (a 15) 10 (vv n2 see2 tm2 g2)), (aI k (a 16) 24 ff2), (aI k (a 17) 24 fp2), (aI k (a 18) 4 fl2), (aI k (a 71) 16 pg), ((a 68), .inr (1, (fX1 (a 53) (a 69) (a 70) (a 71) (nI n0) (nI se_2) 0 0))), (aI k (a 69) 4 (nF pb__4)), (aI k (a 70) 100 pco__4), ((a 4), .inr (5, (fX5 (a 5) (a 6) (a 7) (a 8)))), (aI k (a 5) 10 (vv n0 see0 tm0 g0)), (aI k (a 6) 24 ff0), (aI k (a 7) 24 fp0), (aI k (a 8) 4 fl0), ((a 53), .inr (4, (fX4 (a 54) (a 55) (nI cc) (nI rz) ro sd))), (aI k (a 54) 4 wk), (aI k (a 55) 4 (nF br))] hP hD
      clear hP hD
      obtain ⟨hP, hD⟩ := hQ9
      try dsimp only at hw_4
      refine lv_aload_n hx hb dX7_allRests_42 rfl (lv_at hl 1 rfl) ?_
      refine va_get (D := D) (ci := 7) (v := .ref (a 68)) (C := RX7) (T := TX7) (N := 12) hx hb hts inX7 hown hK hP 0 rfl rfl 11 (by decide) (hts _ tw_316) (fun _ h9 => h9) rfl dX7_allRests_43 ?_
      refine rw_i (D := D) (wr := [((a 0), .inr (7, (fX7 (a 1) (a 3) (a 19) (a 35) (a 40) (nI rk) lfa (a 53) (a 56) (a 63) (a 64) (a 68)))), ((a 3), .inl (k 3, 3, .inr (.inr (.inr (.inr (a3 (a 4) (a 9) (a 14))))))), ((a 9), .inr (5, (fX5 (a 10) (a 11) (a 12) (a 13)))), (aI k (a 10) 10 (vv n1 see1 tm1 g1)), (aI k (a 11) 24 ff1), (aI k (a 12) 24 fp1), (aI k (a 13) 4 fl1), ((a 14), .inr (5, (fX5 (a 15) (a 16) (a 17) (a 18)))), (aI k (a 15) 10 (vv n2 see2 tm2 g2)), (aI k (a 16) 24 ff2), (aI k (a 17) 24 fp2), (aI k (a 18) 4 fl2), (aI k (a 71) 16 pg), ((a 4), .inr (5, (fX5 (a 5) (a 6) (a 7) (a 8)))), (aI k (a 5) 10 (vv n0 see0 tm0 g0)), (aI k (a 6) 24 ff0), (aI k (a 7) 24 fp0), (aI k (a 8) 4 fl0), (aI k (a 54) 4 wk), (aI k (a 55) 4 (nF br))]) (va_runV (As := []) (rest := []) ⟨hx, hb, hml, hown, hts⟩ ((y_countRests l D k st lo (a 53) (a 68) (a 69) (a 70) (a 71) n0 se_2 0 0 pb__4 pco__4 (a 54) (a 55) cc rz ro sd (by first | assumption | omega) (by first | assumption | omega) hw_4.1 (by first | assumption | omega) (by first | assumption | omega)) H.size) (cwV 0 hts (gV tw_888 tw_889 tw_890 tw_84 tw_891) rfl rfl rfl (by decide +kernel) ⟨Nat.le_of_ble_eq_true rfl, Nat.le_of_ble_eq_true rfl⟩) (pV hS hAlo hlo hP hK (va_Dlo hD hAlo) hZ [13, 14, 15, 21] (by decide) rfl (ci := 1) (q := (RX1, TX1, 8)) (q0 := 0) rfl rfl) rfl rfl hl.1 rfl (lv_room (Nat.le_of_ble_eq_true rfl)) dX7_allRests_46 ⟨Nat.le_of_ble_eq_true rfl, Nat.le_of_ble_eq_true rfl⟩) hS hA hP hD [13, 14, 15, 21] [0, 1, 2, 3, 4, 5, 6, 7, 8, 9, 10, 11, 12, 16, 17, 18, 19, 20, 22, 23] rfl rfl (by decide +kernel) (by decide +kernel) (fun r_5 u H locs hw_5 hP hD hS => ?_)
      obtain ⟨pb__5, rfl⟩ : ∃ z, z = u := ⟨_, rfl⟩
      have hQ9 := pd_mk [((a 0), .inr (7, (fX7 (a 1) (a 3) (a 19) (a 35) (a 40) (nI rk) lfa (a 53) (a 56) (a 63) (a 64) (a 68)))), ((a 3), .inl (k 3, 3, .inr (.inr (.inr (.inr (a3 (a 4) (a 9) (a 14))))))), ((a 9), .inr (5, (fX5 (a 10) (a 11) (a 12) (a 13)))), (aI k (a 10) 10 (vv n1 see1 tm1 g1)), (aI k (a 11) 24 ff1), (aI k (a 12) 24 fp1), (aI k (a 13) 4 fl1), ((a 14), .inr (5, (fX5 (a 15) (a 16) (a 17) (a 18)))), (aI k (a 15) 10 (vv n2 see2 tm2 g2)), (aI k (a 16) 24 ff2), (aI k (a 17) 24 fp2), (aI k (a 18) 4 fl2), (aI k (a 71) 16 pg), ((a 4), .inr (5, (fX5 (a 5) (a 6) (a 7) (a 8)))), (aI k (a 5) 10 (vv n0 see0 tm0 g0)), (aI k (a 6) 24 ff0), (aI k (a 7) 24 fp0), (aI k (a 8) 4 fl0), (aI k (a 54) 4 wk), (aI k (a 55) 4 (nF br)), ((a 68), .inr (1, (fX1 (a 53) (a 69) (a 70) (a 71) (nI n0) (nI se_2) 0 0))), (aI k (a 69) 4 (nF pb__5)), (aI k (a 70) 100 pco__4), ((a 53), .inr (4, (fX4 (a 54) (a 55) (nI cc) (nI rz) ro sd)))] hP hD
      clear hP hD
      obtain ⟨hP, hD⟩ := hQ9
      try dsimp only at hw_5
      obtain ⟨hP9, hD9⟩ := pd_sub [((a 0), .inr (7, (fX7 (a 1) (a 3) (a 19) (a 35) (a 40) (nI rk) lfa (a 53) (a 56) (a 63) (a 64) (a 68)))), ((a 3), .inl (k 3, 3, .inr (.inr (.inr (.inr (a3 (a 4) (a 9) (a 14))))))), ((a 4), .inr (5, (fX5 (a 5) (a 6) (a 7) (a 8)))), (aI k (a 5) 10 (vv n0 see0 tm0 g0)), (aI k (a 6) 24 ff0), (aI k (a 7) 24 fp0), (aI k (a 8) 4 fl0), ((a 9), .inr (5, (fX5 (a 10) (a 11) (a 12) (a 13)))), (aI k (a 10) 10 (vv n1 see1 tm1 g1)), (aI k (a 11) 24 ff1), (aI k (a 12) 24 fp1), (aI k (a 13) 4 fl1), ((a 14), .inr (5, (fX5 (a 15) (a 16) (a 17) (a 18)))), (aI k (a 15) 10 (vv n2 see2 tm2 g2)), (aI k (a 16) 24 ff2), (aI k (a 17) 24 fp2), (aI k (a 18) 4 fl2), ((a 53), .inr (4, (fX4 (a 54) (a 55) (nI cc) (nI rz) ro sd))), (aI k (a 54) 4 wk), (aI k (a 55) 4 (nF br)), ((a 68), .inr (1, (fX1 (a 53) (a 69) (a 70) (a 71) (nI n0) (nI se_2) 0 0))), (aI k (a 69) 4 (nF pb__5)), (aI k (a 70) 100 pco__4), (aI k (a 71) 16 pg)] [0, 1, 13, 14, 15, 16, 17, 2, 3, 4, 5, 6, 7, 8, 9, 10, 11, 23, 18, 19, 20, 21, 22, 12] hP hD (by decide +kernel) rfl
      exact W.iret (v := r_5) hx hb hr (fun t ht hW => ⟨⟨r_5, ((nI n0), (nI se_2), 0, 0, pb__5, pco__4), rfl, ⟨tq_at (s := 0) (by omega) (show 0 < n0 by omega) (show arA (nI se_2) cc wk (sdX n0 see0 tm0 g0 ff0 fp0) _ from ar_i (n := n0) rfl (by omega) hse_2 (by omega) hw_4.2 hw_5.1), hw_5.2⟩, by rw [ht]; exact hP9, hD9⟩, hS.F ht⟩) hS.2.2 dX7_allRests_49
    · have c_3 : ¬ (cc ≤ 2) := fun h => c_3 ((nI_leI (a := cc) (b := 2) (by omega) (by omega)).mpr h)
      refine lv_sipush (v := (-1003)) hx hb dX7_allRests_24 (by decide) ?_
      obtain ⟨hP9, hD9⟩ := pd_sub [((a 0), .inr (7, (fX7 (a 1) (a 3) (a 19) (a 35) (a 40) (nI rk) lfa (a 53) (a 56) (a 63) (a 64) (a 68)))), ((a 3), .inl (k 3, 3, .inr (.inr (.inr (.inr (a3 (a 4) (a 9) (a 14))))))), ((a 4), .inr (5, (fX5 (a 5) (a 6) (a 7) (a 8)))), (aI k (a 5) 10 (vv n0 see0 tm0 g0)), (aI k (a 6) 24 ff0), (aI k (a 7) 24 fp0), (aI k (a 8) 4 fl0), ((a 9), .inr (5, (fX5 (a 10) (a 11) (a 12) (a 13)))), (aI k (a 10) 10 (vv n1 see1 tm1 g1)), (aI k (a 11) 24 ff1), (aI k (a 12) 24 fp1), (aI k (a 13) 4 fl1), ((a 14), .inr (5, (fX5 (a 15) (a 16) (a 17) (a 18)))), (aI k (a 15) 10 (vv n2 see2 tm2 g2)), (aI k (a 16) 24 ff2), (aI k (a 17) 24 fp2), (aI k (a 18) 4 fl2), ((a 53), .inr (4, (fX4 (a 54) (a 55) (nI cc) (nI rz) ro sd))), (aI k (a 54) 4 wk), (aI k (a 55) 4 (nF br)), ((a 68), .inr (1, (fX1 (a 53) (a 69) (a 70) (a 71) pn pf pd pe))), (aI k (a 69) 4 (nF pb)), (aI k (a 70) 100 pco), (aI k (a 71) 16 pg)] [0, 1, 2, 3, 4, 5, 6, 7, 8, 9, 10, 11, 12, 13, 14, 15, 16, 17, 18, 19, 20, 21, 22, 23] hP hD (by decide +kernel) rfl
      exact W.iret (v := (-1003)) hx hb hr (fun t ht hW => ⟨⟨(-1003), (pn, pf, pd, pe, pb, pco), rfl, ⟨tq_at (s := 0) (by omega) (show 0 < n0 by omega) (show arA (nI se_2) cc wk (sdX n0 see0 tm0 g0 ff0 fp0) _ from ar_n hse_2 (by omega)), hpb⟩, by rw [ht]; exact hP9, hD9⟩, hS.F ht⟩) hS.2.2 dX7_allRests_27
  · refine lv_istore_n (lv' := [(3, .int 0), (0, .ref (a 0)), (1, .int 1), (2, .int (nI se_2))]) hx hb dX7_allRests_6 rfl hl (by decide) rfl (fun ls hl => ?_)
    refine lv_iload_n hx hb dX7_allRests_7 rfl (lv_at hl 0 rfl) ?_
    refine lv_if_eq (tgt := 13) hx hb dX7_allRests_8 (by decide) (fun _ => ?_) (fun h => absurd (by decide) h)
    refine lv_aload_n hx hb dX7_allRests_13 rfl (lv_at hl 1 rfl) ?_
    refine va_get (D := D) (ci := 7) (v := .ref (a 53)) (C := RX7) (T := TX7) (N := 12) hx hb hts inX7 hown hK hP 0 rfl rfl 7 (by decide) (hts _ tw_312) (fun _ h9 => h9) rfl dX7_allRests_14 ?_
    refine va_get (D := D) (ci := 4) (v := .int (nI cc)) (C := RX4) (T := TX4) (N := 6) hx hb hts inX4 hown hK hP 17 rfl rfl 2 (by decide) (hts _ tw_180) (fun _ h9 => h9) rfl dX7_allRests_17 ?_
    refine lv_iconst (v := 2) hx hb dX7_allRests_20 (by decide) ?_
    refine lv_icmp_le (tgt := 28) hx hb dX7_allRests_21 (by decide) (fun c_6 => ?_) (fun c_6 => ?_)
    · have c_6 := (nI_leI (a := cc) (b := 2) (by omega) (by omega)).mp c_6
      have hpw_9 := pw31 (show n1 ≤ 24 by omega)
      refine lv_aload_n hx hb dX7_allRests_28 rfl (lv_at hl 1 rfl) ?_
      refine va_get (D := D) (ci := 7) (v := .ref (a 68)) (C := RX7) (T := TX7) (N := 12) hx hb hts inX7 hown hK hP 0 rfl rfl 11 (by decide) (hts _ tw_316) (fun _ h9 => h9) rfl dX7_allRests_29 ?_
      refine lv_aload_n hx hb dX7_allRests_32 rfl (lv_at hl 1 rfl) ?_
      refine va_get (D := D) (ci := 7) (v := .ref (a 3)) (C := RX7) (T := TX7) (N := 12) hx hb hts inX7 hown hK hP 0 rfl rfl 1 (by decide) (hts _ tw_306) (fun _ h9 => h9) rfl dX7_allRests_33 ?_
      refine lv_iload_n hx hb dX7_allRests_36 rfl (lv_at hl 2 rfl) ?_
      refine va_aldq hx hb hK hP 1 3 rfl rfl (by unfold vp_in; decide) dX7_allRests_37 ?_
      refine lv_tr (y := .ref (a 9)) rfl ?_
      refine lv_iload_n hx hb dX7_allRests_38 rfl (lv_at hl 3 rfl) ?_
      refine rw_v (D := D) (wr := [((a 0), .inr (7, (fX7 (a 1) (a 3) (a 19) (a 35) (a 40) (nI rk) lfa (a 53) (a 56) (a 63) (a 64) (a 68)))), ((a 3), .inl (k 3, 3, .inr (.inr (.inr (.inr (a3 (a 4) (a 9) (a 14))))))), ((a 4), .inr (5, (fX5 (a 5) (a 6) (a 7) (a 8)))), (aI k (a 5) 10 (vv n0 see0 tm0 g0)), (aI k (a 6) 24 ff0), (aI k (a 7) 24 fp0), (aI k (a 8) 4 fl0), ((a 14), .inr (5, (fX5 (a 15) (a 16) (a 17) (a 18)))), (aI k (a 15) 10 (vv n2 see2 tm2 g2)), (aI k (a 16) 24 ff2), (aI k (a 17) 24 fp2), (aI k (a 18) 4 fl2), (aI k (a 71) 16 pg)]) (va_runV (As := [.ref (a 9), .int (nI se_2)]) (rest := []) ⟨hx, hb, hml, hown, hts⟩ ((y_comeTo l D k st lo (a 53) (a 68) (a 69) (a 70) (a 71) pn pf pd pe pb pco (a 9) (a 10) (a 11) (a 12) (a 13) n1 see1 tm1 g1 ff1 fp1 fl1 (a 54) (a 55) cc rz ro sd wk br se_2 (by first | assumption | omega) (by first | assumption | omega) hbr hpb (hlt 1 (by omega))) H.size) (cwV 2 hts (gV tw_821 tw_822 tw_823 tw_84 tw_824) rfl rfl rfl (by decide +kernel) ⟨Nat.le_of_ble_eq_true rfl, Nat.le_of_ble_eq_true rfl⟩) (pV hS hAlo hlo hP hK (va_Dlo hD hAlo) hZ [20, 21, 22, 7, 8, 9, 10, 11, 17, 18, 19] (by decide +kernel) rfl (ci := 1) (q := (RX1, TX1, 8)) (q0 := 0) rfl rfl) rfl rfl hl.1 rfl (lv_room (Nat.le_of_ble_eq_true rfl)) dX7_allRests_39 ⟨Nat.le_of_ble_eq_true rfl, Nat.le_of_ble_eq_true rfl⟩) hS hA hP hD [20, 21, 22, 7, 8, 9, 10, 11, 17, 18, 19] [0, 1, 2, 3, 4, 5, 6, 12, 13, 14, 15, 16, 23] rfl rfl (by decide +kernel) (by decide +kernel) (fun u H locs hw_7 hP hD hS => ?_)
      obtain ⟨pb__7, pco__7⟩ := u
      have hQ9 := pd_mk [((a 0), .inr (7, (fX7 (a 1) (a 3) (a 19) (a 35) (a 40) (nI rk) lfa (a 53) (a 56) (a 63) (a 64) (a 68)))), ((a 3), .inl (k 3, 3, .inr (.inr (.inr (.inr (a3 (a 4) (a 9) (a 14))))))), ((a 4), .inr (5, (fX5 (a 5) (a 6) (a 7) (a 8)))), (aI k (a 5) 10 (vv n0 see0 tm0 g0)), (aI k (a 6) 24 ff0), (aI k (a 7) 24 fp0), (aI k (a 8) 4 fl0), ((a 14), .inr (5, (fX5 (a 15) (a 16) (a 17) (a 18)))), (aI k (a 15) 10 (vv n2 see2 tm2 g2)), (aI k (a 16) 24 ff2), (aI k (a 17) 24 fp2), (aI k (a 18) 4 fl2), (aI k (a 71) 16 pg), ((a 68), .inr (1, (fX1 (a 53) (a 69) (a 70) (a 71) (nI n1) (nI se_2) 0 0))), (aI k (a 69) 4 (nF pb__7)), (aI k (a 70) 100 pco__7), ((a 9), .inr (5, (fX5 (a 10) (a 11) (a 12) (a 13)))), (aI k (a 10) 10 (vv n1 see1 tm1 g1)), (aI k (a 11) 24 ff1), (aI k (a 12) 24 fp1), (aI k (a 13) 4 fl1), ((a 53), .inr (4, (fX4 (a 54) (a 55) (nI cc) (nI rz) ro sd))), (aI k (a 54) 4 wk), (aI k (a 55) 4 (nF br))] hP hD
      clear hP hD
      obtain ⟨hP, hD⟩ := hQ9
      try dsimp only at hw_7
      refine lv_aload_n hx hb dX7_allRests_42 rfl (lv_at hl 1 rfl) ?_
      refine va_get (D := D) (ci := 7) (v := .ref (a 68)) (C := RX7) (T := TX7) (N := 12) hx hb hts inX7 hown hK hP 0 rfl rfl 11 (by decide) (hts _ tw_316) (fun _ h9 => h9) rfl dX7_allRests_43 ?_
      refine rw_i (D := D) (wr := [((a 0), .inr (7, (fX7 (a 1) (a 3) (a 19) (a 35) (a 40) (nI rk) lfa (a 53) (a 56) (a 63) (a 64) (a 68)))), ((a 3), .inl (k 3, 3, .inr (.inr (.inr (.inr (a3 (a 4) (a 9) (a 14))))))), ((a 4), .inr (5, (fX5 (a 5) (a 6) (a 7) (a 8)))), (aI k (a 5) 10 (vv n0 see0 tm0 g0)), (aI k (a 6) 24 ff0), (aI k (a 7) 24 fp0), (aI k (a 8) 4 fl0), ((a 14), .inr (5, (fX5 (a 15) (a 16) (a 17) (a 18)))), (aI k (a 15) 10 (vv n2 see2 tm2 g2)), (aI k (a 16) 24 ff2), (aI k (a 17) 24 fp2), (aI k (a 18) 4 fl2), (aI k (a 71) 16 pg), ((a 9), .inr (5, (fX5 (a 10) (a 11) (a 12) (a 13)))), (aI k (a 10) 10 (vv n1 see1 tm1 g1)), (aI k (a 11) 24 ff1), (aI k (a 12) 24 fp1), (aI k (a 13) 4 fl1), (aI k (a 54) 4 wk), (aI k (a 55) 4 (nF br))]) (va_runV (As := []) (rest := []) ⟨hx, hb, hml, hown, hts⟩ ((y_countRests l D k st lo (a 53) (a 68) (a 69) (a 70) (a 71) n1 se_2 0 0 pb__7 pco__7 (a 54) (a 55) cc rz ro sd (by first | assumption | omega) (by first | assumption | omega) hw_7.1 (by first | assumption | omega) (by first | assumption | omega)) H.size) (cwV 0 hts (gV tw_888 tw_889 tw_890 tw_84 tw_891) rfl rfl rfl (by decide +kernel) ⟨Nat.le_of_ble_eq_true rfl, Nat.le_of_ble_eq_true rfl⟩) (pV hS hAlo hlo hP hK (va_Dlo hD hAlo) hZ [13, 14, 15, 21] (by decide) rfl (ci := 1) (q := (RX1, TX1, 8)) (q0 := 0) rfl rfl) rfl rfl hl.1 rfl (lv_room (Nat.le_of_ble_eq_true rfl)) dX7_allRests_46 ⟨Nat.le_of_ble_eq_true rfl, Nat.le_of_ble_eq_true rfl⟩) hS hA hP hD [13, 14, 15, 21] [0, 1, 2, 3, 4, 5, 6, 7, 8, 9, 10, 11, 12, 16, 17, 18, 19, 20, 22, 23] rfl rfl (by decide +kernel) (by decide +kernel) (fun r_8 u H locs hw_8 hP hD hS => ?_)
      obtain ⟨pb__8, rfl⟩ : ∃ z, z = u := ⟨_, rfl⟩
      have hQ9 := pd_mk [((a 0), .inr (7, (fX7 (a 1) (a 3) (a 19) (a 35) (a 40) (nI rk) lfa (a 53) (a 56) (a 63) (a 64) (a 68)))), ((a 3), .inl (k 3, 3, .inr (.inr (.inr (.inr (a3 (a 4) (a 9) (a 14))))))), ((a 4), .inr (5, (fX5 (a 5) (a 6) (a 7) (a 8)))), (aI k (a 5) 10 (vv n0 see0 tm0 g0)), (aI k (a 6) 24 ff0), (aI k (a 7) 24 fp0), (aI k (a 8) 4 fl0), ((a 14), .inr (5, (fX5 (a 15) (a 16) (a 17) (a 18)))), (aI k (a 15) 10 (vv n2 see2 tm2 g2)), (aI k (a 16) 24 ff2), (aI k (a 17) 24 fp2), (aI k (a 18) 4 fl2), (aI k (a 71) 16 pg), ((a 9), .inr (5, (fX5 (a 10) (a 11) (a 12) (a 13)))), (aI k (a 10) 10 (vv n1 see1 tm1 g1)), (aI k (a 11) 24 ff1), (aI k (a 12) 24 fp1), (aI k (a 13) 4 fl1), (aI k (a 54) 4 wk), (aI k (a 55) 4 (nF br)), ((a 68), .inr (1, (fX1 (a 53) (a 69) (a 70) (a 71) (nI n1) (nI se_2) 0 0))), (aI k (a 69) 4 (nF pb__8)), (aI k (a 70) 100 pco__7), ((a 53), .inr (4, (fX4 (a 54) (a 55) (nI cc) (nI rz) ro sd)))] hP hD
      clear hP hD
      obtain ⟨hP, hD⟩ := hQ9
      try dsimp only at hw_8
      obtain ⟨hP9, hD9⟩ := pd_sub [((a 0), .inr (7, (fX7 (a 1) (a 3) (a 19) (a 35) (a 40) (nI rk) lfa (a 53) (a 56) (a 63) (a 64) (a 68)))), ((a 3), .inl (k 3, 3, .inr (.inr (.inr (.inr (a3 (a 4) (a 9) (a 14))))))), ((a 4), .inr (5, (fX5 (a 5) (a 6) (a 7) (a 8)))), (aI k (a 5) 10 (vv n0 see0 tm0 g0)), (aI k (a 6) 24 ff0), (aI k (a 7) 24 fp0), (aI k (a 8) 4 fl0), ((a 9), .inr (5, (fX5 (a 10) (a 11) (a 12) (a 13)))), (aI k (a 10) 10 (vv n1 see1 tm1 g1)), (aI k (a 11) 24 ff1), (aI k (a 12) 24 fp1), (aI k (a 13) 4 fl1), ((a 14), .inr (5, (fX5 (a 15) (a 16) (a 17) (a 18)))), (aI k (a 15) 10 (vv n2 see2 tm2 g2)), (aI k (a 16) 24 ff2), (aI k (a 17) 24 fp2), (aI k (a 18) 4 fl2), ((a 53), .inr (4, (fX4 (a 54) (a 55) (nI cc) (nI rz) ro sd))), (aI k (a 54) 4 wk), (aI k (a 55) 4 (nF br)), ((a 68), .inr (1, (fX1 (a 53) (a 69) (a 70) (a 71) (nI n1) (nI se_2) 0 0))), (aI k (a 69) 4 (nF pb__8)), (aI k (a 70) 100 pco__7), (aI k (a 71) 16 pg)] [0, 1, 2, 3, 4, 5, 6, 13, 14, 15, 16, 17, 7, 8, 9, 10, 11, 23, 18, 19, 20, 21, 22, 12] hP hD (by decide +kernel) rfl
      exact W.iret (v := r_8) hx hb hr (fun t ht hW => ⟨⟨r_8, ((nI n1), (nI se_2), 0, 0, pb__8, pco__7), rfl, ⟨tq_at (s := 1) (by omega) (show 0 < n1 by omega) (show arA (nI se_2) cc wk (sdX n1 see1 tm1 g1 ff1 fp1) _ from ar_i (n := n1) rfl (by omega) hse_2 (by omega) hw_7.2 hw_8.1), hw_8.2⟩, by rw [ht]; exact hP9, hD9⟩, hS.F ht⟩) hS.2.2 dX7_allRests_49
    · have c_6 : ¬ (cc ≤ 2) := fun h => c_6 ((nI_leI (a := cc) (b := 2) (by omega) (by omega)).mpr h)
      refine lv_sipush (v := (-1003)) hx hb dX7_allRests_24 (by decide) ?_
      obtain ⟨hP9, hD9⟩ := pd_sub [((a 0), .inr (7, (fX7 (a 1) (a 3) (a 19) (a 35) (a 40) (nI rk) lfa (a 53) (a 56) (a 63) (a 64) (a 68)))), ((a 3), .inl (k 3, 3, .inr (.inr (.inr (.inr (a3 (a 4) (a 9) (a 14))))))), ((a 4), .inr (5, (fX5 (a 5) (a 6) (a 7) (a 8)))), (aI k (a 5) 10 (vv n0 see0 tm0 g0)), (aI k (a 6) 24 ff0), (aI k (a 7) 24 fp0), (aI k (a 8) 4 fl0), ((a 9), .inr (5, (fX5 (a 10) (a 11) (a 12) (a 13)))), (aI k (a 10) 10 (vv n1 see1 tm1 g1)), (aI k (a 11) 24 ff1), (aI k (a 12) 24 fp1), (aI k (a 13) 4 fl1), ((a 14), .inr (5, (fX5 (a 15) (a 16) (a 17) (a 18)))), (aI k (a 15) 10 (vv n2 see2 tm2 g2)), (aI k (a 16) 24 ff2), (aI k (a 17) 24 fp2), (aI k (a 18) 4 fl2), ((a 53), .inr (4, (fX4 (a 54) (a 55) (nI cc) (nI rz) ro sd))), (aI k (a 54) 4 wk), (aI k (a 55) 4 (nF br)), ((a 68), .inr (1, (fX1 (a 53) (a 69) (a 70) (a 71) pn pf pd pe))), (aI k (a 69) 4 (nF pb)), (aI k (a 70) 100 pco), (aI k (a 71) 16 pg)] [0, 1, 2, 3, 4, 5, 6, 7, 8, 9, 10, 11, 12, 13, 14, 15, 16, 17, 18, 19, 20, 21, 22, 23] hP hD (by decide +kernel) rfl
      exact W.iret (v := (-1003)) hx hb hr (fun t ht hW => ⟨⟨(-1003), (pn, pf, pd, pe, pb, pco), rfl, ⟨tq_at (s := 1) (by omega) (show 0 < n1 by omega) (show arA (nI se_2) cc wk (sdX n1 see1 tm1 g1 ff1 fp1) _ from ar_n hse_2 (by omega)), hpb⟩, by rw [ht]; exact hP9, hD9⟩, hS.F ht⟩) hS.2.2 dX7_allRests_27
  · refine lv_istore_n (lv' := [(3, .int 0), (0, .ref (a 0)), (1, .int 2), (2, .int (nI se_2))]) hx hb dX7_allRests_6 rfl hl (by decide) rfl (fun ls hl => ?_)
    refine lv_iload_n hx hb dX7_allRests_7 rfl (lv_at hl 0 rfl) ?_
    refine lv_if_eq (tgt := 13) hx hb dX7_allRests_8 (by decide) (fun _ => ?_) (fun h => absurd (by decide) h)
    refine lv_aload_n hx hb dX7_allRests_13 rfl (lv_at hl 1 rfl) ?_
    refine va_get (D := D) (ci := 7) (v := .ref (a 53)) (C := RX7) (T := TX7) (N := 12) hx hb hts inX7 hown hK hP 0 rfl rfl 7 (by decide) (hts _ tw_312) (fun _ h9 => h9) rfl dX7_allRests_14 ?_
    refine va_get (D := D) (ci := 4) (v := .int (nI cc)) (C := RX4) (T := TX4) (N := 6) hx hb hts inX4 hown hK hP 17 rfl rfl 2 (by decide) (hts _ tw_180) (fun _ h9 => h9) rfl dX7_allRests_17 ?_
    refine lv_iconst (v := 2) hx hb dX7_allRests_20 (by decide) ?_
    refine lv_icmp_le (tgt := 28) hx hb dX7_allRests_21 (by decide) (fun c_9 => ?_) (fun c_9 => ?_)
    · have c_9 := (nI_leI (a := cc) (b := 2) (by omega) (by omega)).mp c_9
      have hpw_9 := pw31 (show n2 ≤ 24 by omega)
      refine lv_aload_n hx hb dX7_allRests_28 rfl (lv_at hl 1 rfl) ?_
      refine va_get (D := D) (ci := 7) (v := .ref (a 68)) (C := RX7) (T := TX7) (N := 12) hx hb hts inX7 hown hK hP 0 rfl rfl 11 (by decide) (hts _ tw_316) (fun _ h9 => h9) rfl dX7_allRests_29 ?_
      refine lv_aload_n hx hb dX7_allRests_32 rfl (lv_at hl 1 rfl) ?_
      refine va_get (D := D) (ci := 7) (v := .ref (a 3)) (C := RX7) (T := TX7) (N := 12) hx hb hts inX7 hown hK hP 0 rfl rfl 1 (by decide) (hts _ tw_306) (fun _ h9 => h9) rfl dX7_allRests_33 ?_
      refine lv_iload_n hx hb dX7_allRests_36 rfl (lv_at hl 2 rfl) ?_
      refine va_aldq hx hb hK hP 1 3 rfl rfl (by unfold vp_in; decide) dX7_allRests_37 ?_
      refine lv_tr (y := .ref (a 14)) rfl ?_
      refine lv_iload_n hx hb dX7_allRests_38 rfl (lv_at hl 3 rfl) ?_
      refine rw_v (D := D) (wr := [((a 0), .inr (7, (fX7 (a 1) (a 3) (a 19) (a 35) (a 40) (nI rk) lfa (a 53) (a 56) (a 63) (a 64) (a 68)))), ((a 3), .inl (k 3, 3, .inr (.inr (.inr (.inr (a3 (a 4) (a 9) (a 14))))))), ((a 4), .inr (5, (fX5 (a 5) (a 6) (a 7) (a 8)))), (aI k (a 5) 10 (vv n0 see0 tm0 g0)), (aI k (a 6) 24 ff0), (aI k (a 7) 24 fp0), (aI k (a 8) 4 fl0), ((a 9), .inr (5, (fX5 (a 10) (a 11) (a 12) (a 13)))), (aI k (a 10) 10 (vv n1 see1 tm1 g1)), (aI k (a 11) 24 ff1), (aI k (a 12) 24 fp1), (aI k (a 13) 4 fl1), (aI k (a 71) 16 pg)]) (va_runV (As := [.ref (a 14), .int (nI se_2)]) (rest := []) ⟨hx, hb, hml, hown, hts⟩ ((y_comeTo l D k st lo (a 53) (a 68) (a 69) (a 70) (a 71) pn pf pd pe pb pco (a 14) (a 15) (a 16) (a 17) (a 18) n2 see2 tm2 g2 ff2 fp2 fl2 (a 54) (a 55) cc rz ro sd wk br se_2 (by first | assumption | omega) (by first | assumption | omega) hbr hpb (hlt 2 (by omega))) H.size) (cwV 2 hts (gV tw_821 tw_822 tw_823 tw_84 tw_824) rfl rfl rfl (by decide +kernel) ⟨Nat.le_of_ble_eq_true rfl, Nat.le_of_ble_eq_true rfl⟩) (pV hS hAlo hlo hP hK (va_Dlo hD hAlo) hZ [20, 21, 22, 12, 13, 14, 15, 16, 17, 18, 19] (by decide +kernel) rfl (ci := 1) (q := (RX1, TX1, 8)) (q0 := 0) rfl rfl) rfl rfl hl.1 rfl (lv_room (Nat.le_of_ble_eq_true rfl)) dX7_allRests_39 ⟨Nat.le_of_ble_eq_true rfl, Nat.le_of_ble_eq_true rfl⟩) hS hA hP hD [20, 21, 22, 12, 13, 14, 15, 16, 17, 18, 19] [0, 1, 2, 3, 4, 5, 6, 7, 8, 9, 10, 11, 23] rfl rfl (by decide +kernel) (by decide +kernel) (fun u H locs hw_10 hP hD hS => ?_)
      obtain ⟨pb__10, pco__10⟩ := u
      have hQ9 := pd_mk [((a 0), .inr (7, (fX7 (a 1) (a 3) (a 19) (a 35) (a 40) (nI rk) lfa (a 53) (a 56) (a 63) (a 64) (a 68)))), ((a 3), .inl (k 3, 3, .inr (.inr (.inr (.inr (a3 (a 4) (a 9) (a 14))))))), ((a 4), .inr (5, (fX5 (a 5) (a 6) (a 7) (a 8)))), (aI k (a 5) 10 (vv n0 see0 tm0 g0)), (aI k (a 6) 24 ff0), (aI k (a 7) 24 fp0), (aI k (a 8) 4 fl0), ((a 9), .inr (5, (fX5 (a 10) (a 11) (a 12) (a 13)))), (aI k (a 10) 10 (vv n1 see1 tm1 g1)), (aI k (a 11) 24 ff1), (aI k (a 12) 24 fp1), (aI k (a 13) 4 fl1), (aI k (a 71) 16 pg), ((a 68), .inr (1, (fX1 (a 53) (a 69) (a 70) (a 71) (nI n2) (nI se_2) 0 0))), (aI k (a 69) 4 (nF pb__10)), (aI k (a 70) 100 pco__10), ((a 14), .inr (5, (fX5 (a 15) (a 16) (a 17) (a 18)))), (aI k (a 15) 10 (vv n2 see2 tm2 g2)), (aI k (a 16) 24 ff2), (aI k (a 17) 24 fp2), (aI k (a 18) 4 fl2), ((a 53), .inr (4, (fX4 (a 54) (a 55) (nI cc) (nI rz) ro sd))), (aI k (a 54) 4 wk), (aI k (a 55) 4 (nF br))] hP hD
      clear hP hD
      obtain ⟨hP, hD⟩ := hQ9
      try dsimp only at hw_10
      refine lv_aload_n hx hb dX7_allRests_42 rfl (lv_at hl 1 rfl) ?_
      refine va_get (D := D) (ci := 7) (v := .ref (a 68)) (C := RX7) (T := TX7) (N := 12) hx hb hts inX7 hown hK hP 0 rfl rfl 11 (by decide) (hts _ tw_316) (fun _ h9 => h9) rfl dX7_allRests_43 ?_
      refine rw_i (D := D) (wr := [((a 0), .inr (7, (fX7 (a 1) (a 3) (a 19) (a 35) (a 40) (nI rk) lfa (a 53) (a 56) (a 63) (a 64) (a 68)))), ((a 3), .inl (k 3, 3, .inr (.inr (.inr (.inr (a3 (a 4) (a 9) (a 14))))))), ((a 4), .inr (5, (fX5 (a 5) (a 6) (a 7) (a 8)))), (aI k (a 5) 10 (vv n0 see0 tm0 g0)), (aI k (a 6) 24 ff0), (aI k (a 7) 24 fp0), (aI k (a 8) 4 fl0), ((a 9), .inr (5, (fX5 (a 10) (a 11) (a 12) (a 13)))), (aI k (a 10) 10 (vv n1 see1 tm1 g1)), (aI k (a 11) 24 ff1), (aI k (a 12) 24 fp1), (aI k (a 13) 4 fl1), (aI k (a 71) 16 pg), ((a 14), .inr (5, (fX5 (a 15) (a 16) (a 17) (a 18)))), (aI k (a 15) 10 (vv n2 see2 tm2 g2)), (aI k (a 16) 24 ff2), (aI k (a 17) 24 fp2), (aI k (a 18) 4 fl2), (aI k (a 54) 4 wk), (aI k (a 55) 4 (nF br))]) (va_runV (As := []) (rest := []) ⟨hx, hb, hml, hown, hts⟩ ((y_countRests l D k st lo (a 53) (a 68) (a 69) (a 70) (a 71) n2 se_2 0 0 pb__10 pco__10 (a 54) (a 55) cc rz ro sd (by first | assumption | omega) (by first | assumption | omega) hw_10.1 (by first | assumption | omega) (by first | assumption | omega)) H.size) (cwV 0 hts (gV tw_888 tw_889 tw_890 tw_84 tw_891) rfl rfl rfl (by decide +kernel) ⟨Nat.le_of_ble_eq_true rfl, Nat.le_of_ble_eq_true rfl⟩) (pV hS hAlo hlo hP hK (va_Dlo hD hAlo) hZ [13, 14, 15, 21] (by decide) rfl (ci := 1) (q := (RX1, TX1, 8)) (q0 := 0) rfl rfl) rfl rfl hl.1 rfl (lv_room (Nat.le_of_ble_eq_true rfl)) dX7_allRests_46 ⟨Nat.le_of_ble_eq_true rfl, Nat.le_of_ble_eq_true rfl⟩) hS hA hP hD [13, 14, 15, 21] [0, 1, 2, 3, 4, 5, 6, 7, 8, 9, 10, 11, 12, 16, 17, 18, 19, 20, 22, 23] rfl rfl (by decide +kernel) (by decide +kernel) (fun r_11 u H locs hw_11 hP hD hS => ?_)
      obtain ⟨pb__11, rfl⟩ : ∃ z, z = u := ⟨_, rfl⟩
      have hQ9 := pd_mk [((a 0), .inr (7, (fX7 (a 1) (a 3) (a 19) (a 35) (a 40) (nI rk) lfa (a 53) (a 56) (a 63) (a 64) (a 68)))), ((a 3), .inl (k 3, 3, .inr (.inr (.inr (.inr (a3 (a 4) (a 9) (a 14))))))), ((a 4), .inr (5, (fX5 (a 5) (a 6) (a 7) (a 8)))), (aI k (a 5) 10 (vv n0 see0 tm0 g0)), (aI k (a 6) 24 ff0), (aI k (a 7) 24 fp0), (aI k (a 8) 4 fl0), ((a 9), .inr (5, (fX5 (a 10) (a 11) (a 12) (a 13)))), (aI k (a 10) 10 (vv n1 see1 tm1 g1)), (aI k (a 11) 24 ff1), (aI k (a 12) 24 fp1), (aI k (a 13) 4 fl1), (aI k (a 71) 16 pg), ((a 14), .inr (5, (fX5 (a 15) (a 16) (a 17) (a 18)))), (aI k (a 15) 10 (vv n2 see2 tm2 g2)), (aI k (a 16) 24 ff2), (aI k (a 17) 24 fp2), (aI k (a 18) 4 fl2), (aI k (a 54) 4 wk), (aI k (a 55) 4 (nF br)), ((a 68), .inr (1, (fX1 (a 53) (a 69) (a 70) (a 71) (nI n2) (nI se_2) 0 0))), (aI k (a 69) 4 (nF pb__11)), (aI k (a 70) 100 pco__10), ((a 53), .inr (4, (fX4 (a 54) (a 55) (nI cc) (nI rz) ro sd)))] hP hD
      clear hP hD
      obtain ⟨hP, hD⟩ := hQ9
      try dsimp only at hw_11
      obtain ⟨hP9, hD9⟩ := pd_sub [((a 0), .inr (7, (fX7 (a 1) (a 3) (a 19) (a 35) (a 40) (nI rk) lfa (a 53) (a 56) (a 63) (a 64) (a 68)))), ((a 3), .inl (k 3, 3, .inr (.inr (.inr (.inr (a3 (a 4) (a 9) (a 14))))))), ((a 4), .inr (5, (fX5 (a 5) (a 6) (a 7) (a 8)))), (aI k (a 5) 10 (vv n0 see0 tm0 g0)), (aI k (a 6) 24 ff0), (aI k (a 7) 24 fp0), (aI k (a 8) 4 fl0), ((a 9), .inr (5, (fX5 (a 10) (a 11) (a 12) (a 13)))), (aI k (a 10) 10 (vv n1 see1 tm1 g1)), (aI k (a 11) 24 ff1), (aI k (a 12) 24 fp1), (aI k (a 13) 4 fl1), ((a 14), .inr (5, (fX5 (a 15) (a 16) (a 17) (a 18)))), (aI k (a 15) 10 (vv n2 see2 tm2 g2)), (aI k (a 16) 24 ff2), (aI k (a 17) 24 fp2), (aI k (a 18) 4 fl2), ((a 53), .inr (4, (fX4 (a 54) (a 55) (nI cc) (nI rz) ro sd))), (aI k (a 54) 4 wk), (aI k (a 55) 4 (nF br)), ((a 68), .inr (1, (fX1 (a 53) (a 69) (a 70) (a 71) (nI n2) (nI se_2) 0 0))), (aI k (a 69) 4 (nF pb__11)), (aI k (a 70) 100 pco__10), (aI k (a 71) 16 pg)] [0, 1, 2, 3, 4, 5, 6, 7, 8, 9, 10, 11, 13, 14, 15, 16, 17, 23, 18, 19, 20, 21, 22, 12] hP hD (by decide +kernel) rfl
      exact W.iret (v := r_11) hx hb hr (fun t ht hW => ⟨⟨r_11, ((nI n2), (nI se_2), 0, 0, pb__11, pco__10), rfl, ⟨tq_at (s := 2) (by omega) (show 0 < n2 by omega) (show arA (nI se_2) cc wk (sdX n2 see2 tm2 g2 ff2 fp2) _ from ar_i (n := n2) rfl (by omega) hse_2 (by omega) hw_10.2 hw_11.1), hw_11.2⟩, by rw [ht]; exact hP9, hD9⟩, hS.F ht⟩) hS.2.2 dX7_allRests_49
    · have c_9 : ¬ (cc ≤ 2) := fun h => c_9 ((nI_leI (a := cc) (b := 2) (by omega) (by omega)).mpr h)
      refine lv_sipush (v := (-1003)) hx hb dX7_allRests_24 (by decide) ?_
      obtain ⟨hP9, hD9⟩ := pd_sub [((a 0), .inr (7, (fX7 (a 1) (a 3) (a 19) (a 35) (a 40) (nI rk) lfa (a 53) (a 56) (a 63) (a 64) (a 68)))), ((a 3), .inl (k 3, 3, .inr (.inr (.inr (.inr (a3 (a 4) (a 9) (a 14))))))), ((a 4), .inr (5, (fX5 (a 5) (a 6) (a 7) (a 8)))), (aI k (a 5) 10 (vv n0 see0 tm0 g0)), (aI k (a 6) 24 ff0), (aI k (a 7) 24 fp0), (aI k (a 8) 4 fl0), ((a 9), .inr (5, (fX5 (a 10) (a 11) (a 12) (a 13)))), (aI k (a 10) 10 (vv n1 see1 tm1 g1)), (aI k (a 11) 24 ff1), (aI k (a 12) 24 fp1), (aI k (a 13) 4 fl1), ((a 14), .inr (5, (fX5 (a 15) (a 16) (a 17) (a 18)))), (aI k (a 15) 10 (vv n2 see2 tm2 g2)), (aI k (a 16) 24 ff2), (aI k (a 17) 24 fp2), (aI k (a 18) 4 fl2), ((a 53), .inr (4, (fX4 (a 54) (a 55) (nI cc) (nI rz) ro sd))), (aI k (a 54) 4 wk), (aI k (a 55) 4 (nF br)), ((a 68), .inr (1, (fX1 (a 53) (a 69) (a 70) (a 71) pn pf pd pe))), (aI k (a 69) 4 (nF pb)), (aI k (a 70) 100 pco), (aI k (a 71) 16 pg)] [0, 1, 2, 3, 4, 5, 6, 7, 8, 9, 10, 11, 12, 13, 14, 15, 16, 17, 18, 19, 20, 21, 22, 23] hP hD (by decide +kernel) rfl
      exact W.iret (v := (-1003)) hx hb hr (fun t ht hW => ⟨⟨(-1003), (pn, pf, pd, pe, pb, pco), rfl, ⟨tq_at (s := 2) (by omega) (show 0 < n2 by omega) (show arA (nI se_2) cc wk (sdX n2 see2 tm2 g2 ff2 fp2) _ from ar_n hse_2 (by omega)), hpb⟩, by rw [ht]; exact hP9, hD9⟩, hS.F ht⟩) hS.2.2 dX7_allRests_27
  · refine lv_istore_n (lv' := [(3, .int (-1001)), (0, .ref (a 0)), (1, .int p0), (2, .int p1)]) hx hb dX7_allRests_6 rfl hl (by decide) rfl (fun ls hl => ?_)
    refine lv_iload_n hx hb dX7_allRests_7 rfl (lv_at hl 0 rfl) ?_
    refine lv_if_eq (tgt := 13) hx hb dX7_allRests_8 (by decide) (fun h => absurd h (by decide)) (fun _ => ?_)
    refine lv_iload_n hx hb dX7_allRests_11 rfl (lv_at hl 0 rfl) ?_
    obtain ⟨hP9, hD9⟩ := pd_sub [((a 0), .inr (7, (fX7 (a 1) (a 3) (a 19) (a 35) (a 40) (nI rk) lfa (a 53) (a 56) (a 63) (a 64) (a 68)))), ((a 3), .inl (k 3, 3, .inr (.inr (.inr (.inr (a3 (a 4) (a 9) (a 14))))))), ((a 4), .inr (5, (fX5 (a 5) (a 6) (a 7) (a 8)))), (aI k (a 5) 10 (vv n0 see0 tm0 g0)), (aI k (a 6) 24 ff0), (aI k (a 7) 24 fp0), (aI k (a 8) 4 fl0), ((a 9), .inr (5, (fX5 (a 10) (a 11) (a 12) (a 13)))), (aI k (a 10) 10 (vv n1 see1 tm1 g1)), (aI k (a 11) 24 ff1), (aI k (a 12) 24 fp1), (aI k (a 13) 4 fl1), ((a 14), .inr (5, (fX5 (a 15) (a 16) (a 17) (a 18)))), (aI k (a 15) 10 (vv n2 see2 tm2 g2)), (aI k (a 16) 24 ff2), (aI k (a 17) 24 fp2), (aI k (a 18) 4 fl2), ((a 53), .inr (4, (fX4 (a 54) (a 55) (nI cc) (nI rz) ro sd))), (aI k (a 54) 4 wk), (aI k (a 55) 4 (nF br)), ((a 68), .inr (1, (fX1 (a 53) (a 69) (a 70) (a 71) pn pf pd pe))), (aI k (a 69) 4 (nF pb)), (aI k (a 70) 100 pco), (aI k (a 71) 16 pg)] [0, 1, 2, 3, 4, 5, 6, 7, 8, 9, 10, 11, 12, 13, 14, 15, 16, 17, 18, 19, 20, 21, 22, 23] hP hD (by decide +kernel) rfl
    exact W.iret (v := (-1001)) hx hb hr (fun t ht hW => ⟨⟨(-1001), (pn, pf, pd, pe, pb, pco), rfl, ⟨tq_no (fun s h1 h2 h3 => hw_1 s h1 h2 (by rw [d3_n] at h3; exact h3)), hpb⟩, by rw [ht]; exact hP9, hD9⟩, hS.F ht⟩) hS.2.2 dX7_allRests_12
  · refine lv_istore_n (lv' := [(3, .int (-1002)), (0, .ref (a 0)), (1, .int 0), (2, .int p1)]) hx hb dX7_allRests_6 rfl hl (by decide) rfl (fun ls hl => ?_)
    refine lv_iload_n hx hb dX7_allRests_7 rfl (lv_at hl 0 rfl) ?_
    refine lv_if_eq (tgt := 13) hx hb dX7_allRests_8 (by decide) (fun h => absurd h (by decide)) (fun _ => ?_)
    refine lv_iload_n hx hb dX7_allRests_11 rfl (lv_at hl 0 rfl) ?_
    obtain ⟨hP9, hD9⟩ := pd_sub [((a 0), .inr (7, (fX7 (a 1) (a 3) (a 19) (a 35) (a 40) (nI rk) lfa (a 53) (a 56) (a 63) (a 64) (a 68)))), ((a 3), .inl (k 3, 3, .inr (.inr (.inr (.inr (a3 (a 4) (a 9) (a 14))))))), ((a 4), .inr (5, (fX5 (a 5) (a 6) (a 7) (a 8)))), (aI k (a 5) 10 (vv n0 see0 tm0 g0)), (aI k (a 6) 24 ff0), (aI k (a 7) 24 fp0), (aI k (a 8) 4 fl0), ((a 9), .inr (5, (fX5 (a 10) (a 11) (a 12) (a 13)))), (aI k (a 10) 10 (vv n1 see1 tm1 g1)), (aI k (a 11) 24 ff1), (aI k (a 12) 24 fp1), (aI k (a 13) 4 fl1), ((a 14), .inr (5, (fX5 (a 15) (a 16) (a 17) (a 18)))), (aI k (a 15) 10 (vv n2 see2 tm2 g2)), (aI k (a 16) 24 ff2), (aI k (a 17) 24 fp2), (aI k (a 18) 4 fl2), ((a 53), .inr (4, (fX4 (a 54) (a 55) (nI cc) (nI rz) ro sd))), (aI k (a 54) 4 wk), (aI k (a 55) 4 (nF br)), ((a 68), .inr (1, (fX1 (a 53) (a 69) (a 70) (a 71) pn pf pd pe))), (aI k (a 69) 4 (nF pb)), (aI k (a 70) 100 pco), (aI k (a 71) 16 pg)] [0, 1, 2, 3, 4, 5, 6, 7, 8, 9, 10, 11, 12, 13, 14, 15, 16, 17, 18, 19, 20, 21, 22, 23] hP hD (by decide +kernel) rfl
    exact W.iret (v := (-1002)) hx hb hr (fun t ht hW => ⟨⟨(-1002), (pn, pf, pd, pe, pb, pco), rfl, ⟨tq_at (s := 0) (by omega) (show 0 < n0 by omega) (show arA p1 cc wk (sdX n0 see0 tm0 g0 ff0 fp0) _ from ar_o (fun ⟨S, h1, h2⟩ => hw_1 S h1 h2)), hpb⟩, by rw [ht]; exact hP9, hD9⟩, hS.F ht⟩) hS.2.2 dX7_allRests_12
  · refine lv_istore_n (lv' := [(3, .int (-1002)), (0, .ref (a 0)), (1, .int 1), (2, .int p1)]) hx hb dX7_allRests_6 rfl hl (by decide) rfl (fun ls hl => ?_)
    refine lv_iload_n hx hb dX7_allRests_7 rfl (lv_at hl 0 rfl) ?_
    refine lv_if_eq (tgt := 13) hx hb dX7_allRests_8 (by decide) (fun h => absurd h (by decide)) (fun _ => ?_)
    refine lv_iload_n hx hb dX7_allRests_11 rfl (lv_at hl 0 rfl) ?_
    obtain ⟨hP9, hD9⟩ := pd_sub [((a 0), .inr (7, (fX7 (a 1) (a 3) (a 19) (a 35) (a 40) (nI rk) lfa (a 53) (a 56) (a 63) (a 64) (a 68)))), ((a 3), .inl (k 3, 3, .inr (.inr (.inr (.inr (a3 (a 4) (a 9) (a 14))))))), ((a 4), .inr (5, (fX5 (a 5) (a 6) (a 7) (a 8)))), (aI k (a 5) 10 (vv n0 see0 tm0 g0)), (aI k (a 6) 24 ff0), (aI k (a 7) 24 fp0), (aI k (a 8) 4 fl0), ((a 9), .inr (5, (fX5 (a 10) (a 11) (a 12) (a 13)))), (aI k (a 10) 10 (vv n1 see1 tm1 g1)), (aI k (a 11) 24 ff1), (aI k (a 12) 24 fp1), (aI k (a 13) 4 fl1), ((a 14), .inr (5, (fX5 (a 15) (a 16) (a 17) (a 18)))), (aI k (a 15) 10 (vv n2 see2 tm2 g2)), (aI k (a 16) 24 ff2), (aI k (a 17) 24 fp2), (aI k (a 18) 4 fl2), ((a 53), .inr (4, (fX4 (a 54) (a 55) (nI cc) (nI rz) ro sd))), (aI k (a 54) 4 wk), (aI k (a 55) 4 (nF br)), ((a 68), .inr (1, (fX1 (a 53) (a 69) (a 70) (a 71) pn pf pd pe))), (aI k (a 69) 4 (nF pb)), (aI k (a 70) 100 pco), (aI k (a 71) 16 pg)] [0, 1, 2, 3, 4, 5, 6, 7, 8, 9, 10, 11, 12, 13, 14, 15, 16, 17, 18, 19, 20, 21, 22, 23] hP hD (by decide +kernel) rfl
    exact W.iret (v := (-1002)) hx hb hr (fun t ht hW => ⟨⟨(-1002), (pn, pf, pd, pe, pb, pco), rfl, ⟨tq_at (s := 1) (by omega) (show 0 < n1 by omega) (show arA p1 cc wk (sdX n1 see1 tm1 g1 ff1 fp1) _ from ar_o (fun ⟨S, h1, h2⟩ => hw_1 S h1 h2)), hpb⟩, by rw [ht]; exact hP9, hD9⟩, hS.F ht⟩) hS.2.2 dX7_allRests_12
  · refine lv_istore_n (lv' := [(3, .int (-1002)), (0, .ref (a 0)), (1, .int 2), (2, .int p1)]) hx hb dX7_allRests_6 rfl hl (by decide) rfl (fun ls hl => ?_)
    refine lv_iload_n hx hb dX7_allRests_7 rfl (lv_at hl 0 rfl) ?_
    refine lv_if_eq (tgt := 13) hx hb dX7_allRests_8 (by decide) (fun h => absurd h (by decide)) (fun _ => ?_)
    refine lv_iload_n hx hb dX7_allRests_11 rfl (lv_at hl 0 rfl) ?_
    obtain ⟨hP9, hD9⟩ := pd_sub [((a 0), .inr (7, (fX7 (a 1) (a 3) (a 19) (a 35) (a 40) (nI rk) lfa (a 53) (a 56) (a 63) (a 64) (a 68)))), ((a 3), .inl (k 3, 3, .inr (.inr (.inr (.inr (a3 (a 4) (a 9) (a 14))))))), ((a 4), .inr (5, (fX5 (a 5) (a 6) (a 7) (a 8)))), (aI k (a 5) 10 (vv n0 see0 tm0 g0)), (aI k (a 6) 24 ff0), (aI k (a 7) 24 fp0), (aI k (a 8) 4 fl0), ((a 9), .inr (5, (fX5 (a 10) (a 11) (a 12) (a 13)))), (aI k (a 10) 10 (vv n1 see1 tm1 g1)), (aI k (a 11) 24 ff1), (aI k (a 12) 24 fp1), (aI k (a 13) 4 fl1), ((a 14), .inr (5, (fX5 (a 15) (a 16) (a 17) (a 18)))), (aI k (a 15) 10 (vv n2 see2 tm2 g2)), (aI k (a 16) 24 ff2), (aI k (a 17) 24 fp2), (aI k (a 18) 4 fl2), ((a 53), .inr (4, (fX4 (a 54) (a 55) (nI cc) (nI rz) ro sd))), (aI k (a 54) 4 wk), (aI k (a 55) 4 (nF br)), ((a 68), .inr (1, (fX1 (a 53) (a 69) (a 70) (a 71) pn pf pd pe))), (aI k (a 69) 4 (nF pb)), (aI k (a 70) 100 pco), (aI k (a 71) 16 pg)] [0, 1, 2, 3, 4, 5, 6, 7, 8, 9, 10, 11, 12, 13, 14, 15, 16, 17, 18, 19, 20, 21, 22, 23] hP hD (by decide +kernel) rfl
    exact W.iret (v := (-1002)) hx hb hr (fun t ht hW => ⟨⟨(-1002), (pn, pf, pd, pe, pb, pco), rfl, ⟨tq_at (s := 2) (by omega) (show 0 < n2 by omega) (show arA p1 cc wk (sdX n2 see2 tm2 g2 ff2 fp2) _ from ar_o (fun ⟨S, h1, h2⟩ => hw_1 S h1 h2)), hpb⟩, by rw [ht]; exact hP9, hD9⟩, hS.F ht⟩) hS.2.2 dX7_allRests_12


set_option maxHeartbeats 4000000 in
set_option maxRecDepth 100000 in
theorem y_mend (l : Launch) (D : va_G) (k : Nat → ClassId) (st : Nat → Nat) (lo : Nat) (a : Nat → Nat) (rk : Nat) (lfa : Int32) (n0 : Nat) (see0 : Nat) (tm0 : Nat) (g0 : Nat → Int32) (ff0 : Nat → Int32) (fp0 : Nat → Int32) (fl0 : Nat → Int32) (n1 : Nat) (see1 : Nat) (tm1 : Nat) (g1 : Nat → Int32) (ff1 : Nat → Int32) (fp1 : Nat → Int32) (fl1 : Nat → Int32) (n2 : Nat) (see2 : Nat) (tm2 : Nat) (g2 : Nat → Int32) (ff2 : Nat → Int32) (fp2 : Nat → Int32) (fl2 : Nat → Int32) (cc : Nat) (rz : Nat) (ro : Int32) (sd : Int32) (wk : Nat → Int32) (br : Nat → Nat) (pn : Int32) (pf : Int32) (pd : Int32) (pe : Int32) (pb : Nat → Nat) (pco : Nat → Int32) (pg : Nat → Int32) (p0 : Int32) (p1 : Int32) (p2 : Int32) (hn0 : n0 ≤ 24) (hse0 : see0 ≤ 2) (htm0 : tm0 ≤ 3) (hn1 : n1 ≤ 24) (hse1 : see1 ≤ 2) (htm1 : tm1 ≤ 3) (hn2 : n2 ≤ 24) (hse2 : see2 ≤ 2) (htm2 : tm2 ≤ 3) (hcc : cc ≤ 4) (hbr : ∀ j, br j ≤ 24) (hpb : ∀ j, pb j ≤ 24) (hlt : ltP (d3 fl0 fl1 fl2) (d3 (sdX n0 see0 tm0 g0 ff0 fp0) (sdX n1 see1 tm1 g1 ff1 fp1) (sdX n2 see2 tm2 g2 ff2 fp2))) : CWi l D k st lo yX7_mend cX7_mend 4 (some .int) ({ frames := 6, cells := 0, slots := 0, locals := 142 }) 0 0 [.ref (a 0), .int p0, .int p1, .int p2] [((a 0), .inr (7, (fX7 (a 1) (a 3) (a 19) (a 35) (a 40) (nI rk) lfa (a 53) (a 56) (a 63) (a 64) (a 68)))), ((a 3), .inl (k 3, 3, .inr (.inr (.inr (.inr (a3 (a 4) (a 9) (a 14))))))), ((a 4), .inr (5, (fX5 (a 5) (a 6) (a 7) (a 8)))), (aI k (a 5) 10 (vv n0 see0 tm0 g0)), (aI k (a 6) 24 ff0), (aI k (a 7) 24 fp0), (aI k (a 8) 4 fl0), ((a 9), .inr (5, (fX5 (a 10) (a 11) (a 12) (a 13)))), (aI k (a 10) 10 (vv n1 see1 tm1 g1)), (aI k (a 11) 24 ff1), (aI k (a 12) 24 fp1), (aI k (a 13) 4 fl1), ((a 14), .inr (5, (fX5 (a 15) (a 16) (a 17) (a 18)))), (aI k (a 15) 10 (vv n2 see2 tm2 g2)), (aI k (a 16) 24 ff2), (aI k (a 17) 24 fp2), (aI k (a 18) 4 fl2), ((a 53), .inr (4, (fX4 (a 54) (a 55) (nI cc) (nI rz) ro sd))), (aI k (a 54) 4 wk), (aI k (a 55) 4 (nF br)), ((a 68), .inr (1, (fX1 (a 53) (a 69) (a 70) (a 71) pn pf pd pe))), (aI k (a 69) 4 (nF pb)), (aI k (a 70) 100 pco), (aI k (a 71) 16 pg)] (fun (r : Int32) (u : Int32 × Int32 × Int32 × Int32 × (Nat → Nat) × (Nat → Int32)) => match u with | (pn_, pf_, pd_, pe_, pb_, pco_) => dqP (d3 (sdX n0 see0 tm0 g0 ff0 fp0) (sdX n1 see1 tm1 g1 ff1 fp1) (sdX n2 see2 tm2 g2 ff2 fp2)) p0 p2 (mdA p1 cc wk) r ∧ (∀ j, pb_ j ≤ 24)) (fun (u : Int32 × Int32 × Int32 × Int32 × (Nat → Nat) × (Nat → Int32)) => match u with | (pn_, pf_, pd_, pe_, pb_, pco_) => [((a 0), .inr (7, (fX7 (a 1) (a 3) (a 19) (a 35) (a 40) (nI rk) lfa (a 53) (a 56) (a 63) (a 64) (a 68)))), ((a 3), .inl (k 3, 3, .inr (.inr (.inr (.inr (a3 (a 4) (a 9) (a 14))))))), ((a 4), .inr (5, (fX5 (a 5) (a 6) (a 7) (a 8)))), (aI k (a 5) 10 (vv n0 see0 tm0 g0)), (aI k (a 6) 24 ff0), (aI k (a 7) 24 fp0), (aI k (a 8) 4 fl0), ((a 9), .inr (5, (fX5 (a 10) (a 11) (a 12) (a 13)))), (aI k (a 10) 10 (vv n1 see1 tm1 g1)), (aI k (a 11) 24 ff1), (aI k (a 12) 24 fp1), (aI k (a 13) 4 fl1), ((a 14), .inr (5, (fX5 (a 15) (a 16) (a 17) (a 18)))), (aI k (a 15) 10 (vv n2 see2 tm2 g2)), (aI k (a 16) 24 ff2), (aI k (a 17) 24 fp2), (aI k (a 18) 4 fl2), ((a 53), .inr (4, (fX4 (a 54) (a 55) (nI cc) (nI rz) ro sd))), (aI k (a 54) 4 wk), (aI k (a 55) 4 (nF br)), ((a 68), .inr (1, (fX1 (a 53) (a 69) (a 70) (a 71) pn_ pf_ pd_ pe_))), (aI k (a 69) 4 (nF pb_)), (aI k (a 70) 100 pco_), (aI k (a 71) 16 pg)]) := by
  intro sz
  refine Met.ofW (cc := cX7_mend) (maxL := 4) (ret := (some .int)) (by decide) rfl ?_
  intro p e s m args below meth c s₁ B hml hv
  obtain ⟨rfl, hsz, hlo, hP, hK, hDL, hZ⟩ := hv
  have hx := B.exec
  have hb := B.bytes
  have hr := B.returns
  have hts := WS_ts B.pre
  have hown : s.vm.findClass RX7 = some m.cls := findClass_of_methodNamed B.named
  have hlocks := B.notSynchronized
  subst hsz
  have hD := hDL.self (sz := s.heap.size)
  have hAlo := A_lo hDL hlo
  generalize hAe : va_A [((a 0), .inr (7, (fX7 (a 1) (a 3) (a 19) (a 35) (a 40) (nI rk) lfa (a 53) (a 56) (a 63) (a 64) (a 68)))), ((a 3), .inl (k 3, 3, .inr (.inr (.inr (.inr (a3 (a 4) (a 9) (a 14))))))), ((a 4), .inr (5, (fX5 (a 5) (a 6) (a 7) (a 8)))), (aI k (a 5) 10 (vv n0 see0 tm0 g0)), (aI k (a 6) 24 ff0), (aI k (a 7) 24 fp0), (aI k (a 8) 4 fl0), ((a 9), .inr (5, (fX5 (a 10) (a 11) (a 12) (a 13)))), (aI k (a 10) 10 (vv n1 see1 tm1 g1)), (aI k (a 11) 24 ff1), (aI k (a 12) 24 fp1), (aI k (a 13) 4 fl1), ((a 14), .inr (5, (fX5 (a 15) (a 16) (a 17) (a 18)))), (aI k (a 15) 10 (vv n2 see2 tm2 g2)), (aI k (a 16) 24 ff2), (aI k (a 17) 24 fp2), (aI k (a 18) 4 fl2), ((a 53), .inr (4, (fX4 (a 54) (a 55) (nI cc) (nI rz) ro sd))), (aI k (a 54) 4 wk), (aI k (a 55) 4 (nF br)), ((a 68), .inr (1, (fX1 (a 53) (a 69) (a 70) (a 71) pn pf pd pe))), (aI k (a 69) 4 (nF pb)), (aI k (a 70) 100 pco), (aI k (a 71) 16 pg)] s.heap.size = A at hD hAlo ⊢
  have hA : ∀ q : Nat, s.heap.size ≤ q → A q := fun q h => by rw [← hAe]; exact Or.inr h
  have hS : va_S A s.heap s.heap [] := va_S.rf
  have hl := lv_entry ([.ref (a 0), .int p0, .int p1, .int p2]) (n := 4) (Nat.le_of_ble_eq_true rfl)
  rw [lg_entry_eq]
  generalize (lg_sl ([.ref (a 0), .int p0, .int p1, .int p2]) ++ List.replicate (4 - (lg_sl ([.ref (a 0), .int p0, .int p1, .int p2])).length) Slot.unset).toArray = ls at hl ⊢
  have hl : lv_has ls 4 [(0, .ref (a 0)), (1, .int p0), (2, .int p1), (3, .int p2)] := hl
  refine lv_aload_n hx hb dX7_mend_0 rfl (lv_at hl 0 rfl) ?_
  refine lv_iload_n hx hb dX7_mend_1 rfl (lv_at hl 1 rfl) ?_
  refine lv_iload_n hx hb dX7_mend_2 rfl (lv_at hl 3 rfl) ?_
  refine ro_i (D := D) (va_runV (As := [.int p0, .int p2]) (rest := []) ⟨hx, hb, hml, hown, hts⟩ ((y_isDoor l D k st lo a rk lfa n0 see0 tm0 g0 n1 see1 tm1 g1 n2 see2 tm2 g2 p0 p2 (by first | assumption | omega) (by first | assumption | omega) (by first | assumption | omega)) s.heap.size) (cwV 2 hts (gV tw_600 tw_602 tw_9 tw_79 tw_603) rfl rfl rfl (by decide +kernel) ⟨Nat.le_of_ble_eq_true rfl, Nat.le_of_ble_eq_true rfl⟩) (pV hS hAlo hlo hP hK (va_Dlo hD hAlo) hZ [0, 1, 2, 3, 7, 8, 12, 13] (by decide) rfl (ci := 7) (q := (RX7, TX7, 12)) (q0 := 0) rfl rfl) rfl rfl hl.1 rfl (lv_room (Nat.le_of_ble_eq_true rfl)) dX7_mend_3 ⟨Nat.le_of_ble_eq_true rfl, Nat.le_of_ble_eq_true rfl⟩) hS hA hP (fun r_1 H locs hw_1 hP hS => ?_)
  try dsimp only at hw_1
  rcases hw_1 with ⟨rfl, ⟨rfl, id_2, hid_2, rfl⟩ | ⟨rfl, id_2, hid_2, rfl⟩ | ⟨rfl, id_2, hid_2, rfl⟩⟩ | ⟨rfl, hw_1⟩
  · refine lv_if_ne (tgt := 13) hx hb dX7_mend_6 (by decide) (fun _ => ?_) (fun h => absurd h (by decide))
    refine lv_aload_n hx hb dX7_mend_13 rfl (lv_at hl 0 rfl) ?_
    refine lv_iload_n hx hb dX7_mend_14 rfl (lv_at hl 1 rfl) ?_
    refine lv_iload_n hx hb dX7_mend_15 rfl (lv_at hl 2 rfl) ?_
    refine ro_i (D := D) (va_runV (As := [.int 0, .int p1]) (rest := []) ⟨hx, hb, hml, hown, hts⟩ ((y_isSet_0 l D k st lo a rk lfa n0 see0 tm0 g0 p1 (by first | assumption | omega)) H.size) (cwV 2 hts (gV tw_817 tw_819 tw_18 tw_79 tw_820) rfl rfl rfl (by decide +kernel) ⟨Nat.le_of_ble_eq_true rfl, Nat.le_of_ble_eq_true rfl⟩) (pV hS hAlo hlo hP hK (va_Dlo hD hAlo) hZ [0, 1, 2, 3] (by decide) rfl (ci := 7) (q := (RX7, TX7, 12)) (q0 := 0) rfl rfl) rfl rfl hl.1 rfl (lv_room (Nat.le_of_ble_eq_true rfl)) dX7_mend_16 ⟨Nat.le_of_ble_eq_true rfl, Nat.le_of_ble_eq_true rfl⟩) hS hA hP (fun r_3 H locs hw_3 hP hS => ?_)
    try dsimp only at hw_3
    rcases hw_3 with ⟨rfl, se_4, hse_4, rfl⟩ | ⟨rfl, hw_3⟩
    · refine lv_if_ne (tgt := 26) hx hb dX7_mend_19 (by decide) (fun _ => ?_) (fun h => absurd h (by decide))
      have hpw_9 := pw31 (show n0 ≤ 24 by omega)
      refine lv_aload_n hx hb dX7_mend_26 rfl (lv_at hl 0 rfl) ?_
      refine va_get (D := D) (ci := 7) (v := .ref (a 68)) (C := RX7) (T := TX7) (N := 12) hx hb hts inX7 hown hK hP 0 rfl rfl 11 (by decide) (hts _ tw_316) (fun _ h9 => h9) rfl dX7_mend_27 ?_
      refine lv_aload_n hx hb dX7_mend_30 rfl (lv_at hl 0 rfl) ?_
      refine va_get (D := D) (ci := 7) (v := .ref (a 3)) (C := RX7) (T := TX7) (N := 12) hx hb hts inX7 hown hK hP 0 rfl rfl 1 (by decide) (hts _ tw_306) (fun _ h9 => h9) rfl dX7_mend_31 ?_
      refine lv_iload_n hx hb dX7_mend_34 rfl (lv_at hl 1 rfl) ?_
      refine va_aldq hx hb hK hP 1 3 rfl rfl (by unfold vp_in; decide) dX7_mend_35 ?_
      refine lv_tr (y := .ref (a 4)) rfl ?_
      refine lv_iload_n hx hb dX7_mend_36 rfl (lv_at hl 2 rfl) ?_
      refine rw_v (D := D) (wr := [((a 0), .inr (7, (fX7 (a 1) (a 3) (a 19) (a 35) (a 40) (nI rk) lfa (a 53) (a 56) (a 63) (a 64) (a 68)))), ((a 3), .inl (k 3, 3, .inr (.inr (.inr (.inr (a3 (a 4) (a 9) (a 14))))))), ((a 9), .inr (5, (fX5 (a 10) (a 11) (a 12) (a 13)))), (aI k (a 10) 10 (vv n1 see1 tm1 g1)), (aI k (a 11) 24 ff1), (aI k (a 12) 24 fp1), (aI k (a 13) 4 fl1), ((a 14), .inr (5, (fX5 (a 15) (a 16) (a 17) (a 18)))), (aI k (a 15) 10 (vv n2 see2 tm2 g2)), (aI k (a 16) 24 ff2), (aI k (a 17) 24 fp2), (aI k (a 18) 4 fl2), (aI k (a 71) 16 pg)]) (va_runV (As := [.ref (a 4), .int (nI se_4)]) (rest := []) ⟨hx, hb, hml, hown, hts⟩ ((y_comeTo l D k st lo (a 53) (a 68) (a 69) (a 70) (a 71) pn pf pd pe pb pco (a 4) (a 5) (a 6) (a 7) (a 8) n0 see0 tm0 g0 ff0 fp0 fl0 (a 54) (a 55) cc rz ro sd wk br se_4 (by first | assumption | omega) (by first | assumption | omega) hbr hpb (hlt 0 (by omega))) H.size) (cwV 2 hts (gV tw_821 tw_822 tw_823 tw_84 tw_824) rfl rfl rfl (by decide +kernel) ⟨Nat.le_of_ble_eq_true rfl, Nat.le_of_ble_eq_true rfl⟩) (pV hS hAlo hlo hP hK (va_Dlo hD hAlo) hZ [20, 21, 22, 2, 3, 4, 5, 6, 17, 18, 19] (by decide +kernel) rfl (ci := 1) (q := (RX1, TX1, 8)) (q0 := 0) rfl rfl) rfl rfl hl.1 rfl (lv_room (Nat.le_of_ble_eq_true rfl)) dX7_mend_37 ⟨Nat.le_of_ble_eq_true rfl, Nat.le_of_ble_eq_true rfl⟩) hS hA hP hD [20, 21, 22, 2, 3, 4, 5, 6, 17, 18, 19] [0, 1, 7, 8, 9, 10, 11, 12, 13, 14, 15, 16, 23] rfl rfl (by decide +kernel) (by decide +kernel) (fun u H locs hw_5 hP hD hS => ?_)
      obtain ⟨pb__5, pco__5⟩ := u
      have hQ9 := pd_mk [((a 0), .inr (7, (fX7 (a 1) (a 3) (a 19) (a 35) (a 40) (nI rk) lfa (a 53) (a 56) (a 63) (a 64) (a 68)))), ((a 3), .inl (k 3, 3, .inr (.inr (.inr (.inr (a3 (a 4) (a 9) (a 14))))))), ((a 9), .inr (5, (fX5 (a 10) (a 11) (a 12) (a 13)))), (aI k (a 10) 10 (vv n1 see1 tm1 g1)), (aI k (a 11) 24 ff1), (aI k (a 12) 24 fp1), (aI k (a 13) 4 fl1), ((a 14), .inr (5, (fX5 (a 15) (a 16) (a 17) (a 18)))), (aI k (a 15) 10 (vv n2 see2 tm2 g2)), (aI k (a 16) 24 ff2), (aI k (a 17) 24 fp2), (aI k (a 18) 4 fl2), (aI k (a 71) 16 pg), ((a 68), .inr (1, (fX1 (a 53) (a 69) (a 70) (a 71) (nI n0) (nI se_4) 0 0))), (aI k (a 69) 4 (nF pb__5)), (aI k (a 70) 100 pco__5), ((a 4), .inr (5, (fX5 (a 5) (a 6) (a 7) (a 8)))), (aI k (a 5) 10 (vv n0 see0 tm0 g0)), (aI k (a 6) 24 ff0), (aI k (a 7) 24 fp0), (aI k (a 8) 4 fl0), ((a 53), .inr (4, (fX4 (a 54) (a 55) (nI cc) (nI rz) ro sd))), (aI k (a 54) 4 wk), (aI k (a 55) 4 (nF br))] hP hD
      clear hP hD
      obtain ⟨hP, hD⟩ := hQ9
      try dsimp only at hw_5
      refine lv_aload_n hx hb dX7_mend_40 rfl (lv_at hl 0 rfl) ?_
      refine va_get (D := D) (ci := 7) (v := .ref (a 68)) (C := RX7) (T := TX7) (N := 12) hx hb hts inX7 hown hK hP 0 rfl rfl 11 (by decide) (hts _ tw_316) (fun _ h9 => h9) rfl dX7_mend_41 ?_
      refine lv_iload_n hx hb dX7_mend_44 rfl (lv_at hl 3 rfl) ?_
      refine rw_i (D := D) (wr := [((a 0), .inr (7, (fX7 (a 1) (a 3) (a 19) (a 35) (a 40) (nI rk) lfa (a 53) (a 56) (a 63) (a 64) (a 68)))), ((a 3), .inl (k 3, 3, .inr (.inr (.inr (.inr (a3 (a 4) (a 9) (a 14))))))), ((a 9), .inr (5, (fX5 (a 10) (a 11) (a 12) (a 13)))), (aI k (a 10) 10 (vv n1 see1 tm1 g1)), (aI k (a 11) 24 ff1), (aI k (a 12) 24 fp1), (aI k (a 13) 4 fl1), ((a 14), .inr (5, (fX5 (a 15) (a 16) (a 17) (a 18)))), (aI k (a 15) 10 (vv n2 see2 tm2 g2)), (aI k (a 16) 24 ff2), (aI k (a 17) 24 fp2), (aI k (a 18) 4 fl2), (aI k (a 71) 16 pg), ((a 4), .inr (5, (fX5 (a 5) (a 6) (a 7) (a 8)))), (aI k (a 5) 10 (vv n0 see0 tm0 g0)), (aI k (a 6) 24 ff0), (aI k (a 7) 24 fp0), (aI k (a 8) 4 fl0), (aI k (a 54) 4 wk), (aI k (a 55) 4 (nF br))]) (va_runV (As := [.int (nI id_2)]) (rest := []) ⟨hx, hb, hml, hown, hts⟩ ((y_mendingPrice l D k st lo (a 53) (a 68) (a 69) (a 70) (a 71) n0 se_4 0 0 pb__5 pco__5 (a 54) (a 55) cc rz ro sd (nI id_2) (by first | assumption | omega) (by first | assumption | omega) hw_5.1 (by first | assumption | omega)) H.size) (cwV 1 hts (gV tw_914 tw_915 tw_916 tw_84 tw_917) rfl rfl rfl (by decide +kernel) ⟨Nat.le_of_ble_eq_true rfl, Nat.le_of_ble_eq_true rfl⟩) (pV hS hAlo hlo hP hK (va_Dlo hD hAlo) hZ [13, 14, 15, 21] (by decide) rfl (ci := 1) (q := (RX1, TX1, 8)) (q0 := 0) rfl rfl) rfl rfl hl.1 rfl (lv_room (Nat.le_of_ble_eq_true rfl)) dX7_mend_45 ⟨Nat.le_of_ble_eq_true rfl, Nat.le_of_ble_eq_true rfl⟩) hS hA hP hD [13, 14, 15, 21] [0, 1, 2, 3, 4, 5, 6, 7, 8, 9, 10, 11, 12, 16, 17, 18, 19, 20, 22, 23] rfl rfl (by decide +kernel) (by decide +kernel) (fun r_6 u H locs hw_6 hP hD hS => ?_)
      obtain ⟨pd__6, pe__6, pb__6⟩ := u
      have hQ9 := pd_mk [((a 0), .inr (7, (fX7 (a 1) (a 3) (a 19) (a 35) (a 40) (nI rk) lfa (a 53) (a 56) (a 63) (a 64) (a 68)))), ((a 3), .inl (k 3, 3, .inr (.inr (.inr (.inr (a3 (a 4) (a 9) (a 14))))))), ((a 9), .inr (5, (fX5 (a 10) (a 11) (a 12) (a 13)))), (aI k (a 10) 10 (vv n1 see1 tm1 g1)), (aI k (a 11) 24 ff1), (aI k (a 12) 24 fp1), (aI k (a 13) 4 fl1), ((a 14), .inr (5, (fX5 (a 15) (a 16) (a 17) (a 18)))), (aI k (a 15) 10 (vv n2 see2 tm2 g2)), (aI k (a 16) 24 ff2), (aI k (a 17) 24 fp2), (aI k (a 18) 4 fl2), (aI k (a 71) 16 pg), ((a 4), .inr (5, (fX5 (a 5) (a 6) (a 7) (a 8)))), (aI k (a 5) 10 (vv n0 see0 tm0 g0)), (aI k (a 6) 24 ff0), (aI k (a 7) 24 fp0), (aI k (a 8) 4 fl0), (aI k (a 54) 4 wk), (aI k (a 55) 4 (nF br)), ((a 68), .inr (1, (fX1 (a 53) (a 69) (a 70) (a 71) (nI n0) (nI se_4) pd__6 pe__6))), (aI k (a 69) 4 (nF pb__6)), (aI k (a 70) 100 pco__5), ((a 53), .inr (4, (fX4 (a 54) (a 55) (nI cc) (nI rz) ro sd)))] hP hD
      clear hP hD
      obtain ⟨hP, hD⟩ := hQ9
      try dsimp only at hw_6
      obtain ⟨hP9, hD9⟩ := pd_sub [((a 0), .inr (7, (fX7 (a 1) (a 3) (a 19) (a 35) (a 40) (nI rk) lfa (a 53) (a 56) (a 63) (a 64) (a 68)))), ((a 3), .inl (k 3, 3, .inr (.inr (.inr (.inr (a3 (a 4) (a 9) (a 14))))))), ((a 4), .inr (5, (fX5 (a 5) (a 6) (a 7) (a 8)))), (aI k (a 5) 10 (vv n0 see0 tm0 g0)), (aI k (a 6) 24 ff0), (aI k (a 7) 24 fp0), (aI k (a 8) 4 fl0), ((a 9), .inr (5, (fX5 (a 10) (a 11) (a 12) (a 13)))), (aI k (a 10) 10 (vv n1 see1 tm1 g1)), (aI k (a 11) 24 ff1), (aI k (a 12) 24 fp1), (aI k (a 13) 4 fl1), ((a 14), .inr (5, (fX5 (a 15) (a 16) (a 17) (a 18)))), (aI k (a 15) 10 (vv n2 see2 tm2 g2)), (aI k (a 16) 24 ff2), (aI k (a 17) 24 fp2), (aI k (a 18) 4 fl2), ((a 53), .inr (4, (fX4 (a 54) (a 55) (nI cc) (nI rz) ro sd))), (aI k (a 54) 4 wk), (aI k (a 55) 4 (nF br)), ((a 68), .inr (1, (fX1 (a 53) (a 69) (a 70) (a 71) (nI n0) (nI se_4) pd__6 pe__6))), (aI k (a 69) 4 (nF pb__6)), (aI k (a 70) 100 pco__5), (aI k (a 71) 16 pg)] [0, 1, 13, 14, 15, 16, 17, 2, 3, 4, 5, 6, 7, 8, 9, 10, 11, 23, 18, 19, 20, 21, 22, 12] hP hD (by decide +kernel) rfl
      exact W.iret (v := r_6) hx hb hr (fun t ht hW => ⟨⟨r_6, ((nI n0), (nI se_4), pd__6, pe__6, pb__6, pco__5), rfl, ⟨dq_at (s := 0) (by omega) (show n0 ≤ 24 by omega) (show id_2 < n0 by omega) (show mdA (nI se_4) cc wk (sdX n0 see0 tm0 g0 ff0 fp0) id_2 _ from md_i (n := n0) rfl (by omega) hcc hse_4 hw_5.2 hw_6.1), hw_6.2⟩, by rw [ht]; exact hP9, hD9⟩, hS.F ht⟩) hS.2.2 dX7_mend_48
    · refine lv_if_ne (tgt := 26) hx hb dX7_mend_19 (by decide) (fun h => absurd (by decide) h) (fun _ => ?_)
      refine lv_sipush (v := (-1002)) hx hb dX7_mend_22 (by decide) ?_
      obtain ⟨hP9, hD9⟩ := pd_sub [((a 0), .inr (7, (fX7 (a 1) (a 3) (a 19) (a 35) (a 40) (nI rk) lfa (a 53) (a 56) (a 63) (a 64) (a 68)))), ((a 3), .inl (k 3, 3, .inr (.inr (.inr (.inr (a3 (a 4) (a 9) (a 14))))))), ((a 4), .inr (5, (fX5 (a 5) (a 6) (a 7) (a 8)))), (aI k (a 5) 10 (vv n0 see0 tm0 g0)), (aI k (a 6) 24 ff0), (aI k (a 7) 24 fp0), (aI k (a 8) 4 fl0), ((a 9), .inr (5, (fX5 (a 10) (a 11) (a 12) (a 13)))), (aI k (a 10) 10 (vv n1 see1 tm1 g1)), (aI k (a 11) 24 ff1), (aI k (a 12) 24 fp1), (aI k (a 13) 4 fl1), ((a 14), .inr (5, (fX5 (a 15) (a 16) (a 17) (a 18)))), (aI k (a 15) 10 (vv n2 see2 tm2 g2)), (aI k (a 16) 24 ff2), (aI k (a 17) 24 fp2), (aI k (a 18) 4 fl2), ((a 53), .inr (4, (fX4 (a 54) (a 55) (nI cc) (nI rz) ro sd))), (aI k (a 54) 4 wk), (aI k (a 55) 4 (nF br)), ((a 68), .inr (1, (fX1 (a 53) (a 69) (a 70) (a 71) pn pf pd pe))), (aI k (a 69) 4 (nF pb)), (aI k (a 70) 100 pco), (aI k (a 71) 16 pg)] [0, 1, 2, 3, 4, 5, 6, 7, 8, 9, 10, 11, 12, 13, 14, 15, 16, 17, 18, 19, 20, 21, 22, 23] hP hD (by decide +kernel) rfl
      exact W.iret (v := (-1002)) hx hb hr (fun t ht hW => ⟨⟨(-1002), (pn, pf, pd, pe, pb, pco), rfl, ⟨dq_at (s := 0) (by omega) (show n0 ≤ 24 by omega) (show id_2 < n0 by omega) (show mdA p1 cc wk (sdX n0 see0 tm0 g0 ff0 fp0) _ _ from md_o (fun ⟨S, h1, h2⟩ => hw_3 S h1 h2)), hpb⟩, by rw [ht]; exact hP9, hD9⟩, hS.F ht⟩) hS.2.2 dX7_mend_25
  · refine lv_if_ne (tgt := 13) hx hb dX7_mend_6 (by decide) (fun _ => ?_) (fun h => absurd h (by decide))
    refine lv_aload_n hx hb dX7_mend_13 rfl (lv_at hl 0 rfl) ?_
    refine lv_iload_n hx hb dX7_mend_14 rfl (lv_at hl 1 rfl) ?_
    refine lv_iload_n hx hb dX7_mend_15 rfl (lv_at hl 2 rfl) ?_
    refine ro_i (D := D) (va_runV (As := [.int 1, .int p1]) (rest := []) ⟨hx, hb, hml, hown, hts⟩ ((y_isSet_1 l D k st lo a rk lfa n1 see1 tm1 g1 p1 (by first | assumption | omega)) H.size) (cwV 2 hts (gV tw_817 tw_819 tw_18 tw_79 tw_820) rfl rfl rfl (by decide +kernel) ⟨Nat.le_of_ble_eq_true rfl, Nat.le_of_ble_eq_true rfl⟩) (pV hS hAlo hlo hP hK (va_Dlo hD hAlo) hZ [0, 1, 7, 8] (by decide) rfl (ci := 7) (q := (RX7, TX7, 12)) (q0 := 0) rfl rfl) rfl rfl hl.1 rfl (lv_room (Nat.le_of_ble_eq_true rfl)) dX7_mend_16 ⟨Nat.le_of_ble_eq_true rfl, Nat.le_of_ble_eq_true rfl⟩) hS hA hP (fun r_7 H locs hw_7 hP hS => ?_)
    try dsimp only at hw_7
    rcases hw_7 with ⟨rfl, se_8, hse_8, rfl⟩ | ⟨rfl, hw_7⟩
    · refine lv_if_ne (tgt := 26) hx hb dX7_mend_19 (by decide) (fun _ => ?_) (fun h => absurd h (by decide))
      have hpw_9 := pw31 (show n1 ≤ 24 by omega)
      refine lv_aload_n hx hb dX7_mend_26 rfl (lv_at hl 0 rfl) ?_
      refine va_get (D := D) (ci := 7) (v := .ref (a 68)) (C := RX7) (T := TX7) (N := 12) hx hb hts inX7 hown hK hP 0 rfl rfl 11 (by decide) (hts _ tw_316) (fun _ h9 => h9) rfl dX7_mend_27 ?_
      refine lv_aload_n hx hb dX7_mend_30 rfl (lv_at hl 0 rfl) ?_
      refine va_get (D := D) (ci := 7) (v := .ref (a 3)) (C := RX7) (T := TX7) (N := 12) hx hb hts inX7 hown hK hP 0 rfl rfl 1 (by decide) (hts _ tw_306) (fun _ h9 => h9) rfl dX7_mend_31 ?_
      refine lv_iload_n hx hb dX7_mend_34 rfl (lv_at hl 1 rfl) ?_
      refine va_aldq hx hb hK hP 1 3 rfl rfl (by unfold vp_in; decide) dX7_mend_35 ?_
      refine lv_tr (y := .ref (a 9)) rfl ?_
      refine lv_iload_n hx hb dX7_mend_36 rfl (lv_at hl 2 rfl) ?_
      refine rw_v (D := D) (wr := [((a 0), .inr (7, (fX7 (a 1) (a 3) (a 19) (a 35) (a 40) (nI rk) lfa (a 53) (a 56) (a 63) (a 64) (a 68)))), ((a 3), .inl (k 3, 3, .inr (.inr (.inr (.inr (a3 (a 4) (a 9) (a 14))))))), ((a 4), .inr (5, (fX5 (a 5) (a 6) (a 7) (a 8)))), (aI k (a 5) 10 (vv n0 see0 tm0 g0)), (aI k (a 6) 24 ff0), (aI k (a 7) 24 fp0), (aI k (a 8) 4 fl0), ((a 14), .inr (5, (fX5 (a 15) (a 16) (a 17) (a 18)))), (aI k (a 15) 10 (vv n2 see2 tm2 g2)), (aI k (a 16) 24 ff2), (aI k (a 17) 24 fp2), (aI k (a 18) 4 fl2), (aI k (a 71) 16 pg)]) (va_runV (As := [.ref (a 9), .int (nI se_8)]) (rest := []) ⟨hx, hb, hml, hown, hts⟩ ((y_comeTo l D k st lo (a 53) (a 68) (a 69) (a 70) (a 71) pn pf pd pe pb pco (a 9) (a 10) (a 11) (a 12) (a 13) n1 see1 tm1 g1 ff1 fp1 fl1 (a 54) (a 55) cc rz ro sd wk br se_8 (by first | assumption | omega) (by first | assumption | omega) hbr hpb (hlt 1 (by omega))) H.size) (cwV 2 hts (gV tw_821 tw_822 tw_823 tw_84 tw_824) rfl rfl rfl (by decide +kernel) ⟨Nat.le_of_ble_eq_true rfl, Nat.le_of_ble_eq_true rfl⟩) (pV hS hAlo hlo hP hK (va_Dlo hD hAlo) hZ [20, 21, 22, 7, 8, 9, 10, 11, 17, 18, 19] (by decide +kernel) rfl (ci := 1) (q := (RX1, TX1, 8)) (q0 := 0) rfl rfl) rfl rfl hl.1 rfl (lv_room (Nat.le_of_ble_eq_true rfl)) dX7_mend_37 ⟨Nat.le_of_ble_eq_true rfl, Nat.le_of_ble_eq_true rfl⟩) hS hA hP hD [20, 21, 22, 7, 8, 9, 10, 11, 17, 18, 19] [0, 1, 2, 3, 4, 5, 6, 12, 13, 14, 15, 16, 23] rfl rfl (by decide +kernel) (by decide +kernel) (fun u H locs hw_9 hP hD hS => ?_)
      obtain ⟨pb__9, pco__9⟩ := u
      have hQ9 := pd_mk [((a 0), .inr (7, (fX7 (a 1) (a 3) (a 19) (a 35) (a 40) (nI rk) lfa (a 53) (a 56) (a 63) (a 64) (a 68)))), ((a 3), .inl (k 3, 3, .inr (.inr (.inr (.inr (a3 (a 4) (a 9) (a 14))))))), ((a 4), .inr (5, (fX5 (a 5) (a 6) (a 7) (a 8)))), (aI k (a 5) 10 (vv n0 see0 tm0 g0)), (aI k (a 6) 24 ff0), (aI k (a 7) 24 fp0), (aI k (a 8) 4 fl0), ((a 14), .inr (5, (fX5 (a 15) (a 16) (a 17) (a 18)))), (aI k (a 15) 10 (vv n2 see2 tm2 g2)), (aI k (a 16) 24 ff2), (aI k (a 17) 24 fp2), (aI k (a 18) 4 fl2), (aI k (a 71) 16 pg), ((a 68), .inr (1, (fX1 (a 53) (a 69) (a 70) (a 71) (nI n1) (nI se_8) 0 0))), (aI k (a 69) 4 (nF pb__9)), (aI k (a 70) 100 pco__9), ((a 9), .inr (5, (fX5 (a 10) (a 11) (a 12) (a 13)))), (aI k (a 10) 10 (vv n1 see1 tm1 g1)), (aI k (a 11) 24 ff1), (aI k (a 12) 24 fp1), (aI k (a 13) 4 fl1), ((a 53), .inr (4, (fX4 (a 54) (a 55) (nI cc) (nI rz) ro sd))), (aI k (a 54) 4 wk), (aI k (a 55) 4 (nF br))] hP hD
      clear hP hD
      obtain ⟨hP, hD⟩ := hQ9
      try dsimp only at hw_9
      refine lv_aload_n hx hb dX7_mend_40 rfl (lv_at hl 0 rfl) ?_
      refine va_get (D := D) (ci := 7) (v := .ref (a 68)) (C := RX7) (T := TX7) (N := 12) hx hb hts inX7 hown hK hP 0 rfl rfl 11 (by decide) (hts _ tw_316) (fun _ h9 => h9) rfl dX7_mend_41 ?_
      refine lv_iload_n hx hb dX7_mend_44 rfl (lv_at hl 3 rfl) ?_
      refine rw_i (D := D) (wr := [((a 0), .inr (7, (fX7 (a 1) (a 3) (a 19) (a 35) (a 40) (nI rk) lfa (a 53) (a 56) (a 63) (a 64) (a 68)))), ((a 3), .inl (k 3, 3, .inr (.inr (.inr (.inr (a3 (a 4) (a 9) (a 14))))))), ((a 4), .inr (5, (fX5 (a 5) (a 6) (a 7) (a 8)))), (aI k (a 5) 10 (vv n0 see0 tm0 g0)), (aI k (a 6) 24 ff0), (aI k (a 7) 24 fp0), (aI k (a 8) 4 fl0), ((a 14), .inr (5, (fX5 (a 15) (a 16) (a 17) (a 18)))), (aI k (a 15) 10 (vv n2 see2 tm2 g2)), (aI k (a 16) 24 ff2), (aI k (a 17) 24 fp2), (aI k (a 18) 4 fl2), (aI k (a 71) 16 pg), ((a 9), .inr (5, (fX5 (a 10) (a 11) (a 12) (a 13)))), (aI k (a 10) 10 (vv n1 see1 tm1 g1)), (aI k (a 11) 24 ff1), (aI k (a 12) 24 fp1), (aI k (a 13) 4 fl1), (aI k (a 54) 4 wk), (aI k (a 55) 4 (nF br))]) (va_runV (As := [.int (nI id_2)]) (rest := []) ⟨hx, hb, hml, hown, hts⟩ ((y_mendingPrice l D k st lo (a 53) (a 68) (a 69) (a 70) (a 71) n1 se_8 0 0 pb__9 pco__9 (a 54) (a 55) cc rz ro sd (nI id_2) (by first | assumption | omega) (by first | assumption | omega) hw_9.1 (by first | assumption | omega)) H.size) (cwV 1 hts (gV tw_914 tw_915 tw_916 tw_84 tw_917) rfl rfl rfl (by decide +kernel) ⟨Nat.le_of_ble_eq_true rfl, Nat.le_of_ble_eq_true rfl⟩) (pV hS hAlo hlo hP hK (va_Dlo hD hAlo) hZ [13, 14, 15, 21] (by decide) rfl (ci := 1) (q := (RX1, TX1, 8)) (q0 := 0) rfl rfl) rfl rfl hl.1 rfl (lv_room (Nat.le_of_ble_eq_true rfl)) dX7_mend_45 ⟨Nat.le_of_ble_eq_true rfl, Nat.le_of_ble_eq_true rfl⟩) hS hA hP hD [13, 14, 15, 21] [0, 1, 2, 3, 4, 5, 6, 7, 8, 9, 10, 11, 12, 16, 17, 18, 19, 20, 22, 23] rfl rfl (by decide +kernel) (by decide +kernel) (fun r_10 u H locs hw_10 hP hD hS => ?_)
      obtain ⟨pd__10, pe__10, pb__10⟩ := u
      have hQ9 := pd_mk [((a 0), .inr (7, (fX7 (a 1) (a 3) (a 19) (a 35) (a 40) (nI rk) lfa (a 53) (a 56) (a 63) (a 64) (a 68)))), ((a 3), .inl (k 3, 3, .inr (.inr (.inr (.inr (a3 (a 4) (a 9) (a 14))))))), ((a 4), .inr (5, (fX5 (a 5) (a 6) (a 7) (a 8)))), (aI k (a 5) 10 (vv n0 see0 tm0 g0)), (aI k (a 6) 24 ff0), (aI k (a 7) 24 fp0), (aI k (a 8) 4 fl0), ((a 14), .inr (5, (fX5 (a 15) (a 16) (a 17) (a 18)))), (aI k (a 15) 10 (vv n2 see2 tm2 g2)), (aI k (a 16) 24 ff2), (aI k (a 17) 24 fp2), (aI k (a 18) 4 fl2), (aI k (a 71) 16 pg), ((a 9), .inr (5, (fX5 (a 10) (a 11) (a 12) (a 13)))), (aI k (a 10) 10 (vv n1 see1 tm1 g1)), (aI k (a 11) 24 ff1), (aI k (a 12) 24 fp1), (aI k (a 13) 4 fl1), (aI k (a 54) 4 wk), (aI k (a 55) 4 (nF br)), ((a 68), .inr (1, (fX1 (a 53) (a 69) (a 70) (a 71) (nI n1) (nI se_8) pd__10 pe__10))), (aI k (a 69) 4 (nF pb__10)), (aI k (a 70) 100 pco__9), ((a 53), .inr (4, (fX4 (a 54) (a 55) (nI cc) (nI rz) ro sd)))] hP hD
      clear hP hD
      obtain ⟨hP, hD⟩ := hQ9
      try dsimp only at hw_10
      obtain ⟨hP9, hD9⟩ := pd_sub [((a 0), .inr (7, (fX7 (a 1) (a 3) (a 19) (a 35) (a 40) (nI rk) lfa (a 53) (a 56) (a 63) (a 64) (a 68)))), ((a 3), .inl (k 3, 3, .inr (.inr (.inr (.inr (a3 (a 4) (a 9) (a 14))))))), ((a 4), .inr (5, (fX5 (a 5) (a 6) (a 7) (a 8)))), (aI k (a 5) 10 (vv n0 see0 tm0 g0)), (aI k (a 6) 24 ff0), (aI k (a 7) 24 fp0), (aI k (a 8) 4 fl0), ((a 9), .inr (5, (fX5 (a 10) (a 11) (a 12) (a 13)))), (aI k (a 10) 10 (vv n1 see1 tm1 g1)), (aI k (a 11) 24 ff1), (aI k (a 12) 24 fp1), (aI k (a 13) 4 fl1), ((a 14), .inr (5, (fX5 (a 15) (a 16) (a 17) (a 18)))), (aI k (a 15) 10 (vv n2 see2 tm2 g2)), (aI k (a 16) 24 ff2), (aI k (a 17) 24 fp2), (aI k (a 18) 4 fl2), ((a 53), .inr (4, (fX4 (a 54) (a 55) (nI cc) (nI rz) ro sd))), (aI k (a 54) 4 wk), (aI k (a 55) 4 (nF br)), ((a 68), .inr (1, (fX1 (a 53) (a 69) (a 70) (a 71) (nI n1) (nI se_8) pd__10 pe__10))), (aI k (a 69) 4 (nF pb__10)), (aI k (a 70) 100 pco__9), (aI k (a 71) 16 pg)] [0, 1, 2, 3, 4, 5, 6, 13, 14, 15, 16, 17, 7, 8, 9, 10, 11, 23, 18, 19, 20, 21, 22, 12] hP hD (by decide +kernel) rfl
      exact W.iret (v := r_10) hx hb hr (fun t ht hW => ⟨⟨r_10, ((nI n1), (nI se_8), pd__10, pe__10, pb__10, pco__9), rfl, ⟨dq_at (s := 1) (by omega) (show n1 ≤ 24 by omega) (show id_2 < n1 by omega) (show mdA (nI se_8) cc wk (sdX n1 see1 tm1 g1 ff1 fp1) id_2 _ from md_i (n := n1) rfl (by omega) hcc hse_8 hw_9.2 hw_10.1), hw_10.2⟩, by rw [ht]; exact hP9, hD9⟩, hS.F ht⟩) hS.2.2 dX7_mend_48
    · refine lv_if_ne (tgt := 26) hx hb dX7_mend_19 (by decide) (fun h => absurd (by decide) h) (fun _ => ?_)
      refine lv_sipush (v := (-1002)) hx hb dX7_mend_22 (by decide) ?_
      obtain ⟨hP9, hD9⟩ := pd_sub [((a 0), .inr (7, (fX7 (a 1) (a 3) (a 19) (a 35) (a 40) (nI rk) lfa (a 53) (a 56) (a 63) (a 64) (a 68)))), ((a 3), .inl (k 3, 3, .inr (.inr (.inr (.inr (a3 (a 4) (a 9) (a 14))))))), ((a 4), .inr (5, (fX5 (a 5) (a 6) (a 7) (a 8)))), (aI k (a 5) 10 (vv n0 see0 tm0 g0)), (aI k (a 6) 24 ff0), (aI k (a 7) 24 fp0), (aI k (a 8) 4 fl0), ((a 9), .inr (5, (fX5 (a 10) (a 11) (a 12) (a 13)))), (aI k (a 10) 10 (vv n1 see1 tm1 g1)), (aI k (a 11) 24 ff1), (aI k (a 12) 24 fp1), (aI k (a 13) 4 fl1), ((a 14), .inr (5, (fX5 (a 15) (a 16) (a 17) (a 18)))), (aI k (a 15) 10 (vv n2 see2 tm2 g2)), (aI k (a 16) 24 ff2), (aI k (a 17) 24 fp2), (aI k (a 18) 4 fl2), ((a 53), .inr (4, (fX4 (a 54) (a 55) (nI cc) (nI rz) ro sd))), (aI k (a 54) 4 wk), (aI k (a 55) 4 (nF br)), ((a 68), .inr (1, (fX1 (a 53) (a 69) (a 70) (a 71) pn pf pd pe))), (aI k (a 69) 4 (nF pb)), (aI k (a 70) 100 pco), (aI k (a 71) 16 pg)] [0, 1, 2, 3, 4, 5, 6, 7, 8, 9, 10, 11, 12, 13, 14, 15, 16, 17, 18, 19, 20, 21, 22, 23] hP hD (by decide +kernel) rfl
      exact W.iret (v := (-1002)) hx hb hr (fun t ht hW => ⟨⟨(-1002), (pn, pf, pd, pe, pb, pco), rfl, ⟨dq_at (s := 1) (by omega) (show n1 ≤ 24 by omega) (show id_2 < n1 by omega) (show mdA p1 cc wk (sdX n1 see1 tm1 g1 ff1 fp1) _ _ from md_o (fun ⟨S, h1, h2⟩ => hw_7 S h1 h2)), hpb⟩, by rw [ht]; exact hP9, hD9⟩, hS.F ht⟩) hS.2.2 dX7_mend_25
  · refine lv_if_ne (tgt := 13) hx hb dX7_mend_6 (by decide) (fun _ => ?_) (fun h => absurd h (by decide))
    refine lv_aload_n hx hb dX7_mend_13 rfl (lv_at hl 0 rfl) ?_
    refine lv_iload_n hx hb dX7_mend_14 rfl (lv_at hl 1 rfl) ?_
    refine lv_iload_n hx hb dX7_mend_15 rfl (lv_at hl 2 rfl) ?_
    refine ro_i (D := D) (va_runV (As := [.int 2, .int p1]) (rest := []) ⟨hx, hb, hml, hown, hts⟩ ((y_isSet_2 l D k st lo a rk lfa n2 see2 tm2 g2 p1 (by first | assumption | omega)) H.size) (cwV 2 hts (gV tw_817 tw_819 tw_18 tw_79 tw_820) rfl rfl rfl (by decide +kernel) ⟨Nat.le_of_ble_eq_true rfl, Nat.le_of_ble_eq_true rfl⟩) (pV hS hAlo hlo hP hK (va_Dlo hD hAlo) hZ [0, 1, 12, 13] (by decide) rfl (ci := 7) (q := (RX7, TX7, 12)) (q0 := 0) rfl rfl) rfl rfl hl.1 rfl (lv_room (Nat.le_of_ble_eq_true rfl)) dX7_mend_16 ⟨Nat.le_of_ble_eq_true rfl, Nat.le_of_ble_eq_true rfl⟩) hS hA hP (fun r_11 H locs hw_11 hP hS => ?_)
    try dsimp only at hw_11
    rcases hw_11 with ⟨rfl, se_12, hse_12, rfl⟩ | ⟨rfl, hw_11⟩
    · refine lv_if_ne (tgt := 26) hx hb dX7_mend_19 (by decide) (fun _ => ?_) (fun h => absurd h (by decide))
      have hpw_9 := pw31 (show n2 ≤ 24 by omega)
      refine lv_aload_n hx hb dX7_mend_26 rfl (lv_at hl 0 rfl) ?_
      refine va_get (D := D) (ci := 7) (v := .ref (a 68)) (C := RX7) (T := TX7) (N := 12) hx hb hts inX7 hown hK hP 0 rfl rfl 11 (by decide) (hts _ tw_316) (fun _ h9 => h9) rfl dX7_mend_27 ?_
      refine lv_aload_n hx hb dX7_mend_30 rfl (lv_at hl 0 rfl) ?_
      refine va_get (D := D) (ci := 7) (v := .ref (a 3)) (C := RX7) (T := TX7) (N := 12) hx hb hts inX7 hown hK hP 0 rfl rfl 1 (by decide) (hts _ tw_306) (fun _ h9 => h9) rfl dX7_mend_31 ?_
      refine lv_iload_n hx hb dX7_mend_34 rfl (lv_at hl 1 rfl) ?_
      refine va_aldq hx hb hK hP 1 3 rfl rfl (by unfold vp_in; decide) dX7_mend_35 ?_
      refine lv_tr (y := .ref (a 14)) rfl ?_
      refine lv_iload_n hx hb dX7_mend_36 rfl (lv_at hl 2 rfl) ?_
      refine rw_v (D := D) (wr := [((a 0), .inr (7, (fX7 (a 1) (a 3) (a 19) (a 35) (a 40) (nI rk) lfa (a 53) (a 56) (a 63) (a 64) (a 68)))), ((a 3), .inl (k 3, 3, .inr (.inr (.inr (.inr (a3 (a 4) (a 9) (a 14))))))), ((a 4), .inr (5, (fX5 (a 5) (a 6) (a 7) (a 8)))), (aI k (a 5) 10 (vv n0 see0 tm0 g0)), (aI k (a 6) 24 ff0), (aI k (a 7) 24 fp0), (aI k (a 8) 4 fl0), ((a 9), .inr (5, (fX5 (a 10) (a 11) (a 12) (a 13)))), (aI k (a 10) 10 (vv n1 see1 tm1 g1)), (aI k (a 11) 24 ff1), (aI k (a 12) 24 fp1), (aI k (a 13) 4 fl1), (aI k (a 71) 16 pg)]) (va_runV (As := [.ref (a 14), .int (nI se_12)]) (rest := []) ⟨hx, hb, hml, hown, hts⟩ ((y_comeTo l D k st lo (a 53) (a 68) (a 69) (a 70) (a 71) pn pf pd pe pb pco (a 14) (a 15) (a 16) (a 17) (a 18) n2 see2 tm2 g2 ff2 fp2 fl2 (a 54) (a 55) cc rz ro sd wk br se_12 (by first | assumption | omega) (by first | assumption | omega) hbr hpb (hlt 2 (by omega))) H.size) (cwV 2 hts (gV tw_821 tw_822 tw_823 tw_84 tw_824) rfl rfl rfl (by decide +kernel) ⟨Nat.le_of_ble_eq_true rfl, Nat.le_of_ble_eq_true rfl⟩) (pV hS hAlo hlo hP hK (va_Dlo hD hAlo) hZ [20, 21, 22, 12, 13, 14, 15, 16, 17, 18, 19] (by decide +kernel) rfl (ci := 1) (q := (RX1, TX1, 8)) (q0 := 0) rfl rfl) rfl rfl hl.1 rfl (lv_room (Nat.le_of_ble_eq_true rfl)) dX7_mend_37 ⟨Nat.le_of_ble_eq_true rfl, Nat.le_of_ble_eq_true rfl⟩) hS hA hP hD [20, 21, 22, 12, 13, 14, 15, 16, 17, 18, 19] [0, 1, 2, 3, 4, 5, 6, 7, 8, 9, 10, 11, 23] rfl rfl (by decide +kernel) (by decide +kernel) (fun u H locs hw_13 hP hD hS => ?_)
      obtain ⟨pb__13, pco__13⟩ := u
      have hQ9 := pd_mk [((a 0), .inr (7, (fX7 (a 1) (a 3) (a 19) (a 35) (a 40) (nI rk) lfa (a 53) (a 56) (a 63) (a 64) (a 68)))), ((a 3), .inl (k 3, 3, .inr (.inr (.inr (.inr (a3 (a 4) (a 9) (a 14))))))), ((a 4), .inr (5, (fX5 (a 5) (a 6) (a 7) (a 8)))), (aI k (a 5) 10 (vv n0 see0 tm0 g0)), (aI k (a 6) 24 ff0), (aI k (a 7) 24 fp0), (aI k (a 8) 4 fl0), ((a 9), .inr (5, (fX5 (a 10) (a 11) (a 12) (a 13)))), (aI k (a 10) 10 (vv n1 see1 tm1 g1)), (aI k (a 11) 24 ff1), (aI k (a 12) 24 fp1), (aI k (a 13) 4 fl1), (aI k (a 71) 16 pg), ((a 68), .inr (1, (fX1 (a 53) (a 69) (a 70) (a 71) (nI n2) (nI se_12) 0 0))), (aI k (a 69) 4 (nF pb__13)), (aI k (a 70) 100 pco__13), ((a 14), .inr (5, (fX5 (a 15) (a 16) (a 17) (a 18)))), (aI k (a 15) 10 (vv n2 see2 tm2 g2)), (aI k (a 16) 24 ff2), (aI k (a 17) 24 fp2), (aI k (a 18) 4 fl2), ((a 53), .inr (4, (fX4 (a 54) (a 55) (nI cc) (nI rz) ro sd))), (aI k (a 54) 4 wk), (aI k (a 55) 4 (nF br))] hP hD
      clear hP hD
      obtain ⟨hP, hD⟩ := hQ9
      try dsimp only at hw_13
      refine lv_aload_n hx hb dX7_mend_40 rfl (lv_at hl 0 rfl) ?_
      refine va_get (D := D) (ci := 7) (v := .ref (a 68)) (C := RX7) (T := TX7) (N := 12) hx hb hts inX7 hown hK hP 0 rfl rfl 11 (by decide) (hts _ tw_316) (fun _ h9 => h9) rfl dX7_mend_41 ?_
      refine lv_iload_n hx hb dX7_mend_44 rfl (lv_at hl 3 rfl) ?_
      refine rw_i (D := D) (wr := [((a 0), .inr (7, (fX7 (a 1) (a 3) (a 19) (a 35) (a 40) (nI rk) lfa (a 53) (a 56) (a 63) (a 64) (a 68)))), ((a 3), .inl (k 3, 3, .inr (.inr (.inr (.inr (a3 (a 4) (a 9) (a 14))))))), ((a 4), .inr (5, (fX5 (a 5) (a 6) (a 7) (a 8)))), (aI k (a 5) 10 (vv n0 see0 tm0 g0)), (aI k (a 6) 24 ff0), (aI k (a 7) 24 fp0), (aI k (a 8) 4 fl0), ((a 9), .inr (5, (fX5 (a 10) (a 11) (a 12) (a 13)))), (aI k (a 10) 10 (vv n1 see1 tm1 g1)), (aI k (a 11) 24 ff1), (aI k (a 12) 24 fp1), (aI k (a 13) 4 fl1), (aI k (a 71) 16 pg), ((a 14), .inr (5, (fX5 (a 15) (a 16) (a 17) (a 18)))), (aI k (a 15) 10 (vv n2 see2 tm2 g2)), (aI k (a 16) 24 ff2), (aI k (a 17) 24 fp2), (aI k (a 18) 4 fl2), (aI k (a 54) 4 wk), (aI k (a 55) 4 (nF br))]) (va_runV (As := [.int (nI id_2)]) (rest := []) ⟨hx, hb, hml, hown, hts⟩ ((y_mendingPrice l D k st lo (a 53) (a 68) (a 69) (a 70) (a 71) n2 se_12 0 0 pb__13 pco__13 (a 54) (a 55) cc rz ro sd (nI id_2) (by first | assumption | omega) (by first | assumption | omega) hw_13.1 (by first | assumption | omega)) H.size) (cwV 1 hts (gV tw_914 tw_915 tw_916 tw_84 tw_917) rfl rfl rfl (by decide +kernel) ⟨Nat.le_of_ble_eq_true rfl, Nat.le_of_ble_eq_true rfl⟩) (pV hS hAlo hlo hP hK (va_Dlo hD hAlo) hZ [13, 14, 15, 21] (by decide) rfl (ci := 1) (q := (RX1, TX1, 8)) (q0 := 0) rfl rfl) rfl rfl hl.1 rfl (lv_room (Nat.le_of_ble_eq_true rfl)) dX7_mend_45 ⟨Nat.le_of_ble_eq_true rfl, Nat.le_of_ble_eq_true rfl⟩) hS hA hP hD [13, 14, 15, 21] [0, 1, 2, 3, 4, 5, 6, 7, 8, 9, 10, 11, 12, 16, 17, 18, 19, 20, 22, 23] rfl rfl (by decide +kernel) (by decide +kernel) (fun r_14 u H locs hw_14 hP hD hS => ?_)
      obtain ⟨pd__14, pe__14, pb__14⟩ := u
      have hQ9 := pd_mk [((a 0), .inr (7, (fX7 (a 1) (a 3) (a 19) (a 35) (a 40) (nI rk) lfa (a 53) (a 56) (a 63) (a 64) (a 68)))), ((a 3), .inl (k 3, 3, .inr (.inr (.inr (.inr (a3 (a 4) (a 9) (a 14))))))), ((a 4), .inr (5, (fX5 (a 5) (a 6) (a 7) (a 8)))), (aI k (a 5) 10 (vv n0 see0 tm0 g0)), (aI k (a 6) 24 ff0), (aI k (a 7) 24 fp0), (aI k (a 8) 4 fl0), ((a 9), .inr (5, (fX5 (a 10) (a 11) (a 12) (a 13)))), (aI k (a 10) 10 (vv n1 see1 tm1 g1)), (aI k (a 11) 24 ff1), (aI k (a 12) 24 fp1), (aI k (a 13) 4 fl1), (aI k (a 71) 16 pg), ((a 14), .inr (5, (fX5 (a 15) (a 16) (a 17) (a 18)))), (aI k (a 15) 10 (vv n2 see2 tm2 g2)), (aI k (a 16) 24 ff2), (aI k (a 17) 24 fp2), (aI k (a 18) 4 fl2), (aI k (a 54) 4 wk), (aI k (a 55) 4 (nF br)), ((a 68), .inr (1, (fX1 (a 53) (a 69) (a 70) (a 71) (nI n2) (nI se_12) pd__14 pe__14))), (aI k (a 69) 4 (nF pb__14)), (aI k (a 70) 100 pco__13), ((a 53), .inr (4, (fX4 (a 54) (a 55) (nI cc) (nI rz) ro sd)))] hP hD
      clear hP hD
      obtain ⟨hP, hD⟩ := hQ9
      try dsimp only at hw_14
      obtain ⟨hP9, hD9⟩ := pd_sub [((a 0), .inr (7, (fX7 (a 1) (a 3) (a 19) (a 35) (a 40) (nI rk) lfa (a 53) (a 56) (a 63) (a 64) (a 68)))), ((a 3), .inl (k 3, 3, .inr (.inr (.inr (.inr (a3 (a 4) (a 9) (a 14))))))), ((a 4), .inr (5, (fX5 (a 5) (a 6) (a 7) (a 8)))), (aI k (a 5) 10 (vv n0 see0 tm0 g0)), (aI k (a 6) 24 ff0), (aI k (a 7) 24 fp0), (aI k (a 8) 4 fl0), ((a 9), .inr (5, (fX5 (a 10) (a 11) (a 12) (a 13)))), (aI k (a 10) 10 (vv n1 see1 tm1 g1)), (aI k (a 11) 24 ff1), (aI k (a 12) 24 fp1), (aI k (a 13) 4 fl1), ((a 14), .inr (5, (fX5 (a 15) (a 16) (a 17) (a 18)))), (aI k (a 15) 10 (vv n2 see2 tm2 g2)), (aI k (a 16) 24 ff2), (aI k (a 17) 24 fp2), (aI k (a 18) 4 fl2), ((a 53), .inr (4, (fX4 (a 54) (a 55) (nI cc) (nI rz) ro sd))), (aI k (a 54) 4 wk), (aI k (a 55) 4 (nF br)), ((a 68), .inr (1, (fX1 (a 53) (a 69) (a 70) (a 71) (nI n2) (nI se_12) pd__14 pe__14))), (aI k (a 69) 4 (nF pb__14)), (aI k (a 70) 100 pco__13), (aI k (a 71) 16 pg)] [0, 1, 2, 3, 4, 5, 6, 7, 8, 9, 10, 11, 13, 14, 15, 16, 17, 23, 18, 19, 20, 21, 22, 12] hP hD (by decide +kernel) rfl
      exact W.iret (v := r_14) hx hb hr (fun t ht hW => ⟨⟨r_14, ((nI n2), (nI se_12), pd__14, pe__14, pb__14, pco__13), rfl, ⟨dq_at (s := 2) (by omega) (show n2 ≤ 24 by omega) (show id_2 < n2 by omega) (show mdA (nI se_12) cc wk (sdX n2 see2 tm2 g2 ff2 fp2) id_2 _ from md_i (n := n2) rfl (by omega) hcc hse_12 hw_13.2 hw_14.1), hw_14.2⟩, by rw [ht]; exact hP9, hD9⟩, hS.F ht⟩) hS.2.2 dX7_mend_48
    · refine lv_if_ne (tgt := 26) hx hb dX7_mend_19 (by decide) (fun h => absurd (by decide) h) (fun _ => ?_)
      refine lv_sipush (v := (-1002)) hx hb dX7_mend_22 (by decide) ?_
      obtain ⟨hP9, hD9⟩ := pd_sub [((a 0), .inr (7, (fX7 (a 1) (a 3) (a 19) (a 35) (a 40) (nI rk) lfa (a 53) (a 56) (a 63) (a 64) (a 68)))), ((a 3), .inl (k 3, 3, .inr (.inr (.inr (.inr (a3 (a 4) (a 9) (a 14))))))), ((a 4), .inr (5, (fX5 (a 5) (a 6) (a 7) (a 8)))), (aI k (a 5) 10 (vv n0 see0 tm0 g0)), (aI k (a 6) 24 ff0), (aI k (a 7) 24 fp0), (aI k (a 8) 4 fl0), ((a 9), .inr (5, (fX5 (a 10) (a 11) (a 12) (a 13)))), (aI k (a 10) 10 (vv n1 see1 tm1 g1)), (aI k (a 11) 24 ff1), (aI k (a 12) 24 fp1), (aI k (a 13) 4 fl1), ((a 14), .inr (5, (fX5 (a 15) (a 16) (a 17) (a 18)))), (aI k (a 15) 10 (vv n2 see2 tm2 g2)), (aI k (a 16) 24 ff2), (aI k (a 17) 24 fp2), (aI k (a 18) 4 fl2), ((a 53), .inr (4, (fX4 (a 54) (a 55) (nI cc) (nI rz) ro sd))), (aI k (a 54) 4 wk), (aI k (a 55) 4 (nF br)), ((a 68), .inr (1, (fX1 (a 53) (a 69) (a 70) (a 71) pn pf pd pe))), (aI k (a 69) 4 (nF pb)), (aI k (a 70) 100 pco), (aI k (a 71) 16 pg)] [0, 1, 2, 3, 4, 5, 6, 7, 8, 9, 10, 11, 12, 13, 14, 15, 16, 17, 18, 19, 20, 21, 22, 23] hP hD (by decide +kernel) rfl
      exact W.iret (v := (-1002)) hx hb hr (fun t ht hW => ⟨⟨(-1002), (pn, pf, pd, pe, pb, pco), rfl, ⟨dq_at (s := 2) (by omega) (show n2 ≤ 24 by omega) (show id_2 < n2 by omega) (show mdA p1 cc wk (sdX n2 see2 tm2 g2 ff2 fp2) _ _ from md_o (fun ⟨S, h1, h2⟩ => hw_11 S h1 h2)), hpb⟩, by rw [ht]; exact hP9, hD9⟩, hS.F ht⟩) hS.2.2 dX7_mend_25
  · refine lv_if_ne (tgt := 13) hx hb dX7_mend_6 (by decide) (fun h => absurd (by decide) h) (fun _ => ?_)
    refine lv_sipush (v := (-1001)) hx hb dX7_mend_9 (by decide) ?_
    obtain ⟨hP9, hD9⟩ := pd_sub [((a 0), .inr (7, (fX7 (a 1) (a 3) (a 19) (a 35) (a 40) (nI rk) lfa (a 53) (a 56) (a 63) (a 64) (a 68)))), ((a 3), .inl (k 3, 3, .inr (.inr (.inr (.inr (a3 (a 4) (a 9) (a 14))))))), ((a 4), .inr (5, (fX5 (a 5) (a 6) (a 7) (a 8)))), (aI k (a 5) 10 (vv n0 see0 tm0 g0)), (aI k (a 6) 24 ff0), (aI k (a 7) 24 fp0), (aI k (a 8) 4 fl0), ((a 9), .inr (5, (fX5 (a 10) (a 11) (a 12) (a 13)))), (aI k (a 10) 10 (vv n1 see1 tm1 g1)), (aI k (a 11) 24 ff1), (aI k (a 12) 24 fp1), (aI k (a 13) 4 fl1), ((a 14), .inr (5, (fX5 (a 15) (a 16) (a 17) (a 18)))), (aI k (a 15) 10 (vv n2 see2 tm2 g2)), (aI k (a 16) 24 ff2), (aI k (a 17) 24 fp2), (aI k (a 18) 4 fl2), ((a 53), .inr (4, (fX4 (a 54) (a 55) (nI cc) (nI rz) ro sd))), (aI k (a 54) 4 wk), (aI k (a 55) 4 (nF br)), ((a 68), .inr (1, (fX1 (a 53) (a 69) (a 70) (a 71) pn pf pd pe))), (aI k (a 69) 4 (nF pb)), (aI k (a 70) 100 pco), (aI k (a 71) 16 pg)] [0, 1, 2, 3, 4, 5, 6, 7, 8, 9, 10, 11, 12, 13, 14, 15, 16, 17, 18, 19, 20, 21, 22, 23] hP hD (by decide +kernel) rfl
    exact W.iret (v := (-1001)) hx hb hr (fun t ht hW => ⟨⟨(-1001), (pn, pf, pd, pe, pb, pco), rfl, ⟨dq_no (fun s h1 h2 i h3 h4 => hw_1 s h1 h2 i h3 (by rw [d3_n] at h4; exact h4)), hpb⟩, by rw [ht]; exact hP9, hD9⟩, hS.F ht⟩) hS.2.2 dX7_mend_12

theorem f_glueP32 : True := trivial
/-! parking: the reference -/
def dvI (n i : Nat) : Int32 := if i < n then nI i else -1
theorem dv_lt {n i : Nat} {p : Int32} (h : p = dvI n i) (c : 0 ≤ p) : i < n ∧ p = nI i := by
  unfold dvI at h
  by_cases q : i < n
  · rw [if_pos q] at h
    exact ⟨q, h⟩
  · rw [if_neg q] at h
    rw [h] at c
    exact absurd c (by decide)
theorem dv_ge {n i : Nat} {p : Int32} (hi : i ≤ 24) (h : p = dvI n i) (c : ¬ 0 ≤ p) : ¬ i < n := by
  intro q
  unfold dvI at h
  rw [if_pos q] at h
  rw [h] at c
  exact c (nI_ge0 (by omega))
theorem dv_i {n i : Nat} (h : i < n) : dvI n i = nI i := if_pos h
theorem dv_n {n i : Nat} (h : ¬ i < n) : dvI n i = -1 := if_neg h
theorem pD_y {d : SDt} {w pd pe : Int32} {i : Nat} (h : i < d.1) (c : pd ≤ nI i) : pTakeBy d w 0 i + pe + pPass d * nI i = pD d w pd pe i := by
  unfold pD
  rw [if_pos ⟨c, h⟩, ← pC_i h, Int32.add_assoc, Int32.add_comm pe, ← Int32.add_assoc, Int32.mul_comm (pPass d)]
theorem pD_z {d : SDt} {w pd pe : Int32} {i : Nat} (h : i < d.1) (c : ¬ pd ≤ nI i) : pTakeBy d w 0 i + 0 + pPass d * nI i = pD d w pd pe i := by
  unfold pD
  rw [if_neg (fun q => c q.1), ← pC_i h, Int32.add_zero, Int32.add_zero, Int32.mul_comm (pPass d)]
theorem pD_g {d : SDt} {w pd pe : Int32} {i : Nat} (h : ¬ i < d.1) (hi : i ≤ d.1) : pGar d 0 + pPass d * nI d.1 = pD d w pd pe i := by
  have e : i = d.1 := by omega
  subst e
  unfold pD
  rw [if_neg (fun q => h q.2), ← pC_n (w := w), Int32.add_zero, Int32.mul_comm (pPass d)]
theorem and_m1 {a : Nat} : nI a &&& (-1) = nI a := by
  apply Int32.toBitVec_inj.mp
  rw [Int32.toBitVec_and]
  show (nI a).toBitVec &&& BitVec.allOnes 32 = (nI a).toBitVec
  exact BitVec.and_allOnes
/-- what is left behind a car, both ways of the reference -/
theorem lf_g {n L z : Nat} {p : Int32} (hn : n ≤ 24) (hL : L < 2 ^ n) (hz : z ≤ n) (h : p = dvI n z) (c : ¬ 0 ≤ p) : nI L &&& (-1) = nI (rmv L z) := by
  have q := dv_ge (by omega) h c
  rw [show z = n by omega, rmv_n hn hL]
  exact and_m1
theorem lf_d {n L z : Nat} {p : Int32} (hn : n ≤ 24) (h : p = dvI n z) (c : 0 ≤ p) : nI L &&& (((1 : Int32) <<< (p &&& 31)) ^^^ (-1)) = nI (rmv L z) := by
  obtain ⟨q, e⟩ := dv_lt h c
  rw [e]
  exact rm_and (by omega)
theorem pl_end {n L q b : Nat} (h : b ≤ q ∨ q = n) (hb : q ≤ b ∨ q = 0) : plc n L q = plc n L b := by
  rcases h with h | h
  · rw [show q = b by omega]
  · rw [h, pl_out (Nat.lt_irrefl n), pl_out (by omega)]


set_option maxHeartbeats 4000000 in
set_option maxRecDepth 100000 in
theorem n_costAt (l : Launch) (D : va_G) (k : Nat → ClassId) (st : Nat → Nat) (lo : Nat) (a : Nat → Nat) (tx : Nat) (t0 : Nat) (we : Nat) (rd : Nat) (ru : Nat) (rw : Nat) (ca : Nat) (fp : Int32) (wd : Int64) (nu : Int32) (na : Int32) (ts : Int32) (df : Int32) (db : Int32) (sd : Int32) (dn : Nat → Nat) (se : Nat → Nat) (tm : Nat → Nat) (gs : Nat → Int32) (ffrees : Nat → Int32) (fprices : Nat → Int32) (fwalks : Nat → Int32) (sn : Nat) (cn : Nat) (pi : Nat) (pz : Int32) (hdn : ∀ j, dn j ≤ 24) (hs : sn < 3) (hcn : cn < 4) (hpi : pi ≤ dn sn) (hpz : pz = dvI (dn sn) pi) : CRi l D k st lo yX8_costAt cX8_costAt 5 (some .int) ({ frames := 3, cells := 0, slots := 0, locals := 70 }) [.ref (a 0), .int (nI sn), .int (nI cn), .int pz] [((a 0), .inr (8, (fX8 a (nI tx) fp (nI t0) wd (nI we) nu na (nI rd) ts (nI ru) (nI rw) (nI ca) df db sd))), (aI k (a 1) 3 (nF dn)), (aI k (a 4) 27 (sg se tm gs)), (aI k (a 2) 72 ffrees), (aI k (a 3) 72 fprices), (aI k (a 36) 4 fwalks)] (fun r => r = pD (sdM dn (sg se tm gs) ffrees fprices sn) (fwalks cn) df (db * 1000) pi) := by
  intro sz
  refine Met.ofW (cc := cX8_costAt) (maxL := 5) (ret := (some .int)) (by decide) rfl ?_
  intro p e s m args below meth c s₁ B hml hv
  obtain ⟨rfl, hsz, hlo, hP, hK, hDL, hZ⟩ := hv
  have hx := B.exec
  have hb := B.bytes
  have hr := B.returns
  have hts := WS_ts B.pre
  have hown : s.vm.findClass RX8 = some m.cls := findClass_of_methodNamed B.named
  have hlocks := B.notSynchronized
  subst hsz
  have hA : ∀ q : Nat, s.heap.size ≤ q → (fun q : Nat => s.heap.size ≤ q) q := fun _ h => h
  have hAlo : ∀ q : Nat, (fun q : Nat => s.heap.size ≤ q) q → lo ≤ q := fun q h => Nat.le_trans hlo h
  have hS : va_S (fun q : Nat => s.heap.size ≤ q) s.heap s.heap [] := va_S.rf
  have hl := lv_entry ([.ref (a 0), .int (nI sn), .int (nI cn), .int pz]) (n := 5) (Nat.le_of_ble_eq_true rfl)
  rw [lg_entry_eq]
  generalize (lg_sl ([.ref (a 0), .int (nI sn), .int (nI cn), .int pz]) ++ List.replicate (5 - (lg_sl ([.ref (a 0), .int (nI sn), .int (nI cn), .int pz])).length) Slot.unset).toArray = ls at hl ⊢
  have hl : lv_has ls 5 [(0, .ref (a 0)), (1, .int (nI sn)), (2, .int (nI cn)), (3, .int pz)] := hl
  have hd_9 := hdn sn
  refine lv_iload_n hx hb dX8_costAt_0 rfl (lv_at hl 3 rfl) ?_
  refine lv_if_ge (tgt := 29) hx hb dX8_costAt_1 (by decide) (fun c_1 => ?_) (fun c_1 => ?_)
  · obtain ⟨hlt_9, rfl⟩ := dv_lt hpz c_1
    refine lv_iload_n hx hb dX8_costAt_29 rfl (lv_at hl 3 rfl) ?_
    refine lv_aload_n hx hb dX8_costAt_30 rfl (lv_at hl 0 rfl) ?_
    refine va_get (D := D) (ci := 8) (v := .int df) (C := RX8) (T := TX8) (N := 44) hx hb hts inX8 hown hK hP 0 rfl rfl 37 (by decide) (hts _ tw_1010) (fun _ h9 => h9) rfl dX8_costAt_31 ?_
    refine lv_icmp_lt (tgt := 48) hx hb dX8_costAt_34 (by decide) (fun c_2 => ?_) (fun c_2 => ?_)
    · refine lv_iconst (v := 0) hx hb dX8_costAt_48 (by decide) ?_
      refine lv_istore (lv' := [(4, .int 0), (0, .ref (a 0)), (1, .int (nI sn)), (2, .int (nI cn)), (3, .int (nI pi))]) hx hb dX8_costAt_49 hl (by decide) rfl (fun ls hl => ?_)
      refine lv_aload_n hx hb dX8_costAt_51 rfl (lv_at hl 1 rfl) ?_
      refine lv_iload_n hx hb dX8_costAt_52 rfl (lv_at hl 2 rfl) ?_
      refine lv_iconst (v := 0) hx hb dX8_costAt_53 (by decide) ?_
      refine lv_iload_n hx hb dX8_costAt_54 rfl (lv_at hl 4 rfl) ?_
      refine lv_aload_n hx hb dX8_costAt_55 rfl (lv_at hl 1 rfl) ?_
      refine va_get (D := D) (ci := 8) (v := .ref (a 36)) (C := RX8) (T := TX8) (N := 44) hx hb hts inX8 hown hK hP 0 rfl rfl 35 (by decide) (hts _ tw_1008) (fun _ h9 => h9) rfl dX8_costAt_56 ?_
      refine lv_iload_n hx hb dX8_costAt_59 rfl (lv_at hl 3 rfl) ?_
      refine va_iald hx hb hK hP 5 1 rfl rfl (vp_in_nI (by omega) (by decide)) dX8_costAt_60 ?_
      refine lv_ti (y := (fwalks cn)) (by rw [nI_clamp (by omega)]) ?_
      refine ro_i (D := D) (va_runV (As := [.int (nI sn), .int 0, .int (nI pi), .int (fwalks cn)]) (rest := []) ⟨hx, hb, hml, hown, hts⟩ ((n_takingBy l D k st lo a tx t0 we rd ru rw ca fp wd nu na ts df db sd dn se tm gs fprices sn pi 0 (fwalks cn) (by first | assumption | omega) (by first | assumption | omega)) s.heap.size) (cwV 4 hts (gV tw_1226 tw_1228 tw_44 tw_87 tw_1229) rfl rfl rfl (by decide +kernel) ⟨Nat.le_of_ble_eq_true rfl, Nat.le_of_ble_eq_true rfl⟩) (pV hS hAlo hlo hP hK hDL hZ [0, 1, 2, 4] (by decide) rfl (ci := 8) (q := (RX8, TX8, 44)) (q0 := 0) rfl rfl) rfl rfl hl.1 rfl (lv_room (Nat.le_of_ble_eq_true rfl)) dX8_costAt_61 ⟨Nat.le_of_ble_eq_true rfl, Nat.le_of_ble_eq_true rfl⟩) hS hA hP (fun r_3 H locs hw_3 hP hS => ?_)
      try dsimp only at hw_3
      refine lv_iload hx hb dX8_costAt_64 (lv_at hl 0 rfl) ?_
      refine lv_iadd hx hb dX8_costAt_66 ?_
      refine lv_topi (fun x_4 ex_4 => ?_)
      refine lv_aload_n hx hb dX8_costAt_67 rfl (lv_at hl 1 rfl) ?_
      refine lv_iload_n hx hb dX8_costAt_68 rfl (lv_at hl 2 rfl) ?_
      refine lv_iconst (v := 2) hx hb dX8_costAt_69 (by decide) ?_
      refine ro_i (D := D) (va_runV (As := [.int (nI sn), .int 2]) (rest := [.int x_4]) ⟨hx, hb, hml, hown, hts⟩ ((m_of l D k st lo a tx t0 we rd ru rw ca fp wd nu na ts df db sd se tm gs sn 2 (by first | assumption | omega) (by first | assumption | omega)) H.size) (cwV 2 hts (gV tw_1194 tw_1196 tw_39 tw_87 tw_1197) rfl rfl rfl (by decide +kernel) ⟨Nat.le_of_ble_eq_true rfl, Nat.le_of_ble_eq_true rfl⟩) (pV hS hAlo hlo hP hK hDL hZ [0, 2] (by decide) rfl (ci := 8) (q := (RX8, TX8, 44)) (q0 := 0) rfl rfl) rfl rfl hl.1 rfl (lv_room (Nat.le_of_ble_eq_true rfl)) dX8_costAt_70 ⟨Nat.le_of_ble_eq_true rfl, Nat.le_of_ble_eq_true rfl⟩) hS hA hP (fun r_5 H locs hw_5 hP hS => ?_)
      try dsimp only at hw_5
      refine lv_sipush (v := 1000) hx hb dX8_costAt_73 (by decide) ?_
      refine lv_imul hx hb dX8_costAt_76 ?_
      refine lv_topi (fun x_6 ex_6 => ?_)
      refine lv_iload_n hx hb dX8_costAt_77 rfl (lv_at hl 4 rfl) ?_
      refine lv_imul hx hb dX8_costAt_78 ?_
      refine lv_topi (fun x_7 ex_7 => ?_)
      refine lv_iadd hx hb dX8_costAt_79 ?_
      refine lv_topi (fun x_8 ex_8 => ?_)
      exact W.iret (v := x_8) hx hb hr (fun t ht hW => ⟨⟨x_8, (), rfl, (by rw [ex_8, ex_7, ex_6, ex_4, hw_3, hw_5, mPass (dn := dn) (ffr := ffrees) (fpr := fprices), (show fM_takingBy dn se tm gs fprices sn pi 0 (fwalks cn) = pTakeBy (sdM dn (sg se tm gs) ffrees fprices sn) (fwalks cn) 0 pi from mTakeBy (ffr := ffrees) (r := 0) hlt_9)]; exact pD_z (d := (sdM dn (sg se tm gs) ffrees fprices sn)) hlt_9 (Int32.not_le.mpr c_2)), trivial⟩, hS.F ht⟩) hS.2.2 dX8_costAt_80
    · refine lv_aload_n hx hb dX8_costAt_37 rfl (lv_at hl 0 rfl) ?_
      refine va_get (D := D) (ci := 8) (v := .int db) (C := RX8) (T := TX8) (N := 44) hx hb hts inX8 hown hK hP 0 rfl rfl 38 (by decide) (hts _ tw_1011) (fun _ h9 => h9) rfl dX8_costAt_38 ?_
      refine lv_sipush (v := 1000) hx hb dX8_costAt_41 (by decide) ?_
      refine lv_imul hx hb dX8_costAt_44 ?_
      refine lv_topi (fun x_9 ex_9 => ?_)
      refine lv_goto (tgt := 49) hx hb dX8_costAt_45 (by decide) ?_
      refine lv_istore (lv' := [(4, .int x_9), (0, .ref (a 0)), (1, .int (nI sn)), (2, .int (nI cn)), (3, .int (nI pi))]) hx hb dX8_costAt_49 hl (by decide) rfl (fun ls hl => ?_)
      refine lv_aload_n hx hb dX8_costAt_51 rfl (lv_at hl 1 rfl) ?_
      refine lv_iload_n hx hb dX8_costAt_52 rfl (lv_at hl 2 rfl) ?_
      refine lv_iconst (v := 0) hx hb dX8_costAt_53 (by decide) ?_
      refine lv_iload_n hx hb dX8_costAt_54 rfl (lv_at hl 4 rfl) ?_
      refine lv_aload_n hx hb dX8_costAt_55 rfl (lv_at hl 1 rfl) ?_
      refine va_get (D := D) (ci := 8) (v := .ref (a 36)) (C := RX8) (T := TX8) (N := 44) hx hb hts inX8 hown hK hP 0 rfl rfl 35 (by decide) (hts _ tw_1008) (fun _ h9 => h9) rfl dX8_costAt_56 ?_
      refine lv_iload_n hx hb dX8_costAt_59 rfl (lv_at hl 3 rfl) ?_
      refine va_iald hx hb hK hP 5 1 rfl rfl (vp_in_nI (by omega) (by decide)) dX8_costAt_60 ?_
      refine lv_ti (y := (fwalks cn)) (by rw [nI_clamp (by omega)]) ?_
      refine ro_i (D := D) (va_runV (As := [.int (nI sn), .int 0, .int (nI pi), .int (fwalks cn)]) (rest := []) ⟨hx, hb, hml, hown, hts⟩ ((n_takingBy l D k st lo a tx t0 we rd ru rw ca fp wd nu na ts df db sd dn se tm gs fprices sn pi 0 (fwalks cn) (by first | assumption | omega) (by first | assumption | omega)) s.heap.size) (cwV 4 hts (gV tw_1226 tw_1228 tw_44 tw_87 tw_1229) rfl rfl rfl (by decide +kernel) ⟨Nat.le_of_ble_eq_true rfl, Nat.le_of_ble_eq_true rfl⟩) (pV hS hAlo hlo hP hK hDL hZ [0, 1, 2, 4] (by decide) rfl (ci := 8) (q := (RX8, TX8, 44)) (q0 := 0) rfl rfl) rfl rfl hl.1 rfl (lv_room (Nat.le_of_ble_eq_true rfl)) dX8_costAt_61 ⟨Nat.le_of_ble_eq_true rfl, Nat.le_of_ble_eq_true rfl⟩) hS hA hP (fun r_10 H locs hw_10 hP hS => ?_)
      try dsimp only at hw_10
      refine lv_iload hx hb dX8_costAt_64 (lv_at hl 0 rfl) ?_
      refine lv_iadd hx hb dX8_costAt_66 ?_
      refine lv_topi (fun x_11 ex_11 => ?_)
      refine lv_aload_n hx hb dX8_costAt_67 rfl (lv_at hl 1 rfl) ?_
      refine lv_iload_n hx hb dX8_costAt_68 rfl (lv_at hl 2 rfl) ?_
      refine lv_iconst (v := 2) hx hb dX8_costAt_69 (by decide) ?_
      refine ro_i (D := D) (va_runV (As := [.int (nI sn), .int 2]) (rest := [.int x_11]) ⟨hx, hb, hml, hown, hts⟩ ((m_of l D k st lo a tx t0 we rd ru rw ca fp wd nu na ts df db sd se tm gs sn 2 (by first | assumption | omega) (by first | assumption | omega)) H.size) (cwV 2 hts (gV tw_1194 tw_1196 tw_39 tw_87 tw_1197) rfl rfl rfl (by decide +kernel) ⟨Nat.le_of_ble_eq_true rfl, Nat.le_of_ble_eq_true rfl⟩) (pV hS hAlo hlo hP hK hDL hZ [0, 2] (by decide) rfl (ci := 8) (q := (RX8, TX8, 44)) (q0 := 0) rfl rfl) rfl rfl hl.1 rfl (lv_room (Nat.le_of_ble_eq_true rfl)) dX8_costAt_70 ⟨Nat.le_of_ble_eq_true rfl, Nat.le_of_ble_eq_true rfl⟩) hS hA hP (fun r_12 H locs hw_12 hP hS => ?_)
      try dsimp only at hw_12
      refine lv_sipush (v := 1000) hx hb dX8_costAt_73 (by decide) ?_
      refine lv_imul hx hb dX8_costAt_76 ?_
      refine lv_topi (fun x_13 ex_13 => ?_)
      refine lv_iload_n hx hb dX8_costAt_77 rfl (lv_at hl 4 rfl) ?_
      refine lv_imul hx hb dX8_costAt_78 ?_
      refine lv_topi (fun x_14 ex_14 => ?_)
      refine lv_iadd hx hb dX8_costAt_79 ?_
      refine lv_topi (fun x_15 ex_15 => ?_)
      exact W.iret (v := x_15) hx hb hr (fun t ht hW => ⟨⟨x_15, (), rfl, (by rw [ex_15, ex_14, ex_13, ex_11, hw_10, hw_12, ex_9, mPass (dn := dn) (ffr := ffrees) (fpr := fprices), (show fM_takingBy dn se tm gs fprices sn pi 0 (fwalks cn) = pTakeBy (sdM dn (sg se tm gs) ffrees fprices sn) (fwalks cn) 0 pi from mTakeBy (ffr := ffrees) (r := 0) hlt_9)]; exact pD_y (d := (sdM dn (sg se tm gs) ffrees fprices sn)) hlt_9 (Int32.not_lt.mp c_2)), trivial⟩, hS.F ht⟩) hS.2.2 dX8_costAt_80
  · refine lv_aload_n hx hb dX8_costAt_4 rfl (lv_at hl 0 rfl) ?_
    refine lv_iload_n hx hb dX8_costAt_5 rfl (lv_at hl 1 rfl) ?_
    refine lv_iconst (v := 0) hx hb dX8_costAt_6 (by decide) ?_
    refine ro_i (D := D) (va_runV (As := [.int (nI sn), .int 0]) (rest := []) ⟨hx, hb, hml, hown, hts⟩ ((n_garageOf l D k st lo a tx t0 we rd ru rw ca fp wd nu na ts df db sd dn se tm gs sn 0 (by first | assumption | omega)) s.heap.size) (cwV 2 hts (gV tw_1258 tw_1260 tw_51 tw_87 tw_1261) rfl rfl rfl (by decide +kernel) ⟨Nat.le_of_ble_eq_true rfl, Nat.le_of_ble_eq_true rfl⟩) (pV hS hAlo hlo hP hK hDL hZ [0, 1, 2] (by decide) rfl (ci := 8) (q := (RX8, TX8, 44)) (q0 := 0) rfl rfl) rfl rfl hl.1 rfl (lv_room (Nat.le_of_ble_eq_true rfl)) dX8_costAt_7 ⟨Nat.le_of_ble_eq_true rfl, Nat.le_of_ble_eq_true rfl⟩) hS hA hP (fun r_16 H locs hw_16 hP hS => ?_)
    try dsimp only at hw_16
    refine lv_aload_n hx hb dX8_costAt_10 rfl (lv_at hl 0 rfl) ?_
    refine lv_iload_n hx hb dX8_costAt_11 rfl (lv_at hl 1 rfl) ?_
    refine lv_iconst (v := 2) hx hb dX8_costAt_12 (by decide) ?_
    refine ro_i (D := D) (va_runV (As := [.int (nI sn), .int 2]) (rest := [.int r_16]) ⟨hx, hb, hml, hown, hts⟩ ((m_of l D k st lo a tx t0 we rd ru rw ca fp wd nu na ts df db sd se tm gs sn 2 (by first | assumption | omega) (by first | assumption | omega)) H.size) (cwV 2 hts (gV tw_1194 tw_1196 tw_39 tw_87 tw_1197) rfl rfl rfl (by decide +kernel) ⟨Nat.le_of_ble_eq_true rfl, Nat.le_of_ble_eq_true rfl⟩) (pV hS hAlo hlo hP hK hDL hZ [0, 2] (by decide) rfl (ci := 8) (q := (RX8, TX8, 44)) (q0 := 0) rfl rfl) rfl rfl hl.1 rfl (lv_room (Nat.le_of_ble_eq_true rfl)) dX8_costAt_13 ⟨Nat.le_of_ble_eq_true rfl, Nat.le_of_ble_eq_true rfl⟩) hS hA hP (fun r_17 H locs hw_17 hP hS => ?_)
    try dsimp only at hw_17
    refine lv_sipush (v := 1000) hx hb dX8_costAt_16 (by decide) ?_
    refine lv_imul hx hb dX8_costAt_19 ?_
    refine lv_topi (fun x_18 ex_18 => ?_)
    refine lv_aload_n hx hb dX8_costAt_20 rfl (lv_at hl 0 rfl) ?_
    refine va_get (D := D) (ci := 8) (v := .ref (a 1)) (C := RX8) (T := TX8) (N := 44) hx hb hts inX8 hown hK hP 0 rfl rfl 0 (by decide) (hts _ tw_973) (fun _ h9 => h9) rfl dX8_costAt_21 ?_
    refine lv_iload_n hx hb dX8_costAt_24 rfl (lv_at hl 1 rfl) ?_
    refine va_iald hx hb hK hP 1 1 rfl rfl (vp_in_nI (by omega) (by decide)) dX8_costAt_25 ?_
    refine lv_ti (y := (nI (dn sn))) (by rw [nI_clamp (by omega)]; rfl) ?_
    refine lv_imul hx hb dX8_costAt_26 ?_
    refine lv_topi (fun x_19 ex_19 => ?_)
    refine lv_iadd hx hb dX8_costAt_27 ?_
    refine lv_topi (fun x_20 ex_20 => ?_)
    exact W.iret (v := x_20) hx hb hr (fun t ht hW => ⟨⟨x_20, (), rfl, (by rw [ex_20, ex_19, ex_18, hw_16, hw_17, mPass (dn := dn) (ffr := ffrees) (fpr := fprices), (show fM_garage dn se tm gs sn 0 = pGar (sdM dn (sg se tm gs) ffrees fprices sn) 0 from mGar (r := 0))]; exact pD_g (d := (sdM dn (sg se tm gs) ffrees fprices sn)) (dv_ge (by omega) hpz c_1) hpi), trivial⟩, hS.F ht⟩) hS.2.2 dX8_costAt_28


set_option maxHeartbeats 4000000 in
set_option maxRecDepth 100000 in
theorem n_parkAll (l : Launch) (D : va_G) (k : Nat → ClassId) (st : Nat → Nat) (lo : Nat) (a : Nat → Nat) (tx : Nat) (t0 : Nat) (we : Nat) (rd : Nat) (ru : Nat) (rw : Nat) (ca : Nat) (fp : Int32) (wd : Int64) (nu : Int32) (na : Int32) (ts : Int32) (df : Int32) (db : Int32) (sd : Int32) (dn : Nat → Nat) (br : Nat → Nat) (fdoorsOf : Nat → Int32) (sn : Nat) (se9 : Nat) (hdn : ∀ j, dn j ≤ 24) (hca : ca ≤ 4) (hbr : ∀ j, br j ≤ 24) (hs : sn < 3) (hdv : dvOK fdoorsOf) (hse9 : se9 < 2 ^ dn sn) : CWv l D k st lo yX8_parkAll cX8_parkAll 6 none ({ frames := 0, cells := 0, slots := 0, locals := 0 }) 0 0 [.ref (a 0), .int (nI sn), .int (nI se9)] [((a 0), .inr (8, (fX8 a (nI tx) fp (nI t0) wd (nI we) nu na (nI rd) ts (nI ru) (nI rw) (nI ca) df db sd))), (aI k (a 1) 3 (nF dn)), (aI k (a 37) 4 (nF br)), (aI k (a 40) 4 fdoorsOf)] (fun (fdoorsOf_ : (Nat → Int32)) => (∀ k, k < ca → fdoorsOf_ k = dvI (dn sn) (plc (dn sn) (LF (dn sn) br se9 k) (br k))) ∧ dvOK fdoorsOf_) (fun (fdoorsOf_ : (Nat → Int32)) => [((a 0), .inr (8, (fX8 a (nI tx) fp (nI t0) wd (nI we) nu na (nI rd) ts (nI ru) (nI rw) (nI ca) df db sd))), (aI k (a 1) 3 (nF dn)), (aI k (a 37) 4 (nF br)), (aI k (a 40) 4 fdoorsOf_)]) := by
  intro sz
  refine Met.ofW (cc := cX8_parkAll) (maxL := 6) (ret := none) (by decide) rfl ?_
  intro p e s m args below meth c s₁ B hml hv
  obtain ⟨rfl, hsz, hlo, hP, hK, hDL, hZ⟩ := hv
  have hx := B.exec
  have hb := B.bytes
  have hr := B.returns
  have hts := WS_ts B.pre
  have hown : s.vm.findClass RX8 = some m.cls := findClass_of_methodNamed B.named
  have hlocks := B.notSynchronized
  subst hsz
  have hD := hDL.self (sz := s.heap.size)
  have hAlo := A_lo hDL hlo
  generalize hAe : va_A [((a 0), .inr (8, (fX8 a (nI tx) fp (nI t0) wd (nI we) nu na (nI rd) ts (nI ru) (nI rw) (nI ca) df db sd))), (aI k (a 1) 3 (nF dn)), (aI k (a 37) 4 (nF br)), (aI k (a 40) 4 fdoorsOf)] s.heap.size = A at hD hAlo ⊢
  have hA : ∀ q : Nat, s.heap.size ≤ q → A q := fun q h => by rw [← hAe]; exact Or.inr h
  have hS : va_S A s.heap s.heap [] := va_S.rf
  have hl := lv_entry ([.ref (a 0), .int (nI sn), .int (nI se9)]) (n := 6) (Nat.le_of_ble_eq_true rfl)
  rw [lg_entry_eq]
  generalize (lg_sl ([.ref (a 0), .int (nI sn), .int (nI se9)]) ++ List.replicate (6 - (lg_sl ([.ref (a 0), .int (nI sn), .int (nI se9)])).length) Slot.unset).toArray = ls at hl ⊢
  have hl : lv_has ls 6 [(0, .ref (a 0)), (1, .int (nI sn)), (2, .int (nI se9))] := hl
  have hd_9 := hdn sn
  have hpw_9 := pw31 hd_9
  refine lv_iload_n hx hb dX8_parkAll_0 rfl (lv_at hl 2 rfl) ?_
  refine lv_istore_n (lv' := [(3, .int (nI se9)), (0, .ref (a 0)), (1, .int (nI sn)), (2, .int (nI se9))]) hx hb dX8_parkAll_1 rfl hl (by decide) rfl (fun ls hl => ?_)
  refine lv_iconst (v := 0) hx hb dX8_parkAll_2 (by decide) ?_
  refine lv_istore (lv' := [(4, .int 0), (3, .int (nI se9)), (0, .ref (a 0)), (1, .int (nI sn)), (2, .int (nI se9))]) hx hb dX8_parkAll_3 hl (by decide) rfl (fun ls hl => ?_)
  refine W_loop (σ := Nat × Nat × (Nat → Int32)) (fun (n_ : Nat) (x_ : Nat × Nat × (Nat → Int32)) (H : Heap) (locs : List Loc) (ls : Array Slot) => match x_ with | (cq_1, lf_1, fd_1) => n_ = 5 - cq_1 ∧ ((cq_1 ≤ ca ∧ lf_1 = LF (dn sn) br se9 cq_1 ∧ lf_1 ≤ se9) ∧ (∀ k, k < cq_1 → fd_1 k = dvI (dn sn) (plc (dn sn) (LF (dn sn) br se9 k) (br k))) ∧ dvOK fd_1) ∧ va_P D classes [((a 0), .inr (8, (fX8 a (nI tx) fp (nI t0) wd (nI we) nu na (nI rd) ts (nI ru) (nI rw) (nI ca) df db sd))), (aI k (a 1) 3 (nF dn)), (aI k (a 37) 4 (nF br)), (aI k (a 40) 4 fd_1)] H ∧ va_D A [((a 0), .inr (8, (fX8 a (nI tx) fp (nI t0) wd (nI we) nu na (nI rd) ts (nI ru) (nI rw) (nI ca) df db sd))), (aI k (a 1) 3 (nF dn)), (aI k (a 37) 4 (nF br)), (aI k (a 40) 4 fd_1)] ∧ va_S A s.heap H locs ∧ lv_has ls 6 [(4, .int (nI cq_1)), (3, .int (nI lf_1)), (0, .ref (a 0)), (1, .int (nI sn)), (2, .int (nI se9))]) (fun n_1 x_1 H locs ls hI ih_1 => ?_) _ (0, se9, fdoorsOf) ⟨rfl, ⟨⟨by omega, rfl, Nat.le_refl _⟩, fun k h => absurd h (Nat.not_lt_zero k), hdv⟩, hP, hD, hS, (lv_sub hl [0, 1, 2, 3, 4] rfl)⟩
  obtain ⟨cq_1, lf_1, fd_1⟩ := x_1
  obtain ⟨hm_1, hv_1, hP, hD, hS, hl⟩ := hI
  subst hm_1
  refine lv_iload hx hb dX8_parkAll_5 (lv_at hl 0 rfl) ?_
  refine lv_aload_n hx hb dX8_parkAll_7 rfl (lv_at hl 2 rfl) ?_
  refine va_get (D := D) (ci := 8) (v := .int (nI ca)) (C := RX8) (T := TX8) (N := 44) hx hb hts inX8 hown hK hP 0 rfl rfl 34 (by decide) (hts _ tw_1007) (fun _ h9 => h9) rfl dX8_parkAll_8 ?_
  refine lv_icmp_ge (tgt := 118) hx hb dX8_parkAll_11 (by decide) (fun c_2 => ?_) (fun c_2 => ?_)
  · have c_2 := (nI_leI (a := ca) (b := cq_1) (by omega) (by omega)).mp c_2
    obtain ⟨hP9, hD9⟩ := pd_sub [((a 0), .inr (8, (fX8 a (nI tx) fp (nI t0) wd (nI we) nu na (nI rd) ts (nI ru) (nI rw) (nI ca) df db sd))), (aI k (a 1) 3 (nF dn)), (aI k (a 37) 4 (nF br)), (aI k (a 40) 4 fd_1)] [0, 1, 2, 3] hP hD (by decide) rfl
    exact W.vret hx hb hr (fun t ht hW => ⟨⟨fd_1, rfl, ⟨fun k hk => hv_1.2.1 k (by omega), hv_1.2.2⟩, by rw [ht]; exact hP9, hD9⟩, hS.F ht⟩) hS.2.2 dX8_parkAll_118
  · have c_2 : ¬ (ca ≤ cq_1) := fun h => c_2 ((nI_leI (a := ca) (b := cq_1) (by omega) (by omega)).mpr h)
    refine lv_aload_n hx hb dX8_parkAll_14 rfl (lv_at hl 2 rfl) ?_
    refine va_get (D := D) (ci := 8) (v := .ref (a 40)) (C := RX8) (T := TX8) (N := 44) hx hb hts inX8 hown hK hP 0 rfl rfl 39 (by decide) (hts _ tw_1012) (fun _ h9 => h9) rfl dX8_parkAll_15 ?_
    refine lv_iload hx hb dX8_parkAll_18 (lv_at hl 0 rfl) ?_
    refine lv_iconst (v := (-1)) hx hb dX8_parkAll_20 (by decide) ?_
    refine va_iast hx hb hK hP hD hS 3 1 rfl rfl (vp_in_nI (by omega) (by decide)) dX8_parkAll_21 (fun H locs hP hD hS => ?_)
    have hQ9 := pd_mk [((a 0), .inr (8, (fX8 a (nI tx) fp (nI t0) wd (nI we) nu na (nI rd) ts (nI ru) (nI rw) (nI ca) df db sd))), (aI k (a 1) 3 (nF dn)), (aI k (a 37) 4 (nF br)), (aI k (a 40) 4 (upd fd_1 (Int32.toNatClampNeg (nI cq_1)) (-1)))] hP hD
    clear hP hD
    obtain ⟨hP, hD⟩ := hQ9
    rw [nI_clamp (n := cq_1) (by omega)] at hP hD
    have hQ9 := pd_mk [((a 0), .inr (8, (fX8 a (nI tx) fp (nI t0) wd (nI we) nu na (nI rd) ts (nI ru) (nI rw) (nI ca) df db sd))), (aI k (a 1) 3 (nF dn)), (aI k (a 37) 4 (nF br)), (aI k (a 40) 4 (upd fd_1 cq_1 (-1)))] hP hD
    clear hP hD
    obtain ⟨hP, hD⟩ := hQ9
    refine lv_aload_n hx hb dX8_parkAll_22 rfl (lv_at hl 2 rfl) ?_
    refine va_get (D := D) (ci := 8) (v := .ref (a 1)) (C := RX8) (T := TX8) (N := 44) hx hb hts inX8 hown hK hP 0 rfl rfl 0 (by decide) (hts _ tw_973) (fun _ h9 => h9) rfl dX8_parkAll_23 ?_
    refine lv_iload_n hx hb dX8_parkAll_26 rfl (lv_at hl 3 rfl) ?_
    refine va_iald hx hb hK hP 1 1 rfl rfl (vp_in_nI (by omega) (by decide)) dX8_parkAll_27 ?_
    refine lv_ti (y := (nI (dn sn))) (by rw [nI_clamp (by omega)]; rfl) ?_
    refine lv_iconst (v := 1) hx hb dX8_parkAll_28 (by decide) ?_
    refine lv_isub hx hb dX8_parkAll_29 ?_
    refine lv_ti (y := (nI (dn sn) - 1)) rfl ?_
    refine lv_istore (lv' := [(5, .int (nI (dn sn) - 1)), (4, .int (nI cq_1)), (3, .int (nI lf_1)), (0, .ref (a 0)), (1, .int (nI sn)), (2, .int (nI se9))]) hx hb dX8_parkAll_30 hl (by decide) rfl (fun ls hl => ?_)
    refine W_loop (σ := Nat × (Nat → Int32)) (fun (n_ : Nat) (x_ : Nat × (Nat → Int32)) (H : Heap) (locs : List Loc) (ls : Array Slot) => match x_ with | (q_4, fd2_4) => n_ = 2 * q_4 ∧ (q_4 ≤ (dn sn) ∧ (br cq_1 ≤ q_4 ∨ q_4 = (dn sn)) ∧ fd2_4 cq_1 = dvI (dn sn) (plc (dn sn) lf_1 q_4) ∧ (∀ k, k < cq_1 → fd2_4 k = dvI (dn sn) (plc (dn sn) (LF (dn sn) br se9 k) (br k))) ∧ dvOK fd2_4) ∧ va_P D classes [((a 0), .inr (8, (fX8 a (nI tx) fp (nI t0) wd (nI we) nu na (nI rd) ts (nI ru) (nI rw) (nI ca) df db sd))), (aI k (a 1) 3 (nF dn)), (aI k (a 37) 4 (nF br)), (aI k (a 40) 4 fd2_4)] H ∧ va_D A [((a 0), .inr (8, (fX8 a (nI tx) fp (nI t0) wd (nI we) nu na (nI rd) ts (nI ru) (nI rw) (nI ca) df db sd))), (aI k (a 1) 3 (nF dn)), (aI k (a 37) 4 (nF br)), (aI k (a 40) 4 fd2_4)] ∧ va_S A s.heap H locs ∧ lv_has ls 6 [(5, .int (nI q_4 - 1)), (4, .int (nI cq_1)), (3, .int (nI lf_1)), (0, .ref (a 0)), (1, .int (nI sn)), (2, .int (nI se9))]) (fun n_4 x_4 H locs ls hI ih_4 => ?_) _ (dn sn, (upd fd_1 cq_1 (-1))) ⟨rfl, ⟨by omega, .inr rfl, (by rw [pk_us, pl_out (Nat.lt_irrefl _), dv_n (Nat.lt_irrefl _)]), fun k hk => (pk_un (by omega)).trans (hv_1.2.1 k hk), dvOK_upd hv_1.2.2 _ _ (.inl (by decide))⟩, hP, hD, hS, (lv_sub hl [0, 1, 2, 3, 4, 5] rfl)⟩
    obtain ⟨q_4, fd2_4⟩ := x_4
    obtain ⟨hm_4, hv_4, hP, hD, hS, hl⟩ := hI
    subst hm_4
    rcases q_4 with _ | q_4
    · rw [dn0] at hl
      refine lv_iload hx hb dX8_parkAll_32 (lv_at hl 0 rfl) ?_
      refine lv_if_lt (tgt := 84) hx hb dX8_parkAll_34 (by decide) (fun _ => ?_) (fun h => absurd (by decide) h)
      have hfz_5 : fd2_4 cq_1 = dvI (dn sn) (plc (dn sn) lf_1 (br cq_1)) := by rw [hv_4.2.2.1, pl_end (q := 0) (b := br cq_1) hv_4.2.1 (by omega)]
      refine lv_iload_n hx hb dX8_parkAll_84 rfl (lv_at hl 2 rfl) ?_
      refine lv_aload_n hx hb dX8_parkAll_85 rfl (lv_at hl 3 rfl) ?_
      refine va_get (D := D) (ci := 8) (v := .ref (a 40)) (C := RX8) (T := TX8) (N := 44) hx hb hts inX8 hown hK hP 0 rfl rfl 39 (by decide) (hts _ tw_1012) (fun _ h9 => h9) rfl dX8_parkAll_86 ?_
      refine lv_iload hx hb dX8_parkAll_89 (lv_at hl 1 rfl) ?_
      refine va_iald hx hb hK hP 3 1 rfl rfl (vp_in_nI (by omega) (by decide)) dX8_parkAll_91 ?_
      refine lv_ti (y := (fd2_4 cq_1)) (by rw [nI_clamp (by omega)]) ?_
      refine lv_if_ge (tgt := 99) hx hb dX8_parkAll_92 (by decide) (fun c_6 => ?_) (fun c_6 => ?_)
      · refine lv_iconst (v := 1) hx hb dX8_parkAll_99 (by decide) ?_
        refine lv_aload_n hx hb dX8_parkAll_100 rfl (lv_at hl 3 rfl) ?_
        refine va_get (D := D) (ci := 8) (v := .ref (a 40)) (C := RX8) (T := TX8) (N := 44) hx hb hts inX8 hown hK hP 0 rfl rfl 39 (by decide) (hts _ tw_1012) (fun _ h9 => h9) rfl dX8_parkAll_101 ?_
        refine lv_iload hx hb dX8_parkAll_104 (lv_at hl 1 rfl) ?_
        refine va_iald hx hb hK hP 3 1 rfl rfl (vp_in_nI (by omega) (by decide)) dX8_parkAll_106 ?_
        refine lv_ti (y := (fd2_4 cq_1)) (by rw [nI_clamp (by omega)]) ?_
        refine lv_ishl hx hb dX8_parkAll_107 ?_
        refine lv_topi (fun x_7 ex_7 => ?_)
        refine lv_iconst (v := (-1)) hx hb dX8_parkAll_108 (by decide) ?_
        refine lv_ixor hx hb dX8_parkAll_109 ?_
        refine lv_topi (fun x_8 ex_8 => ?_)
        refine lv_iand hx hb dX8_parkAll_110 ?_
        refine lv_ti (y := (nI (rmv lf_1 (plc (dn sn) lf_1 (br cq_1))))) (by rw [ex_8, ex_7]; exact lf_d (n := (dn sn)) (by omega) hfz_5 c_6) ?_
        refine lv_istore_n (lv' := [(3, .int (nI (rmv lf_1 (plc (dn sn) lf_1 (br cq_1))))), (5, .int (-1)), (4, .int (nI cq_1)), (0, .ref (a 0)), (1, .int (nI sn)), (2, .int (nI se9))]) hx hb dX8_parkAll_111 rfl hl (by decide) rfl (fun ls hl => ?_)
        refine lv_iinc (v := (nI (cq_1 + 1))) (lv' := [(4, .int (nI (cq_1 + 1))), (3, .int (nI (rmv lf_1 (plc (dn sn) lf_1 (br cq_1))))), (5, .int (-1)), (0, .ref (a 0)), (1, .int (nI sn)), (2, .int (nI se9))]) hx hb dX8_parkAll_112 hl (k := 2) rfl (nI_add cq_1 1) (by decide) rfl (fun ls hl => ?_)
        refine lv_goto (tgt := 5) hx hb dX8_parkAll_115 (by decide) ?_
        exact ih_1 _ (cq_1 + 1, rmv lf_1 (plc (dn sn) lf_1 (br cq_1)), fd2_4) _ _ _ (by omega) ⟨rfl, ⟨⟨by omega, (by show _ = rmv (LF (dn sn) br se9 cq_1) (plc (dn sn) (LF (dn sn) br se9 cq_1) (br cq_1)); rw [← hv_1.1.2.1]), Nat.le_trans rmv_le hv_1.1.2.2⟩, fun k hk => by rcases (show k = cq_1 ∨ k < cq_1 by omega) with e | e; rw [e, hfz_5, hv_1.1.2.1]; exact hv_4.2.2.2.1 k e, hv_4.2.2.2.2⟩, hP, hD, hS, (lv_sub hl [0, 1, 3, 4, 5] rfl)⟩
      · refine lv_iconst (v := (-1)) hx hb dX8_parkAll_95 (by decide) ?_
        refine lv_goto (tgt := 110) hx hb dX8_parkAll_96 (by decide) ?_
        refine lv_iand hx hb dX8_parkAll_110 ?_
        refine lv_ti (y := (nI (rmv lf_1 (plc (dn sn) lf_1 (br cq_1))))) (lf_g (n := (dn sn)) (by omega) (by omega) pl_le hfz_5 c_6) ?_
        refine lv_istore_n (lv' := [(3, .int (nI (rmv lf_1 (plc (dn sn) lf_1 (br cq_1))))), (5, .int (-1)), (4, .int (nI cq_1)), (0, .ref (a 0)), (1, .int (nI sn)), (2, .int (nI se9))]) hx hb dX8_parkAll_111 rfl hl (by decide) rfl (fun ls hl => ?_)
        refine lv_iinc (v := (nI (cq_1 + 1))) (lv' := [(4, .int (nI (cq_1 + 1))), (3, .int (nI (rmv lf_1 (plc (dn sn) lf_1 (br cq_1))))), (5, .int (-1)), (0, .ref (a 0)), (1, .int (nI sn)), (2, .int (nI se9))]) hx hb dX8_parkAll_112 hl (k := 2) rfl (nI_add cq_1 1) (by decide) rfl (fun ls hl => ?_)
        refine lv_goto (tgt := 5) hx hb dX8_parkAll_115 (by decide) ?_
        exact ih_1 _ (cq_1 + 1, rmv lf_1 (plc (dn sn) lf_1 (br cq_1)), fd2_4) _ _ _ (by omega) ⟨rfl, ⟨⟨by omega, (by show _ = rmv (LF (dn sn) br se9 cq_1) (plc (dn sn) (LF (dn sn) br se9 cq_1) (br cq_1)); rw [← hv_1.1.2.1]), Nat.le_trans rmv_le hv_1.1.2.2⟩, fun k hk => by rcases (show k = cq_1 ∨ k < cq_1 by omega) with e | e; rw [e, hfz_5, hv_1.1.2.1]; exact hv_4.2.2.2.1 k e, hv_4.2.2.2.2⟩, hP, hD, hS, (lv_sub hl [0, 1, 3, 4, 5] rfl)⟩
    · rw [nI_pred] at hl
      refine lv_iload hx hb dX8_parkAll_32 (lv_at hl 0 rfl) ?_
      refine lv_if_lt (tgt := 84) hx hb dX8_parkAll_34 (by decide) (fun h => absurd h (nI_pos0 (by omega))) (fun _ => ?_)
      refine lv_iload hx hb dX8_parkAll_37 (lv_at hl 0 rfl) ?_
      refine lv_aload_n hx hb dX8_parkAll_39 rfl (lv_at hl 3 rfl) ?_
      refine va_get (D := D) (ci := 8) (v := .ref (a 37)) (C := RX8) (T := TX8) (N := 44) hx hb hts inX8 hown hK hP 0 rfl rfl 36 (by decide) (hts _ tw_1009) (fun _ h9 => h9) rfl dX8_parkAll_40 ?_
      refine lv_iload hx hb dX8_parkAll_43 (lv_at hl 1 rfl) ?_
      refine va_iald hx hb hK hP 2 1 rfl rfl (vp_in_nI (by omega) (by decide)) dX8_parkAll_45 ?_
      have hq_9 := hbr cq_1
      refine lv_ti (y := (nI (br cq_1))) (by rw [nI_clamp (by omega)]; rfl) ?_
      refine lv_icmp_lt (tgt := 84) hx hb dX8_parkAll_46 (by decide) (fun c_10 => ?_) (fun c_10 => ?_)
      · have c_10 := (nI_ltI (a := q_4) (b := (br cq_1)) (by omega) (by omega)).mp c_10
        have hfz_11 : fd2_4 cq_1 = dvI (dn sn) (plc (dn sn) lf_1 (br cq_1)) := by rw [hv_4.2.2.1, pl_end (q := (q_4 + 1)) (b := br cq_1) hv_4.2.1 (by omega)]
        refine lv_iload_n hx hb dX8_parkAll_84 rfl (lv_at hl 2 rfl) ?_
        refine lv_aload_n hx hb dX8_parkAll_85 rfl (lv_at hl 3 rfl) ?_
        refine va_get (D := D) (ci := 8) (v := .ref (a 40)) (C := RX8) (T := TX8) (N := 44) hx hb hts inX8 hown hK hP 0 rfl rfl 39 (by decide) (hts _ tw_1012) (fun _ h9 => h9) rfl dX8_parkAll_86 ?_
        refine lv_iload hx hb dX8_parkAll_89 (lv_at hl 1 rfl) ?_
        refine va_iald hx hb hK hP 3 1 rfl rfl (vp_in_nI (by omega) (by decide)) dX8_parkAll_91 ?_
        refine lv_ti (y := (fd2_4 cq_1)) (by rw [nI_clamp (by omega)]) ?_
        refine lv_if_ge (tgt := 99) hx hb dX8_parkAll_92 (by decide) (fun c_12 => ?_) (fun c_12 => ?_)
        · refine lv_iconst (v := 1) hx hb dX8_parkAll_99 (by decide) ?_
          refine lv_aload_n hx hb dX8_parkAll_100 rfl (lv_at hl 3 rfl) ?_
          refine va_get (D := D) (ci := 8) (v := .ref (a 40)) (C := RX8) (T := TX8) (N := 44) hx hb hts inX8 hown hK hP 0 rfl rfl 39 (by decide) (hts _ tw_1012) (fun _ h9 => h9) rfl dX8_parkAll_101 ?_
          refine lv_iload hx hb dX8_parkAll_104 (lv_at hl 1 rfl) ?_
          refine va_iald hx hb hK hP 3 1 rfl rfl (vp_in_nI (by omega) (by decide)) dX8_parkAll_106 ?_
          refine lv_ti (y := (fd2_4 cq_1)) (by rw [nI_clamp (by omega)]) ?_
          refine lv_ishl hx hb dX8_parkAll_107 ?_
          refine lv_topi (fun x_13 ex_13 => ?_)
          refine lv_iconst (v := (-1)) hx hb dX8_parkAll_108 (by decide) ?_
          refine lv_ixor hx hb dX8_parkAll_109 ?_
          refine lv_topi (fun x_14 ex_14 => ?_)
          refine lv_iand hx hb dX8_parkAll_110 ?_
          refine lv_ti (y := (nI (rmv lf_1 (plc (dn sn) lf_1 (br cq_1))))) (by rw [ex_14, ex_13]; exact lf_d (n := (dn sn)) (by omega) hfz_11 c_12) ?_
          refine lv_istore_n (lv' := [(3, .int (nI (rmv lf_1 (plc (dn sn) lf_1 (br cq_1))))), (5, .int (nI q_4)), (4, .int (nI cq_1)), (0, .ref (a 0)), (1, .int (nI sn)), (2, .int (nI se9))]) hx hb dX8_parkAll_111 rfl hl (by decide) rfl (fun ls hl => ?_)
          refine lv_iinc (v := (nI (cq_1 + 1))) (lv' := [(4, .int (nI (cq_1 + 1))), (3, .int (nI (rmv lf_1 (plc (dn sn) lf_1 (br cq_1))))), (5, .int (nI q_4)), (0, .ref (a 0)), (1, .int (nI sn)), (2, .int (nI se9))]) hx hb dX8_parkAll_112 hl (k := 2) rfl (nI_add cq_1 1) (by decide) rfl (fun ls hl => ?_)
          refine lv_goto (tgt := 5) hx hb dX8_parkAll_115 (by decide) ?_
          exact ih_1 _ (cq_1 + 1, rmv lf_1 (plc (dn sn) lf_1 (br cq_1)), fd2_4) _ _ _ (by omega) ⟨rfl, ⟨⟨by omega, (by show _ = rmv (LF (dn sn) br se9 cq_1) (plc (dn sn) (LF (dn sn) br se9 cq_1) (br cq_1)); rw [← hv_1.1.2.1]), Nat.le_trans rmv_le hv_1.1.2.2⟩, fun k hk => by rcases (show k = cq_1 ∨ k < cq_1 by omega) with e | e; rw [e, hfz_11, hv_1.1.2.1]; exact hv_4.2.2.2.1 k e, hv_4.2.2.2.2⟩, hP, hD, hS, (lv_sub hl [0, 1, 3, 4, 5] rfl)⟩
        · refine lv_iconst (v := (-1)) hx hb dX8_parkAll_95 (by decide) ?_
          refine lv_goto (tgt := 110) hx hb dX8_parkAll_96 (by decide) ?_
          refine lv_iand hx hb dX8_parkAll_110 ?_
          refine lv_ti (y := (nI (rmv lf_1 (plc (dn sn) lf_1 (br cq_1))))) (lf_g (n := (dn sn)) (by omega) (by omega) pl_le hfz_11 c_12) ?_
          refine lv_istore_n (lv' := [(3, .int (nI (rmv lf_1 (plc (dn sn) lf_1 (br cq_1))))), (5, .int (nI q_4)), (4, .int (nI cq_1)), (0, .ref (a 0)), (1, .int (nI sn)), (2, .int (nI se9))]) hx hb dX8_parkAll_111 rfl hl (by decide) rfl (fun ls hl => ?_)
          refine lv_iinc (v := (nI (cq_1 + 1))) (lv' := [(4, .int (nI (cq_1 + 1))), (3, .int (nI (rmv lf_1 (plc (dn sn) lf_1 (br cq_1))))), (5, .int (nI q_4)), (0, .ref (a 0)), (1, .int (nI sn)), (2, .int (nI se9))]) hx hb dX8_parkAll_112 hl (k := 2) rfl (nI_add cq_1 1) (by decide) rfl (fun ls hl => ?_)
          refine lv_goto (tgt := 5) hx hb dX8_parkAll_115 (by decide) ?_
          exact ih_1 _ (cq_1 + 1, rmv lf_1 (plc (dn sn) lf_1 (br cq_1)), fd2_4) _ _ _ (by omega) ⟨rfl, ⟨⟨by omega, (by show _ = rmv (LF (dn sn) br se9 cq_1) (plc (dn sn) (LF (dn sn) br se9 cq_1) (br cq_1)); rw [← hv_1.1.2.1]), Nat.le_trans rmv_le hv_1.1.2.2⟩, fun k hk => by rcases (show k = cq_1 ∨ k < cq_1 by omega) with e | e; rw [e, hfz_11, hv_1.1.2.1]; exact hv_4.2.2.2.1 k e, hv_4.2.2.2.2⟩, hP, hD, hS, (lv_sub hl [0, 1, 3, 4, 5] rfl)⟩
      · have c_10 : ¬ (q_4 < (br cq_1)) := fun h => c_10 ((nI_ltI (a := q_4) (b := (br cq_1)) (by omega) (by omega)).mpr h)
        refine lv_aload_n hx hb dX8_parkAll_49 rfl (lv_at hl 3 rfl) ?_
        refine va_get (D := D) (ci := 8) (v := .ref (a 40)) (C := RX8) (T := TX8) (N := 44) hx hb hts inX8 hown hK hP 0 rfl rfl 39 (by decide) (hts _ tw_1012) (fun _ h9 => h9) rfl dX8_parkAll_50 ?_
        refine lv_iload hx hb dX8_parkAll_53 (lv_at hl 1 rfl) ?_
        refine lv_iload_n hx hb dX8_parkAll_55 rfl (lv_at hl 2 rfl) ?_
        refine lv_iload hx hb dX8_parkAll_56 (lv_at hl 0 rfl) ?_
        refine lv_ishr hx hb dX8_parkAll_58 ?_
        refine lv_ti (y := (nI (lf_1 / 2 ^ q_4))) (shr24 (by omega) (by omega)) ?_
        refine lv_iconst (v := 1) hx hb dX8_parkAll_59 (by decide) ?_
        refine lv_iand hx hb dX8_parkAll_60 ?_
        refine lv_ti (y := (nI ((lf_1 / 2 ^ q_4) % 2))) and_1 ?_
        refine lv_iconst (v := 1) hx hb dX8_parkAll_61 (by decide) ?_
        refine lv_icmp_ne (tgt := 70) hx hb dX8_parkAll_62 (by decide) (fun c_15 => ?_) (fun c_15 => ?_)
        · have c_15 : ¬ (((lf_1 / 2 ^ q_4) % 2) = 1) := fun h => c_15 ((nI_eq (a := ((lf_1 / 2 ^ q_4) % 2)) (b := 1) (by omega) (by omega)).mpr h)
          refine lv_aload_n hx hb dX8_parkAll_70 rfl (lv_at hl 3 rfl) ?_
          refine va_get (D := D) (ci := 8) (v := .ref (a 40)) (C := RX8) (T := TX8) (N := 44) hx hb hts inX8 hown hK hP 0 rfl rfl 39 (by decide) (hts _ tw_1012) (fun _ h9 => h9) rfl dX8_parkAll_71 ?_
          refine lv_iload hx hb dX8_parkAll_74 (lv_at hl 1 rfl) ?_
          refine va_iald hx hb hK hP 3 1 rfl rfl (vp_in_nI (by omega) (by decide)) dX8_parkAll_76 ?_
          refine lv_ti (y := (fd2_4 cq_1)) (by rw [nI_clamp (by omega)]) ?_
          refine va_iast hx hb hK hP hD hS 3 1 rfl rfl (vp_in_nI (by omega) (by decide)) dX8_parkAll_77 (fun H locs hP hD hS => ?_)
          have hQ9 := pd_mk [((a 0), .inr (8, (fX8 a (nI tx) fp (nI t0) wd (nI we) nu na (nI rd) ts (nI ru) (nI rw) (nI ca) df db sd))), (aI k (a 1) 3 (nF dn)), (aI k (a 37) 4 (nF br)), (aI k (a 40) 4 (upd fd2_4 (Int32.toNatClampNeg (nI cq_1)) (fd2_4 cq_1)))] hP hD
          clear hP hD
          obtain ⟨hP, hD⟩ := hQ9
          rw [nI_clamp (n := cq_1) (by omega)] at hP hD
          have hQ9 := pd_mk [((a 0), .inr (8, (fX8 a (nI tx) fp (nI t0) wd (nI we) nu na (nI rd) ts (nI ru) (nI rw) (nI ca) df db sd))), (aI k (a 1) 3 (nF dn)), (aI k (a 37) 4 (nF br)), (aI k (a 40) 4 (upd fd2_4 cq_1 (fd2_4 cq_1)))] hP hD
          clear hP hD
          obtain ⟨hP, hD⟩ := hQ9
          refine lv_iinc (v := (nI q_4 - 1)) (lv' := [(5, .int (nI q_4 - 1)), (4, .int (nI cq_1)), (3, .int (nI lf_1)), (0, .ref (a 0)), (1, .int (nI sn)), (2, .int (nI se9))]) hx hb dX8_parkAll_78 hl (k := 0) rfl (dn1 _) (by decide) rfl (fun ls hl => ?_)
          refine lv_goto (tgt := 32) hx hb dX8_parkAll_81 (by decide) ?_
          exact ih_4 _ (q_4, (upd fd2_4 cq_1 (fd2_4 cq_1))) _ _ _ (by omega) ⟨rfl, ⟨by omega, .inl (by omega), (by rw [pk_us, pl_n (show q_4 < (dn sn) by omega) (by omega)]; exact hv_4.2.2.1), fun k hk => (pk_un (by omega)).trans (hv_4.2.2.2.1 k hk), dvOK_upd hv_4.2.2.2.2 _ _ (hv_4.2.2.2.2 _)⟩, hP, hD, hS, (lv_sub hl [0, 1, 2, 3, 4, 5] rfl)⟩
        · have c_15 := (nI_eq (a := ((lf_1 / 2 ^ q_4) % 2)) (b := 1) (by omega) (by omega)).mp c_15
          refine lv_iload hx hb dX8_parkAll_65 (lv_at hl 0 rfl) ?_
          refine lv_goto (tgt := 77) hx hb dX8_parkAll_67 (by decide) ?_
          refine va_iast hx hb hK hP hD hS 3 1 rfl rfl (vp_in_nI (by omega) (by decide)) dX8_parkAll_77 (fun H locs hP hD hS => ?_)
          have hQ9 := pd_mk [((a 0), .inr (8, (fX8 a (nI tx) fp (nI t0) wd (nI we) nu na (nI rd) ts (nI ru) (nI rw) (nI ca) df db sd))), (aI k (a 1) 3 (nF dn)), (aI k (a 37) 4 (nF br)), (aI k (a 40) 4 (upd fd2_4 (Int32.toNatClampNeg (nI cq_1)) (nI q_4)))] hP hD
          clear hP hD
          obtain ⟨hP, hD⟩ := hQ9
          rw [nI_clamp (n := cq_1) (by omega)] at hP hD
          have hQ9 := pd_mk [((a 0), .inr (8, (fX8 a (nI tx) fp (nI t0) wd (nI we) nu na (nI rd) ts (nI ru) (nI rw) (nI ca) df db sd))), (aI k (a 1) 3 (nF dn)), (aI k (a 37) 4 (nF br)), (aI k (a 40) 4 (upd fd2_4 cq_1 (nI q_4)))] hP hD
          clear hP hD
          obtain ⟨hP, hD⟩ := hQ9
          refine lv_iinc (v := (nI q_4 - 1)) (lv' := [(5, .int (nI q_4 - 1)), (4, .int (nI cq_1)), (3, .int (nI lf_1)), (0, .ref (a 0)), (1, .int (nI sn)), (2, .int (nI se9))]) hx hb dX8_parkAll_78 hl (k := 0) rfl (dn1 _) (by decide) rfl (fun ls hl => ?_)
          refine lv_goto (tgt := 32) hx hb dX8_parkAll_81 (by decide) ?_
          exact ih_4 _ (q_4, (upd fd2_4 cq_1 (nI q_4))) _ _ _ (by omega) ⟨rfl, ⟨by omega, .inl (by omega), (by rw [pk_us, pl_y (show q_4 < (dn sn) by omega) (by omega), dv_i (show q_4 < (dn sn) by omega)]), fun k hk => (pk_un (by omega)).trans (hv_4.2.2.2.1 k hk), dvOK_upd hv_4.2.2.2.2 _ _ (.inr ⟨q_4, by omega, rfl⟩)⟩, hP, hD, hS, (lv_sub hl [0, 1, 2, 3, 4, 5] rfl)⟩


set_option maxHeartbeats 4000000 in
set_option maxRecDepth 100000 in
theorem n_costOf (l : Launch) (D : va_G) (k : Nat → ClassId) (st : Nat → Nat) (lo : Nat) (a : Nat → Nat) (tx : Nat) (t0 : Nat) (we : Nat) (rd : Nat) (ru : Nat) (rw : Nat) (ca : Nat) (fp : Int32) (wd : Int64) (nu : Int32) (na : Int32) (ts : Int32) (df : Int32) (db : Int32) (sd : Int32) (dn : Nat → Nat) (se : Nat → Nat) (tm : Nat → Nat) (gs : Nat → Int32) (ffrees : Nat → Int32) (fprices : Nat → Int32) (fwalks : Nat → Int32) (br : Nat → Nat) (fdoorsOf : Nat → Int32) (sn : Nat) (se9 : Nat) (cn : Nat) (hdn : ∀ j, dn j ≤ 24) (hca : ca ≤ 4) (hbr : ∀ j, br j ≤ 24) (hs : sn < 3) (hcn : cn < ca) (hdv : dvOK fdoorsOf) (hse9 : se9 < 2 ^ dn sn) : CWi l D k st lo yX8_costOf cX8_costOf 4 (some .int) ({ frames := 4, cells := 0, slots := 0, locals := 94 }) 0 0 [.ref (a 0), .int (nI sn), .int (nI se9), .int (nI cn)] [((a 0), .inr (8, (fX8 a (nI tx) fp (nI t0) wd (nI we) nu na (nI rd) ts (nI ru) (nI rw) (nI ca) df db sd))), (aI k (a 1) 3 (nF dn)), (aI k (a 4) 27 (sg se tm gs)), (aI k (a 2) 72 ffrees), (aI k (a 3) 72 fprices), (aI k (a 36) 4 fwalks), (aI k (a 37) 4 (nF br)), (aI k (a 40) 4 fdoorsOf)] (fun (r : Int32) (fdoorsOf_ : (Nat → Int32)) => r = kb (dn sn) se9 (fun c i => pD (sdM dn (sg se tm gs) ffrees fprices sn) (fwalks c) df (db * 1000) i) br cn (br cn) ∧ dvOK fdoorsOf_) (fun (fdoorsOf_ : (Nat → Int32)) => [((a 0), .inr (8, (fX8 a (nI tx) fp (nI t0) wd (nI we) nu na (nI rd) ts (nI ru) (nI rw) (nI ca) df db sd))), (aI k (a 1) 3 (nF dn)), (aI k (a 4) 27 (sg se tm gs)), (aI k (a 2) 72 ffrees), (aI k (a 3) 72 fprices), (aI k (a 36) 4 fwalks), (aI k (a 37) 4 (nF br)), (aI k (a 40) 4 fdoorsOf_)]) := by
  intro sz
  refine Met.ofW (cc := cX8_costOf) (maxL := 4) (ret := (some .int)) (by decide) rfl ?_
  intro p e s m args below meth c s₁ B hml hv
  obtain ⟨rfl, hsz, hlo, hP, hK, hDL, hZ⟩ := hv
  have hx := B.exec
  have hb := B.bytes
  have hr := B.returns
  have hts := WS_ts B.pre
  have hown : s.vm.findClass RX8 = some m.cls := findClass_of_methodNamed B.named
  have hlocks := B.notSynchronized
  subst hsz
  have hD := hDL.self (sz := s.heap.size)
  have hAlo := A_lo hDL hlo
  generalize hAe : va_A [((a 0), .inr (8, (fX8 a (nI tx) fp (nI t0) wd (nI we) nu na (nI rd) ts (nI ru) (nI rw) (nI ca) df db sd))), (aI k (a 1) 3 (nF dn)), (aI k (a 4) 27 (sg se tm gs)), (aI k (a 2) 72 ffrees), (aI k (a 3) 72 fprices), (aI k (a 36) 4 fwalks), (aI k (a 37) 4 (nF br)), (aI k (a 40) 4 fdoorsOf)] s.heap.size = A at hD hAlo ⊢
  have hA : ∀ q : Nat, s.heap.size ≤ q → A q := fun q h => by rw [← hAe]; exact Or.inr h
  have hS : va_S A s.heap s.heap [] := va_S.rf
  have hl := lv_entry ([.ref (a 0), .int (nI sn), .int (nI se9), .int (nI cn)]) (n := 4) (Nat.le_of_ble_eq_true rfl)
  rw [lg_entry_eq]
  generalize (lg_sl ([.ref (a 0), .int (nI sn), .int (nI se9), .int (nI cn)]) ++ List.replicate (4 - (lg_sl ([.ref (a 0), .int (nI sn), .int (nI se9), .int (nI cn)])).length) Slot.unset).toArray = ls at hl ⊢
  have hl : lv_has ls 4 [(0, .ref (a 0)), (1, .int (nI sn)), (2, .int (nI se9)), (3, .int (nI cn))] := hl
  have hd_9 := hdn sn
  refine lv_aload_n hx hb dX8_costOf_0 rfl (lv_at hl 0 rfl) ?_
  refine lv_iload_n hx hb dX8_costOf_1 rfl (lv_at hl 1 rfl) ?_
  refine lv_iload_n hx hb dX8_costOf_2 rfl (lv_at hl 2 rfl) ?_
  refine rw_v (D := D) (wr := [(aI k (a 4) 27 (sg se tm gs)), (aI k (a 2) 72 ffrees), (aI k (a 3) 72 fprices), (aI k (a 36) 4 fwalks)]) (va_runV (As := [.int (nI sn), .int (nI se9)]) (rest := []) ⟨hx, hb, hml, hown, hts⟩ ((n_parkAll l D k st lo a tx t0 we rd ru rw ca fp wd nu na ts df db sd dn br fdoorsOf sn se9 hdn (by first | assumption | omega) hbr (by first | assumption | omega) hdv (by first | assumption | omega)) s.heap.size) (cwV 2 hts (gV tw_1398 tw_1400 tw_66 tw_87 tw_1401) rfl rfl rfl (by decide +kernel) ⟨Nat.le_of_ble_eq_true rfl, Nat.le_of_ble_eq_true rfl⟩) (pV hS hAlo hlo hP hK (va_Dlo hD hAlo) hZ [0, 1, 6, 7] (by decide) rfl (ci := 8) (q := (RX8, TX8, 44)) (q0 := 0) rfl rfl) rfl rfl hl.1 rfl (lv_room (Nat.le_of_ble_eq_true rfl)) dX8_costOf_3 ⟨Nat.le_of_ble_eq_true rfl, Nat.le_of_ble_eq_true rfl⟩) hS hA hP hD [0, 1, 6, 7] [2, 3, 4, 5] rfl rfl (by decide) (by decide) (fun u H locs hw_1 hP hD hS => ?_)
  obtain ⟨fdoorsOf__1, rfl⟩ : ∃ z, z = u := ⟨_, rfl⟩
  have hQ9 := pd_mk [(aI k (a 4) 27 (sg se tm gs)), (aI k (a 2) 72 ffrees), (aI k (a 3) 72 fprices), (aI k (a 36) 4 fwalks), ((a 0), .inr (8, (fX8 a (nI tx) fp (nI t0) wd (nI we) nu na (nI rd) ts (nI ru) (nI rw) (nI ca) df db sd))), (aI k (a 1) 3 (nF dn)), (aI k (a 37) 4 (nF br)), (aI k (a 40) 4 fdoorsOf__1)] hP hD
  clear hP hD
  obtain ⟨hP, hD⟩ := hQ9
  try dsimp only at hw_1
  refine lv_aload_n hx hb dX8_costOf_6 rfl (lv_at hl 0 rfl) ?_
  refine lv_iload_n hx hb dX8_costOf_7 rfl (lv_at hl 1 rfl) ?_
  refine lv_iload_n hx hb dX8_costOf_8 rfl (lv_at hl 3 rfl) ?_
  refine lv_aload_n hx hb dX8_costOf_9 rfl (lv_at hl 0 rfl) ?_
  refine va_get (D := D) (ci := 8) (v := .ref (a 40)) (C := RX8) (T := TX8) (N := 44) hx hb hts inX8 hown hK hP 4 rfl rfl 39 (by decide) (hts _ tw_1012) (fun _ h9 => h9) rfl dX8_costOf_10 ?_
  refine lv_iload_n hx hb dX8_costOf_13 rfl (lv_at hl 3 rfl) ?_
  refine va_iald hx hb hK hP 7 1 rfl rfl (vp_in_nI (by omega) (by decide)) dX8_costOf_14 ?_
  refine lv_ti (y := (fdoorsOf__1 cn)) (by rw [nI_clamp (by omega)]) ?_
  refine ro_i (D := D) (va_runV (As := [.int (nI sn), .int (nI cn), .int (fdoorsOf__1 cn)]) (rest := []) ⟨hx, hb, hml, hown, hts⟩ ((n_costAt l D k st lo a tx t0 we rd ru rw ca fp wd nu na ts df db sd dn se tm gs ffrees fprices fwalks sn cn (plc (dn sn) (LF (dn sn) br se9 cn) (br cn)) (fdoorsOf__1 cn) hdn (by first | assumption | omega) (by first | assumption | omega) pl_le (hw_1.1 cn hcn)) H.size) (cwV 3 hts (gV tw_1402 tw_1404 tw_67 tw_87 tw_1405) rfl rfl rfl (by decide +kernel) ⟨Nat.le_of_ble_eq_true rfl, Nat.le_of_ble_eq_true rfl⟩) (pV hS hAlo hlo hP hK (va_Dlo hD hAlo) hZ [4, 5, 0, 1, 2, 3] (by decide) rfl (ci := 8) (q := (RX8, TX8, 44)) (q0 := 0) rfl rfl) rfl rfl hl.1 rfl (lv_room (Nat.le_of_ble_eq_true rfl)) dX8_costOf_15 ⟨Nat.le_of_ble_eq_true rfl, Nat.le_of_ble_eq_true rfl⟩) hS hA hP (fun r_2 H locs hw_2 hP hS => ?_)
  try dsimp only at hw_2
  obtain ⟨hP9, hD9⟩ := pd_sub [((a 0), .inr (8, (fX8 a (nI tx) fp (nI t0) wd (nI we) nu na (nI rd) ts (nI ru) (nI rw) (nI ca) df db sd))), (aI k (a 1) 3 (nF dn)), (aI k (a 4) 27 (sg se tm gs)), (aI k (a 2) 72 ffrees), (aI k (a 3) 72 fprices), (aI k (a 36) 4 fwalks), (aI k (a 37) 4 (nF br)), (aI k (a 40) 4 fdoorsOf__1)] [4, 5, 0, 1, 2, 3, 6, 7] hP hD (by decide) rfl
  exact W.iret (v := r_2) hx hb hr (fun t ht hW => ⟨⟨r_2, fdoorsOf__1, rfl, ⟨hw_2, hw_1.2⟩, by rw [ht]; exact hP9, hD9⟩, hS.F ht⟩) hS.2.2 dX8_costOf_18


set_option maxHeartbeats 4000000 in
set_option maxRecDepth 100000 in
theorem n_allCosts (l : Launch) (D : va_G) (k : Nat → ClassId) (st : Nat → Nat) (lo : Nat) (a : Nat → Nat) (tx : Nat) (t0 : Nat) (we : Nat) (rd : Nat) (ru : Nat) (rw : Nat) (ca : Nat) (fp : Int32) (wd : Int64) (nu : Int32) (na : Int32) (ts : Int32) (df : Int32) (db : Int32) (sd : Int32) (dn : Nat → Nat) (se : Nat → Nat) (tm : Nat → Nat) (gs : Nat → Int32) (ffrees : Nat → Int32) (fprices : Nat → Int32) (fwalks : Nat → Int32) (br : Nat → Nat) (fdoorsOf : Nat → Int32) (sn : Nat) (se9 : Nat) (hdn : ∀ j, dn j ≤ 24) (hca : ca ≤ 4) (hbr : ∀ j, br j ≤ 24) (hs : sn < 3) (hdv : dvOK fdoorsOf) (hse9 : se9 < 2 ^ dn sn) : CWi l D k st lo yX8_allCosts cX8_allCosts 5 (some .int) ({ frames := 4, cells := 0, slots := 0, locals := 94 }) 0 0 [.ref (a 0), .int (nI sn), .int (nI se9)] [((a 0), .inr (8, (fX8 a (nI tx) fp (nI t0) wd (nI we) nu na (nI rd) ts (nI ru) (nI rw) (nI ca) df db sd))), (aI k (a 1) 3 (nF dn)), (aI k (a 4) 27 (sg se tm gs)), (aI k (a 2) 72 ffrees), (aI k (a 3) 72 fprices), (aI k (a 36) 4 fwalks), (aI k (a 37) 4 (nF br)), (aI k (a 40) 4 fdoorsOf)] (fun (r : Int32) (fdoorsOf_ : (Nat → Int32)) => r = smF (dn sn) se9 (fun c i => pD (sdM dn (sg se tm gs) ffrees fprices sn) (fwalks c) df (db * 1000) i) br ca ∧ dvOK fdoorsOf_) (fun (fdoorsOf_ : (Nat → Int32)) => [((a 0), .inr (8, (fX8 a (nI tx) fp (nI t0) wd (nI we) nu na (nI rd) ts (nI ru) (nI rw) (nI ca) df db sd))), (aI k (a 1) 3 (nF dn)), (aI k (a 4) 27 (sg se tm gs)), (aI k (a 2) 72 ffrees), (aI k (a 3) 72 fprices), (aI k (a 36) 4 fwalks), (aI k (a 37) 4 (nF br)), (aI k (a 40) 4 fdoorsOf_)]) := by
  intro sz
  refine Met.ofW (cc := cX8_allCosts) (maxL := 5) (ret := (some .int)) (by decide) rfl ?_
  intro p e s m args below meth c s₁ B hml hv
  obtain ⟨rfl, hsz, hlo, hP, hK, hDL, hZ⟩ := hv
  have hx := B.exec
  have hb := B.bytes
  have hr := B.returns
  have hts := WS_ts B.pre
  have hown : s.vm.findClass RX8 = some m.cls := findClass_of_methodNamed B.named
  have hlocks := B.notSynchronized
  subst hsz
  have hD := hDL.self (sz := s.heap.size)
  have hAlo := A_lo hDL hlo
  generalize hAe : va_A [((a 0), .inr (8, (fX8 a (nI tx) fp (nI t0) wd (nI we) nu na (nI rd) ts (nI ru) (nI rw) (nI ca) df db sd))), (aI k (a 1) 3 (nF dn)), (aI k (a 4) 27 (sg se tm gs)), (aI k (a 2) 72 ffrees), (aI k (a 3) 72 fprices), (aI k (a 36) 4 fwalks), (aI k (a 37) 4 (nF br)), (aI k (a 40) 4 fdoorsOf)] s.heap.size = A at hD hAlo ⊢
  have hA : ∀ q : Nat, s.heap.size ≤ q → A q := fun q h => by rw [← hAe]; exact Or.inr h
  have hS : va_S A s.heap s.heap [] := va_S.rf
  have hl := lv_entry ([.ref (a 0), .int (nI sn), .int (nI se9)]) (n := 5) (Nat.le_of_ble_eq_true rfl)
  rw [lg_entry_eq]
  generalize (lg_sl ([.ref (a 0), .int (nI sn), .int (nI se9)]) ++ List.replicate (5 - (lg_sl ([.ref (a 0), .int (nI sn), .int (nI se9)])).length) Slot.unset).toArray = ls at hl ⊢
  have hl : lv_has ls 5 [(0, .ref (a 0)), (1, .int (nI sn)), (2, .int (nI se9))] := hl
  have hd_9 := hdn sn
  refine lv_aload_n hx hb dX8_allCosts_0 rfl (lv_at hl 0 rfl) ?_
  refine lv_iload_n hx hb dX8_allCosts_1 rfl (lv_at hl 1 rfl) ?_
  refine lv_iload_n hx hb dX8_allCosts_2 rfl (lv_at hl 2 rfl) ?_
  refine rw_v (D := D) (wr := [(aI k (a 4) 27 (sg se tm gs)), (aI k (a 2) 72 ffrees), (aI k (a 3) 72 fprices), (aI k (a 36) 4 fwalks)]) (va_runV (As := [.int (nI sn), .int (nI se9)]) (rest := []) ⟨hx, hb, hml, hown, hts⟩ ((n_parkAll l D k st lo a tx t0 we rd ru rw ca fp wd nu na ts df db sd dn br fdoorsOf sn se9 hdn (by first | assumption | omega) hbr (by first | assumption | omega) hdv (by first | assumption | omega)) s.heap.size) (cwV 2 hts (gV tw_1398 tw_1400 tw_66 tw_87 tw_1401) rfl rfl rfl (by decide +kernel) ⟨Nat.le_of_ble_eq_true rfl, Nat.le_of_ble_eq_true rfl⟩) (pV hS hAlo hlo hP hK (va_Dlo hD hAlo) hZ [0, 1, 6, 7] (by decide) rfl (ci := 8) (q := (RX8, TX8, 44)) (q0 := 0) rfl rfl) rfl rfl hl.1 rfl (lv_room (Nat.le_of_ble_eq_true rfl)) dX8_allCosts_3 ⟨Nat.le_of_ble_eq_true rfl, Nat.le_of_ble_eq_true rfl⟩) hS hA hP hD [0, 1, 6, 7] [2, 3, 4, 5] rfl rfl (by decide) (by decide) (fun u H locs hw_1 hP hD hS => ?_)
  obtain ⟨fdoorsOf__1, rfl⟩ : ∃ z, z = u := ⟨_, rfl⟩
  have hQ9 := pd_mk [(aI k (a 4) 27 (sg se tm gs)), (aI k (a 2) 72 ffrees), (aI k (a 3) 72 fprices), (aI k (a 36) 4 fwalks), ((a 0), .inr (8, (fX8 a (nI tx) fp (nI t0) wd (nI we) nu na (nI rd) ts (nI ru) (nI rw) (nI ca) df db sd))), (aI k (a 1) 3 (nF dn)), (aI k (a 37) 4 (nF br)), (aI k (a 40) 4 fdoorsOf__1)] hP hD
  clear hP hD
  obtain ⟨hP, hD⟩ := hQ9
  try dsimp only at hw_1
  refine lv_iconst (v := 0) hx hb dX8_allCosts_6 (by decide) ?_
  refine lv_istore_n (lv' := [(3, .int 0), (0, .ref (a 0)), (1, .int (nI sn)), (2, .int (nI se9))]) hx hb dX8_allCosts_7 rfl hl (by decide) rfl (fun ls hl => ?_)
  refine lv_iconst (v := 0) hx hb dX8_allCosts_8 (by decide) ?_
  refine lv_istore (lv' := [(4, .int 0), (3, .int 0), (0, .ref (a 0)), (1, .int (nI sn)), (2, .int (nI se9))]) hx hb dX8_allCosts_9 hl (by decide) rfl (fun ls hl => ?_)
  refine W_loop (σ := Nat × Int32) (fun (n_ : Nat) (x_ : Nat × Int32) (H : Heap) (locs : List Loc) (ls : Array Slot) => match x_ with | (cq_2, su_2) => n_ = 5 - cq_2 ∧ (cq_2 ≤ ca ∧ su_2 = smF (dn sn) se9 (fun c i => pD (sdM dn (sg se tm gs) ffrees fprices sn) (fwalks c) df (db * 1000) i) br cq_2) ∧ va_P D classes [(aI k (a 4) 27 (sg se tm gs)), (aI k (a 2) 72 ffrees), (aI k (a 3) 72 fprices), (aI k (a 36) 4 fwalks), ((a 0), .inr (8, (fX8 a (nI tx) fp (nI t0) wd (nI we) nu na (nI rd) ts (nI ru) (nI rw) (nI ca) df db sd))), (aI k (a 1) 3 (nF dn)), (aI k (a 37) 4 (nF br)), (aI k (a 40) 4 fdoorsOf__1)] H ∧ va_D A [(aI k (a 4) 27 (sg se tm gs)), (aI k (a 2) 72 ffrees), (aI k (a 3) 72 fprices), (aI k (a 36) 4 fwalks), ((a 0), .inr (8, (fX8 a (nI tx) fp (nI t0) wd (nI we) nu na (nI rd) ts (nI ru) (nI rw) (nI ca) df db sd))), (aI k (a 1) 3 (nF dn)), (aI k (a 37) 4 (nF br)), (aI k (a 40) 4 fdoorsOf__1)] ∧ va_S A s.heap H locs ∧ lv_has ls 5 [(4, .int (nI cq_2)), (3, .int su_2), (0, .ref (a 0)), (1, .int (nI sn)), (2, .int (nI se9))]) (fun n_2 x_2 H locs ls hI ih_2 => ?_) _ (0, 0) ⟨rfl, ⟨by omega, rfl⟩, hP, hD, hS, (lv_sub hl [0, 1, 2, 3, 4] rfl)⟩
  obtain ⟨cq_2, su_2⟩ := x_2
  obtain ⟨hm_2, hv_2, hP, hD, hS, hl⟩ := hI
  subst hm_2
  refine lv_iload hx hb dX8_allCosts_11 (lv_at hl 0 rfl) ?_
  refine lv_aload_n hx hb dX8_allCosts_13 rfl (lv_at hl 2 rfl) ?_
  refine va_get (D := D) (ci := 8) (v := .int (nI ca)) (C := RX8) (T := TX8) (N := 44) hx hb hts inX8 hown hK hP 4 rfl rfl 34 (by decide) (hts _ tw_1007) (fun _ h9 => h9) rfl dX8_allCosts_14 ?_
  refine lv_icmp_ge (tgt := 43) hx hb dX8_allCosts_17 (by decide) (fun c_3 => ?_) (fun c_3 => ?_)
  · have c_3 := (nI_leI (a := ca) (b := cq_2) (by omega) (by omega)).mp c_3
    refine lv_iload_n hx hb dX8_allCosts_43 rfl (lv_at hl 1 rfl) ?_
    obtain ⟨hP9, hD9⟩ := pd_sub [((a 0), .inr (8, (fX8 a (nI tx) fp (nI t0) wd (nI we) nu na (nI rd) ts (nI ru) (nI rw) (nI ca) df db sd))), (aI k (a 1) 3 (nF dn)), (aI k (a 4) 27 (sg se tm gs)), (aI k (a 2) 72 ffrees), (aI k (a 3) 72 fprices), (aI k (a 36) 4 fwalks), (aI k (a 37) 4 (nF br)), (aI k (a 40) 4 fdoorsOf__1)] [4, 5, 0, 1, 2, 3, 6, 7] hP hD (by decide) rfl
    exact W.iret (v := su_2) hx hb hr (fun t ht hW => ⟨⟨su_2, fdoorsOf__1, rfl, ⟨(by rw [hv_2.2, show cq_2 = ca by omega]), hw_1.2⟩, by rw [ht]; exact hP9, hD9⟩, hS.F ht⟩) hS.2.2 dX8_allCosts_44
  · have c_3 : ¬ (ca ≤ cq_2) := fun h => c_3 ((nI_leI (a := ca) (b := cq_2) (by omega) (by omega)).mpr h)
    refine lv_iload_n hx hb dX8_allCosts_20 rfl (lv_at hl 1 rfl) ?_
    refine lv_aload_n hx hb dX8_allCosts_21 rfl (lv_at hl 2 rfl) ?_
    refine lv_iload_n hx hb dX8_allCosts_22 rfl (lv_at hl 3 rfl) ?_
    refine lv_iload hx hb dX8_allCosts_23 (lv_at hl 0 rfl) ?_
    refine lv_aload_n hx hb dX8_allCosts_25 rfl (lv_at hl 2 rfl) ?_
    refine va_get (D := D) (ci := 8) (v := .ref (a 40)) (C := RX8) (T := TX8) (N := 44) hx hb hts inX8 hown hK hP 4 rfl rfl 39 (by decide) (hts _ tw_1012) (fun _ h9 => h9) rfl dX8_allCosts_26 ?_
    refine lv_iload hx hb dX8_allCosts_29 (lv_at hl 0 rfl) ?_
    refine va_iald hx hb hK hP 7 1 rfl rfl (vp_in_nI (by omega) (by decide)) dX8_allCosts_31 ?_
    refine lv_ti (y := (fdoorsOf__1 cq_2)) (by rw [nI_clamp (by omega)]) ?_
    refine ro_i (D := D) (va_runV (As := [.int (nI sn), .int (nI cq_2), .int (fdoorsOf__1 cq_2)]) (rest := [.int su_2]) ⟨hx, hb, hml, hown, hts⟩ ((n_costAt l D k st lo a tx t0 we rd ru rw ca fp wd nu na ts df db sd dn se tm gs ffrees fprices fwalks sn cq_2 (plc (dn sn) (LF (dn sn) br se9 cq_2) (br cq_2)) (fdoorsOf__1 cq_2) hdn (by first | assumption | omega) (by first | assumption | omega) pl_le (hw_1.1 cq_2 (by omega))) H.size) (cwV 3 hts (gV tw_1402 tw_1404 tw_67 tw_87 tw_1405) rfl rfl rfl (by decide +kernel) ⟨Nat.le_of_ble_eq_true rfl, Nat.le_of_ble_eq_true rfl⟩) (pV hS hAlo hlo hP hK (va_Dlo hD hAlo) hZ [4, 5, 0, 1, 2, 3] (by decide) rfl (ci := 8) (q := (RX8, TX8, 44)) (q0 := 0) rfl rfl) rfl rfl hl.1 rfl (lv_room (Nat.le_of_ble_eq_true rfl)) dX8_allCosts_32 ⟨Nat.le_of_ble_eq_true rfl, Nat.le_of_ble_eq_true rfl⟩) hS hA hP (fun r_4 H locs hw_4 hP hS => ?_)
    try dsimp only at hw_4
    refine lv_iadd hx hb dX8_allCosts_35 ?_
    refine lv_topi (fun x_5 ex_5 => ?_)
    refine lv_istore_n (lv' := [(3, .int x_5), (4, .int (nI cq_2)), (0, .ref (a 0)), (1, .int (nI sn)), (2, .int (nI se9))]) hx hb dX8_allCosts_36 rfl hl (by decide) rfl (fun ls hl => ?_)
    refine lv_iinc (v := (nI (cq_2 + 1))) (lv' := [(4, .int (nI (cq_2 + 1))), (3, .int x_5), (0, .ref (a 0)), (1, .int (nI sn)), (2, .int (nI se9))]) hx hb dX8_allCosts_37 hl (k := 1) rfl (nI_add cq_2 1) (by decide) rfl (fun ls hl => ?_)
    refine lv_goto (tgt := 11) hx hb dX8_allCosts_40 (by decide) ?_
    exact ih_2 _ (cq_2 + 1, x_5) _ _ _ (by omega) ⟨rfl, ⟨by omega, (by rw [ex_5, hw_4, hv_2.2]; rfl)⟩, hP, hD, hS, (lv_sub hl [0, 1, 2, 3, 4] rfl)⟩


set_option maxHeartbeats 4000000 in
set_option maxRecDepth 100000 in
theorem n_bestBar (l : Launch) (D : va_G) (k : Nat → ClassId) (st : Nat → Nat) (lo : Nat) (a : Nat → Nat) (tx : Nat) (t0 : Nat) (we : Nat) (rd : Nat) (ru : Nat) (rw : Nat) (ca : Nat) (fp : Int32) (wd : Int64) (nu : Int32) (na : Int32) (ts : Int32) (df : Int32) (db : Int32) (sd : Int32) (dn : Nat → Nat) (se : Nat → Nat) (tm : Nat → Nat) (gs : Nat → Int32) (ffrees : Nat → Int32) (fprices : Nat → Int32) (fwalks : Nat → Int32) (br : Nat → Nat) (fdoorsOf : Nat → Int32) (sn : Nat) (se9 : Nat) (cn : Nat) (hdn : ∀ j, dn j ≤ 24) (hca : ca ≤ 4) (hbr : ∀ j, br j ≤ 24) (hs : sn < 3) (hcn : cn < ca) (hdv : dvOK fdoorsOf) (hse9 : se9 < 2 ^ dn sn) (hob : br cn ≤ dn sn) : CWi l D k st lo yX8_bestBar cX8_bestBar 9 (some .int) ({ frames := 5, cells := 0, slots := 0, locals := 117 }) 0 0 [.ref (a 0), .int (nI sn), .int (nI se9), .int (nI cn)] [((a 0), .inr (8, (fX8 a (nI tx) fp (nI t0) wd (nI we) nu na (nI rd) ts (nI ru) (nI rw) (nI ca) df db sd))), (aI k (a 1) 3 (nF dn)), (aI k (a 4) 27 (sg se tm gs)), (aI k (a 2) 72 ffrees), (aI k (a 3) 72 fprices), (aI k (a 36) 4 fwalks), (aI k (a 37) 4 (nF br)), (aI k (a 40) 4 fdoorsOf)] (fun (r : Int32) (u : (Nat → Nat) × (Nat → Int32) × Nat) => match u with | (br_, fdoorsOf_, er) => r = nI er ∧ er = bsF (dn sn) (kb (dn sn) se9 (fun c i => pD (sdM dn (sg se tm gs) ffrees fprices sn) (fwalks c) df (db * 1000) i) br cn) (br cn) ∧ (∀ j, br_ j = br j) ∧ (∀ j, br_ j ≤ 24) ∧ dvOK fdoorsOf_) (fun (u : (Nat → Nat) × (Nat → Int32) × Nat) => match u with | (br_, fdoorsOf_, er) => [((a 0), .inr (8, (fX8 a (nI tx) fp (nI t0) wd (nI we) nu na (nI rd) ts (nI ru) (nI rw) (nI ca) df db sd))), (aI k (a 1) 3 (nF dn)), (aI k (a 4) 27 (sg se tm gs)), (aI k (a 2) 72 ffrees), (aI k (a 3) 72 fprices), (aI k (a 36) 4 fwalks), (aI k (a 37) 4 (nF br_)), (aI k (a 40) 4 fdoorsOf_)]) := by
  intro sz
  refine Met.ofW (cc := cX8_bestBar) (maxL := 9) (ret := (some .int)) (by decide) rfl ?_
  intro p e s m args below meth c s₁ B hml hv
  obtain ⟨rfl, hsz, hlo, hP, hK, hDL, hZ⟩ := hv
  have hx := B.exec
  have hb := B.bytes
  have hr := B.returns
  have hts := WS_ts B.pre
  have hown : s.vm.findClass RX8 = some m.cls := findClass_of_methodNamed B.named
  have hlocks := B.notSynchronized
  subst hsz
  have hD := hDL.self (sz := s.heap.size)
  have hAlo := A_lo hDL hlo
  generalize hAe : va_A [((a 0), .inr (8, (fX8 a (nI tx) fp (nI t0) wd (nI we) nu na (nI rd) ts (nI ru) (nI rw) (nI ca) df db sd))), (aI k (a 1) 3 (nF dn)), (aI k (a 4) 27 (sg se tm gs)), (aI k (a 2) 72 ffrees), (aI k (a 3) 72 fprices), (aI k (a 36) 4 fwalks), (aI k (a 37) 4 (nF br)), (aI k (a 40) 4 fdoorsOf)] s.heap.size = A at hD hAlo ⊢
  have hA : ∀ q : Nat, s.heap.size ≤ q → A q := fun q h => by rw [← hAe]; exact Or.inr h
  have hS : va_S A s.heap s.heap [] := va_S.rf
  have hl := lv_entry ([.ref (a 0), .int (nI sn), .int (nI se9), .int (nI cn)]) (n := 9) (Nat.le_of_ble_eq_true rfl)
  rw [lg_entry_eq]
  generalize (lg_sl ([.ref (a 0), .int (nI sn), .int (nI se9), .int (nI cn)]) ++ List.replicate (9 - (lg_sl ([.ref (a 0), .int (nI sn), .int (nI se9), .int (nI cn)])).length) Slot.unset).toArray = ls at hl ⊢
  have hl : lv_has ls 9 [(0, .ref (a 0)), (1, .int (nI sn)), (2, .int (nI se9)), (3, .int (nI cn))] := hl
  have hd_9 := hdn sn
  refine lv_aload_n hx hb dX8_bestBar_0 rfl (lv_at hl 0 rfl) ?_
  refine va_get (D := D) (ci := 8) (v := .ref (a 37)) (C := RX8) (T := TX8) (N := 44) hx hb hts inX8 hown hK hP 0 rfl rfl 36 (by decide) (hts _ tw_1009) (fun _ h9 => h9) rfl dX8_bestBar_1 ?_
  refine lv_iload_n hx hb dX8_bestBar_4 rfl (lv_at hl 3 rfl) ?_
  refine va_iald hx hb hK hP 6 1 rfl rfl (vp_in_nI (by omega) (by decide)) dX8_bestBar_5 ?_
  have hq_1 := hbr cn
  refine lv_ti (y := (nI (br cn))) (by rw [nI_clamp (by omega)]; rfl) ?_
  refine lv_istore (lv' := [(4, .int (nI (br cn))), (0, .ref (a 0)), (1, .int (nI sn)), (2, .int (nI se9)), (3, .int (nI cn))]) hx hb dX8_bestBar_6 hl (by decide) rfl (fun ls hl => ?_)
  refine lv_iload hx hb dX8_bestBar_8 (lv_at hl 0 rfl) ?_
  refine lv_istore (lv' := [(5, .int (nI (br cn))), (4, .int (nI (br cn))), (0, .ref (a 0)), (1, .int (nI sn)), (2, .int (nI se9)), (3, .int (nI cn))]) hx hb dX8_bestBar_10 hl (by decide) rfl (fun ls hl => ?_)
  refine lv_aload_n hx hb dX8_bestBar_12 rfl (lv_at hl 2 rfl) ?_
  refine lv_iload_n hx hb dX8_bestBar_13 rfl (lv_at hl 3 rfl) ?_
  refine lv_iload_n hx hb dX8_bestBar_14 rfl (lv_at hl 4 rfl) ?_
  refine lv_iload_n hx hb dX8_bestBar_15 rfl (lv_at hl 5 rfl) ?_
  refine rw_i (D := D) (wr := []) (va_runV (As := [.int (nI sn), .int (nI se9), .int (nI cn)]) (rest := []) ⟨hx, hb, hml, hown, hts⟩ ((n_costOf l D k st lo a tx t0 we rd ru rw ca fp wd nu na ts df db sd dn se tm gs ffrees fprices fwalks br fdoorsOf sn se9 cn hdn (by first | assumption | omega) hbr (by first | assumption | omega) (by first | assumption | omega) hdv (by first | assumption | omega)) s.heap.size) (cwV 3 hts (gV tw_1394 tw_1396 tw_65 tw_87 tw_1397) rfl rfl rfl (by decide +kernel) ⟨Nat.le_of_ble_eq_true rfl, Nat.le_of_ble_eq_true rfl⟩) (pV hS hAlo hlo hP hK (va_Dlo hD hAlo) hZ [0, 1, 2, 3, 4, 5, 6, 7] (by decide) rfl (ci := 8) (q := (RX8, TX8, 44)) (q0 := 0) rfl rfl) rfl rfl hl.1 rfl (lv_room (Nat.le_of_ble_eq_true rfl)) dX8_bestBar_16 ⟨Nat.le_of_ble_eq_true rfl, Nat.le_of_ble_eq_true rfl⟩) hS hA hP hD [0, 1, 2, 3, 4, 5, 6, 7] [] rfl rfl (by decide) (by decide) (fun r_2 u H locs hw_2 hP hD hS => ?_)
  obtain ⟨fdoorsOf__2, rfl⟩ : ∃ z, z = u := ⟨_, rfl⟩
  have hQ9 := pd_mk [((a 0), .inr (8, (fX8 a (nI tx) fp (nI t0) wd (nI we) nu na (nI rd) ts (nI ru) (nI rw) (nI ca) df db sd))), (aI k (a 1) 3 (nF dn)), (aI k (a 4) 27 (sg se tm gs)), (aI k (a 2) 72 ffrees), (aI k (a 3) 72 fprices), (aI k (a 36) 4 fwalks), (aI k (a 37) 4 (nF br)), (aI k (a 40) 4 fdoorsOf__2)] hP hD
  clear hP hD
  obtain ⟨hP, hD⟩ := hQ9
  try dsimp only at hw_2
  refine lv_istore (lv' := [(6, .int r_2), (5, .int (nI (br cn))), (4, .int (nI (br cn))), (0, .ref (a 0)), (1, .int (nI sn)), (2, .int (nI se9)), (3, .int (nI cn))]) hx hb dX8_bestBar_19 hl (by decide) rfl (fun ls hl => ?_)
  refine lv_iconst (v := 0) hx hb dX8_bestBar_21 (by decide) ?_
  refine lv_istore (lv' := [(7, .int 0), (6, .int r_2), (5, .int (nI (br cn))), (4, .int (nI (br cn))), (0, .ref (a 0)), (1, .int (nI sn)), (2, .int (nI se9)), (3, .int (nI cn))]) hx hb dX8_bestBar_22 hl (by decide) rfl (fun ls hl => ?_)
  refine W_loop (σ := Nat × Nat × Int32 × (Nat → Nat) × (Nat → Int32)) (fun (n_ : Nat) (x_ : Nat × Nat × Int32 × (Nat → Nat) × (Nat → Int32)) (H : Heap) (locs : List Loc) (ls : Array Slot) => match x_ with | (bb_3, be_3, le_3, b2_3, fd_3) => n_ = 26 - bb_3 ∧ (bb_3 ≤ (dn sn) + 1 ∧ be_3 ≤ (dn sn) ∧ bmI (kb (dn sn) se9 (fun c i => pD (sdM dn (sg se tm gs) ffrees fprices sn) (fwalks c) df (db * 1000) i) br cn) (br cn) bb_3 be_3 le_3 ∧ (∀ j, ¬ j = cn → b2_3 j = br j) ∧ (∀ j, b2_3 j ≤ 24) ∧ dvOK fd_3) ∧ va_P D classes [((a 0), .inr (8, (fX8 a (nI tx) fp (nI t0) wd (nI we) nu na (nI rd) ts (nI ru) (nI rw) (nI ca) df db sd))), (aI k (a 1) 3 (nF dn)), (aI k (a 4) 27 (sg se tm gs)), (aI k (a 2) 72 ffrees), (aI k (a 3) 72 fprices), (aI k (a 36) 4 fwalks), (aI k (a 37) 4 (nF b2_3)), (aI k (a 40) 4 fd_3)] H ∧ va_D A [((a 0), .inr (8, (fX8 a (nI tx) fp (nI t0) wd (nI we) nu na (nI rd) ts (nI ru) (nI rw) (nI ca) df db sd))), (aI k (a 1) 3 (nF dn)), (aI k (a 4) 27 (sg se tm gs)), (aI k (a 2) 72 ffrees), (aI k (a 3) 72 fprices), (aI k (a 36) 4 fwalks), (aI k (a 37) 4 (nF b2_3)), (aI k (a 40) 4 fd_3)] ∧ va_S A s.heap H locs ∧ lv_has ls 9 [(7, .int (nI bb_3)), (6, .int le_3), (5, .int (nI be_3)), (4, .int (nI (br cn))), (0, .ref (a 0)), (1, .int (nI sn)), (2, .int (nI se9)), (3, .int (nI cn))]) (fun n_3 x_3 H locs ls hI ih_3 => ?_) _ (0, br cn, r_2, br, fdoorsOf__2) ⟨rfl, ⟨by omega, hob, bm_0 hw_2.1, fun _ _ => rfl, hbr, hw_2.2⟩, hP, hD, hS, (lv_sub hl [0, 1, 2, 3, 4, 5, 6, 7] rfl)⟩
  obtain ⟨bb_3, be_3, le_3, b2_3, fd_3⟩ := x_3
  obtain ⟨hm_3, hv_3, hP, hD, hS, hl⟩ := hI
  subst hm_3
  have hbl_3 := hv_3.2.2.2.2.1
  have hdvl_3 := hv_3.2.2.2.2.2
  refine lv_iload hx hb dX8_bestBar_24 (lv_at hl 0 rfl) ?_
  refine lv_aload_n hx hb dX8_bestBar_26 rfl (lv_at hl 4 rfl) ?_
  refine va_get (D := D) (ci := 8) (v := .ref (a 1)) (C := RX8) (T := TX8) (N := 44) hx hb hts inX8 hown hK hP 0 rfl rfl 0 (by decide) (hts _ tw_973) (fun _ h9 => h9) rfl dX8_bestBar_27 ?_
  refine lv_iload_n hx hb dX8_bestBar_30 rfl (lv_at hl 5 rfl) ?_
  refine va_iald hx hb hK hP 1 1 rfl rfl (vp_in_nI (by omega) (by decide)) dX8_bestBar_31 ?_
  refine lv_ti (y := (nI (dn sn))) (by rw [nI_clamp (by omega)]; rfl) ?_
  refine lv_icmp_gt (tgt := 90) hx hb dX8_bestBar_32 (by decide) (fun c_4 => ?_) (fun c_4 => ?_)
  · have c_4 := (nI_ltI (a := (dn sn)) (b := bb_3) (by omega) (by omega)).mp c_4
    refine lv_aload_n hx hb dX8_bestBar_90 rfl (lv_at hl 4 rfl) ?_
    refine va_get (D := D) (ci := 8) (v := .ref (a 37)) (C := RX8) (T := TX8) (N := 44) hx hb hts inX8 hown hK hP 0 rfl rfl 36 (by decide) (hts _ tw_1009) (fun _ h9 => h9) rfl dX8_bestBar_91 ?_
    refine lv_iload_n hx hb dX8_bestBar_94 rfl (lv_at hl 7 rfl) ?_
    refine lv_iload hx hb dX8_bestBar_95 (lv_at hl 3 rfl) ?_
    refine va_iast hx hb hK hP hD hS 6 1 rfl rfl (vp_in_nI (by omega) (by decide)) dX8_bestBar_97 (fun H locs hP hD hS => ?_)
    have hQ9 := pd_mk [((a 0), .inr (8, (fX8 a (nI tx) fp (nI t0) wd (nI we) nu na (nI rd) ts (nI ru) (nI rw) (nI ca) df db sd))), (aI k (a 1) 3 (nF dn)), (aI k (a 4) 27 (sg se tm gs)), (aI k (a 2) 72 ffrees), (aI k (a 3) 72 fprices), (aI k (a 36) 4 fwalks), (aI k (a 37) 4 (upd (nF b2_3) (Int32.toNatClampNeg (nI cn)) (nI (br cn)))), (aI k (a 40) 4 fd_3)] hP hD
    clear hP hD
    obtain ⟨hP, hD⟩ := hQ9
    rw [nI_clamp (n := cn) (by omega)] at hP hD
    rw [show upd (nF b2_3) cn (nI (br cn)) = nF (fun j => if j = cn then br cn else b2_3 j) from nF_upd _ _ _] at hP hD
    obtain ⟨d_6, hd_6⟩ : ∃ z : Nat → Nat, z = (fun j => if j = cn then br cn else b2_3 j) := ⟨_, rfl⟩
    rw [← hd_6] at hP hD
    have hbb_6 : ∀ j, d_6 j ≤ 24 := by rw [hd_6]; exact up_le hbl_3 (by omega)
    refine lv_iload hx hb dX8_bestBar_98 (lv_at hl 2 rfl) ?_
    obtain ⟨hP9, hD9⟩ := pd_sub [((a 0), .inr (8, (fX8 a (nI tx) fp (nI t0) wd (nI we) nu na (nI rd) ts (nI ru) (nI rw) (nI ca) df db sd))), (aI k (a 1) 3 (nF dn)), (aI k (a 4) 27 (sg se tm gs)), (aI k (a 2) 72 ffrees), (aI k (a 3) 72 fprices), (aI k (a 36) 4 fwalks), (aI k (a 37) 4 (nF d_6)), (aI k (a 40) 4 fd_3)] [0, 1, 2, 3, 4, 5, 6, 7] hP hD (by decide) rfl
    exact W.iret (v := (nI be_3)) hx hb hr (fun t ht hW => ⟨⟨(nI be_3), (d_6, fd_3, be_3), rfl, ⟨rfl, bsF_of hob (bm_e (by have h9 := hv_3.2.2.1; rw [show bb_3 = (dn sn) + 1 by omega] at h9; exact h9) hob), (fun j => by rw [hd_6]; show (if j = cn then br cn else b2_3 j) = br j; by_cases q : j = cn; rw [if_pos q, q]; rw [if_neg q]; exact hv_3.2.2.2.1 j q), hbb_6, hdvl_3⟩, by rw [ht]; exact hP9, hD9⟩, hS.F ht⟩) hS.2.2 dX8_bestBar_100
  · have c_4 : ¬ ((dn sn) < bb_3) := fun h => c_4 ((nI_ltI (a := (dn sn)) (b := bb_3) (by omega) (by omega)).mpr h)
    refine lv_aload_n hx hb dX8_bestBar_35 rfl (lv_at hl 4 rfl) ?_
    refine va_get (D := D) (ci := 8) (v := .ref (a 37)) (C := RX8) (T := TX8) (N := 44) hx hb hts inX8 hown hK hP 0 rfl rfl 36 (by decide) (hts _ tw_1009) (fun _ h9 => h9) rfl dX8_bestBar_36 ?_
    refine lv_iload_n hx hb dX8_bestBar_39 rfl (lv_at hl 7 rfl) ?_
    refine lv_iload hx hb dX8_bestBar_40 (lv_at hl 0 rfl) ?_
    refine va_iast hx hb hK hP hD hS 6 1 rfl rfl (vp_in_nI (by omega) (by decide)) dX8_bestBar_42 (fun H locs hP hD hS => ?_)
    have hQ9 := pd_mk [((a 0), .inr (8, (fX8 a (nI tx) fp (nI t0) wd (nI we) nu na (nI rd) ts (nI ru) (nI rw) (nI ca) df db sd))), (aI k (a 1) 3 (nF dn)), (aI k (a 4) 27 (sg se tm gs)), (aI k (a 2) 72 ffrees), (aI k (a 3) 72 fprices), (aI k (a 36) 4 fwalks), (aI k (a 37) 4 (upd (nF b2_3) (Int32.toNatClampNeg (nI cn)) (nI bb_3))), (aI k (a 40) 4 fd_3)] hP hD
    clear hP hD
    obtain ⟨hP, hD⟩ := hQ9
    rw [nI_clamp (n := cn) (by omega)] at hP hD
    rw [show upd (nF b2_3) cn (nI bb_3) = nF (fun j => if j = cn then bb_3 else b2_3 j) from nF_upd _ _ _] at hP hD
    obtain ⟨d_8, hd_8⟩ : ∃ z : Nat → Nat, z = (fun j => if j = cn then bb_3 else b2_3 j) := ⟨_, rfl⟩
    rw [← hd_8] at hP hD
    have hbb_8 : ∀ j, d_8 j ≤ 24 := by rw [hd_8]; exact up_le hbl_3 (by omega)
    refine lv_aload_n hx hb dX8_bestBar_43 rfl (lv_at hl 4 rfl) ?_
    refine lv_iload_n hx hb dX8_bestBar_44 rfl (lv_at hl 5 rfl) ?_
    refine lv_iload_n hx hb dX8_bestBar_45 rfl (lv_at hl 6 rfl) ?_
    refine lv_iload_n hx hb dX8_bestBar_46 rfl (lv_at hl 7 rfl) ?_
    refine rw_i (D := D) (wr := []) (va_runV (As := [.int (nI sn), .int (nI se9), .int (nI cn)]) (rest := []) ⟨hx, hb, hml, hown, hts⟩ ((n_costOf l D k st lo a tx t0 we rd ru rw ca fp wd nu na ts df db sd dn se tm gs ffrees fprices fwalks d_8 fd_3 sn se9 cn hdn (by first | assumption | omega) hbb_8 (by first | assumption | omega) (by first | assumption | omega) hdvl_3 (by first | assumption | omega)) H.size) (cwV 3 hts (gV tw_1394 tw_1396 tw_65 tw_87 tw_1397) rfl rfl rfl (by decide +kernel) ⟨Nat.le_of_ble_eq_true rfl, Nat.le_of_ble_eq_true rfl⟩) (pV hS hAlo hlo hP hK (va_Dlo hD hAlo) hZ [0, 1, 2, 3, 4, 5, 6, 7] (by decide) rfl (ci := 8) (q := (RX8, TX8, 44)) (q0 := 0) rfl rfl) rfl rfl hl.1 rfl (lv_room (Nat.le_of_ble_eq_true rfl)) dX8_bestBar_47 ⟨Nat.le_of_ble_eq_true rfl, Nat.le_of_ble_eq_true rfl⟩) hS hA hP hD [0, 1, 2, 3, 4, 5, 6, 7] [] rfl rfl (by decide) (by decide) (fun r_9 u H locs hw_9 hP hD hS => ?_)
    obtain ⟨fdoorsOf__9, rfl⟩ : ∃ z, z = u := ⟨_, rfl⟩
    have hQ9 := pd_mk [((a 0), .inr (8, (fX8 a (nI tx) fp (nI t0) wd (nI we) nu na (nI rd) ts (nI ru) (nI rw) (nI ca) df db sd))), (aI k (a 1) 3 (nF dn)), (aI k (a 4) 27 (sg se tm gs)), (aI k (a 2) 72 ffrees), (aI k (a 3) 72 fprices), (aI k (a 36) 4 fwalks), (aI k (a 37) 4 (nF d_8)), (aI k (a 40) 4 fdoorsOf__9)] hP hD
    clear hP hD
    obtain ⟨hP, hD⟩ := hQ9
    try dsimp only at hw_9
    refine lv_istore (lv' := [(8, .int r_9), (7, .int (nI bb_3)), (6, .int le_3), (5, .int (nI be_3)), (4, .int (nI (br cn))), (0, .ref (a 0)), (1, .int (nI sn)), (2, .int (nI se9)), (3, .int (nI cn))]) hx hb dX8_bestBar_50 hl (by decide) rfl (fun ls hl => ?_)
    refine lv_iload hx hb dX8_bestBar_52 (lv_at hl 0 rfl) ?_
    refine lv_iload hx hb dX8_bestBar_54 (lv_at hl 2 rfl) ?_
    refine lv_icmp_ge (tgt := 64) hx hb dX8_bestBar_56 (by decide) (fun c_10 => ?_) (fun c_10 => ?_)
    · refine lv_iload hx hb dX8_bestBar_64 (lv_at hl 3 rfl) ?_
      refine lv_istore (lv' := [(5, .int (nI be_3)), (8, .int r_9), (7, .int (nI bb_3)), (6, .int le_3), (4, .int (nI (br cn))), (0, .ref (a 0)), (1, .int (nI sn)), (2, .int (nI se9)), (3, .int (nI cn))]) hx hb dX8_bestBar_66 hl (by decide) rfl (fun ls hl => ?_)
      refine lv_iload hx hb dX8_bestBar_68 (lv_at hl 1 rfl) ?_
      refine lv_iload hx hb dX8_bestBar_70 (lv_at hl 3 rfl) ?_
      refine lv_icmp_ge (tgt := 80) hx hb dX8_bestBar_72 (by decide) (fun c_11 => ?_) (fun c_11 => absurd c_11 (fun h => h c_10))
      refine lv_iload hx hb dX8_bestBar_80 (lv_at hl 3 rfl) ?_
      refine lv_istore (lv' := [(6, .int le_3), (5, .int (nI be_3)), (8, .int r_9), (7, .int (nI bb_3)), (4, .int (nI (br cn))), (0, .ref (a 0)), (1, .int (nI sn)), (2, .int (nI se9)), (3, .int (nI cn))]) hx hb dX8_bestBar_82 hl (by decide) rfl (fun ls hl => ?_)
      refine lv_iinc (v := (nI (bb_3 + 1))) (lv' := [(7, .int (nI (bb_3 + 1))), (6, .int le_3), (5, .int (nI be_3)), (8, .int r_9), (4, .int (nI (br cn))), (0, .ref (a 0)), (1, .int (nI sn)), (2, .int (nI se9)), (3, .int (nI cn))]) hx hb dX8_bestBar_84 hl (k := 3) rfl (nI_add bb_3 1) (by decide) rfl (fun ls hl => ?_)
      refine lv_goto (tgt := 24) hx hb dX8_bestBar_87 (by decide) ?_
      exact ih_3 _ (bb_3 + 1, be_3, le_3, d_8, fdoorsOf__9) _ _ _ (by omega) ⟨rfl, ⟨by omega, by omega, bm_n hv_3.2.2.1 (hw_9.1.trans (by rw [show d_8 cn = bb_3 by rw [hd_8]; exact if_pos rfl]; exact kb_congr (fun _ _ => rfl) (fun j hj => by rw [hd_8]; show (if j = cn then _ else b2_3 j) = br j; rw [if_neg (by omega)]; exact hv_3.2.2.2.1 j (by omega)))) c_10, fun j hj => by rw [hd_8]; show (if j = cn then _ else b2_3 j) = br j; rw [if_neg hj]; exact hv_3.2.2.2.1 j hj, hbb_8, hw_9.2⟩, hP, hD, hS, (lv_sub hl [0, 1, 2, 4, 5, 6, 7, 8] rfl)⟩
    · refine lv_iload hx hb dX8_bestBar_59 (lv_at hl 1 rfl) ?_
      refine lv_goto (tgt := 66) hx hb dX8_bestBar_61 (by decide) ?_
      refine lv_istore (lv' := [(5, .int (nI bb_3)), (8, .int r_9), (7, .int (nI bb_3)), (6, .int le_3), (4, .int (nI (br cn))), (0, .ref (a 0)), (1, .int (nI sn)), (2, .int (nI se9)), (3, .int (nI cn))]) hx hb dX8_bestBar_66 hl (by decide) rfl (fun ls hl => ?_)
      refine lv_iload hx hb dX8_bestBar_68 (lv_at hl 1 rfl) ?_
      refine lv_iload hx hb dX8_bestBar_70 (lv_at hl 3 rfl) ?_
      refine lv_icmp_ge (tgt := 80) hx hb dX8_bestBar_72 (by decide) (fun c_12 => absurd c_12 (c_10)) (fun c_12 => ?_)
      refine lv_iload hx hb dX8_bestBar_75 (lv_at hl 1 rfl) ?_
      refine lv_goto (tgt := 82) hx hb dX8_bestBar_77 (by decide) ?_
      refine lv_istore (lv' := [(6, .int r_9), (5, .int (nI bb_3)), (8, .int r_9), (7, .int (nI bb_3)), (4, .int (nI (br cn))), (0, .ref (a 0)), (1, .int (nI sn)), (2, .int (nI se9)), (3, .int (nI cn))]) hx hb dX8_bestBar_82 hl (by decide) rfl (fun ls hl => ?_)
      refine lv_iinc (v := (nI (bb_3 + 1))) (lv' := [(7, .int (nI (bb_3 + 1))), (6, .int r_9), (5, .int (nI bb_3)), (8, .int r_9), (4, .int (nI (br cn))), (0, .ref (a 0)), (1, .int (nI sn)), (2, .int (nI se9)), (3, .int (nI cn))]) hx hb dX8_bestBar_84 hl (k := 3) rfl (nI_add bb_3 1) (by decide) rfl (fun ls hl => ?_)
      refine lv_goto (tgt := 24) hx hb dX8_bestBar_87 (by decide) ?_
      exact ih_3 _ (bb_3 + 1, bb_3, r_9, d_8, fdoorsOf__9) _ _ _ (by omega) ⟨rfl, ⟨by omega, by omega, bm_y hv_3.2.2.1 (hw_9.1.trans (by rw [show d_8 cn = bb_3 by rw [hd_8]; exact if_pos rfl]; exact kb_congr (fun _ _ => rfl) (fun j hj => by rw [hd_8]; show (if j = cn then _ else b2_3 j) = br j; rw [if_neg (by omega)]; exact hv_3.2.2.2.1 j (by omega)))) (Int32.not_le.mp c_10), fun j hj => by rw [hd_8]; show (if j = cn then _ else b2_3 j) = br j; rw [if_neg hj]; exact hv_3.2.2.2.1 j hj, hbb_8, hw_9.2⟩, hP, hD, hS, (lv_sub hl [0, 1, 2, 4, 5, 6, 7, 8] rfl)⟩


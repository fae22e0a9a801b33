theorem dX0_worthOf_0 : decode cX0_worthOf 0 = .ok (.aload_n 0, 1) := by decide +kernel
theorem dX0_worthOf_1 : decode cX0_worthOf 1 = .ok (.iload_n 1, 1) := by decide +kernel
theorem dX0_worthOf_2 : decode cX0_worthOf 2 = .ok (.iload_n 2, 1) := by decide +kernel
theorem dX0_worthOf_3 : decode cX0_worthOf 3 = .ok (.iload_n 3, 1) := by decide +kernel
theorem dX0_worthOf_4 : decode cX0_worthOf 4 = .ok (.invokevirtual 86, 3) := by decide +kernel
theorem dX0_worthOf_7 : decode cX0_worthOf 7 = .ok (.istore 4, 2) := by decide +kernel
theorem dX0_worthOf_9 : decode cX0_worthOf 9 = .ok (.iload_n 3, 1) := by decide +kernel
theorem dX0_worthOf_10 : decode cX0_worthOf 10 = .ok (.iconst 1, 1) := by decide +kernel
theorem dX0_worthOf_11 : decode cX0_worthOf 11 = .ok (.iand, 1) := by decide +kernel
theorem dX0_worthOf_12 : decode cX0_worthOf 12 = .ok (.ifCond .ne 8, 3) := by decide +kernel
theorem dX0_worthOf_15 : decode cX0_worthOf 15 = .ok (.iload 4, 2) := by decide +kernel
theorem dX0_worthOf_17 : decode cX0_worthOf 17 = .ok (.goto 17, 3) := by decide +kernel
theorem dX0_worthOf_20 : decode cX0_worthOf 20 = .ok (.iload 4, 2) := by decide +kernel
theorem dX0_worthOf_22 : decode cX0_worthOf 22 = .ok (.aload_n 0, 1) := by decide +kernel
theorem dX0_worthOf_23 : decode cX0_worthOf 23 = .ok (.getfield 24, 3) := by decide +kernel
theorem dX0_worthOf_26 : decode cX0_worthOf 26 = .ok (.iload_n 1, 1) := by decide +kernel
theorem dX0_worthOf_27 : decode cX0_worthOf 27 = .ok (.iload_n 2, 1) := by decide +kernel
theorem dX0_worthOf_28 : decode cX0_worthOf 28 = .ok (.invokevirtual 83, 3) := by decide +kernel
theorem dX0_worthOf_31 : decode cX0_worthOf 31 = .ok (.invokestatic 54, 3) := by decide +kernel
theorem dX0_worthOf_34 : decode cX0_worthOf 34 = .ok (.ireturn, 1) := by decide +kernel
set_option maxHeartbeats 4000000 in
set_option maxRecDepth 100000 in
theorem x_worthOf (l : Launch) (D : va_G) (k : Nat → ClassId) (st : Nat → Nat) (lo : Nat) (h0 : Nat) (h1 : Nat) (h2 : Nat) (h3 : Nat) (h4 : Nat) (n : Nat) (see : Nat) (tm : Nat) (g : Nat → Int32) (fp : Nat → Int32) (fl : Nat → Int32) (w0 : Nat) (w1 : Nat) (w2 : Nat) (w3 : Nat) (w4 : Nat) (on : Nat → Int32) (rn : Nat) (i : Nat) (gg : Nat) (hrn : rn ≤ 3) (hi : i < 24) (hg : gg < 8) : CRi l D k st lo yX0_worthOf cX0_worthOf 5 (some .int) ({ frames := 2, cells := 0, slots := 0, locals := 60 }) [.ref w0, .int (nI rn), .int (nI i), .int (nI gg)] [(h0, .inr (5, (fX5 h1 h2 h3 h4))), (aI k h1 10 (vv n see tm g)), (aI k h3 24 fp), (aI k h4 4 fl), (w0, .inr (0, (fX0 h0 w1 w2 w3 w4))), (aI k w1 768 on)] (fun _ => True) := by
  intro sz
  refine Met.ofW (cc := cX0_worthOf) (maxL := 5) (ret := (some .int)) (by decide) rfl ?_
  intro p e s m args below meth c s₁ B hml hv
  obtain ⟨rfl, hsz, hlo, hP, hK, hDL, hZ⟩ := hv
  have hx := B.exec
  have hb := B.bytes
  have hr := B.returns
  have hts := WS_ts B.pre
  have hown : s.vm.findClass RX0 = some m.cls := findClass_of_methodNamed B.named
  have hlocks := B.notSynchronized
  subst hsz
  have hA : ∀ q : Nat, s.heap.size ≤ q → (fun q : Nat => s.heap.size ≤ q) q := fun _ h => h
  have hAlo : ∀ q : Nat, (fun q : Nat => s.heap.size ≤ q) q → lo ≤ q := fun q h => Nat.le_trans hlo h
  have hS : va_S (fun q : Nat => s.heap.size ≤ q) s.heap s.heap [] := va_S.rf
  have hl := lv_entry ([.ref w0, .int (nI rn), .int (nI i), .int (nI gg)]) (n := 5) (Nat.le_of_ble_eq_true rfl)
  rw [lg_entry_eq]
  generalize (lg_sl ([.ref w0, .int (nI rn), .int (nI i), .int (nI gg)]) ++ List.replicate (5 - (lg_sl ([.ref w0, .int (nI rn), .int (nI i), .int (nI gg)])).length) Slot.unset).toArray = ls at hl ⊢
  have hl : lv_has ls 5 [(0, .ref w0), (1, .int (nI rn)), (2, .int (nI i)), (3, .int (nI gg))] := hl
  refine lv_aload_n hx hb dX0_worthOf_0 rfl (lv_at hl 0 rfl) ?_
  refine lv_iload_n hx hb dX0_worthOf_1 rfl (lv_at hl 1 rfl) ?_
  refine lv_iload_n hx hb dX0_worthOf_2 rfl (lv_at hl 2 rfl) ?_
  refine lv_iload_n hx hb dX0_worthOf_3 rfl (lv_at hl 3 rfl) ?_
  refine ro_i (D := D) (va_runV (As := [.int (nI rn), .int (nI i), .int (nI gg)]) (rest := []) ⟨hx, hb, hml, hown, hts⟩ ((x_onwardOf l D k st lo h0 w0 w1 w2 w3 w4 on rn i gg (by omega) (by omega) (by omega)) s.heap.size) (cwV 3 hts (gV tw_549 tw_550 tw_551 tw_85 tw_552) rfl rfl rfl (by decide +kernel) ⟨Nat.le_of_ble_eq_true rfl, Nat.le_of_ble_eq_true rfl⟩) (pV hS hAlo hlo hP hK hDL hZ [4, 5] (by decide) rfl (ci := 0) (q := (RX0, TX0, 5)) (q0 := 0) rfl rfl) rfl rfl hl.1 rfl (lv_room (Nat.le_of_ble_eq_true rfl)) dX0_worthOf_4 ⟨Nat.le_of_ble_eq_true rfl, Nat.le_of_ble_eq_true rfl⟩) hS hA hP (fun r_1 H locs hw_1 hP hS => ?_)
  try dsimp only at hw_1
  refine lv_istore (lv' := [(4, .int r_1), (0, .ref w0), (1, .int (nI rn)), (2, .int (nI i)), (3, .int (nI gg))]) hx hb dX0_worthOf_7 hl (by decide) rfl (fun ls hl => ?_)
  refine lv_iload_n hx hb dX0_worthOf_9 rfl (lv_at hl 4 rfl) ?_
  refine lv_iconst (v := 1) hx hb dX0_worthOf_10 (by decide) ?_
  refine lv_iand hx hb dX0_worthOf_11 ?_
  refine lv_topi (fun x_2 ex_2 => ?_)
  refine lv_if_ne (tgt := 20) hx hb dX0_worthOf_12 (by decide) (fun c_3 => ?_) (fun c_3 => ?_)
  · refine lv_iload hx hb dX0_worthOf_20 (lv_at hl 0 rfl) ?_
    refine lv_aload_n hx hb dX0_worthOf_22 rfl (lv_at hl 1 rfl) ?_
    refine va_get (D := D) (ci := 0) (v := .ref h0) (C := RX0) (T := TX0) (N := 5) hx hb hts inX0 hown hK hP 4 rfl rfl 0 (by decide) (hts _ tw_266) (fun _ h9 => h9) rfl dX0_worthOf_23 ?_
    refine lv_iload_n hx hb dX0_worthOf_26 rfl (lv_at hl 2 rfl) ?_
    refine lv_iload_n hx hb dX0_worthOf_27 rfl (lv_at hl 3 rfl) ?_
    refine ro_i (D := D) (va_runV (As := [.int (nI rn), .int (nI i)]) (rest := [.int r_1]) ⟨hx, hb, hml, hown, hts⟩ ((x_takingOf l D k st lo h0 h1 h2 h3 h4 n see tm g fp fl rn i (by omega) (by omega)) H.size) (cwV 2 hts (gV tw_556 tw_557 tw_558 tw_81 tw_559) rfl rfl rfl (by decide +kernel) ⟨Nat.le_of_ble_eq_true rfl, Nat.le_of_ble_eq_true rfl⟩) (pV hS hAlo hlo hP hK hDL hZ [0, 1, 2, 3] (by decide) rfl (ci := 5) (q := (RX5, TX5, 4)) (q0 := 0) rfl rfl) rfl rfl hl.1 rfl (lv_room (Nat.le_of_ble_eq_true rfl)) dX0_worthOf_28 ⟨Nat.le_of_ble_eq_true rfl, Nat.le_of_ble_eq_true rfl⟩) hS hA hP (fun r_4 H locs hw_4 hP hS => ?_)
    try dsimp only at hw_4
    refine va_mmin hx hb (by rw [hml]; exact hl.1.symm) hown (hts _ tw_528) (hts _ tw_529) (hts _ tw_93) (hts _ tw_530) (Nat.le_of_ble_eq_true rfl) (Nat.le_of_ble_eq_true rfl) (Nat.le_of_ble_eq_true rfl) (Nat.le_of_ble_eq_true rfl) dX0_worthOf_31 ?_
    refine lv_topi (fun x_5 ex_5 => ?_)
    exact W.iret (v := x_5) hx hb hr (fun t ht hW => ⟨⟨x_5, (), rfl, trivial, trivial⟩, hS.F ht⟩) hS.2.2 dX0_worthOf_34
  · refine lv_iload hx hb dX0_worthOf_15 (lv_at hl 0 rfl) ?_
    refine lv_goto (tgt := 34) hx hb dX0_worthOf_17 (by decide) ?_
    exact W.iret (v := r_1) hx hb hr (fun t ht hW => ⟨⟨r_1, (), rfl, trivial, trivial⟩, hS.F ht⟩) hS.2.2 dX0_worthOf_34

theorem dX7_mixed_0 : decode cX7_mixed 0 = .ok (.iload_n 0, 1) := by decide +kernel
theorem dX7_mixed_1 : decode cX7_mixed 1 = .ok (.i2l, 1) := by decide +kernel
theorem dX7_mixed_2 : decode cX7_mixed 2 = .ok (.iload_n 1, 1) := by decide +kernel
theorem dX7_mixed_3 : decode cX7_mixed 3 = .ok (.i2l, 1) := by decide +kernel
theorem dX7_mixed_4 : decode cX7_mixed 4 = .ok (.lmul, 1) := by decide +kernel
theorem dX7_mixed_5 : decode cX7_mixed 5 = .ok (.bipush 100, 2) := by decide +kernel
theorem dX7_mixed_7 : decode cX7_mixed 7 = .ok (.iload_n 0, 1) := by decide +kernel
theorem dX7_mixed_8 : decode cX7_mixed 8 = .ok (.isub, 1) := by decide +kernel
theorem dX7_mixed_9 : decode cX7_mixed 9 = .ok (.i2l, 1) := by decide +kernel
theorem dX7_mixed_10 : decode cX7_mixed 10 = .ok (.iload_n 2, 1) := by decide +kernel
theorem dX7_mixed_11 : decode cX7_mixed 11 = .ok (.i2l, 1) := by decide +kernel
theorem dX7_mixed_12 : decode cX7_mixed 12 = .ok (.lmul, 1) := by decide +kernel
theorem dX7_mixed_13 : decode cX7_mixed 13 = .ok (.ladd, 1) := by decide +kernel
theorem dX7_mixed_14 : decode cX7_mixed 14 = .ok (.ldc2_w 295, 3) := by decide +kernel
theorem dX7_mixed_17 : decode cX7_mixed 17 = .ok (.ldiv, 1) := by decide +kernel
theorem dX7_mixed_18 : decode cX7_mixed 18 = .ok (.l2i, 1) := by decide +kernel
theorem dX7_mixed_19 : decode cX7_mixed 19 = .ok (.ireturn, 1) := by decide +kernel
set_option maxHeartbeats 4000000 in
set_option maxRecDepth 100000 in
theorem x_mixed (l : Launch) (D : va_G) (k : Nat → ClassId) (st : Nat → Nat) (lo : Nat) (p0 : Int32) (p1 : Int32) (p2 : Int32)  : CRi l D k st lo yX7_mixed cX7_mixed 3 (some .int) ({ frames := 0, cells := 0, slots := 0, locals := 0 }) [.int p0, .int p1, .int p2] [] (fun _ => True) := by
  intro sz
  refine Met.ofW (cc := cX7_mixed) (maxL := 3) (ret := (some .int)) (by decide) rfl ?_
  intro p e s m args below meth c s₁ B hml hv
  obtain ⟨rfl, hsz, hlo, hP, hK, hDL, hZ⟩ := hv
  have hx := B.exec
  have hb := B.bytes
  have hr := B.returns
  have hts := WS_ts B.pre
  have hown : s.vm.findClass RX7 = some m.cls := findClass_of_methodNamed B.named
  have hlocks := B.notSynchronized
  subst hsz
  have hA : ∀ q : Nat, s.heap.size ≤ q → (fun q : Nat => s.heap.size ≤ q) q := fun _ h => h
  have hAlo : ∀ q : Nat, (fun q : Nat => s.heap.size ≤ q) q → lo ≤ q := fun q h => Nat.le_trans hlo h
  have hS : va_S (fun q : Nat => s.heap.size ≤ q) s.heap s.heap [] := va_S.rf
  have hl := lv_entry ([.int p0, .int p1, .int p2]) (n := 3) (Nat.le_of_ble_eq_true rfl)
  rw [lg_entry_eq]
  generalize (lg_sl ([.int p0, .int p1, .int p2]) ++ List.replicate (3 - (lg_sl ([.int p0, .int p1, .int p2])).length) Slot.unset).toArray = ls at hl ⊢
  have hl : lv_has ls 3 [(0, .int p0), (1, .int p1), (2, .int p2)] := hl
  refine lv_iload_n hx hb dX7_mixed_0 rfl (lv_at hl 0 rfl) ?_
  refine lv_i2l (v := p0.toInt64) hx hb dX7_mixed_1 rfl ?_
  refine lv_iload_n hx hb dX7_mixed_2 rfl (lv_at hl 1 rfl) ?_
  refine lv_i2l (v := p1.toInt64) hx hb dX7_mixed_3 rfl ?_
  refine lv_lmul hx hb dX7_mixed_4 ?_
  refine lv_topl (fun x_1 ex_1 => ?_)
  refine lv_bipush (v := 100) hx hb dX7_mixed_5 (by decide) ?_
  refine lv_iload_n hx hb dX7_mixed_7 rfl (lv_at hl 0 rfl) ?_
  refine lv_isub hx hb dX7_mixed_8 ?_
  refine lv_topi (fun x_2 ex_2 => ?_)
  refine lv_i2l (v := x_2.toInt64) hx hb dX7_mixed_9 rfl ?_
  refine lv_iload_n hx hb dX7_mixed_10 rfl (lv_at hl 2 rfl) ?_
  refine lv_i2l (v := p2.toInt64) hx hb dX7_mixed_11 rfl ?_
  refine lv_lmul hx hb dX7_mixed_12 ?_
  refine lv_topl (fun x_3 ex_3 => ?_)
  refine lv_ladd hx hb dX7_mixed_13 ?_
  refine lv_topl (fun x_4 ex_4 => ?_)
  refine lv_ldc2 hx hb hown (hts _ tw_571) dX7_mixed_14 ?_
  refine lv_ldiv hx hb dX7_mixed_17 (by decide) ?_
  refine lv_topl (fun x_5 ex_5 => ?_)
  refine lv_l2i hx hb dX7_mixed_18 rfl ?_
  refine lv_topi (fun x_6 ex_6 => ?_)
  exact W.iret (v := x_6) hx hb hr (fun t ht hW => ⟨⟨x_6, (), rfl, trivial, trivial⟩, hS.F ht⟩) hS.2.2 dX7_mixed_19

theorem dX0_reckonEnd_0 : decode cX0_reckonEnd 0 = .ok (.aload_n 0, 1) := by decide +kernel
theorem dX0_reckonEnd_1 : decode cX0_reckonEnd 1 = .ok (.getfield 24, 3) := by decide +kernel
theorem dX0_reckonEnd_4 : decode cX0_reckonEnd 4 = .ok (.iload_n 1, 1) := by decide +kernel
theorem dX0_reckonEnd_5 : decode cX0_reckonEnd 5 = .ok (.invokevirtual 48, 3) := by decide +kernel
theorem dX0_reckonEnd_8 : decode cX0_reckonEnd 8 = .ok (.istore_n 2, 1) := by decide +kernel
theorem dX0_reckonEnd_9 : decode cX0_reckonEnd 9 = .ok (.iload_n 1, 1) := by decide +kernel
theorem dX0_reckonEnd_10 : decode cX0_reckonEnd 10 = .ok (.aload_n 0, 1) := by decide +kernel
theorem dX0_reckonEnd_11 : decode cX0_reckonEnd 11 = .ok (.getfield 24, 3) := by decide +kernel
theorem dX0_reckonEnd_14 : decode cX0_reckonEnd 14 = .ok (.getfield 28, 3) := by decide +kernel
theorem dX0_reckonEnd_17 : decode cX0_reckonEnd 17 = .ok (.bipush 8, 2) := by decide +kernel
theorem dX0_reckonEnd_19 : decode cX0_reckonEnd 19 = .ok (.iaload, 1) := by decide +kernel
theorem dX0_reckonEnd_20 : decode cX0_reckonEnd 20 = .ok (.if_icmp .lt 5, 3) := by decide +kernel
theorem dX0_reckonEnd_23 : decode cX0_reckonEnd 23 = .ok (.iload_n 2, 1) := by decide +kernel
theorem dX0_reckonEnd_24 : decode cX0_reckonEnd 24 = .ok (.ireturn, 1) := by decide +kernel
theorem dX0_reckonEnd_25 : decode cX0_reckonEnd 25 = .ok (.iload_n 2, 1) := by decide +kernel
theorem dX0_reckonEnd_26 : decode cX0_reckonEnd 26 = .ok (.aload_n 0, 1) := by decide +kernel
theorem dX0_reckonEnd_27 : decode cX0_reckonEnd 27 = .ok (.getfield 24, 3) := by decide +kernel
theorem dX0_reckonEnd_30 : decode cX0_reckonEnd 30 = .ok (.invokevirtual 51, 3) := by decide +kernel
theorem dX0_reckonEnd_33 : decode cX0_reckonEnd 33 = .ok (.aload_n 0, 1) := by decide +kernel
theorem dX0_reckonEnd_34 : decode cX0_reckonEnd 34 = .ok (.getfield 15, 3) := by decide +kernel
theorem dX0_reckonEnd_37 : decode cX0_reckonEnd 37 = .ok (.iload_n 1, 1) := by decide +kernel
theorem dX0_reckonEnd_38 : decode cX0_reckonEnd 38 = .ok (.iconst 1, 1) := by decide +kernel
theorem dX0_reckonEnd_39 : decode cX0_reckonEnd 39 = .ok (.iadd, 1) := by decide +kernel
theorem dX0_reckonEnd_40 : decode cX0_reckonEnd 40 = .ok (.iaload, 1) := by decide +kernel
theorem dX0_reckonEnd_41 : decode cX0_reckonEnd 41 = .ok (.iadd, 1) := by decide +kernel
theorem dX0_reckonEnd_42 : decode cX0_reckonEnd 42 = .ok (.invokestatic 54, 3) := by decide +kernel
theorem dX0_reckonEnd_45 : decode cX0_reckonEnd 45 = .ok (.ireturn, 1) := by decide +kernel
set_option maxHeartbeats 4000000 in
set_option maxRecDepth 100000 in
theorem x_reckonEnd (l : Launch) (D : va_G) (k : Nat → ClassId) (st : Nat → Nat) (lo : Nat) (h0 : Nat) (h1 : Nat) (h2 : Nat) (h3 : Nat) (h4 : Nat) (n : Nat) (see : Nat) (tm : Nat) (g : Nat → Int32) (fl : Nat → Int32) (w0 : Nat) (w1 : Nat) (w2 : Nat) (w3 : Nat) (w4 : Nat) (sr : Nat → Int32) (rn : Nat) (hrn : rn ≤ 3) (htm9 : tm ≤ 3) : CRi l D k st lo yX0_reckonEnd cX0_reckonEnd 3 (some .int) ({ frames := 1, cells := 0, slots := 0, locals := 60 }) [.ref w0, .int (nI rn)] [(h0, .inr (5, (fX5 h1 h2 h3 h4))), (aI k h1 10 (vv n see tm g)), (aI k h4 4 fl), (w0, .inr (0, (fX0 h0 w1 w2 w3 w4))), (aI k w2 4 sr)] (fun _ => True) := by
  intro sz
  refine Met.ofW (cc := cX0_reckonEnd) (maxL := 3) (ret := (some .int)) (by decide) rfl ?_
  intro p e s m args below meth c s₁ B hml hv
  obtain ⟨rfl, hsz, hlo, hP, hK, hDL, hZ⟩ := hv
  have hx := B.exec
  have hb := B.bytes
  have hr := B.returns
  have hts := WS_ts B.pre
  have hown : s.vm.findClass RX0 = some m.cls := findClass_of_methodNamed B.named
  have hlocks := B.notSynchronized
  subst hsz
  have hA : ∀ q : Nat, s.heap.size ≤ q → (fun q : Nat => s.heap.size ≤ q) q := fun _ h => h
  have hAlo : ∀ q : Nat, (fun q : Nat => s.heap.size ≤ q) q → lo ≤ q := fun q h => Nat.le_trans hlo h
  have hS : va_S (fun q : Nat => s.heap.size ≤ q) s.heap s.heap [] := va_S.rf
  have hl := lv_entry ([.ref w0, .int (nI rn)]) (n := 3) (Nat.le_of_ble_eq_true rfl)
  rw [lg_entry_eq]
  generalize (lg_sl ([.ref w0, .int (nI rn)]) ++ List.replicate (3 - (lg_sl ([.ref w0, .int (nI rn)])).length) Slot.unset).toArray = ls at hl ⊢
  have hl : lv_has ls 3 [(0, .ref w0), (1, .int (nI rn))] := hl
  refine lv_aload_n hx hb dX0_reckonEnd_0 rfl (lv_at hl 0 rfl) ?_
  refine va_get (D := D) (ci := 0) (v := .ref h0) (C := RX0) (T := TX0) (N := 5) hx hb hts inX0 hown hK hP 3 rfl rfl 0 (by decide) (hts _ tw_266) (fun _ h9 => h9) rfl dX0_reckonEnd_1 ?_
  refine lv_iload_n hx hb dX0_reckonEnd_4 rfl (lv_at hl 1 rfl) ?_
  refine ro_i (D := D) (va_runV (As := [.int (nI rn)]) (rest := []) ⟨hx, hb, hml, hown, hts⟩ ((x_garageOf l D k st lo h0 h1 h2 h3 h4 n see tm g fl rn (by omega)) s.heap.size) (cwV 1 hts (gV tw_520 tw_521 tw_522 tw_81 tw_523) rfl rfl rfl (by decide +kernel) ⟨Nat.le_of_ble_eq_true rfl, Nat.le_of_ble_eq_true rfl⟩) (pV hS hAlo hlo hP hK hDL hZ [0, 1, 2] (by decide) rfl (ci := 5) (q := (RX5, TX5, 4)) (q0 := 0) rfl rfl) rfl rfl hl.1 rfl (lv_room (Nat.le_of_ble_eq_true rfl)) dX0_reckonEnd_5 ⟨Nat.le_of_ble_eq_true rfl, Nat.le_of_ble_eq_true rfl⟩) hS hA hP (fun r_1 H locs hw_1 hP hS => ?_)
  try dsimp only at hw_1
  refine lv_istore_n (lv' := [(2, .int r_1), (0, .ref w0), (1, .int (nI rn))]) hx hb dX0_reckonEnd_8 rfl hl (by decide) rfl (fun ls hl => ?_)
  refine lv_iload_n hx hb dX0_reckonEnd_9 rfl (lv_at hl 2 rfl) ?_
  refine lv_aload_n hx hb dX0_reckonEnd_10 rfl (lv_at hl 1 rfl) ?_
  refine va_get (D := D) (ci := 0) (v := .ref h0) (C := RX0) (T := TX0) (N := 5) hx hb hts inX0 hown hK hP 3 rfl rfl 0 (by decide) (hts _ tw_266) (fun _ h9 => h9) rfl dX0_reckonEnd_11 ?_
  refine va_get (D := D) (ci := 5) (v := .ref h1) (C := RX5) (T := TX5) (N := 4) hx hb hts inX5 hown hK hP 0 rfl rfl 0 (by decide) (hts _ tw_147) (fun _ h9 => h9) rfl dX0_reckonEnd_14 ?_
  refine lv_bipush (v := 8) hx hb dX0_reckonEnd_17 (by decide) ?_
  refine va_iald hx hb hK hP 1 1 rfl rfl (by unfold vp_in; decide) dX0_reckonEnd_19 ?_
  refine lv_ti (y := (nI tm)) (by rfl) ?_
  refine lv_icmp_lt (tgt := 25) hx hb dX0_reckonEnd_20 (by decide) (fun c_2 => ?_) (fun c_2 => ?_)
  · have c_2 := (nI_ltI (a := rn) (b := tm) (by omega) (by omega)).mp c_2
    refine lv_iload_n hx hb dX0_reckonEnd_25 rfl (lv_at hl 0 rfl) ?_
    refine lv_aload_n hx hb dX0_reckonEnd_26 rfl (lv_at hl 1 rfl) ?_
    refine va_get (D := D) (ci := 0) (v := .ref h0) (C := RX0) (T := TX0) (N := 5) hx hb hts inX0 hown hK hP 3 rfl rfl 0 (by decide) (hts _ tw_266) (fun _ h9 => h9) rfl dX0_reckonEnd_27 ?_
    refine ro_i (D := D) (va_runV (As := []) (rest := [.int r_1]) ⟨hx, hb, hml, hown, hts⟩ ((x_roundDrive l D k st lo h0 h1 h2 h3 h4 n see tm g) H.size) (cwV 0 hts (gV tw_524 tw_525 tw_526 tw_81 tw_527) rfl rfl rfl (by decide +kernel) ⟨Nat.le_of_ble_eq_true rfl, Nat.le_of_ble_eq_true rfl⟩) (pV hS hAlo hlo hP hK hDL hZ [0, 1] (by decide) rfl (ci := 5) (q := (RX5, TX5, 4)) (q0 := 0) rfl rfl) rfl rfl hl.1 rfl (lv_room (Nat.le_of_ble_eq_true rfl)) dX0_reckonEnd_30 ⟨Nat.le_of_ble_eq_true rfl, Nat.le_of_ble_eq_true rfl⟩) hS hA hP (fun r_3 H locs hw_3 hP hS => ?_)
    try dsimp only at hw_3
    refine lv_aload_n hx hb dX0_reckonEnd_33 rfl (lv_at hl 1 rfl) ?_
    refine va_get (D := D) (ci := 0) (v := .ref w2) (C := RX0) (T := TX0) (N := 5) hx hb hts inX0 hown hK hP 3 rfl rfl 2 (by decide) (hts _ tw_268) (fun _ h9 => h9) rfl dX0_reckonEnd_34 ?_
    refine lv_iload_n hx hb dX0_reckonEnd_37 rfl (lv_at hl 2 rfl) ?_
    refine lv_iconst (v := 1) hx hb dX0_reckonEnd_38 (by decide) ?_
    refine lv_iadd hx hb dX0_reckonEnd_39 ?_
    refine lv_ti (y := (nI (rn + 1))) (nI_add rn 1) ?_
    refine va_iald hx hb hK hP 4 1 rfl rfl (vp_in_nI (by omega) (by decide)) dX0_reckonEnd_40 ?_
    refine lv_ti (y := (sr (rn + 1))) (by rw [nI_clamp (by omega)]) ?_
    refine lv_iadd hx hb dX0_reckonEnd_41 ?_
    refine lv_topi (fun x_4 ex_4 => ?_)
    refine va_mmin hx hb (by rw [hml]; exact hl.1.symm) hown (hts _ tw_528) (hts _ tw_529) (hts _ tw_93) (hts _ tw_530) (Nat.le_of_ble_eq_true rfl) (Nat.le_of_ble_eq_true rfl) (Nat.le_of_ble_eq_true rfl) (Nat.le_of_ble_eq_true rfl) dX0_reckonEnd_42 ?_
    refine lv_topi (fun x_5 ex_5 => ?_)
    exact W.iret (v := x_5) hx hb hr (fun t ht hW => ⟨⟨x_5, (), rfl, trivial, trivial⟩, hS.F ht⟩) hS.2.2 dX0_reckonEnd_45
  · have c_2 : ¬ (rn < tm) := fun h => c_2 ((nI_ltI (a := rn) (b := tm) (by omega) (by omega)).mpr h)
    refine lv_iload_n hx hb dX0_reckonEnd_23 rfl (lv_at hl 0 rfl) ?_
    exact W.iret (v := r_1) hx hb hr (fun t ht hW => ⟨⟨r_1, (), rfl, trivial, trivial⟩, hS.F ht⟩) hS.2.2 dX0_reckonEnd_24

theorem dX0_reckonNext_0 : decode cX0_reckonNext 0 = .ok (.aload_n 0, 1) := by decide +kernel
theorem dX0_reckonNext_1 : decode cX0_reckonNext 1 = .ok (.getfield 24, 3) := by decide +kernel
theorem dX0_reckonNext_4 : decode cX0_reckonNext 4 = .ok (.getfield 28, 3) := by decide +kernel
theorem dX0_reckonNext_7 : decode cX0_reckonNext 7 = .ok (.bipush 6, 2) := by decide +kernel
theorem dX0_reckonNext_9 : decode cX0_reckonNext 9 = .ok (.iaload, 1) := by decide +kernel
theorem dX0_reckonNext_10 : decode cX0_reckonNext 10 = .ok (.istore 4, 2) := by decide +kernel
theorem dX0_reckonNext_12 : decode cX0_reckonNext 12 = .ok (.iload_n 2, 1) := by decide +kernel
theorem dX0_reckonNext_13 : decode cX0_reckonNext 13 = .ok (.iconst 1, 1) := by decide +kernel
theorem dX0_reckonNext_14 : decode cX0_reckonNext 14 = .ok (.iadd, 1) := by decide +kernel
theorem dX0_reckonNext_15 : decode cX0_reckonNext 15 = .ok (.istore 5, 2) := by decide +kernel
theorem dX0_reckonNext_17 : decode cX0_reckonNext 17 = .ok (.iload_n 3, 1) := by decide +kernel
theorem dX0_reckonNext_18 : decode cX0_reckonNext 18 = .ok (.iconst 1, 1) := by decide +kernel
theorem dX0_reckonNext_19 : decode cX0_reckonNext 19 = .ok (.ishr, 1) := by decide +kernel
theorem dX0_reckonNext_20 : decode cX0_reckonNext 20 = .ok (.istore 6, 2) := by decide +kernel
theorem dX0_reckonNext_22 : decode cX0_reckonNext 22 = .ok (.iload 5, 2) := by decide +kernel
theorem dX0_reckonNext_24 : decode cX0_reckonNext 24 = .ok (.iload 4, 2) := by decide +kernel
theorem dX0_reckonNext_26 : decode cX0_reckonNext 26 = .ok (.iadd, 1) := by decide +kernel
theorem dX0_reckonNext_27 : decode cX0_reckonNext 27 = .ok (.aload_n 0, 1) := by decide +kernel
theorem dX0_reckonNext_28 : decode cX0_reckonNext 28 = .ok (.getfield 24, 3) := by decide +kernel
theorem dX0_reckonNext_31 : decode cX0_reckonNext 31 = .ok (.invokevirtual 37, 3) := by decide +kernel
theorem dX0_reckonNext_34 : decode cX0_reckonNext 34 = .ok (.if_icmp .lt 13, 3) := by decide +kernel
theorem dX0_reckonNext_37 : decode cX0_reckonNext 37 = .ok (.aload_n 0, 1) := by decide +kernel
theorem dX0_reckonNext_38 : decode cX0_reckonNext 38 = .ok (.iload_n 1, 1) := by decide +kernel
theorem dX0_reckonNext_39 : decode cX0_reckonNext 39 = .ok (.iload 5, 2) := by decide +kernel
theorem dX0_reckonNext_41 : decode cX0_reckonNext 41 = .ok (.iload 6, 2) := by decide +kernel
theorem dX0_reckonNext_43 : decode cX0_reckonNext 43 = .ok (.invokevirtual 73, 3) := by decide +kernel
theorem dX0_reckonNext_46 : decode cX0_reckonNext 46 = .ok (.ireturn, 1) := by decide +kernel
theorem dX0_reckonNext_47 : decode cX0_reckonNext 47 = .ok (.aload_n 0, 1) := by decide +kernel
theorem dX0_reckonNext_48 : decode cX0_reckonNext 48 = .ok (.getfield 24, 3) := by decide +kernel
theorem dX0_reckonNext_51 : decode cX0_reckonNext 51 = .ok (.iload 5, 2) := by decide +kernel
theorem dX0_reckonNext_53 : decode cX0_reckonNext 53 = .ok (.iload 4, 2) := by decide +kernel
theorem dX0_reckonNext_55 : decode cX0_reckonNext 55 = .ok (.iadd, 1) := by decide +kernel
theorem dX0_reckonNext_56 : decode cX0_reckonNext 56 = .ok (.iload_n 3, 1) := by decide +kernel
theorem dX0_reckonNext_57 : decode cX0_reckonNext 57 = .ok (.iload 4, 2) := by decide +kernel
theorem dX0_reckonNext_59 : decode cX0_reckonNext 59 = .ok (.ishr, 1) := by decide +kernel
theorem dX0_reckonNext_60 : decode cX0_reckonNext 60 = .ok (.iconst 1, 1) := by decide +kernel
theorem dX0_reckonNext_61 : decode cX0_reckonNext 61 = .ok (.iand, 1) := by decide +kernel
theorem dX0_reckonNext_62 : decode cX0_reckonNext 62 = .ok (.ifCond .eq 7, 3) := by decide +kernel
theorem dX0_reckonNext_65 : decode cX0_reckonNext 65 = .ok (.iconst 1, 1) := by decide +kernel
theorem dX0_reckonNext_66 : decode cX0_reckonNext 66 = .ok (.goto 4, 3) := by decide +kernel
theorem dX0_reckonNext_69 : decode cX0_reckonNext 69 = .ok (.iconst 0, 1) := by decide +kernel
theorem dX0_reckonNext_70 : decode cX0_reckonNext 70 = .ok (.invokevirtual 76, 3) := by decide +kernel
theorem dX0_reckonNext_73 : decode cX0_reckonNext 73 = .ok (.istore 7, 2) := by decide +kernel
theorem dX0_reckonNext_75 : decode cX0_reckonNext 75 = .ok (.iload 7, 2) := by decide +kernel
theorem dX0_reckonNext_77 : decode cX0_reckonNext 77 = .ok (.aload_n 0, 1) := by decide +kernel
theorem dX0_reckonNext_78 : decode cX0_reckonNext 78 = .ok (.iload_n 1, 1) := by decide +kernel
theorem dX0_reckonNext_79 : decode cX0_reckonNext 79 = .ok (.iload 5, 2) := by decide +kernel
theorem dX0_reckonNext_81 : decode cX0_reckonNext 81 = .ok (.iload 6, 2) := by decide +kernel
theorem dX0_reckonNext_83 : decode cX0_reckonNext 83 = .ok (.iconst 1, 1) := by decide +kernel
theorem dX0_reckonNext_84 : decode cX0_reckonNext 84 = .ok (.iload 4, 2) := by decide +kernel
theorem dX0_reckonNext_86 : decode cX0_reckonNext 86 = .ok (.ishl, 1) := by decide +kernel
theorem dX0_reckonNext_87 : decode cX0_reckonNext 87 = .ok (.ior, 1) := by decide +kernel
theorem dX0_reckonNext_88 : decode cX0_reckonNext 88 = .ok (.invokevirtual 73, 3) := by decide +kernel
theorem dX0_reckonNext_91 : decode cX0_reckonNext 91 = .ok (.aload_n 0, 1) := by decide +kernel
theorem dX0_reckonNext_92 : decode cX0_reckonNext 92 = .ok (.iload_n 1, 1) := by decide +kernel
theorem dX0_reckonNext_93 : decode cX0_reckonNext 93 = .ok (.iload 5, 2) := by decide +kernel
theorem dX0_reckonNext_95 : decode cX0_reckonNext 95 = .ok (.iload 6, 2) := by decide +kernel
theorem dX0_reckonNext_97 : decode cX0_reckonNext 97 = .ok (.invokevirtual 73, 3) := by decide +kernel
theorem dX0_reckonNext_100 : decode cX0_reckonNext 100 = .ok (.invokestatic 80, 3) := by decide +kernel
theorem dX0_reckonNext_103 : decode cX0_reckonNext 103 = .ok (.ireturn, 1) := by decide +kernel
set_option maxHeartbeats 4000000 in
set_option maxRecDepth 100000 in
theorem x_reckonNext (l : Launch) (D : va_G) (k : Nat → ClassId) (st : Nat → Nat) (lo : Nat) (h0 : Nat) (h1 : Nat) (h2 : Nat) (h3 : Nat) (h4 : Nat) (n : Nat) (see : Nat) (tm : Nat) (g : Nat → Int32) (ff : Nat → Int32) (fp : Nat → Int32) (fl : Nat → Int32) (w0 : Nat) (w1 : Nat) (w2 : Nat) (w3 : Nat) (w4 : Nat) (on : Nat → Int32) (rn : Nat) (i : Nat) (gg : Nat) (hn : n ≤ 24) (hsee : see ≤ 2) (hrn : rn ≤ 3) (hi : i + 1 < n) (hg : gg < 8) : CRi l D k st lo yX0_reckonNext cX0_reckonNext 8 (some .int) ({ frames := 3, cells := 0, slots := 0, locals := 84 }) [.ref w0, .int (nI rn), .int (nI i), .int (nI gg)] [(h0, .inr (5, (fX5 h1 h2 h3 h4))), (aI k h1 10 (vv n see tm g)), (aI k h2 24 ff), (aI k h3 24 fp), (aI k h4 4 fl), (w0, .inr (0, (fX0 h0 w1 w2 w3 w4))), (aI k w1 768 on)] (fun _ => True) := by
  intro sz
  refine Met.ofW (cc := cX0_reckonNext) (maxL := 8) (ret := (some .int)) (by decide) rfl ?_
  intro p e s m args below meth c s₁ B hml hv
  obtain ⟨rfl, hsz, hlo, hP, hK, hDL, hZ⟩ := hv
  have hx := B.exec
  have hb := B.bytes
  have hr := B.returns
  have hts := WS_ts B.pre
  have hown : s.vm.findClass RX0 = some m.cls := findClass_of_methodNamed B.named
  have hlocks := B.notSynchronized
  subst hsz
  have hA : ∀ q : Nat, s.heap.size ≤ q → (fun q : Nat => s.heap.size ≤ q) q := fun _ h => h
  have hAlo : ∀ q : Nat, (fun q : Nat => s.heap.size ≤ q) q → lo ≤ q := fun q h => Nat.le_trans hlo h
  have hS : va_S (fun q : Nat => s.heap.size ≤ q) s.heap s.heap [] := va_S.rf
  have hl := lv_entry ([.ref w0, .int (nI rn), .int (nI i), .int (nI gg)]) (n := 8) (Nat.le_of_ble_eq_true rfl)
  rw [lg_entry_eq]
  generalize (lg_sl ([.ref w0, .int (nI rn), .int (nI i), .int (nI gg)]) ++ List.replicate (8 - (lg_sl ([.ref w0, .int (nI rn), .int (nI i), .int (nI gg)])).length) Slot.unset).toArray = ls at hl ⊢
  have hl : lv_has ls 8 [(0, .ref w0), (1, .int (nI rn)), (2, .int (nI i)), (3, .int (nI gg))] := hl
  refine lv_aload_n hx hb dX0_reckonNext_0 rfl (lv_at hl 0 rfl) ?_
  refine va_get (D := D) (ci := 0) (v := .ref h0) (C := RX0) (T := TX0) (N := 5) hx hb hts inX0 hown hK hP 5 rfl rfl 0 (by decide) (hts _ tw_266) (fun _ h9 => h9) rfl dX0_reckonNext_1 ?_
  refine va_get (D := D) (ci := 5) (v := .ref h1) (C := RX5) (T := TX5) (N := 4) hx hb hts inX5 hown hK hP 0 rfl rfl 0 (by decide) (hts _ tw_147) (fun _ h9 => h9) rfl dX0_reckonNext_4 ?_
  refine lv_bipush (v := 6) hx hb dX0_reckonNext_7 (by decide) ?_
  refine va_iald hx hb hK hP 1 1 rfl rfl (by unfold vp_in; decide) dX0_reckonNext_9 ?_
  refine lv_ti (y := (nI see)) (by rfl) ?_
  refine lv_istore (lv' := [(4, .int (nI see)), (0, .ref w0), (1, .int (nI rn)), (2, .int (nI i)), (3, .int (nI gg))]) hx hb dX0_reckonNext_10 hl (by decide) rfl (fun ls hl => ?_)
  refine lv_iload_n hx hb dX0_reckonNext_12 rfl (lv_at hl 3 rfl) ?_
  refine lv_iconst (v := 1) hx hb dX0_reckonNext_13 (by decide) ?_
  refine lv_iadd hx hb dX0_reckonNext_14 ?_
  refine lv_ti (y := (nI (i + 1))) (nI_add i 1) ?_
  refine lv_istore (lv' := [(5, .int (nI (i + 1))), (4, .int (nI see)), (0, .ref w0), (1, .int (nI rn)), (2, .int (nI i)), (3, .int (nI gg))]) hx hb dX0_reckonNext_15 hl (by decide) rfl (fun ls hl => ?_)
  refine lv_iload_n hx hb dX0_reckonNext_17 rfl (lv_at hl 5 rfl) ?_
  refine lv_iconst (v := 1) hx hb dX0_reckonNext_18 (by decide) ?_
  refine lv_ishr hx hb dX0_reckonNext_19 ?_
  refine lv_ti (y := (nI (gg / 2))) (pk_shrN (by omega) _ 1 (by decide)) ?_
  refine lv_istore (lv' := [(6, .int (nI (gg / 2))), (5, .int (nI (i + 1))), (4, .int (nI see)), (0, .ref w0), (1, .int (nI rn)), (2, .int (nI i)), (3, .int (nI gg))]) hx hb dX0_reckonNext_20 hl (by decide) rfl (fun ls hl => ?_)
  refine lv_iload hx hb dX0_reckonNext_22 (lv_at hl 1 rfl) ?_
  refine lv_iload hx hb dX0_reckonNext_24 (lv_at hl 2 rfl) ?_
  refine lv_iadd hx hb dX0_reckonNext_26 ?_
  refine lv_ti (y := (nI (i + 1 + see))) (nI_add (i + 1) see) ?_
  refine lv_aload_n hx hb dX0_reckonNext_27 rfl (lv_at hl 3 rfl) ?_
  refine va_get (D := D) (ci := 0) (v := .ref h0) (C := RX0) (T := TX0) (N := 5) hx hb hts inX0 hown hK hP 5 rfl rfl 0 (by decide) (hts _ tw_266) (fun _ h9 => h9) rfl dX0_reckonNext_28 ?_
  refine ro_i (D := D) (va_runV (As := []) (rest := [.int (nI (i + 1 + see))]) ⟨hx, hb, hml, hown, hts⟩ ((x_doors l D k st lo h0 h1 h2 h3 h4 n see tm g) s.heap.size) (cwV 0 hts (gV tw_531 tw_478 tw_479 tw_81 tw_480) rfl rfl rfl (by decide +kernel) ⟨Nat.le_of_ble_eq_true rfl, Nat.le_of_ble_eq_true rfl⟩) (pV hS hAlo hlo hP hK hDL hZ [0, 1] (by decide) rfl (ci := 5) (q := (RX5, TX5, 4)) (q0 := 0) rfl rfl) rfl rfl hl.1 rfl (lv_room (Nat.le_of_ble_eq_true rfl)) dX0_reckonNext_31 ⟨Nat.le_of_ble_eq_true rfl, Nat.le_of_ble_eq_true rfl⟩) hS hA hP (fun r_1 H locs hw_1 hP hS => ?_)
  try dsimp only at hw_1
  subst hw_1
  refine lv_icmp_lt (tgt := 47) hx hb dX0_reckonNext_34 (by decide) (fun c_2 => ?_) (fun c_2 => ?_)
  · have c_2 := (nI_ltI (a := (i + 1 + see)) (b := n) (by omega) (by omega)).mp c_2
    refine lv_aload_n hx hb dX0_reckonNext_47 rfl (lv_at hl 3 rfl) ?_
    refine va_get (D := D) (ci := 0) (v := .ref h0) (C := RX0) (T := TX0) (N := 5) hx hb hts inX0 hown hK hP 5 rfl rfl 0 (by decide) (hts _ tw_266) (fun _ h9 => h9) rfl dX0_reckonNext_48 ?_
    refine lv_iload hx hb dX0_reckonNext_51 (lv_at hl 1 rfl) ?_
    refine lv_iload hx hb dX0_reckonNext_53 (lv_at hl 2 rfl) ?_
    refine lv_iadd hx hb dX0_reckonNext_55 ?_
    refine lv_ti (y := (nI (i + 1 + see))) (nI_add (i + 1) see) ?_
    refine lv_iload_n hx hb dX0_reckonNext_56 rfl (lv_at hl 6 rfl) ?_
    refine lv_iload hx hb dX0_reckonNext_57 (lv_at hl 2 rfl) ?_
    refine lv_ishr hx hb dX0_reckonNext_59 ?_
    refine lv_topi (fun x_3 ex_3 => ?_)
    refine lv_iconst (v := 1) hx hb dX0_reckonNext_60 (by decide) ?_
    refine lv_iand hx hb dX0_reckonNext_61 ?_
    refine lv_topi (fun x_4 ex_4 => ?_)
    refine lv_if_eq (tgt := 69) hx hb dX0_reckonNext_62 (by decide) (fun c_5 => ?_) (fun c_5 => ?_)
    · refine lv_iconst (v := 0) hx hb dX0_reckonNext_69 (by decide) ?_
      refine ro_i (D := D) (va_runV (As := [.int (nI (i + 1 + see)), .int 0]) (rest := []) ⟨hx, hb, hml, hown, hts⟩ ((x_chanceOf l D k st lo h0 h1 h2 h3 h4 n see tm g ff (i + 1 + see) 0 (by omega)) H.size) (cwV 2 hts (gV tw_564 tw_565 tw_566 tw_81 tw_567) rfl rfl rfl (by decide +kernel) ⟨Nat.le_of_ble_eq_true rfl, Nat.le_of_ble_eq_true rfl⟩) (pV hS hAlo hlo hP hK hDL hZ [0, 1, 2] (by decide) rfl (ci := 5) (q := (RX5, TX5, 4)) (q0 := 0) rfl rfl) rfl rfl hl.1 rfl (lv_room (Nat.le_of_ble_eq_true rfl)) dX0_reckonNext_70 ⟨Nat.le_of_ble_eq_true rfl, Nat.le_of_ble_eq_true rfl⟩) hS hA hP (fun r_6 H locs hw_6 hP hS => ?_)
      try dsimp only at hw_6
      refine lv_istore (lv' := [(7, .int r_6), (6, .int (nI (gg / 2))), (5, .int (nI (i + 1))), (4, .int (nI see)), (0, .ref w0), (1, .int (nI rn)), (2, .int (nI i)), (3, .int (nI gg))]) hx hb dX0_reckonNext_73 hl (by decide) rfl (fun ls hl => ?_)
      refine lv_iload hx hb dX0_reckonNext_75 (lv_at hl 0 rfl) ?_
      refine lv_aload_n hx hb dX0_reckonNext_77 rfl (lv_at hl 4 rfl) ?_
      refine lv_iload_n hx hb dX0_reckonNext_78 rfl (lv_at hl 5 rfl) ?_
      refine lv_iload hx hb dX0_reckonNext_79 (lv_at hl 2 rfl) ?_
      refine lv_iload hx hb dX0_reckonNext_81 (lv_at hl 1 rfl) ?_
      refine lv_iconst (v := 1) hx hb dX0_reckonNext_83 (by decide) ?_
      refine lv_iload hx hb dX0_reckonNext_84 (lv_at hl 3 rfl) ?_
      obtain ⟨pw_7, epw_7⟩ : ∃ z : Nat, z = 2 ^ (see) := ⟨_, rfl⟩
      have hpw_7 : 1 ≤ pw_7 ∧ pw_7 ≤ 4 := by rw [epw_7]; exact pw4 (by omega)
      refine lv_ishl hx hb dX0_reckonNext_86 ?_
      refine lv_ti (y := (nI pw_7)) (by rw [epw_7]; exact shl1 see (by omega)) ?_
      obtain ⟨ov_8, hov_8, eov_8⟩ := or8 (gg / 2) (by omega) pw_7 (by omega)
      refine lv_ior hx hb dX0_reckonNext_87 ?_
      refine lv_ti (y := (nI ov_8)) eov_8 ?_
      refine ro_i (D := D) (va_runV (As := [.int (nI rn), .int (nI (i + 1)), .int (nI ov_8)]) (rest := [.int r_6]) ⟨hx, hb, hml, hown, hts⟩ ((x_worthOf l D k st lo h0 h1 h2 h3 h4 n see tm g fp fl w0 w1 w2 w3 w4 on rn (i + 1) ov_8 (by omega) (by omega) (by omega)) H.size) (cwV 3 hts (gV tw_545 tw_546 tw_547 tw_85 tw_548) rfl rfl rfl (by decide +kernel) ⟨Nat.le_of_ble_eq_true rfl, Nat.le_of_ble_eq_true rfl⟩) (pV hS hAlo hlo hP hK hDL hZ [0, 1, 3, 4, 5, 6] (by decide) rfl (ci := 0) (q := (RX0, TX0, 5)) (q0 := 4) rfl rfl) rfl rfl hl.1 rfl (lv_room (Nat.le_of_ble_eq_true rfl)) dX0_reckonNext_88 ⟨Nat.le_of_ble_eq_true rfl, Nat.le_of_ble_eq_true rfl⟩) hS hA hP (fun r_9 H locs hw_9 hP hS => ?_)
      try dsimp only at hw_9
      refine lv_aload_n hx hb dX0_reckonNext_91 rfl (lv_at hl 4 rfl) ?_
      refine lv_iload_n hx hb dX0_reckonNext_92 rfl (lv_at hl 5 rfl) ?_
      refine lv_iload hx hb dX0_reckonNext_93 (lv_at hl 2 rfl) ?_
      refine lv_iload hx hb dX0_reckonNext_95 (lv_at hl 1 rfl) ?_
      refine ro_i (D := D) (va_runV (As := [.int (nI rn), .int (nI (i + 1)), .int (nI (gg / 2))]) (rest := [.int r_9, .int r_6]) ⟨hx, hb, hml, hown, hts⟩ ((x_worthOf l D k st lo h0 h1 h2 h3 h4 n see tm g fp fl w0 w1 w2 w3 w4 on rn (i + 1) (gg / 2) (by omega) (by omega) (by omega)) H.size) (cwV 3 hts (gV tw_545 tw_546 tw_547 tw_85 tw_548) rfl rfl rfl (by decide +kernel) ⟨Nat.le_of_ble_eq_true rfl, Nat.le_of_ble_eq_true rfl⟩) (pV hS hAlo hlo hP hK hDL hZ [0, 1, 3, 4, 5, 6] (by decide) rfl (ci := 0) (q := (RX0, TX0, 5)) (q0 := 4) rfl rfl) rfl rfl hl.1 rfl (lv_room (Nat.le_of_ble_eq_true rfl)) dX0_reckonNext_97 ⟨Nat.le_of_ble_eq_true rfl, Nat.le_of_ble_eq_true rfl⟩) hS hA hP (fun r_10 H locs hw_10 hP hS => ?_)
      try dsimp only at hw_10
      refine ro_i (D := D) (va_runSN (As := [.int r_6, .int r_9, .int r_10]) (rest := []) ⟨hx, hb, hml, hown, hts⟩ ((x_mixed l D k st lo r_6 r_9 r_10) H.size) ⟨va_cnB 3 hts (gLW tw_570) rfl rfl rfl (hZ.2.2.2.2.2.2.2.2.1.1 (RX0, 80, yX7_mixed, RX7) (List.mem_of_getElem? (i := 5) rfl)) (hts _ tw_79) (by decide +kernel) ⟨Nat.le_of_ble_eq_true rfl, Nat.le_of_ble_eq_true rfl⟩, hts _ tw_569, trivial⟩ (pS hS hAlo hlo hP hK hDL hZ [] (by decide) rfl) rfl rfl hl.1 rfl (lv_room (Nat.le_of_ble_eq_true rfl)) dX0_reckonNext_100 ⟨Nat.le_of_ble_eq_true rfl, Nat.le_of_ble_eq_true rfl⟩) hS hA hP (fun r_11 H locs hw_11 hP hS => ?_)
      try dsimp only at hw_11
      exact W.iret (v := r_11) hx hb hr (fun t ht hW => ⟨⟨r_11, (), rfl, trivial, trivial⟩, hS.F ht⟩) hS.2.2 dX0_reckonNext_103
    · refine lv_iconst (v := 1) hx hb dX0_reckonNext_65 (by decide) ?_
      refine lv_goto (tgt := 70) hx hb dX0_reckonNext_66 (by decide) ?_
      refine ro_i (D := D) (va_runV (As := [.int (nI (i + 1 + see)), .int 1]) (rest := []) ⟨hx, hb, hml, hown, hts⟩ ((x_chanceOf l D k st lo h0 h1 h2 h3 h4 n see tm g ff (i + 1 + see) 1 (by omega)) H.size) (cwV 2 hts (gV tw_564 tw_565 tw_566 tw_81 tw_567) rfl rfl rfl (by decide +kernel) ⟨Nat.le_of_ble_eq_true rfl, Nat.le_of_ble_eq_true rfl⟩) (pV hS hAlo hlo hP hK hDL hZ [0, 1, 2] (by decide) rfl (ci := 5) (q := (RX5, TX5, 4)) (q0 := 0) rfl rfl) rfl rfl hl.1 rfl (lv_room (Nat.le_of_ble_eq_true rfl)) dX0_reckonNext_70 ⟨Nat.le_of_ble_eq_true rfl, Nat.le_of_ble_eq_true rfl⟩) hS hA hP (fun r_12 H locs hw_12 hP hS => ?_)
      try dsimp only at hw_12
      refine lv_istore (lv' := [(7, .int r_12), (6, .int (nI (gg / 2))), (5, .int (nI (i + 1))), (4, .int (nI see)), (0, .ref w0), (1, .int (nI rn)), (2, .int (nI i)), (3, .int (nI gg))]) hx hb dX0_reckonNext_73 hl (by decide) rfl (fun ls hl => ?_)
      refine lv_iload hx hb dX0_reckonNext_75 (lv_at hl 0 rfl) ?_
      refine lv_aload_n hx hb dX0_reckonNext_77 rfl (lv_at hl 4 rfl) ?_
      refine lv_iload_n hx hb dX0_reckonNext_78 rfl (lv_at hl 5 rfl) ?_
      refine lv_iload hx hb dX0_reckonNext_79 (lv_at hl 2 rfl) ?_
      refine lv_iload hx hb dX0_reckonNext_81 (lv_at hl 1 rfl) ?_
      refine lv_iconst (v := 1) hx hb dX0_reckonNext_83 (by decide) ?_
      refine lv_iload hx hb dX0_reckonNext_84 (lv_at hl 3 rfl) ?_
      obtain ⟨pw_13, epw_13⟩ : ∃ z : Nat, z = 2 ^ (see) := ⟨_, rfl⟩
      have hpw_13 : 1 ≤ pw_13 ∧ pw_13 ≤ 4 := by rw [epw_13]; exact pw4 (by omega)
      refine lv_ishl hx hb dX0_reckonNext_86 ?_
      refine lv_ti (y := (nI pw_13)) (by rw [epw_13]; exact shl1 see (by omega)) ?_
      obtain ⟨ov_14, hov_14, eov_14⟩ := or8 (gg / 2) (by omega) pw_13 (by omega)
      refine lv_ior hx hb dX0_reckonNext_87 ?_
      refine lv_ti (y := (nI ov_14)) eov_14 ?_
      refine ro_i (D := D) (va_runV (As := [.int (nI rn), .int (nI (i + 1)), .int (nI ov_14)]) (rest := [.int r_12]) ⟨hx, hb, hml, hown, hts⟩ ((x_worthOf l D k st lo h0 h1 h2 h3 h4 n see tm g fp fl w0 w1 w2 w3 w4 on rn (i + 1) ov_14 (by omega) (by omega) (by omega)) H.size) (cwV 3 hts (gV tw_545 tw_546 tw_547 tw_85 tw_548) rfl rfl rfl (by decide +kernel) ⟨Nat.le_of_ble_eq_true rfl, Nat.le_of_ble_eq_true rfl⟩) (pV hS hAlo hlo hP hK hDL hZ [0, 1, 3, 4, 5, 6] (by decide) rfl (ci := 0) (q := (RX0, TX0, 5)) (q0 := 4) rfl rfl) rfl rfl hl.1 rfl (lv_room (Nat.le_of_ble_eq_true rfl)) dX0_reckonNext_88 ⟨Nat.le_of_ble_eq_true rfl, Nat.le_of_ble_eq_true rfl⟩) hS hA hP (fun r_15 H locs hw_15 hP hS => ?_)
      try dsimp only at hw_15
      refine lv_aload_n hx hb dX0_reckonNext_91 rfl (lv_at hl 4 rfl) ?_
      refine lv_iload_n hx hb dX0_reckonNext_92 rfl (lv_at hl 5 rfl) ?_
      refine lv_iload hx hb dX0_reckonNext_93 (lv_at hl 2 rfl) ?_
      refine lv_iload hx hb dX0_reckonNext_95 (lv_at hl 1 rfl) ?_
      refine ro_i (D := D) (va_runV (As := [.int (nI rn), .int (nI (i + 1)), .int (nI (gg / 2))]) (rest := [.int r_15, .int r_12]) ⟨hx, hb, hml, hown, hts⟩ ((x_worthOf l D k st lo h0 h1 h2 h3 h4 n see tm g fp fl w0 w1 w2 w3 w4 on rn (i + 1) (gg / 2) (by omega) (by omega) (by omega)) H.size) (cwV 3 hts (gV tw_545 tw_546 tw_547 tw_85 tw_548) rfl rfl rfl (by decide +kernel) ⟨Nat.le_of_ble_eq_true rfl, Nat.le_of_ble_eq_true rfl⟩) (pV hS hAlo hlo hP hK hDL hZ [0, 1, 3, 4, 5, 6] (by decide) rfl (ci := 0) (q := (RX0, TX0, 5)) (q0 := 4) rfl rfl) rfl rfl hl.1 rfl (lv_room (Nat.le_of_ble_eq_true rfl)) dX0_reckonNext_97 ⟨Nat.le_of_ble_eq_true rfl, Nat.le_of_ble_eq_true rfl⟩) hS hA hP (fun r_16 H locs hw_16 hP hS => ?_)
      try dsimp only at hw_16
      refine ro_i (D := D) (va_runSN (As := [.int r_12, .int r_15, .int r_16]) (rest := []) ⟨hx, hb, hml, hown, hts⟩ ((x_mixed l D k st lo r_12 r_15 r_16) H.size) ⟨va_cnB 3 hts (gLW tw_570) rfl rfl rfl (hZ.2.2.2.2.2.2.2.2.1.1 (RX0, 80, yX7_mixed, RX7) (List.mem_of_getElem? (i := 5) rfl)) (hts _ tw_79) (by decide +kernel) ⟨Nat.le_of_ble_eq_true rfl, Nat.le_of_ble_eq_true rfl⟩, hts _ tw_569, trivial⟩ (pS hS hAlo hlo hP hK hDL hZ [] (by decide) rfl) rfl rfl hl.1 rfl (lv_room (Nat.le_of_ble_eq_true rfl)) dX0_reckonNext_100 ⟨Nat.le_of_ble_eq_true rfl, Nat.le_of_ble_eq_true rfl⟩) hS hA hP (fun r_17 H locs hw_17 hP hS => ?_)
      try dsimp only at hw_17
      exact W.iret (v := r_17) hx hb hr (fun t ht hW => ⟨⟨r_17, (), rfl, trivial, trivial⟩, hS.F ht⟩) hS.2.2 dX0_reckonNext_103
  · have c_2 : ¬ ((i + 1 + see) < n) := fun h => c_2 ((nI_ltI (a := (i + 1 + see)) (b := n) (by omega) (by omega)).mpr h)
    refine lv_aload_n hx hb dX0_reckonNext_37 rfl (lv_at hl 3 rfl) ?_
    refine lv_iload_n hx hb dX0_reckonNext_38 rfl (lv_at hl 4 rfl) ?_
    refine lv_iload hx hb dX0_reckonNext_39 (lv_at hl 1 rfl) ?_
    refine lv_iload hx hb dX0_reckonNext_41 (lv_at hl 0 rfl) ?_
    refine ro_i (D := D) (va_runV (As := [.int (nI rn), .int (nI (i + 1)), .int (nI (gg / 2))]) (rest := []) ⟨hx, hb, hml, hown, hts⟩ ((x_worthOf l D k st lo h0 h1 h2 h3 h4 n see tm g fp fl w0 w1 w2 w3 w4 on rn (i + 1) (gg / 2) (by omega) (by omega) (by omega)) H.size) (cwV 3 hts (gV tw_545 tw_546 tw_547 tw_85 tw_548) rfl rfl rfl (by decide +kernel) ⟨Nat.le_of_ble_eq_true rfl, Nat.le_of_ble_eq_true rfl⟩) (pV hS hAlo hlo hP hK hDL hZ [0, 1, 3, 4, 5, 6] (by decide) rfl (ci := 0) (q := (RX0, TX0, 5)) (q0 := 4) rfl rfl) rfl rfl hl.1 rfl (lv_room (Nat.le_of_ble_eq_true rfl)) dX0_reckonNext_43 ⟨Nat.le_of_ble_eq_true rfl, Nat.le_of_ble_eq_true rfl⟩) hS hA hP (fun r_18 H locs hw_18 hP hS => ?_)
    try dsimp only at hw_18
    exact W.iret (v := r_18) hx hb hr (fun t ht hW => ⟨⟨r_18, (), rfl, trivial, trivial⟩, hS.F ht⟩) hS.2.2 dX0_reckonNext_46

theorem dX0_reckonDoor_0 : decode cX0_reckonDoor 0 = .ok (.iload_n 2, 1) := by decide +kernel
theorem dX0_reckonDoor_1 : decode cX0_reckonDoor 1 = .ok (.aload_n 0, 1) := by decide +kernel
theorem dX0_reckonDoor_2 : decode cX0_reckonDoor 2 = .ok (.getfield 24, 3) := by decide +kernel
theorem dX0_reckonDoor_5 : decode cX0_reckonDoor 5 = .ok (.invokevirtual 37, 3) := by decide +kernel
theorem dX0_reckonDoor_8 : decode cX0_reckonDoor 8 = .ok (.iconst 1, 1) := by decide +kernel
theorem dX0_reckonDoor_9 : decode cX0_reckonDoor 9 = .ok (.isub, 1) := by decide +kernel
theorem dX0_reckonDoor_10 : decode cX0_reckonDoor 10 = .ok (.if_icmp .ne 7, 3) := by decide +kernel
theorem dX0_reckonDoor_13 : decode cX0_reckonDoor 13 = .ok (.iconst 1, 1) := by decide +kernel
theorem dX0_reckonDoor_14 : decode cX0_reckonDoor 14 = .ok (.goto 4, 3) := by decide +kernel
theorem dX0_reckonDoor_17 : decode cX0_reckonDoor 17 = .ok (.iconst 0, 1) := by decide +kernel
theorem dX0_reckonDoor_18 : decode cX0_reckonDoor 18 = .ok (.istore_n 3, 1) := by decide +kernel
theorem dX0_reckonDoor_19 : decode cX0_reckonDoor 19 = .ok (.iconst 0, 1) := by decide +kernel
theorem dX0_reckonDoor_20 : decode cX0_reckonDoor 20 = .ok (.istore 4, 2) := by decide +kernel
theorem dX0_reckonDoor_22 : decode cX0_reckonDoor 22 = .ok (.iload 4, 2) := by decide +kernel
theorem dX0_reckonDoor_24 : decode cX0_reckonDoor 24 = .ok (.aload_n 0, 1) := by decide +kernel
theorem dX0_reckonDoor_25 : decode cX0_reckonDoor 25 = .ok (.getfield 24, 3) := by decide +kernel
theorem dX0_reckonDoor_28 : decode cX0_reckonDoor 28 = .ok (.iload_n 2, 1) := by decide +kernel
theorem dX0_reckonDoor_29 : decode cX0_reckonDoor 29 = .ok (.invokevirtual 60, 3) := by decide +kernel
theorem dX0_reckonDoor_32 : decode cX0_reckonDoor 32 = .ok (.if_icmp .ge 54, 3) := by decide +kernel
theorem dX0_reckonDoor_35 : decode cX0_reckonDoor 35 = .ok (.iload_n 3, 1) := by decide +kernel
theorem dX0_reckonDoor_36 : decode cX0_reckonDoor 36 = .ok (.ifCond .eq 12, 3) := by decide +kernel
theorem dX0_reckonDoor_39 : decode cX0_reckonDoor 39 = .ok (.aload_n 0, 1) := by decide +kernel
theorem dX0_reckonDoor_40 : decode cX0_reckonDoor 40 = .ok (.getfield 18, 3) := by decide +kernel
theorem dX0_reckonDoor_43 : decode cX0_reckonDoor 43 = .ok (.iload_n 1, 1) := by decide +kernel
theorem dX0_reckonDoor_44 : decode cX0_reckonDoor 44 = .ok (.iaload, 1) := by decide +kernel
theorem dX0_reckonDoor_45 : decode cX0_reckonDoor 45 = .ok (.goto 11, 3) := by decide +kernel
theorem dX0_reckonDoor_48 : decode cX0_reckonDoor 48 = .ok (.aload_n 0, 1) := by decide +kernel
theorem dX0_reckonDoor_49 : decode cX0_reckonDoor 49 = .ok (.iload_n 1, 1) := by decide +kernel
theorem dX0_reckonDoor_50 : decode cX0_reckonDoor 50 = .ok (.iload_n 2, 1) := by decide +kernel
theorem dX0_reckonDoor_51 : decode cX0_reckonDoor 51 = .ok (.iload 4, 2) := by decide +kernel
theorem dX0_reckonDoor_53 : decode cX0_reckonDoor 53 = .ok (.invokevirtual 63, 3) := by decide +kernel
theorem dX0_reckonDoor_56 : decode cX0_reckonDoor 56 = .ok (.istore 5, 2) := by decide +kernel
theorem dX0_reckonDoor_58 : decode cX0_reckonDoor 58 = .ok (.aload_n 0, 1) := by decide +kernel
theorem dX0_reckonDoor_59 : decode cX0_reckonDoor 59 = .ok (.getfield 9, 3) := by decide +kernel
theorem dX0_reckonDoor_62 : decode cX0_reckonDoor 62 = .ok (.iload_n 1, 1) := by decide +kernel
theorem dX0_reckonDoor_63 : decode cX0_reckonDoor 63 = .ok (.iload_n 2, 1) := by decide +kernel
theorem dX0_reckonDoor_64 : decode cX0_reckonDoor 64 = .ok (.iload 4, 2) := by decide +kernel
theorem dX0_reckonDoor_66 : decode cX0_reckonDoor 66 = .ok (.invokestatic 67, 3) := by decide +kernel
theorem dX0_reckonDoor_69 : decode cX0_reckonDoor 69 = .ok (.aload_n 0, 1) := by decide +kernel
theorem dX0_reckonDoor_70 : decode cX0_reckonDoor 70 = .ok (.getfield 24, 3) := by decide +kernel
theorem dX0_reckonDoor_73 : decode cX0_reckonDoor 73 = .ok (.invokevirtual 70, 3) := by decide +kernel
theorem dX0_reckonDoor_76 : decode cX0_reckonDoor 76 = .ok (.iload 5, 2) := by decide +kernel
theorem dX0_reckonDoor_78 : decode cX0_reckonDoor 78 = .ok (.iadd, 1) := by decide +kernel
theorem dX0_reckonDoor_79 : decode cX0_reckonDoor 79 = .ok (.iastore, 1) := by decide +kernel
theorem dX0_reckonDoor_80 : decode cX0_reckonDoor 80 = .ok (.iinc 4 1, 3) := by decide +kernel
theorem dX0_reckonDoor_83 : decode cX0_reckonDoor 83 = .ok (.goto (-61), 3) := by decide +kernel
theorem dX0_reckonDoor_86 : decode cX0_reckonDoor 86 = .ok (.return_, 1) := by decide +kernel
set_option maxHeartbeats 4000000 in
set_option maxRecDepth 100000 in
theorem x_reckonDoor (l : Launch) (D : va_G) (k : Nat → ClassId) (st : Nat → Nat) (lo : Nat) (h0 : Nat) (h1 : Nat) (h2 : Nat) (h3 : Nat) (h4 : Nat) (n : Nat) (see : Nat) (tm : Nat) (g : Nat → Int32) (ff : Nat → Int32) (fp : Nat → Int32) (fl : Nat → Int32) (w0 : Nat) (w1 : Nat) (w2 : Nat) (w3 : Nat) (w4 : Nat) (on : Nat → Int32) (en : Nat → Int32) (rn : Nat) (i : Nat) (hn : n ≤ 24) (hsee : see ≤ 2) (hrn : rn ≤ 3) (hi : i < n) : CWv l D k st lo yX0_reckonDoor cX0_reckonDoor 6 none ({ frames := 4, cells := 0, slots := 0, locals := 111 }) 0 0 [.ref w0, .int (nI rn), .int (nI i)] [(h0, .inr (5, (fX5 h1 h2 h3 h4))), (aI k h1 10 (vv n see tm g)), (aI k h2 24 ff), (aI k h3 24 fp), (aI k h4 4 fl), (w0, .inr (0, (fX0 h0 w1 w2 w3 w4))), (aI k w1 768 on), (aI k w3 4 en)] (fun (on_ : (Nat → Int32)) => True) (fun (on_ : (Nat → Int32)) => [(h0, .inr (5, (fX5 h1 h2 h3 h4))), (aI k h1 10 (vv n see tm g)), (aI k h2 24 ff), (aI k h3 24 fp), (aI k h4 4 fl), (w0, .inr (0, (fX0 h0 w1 w2 w3 w4))), (aI k w1 768 on_), (aI k w3 4 en)]) := by
  intro sz
  refine Met.ofW (cc := cX0_reckonDoor) (maxL := 6) (ret := none) (by decide) rfl ?_
  intro p e s m args below meth c s₁ B hml hv
  obtain ⟨rfl, hsz, hlo, hP, hK, hDL, hZ⟩ := hv
  have hx := B.exec
  have hb := B.bytes
  have hr := B.returns
  have hts := WS_ts B.pre
  have hown : s.vm.findClass RX0 = some m.cls := findClass_of_methodNamed B.named
  have hlocks := B.notSynchronized
  subst hsz
  have hD := hDL.self (sz := s.heap.size)
  have hAlo := A_lo hDL hlo
  generalize hAe : va_A [(h0, .inr (5, (fX5 h1 h2 h3 h4))), (aI k h1 10 (vv n see tm g)), (aI k h2 24 ff), (aI k h3 24 fp), (aI k h4 4 fl), (w0, .inr (0, (fX0 h0 w1 w2 w3 w4))), (aI k w1 768 on), (aI k w3 4 en)] s.heap.size = A at hD hAlo ⊢
  have hA : ∀ q : Nat, s.heap.size ≤ q → A q := fun q h => by rw [← hAe]; exact Or.inr h
  have hS : va_S A s.heap s.heap [] := va_S.rf
  have hl := lv_entry ([.ref w0, .int (nI rn), .int (nI i)]) (n := 6) (Nat.le_of_ble_eq_true rfl)
  rw [lg_entry_eq]
  generalize (lg_sl ([.ref w0, .int (nI rn), .int (nI i)]) ++ List.replicate (6 - (lg_sl ([.ref w0, .int (nI rn), .int (nI i)])).length) Slot.unset).toArray = ls at hl ⊢
  have hl : lv_has ls 6 [(0, .ref w0), (1, .int (nI rn)), (2, .int (nI i))] := hl
  refine lv_iload_n hx hb dX0_reckonDoor_0 rfl (lv_at hl 2 rfl) ?_
  refine lv_aload_n hx hb dX0_reckonDoor_1 rfl (lv_at hl 0 rfl) ?_
  refine va_get (D := D) (ci := 0) (v := .ref h0) (C := RX0) (T := TX0) (N := 5) hx hb hts inX0 hown hK hP 5 rfl rfl 0 (by decide) (hts _ tw_266) (fun _ h9 => h9) rfl dX0_reckonDoor_2 ?_
  refine ro_i (D := D) (va_runV (As := []) (rest := [.int (nI i)]) ⟨hx, hb, hml, hown, hts⟩ ((x_doors l D k st lo h0 h1 h2 h3 h4 n see tm g) s.heap.size) (cwV 0 hts (gV tw_531 tw_478 tw_479 tw_81 tw_480) rfl rfl rfl (by decide +kernel) ⟨Nat.le_of_ble_eq_true rfl, Nat.le_of_ble_eq_true rfl⟩) (pV hS hAlo hlo hP hK (va_Dlo hD hAlo) hZ [0, 1] (by decide) rfl (ci := 5) (q := (RX5, TX5, 4)) (q0 := 0) rfl rfl) rfl rfl hl.1 rfl (lv_room (Nat.le_of_ble_eq_true rfl)) dX0_reckonDoor_5 ⟨Nat.le_of_ble_eq_true rfl, Nat.le_of_ble_eq_true rfl⟩) hS hA hP (fun r_1 H locs hw_1 hP hS => ?_)
  try dsimp only at hw_1
  subst hw_1
  refine lv_iconst (v := 1) hx hb dX0_reckonDoor_8 (by decide) ?_
  refine lv_isub hx hb dX0_reckonDoor_9 ?_
  refine lv_ti (y := (nI (n - 1))) (pk_sub (a := n) (b := 1) (by omega)) ?_
  refine lv_icmp_ne (tgt := 17) hx hb dX0_reckonDoor_10 (by decide) (fun c_2 => ?_) (fun c_2 => ?_)
  · have c_2 : ¬ (i = (n - 1)) := fun h => c_2 ((nI_eq (a := i) (b := (n - 1)) (by omega) (by omega)).mpr h)
    refine lv_iconst (v := 0) hx hb dX0_reckonDoor_17 (by decide) ?_
    refine lv_istore_n (lv' := [(3, .int 0), (0, .ref w0), (1, .int (nI rn)), (2, .int (nI i))]) hx hb dX0_reckonDoor_18 rfl hl (by decide) rfl (fun ls hl => ?_)
    refine lv_iconst (v := 0) hx hb dX0_reckonDoor_19 (by decide) ?_
    refine lv_istore (lv' := [(4, .int 0), (3, .int 0), (0, .ref w0), (1, .int (nI rn)), (2, .int (nI i))]) hx hb dX0_reckonDoor_20 hl (by decide) rfl (fun ls hl => ?_)
    refine W_loop (σ := Nat × (Nat → Int32)) (fun (n_ : Nat) (x_ : Nat × (Nat → Int32)) (H : Heap) (locs : List Loc) (ls : Array Slot) => match x_ with | (g2_3, on2_3) => n_ = 8 - g2_3 ∧ (g2_3 ≤ 8) ∧ va_P D classes [(h0, .inr (5, (fX5 h1 h2 h3 h4))), (aI k h1 10 (vv n see tm g)), (aI k h2 24 ff), (aI k h3 24 fp), (aI k h4 4 fl), (w0, .inr (0, (fX0 h0 w1 w2 w3 w4))), (aI k w1 768 on2_3), (aI k w3 4 en)] H ∧ va_D A [(h0, .inr (5, (fX5 h1 h2 h3 h4))), (aI k h1 10 (vv n see tm g)), (aI k h2 24 ff), (aI k h3 24 fp), (aI k h4 4 fl), (w0, .inr (0, (fX0 h0 w1 w2 w3 w4))), (aI k w1 768 on2_3), (aI k w3 4 en)] ∧ va_S A s.heap H locs ∧ lv_has ls 6 [(4, .int (nI g2_3)), (3, .int 0), (0, .ref w0), (1, .int (nI rn)), (2, .int (nI i))]) (fun n_3 x_3 H locs ls hI ih_3 => ?_) _ (0, on) ⟨rfl, (by omega), hP, hD, hS, (lv_sub hl [0, 1, 2, 3, 4] rfl)⟩
    obtain ⟨g2_3, on2_3⟩ := x_3
    obtain ⟨hm_3, hv_3, hP, hD, hS, hl⟩ := hI
    subst hm_3
    refine lv_iload hx hb dX0_reckonDoor_22 (lv_at hl 0 rfl) ?_
    refine lv_aload_n hx hb dX0_reckonDoor_24 rfl (lv_at hl 2 rfl) ?_
    refine va_get (D := D) (ci := 0) (v := .ref h0) (C := RX0) (T := TX0) (N := 5) hx hb hts inX0 hown hK hP 5 rfl rfl 0 (by decide) (hts _ tw_266) (fun _ h9 => h9) rfl dX0_reckonDoor_25 ?_
    refine lv_iload_n hx hb dX0_reckonDoor_28 rfl (lv_at hl 4 rfl) ?_
    refine ro_i (D := D) (va_runV (As := [.int (nI i)]) (rest := [.int (nI g2_3)]) ⟨hx, hb, hml, hown, hts⟩ ((x_sightsAt l D k st lo h0 h1 h2 h3 h4 n see tm g i (by omega) (by omega) (by omega)) H.size) (cwV 1 hts (gV tw_536 tw_537 tw_538 tw_81 tw_539) rfl rfl rfl (by decide +kernel) ⟨Nat.le_of_ble_eq_true rfl, Nat.le_of_ble_eq_true rfl⟩) (pV hS hAlo hlo hP hK (va_Dlo hD hAlo) hZ [0, 1] (by decide) rfl (ci := 5) (q := (RX5, TX5, 4)) (q0 := 0) rfl rfl) rfl rfl hl.1 rfl (lv_room (Nat.le_of_ble_eq_true rfl)) dX0_reckonDoor_29 ⟨Nat.le_of_ble_eq_true rfl, Nat.le_of_ble_eq_true rfl⟩) hS hA hP (fun r_4 H locs hw_4 hP hS => ?_)
    try dsimp only at hw_4
    obtain ⟨zs_5, rfl, hza_5, hzb_5, hzq_5⟩ := hw_4
    refine lv_icmp_ge (tgt := 86) hx hb dX0_reckonDoor_32 (by decide) (fun c_6 => ?_) (fun c_6 => ?_)
    · have c_6 := (nI_leI (a := zs_5) (b := g2_3) (by omega) (by omega)).mp c_6
      have hP9 := hP.sub (ws' := [(h0, .inr (5, (fX5 h1 h2 h3 h4))), (aI k h1 10 (vv n see tm g)), (aI k h2 24 ff), (aI k h3 24 fp), (aI k h4 4 fl), (w0, .inr (0, (fX0 h0 w1 w2 w3 w4))), (aI k w1 768 on2_3), (aI k w3 4 en)]) [0, 1, 2, 3, 4, 5, 6, 7] rfl
      have hD9 := hD.sub (ws' := [(h0, .inr (5, (fX5 h1 h2 h3 h4))), (aI k h1 10 (vv n see tm g)), (aI k h2 24 ff), (aI k h3 24 fp), (aI k h4 4 fl), (w0, .inr (0, (fX0 h0 w1 w2 w3 w4))), (aI k w1 768 on2_3), (aI k w3 4 en)]) [0, 1, 2, 3, 4, 5, 6, 7] (by decide) rfl
      exact W.vret hx hb hr (fun t ht hW => ⟨⟨on2_3, rfl, trivial, by rw [ht]; exact hP9, hD9⟩, hS.F ht⟩) hS.2.2 dX0_reckonDoor_86
    · have c_6 : ¬ (zs_5 ≤ g2_3) := fun h => c_6 ((nI_leI (a := zs_5) (b := g2_3) (by omega) (by omega)).mpr h)
      refine lv_iload_n hx hb dX0_reckonDoor_35 rfl (lv_at hl 1 rfl) ?_
      refine lv_if_eq (tgt := 48) hx hb dX0_reckonDoor_36 (by decide) (fun _ => ?_) (fun h => absurd (by decide) h)
      refine lv_aload_n hx hb dX0_reckonDoor_48 rfl (lv_at hl 2 rfl) ?_
      refine lv_iload_n hx hb dX0_reckonDoor_49 rfl (lv_at hl 3 rfl) ?_
      refine lv_iload_n hx hb dX0_reckonDoor_50 rfl (lv_at hl 4 rfl) ?_
      refine lv_iload hx hb dX0_reckonDoor_51 (lv_at hl 0 rfl) ?_
      refine ro_i (D := D) (va_runV (As := [.int (nI rn), .int (nI i), .int (nI g2_3)]) (rest := []) ⟨hx, hb, hml, hown, hts⟩ ((x_reckonNext l D k st lo h0 h1 h2 h3 h4 n see tm g ff fp fl w0 w1 w2 w3 w4 on2_3 rn i g2_3 (by omega) (by omega) (by omega) (by omega) (by omega)) H.size) (cwV 3 hts (gV tw_541 tw_543 tw_6 tw_85 tw_544) rfl rfl rfl (by decide +kernel) ⟨Nat.le_of_ble_eq_true rfl, Nat.le_of_ble_eq_true rfl⟩) (pV hS hAlo hlo hP hK (va_Dlo hD hAlo) hZ [0, 1, 2, 3, 4, 5, 6] (by decide) rfl (ci := 0) (q := (RX0, TX0, 5)) (q0 := 5) rfl rfl) rfl rfl hl.1 rfl (lv_room (Nat.le_of_ble_eq_true rfl)) dX0_reckonDoor_53 ⟨Nat.le_of_ble_eq_true rfl, Nat.le_of_ble_eq_true rfl⟩) hS hA hP (fun r_7 H locs hw_7 hP hS => ?_)
      try dsimp only at hw_7
      refine lv_istore (lv' := [(5, .int r_7), (4, .int (nI g2_3)), (3, .int 0), (0, .ref w0), (1, .int (nI rn)), (2, .int (nI i))]) hx hb dX0_reckonDoor_56 hl (by decide) rfl (fun ls hl => ?_)
      refine lv_aload_n hx hb dX0_reckonDoor_58 rfl (lv_at hl 3 rfl) ?_
      refine va_get (D := D) (ci := 0) (v := .ref w1) (C := RX0) (T := TX0) (N := 5) hx hb hts inX0 hown hK hP 5 rfl rfl 1 (by decide) (hts _ tw_267) (fun _ h9 => h9) rfl dX0_reckonDoor_59 ?_
      refine lv_iload_n hx hb dX0_reckonDoor_62 rfl (lv_at hl 4 rfl) ?_
      refine lv_iload_n hx hb dX0_reckonDoor_63 rfl (lv_at hl 5 rfl) ?_
      refine lv_iload hx hb dX0_reckonDoor_64 (lv_at hl 1 rfl) ?_
      refine ro_i (D := D) (va_runS (As := [.int (nI rn), .int (nI i), .int (nI g2_3)]) (rest := [.ref w1]) ⟨hx, hb, hml, hown, hts⟩ ((x_slot l D k st lo rn i g2_3) H.size) (va_cwS 3 hts (gS tw_553 tw_554 tw_85 tw_555) rfl rfl rfl (by decide +kernel) ⟨Nat.le_of_ble_eq_true rfl, Nat.le_of_ble_eq_true rfl⟩) (pS hS hAlo hlo hP hK (va_Dlo hD hAlo) hZ [] (by decide) rfl) rfl rfl hl.1 rfl (lv_room (Nat.le_of_ble_eq_true rfl)) dX0_reckonDoor_66 ⟨Nat.le_of_ble_eq_true rfl, Nat.le_of_ble_eq_true rfl⟩) hS hA hP (fun r_8 H locs hw_8 hP hS => ?_)
      try dsimp only at hw_8
      subst hw_8
      refine lv_aload_n hx hb dX0_reckonDoor_69 rfl (lv_at hl 3 rfl) ?_
      refine va_get (D := D) (ci := 0) (v := .ref h0) (C := RX0) (T := TX0) (N := 5) hx hb hts inX0 hown hK hP 5 rfl rfl 0 (by decide) (hts _ tw_266) (fun _ h9 => h9) rfl dX0_reckonDoor_70 ?_
      refine ro_i (D := D) (va_runV (As := []) (rest := [.int (nI ((rn * 24 + i) * 8 + g2_3)), .ref w1]) ⟨hx, hb, hml, hown, hts⟩ ((x_passing l D k st lo h0 h1 h2 h3 h4 n see tm g) H.size) (cwV 0 hts (gV tw_572 tw_573 tw_574 tw_81 tw_575) rfl rfl rfl (by decide +kernel) ⟨Nat.le_of_ble_eq_true rfl, Nat.le_of_ble_eq_true rfl⟩) (pV hS hAlo hlo hP hK (va_Dlo hD hAlo) hZ [0, 1] (by decide) rfl (ci := 5) (q := (RX5, TX5, 4)) (q0 := 0) rfl rfl) rfl rfl hl.1 rfl (lv_room (Nat.le_of_ble_eq_true rfl)) dX0_reckonDoor_73 ⟨Nat.le_of_ble_eq_true rfl, Nat.le_of_ble_eq_true rfl⟩) hS hA hP (fun r_9 H locs hw_9 hP hS => ?_)
      try dsimp only at hw_9
      refine lv_iload hx hb dX0_reckonDoor_76 (lv_at hl 0 rfl) ?_
      refine lv_iadd hx hb dX0_reckonDoor_78 ?_
      refine lv_topi (fun x_10 ex_10 => ?_)
      refine va_iast hx hb hK hP hD hS 6 1 rfl rfl (vp_in_nI (by omega) (by decide)) dX0_reckonDoor_79 (fun H locs hP hD hS => ?_)
      replace hP : va_P D classes [(h0, .inr (5, (fX5 h1 h2 h3 h4))), (aI k h1 10 (vv n see tm g)), (aI k h2 24 ff), (aI k h3 24 fp), (aI k h4 4 fl), (w0, .inr (0, (fX0 h0 w1 w2 w3 w4))), (aI k w1 768 (upd on2_3 (Int32.toNatClampNeg (nI ((rn * 24 + i) * 8 + g2_3))) x_10)), (aI k w3 4 en)] H := hP
      replace hD : va_D A [(h0, .inr (5, (fX5 h1 h2 h3 h4))), (aI k h1 10 (vv n see tm g)), (aI k h2 24 ff), (aI k h3 24 fp), (aI k h4 4 fl), (w0, .inr (0, (fX0 h0 w1 w2 w3 w4))), (aI k w1 768 (upd on2_3 (Int32.toNatClampNeg (nI ((rn * 24 + i) * 8 + g2_3))) x_10)), (aI k w3 4 en)] := hD
      generalize (upd on2_3 (Int32.toNatClampNeg (nI ((rn * 24 + i) * 8 + g2_3))) x_10) = f_11 at hP hD
      refine lv_iinc (v := (nI (g2_3 + 1))) (lv' := [(4, .int (nI (g2_3 + 1))), (5, .int r_7), (3, .int 0), (0, .ref w0), (1, .int (nI rn)), (2, .int (nI i))]) hx hb dX0_reckonDoor_80 hl (k := 1) rfl (nI_add g2_3 1) (by decide) rfl (fun ls hl => ?_)
      refine lv_goto (tgt := 22) hx hb dX0_reckonDoor_83 (by decide) ?_
      exact ih_3 _ (g2_3 + 1, f_11) _ _ _ (by omega) ⟨rfl, (by omega), hP, hD, hS, (lv_sub hl [0, 2, 3, 4, 5] rfl)⟩
  · have c_2 := (nI_eq (a := i) (b := (n - 1)) (by omega) (by omega)).mp c_2
    refine lv_iconst (v := 1) hx hb dX0_reckonDoor_13 (by decide) ?_
    refine lv_goto (tgt := 18) hx hb dX0_reckonDoor_14 (by decide) ?_
    refine lv_istore_n (lv' := [(3, .int 1), (0, .ref w0), (1, .int (nI rn)), (2, .int (nI i))]) hx hb dX0_reckonDoor_18 rfl hl (by decide) rfl (fun ls hl => ?_)
    refine lv_iconst (v := 0) hx hb dX0_reckonDoor_19 (by decide) ?_
    refine lv_istore (lv' := [(4, .int 0), (3, .int 1), (0, .ref w0), (1, .int (nI rn)), (2, .int (nI i))]) hx hb dX0_reckonDoor_20 hl (by decide) rfl (fun ls hl => ?_)
    refine W_loop (σ := Nat × (Nat → Int32)) (fun (n_ : Nat) (x_ : Nat × (Nat → Int32)) (H : Heap) (locs : List Loc) (ls : Array Slot) => match x_ with | (g2_12, on2_12) => n_ = 8 - g2_12 ∧ (g2_12 ≤ 8) ∧ va_P D classes [(h0, .inr (5, (fX5 h1 h2 h3 h4))), (aI k h1 10 (vv n see tm g)), (aI k h2 24 ff), (aI k h3 24 fp), (aI k h4 4 fl), (w0, .inr (0, (fX0 h0 w1 w2 w3 w4))), (aI k w1 768 on2_12), (aI k w3 4 en)] H ∧ va_D A [(h0, .inr (5, (fX5 h1 h2 h3 h4))), (aI k h1 10 (vv n see tm g)), (aI k h2 24 ff), (aI k h3 24 fp), (aI k h4 4 fl), (w0, .inr (0, (fX0 h0 w1 w2 w3 w4))), (aI k w1 768 on2_12), (aI k w3 4 en)] ∧ va_S A s.heap H locs ∧ lv_has ls 6 [(4, .int (nI g2_12)), (3, .int 1), (0, .ref w0), (1, .int (nI rn)), (2, .int (nI i))]) (fun n_12 x_12 H locs ls hI ih_12 => ?_) _ (0, on) ⟨rfl, (by omega), hP, hD, hS, (lv_sub hl [0, 1, 2, 3, 4] rfl)⟩
    obtain ⟨g2_12, on2_12⟩ := x_12
    obtain ⟨hm_12, hv_12, hP, hD, hS, hl⟩ := hI
    subst hm_12
    refine lv_iload hx hb dX0_reckonDoor_22 (lv_at hl 0 rfl) ?_
    refine lv_aload_n hx hb dX0_reckonDoor_24 rfl (lv_at hl 2 rfl) ?_
    refine va_get (D := D) (ci := 0) (v := .ref h0) (C := RX0) (T := TX0) (N := 5) hx hb hts inX0 hown hK hP 5 rfl rfl 0 (by decide) (hts _ tw_266) (fun _ h9 => h9) rfl dX0_reckonDoor_25 ?_
    refine lv_iload_n hx hb dX0_reckonDoor_28 rfl (lv_at hl 4 rfl) ?_
    refine ro_i (D := D) (va_runV (As := [.int (nI i)]) (rest := [.int (nI g2_12)]) ⟨hx, hb, hml, hown, hts⟩ ((x_sightsAt l D k st lo h0 h1 h2 h3 h4 n see tm g i (by omega) (by omega) (by omega)) H.size) (cwV 1 hts (gV tw_536 tw_537 tw_538 tw_81 tw_539) rfl rfl rfl (by decide +kernel) ⟨Nat.le_of_ble_eq_true rfl, Nat.le_of_ble_eq_true rfl⟩) (pV hS hAlo hlo hP hK (va_Dlo hD hAlo) hZ [0, 1] (by decide) rfl (ci := 5) (q := (RX5, TX5, 4)) (q0 := 0) rfl rfl) rfl rfl hl.1 rfl (lv_room (Nat.le_of_ble_eq_true rfl)) dX0_reckonDoor_29 ⟨Nat.le_of_ble_eq_true rfl, Nat.le_of_ble_eq_true rfl⟩) hS hA hP (fun r_13 H locs hw_13 hP hS => ?_)
    try dsimp only at hw_13
    obtain ⟨zs_14, rfl, hza_14, hzb_14, hzq_14⟩ := hw_13
    refine lv_icmp_ge (tgt := 86) hx hb dX0_reckonDoor_32 (by decide) (fun c_15 => ?_) (fun c_15 => ?_)
    · have c_15 := (nI_leI (a := zs_14) (b := g2_12) (by omega) (by omega)).mp c_15
      have hP9 := hP.sub (ws' := [(h0, .inr (5, (fX5 h1 h2 h3 h4))), (aI k h1 10 (vv n see tm g)), (aI k h2 24 ff), (aI k h3 24 fp), (aI k h4 4 fl), (w0, .inr (0, (fX0 h0 w1 w2 w3 w4))), (aI k w1 768 on2_12), (aI k w3 4 en)]) [0, 1, 2, 3, 4, 5, 6, 7] rfl
      have hD9 := hD.sub (ws' := [(h0, .inr (5, (fX5 h1 h2 h3 h4))), (aI k h1 10 (vv n see tm g)), (aI k h2 24 ff), (aI k h3 24 fp), (aI k h4 4 fl), (w0, .inr (0, (fX0 h0 w1 w2 w3 w4))), (aI k w1 768 on2_12), (aI k w3 4 en)]) [0, 1, 2, 3, 4, 5, 6, 7] (by decide) rfl
      exact W.vret hx hb hr (fun t ht hW => ⟨⟨on2_12, rfl, trivial, by rw [ht]; exact hP9, hD9⟩, hS.F ht⟩) hS.2.2 dX0_reckonDoor_86
    · have c_15 : ¬ (zs_14 ≤ g2_12) := fun h => c_15 ((nI_leI (a := zs_14) (b := g2_12) (by omega) (by omega)).mpr h)
      refine lv_iload_n hx hb dX0_reckonDoor_35 rfl (lv_at hl 1 rfl) ?_
      refine lv_if_eq (tgt := 48) hx hb dX0_reckonDoor_36 (by decide) (fun h => absurd h (by decide)) (fun _ => ?_)
      refine lv_aload_n hx hb dX0_reckonDoor_39 rfl (lv_at hl 2 rfl) ?_
      refine va_get (D := D) (ci := 0) (v := .ref w3) (C := RX0) (T := TX0) (N := 5) hx hb hts inX0 hown hK hP 5 rfl rfl 3 (by decide) (hts _ tw_270) (fun _ h9 => h9) rfl dX0_reckonDoor_40 ?_
      refine lv_iload_n hx hb dX0_reckonDoor_43 rfl (lv_at hl 3 rfl) ?_
      refine va_iald hx hb hK hP 7 1 rfl rfl (vp_in_nI (by omega) (by decide)) dX0_reckonDoor_44 ?_
      refine lv_ti (y := (en rn)) (by rw [nI_clamp (by omega)]) ?_
      refine lv_goto (tgt := 56) hx hb dX0_reckonDoor_45 (by decide) ?_
      refine lv_istore (lv' := [(5, .int (en rn)), (4, .int (nI g2_12)), (3, .int 1), (0, .ref w0), (1, .int (nI rn)), (2, .int (nI i))]) hx hb dX0_reckonDoor_56 hl (by decide) rfl (fun ls hl => ?_)
      refine lv_aload_n hx hb dX0_reckonDoor_58 rfl (lv_at hl 3 rfl) ?_
      refine va_get (D := D) (ci := 0) (v := .ref w1) (C := RX0) (T := TX0) (N := 5) hx hb hts inX0 hown hK hP 5 rfl rfl 1 (by decide) (hts _ tw_267) (fun _ h9 => h9) rfl dX0_reckonDoor_59 ?_
      refine lv_iload_n hx hb dX0_reckonDoor_62 rfl (lv_at hl 4 rfl) ?_
      refine lv_iload_n hx hb dX0_reckonDoor_63 rfl (lv_at hl 5 rfl) ?_
      refine lv_iload hx hb dX0_reckonDoor_64 (lv_at hl 1 rfl) ?_
      refine ro_i (D := D) (va_runS (As := [.int (nI rn), .int (nI i), .int (nI g2_12)]) (rest := [.ref w1]) ⟨hx, hb, hml, hown, hts⟩ ((x_slot l D k st lo rn i g2_12) H.size) (va_cwS 3 hts (gS tw_553 tw_554 tw_85 tw_555) rfl rfl rfl (by decide +kernel) ⟨Nat.le_of_ble_eq_true rfl, Nat.le_of_ble_eq_true rfl⟩) (pS hS hAlo hlo hP hK (va_Dlo hD hAlo) hZ [] (by decide) rfl) rfl rfl hl.1 rfl (lv_room (Nat.le_of_ble_eq_true rfl)) dX0_reckonDoor_66 ⟨Nat.le_of_ble_eq_true rfl, Nat.le_of_ble_eq_true rfl⟩) hS hA hP (fun r_16 H locs hw_16 hP hS => ?_)
      try dsimp only at hw_16
      subst hw_16
      refine lv_aload_n hx hb dX0_reckonDoor_69 rfl (lv_at hl 3 rfl) ?_
      refine va_get (D := D) (ci := 0) (v := .ref h0) (C := RX0) (T := TX0) (N := 5) hx hb hts inX0 hown hK hP 5 rfl rfl 0 (by decide) (hts _ tw_266) (fun _ h9 => h9) rfl dX0_reckonDoor_70 ?_
      refine ro_i (D := D) (va_runV (As := []) (rest := [.int (nI ((rn * 24 + i) * 8 + g2_12)), .ref w1]) ⟨hx, hb, hml, hown, hts⟩ ((x_passing l D k st lo h0 h1 h2 h3 h4 n see tm g) H.size) (cwV 0 hts (gV tw_572 tw_573 tw_574 tw_81 tw_575) rfl rfl rfl (by decide +kernel) ⟨Nat.le_of_ble_eq_true rfl, Nat.le_of_ble_eq_true rfl⟩) (pV hS hAlo hlo hP hK (va_Dlo hD hAlo) hZ [0, 1] (by decide) rfl (ci := 5) (q := (RX5, TX5, 4)) (q0 := 0) rfl rfl) rfl rfl hl.1 rfl (lv_room (Nat.le_of_ble_eq_true rfl)) dX0_reckonDoor_73 ⟨Nat.le_of_ble_eq_true rfl, Nat.le_of_ble_eq_true rfl⟩) hS hA hP (fun r_17 H locs hw_17 hP hS => ?_)
      try dsimp only at hw_17
      refine lv_iload hx hb dX0_reckonDoor_76 (lv_at hl 0 rfl) ?_
      refine lv_iadd hx hb dX0_reckonDoor_78 ?_
      refine lv_topi (fun x_18 ex_18 => ?_)
      refine va_iast hx hb hK hP hD hS 6 1 rfl rfl (vp_in_nI (by omega) (by decide)) dX0_reckonDoor_79 (fun H locs hP hD hS => ?_)
      replace hP : va_P D classes [(h0, .inr (5, (fX5 h1 h2 h3 h4))), (aI k h1 10 (vv n see tm g)), (aI k h2 24 ff), (aI k h3 24 fp), (aI k h4 4 fl), (w0, .inr (0, (fX0 h0 w1 w2 w3 w4))), (aI k w1 768 (upd on2_12 (Int32.toNatClampNeg (nI ((rn * 24 + i) * 8 + g2_12))) x_18)), (aI k w3 4 en)] H := hP
      replace hD : va_D A [(h0, .inr (5, (fX5 h1 h2 h3 h4))), (aI k h1 10 (vv n see tm g)), (aI k h2 24 ff), (aI k h3 24 fp), (aI k h4 4 fl), (w0, .inr (0, (fX0 h0 w1 w2 w3 w4))), (aI k w1 768 (upd on2_12 (Int32.toNatClampNeg (nI ((rn * 24 + i) * 8 + g2_12))) x_18)), (aI k w3 4 en)] := hD
      generalize (upd on2_12 (Int32.toNatClampNeg (nI ((rn * 24 + i) * 8 + g2_12))) x_18) = f_19 at hP hD
      refine lv_iinc (v := (nI (g2_12 + 1))) (lv' := [(4, .int (nI (g2_12 + 1))), (5, .int (en rn)), (3, .int 1), (0, .ref w0), (1, .int (nI rn)), (2, .int (nI i))]) hx hb dX0_reckonDoor_80 hl (k := 1) rfl (nI_add g2_12 1) (by decide) rfl (fun ls hl => ?_)
      refine lv_goto (tgt := 22) hx hb dX0_reckonDoor_83 (by decide) ?_
      exact ih_12 _ (g2_12 + 1, f_19) _ _ _ (by omega) ⟨rfl, (by omega), hP, hD, hS, (lv_sub hl [0, 2, 3, 4, 5] rfl)⟩

theorem dX0_reckonStart_0 : decode cX0_reckonStart 0 = .ok (.aload_n 0, 1) := by decide +kernel
theorem dX0_reckonStart_1 : decode cX0_reckonStart 1 = .ok (.getfield 24, 3) := by decide +kernel
theorem dX0_reckonStart_4 : decode cX0_reckonStart 4 = .ok (.iconst 0, 1) := by decide +kernel
theorem dX0_reckonStart_5 : decode cX0_reckonStart 5 = .ok (.invokevirtual 60, 3) := by decide +kernel
theorem dX0_reckonStart_8 : decode cX0_reckonStart 8 = .ok (.istore_n 2, 1) := by decide +kernel
theorem dX0_reckonStart_9 : decode cX0_reckonStart 9 = .ok (.iconst 0, 1) := by decide +kernel
theorem dX0_reckonStart_10 : decode cX0_reckonStart 10 = .ok (.istore_n 3, 1) := by decide +kernel
theorem dX0_reckonStart_11 : decode cX0_reckonStart 11 = .ok (.iload_n 3, 1) := by decide +kernel
theorem dX0_reckonStart_12 : decode cX0_reckonStart 12 = .ok (.iload_n 2, 1) := by decide +kernel
theorem dX0_reckonStart_13 : decode cX0_reckonStart 13 = .ok (.if_icmp .ge 28, 3) := by decide +kernel
theorem dX0_reckonStart_16 : decode cX0_reckonStart 16 = .ok (.iload_n 3, 1) := by decide +kernel
theorem dX0_reckonStart_17 : decode cX0_reckonStart 17 = .ok (.bipush 8, 2) := by decide +kernel
theorem dX0_reckonStart_19 : decode cX0_reckonStart 19 = .ok (.if_icmp .ge 22, 3) := by decide +kernel
theorem dX0_reckonStart_22 : decode cX0_reckonStart 22 = .ok (.aload_n 0, 1) := by decide +kernel
theorem dX0_reckonStart_23 : decode cX0_reckonStart 23 = .ok (.getfield 21, 3) := by decide +kernel
theorem dX0_reckonStart_26 : decode cX0_reckonStart 26 = .ok (.iload_n 3, 1) := by decide +kernel
theorem dX0_reckonStart_27 : decode cX0_reckonStart 27 = .ok (.aload_n 0, 1) := by decide +kernel
theorem dX0_reckonStart_28 : decode cX0_reckonStart 28 = .ok (.iload_n 1, 1) := by decide +kernel
theorem dX0_reckonStart_29 : decode cX0_reckonStart 29 = .ok (.iconst 0, 1) := by decide +kernel
theorem dX0_reckonStart_30 : decode cX0_reckonStart 30 = .ok (.iload_n 3, 1) := by decide +kernel
theorem dX0_reckonStart_31 : decode cX0_reckonStart 31 = .ok (.invokevirtual 73, 3) := by decide +kernel
theorem dX0_reckonStart_34 : decode cX0_reckonStart 34 = .ok (.iastore, 1) := by decide +kernel
theorem dX0_reckonStart_35 : decode cX0_reckonStart 35 = .ok (.iinc 3 1, 3) := by decide +kernel
theorem dX0_reckonStart_38 : decode cX0_reckonStart 38 = .ok (.goto (-27), 3) := by decide +kernel
theorem dX0_reckonStart_41 : decode cX0_reckonStart 41 = .ok (.aload_n 0, 1) := by decide +kernel
theorem dX0_reckonStart_42 : decode cX0_reckonStart 42 = .ok (.getfield 24, 3) := by decide +kernel
theorem dX0_reckonStart_45 : decode cX0_reckonStart 45 = .ok (.getfield 28, 3) := by decide +kernel
theorem dX0_reckonStart_48 : decode cX0_reckonStart 48 = .ok (.bipush 6, 2) := by decide +kernel
theorem dX0_reckonStart_50 : decode cX0_reckonStart 50 = .ok (.iaload, 1) := by decide +kernel
theorem dX0_reckonStart_51 : decode cX0_reckonStart 51 = .ok (.istore_n 3, 1) := by decide +kernel
theorem dX0_reckonStart_52 : decode cX0_reckonStart 52 = .ok (.iload_n 3, 1) := by decide +kernel
theorem dX0_reckonStart_53 : decode cX0_reckonStart 53 = .ok (.ifCond .lt 95, 3) := by decide +kernel
theorem dX0_reckonStart_56 : decode cX0_reckonStart 56 = .ok (.iconst 1, 1) := by decide +kernel
theorem dX0_reckonStart_57 : decode cX0_reckonStart 57 = .ok (.iload_n 3, 1) := by decide +kernel
theorem dX0_reckonStart_58 : decode cX0_reckonStart 58 = .ok (.ishl, 1) := by decide +kernel
theorem dX0_reckonStart_59 : decode cX0_reckonStart 59 = .ok (.istore 4, 2) := by decide +kernel
theorem dX0_reckonStart_61 : decode cX0_reckonStart 61 = .ok (.iconst 0, 1) := by decide +kernel
theorem dX0_reckonStart_62 : decode cX0_reckonStart 62 = .ok (.istore 5, 2) := by decide +kernel
theorem dX0_reckonStart_64 : decode cX0_reckonStart 64 = .ok (.iload 4, 2) := by decide +kernel
theorem dX0_reckonStart_66 : decode cX0_reckonStart 66 = .ok (.iload_n 2, 1) := by decide +kernel
theorem dX0_reckonStart_67 : decode cX0_reckonStart 67 = .ok (.if_icmp .ge 75, 3) := by decide +kernel
theorem dX0_reckonStart_70 : decode cX0_reckonStart 70 = .ok (.iload 5, 2) := by decide +kernel
theorem dX0_reckonStart_72 : decode cX0_reckonStart 72 = .ok (.iload 4, 2) := by decide +kernel
theorem dX0_reckonStart_74 : decode cX0_reckonStart 74 = .ok (.if_icmp .ge 68, 3) := by decide +kernel
theorem dX0_reckonStart_77 : decode cX0_reckonStart 77 = .ok (.iload_n 3, 1) := by decide +kernel
theorem dX0_reckonStart_78 : decode cX0_reckonStart 78 = .ok (.ifCond .le 18, 3) := by decide +kernel
theorem dX0_reckonStart_81 : decode cX0_reckonStart 81 = .ok (.iload 5, 2) := by decide +kernel
theorem dX0_reckonStart_83 : decode cX0_reckonStart 83 = .ok (.iload_n 3, 1) := by decide +kernel
theorem dX0_reckonStart_84 : decode cX0_reckonStart 84 = .ok (.iconst 1, 1) := by decide +kernel
theorem dX0_reckonStart_85 : decode cX0_reckonStart 85 = .ok (.isub, 1) := by decide +kernel
theorem dX0_reckonStart_86 : decode cX0_reckonStart 86 = .ok (.ishr, 1) := by decide +kernel
theorem dX0_reckonStart_87 : decode cX0_reckonStart 87 = .ok (.iconst 1, 1) := by decide +kernel
theorem dX0_reckonStart_88 : decode cX0_reckonStart 88 = .ok (.iand, 1) := by decide +kernel
theorem dX0_reckonStart_89 : decode cX0_reckonStart 89 = .ok (.ifCond .eq 7, 3) := by decide +kernel
theorem dX0_reckonStart_92 : decode cX0_reckonStart 92 = .ok (.iconst 1, 1) := by decide +kernel
theorem dX0_reckonStart_93 : decode cX0_reckonStart 93 = .ok (.goto 4, 3) := by decide +kernel
theorem dX0_reckonStart_96 : decode cX0_reckonStart 96 = .ok (.iconst 0, 1) := by decide +kernel
theorem dX0_reckonStart_97 : decode cX0_reckonStart 97 = .ok (.istore 6, 2) := by decide +kernel
theorem dX0_reckonStart_99 : decode cX0_reckonStart 99 = .ok (.aload_n 0, 1) := by decide +kernel
theorem dX0_reckonStart_100 : decode cX0_reckonStart 100 = .ok (.getfield 21, 3) := by decide +kernel
theorem dX0_reckonStart_103 : decode cX0_reckonStart 103 = .ok (.iload 5, 2) := by decide +kernel
theorem dX0_reckonStart_105 : decode cX0_reckonStart 105 = .ok (.aload_n 0, 1) := by decide +kernel
theorem dX0_reckonStart_106 : decode cX0_reckonStart 106 = .ok (.getfield 24, 3) := by decide +kernel
theorem dX0_reckonStart_109 : decode cX0_reckonStart 109 = .ok (.iload_n 3, 1) := by decide +kernel
theorem dX0_reckonStart_110 : decode cX0_reckonStart 110 = .ok (.iload 6, 2) := by decide +kernel
theorem dX0_reckonStart_112 : decode cX0_reckonStart 112 = .ok (.invokevirtual 76, 3) := by decide +kernel
theorem dX0_reckonStart_115 : decode cX0_reckonStart 115 = .ok (.aload_n 0, 1) := by decide +kernel
theorem dX0_reckonStart_116 : decode cX0_reckonStart 116 = .ok (.getfield 21, 3) := by decide +kernel
theorem dX0_reckonStart_119 : decode cX0_reckonStart 119 = .ok (.iload 5, 2) := by decide +kernel
theorem dX0_reckonStart_121 : decode cX0_reckonStart 121 = .ok (.iload 4, 2) := by decide +kernel
theorem dX0_reckonStart_123 : decode cX0_reckonStart 123 = .ok (.ior, 1) := by decide +kernel
theorem dX0_reckonStart_124 : decode cX0_reckonStart 124 = .ok (.iaload, 1) := by decide +kernel
theorem dX0_reckonStart_125 : decode cX0_reckonStart 125 = .ok (.aload_n 0, 1) := by decide +kernel
theorem dX0_reckonStart_126 : decode cX0_reckonStart 126 = .ok (.getfield 21, 3) := by decide +kernel
theorem dX0_reckonStart_129 : decode cX0_reckonStart 129 = .ok (.iload 5, 2) := by decide +kernel
theorem dX0_reckonStart_131 : decode cX0_reckonStart 131 = .ok (.iaload, 1) := by decide +kernel
theorem dX0_reckonStart_132 : decode cX0_reckonStart 132 = .ok (.invokestatic 80, 3) := by decide +kernel
theorem dX0_reckonStart_135 : decode cX0_reckonStart 135 = .ok (.iastore, 1) := by decide +kernel
theorem dX0_reckonStart_136 : decode cX0_reckonStart 136 = .ok (.iinc 5 1, 3) := by decide +kernel
theorem dX0_reckonStart_139 : decode cX0_reckonStart 139 = .ok (.goto (-75), 3) := by decide +kernel
theorem dX0_reckonStart_142 : decode cX0_reckonStart 142 = .ok (.iinc 3 (-1), 3) := by decide +kernel
theorem dX0_reckonStart_145 : decode cX0_reckonStart 145 = .ok (.goto (-93), 3) := by decide +kernel
theorem dX0_reckonStart_148 : decode cX0_reckonStart 148 = .ok (.aload_n 0, 1) := by decide +kernel
theorem dX0_reckonStart_149 : decode cX0_reckonStart 149 = .ok (.getfield 21, 3) := by decide +kernel
theorem dX0_reckonStart_152 : decode cX0_reckonStart 152 = .ok (.iconst 0, 1) := by decide +kernel
theorem dX0_reckonStart_153 : decode cX0_reckonStart 153 = .ok (.iaload, 1) := by decide +kernel
theorem dX0_reckonStart_154 : decode cX0_reckonStart 154 = .ok (.ireturn, 1) := by decide +kernel
set_option maxHeartbeats 4000000 in
set_option maxRecDepth 100000 in
theorem x_reckonStart (l : Launch) (D : va_G) (k : Nat → ClassId) (st : Nat → Nat) (lo : Nat) (h0 : Nat) (h1 : Nat) (h2 : Nat) (h3 : Nat) (h4 : Nat) (n : Nat) (see : Nat) (tm : Nat) (g : Nat → Int32) (ff : Nat → Int32) (fp : Nat → Int32) (fl : Nat → Int32) (w0 : Nat) (w1 : Nat) (w2 : Nat) (w3 : Nat) (w4 : Nat) (on : Nat → Int32) (fo : Nat → Int32) (rn : Nat) (hn : n ≤ 24) (hsee : see ≤ 2) (hrn : rn ≤ 3) : CWi l D k st lo yX0_reckonStart cX0_reckonStart 7 (some .int) ({ frames := 3, cells := 0, slots := 0, locals := 84 }) 0 0 [.ref w0, .int (nI rn)] [(h0, .inr (5, (fX5 h1 h2 h3 h4))), (aI k h1 10 (vv n see tm g)), (aI k h2 24 ff), (aI k h3 24 fp), (aI k h4 4 fl), (w0, .inr (0, (fX0 h0 w1 w2 w3 w4))), (aI k w1 768 on), (aI k w4 8 fo)] (fun (r : Int32) (fo_ : (Nat → Int32)) => True) (fun (fo_ : (Nat → Int32)) => [(h0, .inr (5, (fX5 h1 h2 h3 h4))), (aI k h1 10 (vv n see tm g)), (aI k h2 24 ff), (aI k h3 24 fp), (aI k h4 4 fl), (w0, .inr (0, (fX0 h0 w1 w2 w3 w4))), (aI k w1 768 on), (aI k w4 8 fo_)]) := by
  intro sz
  refine Met.ofW (cc := cX0_reckonStart) (maxL := 7) (ret := (some .int)) (by decide) rfl ?_
  intro p e s m args below meth c s₁ B hml hv
  obtain ⟨rfl, hsz, hlo, hP, hK, hDL, hZ⟩ := hv
  have hx := B.exec
  have hb := B.bytes
  have hr := B.returns
  have hts := WS_ts B.pre
  have hown : s.vm.findClass RX0 = some m.cls := findClass_of_methodNamed B.named
  have hlocks := B.notSynchronized
  subst hsz
  have hD := hDL.self (sz := s.heap.size)
  have hAlo := A_lo hDL hlo
  generalize hAe : va_A [(h0, .inr (5, (fX5 h1 h2 h3 h4))), (aI k h1 10 (vv n see tm g)), (aI k h2 24 ff), (aI k h3 24 fp), (aI k h4 4 fl), (w0, .inr (0, (fX0 h0 w1 w2 w3 w4))), (aI k w1 768 on), (aI k w4 8 fo)] s.heap.size = A at hD hAlo ⊢
  have hA : ∀ q : Nat, s.heap.size ≤ q → A q := fun q h => by rw [← hAe]; exact Or.inr h
  have hS : va_S A s.heap s.heap [] := va_S.rf
  have hl := lv_entry ([.ref w0, .int (nI rn)]) (n := 7) (Nat.le_of_ble_eq_true rfl)
  rw [lg_entry_eq]
  generalize (lg_sl ([.ref w0, .int (nI rn)]) ++ List.replicate (7 - (lg_sl ([.ref w0, .int (nI rn)])).length) Slot.unset).toArray = ls at hl ⊢
  have hl : lv_has ls 7 [(0, .ref w0), (1, .int (nI rn))] := hl
  refine lv_aload_n hx hb dX0_reckonStart_0 rfl (lv_at hl 0 rfl) ?_
  refine va_get (D := D) (ci := 0) (v := .ref h0) (C := RX0) (T := TX0) (N := 5) hx hb hts inX0 hown hK hP 5 rfl rfl 0 (by decide) (hts _ tw_266) (fun _ h9 => h9) rfl dX0_reckonStart_1 ?_
  refine lv_iconst (v := 0) hx hb dX0_reckonStart_4 (by decide) ?_
  refine ro_i (D := D) (va_runV (As := [.int 0]) (rest := []) ⟨hx, hb, hml, hown, hts⟩ ((x_sightsAt l D k st lo h0 h1 h2 h3 h4 n see tm g 0 (by omega) (by omega) (by omega)) s.heap.size) (cwV 1 hts (gV tw_536 tw_537 tw_538 tw_81 tw_539) rfl rfl rfl (by decide +kernel) ⟨Nat.le_of_ble_eq_true rfl, Nat.le_of_ble_eq_true rfl⟩) (pV hS hAlo hlo hP hK (va_Dlo hD hAlo) hZ [0, 1] (by decide) rfl (ci := 5) (q := (RX5, TX5, 4)) (q0 := 0) rfl rfl) rfl rfl hl.1 rfl (lv_room (Nat.le_of_ble_eq_true rfl)) dX0_reckonStart_5 ⟨Nat.le_of_ble_eq_true rfl, Nat.le_of_ble_eq_true rfl⟩) hS hA hP (fun r_1 H locs hw_1 hP hS => ?_)
  try dsimp only at hw_1
  obtain ⟨zs_2, rfl, hza_2, hzb_2, hzq_2⟩ := hw_1
  refine lv_istore_n (lv' := [(2, .int (nI zs_2)), (0, .ref w0), (1, .int (nI rn))]) hx hb dX0_reckonStart_8 rfl hl (by decide) rfl (fun ls hl => ?_)
  refine lv_iconst (v := 0) hx hb dX0_reckonStart_9 (by decide) ?_
  refine lv_istore_n (lv' := [(3, .int 0), (2, .int (nI zs_2)), (0, .ref w0), (1, .int (nI rn))]) hx hb dX0_reckonStart_10 rfl hl (by decide) rfl (fun ls hl => ?_)
  refine W_loop (σ := Nat × (Nat → Int32)) (fun (n_ : Nat) (x_ : Nat × (Nat → Int32)) (H : Heap) (locs : List Loc) (ls : Array Slot) => match x_ with | (g2_3, fo2_3) => n_ = 8 - g2_3 ∧ (g2_3 ≤ 8) ∧ va_P D classes [(h0, .inr (5, (fX5 h1 h2 h3 h4))), (aI k h1 10 (vv n see tm g)), (aI k h2 24 ff), (aI k h3 24 fp), (aI k h4 4 fl), (w0, .inr (0, (fX0 h0 w1 w2 w3 w4))), (aI k w1 768 on), (aI k w4 8 fo2_3)] H ∧ va_D A [(h0, .inr (5, (fX5 h1 h2 h3 h4))), (aI k h1 10 (vv n see tm g)), (aI k h2 24 ff), (aI k h3 24 fp), (aI k h4 4 fl), (w0, .inr (0, (fX0 h0 w1 w2 w3 w4))), (aI k w1 768 on), (aI k w4 8 fo2_3)] ∧ va_S A s.heap H locs ∧ lv_has ls 7 [(3, .int (nI g2_3)), (2, .int (nI zs_2)), (0, .ref w0), (1, .int (nI rn))]) (fun n_3 x_3 H locs ls hI ih_3 => ?_) _ (0, fo) ⟨rfl, (by omega), hP, hD, hS, (lv_sub hl [0, 1, 2, 3] rfl)⟩
  obtain ⟨g2_3, fo2_3⟩ := x_3
  obtain ⟨hm_3, hv_3, hP, hD, hS, hl⟩ := hI
  subst hm_3
  refine lv_iload_n hx hb dX0_reckonStart_11 rfl (lv_at hl 0 rfl) ?_
  refine lv_iload_n hx hb dX0_reckonStart_12 rfl (lv_at hl 1 rfl) ?_
  refine lv_icmp_ge (tgt := 41) hx hb dX0_reckonStart_13 (by decide) (fun c_4 => ?_) (fun c_4 => ?_)
  · have c_4 := (nI_leI (a := zs_2) (b := g2_3) (by omega) (by omega)).mp c_4
    refine lv_aload_n hx hb dX0_reckonStart_41 rfl (lv_at hl 2 rfl) ?_
    refine va_get (D := D) (ci := 0) (v := .ref h0) (C := RX0) (T := TX0) (N := 5) hx hb hts inX0 hown hK hP 5 rfl rfl 0 (by decide) (hts _ tw_266) (fun _ h9 => h9) rfl dX0_reckonStart_42 ?_
    refine va_get (D := D) (ci := 5) (v := .ref h1) (C := RX5) (T := TX5) (N := 4) hx hb hts inX5 hown hK hP 0 rfl rfl 0 (by decide) (hts _ tw_147) (fun _ h9 => h9) rfl dX0_reckonStart_45 ?_
    refine lv_bipush (v := 6) hx hb dX0_reckonStart_48 (by decide) ?_
    refine va_iald hx hb hK hP 1 1 rfl rfl (by unfold vp_in; decide) dX0_reckonStart_50 ?_
    refine lv_ti (y := (nI see)) (by rfl) ?_
    refine lv_istore_n (lv' := [(3, .int (nI see)), (2, .int (nI zs_2)), (0, .ref w0), (1, .int (nI rn))]) hx hb dX0_reckonStart_51 rfl hl (by decide) rfl (fun ls hl => ?_)
    refine W_loop (σ := Nat × (Nat → Int32)) (fun (n_ : Nat) (x_ : Nat × (Nat → Int32)) (H : Heap) (locs : List Loc) (ls : Array Slot) => match x_ with | (q_5, fo2_5) => n_ = 2 * q_5 ∧ (q_5 ≤ 3) ∧ va_P D classes [(h0, .inr (5, (fX5 h1 h2 h3 h4))), (aI k h1 10 (vv n see tm g)), (aI k h2 24 ff), (aI k h3 24 fp), (aI k h4 4 fl), (w0, .inr (0, (fX0 h0 w1 w2 w3 w4))), (aI k w1 768 on), (aI k w4 8 fo2_5)] H ∧ va_D A [(h0, .inr (5, (fX5 h1 h2 h3 h4))), (aI k h1 10 (vv n see tm g)), (aI k h2 24 ff), (aI k h3 24 fp), (aI k h4 4 fl), (w0, .inr (0, (fX0 h0 w1 w2 w3 w4))), (aI k w1 768 on), (aI k w4 8 fo2_5)] ∧ va_S A s.heap H locs ∧ lv_has ls 7 [(3, .int (nI q_5 - 1)), (2, .int (nI zs_2)), (0, .ref w0), (1, .int (nI rn))]) (fun n_5 x_5 H locs ls hI ih_5 => ?_) _ (see + 1, fo2_3) ⟨rfl, (by omega), hP, hD, hS, (by rw [nI_pred]; exact lv_sub hl [0, 1, 2, 3] rfl)⟩
    obtain ⟨q_5, fo2_5⟩ := x_5
    obtain ⟨hm_5, hv_5, hP, hD, hS, hl⟩ := hI
    subst hm_5
    rcases q_5 with _ | q_5
    · rw [dn0] at hl
      refine lv_iload_n hx hb dX0_reckonStart_52 rfl (lv_at hl 0 rfl) ?_
      refine lv_if_lt (tgt := 148) hx hb dX0_reckonStart_53 (by decide) (fun _ => ?_) (fun h => absurd (by decide) h)
      refine lv_aload_n hx hb dX0_reckonStart_148 rfl (lv_at hl 2 rfl) ?_
      refine va_get (D := D) (ci := 0) (v := .ref w4) (C := RX0) (T := TX0) (N := 5) hx hb hts inX0 hown hK hP 5 rfl rfl 4 (by decide) (hts _ tw_272) (fun _ h9 => h9) rfl dX0_reckonStart_149 ?_
      refine lv_iconst (v := 0) hx hb dX0_reckonStart_152 (by decide) ?_
      refine va_iald hx hb hK hP 7 1 rfl rfl (by unfold vp_in; decide) dX0_reckonStart_153 ?_
      refine lv_ti (y := (fo2_5 0)) (by rfl) ?_
      have hP9 := hP.sub (ws' := [(h0, .inr (5, (fX5 h1 h2 h3 h4))), (aI k h1 10 (vv n see tm g)), (aI k h2 24 ff), (aI k h3 24 fp), (aI k h4 4 fl), (w0, .inr (0, (fX0 h0 w1 w2 w3 w4))), (aI k w1 768 on), (aI k w4 8 fo2_5)]) [0, 1, 2, 3, 4, 5, 6, 7] rfl
      have hD9 := hD.sub (ws' := [(h0, .inr (5, (fX5 h1 h2 h3 h4))), (aI k h1 10 (vv n see tm g)), (aI k h2 24 ff), (aI k h3 24 fp), (aI k h4 4 fl), (w0, .inr (0, (fX0 h0 w1 w2 w3 w4))), (aI k w1 768 on), (aI k w4 8 fo2_5)]) [0, 1, 2, 3, 4, 5, 6, 7] (by decide) rfl
      exact W.iret (v := (fo2_5 0)) hx hb hr (fun t ht hW => ⟨⟨(fo2_5 0), fo2_5, rfl, trivial, by rw [ht]; exact hP9, hD9⟩, hS.F ht⟩) hS.2.2 dX0_reckonStart_154
    · rw [nI_pred] at hl
      refine lv_iload_n hx hb dX0_reckonStart_52 rfl (lv_at hl 0 rfl) ?_
      refine lv_if_lt (tgt := 148) hx hb dX0_reckonStart_53 (by decide) (fun h => absurd h (nI_pos0 (by omega))) (fun _ => ?_)
      refine lv_iconst (v := 1) hx hb dX0_reckonStart_56 (by decide) ?_
      refine lv_iload_n hx hb dX0_reckonStart_57 rfl (lv_at hl 0 rfl) ?_
      obtain ⟨pw_6, epw_6⟩ : ∃ z : Nat, z = 2 ^ (q_5) := ⟨_, rfl⟩
      have hpw_6 : 1 ≤ pw_6 ∧ pw_6 ≤ 4 := by rw [epw_6]; exact pw4 (by omega)
      refine lv_ishl hx hb dX0_reckonStart_58 ?_
      refine lv_ti (y := (nI pw_6)) (by rw [epw_6]; exact shl1 q_5 (by omega)) ?_
      refine lv_istore (lv' := [(4, .int (nI pw_6)), (3, .int (nI q_5)), (2, .int (nI zs_2)), (0, .ref w0), (1, .int (nI rn))]) hx hb dX0_reckonStart_59 hl (by decide) rfl (fun ls hl => ?_)
      refine lv_iconst (v := 0) hx hb dX0_reckonStart_61 (by decide) ?_
      refine lv_istore (lv' := [(5, .int 0), (4, .int (nI pw_6)), (3, .int (nI q_5)), (2, .int (nI zs_2)), (0, .ref w0), (1, .int (nI rn))]) hx hb dX0_reckonStart_62 hl (by decide) rfl (fun ls hl => ?_)
      refine W_loop (σ := Nat × (Nat → Int32)) (fun (n_ : Nat) (x_ : Nat × (Nat → Int32)) (H : Heap) (locs : List Loc) (ls : Array Slot) => match x_ with | (g2_7, fo2_7) => n_ = 5 - g2_7 ∧ (g2_7 ≤ 4) ∧ va_P D classes [(h0, .inr (5, (fX5 h1 h2 h3 h4))), (aI k h1 10 (vv n see tm g)), (aI k h2 24 ff), (aI k h3 24 fp), (aI k h4 4 fl), (w0, .inr (0, (fX0 h0 w1 w2 w3 w4))), (aI k w1 768 on), (aI k w4 8 fo2_7)] H ∧ va_D A [(h0, .inr (5, (fX5 h1 h2 h3 h4))), (aI k h1 10 (vv n see tm g)), (aI k h2 24 ff), (aI k h3 24 fp), (aI k h4 4 fl), (w0, .inr (0, (fX0 h0 w1 w2 w3 w4))), (aI k w1 768 on), (aI k w4 8 fo2_7)] ∧ va_S A s.heap H locs ∧ lv_has ls 7 [(5, .int (nI g2_7)), (4, .int (nI pw_6)), (3, .int (nI q_5)), (2, .int (nI zs_2)), (0, .ref w0), (1, .int (nI rn))]) (fun n_7 x_7 H locs ls hI ih_7 => ?_) _ (0, fo2_5) ⟨rfl, (by omega), hP, hD, hS, (lv_sub hl [0, 1, 2, 3, 4, 5] rfl)⟩
      obtain ⟨g2_7, fo2_7⟩ := x_7
      obtain ⟨hm_7, hv_7, hP, hD, hS, hl⟩ := hI
      subst hm_7
      refine lv_iload hx hb dX0_reckonStart_64 (lv_at hl 1 rfl) ?_
      refine lv_iload_n hx hb dX0_reckonStart_66 rfl (lv_at hl 3 rfl) ?_
      refine lv_icmp_ge (tgt := 142) hx hb dX0_reckonStart_67 (by decide) (fun c_8 => ?_) (fun c_8 => ?_)
      · have c_8 := (nI_leI (a := zs_2) (b := pw_6) (by omega) (by omega)).mp c_8
        refine lv_iinc (v := (nI q_5 - 1)) (lv' := [(3, .int (nI q_5 - 1)), (5, .int (nI g2_7)), (4, .int (nI pw_6)), (2, .int (nI zs_2)), (0, .ref w0), (1, .int (nI rn))]) hx hb dX0_reckonStart_142 hl (k := 2) rfl (dn1 _) (by decide) rfl (fun ls hl => ?_)
        refine lv_goto (tgt := 52) hx hb dX0_reckonStart_145 (by decide) ?_
        exact ih_5 _ (q_5, fo2_7) _ _ _ (by omega) ⟨rfl, (by omega), hP, hD, hS, (lv_sub hl [0, 3, 4, 5] rfl)⟩
      · have c_8 : ¬ (zs_2 ≤ pw_6) := fun h => c_8 ((nI_leI (a := zs_2) (b := pw_6) (by omega) (by omega)).mpr h)
        refine lv_iload hx hb dX0_reckonStart_70 (lv_at hl 0 rfl) ?_
        refine lv_iload hx hb dX0_reckonStart_72 (lv_at hl 1 rfl) ?_
        refine lv_icmp_ge (tgt := 142) hx hb dX0_reckonStart_74 (by decide) (fun c_9 => ?_) (fun c_9 => ?_)
        · have c_9 := (nI_leI (a := pw_6) (b := g2_7) (by omega) (by omega)).mp c_9
          refine lv_iinc (v := (nI q_5 - 1)) (lv' := [(3, .int (nI q_5 - 1)), (5, .int (nI g2_7)), (4, .int (nI pw_6)), (2, .int (nI zs_2)), (0, .ref w0), (1, .int (nI rn))]) hx hb dX0_reckonStart_142 hl (k := 2) rfl (dn1 _) (by decide) rfl (fun ls hl => ?_)
          refine lv_goto (tgt := 52) hx hb dX0_reckonStart_145 (by decide) ?_
          exact ih_5 _ (q_5, fo2_7) _ _ _ (by omega) ⟨rfl, (by omega), hP, hD, hS, (lv_sub hl [0, 3, 4, 5] rfl)⟩
        · have c_9 : ¬ (pw_6 ≤ g2_7) := fun h => c_9 ((nI_leI (a := pw_6) (b := g2_7) (by omega) (by omega)).mpr h)
          refine lv_iload_n hx hb dX0_reckonStart_77 rfl (lv_at hl 2 rfl) ?_
          refine lv_if_le (tgt := 96) hx hb dX0_reckonStart_78 (by decide) (fun c_10 => ?_) (fun c_10 => ?_)
          · have c_10 := (nI_leI (a := q_5) (b := 0) (by omega) (by omega)).mp c_10
            refine lv_iconst (v := 0) hx hb dX0_reckonStart_96 (by decide) ?_
            refine lv_istore (lv' := [(6, .int 0), (5, .int (nI g2_7)), (4, .int (nI pw_6)), (3, .int (nI q_5)), (2, .int (nI zs_2)), (0, .ref w0), (1, .int (nI rn))]) hx hb dX0_reckonStart_97 hl (by decide) rfl (fun ls hl => ?_)
            refine lv_aload_n hx hb dX0_reckonStart_99 rfl (lv_at hl 5 rfl) ?_
            refine va_get (D := D) (ci := 0) (v := .ref w4) (C := RX0) (T := TX0) (N := 5) hx hb hts inX0 hown hK hP 5 rfl rfl 4 (by decide) (hts _ tw_272) (fun _ h9 => h9) rfl dX0_reckonStart_100 ?_
            refine lv_iload hx hb dX0_reckonStart_103 (lv_at hl 1 rfl) ?_
            refine lv_aload_n hx hb dX0_reckonStart_105 rfl (lv_at hl 5 rfl) ?_
            refine va_get (D := D) (ci := 0) (v := .ref h0) (C := RX0) (T := TX0) (N := 5) hx hb hts inX0 hown hK hP 5 rfl rfl 0 (by decide) (hts _ tw_266) (fun _ h9 => h9) rfl dX0_reckonStart_106 ?_
            refine lv_iload_n hx hb dX0_reckonStart_109 rfl (lv_at hl 3 rfl) ?_
            refine lv_iload hx hb dX0_reckonStart_110 (lv_at hl 0 rfl) ?_
            refine ro_i (D := D) (va_runV (As := [.int (nI q_5), .int 0]) (rest := [.int (nI g2_7), .ref w4]) ⟨hx, hb, hml, hown, hts⟩ ((x_chanceOf l D k st lo h0 h1 h2 h3 h4 n see tm g ff q_5 0 (by omega)) H.size) (cwV 2 hts (gV tw_564 tw_565 tw_566 tw_81 tw_567) rfl rfl rfl (by decide +kernel) ⟨Nat.le_of_ble_eq_true rfl, Nat.le_of_ble_eq_true rfl⟩) (pV hS hAlo hlo hP hK (va_Dlo hD hAlo) hZ [0, 1, 2] (by decide) rfl (ci := 5) (q := (RX5, TX5, 4)) (q0 := 0) rfl rfl) rfl rfl hl.1 rfl (lv_room (Nat.le_of_ble_eq_true rfl)) dX0_reckonStart_112 ⟨Nat.le_of_ble_eq_true rfl, Nat.le_of_ble_eq_true rfl⟩) hS hA hP (fun r_11 H locs hw_11 hP hS => ?_)
            try dsimp only at hw_11
            refine lv_aload_n hx hb dX0_reckonStart_115 rfl (lv_at hl 5 rfl) ?_
            refine va_get (D := D) (ci := 0) (v := .ref w4) (C := RX0) (T := TX0) (N := 5) hx hb hts inX0 hown hK hP 5 rfl rfl 4 (by decide) (hts _ tw_272) (fun _ h9 => h9) rfl dX0_reckonStart_116 ?_
            refine lv_iload hx hb dX0_reckonStart_119 (lv_at hl 1 rfl) ?_
            refine lv_iload hx hb dX0_reckonStart_121 (lv_at hl 2 rfl) ?_
            obtain ⟨ov_12, hov_12, eov_12⟩ := or8 g2_7 (by omega) pw_6 (by omega)
            refine lv_ior hx hb dX0_reckonStart_123 ?_
            refine lv_ti (y := (nI ov_12)) eov_12 ?_
            refine va_iald hx hb hK hP 7 1 rfl rfl (vp_in_nI (by omega) (by decide)) dX0_reckonStart_124 ?_
            refine lv_ti (y := (fo2_7 ov_12)) (by rw [nI_clamp (by omega)]) ?_
            refine lv_aload_n hx hb dX0_reckonStart_125 rfl (lv_at hl 5 rfl) ?_
            refine va_get (D := D) (ci := 0) (v := .ref w4) (C := RX0) (T := TX0) (N := 5) hx hb hts inX0 hown hK hP 5 rfl rfl 4 (by decide) (hts _ tw_272) (fun _ h9 => h9) rfl dX0_reckonStart_126 ?_
            refine lv_iload hx hb dX0_reckonStart_129 (lv_at hl 1 rfl) ?_
            refine va_iald hx hb hK hP 7 1 rfl rfl (vp_in_nI (by omega) (by decide)) dX0_reckonStart_131 ?_
            refine lv_ti (y := (fo2_7 g2_7)) (by rw [nI_clamp (by omega)]) ?_
            refine ro_i (D := D) (va_runSN (As := [.int r_11, .int (fo2_7 ov_12), .int (fo2_7 g2_7)]) (rest := [.int (nI g2_7), .ref w4]) ⟨hx, hb, hml, hown, hts⟩ ((x_mixed l D k st lo r_11 (fo2_7 ov_12) (fo2_7 g2_7)) H.size) ⟨va_cnB 3 hts (gLW tw_570) rfl rfl rfl (hZ.2.2.2.2.2.2.2.2.1.1 (RX0, 80, yX7_mixed, RX7) (List.mem_of_getElem? (i := 5) rfl)) (hts _ tw_79) (by decide +kernel) ⟨Nat.le_of_ble_eq_true rfl, Nat.le_of_ble_eq_true rfl⟩, hts _ tw_569, trivial⟩ (pS hS hAlo hlo hP hK (va_Dlo hD hAlo) hZ [] (by decide) rfl) rfl rfl hl.1 rfl (lv_room (Nat.le_of_ble_eq_true rfl)) dX0_reckonStart_132 ⟨Nat.le_of_ble_eq_true rfl, Nat.le_of_ble_eq_true rfl⟩) hS hA hP (fun r_13 H locs hw_13 hP hS => ?_)
            try dsimp only at hw_13
            refine va_iast hx hb hK hP hD hS 7 1 rfl rfl (vp_in_nI (by omega) (by decide)) dX0_reckonStart_135 (fun H locs hP hD hS => ?_)
            replace hP : va_P D classes [(h0, .inr (5, (fX5 h1 h2 h3 h4))), (aI k h1 10 (vv n see tm g)), (aI k h2 24 ff), (aI k h3 24 fp), (aI k h4 4 fl), (w0, .inr (0, (fX0 h0 w1 w2 w3 w4))), (aI k w1 768 on), (aI k w4 8 (upd fo2_7 (Int32.toNatClampNeg (nI g2_7)) r_13))] H := hP
            replace hD : va_D A [(h0, .inr (5, (fX5 h1 h2 h3 h4))), (aI k h1 10 (vv n see tm g)), (aI k h2 24 ff), (aI k h3 24 fp), (aI k h4 4 fl), (w0, .inr (0, (fX0 h0 w1 w2 w3 w4))), (aI k w1 768 on), (aI k w4 8 (upd fo2_7 (Int32.toNatClampNeg (nI g2_7)) r_13))] := hD
            generalize (upd fo2_7 (Int32.toNatClampNeg (nI g2_7)) r_13) = f_14 at hP hD
            refine lv_iinc (v := (nI (g2_7 + 1))) (lv' := [(5, .int (nI (g2_7 + 1))), (6, .int 0), (4, .int (nI pw_6)), (3, .int (nI q_5)), (2, .int (nI zs_2)), (0, .ref w0), (1, .int (nI rn))]) hx hb dX0_reckonStart_136 hl (k := 1) rfl (nI_add g2_7 1) (by decide) rfl (fun ls hl => ?_)
            refine lv_goto (tgt := 64) hx hb dX0_reckonStart_139 (by decide) ?_
            exact ih_7 _ (g2_7 + 1, f_14) _ _ _ (by omega) ⟨rfl, (by omega), hP, hD, hS, (lv_sub hl [0, 2, 3, 4, 5, 6] rfl)⟩
          · have c_10 : ¬ (q_5 ≤ 0) := fun h => c_10 ((nI_leI (a := q_5) (b := 0) (by omega) (by omega)).mpr h)
            refine lv_iload hx hb dX0_reckonStart_81 (lv_at hl 0 rfl) ?_
            refine lv_iload_n hx hb dX0_reckonStart_83 rfl (lv_at hl 2 rfl) ?_
            refine lv_iconst (v := 1) hx hb dX0_reckonStart_84 (by decide) ?_
            refine lv_isub hx hb dX0_reckonStart_85 ?_
            refine lv_ti (y := (nI (q_5 - 1))) (pk_sub (a := q_5) (b := 1) (by omega)) ?_
            refine lv_ishr hx hb dX0_reckonStart_86 ?_
            refine lv_topi (fun x_15 ex_15 => ?_)
            refine lv_iconst (v := 1) hx hb dX0_reckonStart_87 (by decide) ?_
            refine lv_iand hx hb dX0_reckonStart_88 ?_
            refine lv_topi (fun x_16 ex_16 => ?_)
            refine lv_if_eq (tgt := 96) hx hb dX0_reckonStart_89 (by decide) (fun c_17 => ?_) (fun c_17 => ?_)
            · refine lv_iconst (v := 0) hx hb dX0_reckonStart_96 (by decide) ?_
              refine lv_istore (lv' := [(6, .int 0), (5, .int (nI g2_7)), (4, .int (nI pw_6)), (3, .int (nI q_5)), (2, .int (nI zs_2)), (0, .ref w0), (1, .int (nI rn))]) hx hb dX0_reckonStart_97 hl (by decide) rfl (fun ls hl => ?_)
              refine lv_aload_n hx hb dX0_reckonStart_99 rfl (lv_at hl 5 rfl) ?_
              refine va_get (D := D) (ci := 0) (v := .ref w4) (C := RX0) (T := TX0) (N := 5) hx hb hts inX0 hown hK hP 5 rfl rfl 4 (by decide) (hts _ tw_272) (fun _ h9 => h9) rfl dX0_reckonStart_100 ?_
              refine lv_iload hx hb dX0_reckonStart_103 (lv_at hl 1 rfl) ?_
              refine lv_aload_n hx hb dX0_reckonStart_105 rfl (lv_at hl 5 rfl) ?_
              refine va_get (D := D) (ci := 0) (v := .ref h0) (C := RX0) (T := TX0) (N := 5) hx hb hts inX0 hown hK hP 5 rfl rfl 0 (by decide) (hts _ tw_266) (fun _ h9 => h9) rfl dX0_reckonStart_106 ?_
              refine lv_iload_n hx hb dX0_reckonStart_109 rfl (lv_at hl 3 rfl) ?_
              refine lv_iload hx hb dX0_reckonStart_110 (lv_at hl 0 rfl) ?_
              refine ro_i (D := D) (va_runV (As := [.int (nI q_5), .int 0]) (rest := [.int (nI g2_7), .ref w4]) ⟨hx, hb, hml, hown, hts⟩ ((x_chanceOf l D k st lo h0 h1 h2 h3 h4 n see tm g ff q_5 0 (by omega)) H.size) (cwV 2 hts (gV tw_564 tw_565 tw_566 tw_81 tw_567) rfl rfl rfl (by decide +kernel) ⟨Nat.le_of_ble_eq_true rfl, Nat.le_of_ble_eq_true rfl⟩) (pV hS hAlo hlo hP hK (va_Dlo hD hAlo) hZ [0, 1, 2] (by decide) rfl (ci := 5) (q := (RX5, TX5, 4)) (q0 := 0) rfl rfl) rfl rfl hl.1 rfl (lv_room (Nat.le_of_ble_eq_true rfl)) dX0_reckonStart_112 ⟨Nat.le_of_ble_eq_true rfl, Nat.le_of_ble_eq_true rfl⟩) hS hA hP (fun r_18 H locs hw_18 hP hS => ?_)
              try dsimp only at hw_18
              refine lv_aload_n hx hb dX0_reckonStart_115 rfl (lv_at hl 5 rfl) ?_
              refine va_get (D := D) (ci := 0) (v := .ref w4) (C := RX0) (T := TX0) (N := 5) hx hb hts inX0 hown hK hP 5 rfl rfl 4 (by decide) (hts _ tw_272) (fun _ h9 => h9) rfl dX0_reckonStart_116 ?_
              refine lv_iload hx hb dX0_reckonStart_119 (lv_at hl 1 rfl) ?_
              refine lv_iload hx hb dX0_reckonStart_121 (lv_at hl 2 rfl) ?_
              obtain ⟨ov_19, hov_19, eov_19⟩ := or8 g2_7 (by omega) pw_6 (by omega)
              refine lv_ior hx hb dX0_reckonStart_123 ?_
              refine lv_ti (y := (nI ov_19)) eov_19 ?_
              refine va_iald hx hb hK hP 7 1 rfl rfl (vp_in_nI (by omega) (by decide)) dX0_reckonStart_124 ?_
              refine lv_ti (y := (fo2_7 ov_19)) (by rw [nI_clamp (by omega)]) ?_
              refine lv_aload_n hx hb dX0_reckonStart_125 rfl (lv_at hl 5 rfl) ?_
              refine va_get (D := D) (ci := 0) (v := .ref w4) (C := RX0) (T := TX0) (N := 5) hx hb hts inX0 hown hK hP 5 rfl rfl 4 (by decide) (hts _ tw_272) (fun _ h9 => h9) rfl dX0_reckonStart_126 ?_
              refine lv_iload hx hb dX0_reckonStart_129 (lv_at hl 1 rfl) ?_
              refine va_iald hx hb hK hP 7 1 rfl rfl (vp_in_nI (by omega) (by decide)) dX0_reckonStart_131 ?_
              refine lv_ti (y := (fo2_7 g2_7)) (by rw [nI_clamp (by omega)]) ?_
              refine ro_i (D := D) (va_runSN (As := [.int r_18, .int (fo2_7 ov_19), .int (fo2_7 g2_7)]) (rest := [.int (nI g2_7), .ref w4]) ⟨hx, hb, hml, hown, hts⟩ ((x_mixed l D k st lo r_18 (fo2_7 ov_19) (fo2_7 g2_7)) H.size) ⟨va_cnB 3 hts (gLW tw_570) rfl rfl rfl (hZ.2.2.2.2.2.2.2.2.1.1 (RX0, 80, yX7_mixed, RX7) (List.mem_of_getElem? (i := 5) rfl)) (hts _ tw_79) (by decide +kernel) ⟨Nat.le_of_ble_eq_true rfl, Nat.le_of_ble_eq_true rfl⟩, hts _ tw_569, trivial⟩ (pS hS hAlo hlo hP hK (va_Dlo hD hAlo) hZ [] (by decide) rfl) rfl rfl hl.1 rfl (lv_room (Nat.le_of_ble_eq_true rfl)) dX0_reckonStart_132 ⟨Nat.le_of_ble_eq_true rfl, Nat.le_of_ble_eq_true rfl⟩) hS hA hP (fun r_20 H locs hw_20 hP hS => ?_)
              try dsimp only at hw_20
              refine va_iast hx hb hK hP hD hS 7 1 rfl rfl (vp_in_nI (by omega) (by decide)) dX0_reckonStart_135 (fun H locs hP hD hS => ?_)
              replace hP : va_P D classes [(h0, .inr (5, (fX5 h1 h2 h3 h4))), (aI k h1 10 (vv n see tm g)), (aI k h2 24 ff), (aI k h3 24 fp), (aI k h4 4 fl), (w0, .inr (0, (fX0 h0 w1 w2 w3 w4))), (aI k w1 768 on), (aI k w4 8 (upd fo2_7 (Int32.toNatClampNeg (nI g2_7)) r_20))] H := hP
              replace hD : va_D A [(h0, .inr (5, (fX5 h1 h2 h3 h4))), (aI k h1 10 (vv n see tm g)), (aI k h2 24 ff), (aI k h3 24 fp), (aI k h4 4 fl), (w0, .inr (0, (fX0 h0 w1 w2 w3 w4))), (aI k w1 768 on), (aI k w4 8 (upd fo2_7 (Int32.toNatClampNeg (nI g2_7)) r_20))] := hD
              generalize (upd fo2_7 (Int32.toNatClampNeg (nI g2_7)) r_20) = f_21 at hP hD
              refine lv_iinc (v := (nI (g2_7 + 1))) (lv' := [(5, .int (nI (g2_7 + 1))), (6, .int 0), (4, .int (nI pw_6)), (3, .int (nI q_5)), (2, .int (nI zs_2)), (0, .ref w0), (1, .int (nI rn))]) hx hb dX0_reckonStart_136 hl (k := 1) rfl (nI_add g2_7 1) (by decide) rfl (fun ls hl => ?_)
              refine lv_goto (tgt := 64) hx hb dX0_reckonStart_139 (by decide) ?_
              exact ih_7 _ (g2_7 + 1, f_21) _ _ _ (by omega) ⟨rfl, (by omega), hP, hD, hS, (lv_sub hl [0, 2, 3, 4, 5, 6] rfl)⟩
            · refine lv_iconst (v := 1) hx hb dX0_reckonStart_92 (by decide) ?_
              refine lv_goto (tgt := 97) hx hb dX0_reckonStart_93 (by decide) ?_
              refine lv_istore (lv' := [(6, .int 1), (5, .int (nI g2_7)), (4, .int (nI pw_6)), (3, .int (nI q_5)), (2, .int (nI zs_2)), (0, .ref w0), (1, .int (nI rn))]) hx hb dX0_reckonStart_97 hl (by decide) rfl (fun ls hl => ?_)
              refine lv_aload_n hx hb dX0_reckonStart_99 rfl (lv_at hl 5 rfl) ?_
              refine va_get (D := D) (ci := 0) (v := .ref w4) (C := RX0) (T := TX0) (N := 5) hx hb hts inX0 hown hK hP 5 rfl rfl 4 (by decide) (hts _ tw_272) (fun _ h9 => h9) rfl dX0_reckonStart_100 ?_
              refine lv_iload hx hb dX0_reckonStart_103 (lv_at hl 1 rfl) ?_
              refine lv_aload_n hx hb dX0_reckonStart_105 rfl (lv_at hl 5 rfl) ?_
              refine va_get (D := D) (ci := 0) (v := .ref h0) (C := RX0) (T := TX0) (N := 5) hx hb hts inX0 hown hK hP 5 rfl rfl 0 (by decide) (hts _ tw_266) (fun _ h9 => h9) rfl dX0_reckonStart_106 ?_
              refine lv_iload_n hx hb dX0_reckonStart_109 rfl (lv_at hl 3 rfl) ?_
              refine lv_iload hx hb dX0_reckonStart_110 (lv_at hl 0 rfl) ?_
              refine ro_i (D := D) (va_runV (As := [.int (nI q_5), .int 1]) (rest := [.int (nI g2_7), .ref w4]) ⟨hx, hb, hml, hown, hts⟩ ((x_chanceOf l D k st lo h0 h1 h2 h3 h4 n see tm g ff q_5 1 (by omega)) H.size) (cwV 2 hts (gV tw_564 tw_565 tw_566 tw_81 tw_567) rfl rfl rfl (by decide +kernel) ⟨Nat.le_of_ble_eq_true rfl, Nat.le_of_ble_eq_true rfl⟩) (pV hS hAlo hlo hP hK (va_Dlo hD hAlo) hZ [0, 1, 2] (by decide) rfl (ci := 5) (q := (RX5, TX5, 4)) (q0 := 0) rfl rfl) rfl rfl hl.1 rfl (lv_room (Nat.le_of_ble_eq_true rfl)) dX0_reckonStart_112 ⟨Nat.le_of_ble_eq_true rfl, Nat.le_of_ble_eq_true rfl⟩) hS hA hP (fun r_22 H locs hw_22 hP hS => ?_)
              try dsimp only at hw_22
              refine lv_aload_n hx hb dX0_reckonStart_115 rfl (lv_at hl 5 rfl) ?_
              refine va_get (D := D) (ci := 0) (v := .ref w4) (C := RX0) (T := TX0) (N := 5) hx hb hts inX0 hown hK hP 5 rfl rfl 4 (by decide) (hts _ tw_272) (fun _ h9 => h9) rfl dX0_reckonStart_116 ?_
              refine lv_iload hx hb dX0_reckonStart_119 (lv_at hl 1 rfl) ?_
              refine lv_iload hx hb dX0_reckonStart_121 (lv_at hl 2 rfl) ?_
              obtain ⟨ov_23, hov_23, eov_23⟩ := or8 g2_7 (by omega) pw_6 (by omega)
              refine lv_ior hx hb dX0_reckonStart_123 ?_
              refine lv_ti (y := (nI ov_23)) eov_23 ?_
              refine va_iald hx hb hK hP 7 1 rfl rfl (vp_in_nI (by omega) (by decide)) dX0_reckonStart_124 ?_
              refine lv_ti (y := (fo2_7 ov_23)) (by rw [nI_clamp (by omega)]) ?_
              refine lv_aload_n hx hb dX0_reckonStart_125 rfl (lv_at hl 5 rfl) ?_
              refine va_get (D := D) (ci := 0) (v := .ref w4) (C := RX0) (T := TX0) (N := 5) hx hb hts inX0 hown hK hP 5 rfl rfl 4 (by decide) (hts _ tw_272) (fun _ h9 => h9) rfl dX0_reckonStart_126 ?_
              refine lv_iload hx hb dX0_reckonStart_129 (lv_at hl 1 rfl) ?_
              refine va_iald hx hb hK hP 7 1 rfl rfl (vp_in_nI (by omega) (by decide)) dX0_reckonStart_131 ?_
              refine lv_ti (y := (fo2_7 g2_7)) (by rw [nI_clamp (by omega)]) ?_
              refine ro_i (D := D) (va_runSN (As := [.int r_22, .int (fo2_7 ov_23), .int (fo2_7 g2_7)]) (rest := [.int (nI g2_7), .ref w4]) ⟨hx, hb, hml, hown, hts⟩ ((x_mixed l D k st lo r_22 (fo2_7 ov_23) (fo2_7 g2_7)) H.size) ⟨va_cnB 3 hts (gLW tw_570) rfl rfl rfl (hZ.2.2.2.2.2.2.2.2.1.1 (RX0, 80, yX7_mixed, RX7) (List.mem_of_getElem? (i := 5) rfl)) (hts _ tw_79) (by decide +kernel) ⟨Nat.le_of_ble_eq_true rfl, Nat.le_of_ble_eq_true rfl⟩, hts _ tw_569, trivial⟩ (pS hS hAlo hlo hP hK (va_Dlo hD hAlo) hZ [] (by decide) rfl) rfl rfl hl.1 rfl (lv_room (Nat.le_of_ble_eq_true rfl)) dX0_reckonStart_132 ⟨Nat.le_of_ble_eq_true rfl, Nat.le_of_ble_eq_true rfl⟩) hS hA hP (fun r_24 H locs hw_24 hP hS => ?_)
              try dsimp only at hw_24
              refine va_iast hx hb hK hP hD hS 7 1 rfl rfl (vp_in_nI (by omega) (by decide)) dX0_reckonStart_135 (fun H locs hP hD hS => ?_)
              replace hP : va_P D classes [(h0, .inr (5, (fX5 h1 h2 h3 h4))), (aI k h1 10 (vv n see tm g)), (aI k h2 24 ff), (aI k h3 24 fp), (aI k h4 4 fl), (w0, .inr (0, (fX0 h0 w1 w2 w3 w4))), (aI k w1 768 on), (aI k w4 8 (upd fo2_7 (Int32.toNatClampNeg (nI g2_7)) r_24))] H := hP
              replace hD : va_D A [(h0, .inr (5, (fX5 h1 h2 h3 h4))), (aI k h1 10 (vv n see tm g)), (aI k h2 24 ff), (aI k h3 24 fp), (aI k h4 4 fl), (w0, .inr (0, (fX0 h0 w1 w2 w3 w4))), (aI k w1 768 on), (aI k w4 8 (upd fo2_7 (Int32.toNatClampNeg (nI g2_7)) r_24))] := hD
              generalize (upd fo2_7 (Int32.toNatClampNeg (nI g2_7)) r_24) = f_25 at hP hD
              refine lv_iinc (v := (nI (g2_7 + 1))) (lv' := [(5, .int (nI (g2_7 + 1))), (6, .int 1), (4, .int (nI pw_6)), (3, .int (nI q_5)), (2, .int (nI zs_2)), (0, .ref w0), (1, .int (nI rn))]) hx hb dX0_reckonStart_136 hl (k := 1) rfl (nI_add g2_7 1) (by decide) rfl (fun ls hl => ?_)
              refine lv_goto (tgt := 64) hx hb dX0_reckonStart_139 (by decide) ?_
              exact ih_7 _ (g2_7 + 1, f_25) _ _ _ (by omega) ⟨rfl, (by omega), hP, hD, hS, (lv_sub hl [0, 2, 3, 4, 5, 6] rfl)⟩
  · have c_4 : ¬ (zs_2 ≤ g2_3) := fun h => c_4 ((nI_leI (a := zs_2) (b := g2_3) (by omega) (by omega)).mpr h)
    refine lv_iload_n hx hb dX0_reckonStart_16 rfl (lv_at hl 0 rfl) ?_
    refine lv_bipush (v := 8) hx hb dX0_reckonStart_17 (by decide) ?_
    refine lv_icmp_ge (tgt := 41) hx hb dX0_reckonStart_19 (by decide) (fun c_26 => ?_) (fun c_26 => ?_)
    · have c_26 := (nI_leI (a := 8) (b := g2_3) (by omega) (by omega)).mp c_26
      refine lv_aload_n hx hb dX0_reckonStart_41 rfl (lv_at hl 2 rfl) ?_
      refine va_get (D := D) (ci := 0) (v := .ref h0) (C := RX0) (T := TX0) (N := 5) hx hb hts inX0 hown hK hP 5 rfl rfl 0 (by decide) (hts _ tw_266) (fun _ h9 => h9) rfl dX0_reckonStart_42 ?_
      refine va_get (D := D) (ci := 5) (v := .ref h1) (C := RX5) (T := TX5) (N := 4) hx hb hts inX5 hown hK hP 0 rfl rfl 0 (by decide) (hts _ tw_147) (fun _ h9 => h9) rfl dX0_reckonStart_45 ?_
      refine lv_bipush (v := 6) hx hb dX0_reckonStart_48 (by decide) ?_
      refine va_iald hx hb hK hP 1 1 rfl rfl (by unfold vp_in; decide) dX0_reckonStart_50 ?_
      refine lv_ti (y := (nI see)) (by rfl) ?_
      refine lv_istore_n (lv' := [(3, .int (nI see)), (2, .int (nI zs_2)), (0, .ref w0), (1, .int (nI rn))]) hx hb dX0_reckonStart_51 rfl hl (by decide) rfl (fun ls hl => ?_)
      refine W_loop (σ := Nat × (Nat → Int32)) (fun (n_ : Nat) (x_ : Nat × (Nat → Int32)) (H : Heap) (locs : List Loc) (ls : Array Slot) => match x_ with | (q_27, fo2_27) => n_ = 2 * q_27 ∧ (q_27 ≤ 3) ∧ va_P D classes [(h0, .inr (5, (fX5 h1 h2 h3 h4))), (aI k h1 10 (vv n see tm g)), (aI k h2 24 ff), (aI k h3 24 fp), (aI k h4 4 fl), (w0, .inr (0, (fX0 h0 w1 w2 w3 w4))), (aI k w1 768 on), (aI k w4 8 fo2_27)] H ∧ va_D A [(h0, .inr (5, (fX5 h1 h2 h3 h4))), (aI k h1 10 (vv n see tm g)), (aI k h2 24 ff), (aI k h3 24 fp), (aI k h4 4 fl), (w0, .inr (0, (fX0 h0 w1 w2 w3 w4))), (aI k w1 768 on), (aI k w4 8 fo2_27)] ∧ va_S A s.heap H locs ∧ lv_has ls 7 [(3, .int (nI q_27 - 1)), (2, .int (nI zs_2)), (0, .ref w0), (1, .int (nI rn))]) (fun n_27 x_27 H locs ls hI ih_27 => ?_) _ (see + 1, fo2_3) ⟨rfl, (by omega), hP, hD, hS, (by rw [nI_pred]; exact lv_sub hl [0, 1, 2, 3] rfl)⟩
      obtain ⟨q_27, fo2_27⟩ := x_27
      obtain ⟨hm_27, hv_27, hP, hD, hS, hl⟩ := hI
      subst hm_27
      rcases q_27 with _ | q_27
      · rw [dn0] at hl
        refine lv_iload_n hx hb dX0_reckonStart_52 rfl (lv_at hl 0 rfl) ?_
        refine lv_if_lt (tgt := 148) hx hb dX0_reckonStart_53 (by decide) (fun _ => ?_) (fun h => absurd (by decide) h)
        refine lv_aload_n hx hb dX0_reckonStart_148 rfl (lv_at hl 2 rfl) ?_
        refine va_get (D := D) (ci := 0) (v := .ref w4) (C := RX0) (T := TX0) (N := 5) hx hb hts inX0 hown hK hP 5 rfl rfl 4 (by decide) (hts _ tw_272) (fun _ h9 => h9) rfl dX0_reckonStart_149 ?_
        refine lv_iconst (v := 0) hx hb dX0_reckonStart_152 (by decide) ?_
        refine va_iald hx hb hK hP 7 1 rfl rfl (by unfold vp_in; decide) dX0_reckonStart_153 ?_
        refine lv_ti (y := (fo2_27 0)) (by rfl) ?_
        have hP9 := hP.sub (ws' := [(h0, .inr (5, (fX5 h1 h2 h3 h4))), (aI k h1 10 (vv n see tm g)), (aI k h2 24 ff), (aI k h3 24 fp), (aI k h4 4 fl), (w0, .inr (0, (fX0 h0 w1 w2 w3 w4))), (aI k w1 768 on), (aI k w4 8 fo2_27)]) [0, 1, 2, 3, 4, 5, 6, 7] rfl
        have hD9 := hD.sub (ws' := [(h0, .inr (5, (fX5 h1 h2 h3 h4))), (aI k h1 10 (vv n see tm g)), (aI k h2 24 ff), (aI k h3 24 fp), (aI k h4 4 fl), (w0, .inr (0, (fX0 h0 w1 w2 w3 w4))), (aI k w1 768 on), (aI k w4 8 fo2_27)]) [0, 1, 2, 3, 4, 5, 6, 7] (by decide) rfl
        exact W.iret (v := (fo2_27 0)) hx hb hr (fun t ht hW => ⟨⟨(fo2_27 0), fo2_27, rfl, trivial, by rw [ht]; exact hP9, hD9⟩, hS.F ht⟩) hS.2.2 dX0_reckonStart_154
      · rw [nI_pred] at hl
        refine lv_iload_n hx hb dX0_reckonStart_52 rfl (lv_at hl 0 rfl) ?_
        refine lv_if_lt (tgt := 148) hx hb dX0_reckonStart_53 (by decide) (fun h => absurd h (nI_pos0 (by omega))) (fun _ => ?_)
        refine lv_iconst (v := 1) hx hb dX0_reckonStart_56 (by decide) ?_
        refine lv_iload_n hx hb dX0_reckonStart_57 rfl (lv_at hl 0 rfl) ?_
        obtain ⟨pw_28, epw_28⟩ : ∃ z : Nat, z = 2 ^ (q_27) := ⟨_, rfl⟩
        have hpw_28 : 1 ≤ pw_28 ∧ pw_28 ≤ 4 := by rw [epw_28]; exact pw4 (by omega)
        refine lv_ishl hx hb dX0_reckonStart_58 ?_
        refine lv_ti (y := (nI pw_28)) (by rw [epw_28]; exact shl1 q_27 (by omega)) ?_
        refine lv_istore (lv' := [(4, .int (nI pw_28)), (3, .int (nI q_27)), (2, .int (nI zs_2)), (0, .ref w0), (1, .int (nI rn))]) hx hb dX0_reckonStart_59 hl (by decide) rfl (fun ls hl => ?_)
        refine lv_iconst (v := 0) hx hb dX0_reckonStart_61 (by decide) ?_
        refine lv_istore (lv' := [(5, .int 0), (4, .int (nI pw_28)), (3, .int (nI q_27)), (2, .int (nI zs_2)), (0, .ref w0), (1, .int (nI rn))]) hx hb dX0_reckonStart_62 hl (by decide) rfl (fun ls hl => ?_)
        refine W_loop (σ := Nat × (Nat → Int32)) (fun (n_ : Nat) (x_ : Nat × (Nat → Int32)) (H : Heap) (locs : List Loc) (ls : Array Slot) => match x_ with | (g2_29, fo2_29) => n_ = 5 - g2_29 ∧ (g2_29 ≤ 4) ∧ va_P D classes [(h0, .inr (5, (fX5 h1 h2 h3 h4))), (aI k h1 10 (vv n see tm g)), (aI k h2 24 ff), (aI k h3 24 fp), (aI k h4 4 fl), (w0, .inr (0, (fX0 h0 w1 w2 w3 w4))), (aI k w1 768 on), (aI k w4 8 fo2_29)] H ∧ va_D A [(h0, .inr (5, (fX5 h1 h2 h3 h4))), (aI k h1 10 (vv n see tm g)), (aI k h2 24 ff), (aI k h3 24 fp), (aI k h4 4 fl), (w0, .inr (0, (fX0 h0 w1 w2 w3 w4))), (aI k w1 768 on), (aI k w4 8 fo2_29)] ∧ va_S A s.heap H locs ∧ lv_has ls 7 [(5, .int (nI g2_29)), (4, .int (nI pw_28)), (3, .int (nI q_27)), (2, .int (nI zs_2)), (0, .ref w0), (1, .int (nI rn))]) (fun n_29 x_29 H locs ls hI ih_29 => ?_) _ (0, fo2_27) ⟨rfl, (by omega), hP, hD, hS, (lv_sub hl [0, 1, 2, 3, 4, 5] rfl)⟩
        obtain ⟨g2_29, fo2_29⟩ := x_29
        obtain ⟨hm_29, hv_29, hP, hD, hS, hl⟩ := hI
        subst hm_29
        refine lv_iload hx hb dX0_reckonStart_64 (lv_at hl 1 rfl) ?_
        refine lv_iload_n hx hb dX0_reckonStart_66 rfl (lv_at hl 3 rfl) ?_
        refine lv_icmp_ge (tgt := 142) hx hb dX0_reckonStart_67 (by decide) (fun c_30 => ?_) (fun c_30 => ?_)
        · have c_30 := (nI_leI (a := zs_2) (b := pw_28) (by omega) (by omega)).mp c_30
          refine lv_iinc (v := (nI q_27 - 1)) (lv' := [(3, .int (nI q_27 - 1)), (5, .int (nI g2_29)), (4, .int (nI pw_28)), (2, .int (nI zs_2)), (0, .ref w0), (1, .int (nI rn))]) hx hb dX0_reckonStart_142 hl (k := 2) rfl (dn1 _) (by decide) rfl (fun ls hl => ?_)
          refine lv_goto (tgt := 52) hx hb dX0_reckonStart_145 (by decide) ?_
          exact ih_27 _ (q_27, fo2_29) _ _ _ (by omega) ⟨rfl, (by omega), hP, hD, hS, (lv_sub hl [0, 3, 4, 5] rfl)⟩
        · have c_30 : ¬ (zs_2 ≤ pw_28) := fun h => c_30 ((nI_leI (a := zs_2) (b := pw_28) (by omega) (by omega)).mpr h)
          refine lv_iload hx hb dX0_reckonStart_70 (lv_at hl 0 rfl) ?_
          refine lv_iload hx hb dX0_reckonStart_72 (lv_at hl 1 rfl) ?_
          refine lv_icmp_ge (tgt := 142) hx hb dX0_reckonStart_74 (by decide) (fun c_31 => ?_) (fun c_31 => ?_)
          · have c_31 := (nI_leI (a := pw_28) (b := g2_29) (by omega) (by omega)).mp c_31
            refine lv_iinc (v := (nI q_27 - 1)) (lv' := [(3, .int (nI q_27 - 1)), (5, .int (nI g2_29)), (4, .int (nI pw_28)), (2, .int (nI zs_2)), (0, .ref w0), (1, .int (nI rn))]) hx hb dX0_reckonStart_142 hl (k := 2) rfl (dn1 _) (by decide) rfl (fun ls hl => ?_)
            refine lv_goto (tgt := 52) hx hb dX0_reckonStart_145 (by decide) ?_
            exact ih_27 _ (q_27, fo2_29) _ _ _ (by omega) ⟨rfl, (by omega), hP, hD, hS, (lv_sub hl [0, 3, 4, 5] rfl)⟩
          · have c_31 : ¬ (pw_28 ≤ g2_29) := fun h => c_31 ((nI_leI (a := pw_28) (b := g2_29) (by omega) (by omega)).mpr h)
            refine lv_iload_n hx hb dX0_reckonStart_77 rfl (lv_at hl 2 rfl) ?_
            refine lv_if_le (tgt := 96) hx hb dX0_reckonStart_78 (by decide) (fun c_32 => ?_) (fun c_32 => ?_)
            · have c_32 := (nI_leI (a := q_27) (b := 0) (by omega) (by omega)).mp c_32
              refine lv_iconst (v := 0) hx hb dX0_reckonStart_96 (by decide) ?_
              refine lv_istore (lv' := [(6, .int 0), (5, .int (nI g2_29)), (4, .int (nI pw_28)), (3, .int (nI q_27)), (2, .int (nI zs_2)), (0, .ref w0), (1, .int (nI rn))]) hx hb dX0_reckonStart_97 hl (by decide) rfl (fun ls hl => ?_)
              refine lv_aload_n hx hb dX0_reckonStart_99 rfl (lv_at hl 5 rfl) ?_
              refine va_get (D := D) (ci := 0) (v := .ref w4) (C := RX0) (T := TX0) (N := 5) hx hb hts inX0 hown hK hP 5 rfl rfl 4 (by decide) (hts _ tw_272) (fun _ h9 => h9) rfl dX0_reckonStart_100 ?_
              refine lv_iload hx hb dX0_reckonStart_103 (lv_at hl 1 rfl) ?_
              refine lv_aload_n hx hb dX0_reckonStart_105 rfl (lv_at hl 5 rfl) ?_
              refine va_get (D := D) (ci := 0) (v := .ref h0) (C := RX0) (T := TX0) (N := 5) hx hb hts inX0 hown hK hP 5 rfl rfl 0 (by decide) (hts _ tw_266) (fun _ h9 => h9) rfl dX0_reckonStart_106 ?_
              refine lv_iload_n hx hb dX0_reckonStart_109 rfl (lv_at hl 3 rfl) ?_
              refine lv_iload hx hb dX0_reckonStart_110 (lv_at hl 0 rfl) ?_
              refine ro_i (D := D) (va_runV (As := [.int (nI q_27), .int 0]) (rest := [.int (nI g2_29), .ref w4]) ⟨hx, hb, hml, hown, hts⟩ ((x_chanceOf l D k st lo h0 h1 h2 h3 h4 n see tm g ff q_27 0 (by omega)) H.size) (cwV 2 hts (gV tw_564 tw_565 tw_566 tw_81 tw_567) rfl rfl rfl (by decide +kernel) ⟨Nat.le_of_ble_eq_true rfl, Nat.le_of_ble_eq_true rfl⟩) (pV hS hAlo hlo hP hK (va_Dlo hD hAlo) hZ [0, 1, 2] (by decide) rfl (ci := 5) (q := (RX5, TX5, 4)) (q0 := 0) rfl rfl) rfl rfl hl.1 rfl (lv_room (Nat.le_of_ble_eq_true rfl)) dX0_reckonStart_112 ⟨Nat.le_of_ble_eq_true rfl, Nat.le_of_ble_eq_true rfl⟩) hS hA hP (fun r_33 H locs hw_33 hP hS => ?_)
              try dsimp only at hw_33
              refine lv_aload_n hx hb dX0_reckonStart_115 rfl (lv_at hl 5 rfl) ?_
              refine va_get (D := D) (ci := 0) (v := .ref w4) (C := RX0) (T := TX0) (N := 5) hx hb hts inX0 hown hK hP 5 rfl rfl 4 (by decide) (hts _ tw_272) (fun _ h9 => h9) rfl dX0_reckonStart_116 ?_
              refine lv_iload hx hb dX0_reckonStart_119 (lv_at hl 1 rfl) ?_
              refine lv_iload hx hb dX0_reckonStart_121 (lv_at hl 2 rfl) ?_
              obtain ⟨ov_34, hov_34, eov_34⟩ := or8 g2_29 (by omega) pw_28 (by omega)
              refine lv_ior hx hb dX0_reckonStart_123 ?_
              refine lv_ti (y := (nI ov_34)) eov_34 ?_
              refine va_iald hx hb hK hP 7 1 rfl rfl (vp_in_nI (by omega) (by decide)) dX0_reckonStart_124 ?_
              refine lv_ti (y := (fo2_29 ov_34)) (by rw [nI_clamp (by omega)]) ?_
              refine lv_aload_n hx hb dX0_reckonStart_125 rfl (lv_at hl 5 rfl) ?_
              refine va_get (D := D) (ci := 0) (v := .ref w4) (C := RX0) (T := TX0) (N := 5) hx hb hts inX0 hown hK hP 5 rfl rfl 4 (by decide) (hts _ tw_272) (fun _ h9 => h9) rfl dX0_reckonStart_126 ?_
              refine lv_iload hx hb dX0_reckonStart_129 (lv_at hl 1 rfl) ?_
              refine va_iald hx hb hK hP 7 1 rfl rfl (vp_in_nI (by omega) (by decide)) dX0_reckonStart_131 ?_
              refine lv_ti (y := (fo2_29 g2_29)) (by rw [nI_clamp (by omega)]) ?_
              refine ro_i (D := D) (va_runSN (As := [.int r_33, .int (fo2_29 ov_34), .int (fo2_29 g2_29)]) (rest := [.int (nI g2_29), .ref w4]) ⟨hx, hb, hml, hown, hts⟩ ((x_mixed l D k st lo r_33 (fo2_29 ov_34) (fo2_29 g2_29)) H.size) ⟨va_cnB 3 hts (gLW tw_570) rfl rfl rfl (hZ.2.2.2.2.2.2.2.2.1.1 (RX0, 80, yX7_mixed, RX7) (List.mem_of_getElem? (i := 5) rfl)) (hts _ tw_79) (by decide +kernel) ⟨Nat.le_of_ble_eq_true rfl, Nat.le_of_ble_eq_true rfl⟩, hts _ tw_569, trivial⟩ (pS hS hAlo hlo hP hK (va_Dlo hD hAlo) hZ [] (by decide) rfl) rfl rfl hl.1 rfl (lv_room (Nat.le_of_ble_eq_true rfl)) dX0_reckonStart_132 ⟨Nat.le_of_ble_eq_true rfl, Nat.le_of_ble_eq_true rfl⟩) hS hA hP (fun r_35 H locs hw_35 hP hS => ?_)
              try dsimp only at hw_35
              refine va_iast hx hb hK hP hD hS 7 1 rfl rfl (vp_in_nI (by omega) (by decide)) dX0_reckonStart_135 (fun H locs hP hD hS => ?_)
              replace hP : va_P D classes [(h0, .inr (5, (fX5 h1 h2 h3 h4))), (aI k h1 10 (vv n see tm g)), (aI k h2 24 ff), (aI k h3 24 fp), (aI k h4 4 fl), (w0, .inr (0, (fX0 h0 w1 w2 w3 w4))), (aI k w1 768 on), (aI k w4 8 (upd fo2_29 (Int32.toNatClampNeg (nI g2_29)) r_35))] H := hP
              replace hD : va_D A [(h0, .inr (5, (fX5 h1 h2 h3 h4))), (aI k h1 10 (vv n see tm g)), (aI k h2 24 ff), (aI k h3 24 fp), (aI k h4 4 fl), (w0, .inr (0, (fX0 h0 w1 w2 w3 w4))), (aI k w1 768 on), (aI k w4 8 (upd fo2_29 (Int32.toNatClampNeg (nI g2_29)) r_35))] := hD
              generalize (upd fo2_29 (Int32.toNatClampNeg (nI g2_29)) r_35) = f_36 at hP hD
              refine lv_iinc (v := (nI (g2_29 + 1))) (lv' := [(5, .int (nI (g2_29 + 1))), (6, .int 0), (4, .int (nI pw_28)), (3, .int (nI q_27)), (2, .int (nI zs_2)), (0, .ref w0), (1, .int (nI rn))]) hx hb dX0_reckonStart_136 hl (k := 1) rfl (nI_add g2_29 1) (by decide) rfl (fun ls hl => ?_)
              refine lv_goto (tgt := 64) hx hb dX0_reckonStart_139 (by decide) ?_
              exact ih_29 _ (g2_29 + 1, f_36) _ _ _ (by omega) ⟨rfl, (by omega), hP, hD, hS, (lv_sub hl [0, 2, 3, 4, 5, 6] rfl)⟩
            · have c_32 : ¬ (q_27 ≤ 0) := fun h => c_32 ((nI_leI (a := q_27) (b := 0) (by omega) (by omega)).mpr h)
              refine lv_iload hx hb dX0_reckonStart_81 (lv_at hl 0 rfl) ?_
              refine lv_iload_n hx hb dX0_reckonStart_83 rfl (lv_at hl 2 rfl) ?_
              refine lv_iconst (v := 1) hx hb dX0_reckonStart_84 (by decide) ?_
              refine lv_isub hx hb dX0_reckonStart_85 ?_
              refine lv_ti (y := (nI (q_27 - 1))) (pk_sub (a := q_27) (b := 1) (by omega)) ?_
              refine lv_ishr hx hb dX0_reckonStart_86 ?_
              refine lv_topi (fun x_37 ex_37 => ?_)
              refine lv_iconst (v := 1) hx hb dX0_reckonStart_87 (by decide) ?_
              refine lv_iand hx hb dX0_reckonStart_88 ?_
              refine lv_topi (fun x_38 ex_38 => ?_)
              refine lv_if_eq (tgt := 96) hx hb dX0_reckonStart_89 (by decide) (fun c_39 => ?_) (fun c_39 => ?_)
              · refine lv_iconst (v := 0) hx hb dX0_reckonStart_96 (by decide) ?_
                refine lv_istore (lv' := [(6, .int 0), (5, .int (nI g2_29)), (4, .int (nI pw_28)), (3, .int (nI q_27)), (2, .int (nI zs_2)), (0, .ref w0), (1, .int (nI rn))]) hx hb dX0_reckonStart_97 hl (by decide) rfl (fun ls hl => ?_)
                refine lv_aload_n hx hb dX0_reckonStart_99 rfl (lv_at hl 5 rfl) ?_
                refine va_get (D := D) (ci := 0) (v := .ref w4) (C := RX0) (T := TX0) (N := 5) hx hb hts inX0 hown hK hP 5 rfl rfl 4 (by decide) (hts _ tw_272) (fun _ h9 => h9) rfl dX0_reckonStart_100 ?_
                refine lv_iload hx hb dX0_reckonStart_103 (lv_at hl 1 rfl) ?_
                refine lv_aload_n hx hb dX0_reckonStart_105 rfl (lv_at hl 5 rfl) ?_
                refine va_get (D := D) (ci := 0) (v := .ref h0) (C := RX0) (T := TX0) (N := 5) hx hb hts inX0 hown hK hP 5 rfl rfl 0 (by decide) (hts _ tw_266) (fun _ h9 => h9) rfl dX0_reckonStart_106 ?_
                refine lv_iload_n hx hb dX0_reckonStart_109 rfl (lv_at hl 3 rfl) ?_
                refine lv_iload hx hb dX0_reckonStart_110 (lv_at hl 0 rfl) ?_
                refine ro_i (D := D) (va_runV (As := [.int (nI q_27), .int 0]) (rest := [.int (nI g2_29), .ref w4]) ⟨hx, hb, hml, hown, hts⟩ ((x_chanceOf l D k st lo h0 h1 h2 h3 h4 n see tm g ff q_27 0 (by omega)) H.size) (cwV 2 hts (gV tw_564 tw_565 tw_566 tw_81 tw_567) rfl rfl rfl (by decide +kernel) ⟨Nat.le_of_ble_eq_true rfl, Nat.le_of_ble_eq_true rfl⟩) (pV hS hAlo hlo hP hK (va_Dlo hD hAlo) hZ [0, 1, 2] (by decide) rfl (ci := 5) (q := (RX5, TX5, 4)) (q0 := 0) rfl rfl) rfl rfl hl.1 rfl (lv_room (Nat.le_of_ble_eq_true rfl)) dX0_reckonStart_112 ⟨Nat.le_of_ble_eq_true rfl, Nat.le_of_ble_eq_true rfl⟩) hS hA hP (fun r_40 H locs hw_40 hP hS => ?_)
                try dsimp only at hw_40
                refine lv_aload_n hx hb dX0_reckonStart_115 rfl (lv_at hl 5 rfl) ?_
                refine va_get (D := D) (ci := 0) (v := .ref w4) (C := RX0) (T := TX0) (N := 5) hx hb hts inX0 hown hK hP 5 rfl rfl 4 (by decide) (hts _ tw_272) (fun _ h9 => h9) rfl dX0_reckonStart_116 ?_
                refine lv_iload hx hb dX0_reckonStart_119 (lv_at hl 1 rfl) ?_
                refine lv_iload hx hb dX0_reckonStart_121 (lv_at hl 2 rfl) ?_
                obtain ⟨ov_41, hov_41, eov_41⟩ := or8 g2_29 (by omega) pw_28 (by omega)
                refine lv_ior hx hb dX0_reckonStart_123 ?_
                refine lv_ti (y := (nI ov_41)) eov_41 ?_
                refine va_iald hx hb hK hP 7 1 rfl rfl (vp_in_nI (by omega) (by decide)) dX0_reckonStart_124 ?_
                refine lv_ti (y := (fo2_29 ov_41)) (by rw [nI_clamp (by omega)]) ?_
                refine lv_aload_n hx hb dX0_reckonStart_125 rfl (lv_at hl 5 rfl) ?_
                refine va_get (D := D) (ci := 0) (v := .ref w4) (C := RX0) (T := TX0) (N := 5) hx hb hts inX0 hown hK hP 5 rfl rfl 4 (by decide) (hts _ tw_272) (fun _ h9 => h9) rfl dX0_reckonStart_126 ?_
                refine lv_iload hx hb dX0_reckonStart_129 (lv_at hl 1 rfl) ?_
                refine va_iald hx hb hK hP 7 1 rfl rfl (vp_in_nI (by omega) (by decide)) dX0_reckonStart_131 ?_
                refine lv_ti (y := (fo2_29 g2_29)) (by rw [nI_clamp (by omega)]) ?_
                refine ro_i (D := D) (va_runSN (As := [.int r_40, .int (fo2_29 ov_41), .int (fo2_29 g2_29)]) (rest := [.int (nI g2_29), .ref w4]) ⟨hx, hb, hml, hown, hts⟩ ((x_mixed l D k st lo r_40 (fo2_29 ov_41) (fo2_29 g2_29)) H.size) ⟨va_cnB 3 hts (gLW tw_570) rfl rfl rfl (hZ.2.2.2.2.2.2.2.2.1.1 (RX0, 80, yX7_mixed, RX7) (List.mem_of_getElem? (i := 5) rfl)) (hts _ tw_79) (by decide +kernel) ⟨Nat.le_of_ble_eq_true rfl, Nat.le_of_ble_eq_true rfl⟩, hts _ tw_569, trivial⟩ (pS hS hAlo hlo hP hK (va_Dlo hD hAlo) hZ [] (by decide) rfl) rfl rfl hl.1 rfl (lv_room (Nat.le_of_ble_eq_true rfl)) dX0_reckonStart_132 ⟨Nat.le_of_ble_eq_true rfl, Nat.le_of_ble_eq_true rfl⟩) hS hA hP (fun r_42 H locs hw_42 hP hS => ?_)
                try dsimp only at hw_42
                refine va_iast hx hb hK hP hD hS 7 1 rfl rfl (vp_in_nI (by omega) (by decide)) dX0_reckonStart_135 (fun H locs hP hD hS => ?_)
                replace hP : va_P D classes [(h0, .inr (5, (fX5 h1 h2 h3 h4))), (aI k h1 10 (vv n see tm g)), (aI k h2 24 ff), (aI k h3 24 fp), (aI k h4 4 fl), (w0, .inr (0, (fX0 h0 w1 w2 w3 w4))), (aI k w1 768 on), (aI k w4 8 (upd fo2_29 (Int32.toNatClampNeg (nI g2_29)) r_42))] H := hP
                replace hD : va_D A [(h0, .inr (5, (fX5 h1 h2 h3 h4))), (aI k h1 10 (vv n see tm g)), (aI k h2 24 ff), (aI k h3 24 fp), (aI k h4 4 fl), (w0, .inr (0, (fX0 h0 w1 w2 w3 w4))), (aI k w1 768 on), (aI k w4 8 (upd fo2_29 (Int32.toNatClampNeg (nI g2_29)) r_42))] := hD
                generalize (upd fo2_29 (Int32.toNatClampNeg (nI g2_29)) r_42) = f_43 at hP hD
                refine lv_iinc (v := (nI (g2_29 + 1))) (lv' := [(5, .int (nI (g2_29 + 1))), (6, .int 0), (4, .int (nI pw_28)), (3, .int (nI q_27)), (2, .int (nI zs_2)), (0, .ref w0), (1, .int (nI rn))]) hx hb dX0_reckonStart_136 hl (k := 1) rfl (nI_add g2_29 1) (by decide) rfl (fun ls hl => ?_)
                refine lv_goto (tgt := 64) hx hb dX0_reckonStart_139 (by decide) ?_
                exact ih_29 _ (g2_29 + 1, f_43) _ _ _ (by omega) ⟨rfl, (by omega), hP, hD, hS, (lv_sub hl [0, 2, 3, 4, 5, 6] rfl)⟩
              · refine lv_iconst (v := 1) hx hb dX0_reckonStart_92 (by decide) ?_
                refine lv_goto (tgt := 97) hx hb dX0_reckonStart_93 (by decide) ?_
                refine lv_istore (lv' := [(6, .int 1), (5, .int (nI g2_29)), (4, .int (nI pw_28)), (3, .int (nI q_27)), (2, .int (nI zs_2)), (0, .ref w0), (1, .int (nI rn))]) hx hb dX0_reckonStart_97 hl (by decide) rfl (fun ls hl => ?_)
                refine lv_aload_n hx hb dX0_reckonStart_99 rfl (lv_at hl 5 rfl) ?_
                refine va_get (D := D) (ci := 0) (v := .ref w4) (C := RX0) (T := TX0) (N := 5) hx hb hts inX0 hown hK hP 5 rfl rfl 4 (by decide) (hts _ tw_272) (fun _ h9 => h9) rfl dX0_reckonStart_100 ?_
                refine lv_iload hx hb dX0_reckonStart_103 (lv_at hl 1 rfl) ?_
                refine lv_aload_n hx hb dX0_reckonStart_105 rfl (lv_at hl 5 rfl) ?_
                refine va_get (D := D) (ci := 0) (v := .ref h0) (C := RX0) (T := TX0) (N := 5) hx hb hts inX0 hown hK hP 5 rfl rfl 0 (by decide) (hts _ tw_266) (fun _ h9 => h9) rfl dX0_reckonStart_106 ?_
                refine lv_iload_n hx hb dX0_reckonStart_109 rfl (lv_at hl 3 rfl) ?_
                refine lv_iload hx hb dX0_reckonStart_110 (lv_at hl 0 rfl) ?_
                refine ro_i (D := D) (va_runV (As := [.int (nI q_27), .int 1]) (rest := [.int (nI g2_29), .ref w4]) ⟨hx, hb, hml, hown, hts⟩ ((x_chanceOf l D k st lo h0 h1 h2 h3 h4 n see tm g ff q_27 1 (by omega)) H.size) (cwV 2 hts (gV tw_564 tw_565 tw_566 tw_81 tw_567) rfl rfl rfl (by decide +kernel) ⟨Nat.le_of_ble_eq_true rfl, Nat.le_of_ble_eq_true rfl⟩) (pV hS hAlo hlo hP hK (va_Dlo hD hAlo) hZ [0, 1, 2] (by decide) rfl (ci := 5) (q := (RX5, TX5, 4)) (q0 := 0) rfl rfl) rfl rfl hl.1 rfl (lv_room (Nat.le_of_ble_eq_true rfl)) dX0_reckonStart_112 ⟨Nat.le_of_ble_eq_true rfl, Nat.le_of_ble_eq_true rfl⟩) hS hA hP (fun r_44 H locs hw_44 hP hS => ?_)
                try dsimp only at hw_44
                refine lv_aload_n hx hb dX0_reckonStart_115 rfl (lv_at hl 5 rfl) ?_
                refine va_get (D := D) (ci := 0) (v := .ref w4) (C := RX0) (T := TX0) (N := 5) hx hb hts inX0 hown hK hP 5 rfl rfl 4 (by decide) (hts _ tw_272) (fun _ h9 => h9) rfl dX0_reckonStart_116 ?_
                refine lv_iload hx hb dX0_reckonStart_119 (lv_at hl 1 rfl) ?_
                refine lv_iload hx hb dX0_reckonStart_121 (lv_at hl 2 rfl) ?_
                obtain ⟨ov_45, hov_45, eov_45⟩ := or8 g2_29 (by omega) pw_28 (by omega)
                refine lv_ior hx hb dX0_reckonStart_123 ?_
                refine lv_ti (y := (nI ov_45)) eov_45 ?_
                refine va_iald hx hb hK hP 7 1 rfl rfl (vp_in_nI (by omega) (by decide)) dX0_reckonStart_124 ?_
                refine lv_ti (y := (fo2_29 ov_45)) (by rw [nI_clamp (by omega)]) ?_
                refine lv_aload_n hx hb dX0_reckonStart_125 rfl (lv_at hl 5 rfl) ?_
                refine va_get (D := D) (ci := 0) (v := .ref w4) (C := RX0) (T := TX0) (N := 5) hx hb hts inX0 hown hK hP 5 rfl rfl 4 (by decide) (hts _ tw_272) (fun _ h9 => h9) rfl dX0_reckonStart_126 ?_
                refine lv_iload hx hb dX0_reckonStart_129 (lv_at hl 1 rfl) ?_
                refine va_iald hx hb hK hP 7 1 rfl rfl (vp_in_nI (by omega) (by decide)) dX0_reckonStart_131 ?_
                refine lv_ti (y := (fo2_29 g2_29)) (by rw [nI_clamp (by omega)]) ?_
                refine ro_i (D := D) (va_runSN (As := [.int r_44, .int (fo2_29 ov_45), .int (fo2_29 g2_29)]) (rest := [.int (nI g2_29), .ref w4]) ⟨hx, hb, hml, hown, hts⟩ ((x_mixed l D k st lo r_44 (fo2_29 ov_45) (fo2_29 g2_29)) H.size) ⟨va_cnB 3 hts (gLW tw_570) rfl rfl rfl (hZ.2.2.2.2.2.2.2.2.1.1 (RX0, 80, yX7_mixed, RX7) (List.mem_of_getElem? (i := 5) rfl)) (hts _ tw_79) (by decide +kernel) ⟨Nat.le_of_ble_eq_true rfl, Nat.le_of_ble_eq_true rfl⟩, hts _ tw_569, trivial⟩ (pS hS hAlo hlo hP hK (va_Dlo hD hAlo) hZ [] (by decide) rfl) rfl rfl hl.1 rfl (lv_room (Nat.le_of_ble_eq_true rfl)) dX0_reckonStart_132 ⟨Nat.le_of_ble_eq_true rfl, Nat.le_of_ble_eq_true rfl⟩) hS hA hP (fun r_46 H locs hw_46 hP hS => ?_)
                try dsimp only at hw_46
                refine va_iast hx hb hK hP hD hS 7 1 rfl rfl (vp_in_nI (by omega) (by decide)) dX0_reckonStart_135 (fun H locs hP hD hS => ?_)
                replace hP : va_P D classes [(h0, .inr (5, (fX5 h1 h2 h3 h4))), (aI k h1 10 (vv n see tm g)), (aI k h2 24 ff), (aI k h3 24 fp), (aI k h4 4 fl), (w0, .inr (0, (fX0 h0 w1 w2 w3 w4))), (aI k w1 768 on), (aI k w4 8 (upd fo2_29 (Int32.toNatClampNeg (nI g2_29)) r_46))] H := hP
                replace hD : va_D A [(h0, .inr (5, (fX5 h1 h2 h3 h4))), (aI k h1 10 (vv n see tm g)), (aI k h2 24 ff), (aI k h3 24 fp), (aI k h4 4 fl), (w0, .inr (0, (fX0 h0 w1 w2 w3 w4))), (aI k w1 768 on), (aI k w4 8 (upd fo2_29 (Int32.toNatClampNeg (nI g2_29)) r_46))] := hD
                generalize (upd fo2_29 (Int32.toNatClampNeg (nI g2_29)) r_46) = f_47 at hP hD
                refine lv_iinc (v := (nI (g2_29 + 1))) (lv' := [(5, .int (nI (g2_29 + 1))), (6, .int 1), (4, .int (nI pw_28)), (3, .int (nI q_27)), (2, .int (nI zs_2)), (0, .ref w0), (1, .int (nI rn))]) hx hb dX0_reckonStart_136 hl (k := 1) rfl (nI_add g2_29 1) (by decide) rfl (fun ls hl => ?_)
                refine lv_goto (tgt := 64) hx hb dX0_reckonStart_139 (by decide) ?_
                exact ih_29 _ (g2_29 + 1, f_47) _ _ _ (by omega) ⟨rfl, (by omega), hP, hD, hS, (lv_sub hl [0, 2, 3, 4, 5, 6] rfl)⟩
    · have c_26 : ¬ (8 ≤ g2_3) := fun h => c_26 ((nI_leI (a := 8) (b := g2_3) (by omega) (by omega)).mpr h)
      refine lv_aload_n hx hb dX0_reckonStart_22 rfl (lv_at hl 2 rfl) ?_
      refine va_get (D := D) (ci := 0) (v := .ref w4) (C := RX0) (T := TX0) (N := 5) hx hb hts inX0 hown hK hP 5 rfl rfl 4 (by decide) (hts _ tw_272) (fun _ h9 => h9) rfl dX0_reckonStart_23 ?_
      refine lv_iload_n hx hb dX0_reckonStart_26 rfl (lv_at hl 0 rfl) ?_
      refine lv_aload_n hx hb dX0_reckonStart_27 rfl (lv_at hl 2 rfl) ?_
      refine lv_iload_n hx hb dX0_reckonStart_28 rfl (lv_at hl 3 rfl) ?_
      refine lv_iconst (v := 0) hx hb dX0_reckonStart_29 (by decide) ?_
      refine lv_iload_n hx hb dX0_reckonStart_30 rfl (lv_at hl 0 rfl) ?_
      refine ro_i (D := D) (va_runV (As := [.int (nI rn), .int 0, .int (nI g2_3)]) (rest := [.int (nI g2_3), .ref w4]) ⟨hx, hb, hml, hown, hts⟩ ((x_worthOf l D k st lo h0 h1 h2 h3 h4 n see tm g fp fl w0 w1 w2 w3 w4 on rn 0 g2_3 (by omega) (by omega) (by omega)) H.size) (cwV 3 hts (gV tw_545 tw_546 tw_547 tw_85 tw_548) rfl rfl rfl (by decide +kernel) ⟨Nat.le_of_ble_eq_true rfl, Nat.le_of_ble_eq_true rfl⟩) (pV hS hAlo hlo hP hK (va_Dlo hD hAlo) hZ [0, 1, 3, 4, 5, 6] (by decide) rfl (ci := 0) (q := (RX0, TX0, 5)) (q0 := 4) rfl rfl) rfl rfl hl.1 rfl (lv_room (Nat.le_of_ble_eq_true rfl)) dX0_reckonStart_31 ⟨Nat.le_of_ble_eq_true rfl, Nat.le_of_ble_eq_true rfl⟩) hS hA hP (fun r_48 H locs hw_48 hP hS => ?_)
      try dsimp only at hw_48
      refine va_iast hx hb hK hP hD hS 7 1 rfl rfl (vp_in_nI (by omega) (by decide)) dX0_reckonStart_34 (fun H locs hP hD hS => ?_)
      replace hP : va_P D classes [(h0, .inr (5, (fX5 h1 h2 h3 h4))), (aI k h1 10 (vv n see tm g)), (aI k h2 24 ff), (aI k h3 24 fp), (aI k h4 4 fl), (w0, .inr (0, (fX0 h0 w1 w2 w3 w4))), (aI k w1 768 on), (aI k w4 8 (upd fo2_3 (Int32.toNatClampNeg (nI g2_3)) r_48))] H := hP
      replace hD : va_D A [(h0, .inr (5, (fX5 h1 h2 h3 h4))), (aI k h1 10 (vv n see tm g)), (aI k h2 24 ff), (aI k h3 24 fp), (aI k h4 4 fl), (w0, .inr (0, (fX0 h0 w1 w2 w3 w4))), (aI k w1 768 on), (aI k w4 8 (upd fo2_3 (Int32.toNatClampNeg (nI g2_3)) r_48))] := hD
      generalize (upd fo2_3 (Int32.toNatClampNeg (nI g2_3)) r_48) = f_49 at hP hD
      refine lv_iinc (v := (nI (g2_3 + 1))) (lv' := [(3, .int (nI (g2_3 + 1))), (2, .int (nI zs_2)), (0, .ref w0), (1, .int (nI rn))]) hx hb dX0_reckonStart_35 hl (k := 0) rfl (nI_add g2_3 1) (by decide) rfl (fun ls hl => ?_)
      refine lv_goto (tgt := 11) hx hb dX0_reckonStart_38 (by decide) ?_
      exact ih_3 _ (g2_3 + 1, f_49) _ _ _ (by omega) ⟨rfl, (by omega), hP, hD, hS, (lv_sub hl [0, 1, 2, 3] rfl)⟩

theorem dX0_reckon_0 : decode cX0_reckon 0 = .ok (.aload_n 0, 1) := by decide +kernel
theorem dX0_reckon_1 : decode cX0_reckon 1 = .ok (.getfield 24, 3) := by decide +kernel
theorem dX0_reckon_4 : decode cX0_reckon 4 = .ok (.getfield 28, 3) := by decide +kernel
theorem dX0_reckon_7 : decode cX0_reckon 7 = .ok (.bipush 8, 2) := by decide +kernel
theorem dX0_reckon_9 : decode cX0_reckon 9 = .ok (.iaload, 1) := by decide +kernel
theorem dX0_reckon_10 : decode cX0_reckon 10 = .ok (.istore_n 1, 1) := by decide +kernel
theorem dX0_reckon_11 : decode cX0_reckon 11 = .ok (.iload_n 1, 1) := by decide +kernel
theorem dX0_reckon_12 : decode cX0_reckon 12 = .ok (.ifCond .lt 57, 3) := by decide +kernel
theorem dX0_reckon_15 : decode cX0_reckon 15 = .ok (.aload_n 0, 1) := by decide +kernel
theorem dX0_reckon_16 : decode cX0_reckon 16 = .ok (.getfield 18, 3) := by decide +kernel
theorem dX0_reckon_19 : decode cX0_reckon 19 = .ok (.iload_n 1, 1) := by decide +kernel
theorem dX0_reckon_20 : decode cX0_reckon 20 = .ok (.aload_n 0, 1) := by decide +kernel
theorem dX0_reckon_21 : decode cX0_reckon 21 = .ok (.iload_n 1, 1) := by decide +kernel
theorem dX0_reckon_22 : decode cX0_reckon 22 = .ok (.invokevirtual 33, 3) := by decide +kernel
theorem dX0_reckon_25 : decode cX0_reckon 25 = .ok (.iastore, 1) := by decide +kernel
theorem dX0_reckon_26 : decode cX0_reckon 26 = .ok (.aload_n 0, 1) := by decide +kernel
theorem dX0_reckon_27 : decode cX0_reckon 27 = .ok (.getfield 24, 3) := by decide +kernel
theorem dX0_reckon_30 : decode cX0_reckon 30 = .ok (.invokevirtual 37, 3) := by decide +kernel
theorem dX0_reckon_33 : decode cX0_reckon 33 = .ok (.iconst 1, 1) := by decide +kernel
theorem dX0_reckon_34 : decode cX0_reckon 34 = .ok (.isub, 1) := by decide +kernel
theorem dX0_reckon_35 : decode cX0_reckon 35 = .ok (.istore_n 2, 1) := by decide +kernel
theorem dX0_reckon_36 : decode cX0_reckon 36 = .ok (.iload_n 2, 1) := by decide +kernel
theorem dX0_reckon_37 : decode cX0_reckon 37 = .ok (.ifCond .lt 15, 3) := by decide +kernel
theorem dX0_reckon_40 : decode cX0_reckon 40 = .ok (.aload_n 0, 1) := by decide +kernel
theorem dX0_reckon_41 : decode cX0_reckon 41 = .ok (.iload_n 1, 1) := by decide +kernel
theorem dX0_reckon_42 : decode cX0_reckon 42 = .ok (.iload_n 2, 1) := by decide +kernel
theorem dX0_reckon_43 : decode cX0_reckon 43 = .ok (.invokevirtual 41, 3) := by decide +kernel
theorem dX0_reckon_46 : decode cX0_reckon 46 = .ok (.iinc 2 (-1), 3) := by decide +kernel
theorem dX0_reckon_49 : decode cX0_reckon 49 = .ok (.goto (-13), 3) := by decide +kernel
theorem dX0_reckon_52 : decode cX0_reckon 52 = .ok (.aload_n 0, 1) := by decide +kernel
theorem dX0_reckon_53 : decode cX0_reckon 53 = .ok (.getfield 15, 3) := by decide +kernel
theorem dX0_reckon_56 : decode cX0_reckon 56 = .ok (.iload_n 1, 1) := by decide +kernel
theorem dX0_reckon_57 : decode cX0_reckon 57 = .ok (.aload_n 0, 1) := by decide +kernel
theorem dX0_reckon_58 : decode cX0_reckon 58 = .ok (.iload_n 1, 1) := by decide +kernel
theorem dX0_reckon_59 : decode cX0_reckon 59 = .ok (.invokevirtual 45, 3) := by decide +kernel
theorem dX0_reckon_62 : decode cX0_reckon 62 = .ok (.iastore, 1) := by decide +kernel
theorem dX0_reckon_63 : decode cX0_reckon 63 = .ok (.iinc 1 (-1), 3) := by decide +kernel
theorem dX0_reckon_66 : decode cX0_reckon 66 = .ok (.goto (-55), 3) := by decide +kernel
theorem dX0_reckon_69 : decode cX0_reckon 69 = .ok (.return_, 1) := by decide +kernel
set_option maxHeartbeats 4000000 in
set_option maxRecDepth 100000 in
theorem x_reckon (l : Launch) (D : va_G) (k : Nat → ClassId) (st : Nat → Nat) (lo : Nat) (h0 : Nat) (h1 : Nat) (h2 : Nat) (h3 : Nat) (h4 : Nat) (n : Nat) (see : Nat) (tm : Nat) (g : Nat → Int32) (ff : Nat → Int32) (fp : Nat → Int32) (fl : Nat → Int32) (w0 : Nat) (w1 : Nat) (w2 : Nat) (w3 : Nat) (w4 : Nat) (on : Nat → Int32) (sr : Nat → Int32) (en : Nat → Int32) (fo : Nat → Int32) (hn : n ≤ 24) (hsee : see ≤ 2) (htm9 : tm ≤ 3) : CWv l D k st lo yX0_reckon cX0_reckon 3 none ({ frames := 5, cells := 0, slots := 0, locals := 136 }) 0 0 [.ref w0] [(h0, .inr (5, (fX5 h1 h2 h3 h4))), (aI k h1 10 (vv n see tm g)), (aI k h2 24 ff), (aI k h3 24 fp), (aI k h4 4 fl), (w0, .inr (0, (fX0 h0 w1 w2 w3 w4))), (aI k w1 768 on), (aI k w2 4 sr), (aI k w3 4 en), (aI k w4 8 fo)] (fun (u : (Nat → Int32) × (Nat → Int32) × (Nat → Int32) × (Nat → Int32)) => match u with | (on_, sr_, en_, fo_) => True) (fun (u : (Nat → Int32) × (Nat → Int32) × (Nat → Int32) × (Nat → Int32)) => match u with | (on_, sr_, en_, fo_) => [(h0, .inr (5, (fX5 h1 h2 h3 h4))), (aI k h1 10 (vv n see tm g)), (aI k h2 24 ff), (aI k h3 24 fp), (aI k h4 4 fl), (w0, .inr (0, (fX0 h0 w1 w2 w3 w4))), (aI k w1 768 on_), (aI k w2 4 sr_), (aI k w3 4 en_), (aI k w4 8 fo_)]) := by
  intro sz
  refine Met.ofW (cc := cX0_reckon) (maxL := 3) (ret := none) (by decide) rfl ?_
  intro p e s m args below meth c s₁ B hml hv
  obtain ⟨rfl, hsz, hlo, hP, hK, hDL, hZ⟩ := hv
  have hx := B.exec
  have hb := B.bytes
  have hr := B.returns
  have hts := WS_ts B.pre
  have hown : s.vm.findClass RX0 = some m.cls := findClass_of_methodNamed B.named
  have hlocks := B.notSynchronized
  subst hsz
  have hD := hDL.self (sz := s.heap.size)
  have hAlo := A_lo hDL hlo
  generalize hAe : va_A [(h0, .inr (5, (fX5 h1 h2 h3 h4))), (aI k h1 10 (vv n see tm g)), (aI k h2 24 ff), (aI k h3 24 fp), (aI k h4 4 fl), (w0, .inr (0, (fX0 h0 w1 w2 w3 w4))), (aI k w1 768 on), (aI k w2 4 sr), (aI k w3 4 en), (aI k w4 8 fo)] s.heap.size = A at hD hAlo ⊢
  have hA : ∀ q : Nat, s.heap.size ≤ q → A q := fun q h => by rw [← hAe]; exact Or.inr h
  have hS : va_S A s.heap s.heap [] := va_S.rf
  have hl := lv_entry ([.ref w0]) (n := 3) (Nat.le_of_ble_eq_true rfl)
  rw [lg_entry_eq]
  generalize (lg_sl ([.ref w0]) ++ List.replicate (3 - (lg_sl ([.ref w0])).length) Slot.unset).toArray = ls at hl ⊢
  have hl : lv_has ls 3 [(0, .ref w0)] := hl
  refine lv_aload_n hx hb dX0_reckon_0 rfl (lv_at hl 0 rfl) ?_
  refine va_get (D := D) (ci := 0) (v := .ref h0) (C := RX0) (T := TX0) (N := 5) hx hb hts inX0 hown hK hP 5 rfl rfl 0 (by decide) (hts _ tw_266) (fun _ h9 => h9) rfl dX0_reckon_1 ?_
  refine va_get (D := D) (ci := 5) (v := .ref h1) (C := RX5) (T := TX5) (N := 4) hx hb hts inX5 hown hK hP 0 rfl rfl 0 (by decide) (hts _ tw_147) (fun _ h9 => h9) rfl dX0_reckon_4 ?_
  refine lv_bipush (v := 8) hx hb dX0_reckon_7 (by decide) ?_
  refine va_iald hx hb hK hP 1 1 rfl rfl (by unfold vp_in; decide) dX0_reckon_9 ?_
  refine lv_ti (y := (nI tm)) (by rfl) ?_
  refine lv_istore_n (lv' := [(1, .int (nI tm)), (0, .ref w0)]) hx hb dX0_reckon_10 rfl hl (by decide) rfl (fun ls hl => ?_)
  refine W_loop (σ := Nat × (Nat → Int32) × (Nat → Int32) × (Nat → Int32) × (Nat → Int32)) (fun (n_ : Nat) (x_ : Nat × (Nat → Int32) × (Nat → Int32) × (Nat → Int32) × (Nat → Int32)) (H : Heap) (locs : List Loc) (ls : Array Slot) => match x_ with | (q_1, on2_1, sr2_1, en2_1, fo2_1) => n_ = 2 * q_1 ∧ (q_1 ≤ 4) ∧ va_P D classes [(h0, .inr (5, (fX5 h1 h2 h3 h4))), (aI k h1 10 (vv n see tm g)), (aI k h2 24 ff), (aI k h3 24 fp), (aI k h4 4 fl), (w0, .inr (0, (fX0 h0 w1 w2 w3 w4))), (aI k w1 768 on2_1), (aI k w2 4 sr2_1), (aI k w3 4 en2_1), (aI k w4 8 fo2_1)] H ∧ va_D A [(h0, .inr (5, (fX5 h1 h2 h3 h4))), (aI k h1 10 (vv n see tm g)), (aI k h2 24 ff), (aI k h3 24 fp), (aI k h4 4 fl), (w0, .inr (0, (fX0 h0 w1 w2 w3 w4))), (aI k w1 768 on2_1), (aI k w2 4 sr2_1), (aI k w3 4 en2_1), (aI k w4 8 fo2_1)] ∧ va_S A s.heap H locs ∧ lv_has ls 3 [(1, .int (nI q_1 - 1)), (0, .ref w0)]) (fun n_1 x_1 H locs ls hI ih_1 => ?_) _ (tm + 1, on, sr, en, fo) ⟨rfl, (by omega), hP, hD, hS, (by rw [nI_pred]; exact lv_sub hl [0, 1] rfl)⟩
  obtain ⟨q_1, on2_1, sr2_1, en2_1, fo2_1⟩ := x_1
  obtain ⟨hm_1, hv_1, hP, hD, hS, hl⟩ := hI
  subst hm_1
  rcases q_1 with _ | q_1
  · rw [dn0] at hl
    refine lv_iload_n hx hb dX0_reckon_11 rfl (lv_at hl 0 rfl) ?_
    refine lv_if_lt (tgt := 69) hx hb dX0_reckon_12 (by decide) (fun _ => ?_) (fun h => absurd (by decide) h)
    have hP9 := hP.sub (ws' := [(h0, .inr (5, (fX5 h1 h2 h3 h4))), (aI k h1 10 (vv n see tm g)), (aI k h2 24 ff), (aI k h3 24 fp), (aI k h4 4 fl), (w0, .inr (0, (fX0 h0 w1 w2 w3 w4))), (aI k w1 768 on2_1), (aI k w2 4 sr2_1), (aI k w3 4 en2_1), (aI k w4 8 fo2_1)]) [0, 1, 2, 3, 4, 5, 6, 7, 8, 9] rfl
    have hD9 := hD.sub (ws' := [(h0, .inr (5, (fX5 h1 h2 h3 h4))), (aI k h1 10 (vv n see tm g)), (aI k h2 24 ff), (aI k h3 24 fp), (aI k h4 4 fl), (w0, .inr (0, (fX0 h0 w1 w2 w3 w4))), (aI k w1 768 on2_1), (aI k w2 4 sr2_1), (aI k w3 4 en2_1), (aI k w4 8 fo2_1)]) [0, 1, 2, 3, 4, 5, 6, 7, 8, 9] (by decide) rfl
    exact W.vret hx hb hr (fun t ht hW => ⟨⟨(on2_1, sr2_1, en2_1, fo2_1), rfl, trivial, by rw [ht]; exact hP9, hD9⟩, hS.F ht⟩) hS.2.2 dX0_reckon_69
  · rw [nI_pred] at hl
    refine lv_iload_n hx hb dX0_reckon_11 rfl (lv_at hl 0 rfl) ?_
    refine lv_if_lt (tgt := 69) hx hb dX0_reckon_12 (by decide) (fun h => absurd h (nI_pos0 (by omega))) (fun _ => ?_)
    refine lv_aload_n hx hb dX0_reckon_15 rfl (lv_at hl 1 rfl) ?_
    refine va_get (D := D) (ci := 0) (v := .ref w3) (C := RX0) (T := TX0) (N := 5) hx hb hts inX0 hown hK hP 5 rfl rfl 3 (by decide) (hts _ tw_270) (fun _ h9 => h9) rfl dX0_reckon_16 ?_
    refine lv_iload_n hx hb dX0_reckon_19 rfl (lv_at hl 0 rfl) ?_
    refine lv_aload_n hx hb dX0_reckon_20 rfl (lv_at hl 1 rfl) ?_
    refine lv_iload_n hx hb dX0_reckon_21 rfl (lv_at hl 0 rfl) ?_
    refine ro_i (D := D) (va_runV (As := [.int (nI q_1)]) (rest := [.int (nI q_1), .ref w3]) ⟨hx, hb, hml, hown, hts⟩ ((x_reckonEnd l D k st lo h0 h1 h2 h3 h4 n see tm g fl w0 w1 w2 w3 w4 sr2_1 q_1 (by omega) (by omega)) H.size) (cwV 1 hts (gV tw_516 tw_518 tw_4 tw_85 tw_519) rfl rfl rfl (by decide +kernel) ⟨Nat.le_of_ble_eq_true rfl, Nat.le_of_ble_eq_true rfl⟩) (pV hS hAlo hlo hP hK (va_Dlo hD hAlo) hZ [0, 1, 4, 5, 7] (by decide) rfl (ci := 0) (q := (RX0, TX0, 5)) (q0 := 3) rfl rfl) rfl rfl hl.1 rfl (lv_room (Nat.le_of_ble_eq_true rfl)) dX0_reckon_22 ⟨Nat.le_of_ble_eq_true rfl, Nat.le_of_ble_eq_true rfl⟩) hS hA hP (fun r_2 H locs hw_2 hP hS => ?_)
    try dsimp only at hw_2
    refine va_iast hx hb hK hP hD hS 8 1 rfl rfl (vp_in_nI (by omega) (by decide)) dX0_reckon_25 (fun H locs hP hD hS => ?_)
    replace hP : va_P D classes [(h0, .inr (5, (fX5 h1 h2 h3 h4))), (aI k h1 10 (vv n see tm g)), (aI k h2 24 ff), (aI k h3 24 fp), (aI k h4 4 fl), (w0, .inr (0, (fX0 h0 w1 w2 w3 w4))), (aI k w1 768 on2_1), (aI k w2 4 sr2_1), (aI k w3 4 (upd en2_1 (Int32.toNatClampNeg (nI q_1)) r_2)), (aI k w4 8 fo2_1)] H := hP
    replace hD : va_D A [(h0, .inr (5, (fX5 h1 h2 h3 h4))), (aI k h1 10 (vv n see tm g)), (aI k h2 24 ff), (aI k h3 24 fp), (aI k h4 4 fl), (w0, .inr (0, (fX0 h0 w1 w2 w3 w4))), (aI k w1 768 on2_1), (aI k w2 4 sr2_1), (aI k w3 4 (upd en2_1 (Int32.toNatClampNeg (nI q_1)) r_2)), (aI k w4 8 fo2_1)] := hD
    generalize (upd en2_1 (Int32.toNatClampNeg (nI q_1)) r_2) = f_3 at hP hD
    refine lv_aload_n hx hb dX0_reckon_26 rfl (lv_at hl 1 rfl) ?_
    refine va_get (D := D) (ci := 0) (v := .ref h0) (C := RX0) (T := TX0) (N := 5) hx hb hts inX0 hown hK hP 5 rfl rfl 0 (by decide) (hts _ tw_266) (fun _ h9 => h9) rfl dX0_reckon_27 ?_
    refine ro_i (D := D) (va_runV (As := []) (rest := []) ⟨hx, hb, hml, hown, hts⟩ ((x_doors l D k st lo h0 h1 h2 h3 h4 n see tm g) H.size) (cwV 0 hts (gV tw_531 tw_478 tw_479 tw_81 tw_480) rfl rfl rfl (by decide +kernel) ⟨Nat.le_of_ble_eq_true rfl, Nat.le_of_ble_eq_true rfl⟩) (pV hS hAlo hlo hP hK (va_Dlo hD hAlo) hZ [0, 1] (by decide) rfl (ci := 5) (q := (RX5, TX5, 4)) (q0 := 0) rfl rfl) rfl rfl hl.1 rfl (lv_room (Nat.le_of_ble_eq_true rfl)) dX0_reckon_30 ⟨Nat.le_of_ble_eq_true rfl, Nat.le_of_ble_eq_true rfl⟩) hS hA hP (fun r_4 H locs hw_4 hP hS => ?_)
    try dsimp only at hw_4
    subst hw_4
    refine lv_iconst (v := 1) hx hb dX0_reckon_33 (by decide) ?_
    refine lv_isub hx hb dX0_reckon_34 ?_
    refine lv_ti (y := (nI n - 1)) rfl ?_
    refine lv_istore_n (lv' := [(2, .int (nI n - 1)), (1, .int (nI q_1)), (0, .ref w0)]) hx hb dX0_reckon_35 rfl hl (by decide) rfl (fun ls hl => ?_)
    refine W_loop (σ := Nat × (Nat → Int32)) (fun (n_ : Nat) (x_ : Nat × (Nat → Int32)) (H : Heap) (locs : List Loc) (ls : Array Slot) => match x_ with | (qi_5, on2_5) => n_ = 2 * qi_5 ∧ (qi_5 ≤ n) ∧ va_P D classes [(h0, .inr (5, (fX5 h1 h2 h3 h4))), (aI k h1 10 (vv n see tm g)), (aI k h2 24 ff), (aI k h3 24 fp), (aI k h4 4 fl), (w0, .inr (0, (fX0 h0 w1 w2 w3 w4))), (aI k w1 768 on2_5), (aI k w2 4 sr2_1), (aI k w3 4 f_3), (aI k w4 8 fo2_1)] H ∧ va_D A [(h0, .inr (5, (fX5 h1 h2 h3 h4))), (aI k h1 10 (vv n see tm g)), (aI k h2 24 ff), (aI k h3 24 fp), (aI k h4 4 fl), (w0, .inr (0, (fX0 h0 w1 w2 w3 w4))), (aI k w1 768 on2_5), (aI k w2 4 sr2_1), (aI k w3 4 f_3), (aI k w4 8 fo2_1)] ∧ va_S A s.heap H locs ∧ lv_has ls 3 [(2, .int (nI qi_5 - 1)), (1, .int (nI q_1)), (0, .ref w0)]) (fun n_5 x_5 H locs ls hI ih_5 => ?_) _ (n, on2_1) ⟨rfl, (by omega), hP, hD, hS, (lv_sub hl [0, 1, 2] rfl)⟩
    obtain ⟨qi_5, on2_5⟩ := x_5
    obtain ⟨hm_5, hv_5, hP, hD, hS, hl⟩ := hI
    subst hm_5
    rcases qi_5 with _ | qi_5
    · rw [dn0] at hl
      refine lv_iload_n hx hb dX0_reckon_36 rfl (lv_at hl 0 rfl) ?_
      refine lv_if_lt (tgt := 52) hx hb dX0_reckon_37 (by decide) (fun _ => ?_) (fun h => absurd (by decide) h)
      refine lv_aload_n hx hb dX0_reckon_52 rfl (lv_at hl 2 rfl) ?_
      refine va_get (D := D) (ci := 0) (v := .ref w2) (C := RX0) (T := TX0) (N := 5) hx hb hts inX0 hown hK hP 5 rfl rfl 2 (by decide) (hts _ tw_268) (fun _ h9 => h9) rfl dX0_reckon_53 ?_
      refine lv_iload_n hx hb dX0_reckon_56 rfl (lv_at hl 1 rfl) ?_
      refine lv_aload_n hx hb dX0_reckon_57 rfl (lv_at hl 2 rfl) ?_
      refine lv_iload_n hx hb dX0_reckon_58 rfl (lv_at hl 1 rfl) ?_
      refine rw_i (D := D) (wr := [(aI k w2 4 sr2_1), (aI k w3 4 f_3)]) (va_runV (As := [.int (nI q_1)]) (rest := [.int (nI q_1), .ref w2]) ⟨hx, hb, hml, hown, hts⟩ ((x_reckonStart l D k st lo h0 h1 h2 h3 h4 n see tm g ff fp fl w0 w1 w2 w3 w4 on2_5 fo2_1 q_1 (by omega) (by omega) (by omega)) H.size) (cwV 1 hts (gV tw_576 tw_578 tw_7 tw_85 tw_579) rfl rfl rfl (by decide +kernel) ⟨Nat.le_of_ble_eq_true rfl, Nat.le_of_ble_eq_true rfl⟩) (pV hS hAlo hlo hP hK (va_Dlo hD hAlo) hZ [0, 1, 2, 3, 4, 5, 6, 9] (by decide) rfl (ci := 0) (q := (RX0, TX0, 5)) (q0 := 5) rfl rfl) rfl rfl hl.1 rfl (lv_room (Nat.le_of_ble_eq_true rfl)) dX0_reckon_59 ⟨Nat.le_of_ble_eq_true rfl, Nat.le_of_ble_eq_true rfl⟩) hS hA hP hD [0, 1, 2, 3, 4, 5, 6, 9] [7, 8] rfl rfl (by decide) (by decide) (fun r_6 u H locs hw_6 hP hD hS => ?_)
      obtain ⟨fo__6, rfl⟩ : ∃ z, z = u := ⟨_, rfl⟩
      replace hP : va_P D classes [(aI k w2 4 sr2_1), (aI k w3 4 f_3), (h0, .inr (5, (fX5 h1 h2 h3 h4))), (aI k h1 10 (vv n see tm g)), (aI k h2 24 ff), (aI k h3 24 fp), (aI k h4 4 fl), (w0, .inr (0, (fX0 h0 w1 w2 w3 w4))), (aI k w1 768 on2_5), (aI k w4 8 fo__6)] H := hP
      replace hD : va_D A [(aI k w2 4 sr2_1), (aI k w3 4 f_3), (h0, .inr (5, (fX5 h1 h2 h3 h4))), (aI k h1 10 (vv n see tm g)), (aI k h2 24 ff), (aI k h3 24 fp), (aI k h4 4 fl), (w0, .inr (0, (fX0 h0 w1 w2 w3 w4))), (aI k w1 768 on2_5), (aI k w4 8 fo__6)] := hD
      try dsimp only at hw_6
      refine va_iast hx hb hK hP hD hS 0 1 rfl rfl (vp_in_nI (by omega) (by decide)) dX0_reckon_62 (fun H locs hP hD hS => ?_)
      replace hP : va_P D classes [(aI k w2 4 (upd sr2_1 (Int32.toNatClampNeg (nI q_1)) r_6)), (aI k w3 4 f_3), (h0, .inr (5, (fX5 h1 h2 h3 h4))), (aI k h1 10 (vv n see tm g)), (aI k h2 24 ff), (aI k h3 24 fp), (aI k h4 4 fl), (w0, .inr (0, (fX0 h0 w1 w2 w3 w4))), (aI k w1 768 on2_5), (aI k w4 8 fo__6)] H := hP
      replace hD : va_D A [(aI k w2 4 (upd sr2_1 (Int32.toNatClampNeg (nI q_1)) r_6)), (aI k w3 4 f_3), (h0, .inr (5, (fX5 h1 h2 h3 h4))), (aI k h1 10 (vv n see tm g)), (aI k h2 24 ff), (aI k h3 24 fp), (aI k h4 4 fl), (w0, .inr (0, (fX0 h0 w1 w2 w3 w4))), (aI k w1 768 on2_5), (aI k w4 8 fo__6)] := hD
      generalize (upd sr2_1 (Int32.toNatClampNeg (nI q_1)) r_6) = f_7 at hP hD
      refine lv_iinc (v := (nI q_1 - 1)) (lv' := [(1, .int (nI q_1 - 1)), (2, .int (-1)), (0, .ref w0)]) hx hb dX0_reckon_63 hl (k := 1) rfl (dn1 _) (by decide) rfl (fun ls hl => ?_)
      refine lv_goto (tgt := 11) hx hb dX0_reckon_66 (by decide) ?_
      exact ih_1 _ (q_1, on2_5, f_7, f_3, fo__6) _ _ _ (by omega) ⟨rfl, (by omega), (hP.sub [2, 3, 4, 5, 6, 7, 8, 0, 1, 9] rfl), (hD.sub [2, 3, 4, 5, 6, 7, 8, 0, 1, 9] (by decide) rfl), hS, (lv_sub hl [0, 2] rfl)⟩
    · rw [nI_pred] at hl
      refine lv_iload_n hx hb dX0_reckon_36 rfl (lv_at hl 0 rfl) ?_
      refine lv_if_lt (tgt := 52) hx hb dX0_reckon_37 (by decide) (fun h => absurd h (nI_pos0 (by omega))) (fun _ => ?_)
      refine lv_aload_n hx hb dX0_reckon_40 rfl (lv_at hl 2 rfl) ?_
      refine lv_iload_n hx hb dX0_reckon_41 rfl (lv_at hl 1 rfl) ?_
      refine lv_iload_n hx hb dX0_reckon_42 rfl (lv_at hl 0 rfl) ?_
      refine rw_v (D := D) (wr := [(aI k w2 4 sr2_1), (aI k w4 8 fo2_1)]) (va_runV (As := [.int (nI q_1), .int (nI qi_5)]) (rest := []) ⟨hx, hb, hml, hown, hts⟩ ((x_reckonDoor l D k st lo h0 h1 h2 h3 h4 n see tm g ff fp fl w0 w1 w2 w3 w4 on2_5 f_3 q_1 qi_5 (by omega) (by omega) (by omega) (by omega)) H.size) (cwV 2 hts (gV tw_532 tw_534 tw_5 tw_85 tw_535) rfl rfl rfl (by decide +kernel) ⟨Nat.le_of_ble_eq_true rfl, Nat.le_of_ble_eq_true rfl⟩) (pV hS hAlo hlo hP hK (va_Dlo hD hAlo) hZ [0, 1, 2, 3, 4, 5, 6, 8] (by decide) rfl (ci := 0) (q := (RX0, TX0, 5)) (q0 := 5) rfl rfl) rfl rfl hl.1 rfl (lv_room (Nat.le_of_ble_eq_true rfl)) dX0_reckon_43 ⟨Nat.le_of_ble_eq_true rfl, Nat.le_of_ble_eq_true rfl⟩) hS hA hP hD [0, 1, 2, 3, 4, 5, 6, 8] [7, 9] rfl rfl (by decide) (by decide) (fun u H locs hw_8 hP hD hS => ?_)
      obtain ⟨on__8, rfl⟩ : ∃ z, z = u := ⟨_, rfl⟩
      replace hP : va_P D classes [(aI k w2 4 sr2_1), (aI k w4 8 fo2_1), (h0, .inr (5, (fX5 h1 h2 h3 h4))), (aI k h1 10 (vv n see tm g)), (aI k h2 24 ff), (aI k h3 24 fp), (aI k h4 4 fl), (w0, .inr (0, (fX0 h0 w1 w2 w3 w4))), (aI k w1 768 on__8), (aI k w3 4 f_3)] H := hP
      replace hD : va_D A [(aI k w2 4 sr2_1), (aI k w4 8 fo2_1), (h0, .inr (5, (fX5 h1 h2 h3 h4))), (aI k h1 10 (vv n see tm g)), (aI k h2 24 ff), (aI k h3 24 fp), (aI k h4 4 fl), (w0, .inr (0, (fX0 h0 w1 w2 w3 w4))), (aI k w1 768 on__8), (aI k w3 4 f_3)] := hD
      try dsimp only at hw_8
      refine lv_iinc (v := (nI qi_5 - 1)) (lv' := [(2, .int (nI qi_5 - 1)), (1, .int (nI q_1)), (0, .ref w0)]) hx hb dX0_reckon_46 hl (k := 0) rfl (dn1 _) (by decide) rfl (fun ls hl => ?_)
      refine lv_goto (tgt := 36) hx hb dX0_reckon_49 (by decide) ?_
      exact ih_5 _ (qi_5, on__8) _ _ _ (by omega) ⟨rfl, (by omega), (hP.sub [2, 3, 4, 5, 6, 7, 8, 0, 9, 1] rfl), (hD.sub [2, 3, 4, 5, 6, 7, 8, 0, 9, 1] (by decide) rfl), hS, (lv_sub hl [0, 1, 2] rfl)⟩


theorem dX0_onwardOf_0 : decode cX0_onwardOf 0 = .ok (.aload_n 0, 1) := by decide +kernel
theorem dX0_onwardOf_1 : decode cX0_onwardOf 1 = .ok (.getfield 9, 3) := by decide +kernel
theorem dX0_onwardOf_4 : decode cX0_onwardOf 4 = .ok (.iload_n 1, 1) := by decide +kernel
theorem dX0_onwardOf_5 : decode cX0_onwardOf 5 = .ok (.iload_n 2, 1) := by decide +kernel
theorem dX0_onwardOf_6 : decode cX0_onwardOf 6 = .ok (.iload_n 3, 1) := by decide +kernel
theorem dX0_onwardOf_7 : decode cX0_onwardOf 7 = .ok (.invokestatic 67, 3) := by decide +kernel
theorem dX0_onwardOf_10 : decode cX0_onwardOf 10 = .ok (.iaload, 1) := by decide +kernel
theorem dX0_onwardOf_11 : decode cX0_onwardOf 11 = .ok (.ireturn, 1) := by decide +kernel
set_option maxHeartbeats 4000000 in
set_option maxRecDepth 100000 in
theorem x_onwardOf (l : Launch) (D : va_G) (k : Nat → ClassId) (st : Nat → Nat) (lo : Nat) (h0 : Nat) (w0 : Nat) (w1 : Nat) (w2 : Nat) (w3 : Nat) (w4 : Nat) (on : Nat → Int32) (rn : Nat) (i : Nat) (gg : Nat) (hrn : rn ≤ 3) (hi : i < 24) (hg : gg < 8) : CRi l D k st lo yX0_onwardOf cX0_onwardOf 4 (some .int) ({ frames := 1, cells := 0, slots := 0, locals := 22 }) [.ref w0, .int (nI rn), .int (nI i), .int (nI gg)] [(w0, .inr (0, [.ref h0, .ref w1, .ref w2, .ref w3, .ref w4])), (w1, .inl (k 1, 768, .inl on))] (fun _ => True) := by
  intro sz
  refine Met.ofW (cc := cX0_onwardOf) (maxL := 4) (ret := (some .int)) (by decide) rfl ?_
  intro p e s m args below meth c s₁ B hml hv
  obtain ⟨rfl, hsz, hlo, hP, hK, hDL, hZ⟩ := hv
  have hx := B.exec
  have hb := B.bytes
  have hr := B.returns
  have hts := WS_ts B.pre
  have hown : s.vm.findClass RX0 = some m.cls := findClass_of_methodNamed B.named
  have hlocks := B.notSynchronized
  subst hsz
  have hA : ∀ q : Nat, s.heap.size ≤ q → (fun q : Nat => s.heap.size ≤ q) q := fun _ h => h
  have hAlo : ∀ q : Nat, (fun q : Nat => s.heap.size ≤ q) q → lo ≤ q := fun q h => Nat.le_trans hlo h
  have hS : va_S (fun q : Nat => s.heap.size ≤ q) s.heap s.heap [] := va_S.rf
  have hl := lv_entry ([.ref w0, .int (nI rn), .int (nI i), .int (nI gg)]) (n := 4) (Nat.le_of_ble_eq_true rfl)
  rw [lg_entry_eq]
  generalize (lg_sl ([.ref w0, .int (nI rn), .int (nI i), .int (nI gg)]) ++ List.replicate (4 - (lg_sl ([.ref w0, .int (nI rn), .int (nI i), .int (nI gg)])).length) Slot.unset).toArray = ls at hl ⊢
  have hl : lv_has ls 4 [(0, .ref w0), (1, .int (nI rn)), (2, .int (nI i)), (3, .int (nI gg))] := hl
  refine lv_aload_n hx hb dX0_onwardOf_0 rfl (lv_at hl 0 rfl) ?_
  refine va_get (D := D) (ci := 0) (v := .ref w1) (C := RX0) (T := TX0) (N := 5) hx hb hts inX0 hown hK hP 0 rfl rfl 1 (by decide) (hts _ tw_267) (fun _ h9 => h9) rfl dX0_onwardOf_1 ?_
  refine lv_iload_n hx hb dX0_onwardOf_4 rfl (lv_at hl 1 rfl) ?_
  refine lv_iload_n hx hb dX0_onwardOf_5 rfl (lv_at hl 2 rfl) ?_
  refine lv_iload_n hx hb dX0_onwardOf_6 rfl (lv_at hl 3 rfl) ?_
  refine ro_i (D := D) (va_runS (As := [.int (nI rn), .int (nI i), .int (nI gg)]) (rest := [.ref w1]) ⟨hx, hb, hml, hown, hts⟩ ((x_slot l D k st lo rn i gg) s.heap.size) (va_cwS 3 hts (gS tw_553 tw_554 tw_85 tw_555) rfl rfl rfl (by decide +kernel) ⟨Nat.le_of_ble_eq_true rfl, Nat.le_of_ble_eq_true rfl⟩) (pS hS hAlo hlo hP hK hDL hZ [] (by decide) rfl) rfl rfl hl.1 rfl (lv_room (Nat.le_of_ble_eq_true rfl)) dX0_onwardOf_7 ⟨Nat.le_of_ble_eq_true rfl, Nat.le_of_ble_eq_true rfl⟩) hS hA hP (fun r_1 H locs hw_1 hP hS => ?_)
  try dsimp only at hw_1
  subst hw_1
  refine va_iald hx hb hK hP 1 1 rfl rfl (vp_in_nI (by omega) (by decide)) dX0_onwardOf_10 ?_
  refine lv_ti (y := (on ((rn * 24 + i) * 8 + gg))) (by rw [nI_clamp (by omega)]) ?_
  exact W.iret (v := (on ((rn * 24 + i) * 8 + gg))) hx hb hr (fun t ht hW => ⟨⟨(on ((rn * 24 + i) * 8 + gg)), (), rfl, trivial, trivial⟩, hS.F ht⟩) hS.2.2 dX0_onwardOf_11


theorem dX7_isRound_0 : decode cX7_isRound 0 = .ok (.iload_n 2, 1) := by decide +kernel
theorem dX7_isRound_1 : decode cX7_isRound 1 = .ok (.iconst 0, 1) := by decide +kernel
theorem dX7_isRound_2 : decode cX7_isRound 2 = .ok (.aload_n 0, 1) := by decide +kernel
theorem dX7_isRound_3 : decode cX7_isRound 3 = .ok (.getfield 18, 3) := by decide +kernel
theorem dX7_isRound_6 : decode cX7_isRound 6 = .ok (.iload_n 1, 1) := by decide +kernel
theorem dX7_isRound_7 : decode cX7_isRound 7 = .ok (.aaload, 1) := by decide +kernel
theorem dX7_isRound_8 : decode cX7_isRound 8 = .ok (.getfield 116, 3) := by decide +kernel
theorem dX7_isRound_11 : decode cX7_isRound 11 = .ok (.bipush 8, 2) := by decide +kernel
theorem dX7_isRound_13 : decode cX7_isRound 13 = .ok (.iaload, 1) := by decide +kernel
theorem dX7_isRound_14 : decode cX7_isRound 14 = .ok (.invokestatic 112, 3) := by decide +kernel
theorem dX7_isRound_17 : decode cX7_isRound 17 = .ok (.ireturn, 1) := by decide +kernel
set_option maxHeartbeats 4000000 in
set_option maxRecDepth 100000 in
theorem x_isRound_0 (l : Launch) (D : va_G) (k : Nat → ClassId) (st : Nat → Nat) (lo : Nat) (a : Nat → Nat) (rk : Nat) (lfa : Int32) (n0 : Nat) (see0 : Nat) (tm0 : Nat) (g0 : Nat → Int32) (p1 : Int32) (htm0 : tm0 ≤ 3) : CRi l D k st lo yX7_isRound cX7_isRound 3 (some .boolean) ({ frames := 1, cells := 0, slots := 0, locals := 22 }) [.ref (a 0), .int 0, .int p1] [((a 0), .inr (7, [.ref (a 1), .ref (a 3), .ref (a 19), .ref (a 35), .ref (a 40), .int (nI rk), .int lfa, .ref (a 53), .ref (a 56), .ref (a 63), .ref (a 64), .ref (a 68)])), ((a 3), .inl (k 3, 3, .inr (.inr (.inr (.inr (a3 (a 4) (a 9) (a 14))))))), ((a 4), .inr (5, [.ref (a 5), .ref (a 6), .ref (a 7), .ref (a 8)])), ((a 5), .inl (k 1, 10, .inl (vv n0 see0 tm0 g0)))] (fun r => (r = 1 ∧ ∃ q : Nat, q ≤ tm0 ∧ p1 = nI q) ∨ r = 0) := by
  intro sz
  refine Met.ofW (cc := cX7_isRound) (maxL := 3) (ret := (some .boolean)) (by decide) rfl ?_
  intro p e s m args below meth c s₁ B hml hv
  obtain ⟨rfl, hsz, hlo, hP, hK, hDL, hZ⟩ := hv
  have hx := B.exec
  have hb := B.bytes
  have hr := B.returns
  have hts := WS_ts B.pre
  have hown : s.vm.findClass RX7 = some m.cls := findClass_of_methodNamed B.named
  have hlocks := B.notSynchronized
  subst hsz
  have hA : ∀ q : Nat, s.heap.size ≤ q → (fun q : Nat => s.heap.size ≤ q) q := fun _ h => h
  have hAlo : ∀ q : Nat, (fun q : Nat => s.heap.size ≤ q) q → lo ≤ q := fun q h => Nat.le_trans hlo h
  have hS : va_S (fun q : Nat => s.heap.size ≤ q) s.heap s.heap [] := va_S.rf
  have hl := lv_entry ([.ref (a 0), .int 0, .int p1]) (n := 3) (Nat.le_of_ble_eq_true rfl)
  rw [lg_entry_eq]
  generalize (lg_sl ([.ref (a 0), .int 0, .int p1]) ++ List.replicate (3 - (lg_sl ([.ref (a 0), .int 0, .int p1])).length) Slot.unset).toArray = ls at hl ⊢
  have hl : lv_has ls 3 [(0, .ref (a 0)), (1, .int 0), (2, .int p1)] := hl
  refine lv_iload_n hx hb dX7_isRound_0 rfl (lv_at hl 2 rfl) ?_
  refine lv_iconst (v := 0) hx hb dX7_isRound_1 (by decide) ?_
  refine lv_aload_n hx hb dX7_isRound_2 rfl (lv_at hl 0 rfl) ?_
  refine va_get (D := D) (ci := 7) (v := .ref (a 3)) (C := RX7) (T := TX7) (N := 12) hx hb hts inX7 hown hK hP 0 rfl rfl 1 (by decide) (hts _ tw_306) (fun _ h9 => h9) rfl dX7_isRound_3 ?_
  refine lv_iload_n hx hb dX7_isRound_6 rfl (lv_at hl 1 rfl) ?_
  refine va_aldq hx hb hK hP 1 3 rfl rfl (by unfold vp_in; decide) dX7_isRound_7 ?_
  refine lv_tr (y := .ref (a 4)) rfl ?_
  refine va_get (D := D) (ci := 5) (v := .ref (a 5)) (C := RX5) (T := TX5) (N := 4) hx hb hts inX5 hown hK hP 2 rfl rfl 0 (by decide) (hts _ tw_149) (fun _ h9 => h9) rfl dX7_isRound_8 ?_
  refine lv_bipush (v := 8) hx hb dX7_isRound_11 (by decide) ?_
  refine va_iald hx hb hK hP 3 1 rfl rfl (by unfold vp_in; decide) dX7_isRound_13 ?_
  refine lv_ti (y := (nI tm0)) (by rfl) ?_
  refine ro_i (D := D) (va_runS (As := [.int p1, .int 0, .int (nI tm0)]) (rest := []) ⟨hx, hb, hml, hown, hts⟩ ((k_isIn l D k st lo p1 0 (nI tm0)) s.heap.size) (va_cwS 3 hts (gS tw_593 tw_594 tw_79 tw_595) rfl rfl rfl (by decide +kernel) ⟨Nat.le_of_ble_eq_true rfl, Nat.le_of_ble_eq_true rfl⟩) (pS hS hAlo hlo hP hK hDL hZ [] (by decide) rfl) rfl rfl hl.1 rfl (lv_room (Nat.le_of_ble_eq_true rfl)) dX7_isRound_14 ⟨Nat.le_of_ble_eq_true rfl, Nat.le_of_ble_eq_true rfl⟩) hS hA hP (fun r_1 H locs hw_1 hP hS => ?_)
  try dsimp only at hw_1
  rcases hw_1 with ⟨rfl, hw_1⟩ | ⟨rfl, hw_1⟩
  · exact W.zret (v := 1) (ty := .boolean) hx hb hr rfl (fun t ht hW => ⟨⟨1, (), rfl, .inl ⟨rfl, (by obtain ⟨j, hj, e⟩ := inB_of (by omega) hw_1; exact ⟨j, hj, e⟩)⟩, trivial⟩, hS.F ht⟩) hS.2.2 dX7_isRound_17
  · exact W.zret (v := 0) (ty := .boolean) hx hb hr rfl (fun t ht hW => ⟨⟨0, (), rfl, .inr rfl, trivial⟩, hS.F ht⟩) hS.2.2 dX7_isRound_17


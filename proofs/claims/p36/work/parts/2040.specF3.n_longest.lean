def fM_longest (q0 : Int64) (p1 : Int32) (p2 : Int32) : Int64 := (fM_longer (fM_longer q0 p1) p2)
set_option maxHeartbeats 4000000 in
set_option maxRecDepth 100000 in
theorem n_longest (l : Launch) (D : va_G) (k : Nat → ClassId) (st : Nat → Nat) (lo : Nat) (q0 : Int64) (p1 : Int32) (p2 : Int32)  : CRl l D k st lo yX8_longest cX8_longest 4 (some .long) ({ frames := 1, cells := 0, slots := 0, locals := 22 }) [.long q0, .int p1, .int p2] [] (fun r => r = fM_longest q0 p1 p2) := by
  intro sz
  refine Met.ofW (cc := cX8_longest) (maxL := 4) (ret := (some .long)) (by decide) rfl ?_
  intro p e s m args below meth c s₁ B hml hv
  obtain ⟨rfl, hsz, hlo, hP, hK, hDL, hZ⟩ := hv
  have hx := B.exec
  have hb := B.bytes
  have hr := B.returns
  have hts := WS_ts B.pre
  have hown : s.vm.findClass RX8 = some m.cls := findClass_of_methodNamed B.named
  have hlocks := B.notSynchronized
  subst hsz
  have hA : ∀ q : Nat, s.heap.size ≤ q → (fun q : Nat => s.heap.size ≤ q) q := fun _ h => h
  have hAlo : ∀ q : Nat, (fun q : Nat => s.heap.size ≤ q) q → lo ≤ q := fun q h => Nat.le_trans hlo h
  have hS : va_S (fun q : Nat => s.heap.size ≤ q) s.heap s.heap [] := va_S.rf
  have hl := lv_entry ([.long q0, .int p1, .int p2]) (n := 4) (Nat.le_of_ble_eq_true rfl)
  rw [lg_entry_eq]
  generalize (lg_sl ([.long q0, .int p1, .int p2]) ++ List.replicate (4 - (lg_sl ([.long q0, .int p1, .int p2])).length) Slot.unset).toArray = ls at hl ⊢
  have hl : lv_has ls 4 [(0, .long q0), (2, .int p1), (3, .int p2)] := hl
  refine lv_lload_n hx hb dX8_longest_0 rfl (lv_at hl 0 rfl) ?_
  refine lv_iload_n hx hb dX8_longest_1 rfl (lv_at hl 1 rfl) ?_
  refine ro_l (D := D) (va_runS (As := [.long q0, .int p1]) (rest := []) ⟨hx, hb, hml, hown, hts⟩ ((n_longer l D k st lo q0 p1) s.heap.size) (va_cwS 2 hts (gS tw_1148 tw_1149 tw_87 tw_1150) rfl rfl rfl (by decide +kernel) ⟨Nat.le_of_ble_eq_true rfl, Nat.le_of_ble_eq_true rfl⟩) (pS hS hAlo hlo hP hK hDL hZ [] (by decide) rfl) rfl rfl hl.1 rfl (lv_room (Nat.le_of_ble_eq_true rfl)) dX8_longest_2 ⟨Nat.le_of_ble_eq_true rfl, Nat.le_of_ble_eq_true rfl⟩) hS hA hP (fun r_1 H locs hw_1 hP hS => ?_)
  try dsimp only at hw_1
  refine lv_iload_n hx hb dX8_longest_5 rfl (lv_at hl 2 rfl) ?_
  refine ro_l (D := D) (va_runS (As := [.long r_1, .int p2]) (rest := []) ⟨hx, hb, hml, hown, hts⟩ ((n_longer l D k st lo r_1 p2) H.size) (va_cwS 2 hts (gS tw_1148 tw_1149 tw_87 tw_1150) rfl rfl rfl (by decide +kernel) ⟨Nat.le_of_ble_eq_true rfl, Nat.le_of_ble_eq_true rfl⟩) (pS hS hAlo hlo hP hK hDL hZ [] (by decide) rfl) rfl rfl hl.1 rfl (lv_room (Nat.le_of_ble_eq_true rfl)) dX8_longest_6 ⟨Nat.le_of_ble_eq_true rfl, Nat.le_of_ble_eq_true rfl⟩) hS hA hP (fun r_2 H locs hw_2 hP hS => ?_)
  try dsimp only at hw_2
  exact W.lret (v := r_2) hx hb hr (fun t ht hW => ⟨⟨r_2, (), rfl, (by show _ = fM_longest q0 p1 p2; unfold fM_longest; first | (rw [hw_2, hw_1]; done) | (rw [hw_2, hw_1]; rfl) | (simp only [hw_2, hw_1]; done)), trivial⟩, hS.F ht⟩) hS.2.2 dX8_longest_9


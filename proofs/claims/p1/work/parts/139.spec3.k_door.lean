theorem dX7_door_0 : decode cX7_door 0 = .ok (.aload_n 0, 1) := by decide +kernel
theorem dX7_door_1 : decode cX7_door 1 = .ok (.iload_n 1, 1) := by decide +kernel
theorem dX7_door_2 : decode cX7_door 2 = .ok (.iload_n 2, 1) := by decide +kernel
theorem dX7_door_3 : decode cX7_door 3 = .ok (.invokevirtual 120, 3) := by decide +kernel
theorem dX7_door_6 : decode cX7_door 6 = .ok (.ifCond .ne 7, 3) := by decide +kernel
theorem dX7_door_9 : decode cX7_door 9 = .ok (.sipush (-1001), 3) := by decide +kernel
theorem dX7_door_12 : decode cX7_door 12 = .ok (.ireturn, 1) := by decide +kernel
set_option maxHeartbeats 4000000 in
set_option maxRecDepth 100000 in
theorem k_door (l : Launch) (D : va_G) (k : Nat → ClassId) (st : Nat → Nat) (lo : Nat) (a : Nat → Nat) (p0 : Int32) (p1 : Int32) (p2 : Int32)  : CRi l D k st lo yX7_door cX7_door 4 (some .int) ({ frames := 3, cells := 0, slots := 0, locals := 63 }) [.ref (a 0), .int p0, .int p1, .int p2] [((a 0), .inr (7, [.ref (a 1), .ref (a 3), .ref (a 19), .ref (a 20), .ref (a 25), .int 0, .int (-1), .ref (a 32), .ref (a 35), .ref (a 42), .ref (a 43), .ref (a 44)])), ((a 3), .inl (k 3, 3, .inr (.inr (.inr (.inr (a3 (a 4) (a 5) (a 6))))))), ((a 4), .inr (5, [.ref (a 7), .ref (a 10), .ref (a 13), .ref (a 16)])), ((a 5), .inr (5, [.ref (a 8), .ref (a 11), .ref (a 14), .ref (a 17)])), ((a 6), .inr (5, [.ref (a 9), .ref (a 12), .ref (a 15), .ref (a 18)])), ((a 7), .inl (k 1, 10, .inl (fun _ => 0))), ((a 8), .inl (k 1, 10, .inl (fun _ => 0))), ((a 9), .inl (k 1, 10, .inl (fun _ => 0)))] (fun r => r = -1001) := by
  intro sz
  refine Met.ofW (cc := cX7_door) (maxL := 4) (ret := (some .int)) (by decide) rfl ?_
  intro p e s m args below meth c s₁ B hml hv
  obtain ⟨rfl, hsz, hlo, hP, hK, hDL, hZ⟩ := hv
  have hx := B.exec
  have hb := B.bytes
  have hr := B.returns
  have hts := WS_ts B.pre
  have hown : s.vm.findClass RX7 = some m.cls := findClass_of_methodNamed B.named
  have hlocks := B.notSynchronized
  subst hsz
  have hA : ∀ q : Nat, s.heap.size ≤ q → (fun q : Nat => s.heap.size ≤ q) q := fun _ h => h
  have hAlo : ∀ q : Nat, (fun q : Nat => s.heap.size ≤ q) q → lo ≤ q := fun q h => Nat.le_trans hlo h
  have hS : va_S (fun q : Nat => s.heap.size ≤ q) s.heap s.heap [] := va_S.rf
  have hl := lv_entry ([.ref (a 0), .int p0, .int p1, .int p2]) (n := 4) (Nat.le_of_ble_eq_true rfl)
  rw [lg_entry_eq]
  generalize (lg_sl ([.ref (a 0), .int p0, .int p1, .int p2]) ++ List.replicate (4 - (lg_sl ([.ref (a 0), .int p0, .int p1, .int p2])).length) Slot.unset).toArray = ls at hl ⊢
  have hl : lv_has ls 4 [(0, .ref (a 0)), (1, .int p0), (2, .int p1), (3, .int p2)] := hl
  refine lv_aload_n hx hb dX7_door_0 rfl (lv_at hl 0 rfl) ?_
  refine lv_iload_n hx hb dX7_door_1 rfl (lv_at hl 1 rfl) ?_
  refine lv_iload_n hx hb dX7_door_2 rfl (lv_at hl 2 rfl) ?_
  refine ro_i (D := D) (va_runV (As := [.int p0, .int p1]) (rest := []) ⟨hx, hb, hml, hown, hts⟩ ((k_isDoor l D k st lo a p0 p1) s.heap.size) (cwV 2 hts (gV tw_600 tw_602 tw_9 tw_79 tw_603) rfl rfl rfl (by decide +kernel) ⟨Nat.le_of_ble_eq_true rfl, Nat.le_of_ble_eq_true rfl⟩) (pV hS hAlo hlo hP hK hDL hZ [0, 1, 2, 3, 4, 5, 6, 7] (by decide) rfl (ci := 7) (q0 := 0) rfl rfl) rfl rfl hl.1 rfl (lv_room (Nat.le_of_ble_eq_true rfl)) dX7_door_3 ⟨Nat.le_of_ble_eq_true rfl, Nat.le_of_ble_eq_true rfl⟩) hS hA hP (fun r_1 H locs hw_1 hP hS => ?_)
  try dsimp only at hw_1
  subst hw_1
  refine lv_if_ne (tgt := 13) hx hb dX7_door_6 (by decide) (fun h => absurd (by decide) h) (fun _ => ?_)
  refine lv_sipush (v := (-1001)) hx hb dX7_door_9 (by decide) ?_
  exact W.iret (v := (-1001)) hx hb hr (fun t ht hW => ⟨⟨(-1001), (), rfl, rfl, trivial⟩, hS.F ht⟩) hS.2.2 dX7_door_12


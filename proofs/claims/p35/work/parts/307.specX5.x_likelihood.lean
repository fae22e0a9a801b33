theorem dX2_likelihood_0 : decode cX2_likelihood 0 = .ok (.aload_n 0, 1) := by decide +kernel
theorem dX2_likelihood_1 : decode cX2_likelihood 1 = .ok (.iload_n 1, 1) := by decide +kernel
theorem dX2_likelihood_2 : decode cX2_likelihood 2 = .ok (.iload_n 2, 1) := by decide +kernel
theorem dX2_likelihood_3 : decode cX2_likelihood 3 = .ok (.invokevirtual 74, 3) := by decide +kernel
theorem dX2_likelihood_6 : decode cX2_likelihood 6 = .ok (.istore 4, 2) := by decide +kernel
theorem dX2_likelihood_8 : decode cX2_likelihood 8 = .ok (.iload_n 3, 1) := by decide +kernel
theorem dX2_likelihood_9 : decode cX2_likelihood 9 = .ok (.ifCond .eq 8, 3) := by decide +kernel
theorem dX2_likelihood_12 : decode cX2_likelihood 12 = .ok (.iload 4, 2) := by decide +kernel
theorem dX2_likelihood_14 : decode cX2_likelihood 14 = .ok (.goto 8, 3) := by decide +kernel
theorem dX2_likelihood_17 : decode cX2_likelihood 17 = .ok (.bipush 100, 2) := by decide +kernel
theorem dX2_likelihood_19 : decode cX2_likelihood 19 = .ok (.iload 4, 2) := by decide +kernel
theorem dX2_likelihood_21 : decode cX2_likelihood 21 = .ok (.isub, 1) := by decide +kernel
theorem dX2_likelihood_22 : decode cX2_likelihood 22 = .ok (.ireturn, 1) := by decide +kernel
set_option maxHeartbeats 4000000 in
set_option maxRecDepth 100000 in
theorem x_likelihood (l : Launch) (D : va_G) (k : Nat → ClassId) (st : Nat → Nat) (lo : Nat) (h0 : Nat) (h1 : Nat) (h2 : Nat) (h3 : Nat) (h4 : Nat) (n : Nat) (see : Nat) (tm : Nat) (g : Nat → Int32) (ff : Nat → Int32) (i : Nat) (p1 : Int32) (p2 : Int32) (hi : i < 24) : CRi l D k st lo yX2_likelihood cX2_likelihood 5 (some .int) ({ frames := 2, cells := 0, slots := 0, locals := 83 }) [.ref h0, .int (nI i), .int p1, .int p2] [(h0, .inr (5, [.ref h1, .ref h2, .ref h3, .ref h4])), (h1, .inl (k 1, 10, .inl (vv n see tm g))), (h2, .inl (k 1, 24, .inl ff))] (fun _ => True) := by
  intro sz
  refine Met.ofW (cc := cX2_likelihood) (maxL := 5) (ret := (some .int)) (by decide) rfl ?_
  intro p e s m args below meth c s₁ B hml hv
  obtain ⟨rfl, hsz, hlo, hP, hK, hDL, hZ⟩ := hv
  have hx := B.exec
  have hb := B.bytes
  have hr := B.returns
  have hts := WS_ts B.pre
  have hown : s.vm.findClass RX2 = some m.cls := findClass_of_methodNamed B.named
  have hlocks := B.notSynchronized
  subst hsz
  have hA : ∀ q : Nat, s.heap.size ≤ q → (fun q : Nat => s.heap.size ≤ q) q := fun _ h => h
  have hAlo : ∀ q : Nat, (fun q : Nat => s.heap.size ≤ q) q → lo ≤ q := fun q h => Nat.le_trans hlo h
  have hS : va_S (fun q : Nat => s.heap.size ≤ q) s.heap s.heap [] := va_S.rf
  have hl := lv_entry ([.ref h0, .int (nI i), .int p1, .int p2]) (n := 5) (Nat.le_of_ble_eq_true rfl)
  rw [lg_entry_eq]
  generalize (lg_sl ([.ref h0, .int (nI i), .int p1, .int p2]) ++ List.replicate (5 - (lg_sl ([.ref h0, .int (nI i), .int p1, .int p2])).length) Slot.unset).toArray = ls at hl ⊢
  have hl : lv_has ls 5 [(0, .ref h0), (1, .int (nI i)), (2, .int p1), (3, .int p2)] := hl
  refine lv_aload_n hx hb dX2_likelihood_0 rfl (lv_at hl 0 rfl) ?_
  refine lv_iload_n hx hb dX2_likelihood_1 rfl (lv_at hl 1 rfl) ?_
  refine lv_iload_n hx hb dX2_likelihood_2 rfl (lv_at hl 2 rfl) ?_
  refine ro_i (D := D) (va_runV (As := [.int (nI i), .int p1]) (rest := []) ⟨hx, hb, hml, hown, hts⟩ ((x_chanceOf l D k st lo h0 h1 h2 h3 h4 n see tm g ff i p1 (by omega)) s.heap.size) (cwV 2 hts (gV tw_733 tw_565 tw_566 tw_81 tw_567) rfl rfl rfl (by decide +kernel) ⟨Nat.le_of_ble_eq_true rfl, Nat.le_of_ble_eq_true rfl⟩) (pV hS hAlo hlo hP hK hDL hZ [0, 1, 2] (by decide) rfl (ci := 5) (q0 := 0) rfl rfl) rfl rfl hl.1 rfl (lv_room (Nat.le_of_ble_eq_true rfl)) dX2_likelihood_3 ⟨Nat.le_of_ble_eq_true rfl, Nat.le_of_ble_eq_true rfl⟩) hS hA hP (fun r_1 H locs hw_1 hP hS => ?_)
  try dsimp only at hw_1
  refine lv_istore (lv' := [(4, .int r_1), (0, .ref h0), (1, .int (nI i)), (2, .int p1), (3, .int p2)]) hx hb dX2_likelihood_6 hl (by decide) rfl (fun ls hl => ?_)
  refine lv_iload_n hx hb dX2_likelihood_8 rfl (lv_at hl 4 rfl) ?_
  refine lv_if_eq (tgt := 17) hx hb dX2_likelihood_9 (by decide) (fun c_2 => ?_) (fun c_2 => ?_)
  · refine lv_bipush (v := 100) hx hb dX2_likelihood_17 (by decide) ?_
    refine lv_iload hx hb dX2_likelihood_19 (lv_at hl 0 rfl) ?_
    refine lv_isub hx hb dX2_likelihood_21 ?_
    refine lv_topi (fun x_3 ex_3 => ?_)
    exact W.iret (v := x_3) hx hb hr (fun t ht hW => ⟨⟨x_3, (), rfl, trivial, trivial⟩, hS.F ht⟩) hS.2.2 dX2_likelihood_22
  · refine lv_iload hx hb dX2_likelihood_12 (lv_at hl 0 rfl) ?_
    refine lv_goto (tgt := 22) hx hb dX2_likelihood_14 (by decide) ?_
    exact W.iret (v := r_1) hx hb hr (fun t ht hW => ⟨⟨r_1, (), rfl, trivial, trivial⟩, hS.F ht⟩) hS.2.2 dX2_likelihood_22


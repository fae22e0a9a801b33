def fX_taking (n : Nat) (g : Nat → Int32) (fp : Nat → Int32) (fl : Nat → Int32) (rn : Nat) (i : Nat) : Int32 := (fX_takingBy n fp fl (g 2) rn i)
set_option maxHeartbeats 4000000 in
set_option maxRecDepth 100000 in
theorem y_takingOf (l : Launch) (D : va_G) (k : Nat → ClassId) (st : Nat → Nat) (lo : Nat) (h0 : Nat) (h1 : Nat) (h2 : Nat) (h3 : Nat) (h4 : Nat) (n : Nat) (see : Nat) (tm : Nat) (g : Nat → Int32) (fp : Nat → Int32) (fl : Nat → Int32) (rn : Nat) (i : Nat) (hrn : rn ≤ 3) (hi : i < 24) : CRi l D k st lo yX5_takingOf cX5_takingOf 3 (some .int) ({ frames := 1, cells := 0, slots := 0, locals := 23 }) [.ref h0, .int (nI rn), .int (nI i)] [(h0, .inr (5, (fX5 h1 h2 h3 h4))), (aI k h1 10 (vv n see tm g)), (aI k h3 24 fp), (aI k h4 4 fl)] (fun r => r = fX_taking n g fp fl rn i) := by
  intro sz
  refine Met.ofW (cc := cX5_takingOf) (maxL := 3) (ret := (some .int)) (by decide) rfl ?_
  intro p e s m args below meth c s₁ B hml hv
  obtain ⟨rfl, hsz, hlo, hP, hK, hDL, hZ⟩ := hv
  have hx := B.exec
  have hb := B.bytes
  have hr := B.returns
  have hts := WS_ts B.pre
  have hown : s.vm.findClass RX5 = some m.cls := findClass_of_methodNamed B.named
  have hlocks := B.notSynchronized
  subst hsz
  have hA : ∀ q : Nat, s.heap.size ≤ q → (fun q : Nat => s.heap.size ≤ q) q := fun _ h => h
  have hAlo : ∀ q : Nat, (fun q : Nat => s.heap.size ≤ q) q → lo ≤ q := fun q h => Nat.le_trans hlo h
  have hS : va_S (fun q : Nat => s.heap.size ≤ q) s.heap s.heap [] := va_S.rf
  have hl := lv_entry ([.ref h0, .int (nI rn), .int (nI i)]) (n := 3) (Nat.le_of_ble_eq_true rfl)
  rw [lg_entry_eq]
  generalize (lg_sl ([.ref h0, .int (nI rn), .int (nI i)]) ++ List.replicate (3 - (lg_sl ([.ref h0, .int (nI rn), .int (nI i)])).length) Slot.unset).toArray = ls at hl ⊢
  have hl : lv_has ls 3 [(0, .ref h0), (1, .int (nI rn)), (2, .int (nI i))] := hl
  refine lv_aload_n hx hb dX5_takingOf_0 rfl (lv_at hl 0 rfl) ?_
  refine lv_aload_n hx hb dX5_takingOf_1 rfl (lv_at hl 0 rfl) ?_
  refine va_get (D := D) (ci := 5) (v := .ref h1) (C := RX5) (T := TX5) (N := 4) hx hb hts inX5 hown hK hP 0 rfl rfl 0 (by decide) (hts _ tw_146) (fun _ h9 => h9) rfl dX5_takingOf_2 ?_
  refine lv_iconst (v := 2) hx hb dX5_takingOf_5 (by decide) ?_
  refine va_iald hx hb hK hP 1 1 rfl rfl (by unfold vp_in; decide) dX5_takingOf_6 ?_
  refine lv_ti (y := (g 2)) (by rfl) ?_
  refine lv_iload_n hx hb dX5_takingOf_7 rfl (lv_at hl 1 rfl) ?_
  refine lv_iload_n hx hb dX5_takingOf_8 rfl (lv_at hl 2 rfl) ?_
  refine ro_i (D := D) (va_runV (As := [.int (g 2), .int (nI rn), .int (nI i)]) (rest := []) ⟨hx, hb, hml, hown, hts⟩ ((y_takingBy l D k st lo h0 h1 h2 h3 h4 n see tm g fp fl (g 2) rn i (by omega) (by omega)) s.heap.size) (cwV 3 hts (gV tw_560 tw_561 tw_562 tw_81 tw_563) rfl rfl rfl (by decide +kernel) ⟨Nat.le_of_ble_eq_true rfl, Nat.le_of_ble_eq_true rfl⟩) (pV hS hAlo hlo hP hK hDL hZ [0, 1, 2, 3] (by decide) rfl (ci := 5) (q := (RX5, TX5, 4)) (q0 := 0) rfl rfl) rfl rfl hl.1 rfl (lv_room (Nat.le_of_ble_eq_true rfl)) dX5_takingOf_9 ⟨Nat.le_of_ble_eq_true rfl, Nat.le_of_ble_eq_true rfl⟩) hS hA hP (fun r_1 H locs hw_1 hP hS => ?_)
  try dsimp only at hw_1
  exact W.iret (v := r_1) hx hb hr (fun t ht hW => ⟨⟨r_1, (), rfl, (by show _ = fX_taking n g fp fl rn i; unfold fX_taking; first | (rw [hw_1]; done) | (rw [hw_1]; rfl) | (simp only [hw_1]; done)), trivial⟩, hS.F ht⟩) hS.2.2 dX5_takingOf_12


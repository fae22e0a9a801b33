def fX_isLate (n : Nat) (g : Nat → Int32) (rn : Nat) : Bool := (if (fX_arrival n g rn) ≤ (g 5) then false else true)
set_option maxHeartbeats 4000000 in
set_option maxRecDepth 100000 in
theorem y_isLateIn (l : Launch) (D : va_G) (k : Nat → ClassId) (st : Nat → Nat) (lo : Nat) (h0 : Nat) (h1 : Nat) (h2 : Nat) (h3 : Nat) (h4 : Nat) (n : Nat) (see : Nat) (tm : Nat) (g : Nat → Int32) (rn : Nat)  : CRi l D k st lo yX5_isLateIn cX5_isLateIn 2 (some .boolean) ({ frames := 1, cells := 0, slots := 0, locals := 21 }) [.ref h0, .int (nI rn)] [(h0, .inr (5, (fX5 h1 h2 h3 h4))), (aI k h1 10 (vv n see tm g))] (fun r => r = (if fX_isLate n g rn = true then 1 else 0)) := by
  intro sz
  refine Met.ofW (cc := cX5_isLateIn) (maxL := 2) (ret := (some .boolean)) (by decide) rfl ?_
  intro p e s m args below meth c s₁ B hml hv
  obtain ⟨rfl, hsz, hlo, hP, hK, hDL, hZ⟩ := hv
  have hx := B.exec
  have hb := B.bytes
  have hr := B.returns
  have hts := WS_ts B.pre
  have hown : s.vm.findClass RX5 = some m.cls := findClass_of_methodNamed B.named
  have hlocks := B.notSynchronized
  subst hsz
  have hA : ∀ q : Nat, s.heap.size ≤ q → (fun q : Nat => s.heap.size ≤ q) q := fun _ h => h
  have hAlo : ∀ q : Nat, (fun q : Nat => s.heap.size ≤ q) q → lo ≤ q := fun q h => Nat.le_trans hlo h
  have hS : va_S (fun q : Nat => s.heap.size ≤ q) s.heap s.heap [] := va_S.rf
  have hl := lv_entry ([.ref h0, .int (nI rn)]) (n := 2) (Nat.le_of_ble_eq_true rfl)
  rw [lg_entry_eq]
  generalize (lg_sl ([.ref h0, .int (nI rn)]) ++ List.replicate (2 - (lg_sl ([.ref h0, .int (nI rn)])).length) Slot.unset).toArray = ls at hl ⊢
  have hl : lv_has ls 2 [(0, .ref h0), (1, .int (nI rn))] := hl
  refine lv_aload_n hx hb dX5_isLateIn_0 rfl (lv_at hl 0 rfl) ?_
  refine lv_iload_n hx hb dX5_isLateIn_1 rfl (lv_at hl 1 rfl) ?_
  refine ro_i (D := D) (va_runV (As := [.int (nI rn)]) (rest := []) ⟨hx, hb, hml, hown, hts⟩ ((y_arrivalOf l D k st lo h0 h1 h2 h3 h4 n see tm g rn) s.heap.size) (cwV 1 hts (gV tw_505 tw_507 tw_3 tw_81 tw_508) rfl rfl rfl (by decide +kernel) ⟨Nat.le_of_ble_eq_true rfl, Nat.le_of_ble_eq_true rfl⟩) (pV hS hAlo hlo hP hK hDL hZ [0, 1] (by decide) rfl (ci := 5) (q := (RX5, TX5, 4)) (q0 := 0) rfl rfl) rfl rfl hl.1 rfl (lv_room (Nat.le_of_ble_eq_true rfl)) dX5_isLateIn_2 ⟨Nat.le_of_ble_eq_true rfl, Nat.le_of_ble_eq_true rfl⟩) hS hA hP (fun r_1 H locs hw_1 hP hS => ?_)
  try dsimp only at hw_1
  refine lv_aload_n hx hb dX5_isLateIn_5 rfl (lv_at hl 0 rfl) ?_
  refine va_get (D := D) (ci := 5) (v := .ref h1) (C := RX5) (T := TX5) (N := 4) hx hb hts inX5 hown hK hP 0 rfl rfl 0 (by decide) (hts _ tw_146) (fun _ h9 => h9) rfl dX5_isLateIn_6 ?_
  refine lv_iconst (v := 5) hx hb dX5_isLateIn_9 (by decide) ?_
  refine va_iald hx hb hK hP 1 1 rfl rfl (by unfold vp_in; decide) dX5_isLateIn_10 ?_
  refine lv_ti (y := (g 5)) (by rfl) ?_
  refine lv_icmp_le (tgt := 18) hx hb dX5_isLateIn_11 (by decide) (fun c_2 => ?_) (fun c_2 => ?_)
  · rw [hw_1] at c_2
    refine lv_iconst (v := 0) hx hb dX5_isLateIn_18 (by decide) ?_
    exact W.zret (v := 0) (ty := .boolean) hx hb hr rfl (fun t ht hW => ⟨⟨0, (), rfl, (by rw [if_neg (show ¬ fX_isLate n g rn = true from (by unfold fX_isLate; first | (rw [if_pos c_2]; done) | (rw [if_pos c_2]; decide)))]), trivial⟩, hS.F ht⟩) hS.2.2 dX5_isLateIn_19
  · rw [hw_1] at c_2
    refine lv_iconst (v := 1) hx hb dX5_isLateIn_14 (by decide) ?_
    refine lv_goto (tgt := 19) hx hb dX5_isLateIn_15 (by decide) ?_
    exact W.zret (v := 1) (ty := .boolean) hx hb hr rfl (fun t ht hW => ⟨⟨1, (), rfl, (by rw [if_pos (show fX_isLate n g rn = true from (by unfold fX_isLate; first | (rw [if_neg c_2]; done) | (rw [if_neg c_2]; decide)))]), trivial⟩, hS.F ht⟩) hS.2.2 dX5_isLateIn_19


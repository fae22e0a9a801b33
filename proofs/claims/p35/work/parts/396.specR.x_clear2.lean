set_option maxHeartbeats 4000000 in
set_option maxRecDepth 100000 in
theorem x_clear2 (l : Launch) (D : va_G) (k : Nat → ClassId) (st : Nat → Nat) (lo : Nat) (a : Nat → Nat) (rk : Nat) (lfa : Int32) (cc : Nat) (rz : Nat) (ro : Int32) (sd : Int32) (hrz : rz ≤ 24) : CWi l D k st lo yX7_clear cX7_clear 2 (some .int) ({ frames := 0, cells := 0, slots := 0, locals := 0 }) 0 0 [.ref (a 0)] [((a 0), .inr (7, [.ref (a 1), .ref (a 3), .ref (a 19), .ref (a 35), .ref (a 40), .int (nI rk), .int lfa, .ref (a 53), .ref (a 56), .ref (a 63), .ref (a 64), .ref (a 68)])), ((a 53), .inr (4, [.ref (a 54), .ref (a 55), .int (nI cc), .int (nI rz), .int ro, .int sd]))] (fun (r : Int32) (u : Nat × Int32) => match u with | (rz_, ro_) => r = nI rz ∧ rz_ = 0) (fun (u : Nat × Int32) => match u with | (rz_, ro_) => [((a 0), .inr (7, [.ref (a 1), .ref (a 3), .ref (a 19), .ref (a 35), .ref (a 40), .int (nI rk), .int lfa, .ref (a 53), .ref (a 56), .ref (a 63), .ref (a 64), .ref (a 68)])), ((a 53), .inr (4, [.ref (a 54), .ref (a 55), .int (nI cc), .int (nI rz_), .int ro_, .int sd]))]) := by
  intro sz
  refine Met.ofW (cc := cX7_clear) (maxL := 2) (ret := (some .int)) (by decide) rfl ?_
  intro p e s m args below meth c s₁ B hml hv
  obtain ⟨rfl, hsz, hlo, hP, hK, hDL, hZ⟩ := hv
  have hx := B.exec
  have hb := B.bytes
  have hr := B.returns
  have hts := WS_ts B.pre
  have hown : s.vm.findClass RX7 = some m.cls := findClass_of_methodNamed B.named
  have hlocks := B.notSynchronized
  subst hsz
  have hD := hDL.self (sz := s.heap.size)
  have hAlo := A_lo hDL hlo
  generalize hAe : va_A [((a 0), .inr (7, [.ref (a 1), .ref (a 3), .ref (a 19), .ref (a 35), .ref (a 40), .int (nI rk), .int lfa, .ref (a 53), .ref (a 56), .ref (a 63), .ref (a 64), .ref (a 68)])), ((a 53), .inr (4, [.ref (a 54), .ref (a 55), .int (nI cc), .int (nI rz), .int ro, .int sd]))] s.heap.size = A at hD hAlo ⊢
  have hA : ∀ q : Nat, s.heap.size ≤ q → A q := fun q h => by rw [← hAe]; exact Or.inr h
  have hS : va_S A s.heap s.heap [] := va_S.rf
  have hl := lv_entry ([.ref (a 0)]) (n := 2) (Nat.le_of_ble_eq_true rfl)
  rw [lg_entry_eq]
  generalize (lg_sl ([.ref (a 0)]) ++ List.replicate (2 - (lg_sl ([.ref (a 0)])).length) Slot.unset).toArray = ls at hl ⊢
  have hl : lv_has ls 2 [(0, .ref (a 0))] := hl
  refine lv_aload_n hx hb dX7_clear_0 rfl (lv_at hl 0 rfl) ?_
  refine va_get (D := D) (ci := 7) (v := .ref (a 53)) (C := RX7) (T := TX7) (N := 12) hx hb hts inX7 hown hK hP 0 rfl rfl 7 (by decide) (hts _ tw_312) (fun _ h9 => h9) rfl dX7_clear_1 ?_
  refine va_get (D := D) (ci := 4) (v := .int (nI rz)) (C := RX4) (T := TX4) (N := 6) hx hb hts inX4 hown hK hP 1 rfl rfl 3 (by decide) (hts _ tw_184) (fun _ h9 => h9) rfl dX7_clear_4 ?_
  refine lv_istore_n (lv' := [(1, .int (nI rz)), (0, .ref (a 0))]) hx hb dX7_clear_7 rfl hl (by decide) rfl (fun ls hl => ?_)
  refine lv_aload_n hx hb dX7_clear_8 rfl (lv_at hl 1 rfl) ?_
  refine va_get (D := D) (ci := 7) (v := .ref (a 53)) (C := RX7) (T := TX7) (N := 12) hx hb hts inX7 hown hK hP 0 rfl rfl 7 (by decide) (hts _ tw_312) (fun _ h9 => h9) rfl dX7_clear_9 ?_
  refine lv_iconst (v := 0) hx hb dX7_clear_12 (by decide) ?_
  refine va_put (D := D) (ci := 4) (v := .int 0) (ty := .int) (C := RX4) (T := TX4) (N := 6) hx hb hts inX4 tyX4 tyX4_ok nmX4 hown hK hP hD hS 1 rfl rfl 3 (by decide) (hts _ tw_184) (fun _ h9 => h9) rfl (by decide +kernel) rfl rfl (Nat.le_of_ble_eq_true rfl) dX7_clear_13 (fun H locs hP hD hS => ?_)
  replace hP : va_P D classes [((a 0), .inr (7, [.ref (a 1), .ref (a 3), .ref (a 19), .ref (a 35), .ref (a 40), .int (nI rk), .int lfa, .ref (a 53), .ref (a 56), .ref (a 63), .ref (a 64), .ref (a 68)])), ((a 53), .inr (4, [.ref (a 54), .ref (a 55), .int (nI cc), .int 0, .int ro, .int sd]))] H := hP
  replace hD : va_D A [((a 0), .inr (7, [.ref (a 1), .ref (a 3), .ref (a 19), .ref (a 35), .ref (a 40), .int (nI rk), .int lfa, .ref (a 53), .ref (a 56), .ref (a 63), .ref (a 64), .ref (a 68)])), ((a 53), .inr (4, [.ref (a 54), .ref (a 55), .int (nI cc), .int 0, .int ro, .int sd]))] := hD
  refine lv_aload_n hx hb dX7_clear_16 rfl (lv_at hl 1 rfl) ?_
  refine va_get (D := D) (ci := 7) (v := .ref (a 53)) (C := RX7) (T := TX7) (N := 12) hx hb hts inX7 hown hK hP 0 rfl rfl 7 (by decide) (hts _ tw_312) (fun _ h9 => h9) rfl dX7_clear_17 ?_
  refine lv_iconst (v := 0) hx hb dX7_clear_20 (by decide) ?_
  refine va_put (D := D) (ci := 4) (v := .int 0) (ty := .int) (C := RX4) (T := TX4) (N := 6) hx hb hts inX4 tyX4 tyX4_ok nmX4 hown hK hP hD hS 1 rfl rfl 4 (by decide) (hts _ tw_187) (fun _ h9 => h9) rfl (by decide +kernel) rfl rfl (Nat.le_of_ble_eq_true rfl) dX7_clear_21 (fun H locs hP hD hS => ?_)
  replace hP : va_P D classes [((a 0), .inr (7, [.ref (a 1), .ref (a 3), .ref (a 19), .ref (a 35), .ref (a 40), .int (nI rk), .int lfa, .ref (a 53), .ref (a 56), .ref (a 63), .ref (a 64), .ref (a 68)])), ((a 53), .inr (4, [.ref (a 54), .ref (a 55), .int (nI cc), .int 0, .int 0, .int sd]))] H := hP
  replace hD : va_D A [((a 0), .inr (7, [.ref (a 1), .ref (a 3), .ref (a 19), .ref (a 35), .ref (a 40), .int (nI rk), .int lfa, .ref (a 53), .ref (a 56), .ref (a 63), .ref (a 64), .ref (a 68)])), ((a 53), .inr (4, [.ref (a 54), .ref (a 55), .int (nI cc), .int 0, .int 0, .int sd]))] := hD
  refine lv_iload_n hx hb dX7_clear_24 rfl (lv_at hl 0 rfl) ?_
  have hP9 := hP.sub (ws' := [((a 0), .inr (7, [.ref (a 1), .ref (a 3), .ref (a 19), .ref (a 35), .ref (a 40), .int (nI rk), .int lfa, .ref (a 53), .ref (a 56), .ref (a 63), .ref (a 64), .ref (a 68)])), ((a 53), .inr (4, [.ref (a 54), .ref (a 55), .int (nI cc), .int 0, .int 0, .int sd]))]) [0, 1] rfl
  have hD9 := hD.sub (ws' := [((a 0), .inr (7, [.ref (a 1), .ref (a 3), .ref (a 19), .ref (a 35), .ref (a 40), .int (nI rk), .int lfa, .ref (a 53), .ref (a 56), .ref (a 63), .ref (a 64), .ref (a 68)])), ((a 53), .inr (4, [.ref (a 54), .ref (a 55), .int (nI cc), .int 0, .int 0, .int sd]))]) [0, 1] (by decide) rfl
  exact W.iret (v := (nI rz)) hx hb hr (fun t ht hW => ⟨⟨(nI rz), (0, 0), rfl, ⟨rfl, rfl⟩, by rw [ht]; exact hP9, hD9⟩, hS.F ht⟩) hS.2.2 dX7_clear_25


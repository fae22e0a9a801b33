set_option maxHeartbeats 4000000 in
set_option maxRecDepth 100000 in
theorem x_see2 (l : Launch) (D : va_G) (k : Nat → ClassId) (st : Nat → Nat) (lo : Nat) (c0 : Nat) (c1 : Nat) (c2 : Nat) (cc : Nat) (rz : Nat) (ro : Int32) (sd : Int32) (p0 : Int32) (hrz : rz < 24) : CWi l D k st lo yX4_see cX4_see 2 (some .int) ({ frames := 0, cells := 0, slots := 0, locals := 0 }) 0 0 [.ref c0, .int p0] [(c0, .inr (4, [.ref c1, .ref c2, .int (nI cc), .int (nI rz), .int ro, .int sd]))] (fun (r : Int32) (u : Nat × Int32) => match u with | (rz_, ro_) => r = nI (rz + 1) ∧ rz_ = rz + 1) (fun (u : Nat × Int32) => match u with | (rz_, ro_) => [(c0, .inr (4, [.ref c1, .ref c2, .int (nI cc), .int (nI rz_), .int ro_, .int sd]))]) := by
  intro sz
  refine Met.ofW (cc := cX4_see) (maxL := 2) (ret := (some .int)) (by decide) rfl ?_
  intro p e s m args below meth c s₁ B hml hv
  obtain ⟨rfl, hsz, hlo, hP, hK, hDL, hZ⟩ := hv
  have hx := B.exec
  have hb := B.bytes
  have hr := B.returns
  have hts := WS_ts B.pre
  have hown : s.vm.findClass RX4 = some m.cls := findClass_of_methodNamed B.named
  have hlocks := B.notSynchronized
  subst hsz
  have hD := hDL.self (sz := s.heap.size)
  have hAlo := A_lo hDL hlo
  generalize hAe : va_A [(c0, .inr (4, [.ref c1, .ref c2, .int (nI cc), .int (nI rz), .int ro, .int sd]))] s.heap.size = A at hD hAlo ⊢
  have hA : ∀ q : Nat, s.heap.size ≤ q → A q := fun q h => by rw [← hAe]; exact Or.inr h
  have hS : va_S A s.heap s.heap [] := va_S.rf
  have hl := lv_entry ([.ref c0, .int p0]) (n := 2) (Nat.le_of_ble_eq_true rfl)
  rw [lg_entry_eq]
  generalize (lg_sl ([.ref c0, .int p0]) ++ List.replicate (2 - (lg_sl ([.ref c0, .int p0])).length) Slot.unset).toArray = ls at hl ⊢
  have hl : lv_has ls 2 [(0, .ref c0), (1, .int p0)] := hl
  refine lv_iload_n hx hb dX4_see_0 rfl (lv_at hl 1 rfl) ?_
  refine lv_if_eq (tgt := 19) hx hb dX4_see_1 (by decide) (fun c_1 => ?_) (fun c_1 => ?_)
  · refine lv_aload_n hx hb dX4_see_19 rfl (lv_at hl 0 rfl) ?_
    refine lv_dup hx hb dX4_see_20 rfl ?_
    refine va_get (D := D) (ci := 4) (v := .int (nI rz)) (C := RX4) (T := TX4) (N := 6) hx hb hts inX4 hown hK hP 0 rfl rfl 3 (by decide) (hts _ tw_181) (fun _ h9 => h9) rfl dX4_see_21 ?_
    refine lv_iconst (v := 1) hx hb dX4_see_24 (by decide) ?_
    refine lv_iadd hx hb dX4_see_25 ?_
    refine lv_ti (y := (nI (rz + 1))) (nI_add rz 1) ?_
    refine va_put (D := D) (ci := 4) (v := .int (nI (rz + 1))) (ty := .int) (C := RX4) (T := TX4) (N := 6) hx hb hts inX4 tyX4 tyX4_ok nmX4 hown hK hP hD hS 0 rfl rfl 3 (by decide) (hts _ tw_181) (fun _ h9 => h9) rfl (by decide +kernel) rfl rfl (Nat.le_of_ble_eq_true rfl) dX4_see_26 (fun H locs hP hD hS => ?_)
    replace hP : va_P D classes [(c0, .inr (4, [.ref c1, .ref c2, .int (nI cc), .int (nI (rz + 1)), .int ro, .int sd]))] H := hP
    replace hD : va_D A [(c0, .inr (4, [.ref c1, .ref c2, .int (nI cc), .int (nI (rz + 1)), .int ro, .int sd]))] := hD
    refine lv_aload_n hx hb dX4_see_29 rfl (lv_at hl 0 rfl) ?_
    refine va_get (D := D) (ci := 4) (v := .int (nI (rz + 1))) (C := RX4) (T := TX4) (N := 6) hx hb hts inX4 hown hK hP 0 rfl rfl 3 (by decide) (hts _ tw_181) (fun _ h9 => h9) rfl dX4_see_30 ?_
    have hP9 := hP.sub (ws' := [(c0, .inr (4, [.ref c1, .ref c2, .int (nI cc), .int (nI (rz + 1)), .int ro, .int sd]))]) [0] rfl
    have hD9 := hD.sub (ws' := [(c0, .inr (4, [.ref c1, .ref c2, .int (nI cc), .int (nI (rz + 1)), .int ro, .int sd]))]) [0] (by decide) rfl
    exact W.iret (v := (nI (rz + 1))) hx hb hr (fun t ht hW => ⟨⟨(nI (rz + 1)), ((rz + 1), ro), rfl, ⟨rfl, rfl⟩, by rw [ht]; exact hP9, hD9⟩, hS.F ht⟩) hS.2.2 dX4_see_33
  · refine lv_aload_n hx hb dX4_see_4 rfl (lv_at hl 0 rfl) ?_
    refine lv_dup hx hb dX4_see_5 rfl ?_
    refine va_get (D := D) (ci := 4) (v := .int ro) (C := RX4) (T := TX4) (N := 6) hx hb hts inX4 hown hK hP 0 rfl rfl 4 (by decide) (hts _ tw_185) (fun _ h9 => h9) rfl dX4_see_6 ?_
    refine lv_iconst (v := 1) hx hb dX4_see_9 (by decide) ?_
    refine lv_aload_n hx hb dX4_see_10 rfl (lv_at hl 0 rfl) ?_
    refine va_get (D := D) (ci := 4) (v := .int (nI rz)) (C := RX4) (T := TX4) (N := 6) hx hb hts inX4 hown hK hP 0 rfl rfl 3 (by decide) (hts _ tw_181) (fun _ h9 => h9) rfl dX4_see_11 ?_
    refine lv_ishl hx hb dX4_see_14 ?_
    refine lv_topi (fun x_2 ex_2 => ?_)
    refine lv_ior hx hb dX4_see_15 ?_
    refine lv_topi (fun x_3 ex_3 => ?_)
    refine va_put (D := D) (ci := 4) (v := .int x_3) (ty := .int) (C := RX4) (T := TX4) (N := 6) hx hb hts inX4 tyX4 tyX4_ok nmX4 hown hK hP hD hS 0 rfl rfl 4 (by decide) (hts _ tw_185) (fun _ h9 => h9) rfl (by decide +kernel) rfl rfl (Nat.le_of_ble_eq_true rfl) dX4_see_16 (fun H locs hP hD hS => ?_)
    replace hP : va_P D classes [(c0, .inr (4, [.ref c1, .ref c2, .int (nI cc), .int (nI rz), .int x_3, .int sd]))] H := hP
    replace hD : va_D A [(c0, .inr (4, [.ref c1, .ref c2, .int (nI cc), .int (nI rz), .int x_3, .int sd]))] := hD
    refine lv_aload_n hx hb dX4_see_19 rfl (lv_at hl 0 rfl) ?_
    refine lv_dup hx hb dX4_see_20 rfl ?_
    refine va_get (D := D) (ci := 4) (v := .int (nI rz)) (C := RX4) (T := TX4) (N := 6) hx hb hts inX4 hown hK hP 0 rfl rfl 3 (by decide) (hts _ tw_181) (fun _ h9 => h9) rfl dX4_see_21 ?_
    refine lv_iconst (v := 1) hx hb dX4_see_24 (by decide) ?_
    refine lv_iadd hx hb dX4_see_25 ?_
    refine lv_ti (y := (nI (rz + 1))) (nI_add rz 1) ?_
    refine va_put (D := D) (ci := 4) (v := .int (nI (rz + 1))) (ty := .int) (C := RX4) (T := TX4) (N := 6) hx hb hts inX4 tyX4 tyX4_ok nmX4 hown hK hP hD hS 0 rfl rfl 3 (by decide) (hts _ tw_181) (fun _ h9 => h9) rfl (by decide +kernel) rfl rfl (Nat.le_of_ble_eq_true rfl) dX4_see_26 (fun H locs hP hD hS => ?_)
    replace hP : va_P D classes [(c0, .inr (4, [.ref c1, .ref c2, .int (nI cc), .int (nI (rz + 1)), .int x_3, .int sd]))] H := hP
    replace hD : va_D A [(c0, .inr (4, [.ref c1, .ref c2, .int (nI cc), .int (nI (rz + 1)), .int x_3, .int sd]))] := hD
    refine lv_aload_n hx hb dX4_see_29 rfl (lv_at hl 0 rfl) ?_
    refine va_get (D := D) (ci := 4) (v := .int (nI (rz + 1))) (C := RX4) (T := TX4) (N := 6) hx hb hts inX4 hown hK hP 0 rfl rfl 3 (by decide) (hts _ tw_181) (fun _ h9 => h9) rfl dX4_see_30 ?_
    have hP9 := hP.sub (ws' := [(c0, .inr (4, [.ref c1, .ref c2, .int (nI cc), .int (nI (rz + 1)), .int x_3, .int sd]))]) [0] rfl
    have hD9 := hD.sub (ws' := [(c0, .inr (4, [.ref c1, .ref c2, .int (nI cc), .int (nI (rz + 1)), .int x_3, .int sd]))]) [0] (by decide) rfl
    exact W.iret (v := (nI (rz + 1))) hx hb hr (fun t ht hW => ⟨⟨(nI (rz + 1)), ((rz + 1), x_3), rfl, ⟨rfl, rfl⟩, by rw [ht]; exact hP9, hD9⟩, hS.F ht⟩) hS.2.2 dX4_see_33


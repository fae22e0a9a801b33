set_option maxHeartbeats 4000000 in
set_option maxRecDepth 100000 in
theorem x_saw2 (l : Launch) (D : va_G) (k : Nat → ClassId) (st : Nat → Nat) (lo : Nat) (a : Nat → Nat) (rk : Nat) (lfa : Int32) (cc : Nat) (rz : Nat) (ro : Int32) (sd : Int32) (p0 : Int32) (hrz : rz ≤ 24) : CWi l D k st lo yX7_saw cX7_saw 2 (some .int) ({ frames := 1, cells := 0, slots := 0, locals := 21 }) 0 0 [.ref (a 0), .int p0] [((a 0), .inr (7, [.ref (a 1), .ref (a 3), .ref (a 19), .ref (a 35), .ref (a 40), .int (nI rk), .int lfa, .ref (a 53), .ref (a 56), .ref (a 63), .ref (a 64), .ref (a 68)])), ((a 53), .inr (4, [.ref (a 54), .ref (a 55), .int (nI cc), .int (nI rz), .int ro, .int sd]))] (fun (r : Int32) (u : Nat × Int32) => match u with | (rz_, ro_) => sawP rz r rz_ ∧ rz_ ≤ 24) (fun (u : Nat × Int32) => match u with | (rz_, ro_) => [((a 0), .inr (7, [.ref (a 1), .ref (a 3), .ref (a 19), .ref (a 35), .ref (a 40), .int (nI rk), .int lfa, .ref (a 53), .ref (a 56), .ref (a 63), .ref (a 64), .ref (a 68)])), ((a 53), .inr (4, [.ref (a 54), .ref (a 55), .int (nI cc), .int (nI rz_), .int ro_, .int sd]))]) := by
  intro sz
  refine Met.ofW (cc := cX7_saw) (maxL := 2) (ret := (some .int)) (by decide) rfl ?_
  intro p e s m args below meth c s₁ B hml hv
  obtain ⟨rfl, hsz, hlo, hP, hK, hDL, hZ⟩ := hv
  have hx := B.exec
  have hb := B.bytes
  have hr := B.returns
  have hts := WS_ts B.pre
  have hown : s.vm.findClass RX7 = some m.cls := findClass_of_methodNamed B.named
  have hlocks := B.notSynchronized
  subst hsz
  have hD := hDL.self (sz := s.heap.size)
  have hAlo := A_lo hDL hlo
  generalize hAe : va_A [((a 0), .inr (7, [.ref (a 1), .ref (a 3), .ref (a 19), .ref (a 35), .ref (a 40), .int (nI rk), .int lfa, .ref (a 53), .ref (a 56), .ref (a 63), .ref (a 64), .ref (a 68)])), ((a 53), .inr (4, [.ref (a 54), .ref (a 55), .int (nI cc), .int (nI rz), .int ro, .int sd]))] s.heap.size = A at hD hAlo ⊢
  have hA : ∀ q : Nat, s.heap.size ≤ q → A q := fun q h => by rw [← hAe]; exact Or.inr h
  have hS : va_S A s.heap s.heap [] := va_S.rf
  have hl := lv_entry ([.ref (a 0), .int p0]) (n := 2) (Nat.le_of_ble_eq_true rfl)
  rw [lg_entry_eq]
  generalize (lg_sl ([.ref (a 0), .int p0]) ++ List.replicate (2 - (lg_sl ([.ref (a 0), .int p0])).length) Slot.unset).toArray = ls at hl ⊢
  have hl : lv_has ls 2 [(0, .ref (a 0)), (1, .int p0)] := hl
  refine lv_aload_n hx hb dX7_saw_0 rfl (lv_at hl 0 rfl) ?_
  refine va_get (D := D) (ci := 7) (v := .ref (a 53)) (C := RX7) (T := TX7) (N := 12) hx hb hts inX7 hown hK hP 0 rfl rfl 7 (by decide) (hts _ tw_312) (fun _ h9 => h9) rfl dX7_saw_1 ?_
  refine va_get (D := D) (ci := 4) (v := .int (nI rz)) (C := RX4) (T := TX4) (N := 6) hx hb hts inX4 hown hK hP 1 rfl rfl 3 (by decide) (hts _ tw_184) (fun _ h9 => h9) rfl dX7_saw_4 ?_
  refine lv_bipush (v := 24) hx hb dX7_saw_7 (by decide) ?_
  refine lv_icmp_ge (tgt := 23) hx hb dX7_saw_9 (by decide) (fun c_1 => ?_) (fun c_1 => ?_)
  · have c_1 := (nI_leI (a := 24) (b := rz) (by omega) (by omega)).mp c_1
    refine lv_sipush (v := (-1004)) hx hb dX7_saw_23 (by decide) ?_
    have hP9 := hP.sub (ws' := [((a 0), .inr (7, [.ref (a 1), .ref (a 3), .ref (a 19), .ref (a 35), .ref (a 40), .int (nI rk), .int lfa, .ref (a 53), .ref (a 56), .ref (a 63), .ref (a 64), .ref (a 68)])), ((a 53), .inr (4, [.ref (a 54), .ref (a 55), .int (nI cc), .int (nI rz), .int ro, .int sd]))]) [0, 1] rfl
    have hD9 := hD.sub (ws' := [((a 0), .inr (7, [.ref (a 1), .ref (a 3), .ref (a 19), .ref (a 35), .ref (a 40), .int (nI rk), .int lfa, .ref (a 53), .ref (a 56), .ref (a 63), .ref (a 64), .ref (a 68)])), ((a 53), .inr (4, [.ref (a 54), .ref (a 55), .int (nI cc), .int (nI rz), .int ro, .int sd]))]) [0, 1] (by decide) rfl
    exact W.iret (v := (-1004)) hx hb hr (fun t ht hW => ⟨⟨(-1004), (rz, ro), rfl, ⟨⟨fun h => absurd h (by omega), fun _ => ⟨rfl, rfl⟩⟩, by omega⟩, by rw [ht]; exact hP9, hD9⟩, hS.F ht⟩) hS.2.2 dX7_saw_26
  · have c_1 : ¬ (24 ≤ rz) := fun h => c_1 ((nI_leI (a := 24) (b := rz) (by omega) (by omega)).mpr h)
    refine lv_aload_n hx hb dX7_saw_12 rfl (lv_at hl 0 rfl) ?_
    refine va_get (D := D) (ci := 7) (v := .ref (a 53)) (C := RX7) (T := TX7) (N := 12) hx hb hts inX7 hown hK hP 0 rfl rfl 7 (by decide) (hts _ tw_312) (fun _ h9 => h9) rfl dX7_saw_13 ?_
    refine lv_iload_n hx hb dX7_saw_16 rfl (lv_at hl 1 rfl) ?_
    refine rw_i (D := D) (wr := [((a 0), .inr (7, [.ref (a 1), .ref (a 3), .ref (a 19), .ref (a 35), .ref (a 40), .int (nI rk), .int lfa, .ref (a 53), .ref (a 56), .ref (a 63), .ref (a 64), .ref (a 68)]))]) (va_runV (As := [.int p0]) (rest := []) ⟨hx, hb, hml, hown, hts⟩ ((x_see2 l D k st lo (a 53) (a 54) (a 55) cc rz ro sd p0 (by omega)) s.heap.size) (cwV 1 hts (gV tw_740 tw_741 tw_742 tw_82 tw_743) rfl rfl rfl (by decide +kernel) ⟨Nat.le_of_ble_eq_true rfl, Nat.le_of_ble_eq_true rfl⟩) (pV hS hAlo hlo hP hK (va_Dlo hD hAlo) hZ [1] (by decide) rfl (ci := 4) (q0 := 0) rfl rfl) rfl rfl hl.1 rfl (lv_room (Nat.le_of_ble_eq_true rfl)) dX7_saw_17 ⟨Nat.le_of_ble_eq_true rfl, Nat.le_of_ble_eq_true rfl⟩) hS hA hP hD [1] [0] rfl rfl (by decide) (by decide) (fun r_2 u H locs hw_2 hP hD hS => ?_)
    obtain ⟨rz__2, ro__2⟩ := u
    replace hP : va_P D classes [((a 0), .inr (7, [.ref (a 1), .ref (a 3), .ref (a 19), .ref (a 35), .ref (a 40), .int (nI rk), .int lfa, .ref (a 53), .ref (a 56), .ref (a 63), .ref (a 64), .ref (a 68)])), ((a 53), .inr (4, [.ref (a 54), .ref (a 55), .int (nI cc), .int (nI rz__2), .int ro__2, .int sd]))] H := hP
    replace hD : va_D A [((a 0), .inr (7, [.ref (a 1), .ref (a 3), .ref (a 19), .ref (a 35), .ref (a 40), .int (nI rk), .int lfa, .ref (a 53), .ref (a 56), .ref (a 63), .ref (a 64), .ref (a 68)])), ((a 53), .inr (4, [.ref (a 54), .ref (a 55), .int (nI cc), .int (nI rz__2), .int ro__2, .int sd]))] := hD
    try dsimp only at hw_2
    refine lv_goto (tgt := 26) hx hb dX7_saw_20 (by decide) ?_
    have hP9 := hP.sub (ws' := [((a 0), .inr (7, [.ref (a 1), .ref (a 3), .ref (a 19), .ref (a 35), .ref (a 40), .int (nI rk), .int lfa, .ref (a 53), .ref (a 56), .ref (a 63), .ref (a 64), .ref (a 68)])), ((a 53), .inr (4, [.ref (a 54), .ref (a 55), .int (nI cc), .int (nI rz__2), .int ro__2, .int sd]))]) [0, 1] rfl
    have hD9 := hD.sub (ws' := [((a 0), .inr (7, [.ref (a 1), .ref (a 3), .ref (a 19), .ref (a 35), .ref (a 40), .int (nI rk), .int lfa, .ref (a 53), .ref (a 56), .ref (a 63), .ref (a 64), .ref (a 68)])), ((a 53), .inr (4, [.ref (a 54), .ref (a 55), .int (nI cc), .int (nI rz__2), .int ro__2, .int sd]))]) [0, 1] (by decide) rfl
    exact W.iret (v := r_2) hx hb hr (fun t ht hW => ⟨⟨r_2, (rz__2, ro__2), rfl, ⟨⟨fun _ => hw_2, fun h => absurd (by omega) h⟩, by omega⟩, by rw [ht]; exact hP9, hD9⟩, hS.F ht⟩) hS.2.2 dX7_saw_26


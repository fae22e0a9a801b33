theorem dX8_code_0 : decode cX8_code 0 = .ok (.ldc2_w 140, 3) := by decide +kernel
theorem dX8_code_3 : decode cX8_code 3 = .ok (.ldc2_w 140, 3) := by decide +kernel
theorem dX8_code_6 : decode cX8_code 6 = .ok (.iload_n 0, 1) := by decide +kernel
theorem dX8_code_7 : decode cX8_code 7 = .ok (.i2l, 1) := by decide +kernel
theorem dX8_code_8 : decode cX8_code 8 = .ok (.ldc2_w 142, 3) := by decide +kernel
theorem dX8_code_11 : decode cX8_code 11 = .ok (.lsub, 1) := by decide +kernel
theorem dX8_code_12 : decode cX8_code 12 = .ok (.lmul, 1) := by decide +kernel
theorem dX8_code_13 : decode cX8_code 13 = .ok (.iload_n 1, 1) := by decide +kernel
theorem dX8_code_14 : decode cX8_code 14 = .ok (.i2l, 1) := by decide +kernel
theorem dX8_code_15 : decode cX8_code 15 = .ok (.ladd, 1) := by decide +kernel
theorem dX8_code_16 : decode cX8_code 16 = .ok (.ldc2_w 142, 3) := by decide +kernel
theorem dX8_code_19 : decode cX8_code 19 = .ok (.lsub, 1) := by decide +kernel
theorem dX8_code_20 : decode cX8_code 20 = .ok (.lmul, 1) := by decide +kernel
theorem dX8_code_21 : decode cX8_code 21 = .ok (.iload_n 2, 1) := by decide +kernel
theorem dX8_code_22 : decode cX8_code 22 = .ok (.i2l, 1) := by decide +kernel
theorem dX8_code_23 : decode cX8_code 23 = .ok (.ladd, 1) := by decide +kernel
theorem dX8_code_24 : decode cX8_code 24 = .ok (.ldc2_w 142, 3) := by decide +kernel
theorem dX8_code_27 : decode cX8_code 27 = .ok (.lsub, 1) := by decide +kernel
theorem dX8_code_28 : decode cX8_code 28 = .ok (.lreturn, 1) := by decide +kernel
set_option maxHeartbeats 4000000 in
set_option maxRecDepth 100000 in
theorem m_code (l : Launch) (D : va_G) (k : Nat → ClassId) (st : Nat → Nat) (lo : Nat) (p0 : Int32) (p1 : Int32) (p2 : Int32)  : CRl l D k st lo yX8_code cX8_code 3 (some .long) ({ frames := 0, cells := 0, slots := 0, locals := 0 }) [.int p0, .int p1, .int p2] [] (fun _ => True) := by
  intro sz
  refine Met.ofW (cc := cX8_code) (maxL := 3) (ret := (some .long)) (by decide) rfl ?_
  intro p e s m args below meth c s₁ B hml hv
  obtain ⟨rfl, hsz, hlo, hP, hK, hDL, hZ⟩ := hv
  have hx := B.exec
  have hb := B.bytes
  have hr := B.returns
  have hts := WS_ts B.pre
  have hown : s.vm.findClass RX8 = some m.cls := findClass_of_methodNamed B.named
  have hlocks := B.notSynchronized
  subst hsz
  have hA : ∀ q : Nat, s.heap.size ≤ q → (fun q : Nat => s.heap.size ≤ q) q := fun _ h => h
  have hAlo : ∀ q : Nat, (fun q : Nat => s.heap.size ≤ q) q → lo ≤ q := fun q h => Nat.le_trans hlo h
  have hS : va_S (fun q : Nat => s.heap.size ≤ q) s.heap s.heap [] := va_S.rf
  have hl := lv_entry ([.int p0, .int p1, .int p2]) (n := 3) (Nat.le_of_ble_eq_true rfl)
  rw [lg_entry_eq]
  generalize (lg_sl ([.int p0, .int p1, .int p2]) ++ List.replicate (3 - (lg_sl ([.int p0, .int p1, .int p2])).length) Slot.unset).toArray = ls at hl ⊢
  have hl : lv_has ls 3 [(0, .int p0), (1, .int p1), (2, .int p2)] := hl
  refine lv_ldc2 hx hb hown (hts _ tw_1136) dX8_code_0 ?_
  refine lv_ldc2 hx hb hown (hts _ tw_1136) dX8_code_3 ?_
  refine lv_iload_n hx hb dX8_code_6 rfl (lv_at hl 0 rfl) ?_
  refine lv_i2l (v := p0.toInt64) hx hb dX8_code_7 rfl ?_
  refine lv_ldc2 hx hb hown (hts _ tw_1137) dX8_code_8 ?_
  refine lv_lsub hx hb dX8_code_11 ?_
  refine lv_topl (fun x_1 ex_1 => ?_)
  refine lv_lmul hx hb dX8_code_12 ?_
  refine lv_topl (fun x_2 ex_2 => ?_)
  refine lv_iload_n hx hb dX8_code_13 rfl (lv_at hl 1 rfl) ?_
  refine lv_i2l (v := p1.toInt64) hx hb dX8_code_14 rfl ?_
  refine lv_ladd hx hb dX8_code_15 ?_
  refine lv_topl (fun x_3 ex_3 => ?_)
  refine lv_ldc2 hx hb hown (hts _ tw_1137) dX8_code_16 ?_
  refine lv_lsub hx hb dX8_code_19 ?_
  refine lv_topl (fun x_4 ex_4 => ?_)
  refine lv_lmul hx hb dX8_code_20 ?_
  refine lv_topl (fun x_5 ex_5 => ?_)
  refine lv_iload_n hx hb dX8_code_21 rfl (lv_at hl 2 rfl) ?_
  refine lv_i2l (v := p2.toInt64) hx hb dX8_code_22 rfl ?_
  refine lv_ladd hx hb dX8_code_23 ?_
  refine lv_topl (fun x_6 ex_6 => ?_)
  refine lv_ldc2 hx hb hown (hts _ tw_1137) dX8_code_24 ?_
  refine lv_lsub hx hb dX8_code_27 ?_
  refine lv_topl (fun x_7 ex_7 => ?_)
  exact W.lret (v := x_7) hx hb hr (fun t ht hW => ⟨⟨x_7, (), rfl, trivial, trivial⟩, hS.F ht⟩) hS.2.2 dX8_code_28

theorem dX8_longer_0 : decode cX8_longer 0 = .ok (.ldc2_w 140, 3) := by decide +kernel
theorem dX8_longer_3 : decode cX8_longer 3 = .ok (.lload_n 0, 1) := by decide +kernel
theorem dX8_longer_4 : decode cX8_longer 4 = .ok (.lmul, 1) := by decide +kernel
theorem dX8_longer_5 : decode cX8_longer 5 = .ok (.iload_n 2, 1) := by decide +kernel
theorem dX8_longer_6 : decode cX8_longer 6 = .ok (.i2l, 1) := by decide +kernel
theorem dX8_longer_7 : decode cX8_longer 7 = .ok (.ladd, 1) := by decide +kernel
theorem dX8_longer_8 : decode cX8_longer 8 = .ok (.ldc2_w 142, 3) := by decide +kernel
theorem dX8_longer_11 : decode cX8_longer 11 = .ok (.lsub, 1) := by decide +kernel
theorem dX8_longer_12 : decode cX8_longer 12 = .ok (.lreturn, 1) := by decide +kernel
set_option maxHeartbeats 4000000 in
set_option maxRecDepth 100000 in
theorem m_longer (l : Launch) (D : va_G) (k : Nat → ClassId) (st : Nat → Nat) (lo : Nat) (q0 : Int64) (p1 : Int32)  : CRl l D k st lo yX8_longer cX8_longer 3 (some .long) ({ frames := 0, cells := 0, slots := 0, locals := 0 }) [.long q0, .int p1] [] (fun _ => True) := by
  intro sz
  refine Met.ofW (cc := cX8_longer) (maxL := 3) (ret := (some .long)) (by decide) rfl ?_
  intro p e s m args below meth c s₁ B hml hv
  obtain ⟨rfl, hsz, hlo, hP, hK, hDL, hZ⟩ := hv
  have hx := B.exec
  have hb := B.bytes
  have hr := B.returns
  have hts := WS_ts B.pre
  have hown : s.vm.findClass RX8 = some m.cls := findClass_of_methodNamed B.named
  have hlocks := B.notSynchronized
  subst hsz
  have hA : ∀ q : Nat, s.heap.size ≤ q → (fun q : Nat => s.heap.size ≤ q) q := fun _ h => h
  have hAlo : ∀ q : Nat, (fun q : Nat => s.heap.size ≤ q) q → lo ≤ q := fun q h => Nat.le_trans hlo h
  have hS : va_S (fun q : Nat => s.heap.size ≤ q) s.heap s.heap [] := va_S.rf
  have hl := lv_entry ([.long q0, .int p1]) (n := 3) (Nat.le_of_ble_eq_true rfl)
  rw [lg_entry_eq]
  generalize (lg_sl ([.long q0, .int p1]) ++ List.replicate (3 - (lg_sl ([.long q0, .int p1])).length) Slot.unset).toArray = ls at hl ⊢
  have hl : lv_has ls 3 [(0, .long q0), (2, .int p1)] := hl
  refine lv_ldc2 hx hb hown (hts _ tw_1136) dX8_longer_0 ?_
  refine lv_lload_n hx hb dX8_longer_3 rfl (lv_at hl 0 rfl) ?_
  refine lv_lmul hx hb dX8_longer_4 ?_
  refine lv_topl (fun x_1 ex_1 => ?_)
  refine lv_iload_n hx hb dX8_longer_5 rfl (lv_at hl 1 rfl) ?_
  refine lv_i2l (v := p1.toInt64) hx hb dX8_longer_6 rfl ?_
  refine lv_ladd hx hb dX8_longer_7 ?_
  refine lv_topl (fun x_2 ex_2 => ?_)
  refine lv_ldc2 hx hb hown (hts _ tw_1137) dX8_longer_8 ?_
  refine lv_lsub hx hb dX8_longer_11 ?_
  refine lv_topl (fun x_3 ex_3 => ?_)
  exact W.lret (v := x_3) hx hb hr (fun t ht hW => ⟨⟨x_3, (), rfl, trivial, trivial⟩, hS.F ht⟩) hS.2.2 dX8_longer_12

theorem dX8_longest_0 : decode cX8_longest 0 = .ok (.lload_n 0, 1) := by decide +kernel
theorem dX8_longest_1 : decode cX8_longest 1 = .ok (.iload_n 2, 1) := by decide +kernel
theorem dX8_longest_2 : decode cX8_longest 2 = .ok (.invokestatic 144, 3) := by decide +kernel
theorem dX8_longest_5 : decode cX8_longest 5 = .ok (.iload_n 3, 1) := by decide +kernel
theorem dX8_longest_6 : decode cX8_longest 6 = .ok (.invokestatic 144, 3) := by decide +kernel
theorem dX8_longest_9 : decode cX8_longest 9 = .ok (.lreturn, 1) := by decide +kernel
set_option maxHeartbeats 4000000 in
set_option maxRecDepth 100000 in
theorem m_longest (l : Launch) (D : va_G) (k : Nat → ClassId) (st : Nat → Nat) (lo : Nat) (q0 : Int64) (p1 : Int32) (p2 : Int32)  : CRl l D k st lo yX8_longest cX8_longest 4 (some .long) ({ frames := 1, cells := 0, slots := 0, locals := 22 }) [.long q0, .int p1, .int p2] [] (fun _ => True) := by
  intro sz
  refine Met.ofW (cc := cX8_longest) (maxL := 4) (ret := (some .long)) (by decide) rfl ?_
  intro p e s m args below meth c s₁ B hml hv
  obtain ⟨rfl, hsz, hlo, hP, hK, hDL, hZ⟩ := hv
  have hx := B.exec
  have hb := B.bytes
  have hr := B.returns
  have hts := WS_ts B.pre
  have hown : s.vm.findClass RX8 = some m.cls := findClass_of_methodNamed B.named
  have hlocks := B.notSynchronized
  subst hsz
  have hA : ∀ q : Nat, s.heap.size ≤ q → (fun q : Nat => s.heap.size ≤ q) q := fun _ h => h
  have hAlo : ∀ q : Nat, (fun q : Nat => s.heap.size ≤ q) q → lo ≤ q := fun q h => Nat.le_trans hlo h
  have hS : va_S (fun q : Nat => s.heap.size ≤ q) s.heap s.heap [] := va_S.rf
  have hl := lv_entry ([.long q0, .int p1, .int p2]) (n := 4) (Nat.le_of_ble_eq_true rfl)
  rw [lg_entry_eq]
  generalize (lg_sl ([.long q0, .int p1, .int p2]) ++ List.replicate (4 - (lg_sl ([.long q0, .int p1, .int p2])).length) Slot.unset).toArray = ls at hl ⊢
  have hl : lv_has ls 4 [(0, .long q0), (2, .int p1), (3, .int p2)] := hl
  refine lv_lload_n hx hb dX8_longest_0 rfl (lv_at hl 0 rfl) ?_
  refine lv_iload_n hx hb dX8_longest_1 rfl (lv_at hl 1 rfl) ?_
  refine ro_l (D := D) (va_runS (As := [.long q0, .int p1]) (rest := []) ⟨hx, hb, hml, hown, hts⟩ ((m_longer l D k st lo q0 p1) s.heap.size) (va_cwS 2 hts (gS tw_1148 tw_1149 tw_87 tw_1150) rfl rfl rfl (by decide +kernel) ⟨Nat.le_of_ble_eq_true rfl, Nat.le_of_ble_eq_true rfl⟩) (pS hS hAlo hlo hP hK hDL hZ [] (by decide) rfl) rfl rfl hl.1 rfl (lv_room (Nat.le_of_ble_eq_true rfl)) dX8_longest_2 ⟨Nat.le_of_ble_eq_true rfl, Nat.le_of_ble_eq_true rfl⟩) hS hA hP (fun r_1 H locs hw_1 hP hS => ?_)
  try dsimp only at hw_1
  refine lv_iload_n hx hb dX8_longest_5 rfl (lv_at hl 2 rfl) ?_
  refine ro_l (D := D) (va_runS (As := [.long r_1, .int p2]) (rest := []) ⟨hx, hb, hml, hown, hts⟩ ((m_longer l D k st lo r_1 p2) H.size) (va_cwS 2 hts (gS tw_1148 tw_1149 tw_87 tw_1150) rfl rfl rfl (by decide +kernel) ⟨Nat.le_of_ble_eq_true rfl, Nat.le_of_ble_eq_true rfl⟩) (pS hS hAlo hlo hP hK hDL hZ [] (by decide) rfl) rfl rfl hl.1 rfl (lv_room (Nat.le_of_ble_eq_true rfl)) dX8_longest_6 ⟨Nat.le_of_ble_eq_true rfl, Nat.le_of_ble_eq_true rfl⟩) hS hA hP (fun r_2 H locs hw_2 hP hS => ?_)
  try dsimp only at hw_2
  exact W.lret (v := r_2) hx hb hr (fun t ht hW => ⟨⟨r_2, (), rfl, trivial, trivial⟩, hS.F ht⟩) hS.2.2 dX8_longest_9

theorem dX8_fails_0 : decode cX8_fails 0 = .ok (.aload_n 0, 1) := by decide +kernel
theorem dX8_fails_1 : decode cX8_fails 1 = .ok (.iload_n 2, 1) := by decide +kernel
theorem dX8_fails_2 : decode cX8_fails 2 = .ok (.putfield 25, 3) := by decide +kernel
theorem dX8_fails_5 : decode cX8_fails 5 = .ok (.iload_n 1, 1) := by decide +kernel
theorem dX8_fails_6 : decode cX8_fails 6 = .ok (.ireturn, 1) := by decide +kernel
set_option maxHeartbeats 4000000 in
set_option maxRecDepth 100000 in
theorem m_fails (l : Launch) (D : va_G) (k : Nat → ClassId) (st : Nat → Nat) (lo : Nat) (a : Nat → Nat) (tx : Nat) (t0 : Nat) (we : Nat) (rd : Nat) (ru : Nat) (rw : Nat) (ca : Nat) (fp : Int32) (wd : Int64) (nu : Int32) (na : Int32) (ts : Int32) (df : Int32) (db : Int32) (sd : Int32) (fn : Nat) (p1 : Int32)  : CWi l D k st lo yX8_fails cX8_fails 3 (some .int) ({ frames := 0, cells := 0, slots := 0, locals := 0 }) 0 0 [.ref (a 0), .int (nI fn), .int p1] [((a 0), .inr (8, (fX8 a (nI tx) fp (nI t0) wd (nI we) nu na (nI rd) ts (nI ru) (nI rw) (nI ca) df db sd)))] (fun (r : Int32) (fp_ : Int32) => r = nI fn) (fun (fp_ : Int32) => [((a 0), .inr (8, (fX8 a (nI tx) fp_ (nI t0) wd (nI we) nu na (nI rd) ts (nI ru) (nI rw) (nI ca) df db sd)))]) := by
  intro sz
  refine Met.ofW (cc := cX8_fails) (maxL := 3) (ret := (some .int)) (by decide) rfl ?_
  intro p e s m args below meth c s₁ B hml hv
  obtain ⟨rfl, hsz, hlo, hP, hK, hDL, hZ⟩ := hv
  have hx := B.exec
  have hb := B.bytes
  have hr := B.returns
  have hts := WS_ts B.pre
  have hown : s.vm.findClass RX8 = some m.cls := findClass_of_methodNamed B.named
  have hlocks := B.notSynchronized
  subst hsz
  have hD := hDL.self (sz := s.heap.size)
  have hAlo := A_lo hDL hlo
  generalize hAe : va_A [((a 0), .inr (8, (fX8 a (nI tx) fp (nI t0) wd (nI we) nu na (nI rd) ts (nI ru) (nI rw) (nI ca) df db sd)))] s.heap.size = A at hD hAlo ⊢
  have hA : ∀ q : Nat, s.heap.size ≤ q → A q := fun q h => by rw [← hAe]; exact Or.inr h
  have hS : va_S A s.heap s.heap [] := va_S.rf
  have hl := lv_entry ([.ref (a 0), .int (nI fn), .int p1]) (n := 3) (Nat.le_of_ble_eq_true rfl)
  rw [lg_entry_eq]
  generalize (lg_sl ([.ref (a 0), .int (nI fn), .int p1]) ++ List.replicate (3 - (lg_sl ([.ref (a 0), .int (nI fn), .int p1])).length) Slot.unset).toArray = ls at hl ⊢
  have hl : lv_has ls 3 [(0, .ref (a 0)), (1, .int (nI fn)), (2, .int p1)] := hl
  refine lv_aload_n hx hb dX8_fails_0 rfl (lv_at hl 0 rfl) ?_
  refine lv_iload_n hx hb dX8_fails_1 rfl (lv_at hl 2 rfl) ?_
  refine va_put (D := D) (ci := 8) (v := .int p1) (ty := .int) (C := RX8) (T := TX8) (N := 44) hx hb hts inX8 tyX8 tyX8_ok nmX8 hown hK hP hD hS 0 rfl rfl 6 (by decide) (hts _ tw_979) (fun _ h9 => h9) rfl (by decide +kernel) rfl rfl (Nat.le_of_ble_eq_true rfl) dX8_fails_2 (fun H locs hP hD hS => ?_)
  replace hP : va_P D classes [((a 0), .inr (8, (fX8 a (nI tx) p1 (nI t0) wd (nI we) nu na (nI rd) ts (nI ru) (nI rw) (nI ca) df db sd)))] H := hP
  replace hD : va_D A [((a 0), .inr (8, (fX8 a (nI tx) p1 (nI t0) wd (nI we) nu na (nI rd) ts (nI ru) (nI rw) (nI ca) df db sd)))] := hD
  refine lv_iload_n hx hb dX8_fails_5 rfl (lv_at hl 1 rfl) ?_
  have hP9 := hP.sub (ws' := [((a 0), .inr (8, (fX8 a (nI tx) p1 (nI t0) wd (nI we) nu na (nI rd) ts (nI ru) (nI rw) (nI ca) df db sd)))]) [0] rfl
  have hD9 := hD.sub (ws' := [((a 0), .inr (8, (fX8 a (nI tx) p1 (nI t0) wd (nI we) nu na (nI rd) ts (nI ru) (nI rw) (nI ca) df db sd)))]) [0] (by decide) rfl
  exact W.iret (v := (nI fn)) hx hb hr (fun t ht hW => ⟨⟨(nI fn), p1, rfl, rfl, by rw [ht]; exact hP9, hD9⟩, hS.F ht⟩) hS.2.2 dX8_fails_6

theorem dX8_here_0 : decode cX8_here 0 = .ok (.aload_n 0, 1) := by decide +kernel
theorem dX8_here_1 : decode cX8_here 1 = .ok (.getfield 118, 3) := by decide +kernel
theorem dX8_here_4 : decode cX8_here 4 = .ok (.aload_n 0, 1) := by decide +kernel
theorem dX8_here_5 : decode cX8_here 5 = .ok (.getfield 113, 3) := by decide +kernel
theorem dX8_here_8 : decode cX8_here 8 = .ok (.if_icmp .ge 30, 3) := by decide +kernel
theorem dX8_here_11 : decode cX8_here 11 = .ok (.aload_n 0, 1) := by decide +kernel
theorem dX8_here_12 : decode cX8_here 12 = .ok (.getfield 22, 3) := by decide +kernel
theorem dX8_here_15 : decode cX8_here 15 = .ok (.aload_n 0, 1) := by decide +kernel
theorem dX8_here_16 : decode cX8_here 16 = .ok (.getfield 118, 3) := by decide +kernel
theorem dX8_here_19 : decode cX8_here 19 = .ok (.iaload, 1) := by decide +kernel
theorem dX8_here_20 : decode cX8_here 20 = .ok (.bipush 32, 2) := by decide +kernel
theorem dX8_here_22 : decode cX8_here 22 = .ok (.if_icmp .ne 16, 3) := by decide +kernel
theorem dX8_here_25 : decode cX8_here 25 = .ok (.aload_n 0, 1) := by decide +kernel
theorem dX8_here_26 : decode cX8_here 26 = .ok (.dup, 1) := by decide +kernel
theorem dX8_here_27 : decode cX8_here 27 = .ok (.getfield 118, 3) := by decide +kernel
theorem dX8_here_30 : decode cX8_here 30 = .ok (.iconst 1, 1) := by decide +kernel
theorem dX8_here_31 : decode cX8_here 31 = .ok (.iadd, 1) := by decide +kernel
theorem dX8_here_32 : decode cX8_here 32 = .ok (.putfield 118, 3) := by decide +kernel
theorem dX8_here_35 : decode cX8_here 35 = .ok (.goto (-35), 3) := by decide +kernel
theorem dX8_here_38 : decode cX8_here 38 = .ok (.aload_n 0, 1) := by decide +kernel
theorem dX8_here_39 : decode cX8_here 39 = .ok (.getfield 118, 3) := by decide +kernel
theorem dX8_here_42 : decode cX8_here 42 = .ok (.aload_n 0, 1) := by decide +kernel
theorem dX8_here_43 : decode cX8_here 43 = .ok (.getfield 113, 3) := by decide +kernel
theorem dX8_here_46 : decode cX8_here 46 = .ok (.if_icmp .ge 15, 3) := by decide +kernel
theorem dX8_here_49 : decode cX8_here 49 = .ok (.aload_n 0, 1) := by decide +kernel
theorem dX8_here_50 : decode cX8_here 50 = .ok (.getfield 22, 3) := by decide +kernel
theorem dX8_here_53 : decode cX8_here 53 = .ok (.aload_n 0, 1) := by decide +kernel
theorem dX8_here_54 : decode cX8_here 54 = .ok (.getfield 118, 3) := by decide +kernel
theorem dX8_here_57 : decode cX8_here 57 = .ok (.iaload, 1) := by decide +kernel
theorem dX8_here_58 : decode cX8_here 58 = .ok (.goto 4, 3) := by decide +kernel
theorem dX8_here_61 : decode cX8_here 61 = .ok (.iconst (-1), 1) := by decide +kernel
theorem dX8_here_62 : decode cX8_here 62 = .ok (.ireturn, 1) := by decide +kernel
set_option maxHeartbeats 4000000 in
set_option maxRecDepth 100000 in
theorem m_here (l : Launch) (D : va_G) (k : Nat → ClassId) (st : Nat → Nat) (lo : Nat) (a : Nat → Nat) (tx : Nat) (t0 : Nat) (we : Nat) (rd : Nat) (ru : Nat) (rw : Nat) (ca : Nat) (fp : Int32) (wd : Int64) (nu : Int32) (na : Int32) (ts : Int32) (df : Int32) (db : Int32) (sd : Int32) (ftext : Nat → Int32) (ht : t0 ≤ tx) (htx : tx ≤ 240) : CWi l D k st lo yX8_here cX8_here 1 (some .int) ({ frames := 0, cells := 0, slots := 0, locals := 0 }) 0 0 [.ref (a 0)] [((a 0), .inr (8, (fX8 a (nI tx) fp (nI t0) wd (nI we) nu na (nI rd) ts (nI ru) (nI rw) (nI ca) df db sd))), (aI k (a 5) 240 ftext)] (fun (r : Int32) (t0_ : Nat) => t0 ≤ t0_ ∧ t0_ ≤ tx ∧ (r = -1 ∨ t0_ < tx)) (fun (t0_ : Nat) => [((a 0), .inr (8, (fX8 a (nI tx) fp (nI t0_) wd (nI we) nu na (nI rd) ts (nI ru) (nI rw) (nI ca) df db sd))), (aI k (a 5) 240 ftext)]) := by
  intro sz
  refine Met.ofW (cc := cX8_here) (maxL := 1) (ret := (some .int)) (by decide) rfl ?_
  intro p e s m args below meth c s₁ B hml hv
  obtain ⟨rfl, hsz, hlo, hP, hK, hDL, hZ⟩ := hv
  have hx := B.exec
  have hb := B.bytes
  have hr := B.returns
  have hts := WS_ts B.pre
  have hown : s.vm.findClass RX8 = some m.cls := findClass_of_methodNamed B.named
  have hlocks := B.notSynchronized
  subst hsz
  have hD := hDL.self (sz := s.heap.size)
  have hAlo := A_lo hDL hlo
  generalize hAe : va_A [((a 0), .inr (8, (fX8 a (nI tx) fp (nI t0) wd (nI we) nu na (nI rd) ts (nI ru) (nI rw) (nI ca) df db sd))), (aI k (a 5) 240 ftext)] s.heap.size = A at hD hAlo ⊢
  have hA : ∀ q : Nat, s.heap.size ≤ q → A q := fun q h => by rw [← hAe]; exact Or.inr h
  have hS : va_S A s.heap s.heap [] := va_S.rf
  have hl := lv_entry ([.ref (a 0)]) (n := 1) (Nat.le_of_ble_eq_true rfl)
  rw [lg_entry_eq]
  generalize (lg_sl ([.ref (a 0)]) ++ List.replicate (1 - (lg_sl ([.ref (a 0)])).length) Slot.unset).toArray = ls at hl ⊢
  have hl : lv_has ls 1 [(0, .ref (a 0))] := hl
  refine W_loop (σ := Nat) (fun (n_ : Nat) (t_1 : Nat) (H : Heap) (locs : List Loc) (ls : Array Slot) => n_ = tx - t_1 ∧ (t0 ≤ t_1 ∧ t_1 ≤ tx) ∧ va_P D classes [((a 0), .inr (8, (fX8 a (nI tx) fp (nI t_1) wd (nI we) nu na (nI rd) ts (nI ru) (nI rw) (nI ca) df db sd))), (aI k (a 5) 240 ftext)] H ∧ va_D A [((a 0), .inr (8, (fX8 a (nI tx) fp (nI t_1) wd (nI we) nu na (nI rd) ts (nI ru) (nI rw) (nI ca) df db sd))), (aI k (a 5) 240 ftext)] ∧ va_S A s.heap H locs ∧ lv_has ls 1 [(0, .ref (a 0))]) (fun n_1 x_1 H locs ls hI ih_1 => ?_) _ t0 ⟨rfl, ⟨by omega, by omega⟩, hP, hD, hS, (lv_sub hl [0] rfl)⟩
  obtain ⟨t_1, rfl⟩ : ∃ z, z = x_1 := ⟨_, rfl⟩
  obtain ⟨hm_1, hv_1, hP, hD, hS, hl⟩ := hI
  subst hm_1
  refine lv_aload_n hx hb dX8_here_0 rfl (lv_at hl 0 rfl) ?_
  refine va_get (D := D) (ci := 8) (v := .int (nI t_1)) (C := RX8) (T := TX8) (N := 44) hx hb hts inX8 hown hK hP 0 rfl rfl 7 (by decide) (hts _ tw_980) (fun _ h9 => h9) rfl dX8_here_1 ?_
  refine lv_aload_n hx hb dX8_here_4 rfl (lv_at hl 0 rfl) ?_
  refine va_get (D := D) (ci := 8) (v := .int (nI tx)) (C := RX8) (T := TX8) (N := 44) hx hb hts inX8 hown hK hP 0 rfl rfl 5 (by decide) (hts _ tw_978) (fun _ h9 => h9) rfl dX8_here_5 ?_
  refine lv_icmp_ge (tgt := 38) hx hb dX8_here_8 (by decide) (fun c_2 => ?_) (fun c_2 => ?_)
  · have c_2 := (nI_leI (a := tx) (b := t_1) (by omega) (by omega)).mp c_2
    refine lv_aload_n hx hb dX8_here_38 rfl (lv_at hl 0 rfl) ?_
    refine va_get (D := D) (ci := 8) (v := .int (nI t_1)) (C := RX8) (T := TX8) (N := 44) hx hb hts inX8 hown hK hP 0 rfl rfl 7 (by decide) (hts _ tw_980) (fun _ h9 => h9) rfl dX8_here_39 ?_
    refine lv_aload_n hx hb dX8_here_42 rfl (lv_at hl 0 rfl) ?_
    refine va_get (D := D) (ci := 8) (v := .int (nI tx)) (C := RX8) (T := TX8) (N := 44) hx hb hts inX8 hown hK hP 0 rfl rfl 5 (by decide) (hts _ tw_978) (fun _ h9 => h9) rfl dX8_here_43 ?_
    refine lv_icmp_ge (tgt := 61) hx hb dX8_here_46 (by decide) (fun c_3 => ?_) (fun c_3 => ?_)
    · have c_3 := (nI_leI (a := tx) (b := t_1) (by omega) (by omega)).mp c_3
      refine lv_iconst (v := (-1)) hx hb dX8_here_61 (by decide) ?_
      have hP9 := hP.sub (ws' := [((a 0), .inr (8, (fX8 a (nI tx) fp (nI t_1) wd (nI we) nu na (nI rd) ts (nI ru) (nI rw) (nI ca) df db sd))), (aI k (a 5) 240 ftext)]) [0, 1] rfl
      have hD9 := hD.sub (ws' := [((a 0), .inr (8, (fX8 a (nI tx) fp (nI t_1) wd (nI we) nu na (nI rd) ts (nI ru) (nI rw) (nI ca) df db sd))), (aI k (a 5) 240 ftext)]) [0, 1] (by decide) rfl
      exact W.iret (v := (-1)) hx hb hr (fun t ht hW => ⟨⟨(-1), t_1, rfl, ⟨by omega, by omega, .inl rfl⟩, by rw [ht]; exact hP9, hD9⟩, hS.F ht⟩) hS.2.2 dX8_here_62
    · have c_3 : ¬ (tx ≤ t_1) := fun h => c_3 ((nI_leI (a := tx) (b := t_1) (by omega) (by omega)).mpr h)
      refine lv_aload_n hx hb dX8_here_49 rfl (lv_at hl 0 rfl) ?_
      refine va_get (D := D) (ci := 8) (v := .ref (a 5)) (C := RX8) (T := TX8) (N := 44) hx hb hts inX8 hown hK hP 0 rfl rfl 4 (by decide) (hts _ tw_977) (fun _ h9 => h9) rfl dX8_here_50 ?_
      refine lv_aload_n hx hb dX8_here_53 rfl (lv_at hl 0 rfl) ?_
      refine va_get (D := D) (ci := 8) (v := .int (nI t_1)) (C := RX8) (T := TX8) (N := 44) hx hb hts inX8 hown hK hP 0 rfl rfl 7 (by decide) (hts _ tw_980) (fun _ h9 => h9) rfl dX8_here_54 ?_
      refine va_iald hx hb hK hP 1 1 rfl rfl (vp_in_nI (by omega) (by decide)) dX8_here_57 ?_
      refine lv_ti (y := (ftext t_1)) (by rw [nI_clamp (by omega)]) ?_
      refine lv_goto (tgt := 62) hx hb dX8_here_58 (by decide) ?_
      have hP9 := hP.sub (ws' := [((a 0), .inr (8, (fX8 a (nI tx) fp (nI t_1) wd (nI we) nu na (nI rd) ts (nI ru) (nI rw) (nI ca) df db sd))), (aI k (a 5) 240 ftext)]) [0, 1] rfl
      have hD9 := hD.sub (ws' := [((a 0), .inr (8, (fX8 a (nI tx) fp (nI t_1) wd (nI we) nu na (nI rd) ts (nI ru) (nI rw) (nI ca) df db sd))), (aI k (a 5) 240 ftext)]) [0, 1] (by decide) rfl
      exact W.iret (v := (ftext t_1)) hx hb hr (fun t ht hW => ⟨⟨(ftext t_1), t_1, rfl, ⟨by omega, by omega, .inr (by omega)⟩, by rw [ht]; exact hP9, hD9⟩, hS.F ht⟩) hS.2.2 dX8_here_62
  · have c_2 : ¬ (tx ≤ t_1) := fun h => c_2 ((nI_leI (a := tx) (b := t_1) (by omega) (by omega)).mpr h)
    refine lv_aload_n hx hb dX8_here_11 rfl (lv_at hl 0 rfl) ?_
    refine va_get (D := D) (ci := 8) (v := .ref (a 5)) (C := RX8) (T := TX8) (N := 44) hx hb hts inX8 hown hK hP 0 rfl rfl 4 (by decide) (hts _ tw_977) (fun _ h9 => h9) rfl dX8_here_12 ?_
    refine lv_aload_n hx hb dX8_here_15 rfl (lv_at hl 0 rfl) ?_
    refine va_get (D := D) (ci := 8) (v := .int (nI t_1)) (C := RX8) (T := TX8) (N := 44) hx hb hts inX8 hown hK hP 0 rfl rfl 7 (by decide) (hts _ tw_980) (fun _ h9 => h9) rfl dX8_here_16 ?_
    refine va_iald hx hb hK hP 1 1 rfl rfl (vp_in_nI (by omega) (by decide)) dX8_here_19 ?_
    refine lv_ti (y := (ftext t_1)) (by rw [nI_clamp (by omega)]) ?_
    refine lv_bipush (v := 32) hx hb dX8_here_20 (by decide) ?_
    refine lv_icmp_ne (tgt := 38) hx hb dX8_here_22 (by decide) (fun c_4 => ?_) (fun c_4 => ?_)
    · refine lv_aload_n hx hb dX8_here_38 rfl (lv_at hl 0 rfl) ?_
      refine va_get (D := D) (ci := 8) (v := .int (nI t_1)) (C := RX8) (T := TX8) (N := 44) hx hb hts inX8 hown hK hP 0 rfl rfl 7 (by decide) (hts _ tw_980) (fun _ h9 => h9) rfl dX8_here_39 ?_
      refine lv_aload_n hx hb dX8_here_42 rfl (lv_at hl 0 rfl) ?_
      refine va_get (D := D) (ci := 8) (v := .int (nI tx)) (C := RX8) (T := TX8) (N := 44) hx hb hts inX8 hown hK hP 0 rfl rfl 5 (by decide) (hts _ tw_978) (fun _ h9 => h9) rfl dX8_here_43 ?_
      refine lv_icmp_ge (tgt := 61) hx hb dX8_here_46 (by decide) (fun c_5 => ?_) (fun c_5 => ?_)
      · have c_5 := (nI_leI (a := tx) (b := t_1) (by omega) (by omega)).mp c_5
        refine lv_iconst (v := (-1)) hx hb dX8_here_61 (by decide) ?_
        have hP9 := hP.sub (ws' := [((a 0), .inr (8, (fX8 a (nI tx) fp (nI t_1) wd (nI we) nu na (nI rd) ts (nI ru) (nI rw) (nI ca) df db sd))), (aI k (a 5) 240 ftext)]) [0, 1] rfl
        have hD9 := hD.sub (ws' := [((a 0), .inr (8, (fX8 a (nI tx) fp (nI t_1) wd (nI we) nu na (nI rd) ts (nI ru) (nI rw) (nI ca) df db sd))), (aI k (a 5) 240 ftext)]) [0, 1] (by decide) rfl
        exact W.iret (v := (-1)) hx hb hr (fun t ht hW => ⟨⟨(-1), t_1, rfl, ⟨by omega, by omega, .inl rfl⟩, by rw [ht]; exact hP9, hD9⟩, hS.F ht⟩) hS.2.2 dX8_here_62
      · have c_5 : ¬ (tx ≤ t_1) := fun h => c_5 ((nI_leI (a := tx) (b := t_1) (by omega) (by omega)).mpr h)
        refine lv_aload_n hx hb dX8_here_49 rfl (lv_at hl 0 rfl) ?_
        refine va_get (D := D) (ci := 8) (v := .ref (a 5)) (C := RX8) (T := TX8) (N := 44) hx hb hts inX8 hown hK hP 0 rfl rfl 4 (by decide) (hts _ tw_977) (fun _ h9 => h9) rfl dX8_here_50 ?_
        refine lv_aload_n hx hb dX8_here_53 rfl (lv_at hl 0 rfl) ?_
        refine va_get (D := D) (ci := 8) (v := .int (nI t_1)) (C := RX8) (T := TX8) (N := 44) hx hb hts inX8 hown hK hP 0 rfl rfl 7 (by decide) (hts _ tw_980) (fun _ h9 => h9) rfl dX8_here_54 ?_
        refine va_iald hx hb hK hP 1 1 rfl rfl (vp_in_nI (by omega) (by decide)) dX8_here_57 ?_
        refine lv_ti (y := (ftext t_1)) (by rw [nI_clamp (by omega)]) ?_
        refine lv_goto (tgt := 62) hx hb dX8_here_58 (by decide) ?_
        have hP9 := hP.sub (ws' := [((a 0), .inr (8, (fX8 a (nI tx) fp (nI t_1) wd (nI we) nu na (nI rd) ts (nI ru) (nI rw) (nI ca) df db sd))), (aI k (a 5) 240 ftext)]) [0, 1] rfl
        have hD9 := hD.sub (ws' := [((a 0), .inr (8, (fX8 a (nI tx) fp (nI t_1) wd (nI we) nu na (nI rd) ts (nI ru) (nI rw) (nI ca) df db sd))), (aI k (a 5) 240 ftext)]) [0, 1] (by decide) rfl
        exact W.iret (v := (ftext t_1)) hx hb hr (fun t ht hW => ⟨⟨(ftext t_1), t_1, rfl, ⟨by omega, by omega, .inr (by omega)⟩, by rw [ht]; exact hP9, hD9⟩, hS.F ht⟩) hS.2.2 dX8_here_62
    · refine lv_aload_n hx hb dX8_here_25 rfl (lv_at hl 0 rfl) ?_
      refine lv_dup hx hb dX8_here_26 rfl ?_
      refine va_get (D := D) (ci := 8) (v := .int (nI t_1)) (C := RX8) (T := TX8) (N := 44) hx hb hts inX8 hown hK hP 0 rfl rfl 7 (by decide) (hts _ tw_980) (fun _ h9 => h9) rfl dX8_here_27 ?_
      refine lv_iconst (v := 1) hx hb dX8_here_30 (by decide) ?_
      refine lv_iadd hx hb dX8_here_31 ?_
      refine lv_ti (y := (nI (t_1 + 1))) (nI_add t_1 1) ?_
      refine va_put (D := D) (ci := 8) (v := .int (nI (t_1 + 1))) (ty := .int) (C := RX8) (T := TX8) (N := 44) hx hb hts inX8 tyX8 tyX8_ok nmX8 hown hK hP hD hS 0 rfl rfl 7 (by decide) (hts _ tw_980) (fun _ h9 => h9) rfl (by decide +kernel) rfl rfl (Nat.le_of_ble_eq_true rfl) dX8_here_32 (fun H locs hP hD hS => ?_)
      replace hP : va_P D classes [((a 0), .inr (8, (fX8 a (nI tx) fp (nI (t_1 + 1)) wd (nI we) nu na (nI rd) ts (nI ru) (nI rw) (nI ca) df db sd))), (aI k (a 5) 240 ftext)] H := hP
      replace hD : va_D A [((a 0), .inr (8, (fX8 a (nI tx) fp (nI (t_1 + 1)) wd (nI we) nu na (nI rd) ts (nI ru) (nI rw) (nI ca) df db sd))), (aI k (a 5) 240 ftext)] := hD
      refine lv_goto (tgt := 0) hx hb dX8_here_35 (by decide) ?_
      exact ih_1 _ (t_1 + 1) _ _ _ (by omega) ⟨rfl, ⟨by omega, by omega⟩, hP, hD, hS, (lv_sub hl [0] rfl)⟩

theorem dX8_readWord_0 : decode cX8_readWord 0 = .ok (.aload_n 0, 1) := by decide +kernel
theorem dX8_readWord_1 : decode cX8_readWord 1 = .ok (.invokevirtual 121, 3) := by decide +kernel
theorem dX8_readWord_4 : decode cX8_readWord 4 = .ok (.istore_n 1, 1) := by decide +kernel
theorem dX8_readWord_5 : decode cX8_readWord 5 = .ok (.aload_n 0, 1) := by decide +kernel
theorem dX8_readWord_6 : decode cX8_readWord 6 = .ok (.lconst 0, 1) := by decide +kernel
theorem dX8_readWord_7 : decode cX8_readWord 7 = .ok (.putfield 125, 3) := by decide +kernel
theorem dX8_readWord_10 : decode cX8_readWord 10 = .ok (.aload_n 0, 1) := by decide +kernel
theorem dX8_readWord_11 : decode cX8_readWord 11 = .ok (.aload_n 0, 1) := by decide +kernel
theorem dX8_readWord_12 : decode cX8_readWord 12 = .ok (.getfield 118, 3) := by decide +kernel
theorem dX8_readWord_15 : decode cX8_readWord 15 = .ok (.putfield 129, 3) := by decide +kernel
theorem dX8_readWord_18 : decode cX8_readWord 18 = .ok (.aload_n 0, 1) := by decide +kernel
theorem dX8_readWord_19 : decode cX8_readWord 19 = .ok (.getfield 129, 3) := by decide +kernel
theorem dX8_readWord_22 : decode cX8_readWord 22 = .ok (.aload_n 0, 1) := by decide +kernel
theorem dX8_readWord_23 : decode cX8_readWord 23 = .ok (.getfield 113, 3) := by decide +kernel
theorem dX8_readWord_26 : decode cX8_readWord 26 = .ok (.if_icmp .ge 82, 3) := by decide +kernel
theorem dX8_readWord_29 : decode cX8_readWord 29 = .ok (.aload_n 0, 1) := by decide +kernel
theorem dX8_readWord_30 : decode cX8_readWord 30 = .ok (.getfield 22, 3) := by decide +kernel
theorem dX8_readWord_33 : decode cX8_readWord 33 = .ok (.aload_n 0, 1) := by decide +kernel
theorem dX8_readWord_34 : decode cX8_readWord 34 = .ok (.getfield 129, 3) := by decide +kernel
theorem dX8_readWord_37 : decode cX8_readWord 37 = .ok (.iaload, 1) := by decide +kernel
theorem dX8_readWord_38 : decode cX8_readWord 38 = .ok (.i2l, 1) := by decide +kernel
theorem dX8_readWord_39 : decode cX8_readWord 39 = .ok (.ldc2_w 132, 3) := by decide +kernel
theorem dX8_readWord_42 : decode cX8_readWord 42 = .ok (.ldc2_w 134, 3) := by decide +kernel
theorem dX8_readWord_45 : decode cX8_readWord 45 = .ok (.invokestatic 107, 3) := by decide +kernel
theorem dX8_readWord_48 : decode cX8_readWord 48 = .ok (.ifCond .eq 60, 3) := by decide +kernel
theorem dX8_readWord_51 : decode cX8_readWord 51 = .ok (.aload_n 0, 1) := by decide +kernel
theorem dX8_readWord_52 : decode cX8_readWord 52 = .ok (.aload_n 0, 1) := by decide +kernel
theorem dX8_readWord_53 : decode cX8_readWord 53 = .ok (.getfield 125, 3) := by decide +kernel
theorem dX8_readWord_56 : decode cX8_readWord 56 = .ok (.ldc2_w 136, 3) := by decide +kernel
theorem dX8_readWord_59 : decode cX8_readWord 59 = .ok (.lcmp, 1) := by decide +kernel
theorem dX8_readWord_60 : decode cX8_readWord 60 = .ok (.ifCond .le 9, 3) := by decide +kernel
theorem dX8_readWord_63 : decode cX8_readWord 63 = .ok (.ldc2_w 138, 3) := by decide +kernel
theorem dX8_readWord_66 : decode cX8_readWord 66 = .ok (.goto 26, 3) := by decide +kernel
theorem dX8_readWord_69 : decode cX8_readWord 69 = .ok (.ldc2_w 140, 3) := by decide +kernel
theorem dX8_readWord_72 : decode cX8_readWord 72 = .ok (.aload_n 0, 1) := by decide +kernel
theorem dX8_readWord_73 : decode cX8_readWord 73 = .ok (.getfield 125, 3) := by decide +kernel
theorem dX8_readWord_76 : decode cX8_readWord 76 = .ok (.lmul, 1) := by decide +kernel
theorem dX8_readWord_77 : decode cX8_readWord 77 = .ok (.aload_n 0, 1) := by decide +kernel
theorem dX8_readWord_78 : decode cX8_readWord 78 = .ok (.getfield 22, 3) := by decide +kernel
theorem dX8_readWord_81 : decode cX8_readWord 81 = .ok (.aload_n 0, 1) := by decide +kernel
theorem dX8_readWord_82 : decode cX8_readWord 82 = .ok (.getfield 129, 3) := by decide +kernel
theorem dX8_readWord_85 : decode cX8_readWord 85 = .ok (.iaload, 1) := by decide +kernel
theorem dX8_readWord_86 : decode cX8_readWord 86 = .ok (.i2l, 1) := by decide +kernel
theorem dX8_readWord_87 : decode cX8_readWord 87 = .ok (.ladd, 1) := by decide +kernel
theorem dX8_readWord_88 : decode cX8_readWord 88 = .ok (.ldc2_w 142, 3) := by decide +kernel
theorem dX8_readWord_91 : decode cX8_readWord 91 = .ok (.lsub, 1) := by decide +kernel
theorem dX8_readWord_92 : decode cX8_readWord 92 = .ok (.putfield 125, 3) := by decide +kernel
theorem dX8_readWord_95 : decode cX8_readWord 95 = .ok (.aload_n 0, 1) := by decide +kernel
theorem dX8_readWord_96 : decode cX8_readWord 96 = .ok (.dup, 1) := by decide +kernel
theorem dX8_readWord_97 : decode cX8_readWord 97 = .ok (.getfield 129, 3) := by decide +kernel
theorem dX8_readWord_100 : decode cX8_readWord 100 = .ok (.iconst 1, 1) := by decide +kernel
theorem dX8_readWord_101 : decode cX8_readWord 101 = .ok (.iadd, 1) := by decide +kernel
theorem dX8_readWord_102 : decode cX8_readWord 102 = .ok (.putfield 129, 3) := by decide +kernel
theorem dX8_readWord_105 : decode cX8_readWord 105 = .ok (.goto (-87), 3) := by decide +kernel
theorem dX8_readWord_108 : decode cX8_readWord 108 = .ok (.return_, 1) := by decide +kernel
set_option maxHeartbeats 4000000 in
set_option maxRecDepth 100000 in
theorem m_readWord (l : Launch) (D : va_G) (k : Nat → ClassId) (st : Nat → Nat) (lo : Nat) (a : Nat → Nat) (tx : Nat) (t0 : Nat) (we : Nat) (rd : Nat) (ru : Nat) (rw : Nat) (ca : Nat) (fp : Int32) (wd : Int64) (nu : Int32) (na : Int32) (ts : Int32) (df : Int32) (db : Int32) (sd : Int32) (ftext : Nat → Int32) (ht : t0 ≤ tx) (htx : tx ≤ 240) : CWv l D k st lo yX8_readWord cX8_readWord 2 none ({ frames := 1, cells := 0, slots := 0, locals := 25 }) 0 0 [.ref (a 0)] [((a 0), .inr (8, (fX8 a (nI tx) fp (nI t0) wd (nI we) nu na (nI rd) ts (nI ru) (nI rw) (nI ca) df db sd))), (aI k (a 5) 240 ftext)] (fun (u : Nat × Int64 × Nat) => match u with | (t0_, wd_, we_) => t0 ≤ t0_ ∧ t0_ ≤ we_ ∧ we_ ≤ tx) (fun (u : Nat × Int64 × Nat) => match u with | (t0_, wd_, we_) => [((a 0), .inr (8, (fX8 a (nI tx) fp (nI t0_) wd_ (nI we_) nu na (nI rd) ts (nI ru) (nI rw) (nI ca) df db sd))), (aI k (a 5) 240 ftext)]) := by
  intro sz
  refine Met.ofW (cc := cX8_readWord) (maxL := 2) (ret := none) (by decide) rfl ?_
  intro p e s m args below meth c s₁ B hml hv
  obtain ⟨rfl, hsz, hlo, hP, hK, hDL, hZ⟩ := hv
  have hx := B.exec
  have hb := B.bytes
  have hr := B.returns
  have hts := WS_ts B.pre
  have hown : s.vm.findClass RX8 = some m.cls := findClass_of_methodNamed B.named
  have hlocks := B.notSynchronized
  subst hsz
  have hD := hDL.self (sz := s.heap.size)
  have hAlo := A_lo hDL hlo
  generalize hAe : va_A [((a 0), .inr (8, (fX8 a (nI tx) fp (nI t0) wd (nI we) nu na (nI rd) ts (nI ru) (nI rw) (nI ca) df db sd))), (aI k (a 5) 240 ftext)] s.heap.size = A at hD hAlo ⊢
  have hA : ∀ q : Nat, s.heap.size ≤ q → A q := fun q h => by rw [← hAe]; exact Or.inr h
  have hS : va_S A s.heap s.heap [] := va_S.rf
  have hl := lv_entry ([.ref (a 0)]) (n := 2) (Nat.le_of_ble_eq_true rfl)
  rw [lg_entry_eq]
  generalize (lg_sl ([.ref (a 0)]) ++ List.replicate (2 - (lg_sl ([.ref (a 0)])).length) Slot.unset).toArray = ls at hl ⊢
  have hl : lv_has ls 2 [(0, .ref (a 0))] := hl
  refine lv_aload_n hx hb dX8_readWord_0 rfl (lv_at hl 0 rfl) ?_
  refine rw_i (D := D) (wr := []) (va_runV (As := []) (rest := []) ⟨hx, hb, hml, hown, hts⟩ ((m_here l D k st lo a tx t0 we rd ru rw ca fp wd nu na ts df db sd ftext (by omega) (by omega)) s.heap.size) (cwV 0 hts (gV tw_1120 tw_1122 tw_27 tw_87 tw_1123) rfl rfl rfl (by decide +kernel) ⟨Nat.le_of_ble_eq_true rfl, Nat.le_of_ble_eq_true rfl⟩) (pV hS hAlo hlo hP hK (va_Dlo hD hAlo) hZ [0, 1] (by decide) rfl (ci := 8) (q := (RX8, TX8, 44)) (q0 := 0) rfl rfl) rfl rfl hl.1 rfl (lv_room (Nat.le_of_ble_eq_true rfl)) dX8_readWord_1 ⟨Nat.le_of_ble_eq_true rfl, Nat.le_of_ble_eq_true rfl⟩) hS hA hP hD [0, 1] [] rfl rfl (by decide) (by decide) (fun r_1 u H locs hw_1 hP hD hS => ?_)
  obtain ⟨t0__1, rfl⟩ : ∃ z, z = u := ⟨_, rfl⟩
  replace hP : va_P D classes [((a 0), .inr (8, (fX8 a (nI tx) fp (nI t0__1) wd (nI we) nu na (nI rd) ts (nI ru) (nI rw) (nI ca) df db sd))), (aI k (a 5) 240 ftext)] H := hP
  replace hD : va_D A [((a 0), .inr (8, (fX8 a (nI tx) fp (nI t0__1) wd (nI we) nu na (nI rd) ts (nI ru) (nI rw) (nI ca) df db sd))), (aI k (a 5) 240 ftext)] := hD
  try dsimp only at hw_1
  refine lv_istore_n (lv' := [(1, .int r_1), (0, .ref (a 0))]) hx hb dX8_readWord_4 rfl hl (by decide) rfl (fun ls hl => ?_)
  refine lv_aload_n hx hb dX8_readWord_5 rfl (lv_at hl 1 rfl) ?_
  refine lv_lconst (v := (0 : Int32).toInt64) hx hb dX8_readWord_6 (by decide) ?_
  refine va_put (D := D) (ci := 8) (v := .long ((0 : Int32).toInt64)) (ty := .long) (C := RX8) (T := TX8) (N := 44) hx hb hts inX8 tyX8 tyX8_ok nmX8 hown hK hP hD hS 0 rfl rfl 8 (by decide) (hts _ tw_981) (fun _ h9 => h9) rfl (by decide +kernel) rfl rfl (Nat.le_of_ble_eq_true rfl) dX8_readWord_7 (fun H locs hP hD hS => ?_)
  replace hP : va_P D classes [((a 0), .inr (8, (fX8 a (nI tx) fp (nI t0__1) ((0 : Int32).toInt64) (nI we) nu na (nI rd) ts (nI ru) (nI rw) (nI ca) df db sd))), (aI k (a 5) 240 ftext)] H := hP
  replace hD : va_D A [((a 0), .inr (8, (fX8 a (nI tx) fp (nI t0__1) ((0 : Int32).toInt64) (nI we) nu na (nI rd) ts (nI ru) (nI rw) (nI ca) df db sd))), (aI k (a 5) 240 ftext)] := hD
  refine lv_aload_n hx hb dX8_readWord_10 rfl (lv_at hl 1 rfl) ?_
  refine lv_aload_n hx hb dX8_readWord_11 rfl (lv_at hl 1 rfl) ?_
  refine va_get (D := D) (ci := 8) (v := .int (nI t0__1)) (C := RX8) (T := TX8) (N := 44) hx hb hts inX8 hown hK hP 0 rfl rfl 7 (by decide) (hts _ tw_980) (fun _ h9 => h9) rfl dX8_readWord_12 ?_
  refine va_put (D := D) (ci := 8) (v := .int (nI t0__1)) (ty := .int) (C := RX8) (T := TX8) (N := 44) hx hb hts inX8 tyX8 tyX8_ok nmX8 hown hK hP hD hS 0 rfl rfl 9 (by decide) (hts _ tw_982) (fun _ h9 => h9) rfl (by decide +kernel) rfl rfl (Nat.le_of_ble_eq_true rfl) dX8_readWord_15 (fun H locs hP hD hS => ?_)
  replace hP : va_P D classes [((a 0), .inr (8, (fX8 a (nI tx) fp (nI t0__1) ((0 : Int32).toInt64) (nI t0__1) nu na (nI rd) ts (nI ru) (nI rw) (nI ca) df db sd))), (aI k (a 5) 240 ftext)] H := hP
  replace hD : va_D A [((a 0), .inr (8, (fX8 a (nI tx) fp (nI t0__1) ((0 : Int32).toInt64) (nI t0__1) nu na (nI rd) ts (nI ru) (nI rw) (nI ca) df db sd))), (aI k (a 5) 240 ftext)] := hD
  refine W_loop (σ := Int64 × Nat) (fun (n_ : Nat) (x_ : Int64 × Nat) (H : Heap) (locs : List Loc) (ls : Array Slot) => match x_ with | (wd2_2, e2_2) => n_ = tx - e2_2 ∧ (t0__1 ≤ e2_2 ∧ e2_2 ≤ tx) ∧ va_P D classes [((a 0), .inr (8, (fX8 a (nI tx) fp (nI t0__1) wd2_2 (nI e2_2) nu na (nI rd) ts (nI ru) (nI rw) (nI ca) df db sd))), (aI k (a 5) 240 ftext)] H ∧ va_D A [((a 0), .inr (8, (fX8 a (nI tx) fp (nI t0__1) wd2_2 (nI e2_2) nu na (nI rd) ts (nI ru) (nI rw) (nI ca) df db sd))), (aI k (a 5) 240 ftext)] ∧ va_S A s.heap H locs ∧ lv_has ls 2 [(0, .ref (a 0))]) (fun n_2 x_2 H locs ls hI ih_2 => ?_) _ (((0 : Int32).toInt64), t0__1) ⟨rfl, ⟨by omega, by omega⟩, hP, hD, hS, (lv_sub hl [1] rfl)⟩
  obtain ⟨wd2_2, e2_2⟩ := x_2
  obtain ⟨hm_2, hv_2, hP, hD, hS, hl⟩ := hI
  subst hm_2
  refine lv_aload_n hx hb dX8_readWord_18 rfl (lv_at hl 0 rfl) ?_
  refine va_get (D := D) (ci := 8) (v := .int (nI e2_2)) (C := RX8) (T := TX8) (N := 44) hx hb hts inX8 hown hK hP 0 rfl rfl 9 (by decide) (hts _ tw_982) (fun _ h9 => h9) rfl dX8_readWord_19 ?_
  refine lv_aload_n hx hb dX8_readWord_22 rfl (lv_at hl 0 rfl) ?_
  refine va_get (D := D) (ci := 8) (v := .int (nI tx)) (C := RX8) (T := TX8) (N := 44) hx hb hts inX8 hown hK hP 0 rfl rfl 5 (by decide) (hts _ tw_978) (fun _ h9 => h9) rfl dX8_readWord_23 ?_
  refine lv_icmp_ge (tgt := 108) hx hb dX8_readWord_26 (by decide) (fun c_3 => ?_) (fun c_3 => ?_)
  · have c_3 := (nI_leI (a := tx) (b := e2_2) (by omega) (by omega)).mp c_3
    have hP9 := hP.sub (ws' := [((a 0), .inr (8, (fX8 a (nI tx) fp (nI t0__1) wd2_2 (nI e2_2) nu na (nI rd) ts (nI ru) (nI rw) (nI ca) df db sd))), (aI k (a 5) 240 ftext)]) [0, 1] rfl
    have hD9 := hD.sub (ws' := [((a 0), .inr (8, (fX8 a (nI tx) fp (nI t0__1) wd2_2 (nI e2_2) nu na (nI rd) ts (nI ru) (nI rw) (nI ca) df db sd))), (aI k (a 5) 240 ftext)]) [0, 1] (by decide) rfl
    exact W.vret hx hb hr (fun t ht hW => ⟨⟨(t0__1, wd2_2, e2_2), rfl, ⟨by omega, by omega, by omega⟩, by rw [ht]; exact hP9, hD9⟩, hS.F ht⟩) hS.2.2 dX8_readWord_108
  · have c_3 : ¬ (tx ≤ e2_2) := fun h => c_3 ((nI_leI (a := tx) (b := e2_2) (by omega) (by omega)).mpr h)
    refine lv_aload_n hx hb dX8_readWord_29 rfl (lv_at hl 0 rfl) ?_
    refine va_get (D := D) (ci := 8) (v := .ref (a 5)) (C := RX8) (T := TX8) (N := 44) hx hb hts inX8 hown hK hP 0 rfl rfl 4 (by decide) (hts _ tw_977) (fun _ h9 => h9) rfl dX8_readWord_30 ?_
    refine lv_aload_n hx hb dX8_readWord_33 rfl (lv_at hl 0 rfl) ?_
    refine va_get (D := D) (ci := 8) (v := .int (nI e2_2)) (C := RX8) (T := TX8) (N := 44) hx hb hts inX8 hown hK hP 0 rfl rfl 9 (by decide) (hts _ tw_982) (fun _ h9 => h9) rfl dX8_readWord_34 ?_
    refine va_iald hx hb hK hP 1 1 rfl rfl (vp_in_nI (by omega) (by decide)) dX8_readWord_37 ?_
    refine lv_ti (y := (ftext e2_2)) (by rw [nI_clamp (by omega)]) ?_
    refine lv_i2l (v := (ftext e2_2).toInt64) hx hb dX8_readWord_38 rfl ?_
    refine lv_ldc2 hx hb hown (hts _ tw_1132) dX8_readWord_39 ?_
    refine lv_tl (y := ((97 : Int32).toInt64)) (by decide) ?_
    refine lv_ldc2 hx hb hown (hts _ tw_1133) dX8_readWord_42 ?_
    refine lv_tl (y := ((122 : Int32).toInt64)) (by decide) ?_
    refine ro_i (D := D) (va_runS (As := [.long ((ftext e2_2).toInt64), .long ((97 : Int32).toInt64), .long ((122 : Int32).toInt64)]) (rest := []) ⟨hx, hb, hml, hown, hts⟩ ((k_in l D k st lo (ftext e2_2) (97 : Int32) (122 : Int32)) H.size) (va_cwS 3 hts (gS tw_1111 tw_1112 tw_87 tw_1113) rfl rfl rfl (by decide +kernel) ⟨Nat.le_of_ble_eq_true rfl, Nat.le_of_ble_eq_true rfl⟩) (pS hS hAlo hlo hP hK (va_Dlo hD hAlo) hZ [] (by decide) rfl) rfl rfl hl.1 rfl (lv_room (Nat.le_of_ble_eq_true rfl)) dX8_readWord_45 ⟨Nat.le_of_ble_eq_true rfl, Nat.le_of_ble_eq_true rfl⟩) hS hA hP (fun r_4 H locs hw_4 hP hS => ?_)
    try dsimp only at hw_4
    rcases hw_4 with ⟨rfl, hw_4⟩ | ⟨rfl, hw_4⟩
    · refine lv_if_eq (tgt := 108) hx hb dX8_readWord_48 (by decide) (fun h => absurd h (by decide)) (fun _ => ?_)
      refine lv_aload_n hx hb dX8_readWord_51 rfl (lv_at hl 0 rfl) ?_
      refine lv_aload_n hx hb dX8_readWord_52 rfl (lv_at hl 0 rfl) ?_
      refine va_get (D := D) (ci := 8) (v := .long wd2_2) (C := RX8) (T := TX8) (N := 44) hx hb hts inX8 hown hK hP 0 rfl rfl 8 (by decide) (hts _ tw_981) (fun _ h9 => h9) rfl dX8_readWord_53 ?_
      refine lv_ldc2 hx hb hown (hts _ tw_1134) dX8_readWord_56 ?_
      refine W.lcmp hx hb dX8_readWord_59 ?_
      refine lv_if_le (tgt := 69) hx hb dX8_readWord_60 (by decide) (fun c_5 => ?_) (fun c_5 => ?_)
      · refine lv_ldc2 hx hb hown (hts _ tw_1136) dX8_readWord_69 ?_
        refine lv_tl (y := ((27 : Int32).toInt64)) (by decide) ?_
        refine lv_aload_n hx hb dX8_readWord_72 rfl (lv_at hl 0 rfl) ?_
        refine va_get (D := D) (ci := 8) (v := .long wd2_2) (C := RX8) (T := TX8) (N := 44) hx hb hts inX8 hown hK hP 0 rfl rfl 8 (by decide) (hts _ tw_981) (fun _ h9 => h9) rfl dX8_readWord_73 ?_
        refine lv_lmul hx hb dX8_readWord_76 ?_
        refine lv_topl (fun x_6 ex_6 => ?_)
        refine lv_aload_n hx hb dX8_readWord_77 rfl (lv_at hl 0 rfl) ?_
        refine va_get (D := D) (ci := 8) (v := .ref (a 5)) (C := RX8) (T := TX8) (N := 44) hx hb hts inX8 hown hK hP 0 rfl rfl 4 (by decide) (hts _ tw_977) (fun _ h9 => h9) rfl dX8_readWord_78 ?_
        refine lv_aload_n hx hb dX8_readWord_81 rfl (lv_at hl 0 rfl) ?_
        refine va_get (D := D) (ci := 8) (v := .int (nI e2_2)) (C := RX8) (T := TX8) (N := 44) hx hb hts inX8 hown hK hP 0 rfl rfl 9 (by decide) (hts _ tw_982) (fun _ h9 => h9) rfl dX8_readWord_82 ?_
        refine va_iald hx hb hK hP 1 1 rfl rfl (vp_in_nI (by omega) (by decide)) dX8_readWord_85 ?_
        refine lv_ti (y := (ftext e2_2)) (by rw [nI_clamp (by omega)]) ?_
        refine lv_i2l (v := (ftext e2_2).toInt64) hx hb dX8_readWord_86 rfl ?_
        refine lv_ladd hx hb dX8_readWord_87 ?_
        refine lv_topl (fun x_7 ex_7 => ?_)
        refine lv_ldc2 hx hb hown (hts _ tw_1137) dX8_readWord_88 ?_
        refine lv_tl (y := ((96 : Int32).toInt64)) (by decide) ?_
        refine lv_lsub hx hb dX8_readWord_91 ?_
        refine lv_topl (fun x_8 ex_8 => ?_)
        refine va_put (D := D) (ci := 8) (v := .long x_8) (ty := .long) (C := RX8) (T := TX8) (N := 44) hx hb hts inX8 tyX8 tyX8_ok nmX8 hown hK hP hD hS 0 rfl rfl 8 (by decide) (hts _ tw_981) (fun _ h9 => h9) rfl (by decide +kernel) rfl rfl (Nat.le_of_ble_eq_true rfl) dX8_readWord_92 (fun H locs hP hD hS => ?_)
        replace hP : va_P D classes [((a 0), .inr (8, (fX8 a (nI tx) fp (nI t0__1) x_8 (nI e2_2) nu na (nI rd) ts (nI ru) (nI rw) (nI ca) df db sd))), (aI k (a 5) 240 ftext)] H := hP
        replace hD : va_D A [((a 0), .inr (8, (fX8 a (nI tx) fp (nI t0__1) x_8 (nI e2_2) nu na (nI rd) ts (nI ru) (nI rw) (nI ca) df db sd))), (aI k (a 5) 240 ftext)] := hD
        refine lv_aload_n hx hb dX8_readWord_95 rfl (lv_at hl 0 rfl) ?_
        refine lv_dup hx hb dX8_readWord_96 rfl ?_
        refine va_get (D := D) (ci := 8) (v := .int (nI e2_2)) (C := RX8) (T := TX8) (N := 44) hx hb hts inX8 hown hK hP 0 rfl rfl 9 (by decide) (hts _ tw_982) (fun _ h9 => h9) rfl dX8_readWord_97 ?_
        refine lv_iconst (v := 1) hx hb dX8_readWord_100 (by decide) ?_
        refine lv_iadd hx hb dX8_readWord_101 ?_
        refine lv_ti (y := (nI (e2_2 + 1))) (nI_add e2_2 1) ?_
        refine va_put (D := D) (ci := 8) (v := .int (nI (e2_2 + 1))) (ty := .int) (C := RX8) (T := TX8) (N := 44) hx hb hts inX8 tyX8 tyX8_ok nmX8 hown hK hP hD hS 0 rfl rfl 9 (by decide) (hts _ tw_982) (fun _ h9 => h9) rfl (by decide +kernel) rfl rfl (Nat.le_of_ble_eq_true rfl) dX8_readWord_102 (fun H locs hP hD hS => ?_)
        replace hP : va_P D classes [((a 0), .inr (8, (fX8 a (nI tx) fp (nI t0__1) x_8 (nI (e2_2 + 1)) nu na (nI rd) ts (nI ru) (nI rw) (nI ca) df db sd))), (aI k (a 5) 240 ftext)] H := hP
        replace hD : va_D A [((a 0), .inr (8, (fX8 a (nI tx) fp (nI t0__1) x_8 (nI (e2_2 + 1)) nu na (nI rd) ts (nI ru) (nI rw) (nI ca) df db sd))), (aI k (a 5) 240 ftext)] := hD
        refine lv_goto (tgt := 18) hx hb dX8_readWord_105 (by decide) ?_
        exact ih_2 _ (x_8, e2_2 + 1) _ _ _ (by omega) ⟨rfl, ⟨by omega, by omega⟩, hP, hD, hS, (lv_sub hl [0] rfl)⟩
      · refine lv_ldc2 hx hb hown (hts _ tw_1135) dX8_readWord_63 ?_
        refine lv_goto (tgt := 92) hx hb dX8_readWord_66 (by decide) ?_
        refine va_put (D := D) (ci := 8) (v := .long 2000000000000) (ty := .long) (C := RX8) (T := TX8) (N := 44) hx hb hts inX8 tyX8 tyX8_ok nmX8 hown hK hP hD hS 0 rfl rfl 8 (by decide) (hts _ tw_981) (fun _ h9 => h9) rfl (by decide +kernel) rfl rfl (Nat.le_of_ble_eq_true rfl) dX8_readWord_92 (fun H locs hP hD hS => ?_)
        replace hP : va_P D classes [((a 0), .inr (8, (fX8 a (nI tx) fp (nI t0__1) 2000000000000 (nI e2_2) nu na (nI rd) ts (nI ru) (nI rw) (nI ca) df db sd))), (aI k (a 5) 240 ftext)] H := hP
        replace hD : va_D A [((a 0), .inr (8, (fX8 a (nI tx) fp (nI t0__1) 2000000000000 (nI e2_2) nu na (nI rd) ts (nI ru) (nI rw) (nI ca) df db sd))), (aI k (a 5) 240 ftext)] := hD
        refine lv_aload_n hx hb dX8_readWord_95 rfl (lv_at hl 0 rfl) ?_
        refine lv_dup hx hb dX8_readWord_96 rfl ?_
        refine va_get (D := D) (ci := 8) (v := .int (nI e2_2)) (C := RX8) (T := TX8) (N := 44) hx hb hts inX8 hown hK hP 0 rfl rfl 9 (by decide) (hts _ tw_982) (fun _ h9 => h9) rfl dX8_readWord_97 ?_
        refine lv_iconst (v := 1) hx hb dX8_readWord_100 (by decide) ?_
        refine lv_iadd hx hb dX8_readWord_101 ?_
        refine lv_ti (y := (nI (e2_2 + 1))) (nI_add e2_2 1) ?_
        refine va_put (D := D) (ci := 8) (v := .int (nI (e2_2 + 1))) (ty := .int) (C := RX8) (T := TX8) (N := 44) hx hb hts inX8 tyX8 tyX8_ok nmX8 hown hK hP hD hS 0 rfl rfl 9 (by decide) (hts _ tw_982) (fun _ h9 => h9) rfl (by decide +kernel) rfl rfl (Nat.le_of_ble_eq_true rfl) dX8_readWord_102 (fun H locs hP hD hS => ?_)
        replace hP : va_P D classes [((a 0), .inr (8, (fX8 a (nI tx) fp (nI t0__1) 2000000000000 (nI (e2_2 + 1)) nu na (nI rd) ts (nI ru) (nI rw) (nI ca) df db sd))), (aI k (a 5) 240 ftext)] H := hP
        replace hD : va_D A [((a 0), .inr (8, (fX8 a (nI tx) fp (nI t0__1) 2000000000000 (nI (e2_2 + 1)) nu na (nI rd) ts (nI ru) (nI rw) (nI ca) df db sd))), (aI k (a 5) 240 ftext)] := hD
        refine lv_goto (tgt := 18) hx hb dX8_readWord_105 (by decide) ?_
        exact ih_2 _ (2000000000000, e2_2 + 1) _ _ _ (by omega) ⟨rfl, ⟨by omega, by omega⟩, hP, hD, hS, (lv_sub hl [0] rfl)⟩
    · refine lv_if_eq (tgt := 108) hx hb dX8_readWord_48 (by decide) (fun _ => ?_) (fun h => absurd (by decide) h)
      have hP9 := hP.sub (ws' := [((a 0), .inr (8, (fX8 a (nI tx) fp (nI t0__1) wd2_2 (nI e2_2) nu na (nI rd) ts (nI ru) (nI rw) (nI ca) df db sd))), (aI k (a 5) 240 ftext)]) [0, 1] rfl
      have hD9 := hD.sub (ws' := [((a 0), .inr (8, (fX8 a (nI tx) fp (nI t0__1) wd2_2 (nI e2_2) nu na (nI rd) ts (nI ru) (nI rw) (nI ca) df db sd))), (aI k (a 5) 240 ftext)]) [0, 1] (by decide) rfl
      exact W.vret hx hb hr (fun t ht hW => ⟨⟨(t0__1, wd2_2, e2_2), rfl, ⟨by omega, by omega, by omega⟩, by rw [ht]; exact hP9, hD9⟩, hS.F ht⟩) hS.2.2 dX8_readWord_108

theorem dX8_needs_0 : decode cX8_needs 0 = .ok (.aload_n 0, 1) := by decide +kernel
theorem dX8_needs_1 : decode cX8_needs 1 = .ok (.invokevirtual 156, 3) := by decide +kernel
theorem dX8_needs_4 : decode cX8_needs 4 = .ok (.aload_n 0, 1) := by decide +kernel
theorem dX8_needs_5 : decode cX8_needs 5 = .ok (.getfield 125, 3) := by decide +kernel
theorem dX8_needs_8 : decode cX8_needs 8 = .ok (.lload_n 1, 1) := by decide +kernel
theorem dX8_needs_9 : decode cX8_needs 9 = .ok (.lcmp, 1) := by decide +kernel
theorem dX8_needs_10 : decode cX8_needs 10 = .ok (.ifCond .eq 13, 3) := by decide +kernel
theorem dX8_needs_13 : decode cX8_needs 13 = .ok (.aload_n 0, 1) := by decide +kernel
theorem dX8_needs_14 : decode cX8_needs 14 = .ok (.iconst 1, 1) := by decide +kernel
theorem dX8_needs_15 : decode cX8_needs 15 = .ok (.aload_n 0, 1) := by decide +kernel
theorem dX8_needs_16 : decode cX8_needs 16 = .ok (.getfield 118, 3) := by decide +kernel
theorem dX8_needs_19 : decode cX8_needs 19 = .ok (.invokevirtual 159, 3) := by decide +kernel
theorem dX8_needs_22 : decode cX8_needs 22 = .ok (.ireturn, 1) := by decide +kernel
theorem dX8_needs_23 : decode cX8_needs 23 = .ok (.aload_n 0, 1) := by decide +kernel
theorem dX8_needs_24 : decode cX8_needs 24 = .ok (.aload_n 0, 1) := by decide +kernel
theorem dX8_needs_25 : decode cX8_needs 25 = .ok (.getfield 129, 3) := by decide +kernel
theorem dX8_needs_28 : decode cX8_needs 28 = .ok (.putfield 118, 3) := by decide +kernel
theorem dX8_needs_31 : decode cX8_needs 31 = .ok (.iconst 0, 1) := by decide +kernel
theorem dX8_needs_32 : decode cX8_needs 32 = .ok (.ireturn, 1) := by decide +kernel
set_option maxHeartbeats 4000000 in
set_option maxRecDepth 100000 in
theorem m_needs (l : Launch) (D : va_G) (k : Nat → ClassId) (st : Nat → Nat) (lo : Nat) (a : Nat → Nat) (tx : Nat) (t0 : Nat) (we : Nat) (rd : Nat) (ru : Nat) (rw : Nat) (ca : Nat) (fp : Int32) (wd : Int64) (nu : Int32) (na : Int32) (ts : Int32) (df : Int32) (db : Int32) (sd : Int32) (ftext : Nat → Int32) (q0 : Int64) (ht : t0 ≤ tx) (htx : tx ≤ 240) : CWi l D k st lo yX8_needs cX8_needs 3 (some .int) ({ frames := 2, cells := 0, slots := 0, locals := 46 }) 0 0 [.ref (a 0), .long q0] [((a 0), .inr (8, (fX8 a (nI tx) fp (nI t0) wd (nI we) nu na (nI rd) ts (nI ru) (nI rw) (nI ca) df db sd))), (aI k (a 5) 240 ftext)] (fun (r : Int32) (u : Nat × Int64 × Nat × Int32 × Nat) => match u with | (t0_, wd_, we_, fp_, er) => r = nI er ∧ er ≤ 1 ∧ t0 ≤ t0_ ∧ t0_ ≤ tx ∧ we_ ≤ tx) (fun (u : Nat × Int64 × Nat × Int32 × Nat) => match u with | (t0_, wd_, we_, fp_, er) => [((a 0), .inr (8, (fX8 a (nI tx) fp_ (nI t0_) wd_ (nI we_) nu na (nI rd) ts (nI ru) (nI rw) (nI ca) df db sd))), (aI k (a 5) 240 ftext)]) := by
  intro sz
  refine Met.ofW (cc := cX8_needs) (maxL := 3) (ret := (some .int)) (by decide) rfl ?_
  intro p e s m args below meth c s₁ B hml hv
  obtain ⟨rfl, hsz, hlo, hP, hK, hDL, hZ⟩ := hv
  have hx := B.exec
  have hb := B.bytes
  have hr := B.returns
  have hts := WS_ts B.pre
  have hown : s.vm.findClass RX8 = some m.cls := findClass_of_methodNamed B.named
  have hlocks := B.notSynchronized
  subst hsz
  have hD := hDL.self (sz := s.heap.size)
  have hAlo := A_lo hDL hlo
  generalize hAe : va_A [((a 0), .inr (8, (fX8 a (nI tx) fp (nI t0) wd (nI we) nu na (nI rd) ts (nI ru) (nI rw) (nI ca) df db sd))), (aI k (a 5) 240 ftext)] s.heap.size = A at hD hAlo ⊢
  have hA : ∀ q : Nat, s.heap.size ≤ q → A q := fun q h => by rw [← hAe]; exact Or.inr h
  have hS : va_S A s.heap s.heap [] := va_S.rf
  have hl := lv_entry ([.ref (a 0), .long q0]) (n := 3) (Nat.le_of_ble_eq_true rfl)
  rw [lg_entry_eq]
  generalize (lg_sl ([.ref (a 0), .long q0]) ++ List.replicate (3 - (lg_sl ([.ref (a 0), .long q0])).length) Slot.unset).toArray = ls at hl ⊢
  have hl : lv_has ls 3 [(0, .ref (a 0)), (1, .long q0)] := hl
  refine lv_aload_n hx hb dX8_needs_0 rfl (lv_at hl 0 rfl) ?_
  refine rw_v (D := D) (wr := []) (va_runV (As := []) (rest := []) ⟨hx, hb, hml, hown, hts⟩ ((m_readWord l D k st lo a tx t0 we rd ru rw ca fp wd nu na ts df db sd ftext (by omega) (by omega)) s.heap.size) (cwV 0 hts (gV tw_1128 tw_1130 tw_29 tw_87 tw_1131) rfl rfl rfl (by decide +kernel) ⟨Nat.le_of_ble_eq_true rfl, Nat.le_of_ble_eq_true rfl⟩) (pV hS hAlo hlo hP hK (va_Dlo hD hAlo) hZ [0, 1] (by decide) rfl (ci := 8) (q := (RX8, TX8, 44)) (q0 := 0) rfl rfl) rfl rfl hl.1 rfl (lv_room (Nat.le_of_ble_eq_true rfl)) dX8_needs_1 ⟨Nat.le_of_ble_eq_true rfl, Nat.le_of_ble_eq_true rfl⟩) hS hA hP hD [0, 1] [] rfl rfl (by decide) (by decide) (fun u H locs hw_1 hP hD hS => ?_)
  obtain ⟨t0__1, wd__1, we__1⟩ := u
  replace hP : va_P D classes [((a 0), .inr (8, (fX8 a (nI tx) fp (nI t0__1) wd__1 (nI we__1) nu na (nI rd) ts (nI ru) (nI rw) (nI ca) df db sd))), (aI k (a 5) 240 ftext)] H := hP
  replace hD : va_D A [((a 0), .inr (8, (fX8 a (nI tx) fp (nI t0__1) wd__1 (nI we__1) nu na (nI rd) ts (nI ru) (nI rw) (nI ca) df db sd))), (aI k (a 5) 240 ftext)] := hD
  try dsimp only at hw_1
  refine lv_aload_n hx hb dX8_needs_4 rfl (lv_at hl 0 rfl) ?_
  refine va_get (D := D) (ci := 8) (v := .long wd__1) (C := RX8) (T := TX8) (N := 44) hx hb hts inX8 hown hK hP 0 rfl rfl 8 (by decide) (hts _ tw_981) (fun _ h9 => h9) rfl dX8_needs_5 ?_
  refine lv_lload_n hx hb dX8_needs_8 rfl (lv_at hl 1 rfl) ?_
  refine W.lcmp hx hb dX8_needs_9 ?_
  refine lv_if_eq (tgt := 23) hx hb dX8_needs_10 (by decide) (fun c_2 => ?_) (fun c_2 => ?_)
  · refine lv_aload_n hx hb dX8_needs_23 rfl (lv_at hl 0 rfl) ?_
    refine lv_aload_n hx hb dX8_needs_24 rfl (lv_at hl 0 rfl) ?_
    refine va_get (D := D) (ci := 8) (v := .int (nI we__1)) (C := RX8) (T := TX8) (N := 44) hx hb hts inX8 hown hK hP 0 rfl rfl 9 (by decide) (hts _ tw_982) (fun _ h9 => h9) rfl dX8_needs_25 ?_
    refine va_put (D := D) (ci := 8) (v := .int (nI we__1)) (ty := .int) (C := RX8) (T := TX8) (N := 44) hx hb hts inX8 tyX8 tyX8_ok nmX8 hown hK hP hD hS 0 rfl rfl 7 (by decide) (hts _ tw_980) (fun _ h9 => h9) rfl (by decide +kernel) rfl rfl (Nat.le_of_ble_eq_true rfl) dX8_needs_28 (fun H locs hP hD hS => ?_)
    replace hP : va_P D classes [((a 0), .inr (8, (fX8 a (nI tx) fp (nI we__1) wd__1 (nI we__1) nu na (nI rd) ts (nI ru) (nI rw) (nI ca) df db sd))), (aI k (a 5) 240 ftext)] H := hP
    replace hD : va_D A [((a 0), .inr (8, (fX8 a (nI tx) fp (nI we__1) wd__1 (nI we__1) nu na (nI rd) ts (nI ru) (nI rw) (nI ca) df db sd))), (aI k (a 5) 240 ftext)] := hD
    refine lv_iconst (v := 0) hx hb dX8_needs_31 (by decide) ?_
    have hP9 := hP.sub (ws' := [((a 0), .inr (8, (fX8 a (nI tx) fp (nI we__1) wd__1 (nI we__1) nu na (nI rd) ts (nI ru) (nI rw) (nI ca) df db sd))), (aI k (a 5) 240 ftext)]) [0, 1] rfl
    have hD9 := hD.sub (ws' := [((a 0), .inr (8, (fX8 a (nI tx) fp (nI we__1) wd__1 (nI we__1) nu na (nI rd) ts (nI ru) (nI rw) (nI ca) df db sd))), (aI k (a 5) 240 ftext)]) [0, 1] (by decide) rfl
    exact W.iret (v := 0) hx hb hr (fun t ht hW => ⟨⟨0, (we__1, wd__1, we__1, fp, 0), rfl, ⟨rfl, by omega, by omega, by omega, by omega⟩, by rw [ht]; exact hP9, hD9⟩, hS.F ht⟩) hS.2.2 dX8_needs_32
  · refine lv_aload_n hx hb dX8_needs_13 rfl (lv_at hl 0 rfl) ?_
    refine lv_iconst (v := 1) hx hb dX8_needs_14 (by decide) ?_
    refine lv_aload_n hx hb dX8_needs_15 rfl (lv_at hl 0 rfl) ?_
    refine va_get (D := D) (ci := 8) (v := .int (nI t0__1)) (C := RX8) (T := TX8) (N := 44) hx hb hts inX8 hown hK hP 0 rfl rfl 7 (by decide) (hts _ tw_980) (fun _ h9 => h9) rfl dX8_needs_16 ?_
    refine rw_i (D := D) (wr := [(aI k (a 5) 240 ftext)]) (va_runV (As := [.int 1, .int (nI t0__1)]) (rest := []) ⟨hx, hb, hml, hown, hts⟩ ((m_fails l D k st lo a tx t0__1 we__1 rd ru rw ca fp wd__1 nu na ts df db sd 1 (nI t0__1)) H.size) (cwV 2 hts (gV tw_1151 tw_1153 tw_31 tw_87 tw_1154) rfl rfl rfl (by decide +kernel) ⟨Nat.le_of_ble_eq_true rfl, Nat.le_of_ble_eq_true rfl⟩) (pV hS hAlo hlo hP hK (va_Dlo hD hAlo) hZ [0] (by decide) rfl (ci := 8) (q := (RX8, TX8, 44)) (q0 := 0) rfl rfl) rfl rfl hl.1 rfl (lv_room (Nat.le_of_ble_eq_true rfl)) dX8_needs_19 ⟨Nat.le_of_ble_eq_true rfl, Nat.le_of_ble_eq_true rfl⟩) hS hA hP hD [0] [1] rfl rfl (by decide) (by decide) (fun r_3 u H locs hw_3 hP hD hS => ?_)
    obtain ⟨fp__3, rfl⟩ : ∃ z, z = u := ⟨_, rfl⟩
    replace hP : va_P D classes [(aI k (a 5) 240 ftext), ((a 0), .inr (8, (fX8 a (nI tx) fp__3 (nI t0__1) wd__1 (nI we__1) nu na (nI rd) ts (nI ru) (nI rw) (nI ca) df db sd)))] H := hP
    replace hD : va_D A [(aI k (a 5) 240 ftext), ((a 0), .inr (8, (fX8 a (nI tx) fp__3 (nI t0__1) wd__1 (nI we__1) nu na (nI rd) ts (nI ru) (nI rw) (nI ca) df db sd)))] := hD
    try dsimp only at hw_3
    subst hw_3
    have hP9 := hP.sub (ws' := [((a 0), .inr (8, (fX8 a (nI tx) fp__3 (nI t0__1) wd__1 (nI we__1) nu na (nI rd) ts (nI ru) (nI rw) (nI ca) df db sd))), (aI k (a 5) 240 ftext)]) [1, 0] rfl
    have hD9 := hD.sub (ws' := [((a 0), .inr (8, (fX8 a (nI tx) fp__3 (nI t0__1) wd__1 (nI we__1) nu na (nI rd) ts (nI ru) (nI rw) (nI ca) df db sd))), (aI k (a 5) 240 ftext)]) [1, 0] (by decide) rfl
    exact W.iret (v := 1) hx hb hr (fun t ht hW => ⟨⟨1, (t0__1, wd__1, we__1, fp__3, 1), rfl, ⟨rfl, by omega, by omega, by omega, by omega⟩, by rw [ht]; exact hP9, hD9⟩, hS.F ht⟩) hS.2.2 dX8_needs_22

theorem dX8_takeFigures_0 : decode cX8_takeFigures 0 = .ok (.aload_n 0, 1) := by decide +kernel
theorem dX8_takeFigures_1 : decode cX8_takeFigures 1 = .ok (.getfield 118, 3) := by decide +kernel
theorem dX8_takeFigures_4 : decode cX8_takeFigures 4 = .ok (.istore 5, 2) := by decide +kernel
theorem dX8_takeFigures_6 : decode cX8_takeFigures 6 = .ok (.aload_n 0, 1) := by decide +kernel
theorem dX8_takeFigures_7 : decode cX8_takeFigures 7 = .ok (.iconst 0, 1) := by decide +kernel
theorem dX8_takeFigures_8 : decode cX8_takeFigures 8 = .ok (.putfield 163, 3) := by decide +kernel
theorem dX8_takeFigures_11 : decode cX8_takeFigures 11 = .ok (.aload_n 0, 1) := by decide +kernel
theorem dX8_takeFigures_12 : decode cX8_takeFigures 12 = .ok (.getfield 118, 3) := by decide +kernel
theorem dX8_takeFigures_15 : decode cX8_takeFigures 15 = .ok (.aload_n 0, 1) := by decide +kernel
theorem dX8_takeFigures_16 : decode cX8_takeFigures 16 = .ok (.getfield 113, 3) := by decide +kernel
theorem dX8_takeFigures_19 : decode cX8_takeFigures 19 = .ok (.if_icmp .ge 79, 3) := by decide +kernel
theorem dX8_takeFigures_22 : decode cX8_takeFigures 22 = .ok (.aload_n 0, 1) := by decide +kernel
theorem dX8_takeFigures_23 : decode cX8_takeFigures 23 = .ok (.getfield 22, 3) := by decide +kernel
theorem dX8_takeFigures_26 : decode cX8_takeFigures 26 = .ok (.aload_n 0, 1) := by decide +kernel
theorem dX8_takeFigures_27 : decode cX8_takeFigures 27 = .ok (.getfield 118, 3) := by decide +kernel
theorem dX8_takeFigures_30 : decode cX8_takeFigures 30 = .ok (.iaload, 1) := by decide +kernel
theorem dX8_takeFigures_31 : decode cX8_takeFigures 31 = .ok (.i2l, 1) := by decide +kernel
theorem dX8_takeFigures_32 : decode cX8_takeFigures 32 = .ok (.ldc2_w 166, 3) := by decide +kernel
theorem dX8_takeFigures_35 : decode cX8_takeFigures 35 = .ok (.ldc2_w 168, 3) := by decide +kernel
theorem dX8_takeFigures_38 : decode cX8_takeFigures 38 = .ok (.invokestatic 107, 3) := by decide +kernel
theorem dX8_takeFigures_41 : decode cX8_takeFigures 41 = .ok (.ifCond .eq 57, 3) := by decide +kernel
theorem dX8_takeFigures_44 : decode cX8_takeFigures 44 = .ok (.aload_n 0, 1) := by decide +kernel
theorem dX8_takeFigures_45 : decode cX8_takeFigures 45 = .ok (.aload_n 0, 1) := by decide +kernel
theorem dX8_takeFigures_46 : decode cX8_takeFigures 46 = .ok (.getfield 163, 3) := by decide +kernel
theorem dX8_takeFigures_49 : decode cX8_takeFigures 49 = .ok (.sipush 10000, 3) := by decide +kernel
theorem dX8_takeFigures_52 : decode cX8_takeFigures 52 = .ok (.if_icmp .le 10, 3) := by decide +kernel
theorem dX8_takeFigures_55 : decode cX8_takeFigures 55 = .ok (.aload_n 0, 1) := by decide +kernel
theorem dX8_takeFigures_56 : decode cX8_takeFigures 56 = .ok (.getfield 163, 3) := by decide +kernel
theorem dX8_takeFigures_59 : decode cX8_takeFigures 59 = .ok (.goto 23, 3) := by decide +kernel
theorem dX8_takeFigures_62 : decode cX8_takeFigures 62 = .ok (.bipush 10, 2) := by decide +kernel
theorem dX8_takeFigures_64 : decode cX8_takeFigures 64 = .ok (.aload_n 0, 1) := by decide +kernel
theorem dX8_takeFigures_65 : decode cX8_takeFigures 65 = .ok (.getfield 163, 3) := by decide +kernel
theorem dX8_takeFigures_68 : decode cX8_takeFigures 68 = .ok (.imul, 1) := by decide +kernel
theorem dX8_takeFigures_69 : decode cX8_takeFigures 69 = .ok (.aload_n 0, 1) := by decide +kernel
theorem dX8_takeFigures_70 : decode cX8_takeFigures 70 = .ok (.getfield 22, 3) := by decide +kernel
theorem dX8_takeFigures_73 : decode cX8_takeFigures 73 = .ok (.aload_n 0, 1) := by decide +kernel
theorem dX8_takeFigures_74 : decode cX8_takeFigures 74 = .ok (.getfield 118, 3) := by decide +kernel
theorem dX8_takeFigures_77 : decode cX8_takeFigures 77 = .ok (.iaload, 1) := by decide +kernel
theorem dX8_takeFigures_78 : decode cX8_takeFigures 78 = .ok (.iadd, 1) := by decide +kernel
theorem dX8_takeFigures_79 : decode cX8_takeFigures 79 = .ok (.bipush 48, 2) := by decide +kernel
theorem dX8_takeFigures_81 : decode cX8_takeFigures 81 = .ok (.isub, 1) := by decide +kernel
theorem dX8_takeFigures_82 : decode cX8_takeFigures 82 = .ok (.putfield 163, 3) := by decide +kernel
theorem dX8_takeFigures_85 : decode cX8_takeFigures 85 = .ok (.aload_n 0, 1) := by decide +kernel
theorem dX8_takeFigures_86 : decode cX8_takeFigures 86 = .ok (.dup, 1) := by decide +kernel
theorem dX8_takeFigures_87 : decode cX8_takeFigures 87 = .ok (.getfield 118, 3) := by decide +kernel
theorem dX8_takeFigures_90 : decode cX8_takeFigures 90 = .ok (.iconst 1, 1) := by decide +kernel
theorem dX8_takeFigures_91 : decode cX8_takeFigures 91 = .ok (.iadd, 1) := by decide +kernel
theorem dX8_takeFigures_92 : decode cX8_takeFigures 92 = .ok (.putfield 118, 3) := by decide +kernel
theorem dX8_takeFigures_95 : decode cX8_takeFigures 95 = .ok (.goto (-84), 3) := by decide +kernel
theorem dX8_takeFigures_98 : decode cX8_takeFigures 98 = .ok (.aload_n 0, 1) := by decide +kernel
theorem dX8_takeFigures_99 : decode cX8_takeFigures 99 = .ok (.getfield 118, 3) := by decide +kernel
theorem dX8_takeFigures_102 : decode cX8_takeFigures 102 = .ok (.iload 5, 2) := by decide +kernel
theorem dX8_takeFigures_104 : decode cX8_takeFigures 104 = .ok (.if_icmp .ne 11, 3) := by decide +kernel
theorem dX8_takeFigures_107 : decode cX8_takeFigures 107 = .ok (.aload_n 0, 1) := by decide +kernel
theorem dX8_takeFigures_108 : decode cX8_takeFigures 108 = .ok (.iconst 1, 1) := by decide +kernel
theorem dX8_takeFigures_109 : decode cX8_takeFigures 109 = .ok (.iload 5, 2) := by decide +kernel
theorem dX8_takeFigures_111 : decode cX8_takeFigures 111 = .ok (.invokevirtual 159, 3) := by decide +kernel
theorem dX8_takeFigures_114 : decode cX8_takeFigures 114 = .ok (.ireturn, 1) := by decide +kernel
theorem dX8_takeFigures_115 : decode cX8_takeFigures 115 = .ok (.aload_n 0, 1) := by decide +kernel
theorem dX8_takeFigures_116 : decode cX8_takeFigures 116 = .ok (.getfield 118, 3) := by decide +kernel
theorem dX8_takeFigures_119 : decode cX8_takeFigures 119 = .ok (.iload 5, 2) := by decide +kernel
theorem dX8_takeFigures_121 : decode cX8_takeFigures 121 = .ok (.isub, 1) := by decide +kernel
theorem dX8_takeFigures_122 : decode cX8_takeFigures 122 = .ok (.istore 6, 2) := by decide +kernel
theorem dX8_takeFigures_124 : decode cX8_takeFigures 124 = .ok (.aload_n 0, 1) := by decide +kernel
theorem dX8_takeFigures_125 : decode cX8_takeFigures 125 = .ok (.iload 4, 2) := by decide +kernel
theorem dX8_takeFigures_127 : decode cX8_takeFigures 127 = .ok (.ifCond .eq 11, 3) := by decide +kernel
theorem dX8_takeFigures_130 : decode cX8_takeFigures 130 = .ok (.aload_n 0, 1) := by decide +kernel
theorem dX8_takeFigures_131 : decode cX8_takeFigures 131 = .ok (.getfield 163, 3) := by decide +kernel
theorem dX8_takeFigures_134 : decode cX8_takeFigures 134 = .ok (.ineg, 1) := by decide +kernel
theorem dX8_takeFigures_135 : decode cX8_takeFigures 135 = .ok (.goto 7, 3) := by decide +kernel
theorem dX8_takeFigures_138 : decode cX8_takeFigures 138 = .ok (.aload_n 0, 1) := by decide +kernel
theorem dX8_takeFigures_139 : decode cX8_takeFigures 139 = .ok (.getfield 163, 3) := by decide +kernel
theorem dX8_takeFigures_142 : decode cX8_takeFigures 142 = .ok (.putfield 163, 3) := by decide +kernel
theorem dX8_takeFigures_145 : decode cX8_takeFigures 145 = .ok (.iload 6, 2) := by decide +kernel
theorem dX8_takeFigures_147 : decode cX8_takeFigures 147 = .ok (.iconst 3, 1) := by decide +kernel
theorem dX8_takeFigures_148 : decode cX8_takeFigures 148 = .ok (.if_icmp .gt 18, 3) := by decide +kernel
theorem dX8_takeFigures_151 : decode cX8_takeFigures 151 = .ok (.aload_n 0, 1) := by decide +kernel
theorem dX8_takeFigures_152 : decode cX8_takeFigures 152 = .ok (.getfield 163, 3) := by decide +kernel
theorem dX8_takeFigures_155 : decode cX8_takeFigures 155 = .ok (.i2l, 1) := by decide +kernel
theorem dX8_takeFigures_156 : decode cX8_takeFigures 156 = .ok (.iload_n 2, 1) := by decide +kernel
theorem dX8_takeFigures_157 : decode cX8_takeFigures 157 = .ok (.i2l, 1) := by decide +kernel
theorem dX8_takeFigures_158 : decode cX8_takeFigures 158 = .ok (.iload_n 3, 1) := by decide +kernel
theorem dX8_takeFigures_159 : decode cX8_takeFigures 159 = .ok (.i2l, 1) := by decide +kernel
theorem dX8_takeFigures_160 : decode cX8_takeFigures 160 = .ok (.invokestatic 107, 3) := by decide +kernel
theorem dX8_takeFigures_163 : decode cX8_takeFigures 163 = .ok (.ifCond .ne 12, 3) := by decide +kernel
theorem dX8_takeFigures_166 : decode cX8_takeFigures 166 = .ok (.aload_n 0, 1) := by decide +kernel
theorem dX8_takeFigures_167 : decode cX8_takeFigures 167 = .ok (.iconst 2, 1) := by decide +kernel
theorem dX8_takeFigures_168 : decode cX8_takeFigures 168 = .ok (.iload_n 1, 1) := by decide +kernel
theorem dX8_takeFigures_169 : decode cX8_takeFigures 169 = .ok (.invokevirtual 159, 3) := by decide +kernel
theorem dX8_takeFigures_172 : decode cX8_takeFigures 172 = .ok (.goto 4, 3) := by decide +kernel
theorem dX8_takeFigures_175 : decode cX8_takeFigures 175 = .ok (.iconst 0, 1) := by decide +kernel
theorem dX8_takeFigures_176 : decode cX8_takeFigures 176 = .ok (.ireturn, 1) := by decide +kernel
set_option maxHeartbeats 4000000 in
set_option maxRecDepth 100000 in
theorem m_takeFigures (l : Launch) (D : va_G) (k : Nat → ClassId) (st : Nat → Nat) (lo : Nat) (a : Nat → Nat) (tx : Nat) (t0 : Nat) (we : Nat) (rd : Nat) (ru : Nat) (rw : Nat) (ca : Nat) (fp : Int32) (wd : Int64) (nu : Int32) (na : Int32) (ts : Int32) (df : Int32) (db : Int32) (sd : Int32) (ftext : Nat → Int32) (p0 : Int32) (p1 : Int32) (p2 : Int32) (p3 : Int32) (ht : t0 ≤ tx) (htx : tx ≤ 240) : CWi l D k st lo yX8_takeFigures cX8_takeFigures 7 (some .int) ({ frames := 1, cells := 0, slots := 0, locals := 25 }) 0 0 [.ref (a 0), .int p0, .int p1, .int p2, .int p3] [((a 0), .inr (8, (fX8 a (nI tx) fp (nI t0) wd (nI we) nu na (nI rd) ts (nI ru) (nI rw) (nI ca) df db sd))), (aI k (a 5) 240 ftext)] (fun (r : Int32) (u : Nat × Int32 × Int32 × Nat) => match u with | (t0_, nu_, fp_, er) => r = nI er ∧ er ≤ 2 ∧ t0 ≤ t0_ ∧ t0_ ≤ tx ∧ (er = 0 → t0 < t0_) ∧ (er = 0 → inB nu_ p1 p2)) (fun (u : Nat × Int32 × Int32 × Nat) => match u with | (t0_, nu_, fp_, er) => [((a 0), .inr (8, (fX8 a (nI tx) fp_ (nI t0_) wd (nI we) nu_ na (nI rd) ts (nI ru) (nI rw) (nI ca) df db sd))), (aI k (a 5) 240 ftext)]) := by
  intro sz
  refine Met.ofW (cc := cX8_takeFigures) (maxL := 7) (ret := (some .int)) (by decide) rfl ?_
  intro p e s m args below meth c s₁ B hml hv
  obtain ⟨rfl, hsz, hlo, hP, hK, hDL, hZ⟩ := hv
  have hx := B.exec
  have hb := B.bytes
  have hr := B.returns
  have hts := WS_ts B.pre
  have hown : s.vm.findClass RX8 = some m.cls := findClass_of_methodNamed B.named
  have hlocks := B.notSynchronized
  subst hsz
  have hD := hDL.self (sz := s.heap.size)
  have hAlo := A_lo hDL hlo
  generalize hAe : va_A [((a 0), .inr (8, (fX8 a (nI tx) fp (nI t0) wd (nI we) nu na (nI rd) ts (nI ru) (nI rw) (nI ca) df db sd))), (aI k (a 5) 240 ftext)] s.heap.size = A at hD hAlo ⊢
  have hA : ∀ q : Nat, s.heap.size ≤ q → A q := fun q h => by rw [← hAe]; exact Or.inr h
  have hS : va_S A s.heap s.heap [] := va_S.rf
  have hl := lv_entry ([.ref (a 0), .int p0, .int p1, .int p2, .int p3]) (n := 7) (Nat.le_of_ble_eq_true rfl)
  rw [lg_entry_eq]
  generalize (lg_sl ([.ref (a 0), .int p0, .int p1, .int p2, .int p3]) ++ List.replicate (7 - (lg_sl ([.ref (a 0), .int p0, .int p1, .int p2, .int p3])).length) Slot.unset).toArray = ls at hl ⊢
  have hl : lv_has ls 7 [(0, .ref (a 0)), (1, .int p0), (2, .int p1), (3, .int p2), (4, .int p3)] := hl
  refine lv_aload_n hx hb dX8_takeFigures_0 rfl (lv_at hl 0 rfl) ?_
  refine va_get (D := D) (ci := 8) (v := .int (nI t0)) (C := RX8) (T := TX8) (N := 44) hx hb hts inX8 hown hK hP 0 rfl rfl 7 (by decide) (hts _ tw_980) (fun _ h9 => h9) rfl dX8_takeFigures_1 ?_
  refine lv_istore (lv' := [(5, .int (nI t0)), (0, .ref (a 0)), (1, .int p0), (2, .int p1), (3, .int p2), (4, .int p3)]) hx hb dX8_takeFigures_4 hl (by decide) rfl (fun ls hl => ?_)
  refine lv_aload_n hx hb dX8_takeFigures_6 rfl (lv_at hl 1 rfl) ?_
  refine lv_iconst (v := 0) hx hb dX8_takeFigures_7 (by decide) ?_
  refine va_put (D := D) (ci := 8) (v := .int 0) (ty := .int) (C := RX8) (T := TX8) (N := 44) hx hb hts inX8 tyX8 tyX8_ok nmX8 hown hK hP hD hS 0 rfl rfl 10 (by decide) (hts _ tw_983) (fun _ h9 => h9) rfl (by decide +kernel) rfl rfl (Nat.le_of_ble_eq_true rfl) dX8_takeFigures_8 (fun H locs hP hD hS => ?_)
  replace hP : va_P D classes [((a 0), .inr (8, (fX8 a (nI tx) fp (nI t0) wd (nI we) 0 na (nI rd) ts (nI ru) (nI rw) (nI ca) df db sd))), (aI k (a 5) 240 ftext)] H := hP
  replace hD : va_D A [((a 0), .inr (8, (fX8 a (nI tx) fp (nI t0) wd (nI we) 0 na (nI rd) ts (nI ru) (nI rw) (nI ca) df db sd))), (aI k (a 5) 240 ftext)] := hD
  refine W_loop (σ := Nat × Int32) (fun (n_ : Nat) (x_ : Nat × Int32) (H : Heap) (locs : List Loc) (ls : Array Slot) => match x_ with | (t_1, nu2_1) => n_ = tx - t_1 ∧ (t0 ≤ t_1 ∧ t_1 ≤ tx) ∧ va_P D classes [((a 0), .inr (8, (fX8 a (nI tx) fp (nI t_1) wd (nI we) nu2_1 na (nI rd) ts (nI ru) (nI rw) (nI ca) df db sd))), (aI k (a 5) 240 ftext)] H ∧ va_D A [((a 0), .inr (8, (fX8 a (nI tx) fp (nI t_1) wd (nI we) nu2_1 na (nI rd) ts (nI ru) (nI rw) (nI ca) df db sd))), (aI k (a 5) 240 ftext)] ∧ va_S A s.heap H locs ∧ lv_has ls 7 [(5, .int (nI t0)), (0, .ref (a 0)), (1, .int p0), (2, .int p1), (3, .int p2), (4, .int p3)]) (fun n_1 x_1 H locs ls hI ih_1 => ?_) _ (t0, 0) ⟨rfl, ⟨by omega, by omega⟩, hP, hD, hS, (lv_sub hl [0, 1, 2, 3, 4, 5] rfl)⟩
  obtain ⟨t_1, nu2_1⟩ := x_1
  obtain ⟨hm_1, hv_1, hP, hD, hS, hl⟩ := hI
  subst hm_1
  refine lv_aload_n hx hb dX8_takeFigures_11 rfl (lv_at hl 1 rfl) ?_
  refine va_get (D := D) (ci := 8) (v := .int (nI t_1)) (C := RX8) (T := TX8) (N := 44) hx hb hts inX8 hown hK hP 0 rfl rfl 7 (by decide) (hts _ tw_980) (fun _ h9 => h9) rfl dX8_takeFigures_12 ?_
  refine lv_aload_n hx hb dX8_takeFigures_15 rfl (lv_at hl 1 rfl) ?_
  refine va_get (D := D) (ci := 8) (v := .int (nI tx)) (C := RX8) (T := TX8) (N := 44) hx hb hts inX8 hown hK hP 0 rfl rfl 5 (by decide) (hts _ tw_978) (fun _ h9 => h9) rfl dX8_takeFigures_16 ?_
  refine lv_icmp_ge (tgt := 98) hx hb dX8_takeFigures_19 (by decide) (fun c_2 => ?_) (fun c_2 => ?_)
  · have c_2 := (nI_leI (a := tx) (b := t_1) (by omega) (by omega)).mp c_2
    refine lv_aload_n hx hb dX8_takeFigures_98 rfl (lv_at hl 1 rfl) ?_
    refine va_get (D := D) (ci := 8) (v := .int (nI t_1)) (C := RX8) (T := TX8) (N := 44) hx hb hts inX8 hown hK hP 0 rfl rfl 7 (by decide) (hts _ tw_980) (fun _ h9 => h9) rfl dX8_takeFigures_99 ?_
    refine lv_iload hx hb dX8_takeFigures_102 (lv_at hl 0 rfl) ?_
    refine lv_icmp_ne (tgt := 115) hx hb dX8_takeFigures_104 (by decide) (fun c_3 => ?_) (fun c_3 => ?_)
    · have c_3 : ¬ (t_1 = t0) := fun h => c_3 ((nI_eq (a := t_1) (b := t0) (by omega) (by omega)).mpr h)
      refine lv_aload_n hx hb dX8_takeFigures_115 rfl (lv_at hl 1 rfl) ?_
      refine va_get (D := D) (ci := 8) (v := .int (nI t_1)) (C := RX8) (T := TX8) (N := 44) hx hb hts inX8 hown hK hP 0 rfl rfl 7 (by decide) (hts _ tw_980) (fun _ h9 => h9) rfl dX8_takeFigures_116 ?_
      refine lv_iload hx hb dX8_takeFigures_119 (lv_at hl 0 rfl) ?_
      refine lv_isub hx hb dX8_takeFigures_121 ?_
      refine lv_ti (y := (nI (t_1 - t0))) (pk_sub (a := t_1) (b := t0) (by omega)) ?_
      refine lv_istore (lv' := [(6, .int (nI (t_1 - t0))), (5, .int (nI t0)), (0, .ref (a 0)), (1, .int p0), (2, .int p1), (3, .int p2), (4, .int p3)]) hx hb dX8_takeFigures_122 hl (by decide) rfl (fun ls hl => ?_)
      refine lv_aload_n hx hb dX8_takeFigures_124 rfl (lv_at hl 2 rfl) ?_
      refine lv_iload hx hb dX8_takeFigures_125 (lv_at hl 6 rfl) ?_
      refine lv_if_eq (tgt := 138) hx hb dX8_takeFigures_127 (by decide) (fun c_4 => ?_) (fun c_4 => ?_)
      · refine lv_aload_n hx hb dX8_takeFigures_138 rfl (lv_at hl 2 rfl) ?_
        refine va_get (D := D) (ci := 8) (v := .int nu2_1) (C := RX8) (T := TX8) (N := 44) hx hb hts inX8 hown hK hP 0 rfl rfl 10 (by decide) (hts _ tw_983) (fun _ h9 => h9) rfl dX8_takeFigures_139 ?_
        refine va_put (D := D) (ci := 8) (v := .int nu2_1) (ty := .int) (C := RX8) (T := TX8) (N := 44) hx hb hts inX8 tyX8 tyX8_ok nmX8 hown hK hP hD hS 0 rfl rfl 10 (by decide) (hts _ tw_983) (fun _ h9 => h9) rfl (by decide +kernel) rfl rfl (Nat.le_of_ble_eq_true rfl) dX8_takeFigures_142 (fun H locs hP hD hS => ?_)
        replace hP : va_P D classes [((a 0), .inr (8, (fX8 a (nI tx) fp (nI t_1) wd (nI we) nu2_1 na (nI rd) ts (nI ru) (nI rw) (nI ca) df db sd))), (aI k (a 5) 240 ftext)] H := hP
        replace hD : va_D A [((a 0), .inr (8, (fX8 a (nI tx) fp (nI t_1) wd (nI we) nu2_1 na (nI rd) ts (nI ru) (nI rw) (nI ca) df db sd))), (aI k (a 5) 240 ftext)] := hD
        refine lv_iload hx hb dX8_takeFigures_145 (lv_at hl 0 rfl) ?_
        refine lv_iconst (v := 3) hx hb dX8_takeFigures_147 (by decide) ?_
        refine lv_icmp_gt (tgt := 166) hx hb dX8_takeFigures_148 (by decide) (fun c_5 => ?_) (fun c_5 => ?_)
        · have c_5 := (nI_ltI (a := 3) (b := (t_1 - t0)) (by omega) (by omega)).mp c_5
          refine lv_aload_n hx hb dX8_takeFigures_166 rfl (lv_at hl 2 rfl) ?_
          refine lv_iconst (v := 2) hx hb dX8_takeFigures_167 (by decide) ?_
          refine lv_iload_n hx hb dX8_takeFigures_168 rfl (lv_at hl 3 rfl) ?_
          refine rw_i (D := D) (wr := [(aI k (a 5) 240 ftext)]) (va_runV (As := [.int 2, .int p0]) (rest := []) ⟨hx, hb, hml, hown, hts⟩ ((m_fails l D k st lo a tx t_1 we rd ru rw ca fp wd nu2_1 na ts df db sd 2 p0) H.size) (cwV 2 hts (gV tw_1151 tw_1153 tw_31 tw_87 tw_1154) rfl rfl rfl (by decide +kernel) ⟨Nat.le_of_ble_eq_true rfl, Nat.le_of_ble_eq_true rfl⟩) (pV hS hAlo hlo hP hK (va_Dlo hD hAlo) hZ [0] (by decide) rfl (ci := 8) (q := (RX8, TX8, 44)) (q0 := 0) rfl rfl) rfl rfl hl.1 rfl (lv_room (Nat.le_of_ble_eq_true rfl)) dX8_takeFigures_169 ⟨Nat.le_of_ble_eq_true rfl, Nat.le_of_ble_eq_true rfl⟩) hS hA hP hD [0] [1] rfl rfl (by decide) (by decide) (fun r_6 u H locs hw_6 hP hD hS => ?_)
          obtain ⟨fp__6, rfl⟩ : ∃ z, z = u := ⟨_, rfl⟩
          replace hP : va_P D classes [(aI k (a 5) 240 ftext), ((a 0), .inr (8, (fX8 a (nI tx) fp__6 (nI t_1) wd (nI we) nu2_1 na (nI rd) ts (nI ru) (nI rw) (nI ca) df db sd)))] H := hP
          replace hD : va_D A [(aI k (a 5) 240 ftext), ((a 0), .inr (8, (fX8 a (nI tx) fp__6 (nI t_1) wd (nI we) nu2_1 na (nI rd) ts (nI ru) (nI rw) (nI ca) df db sd)))] := hD
          try dsimp only at hw_6
          subst hw_6
          refine lv_goto (tgt := 176) hx hb dX8_takeFigures_172 (by decide) ?_
          have hP9 := hP.sub (ws' := [((a 0), .inr (8, (fX8 a (nI tx) fp__6 (nI t_1) wd (nI we) nu2_1 na (nI rd) ts (nI ru) (nI rw) (nI ca) df db sd))), (aI k (a 5) 240 ftext)]) [1, 0] rfl
          have hD9 := hD.sub (ws' := [((a 0), .inr (8, (fX8 a (nI tx) fp__6 (nI t_1) wd (nI we) nu2_1 na (nI rd) ts (nI ru) (nI rw) (nI ca) df db sd))), (aI k (a 5) 240 ftext)]) [1, 0] (by decide) rfl
          exact W.iret (v := 2) hx hb hr (fun t ht hW => ⟨⟨2, (t_1, nu2_1, fp__6, 2), rfl, ⟨rfl, by omega, by omega, by omega, by omega, fun h => absurd h (by decide)⟩, by rw [ht]; exact hP9, hD9⟩, hS.F ht⟩) hS.2.2 dX8_takeFigures_176
        · have c_5 : ¬ (3 < (t_1 - t0)) := fun h => c_5 ((nI_ltI (a := 3) (b := (t_1 - t0)) (by omega) (by omega)).mpr h)
          refine lv_aload_n hx hb dX8_takeFigures_151 rfl (lv_at hl 2 rfl) ?_
          refine va_get (D := D) (ci := 8) (v := .int nu2_1) (C := RX8) (T := TX8) (N := 44) hx hb hts inX8 hown hK hP 0 rfl rfl 10 (by decide) (hts _ tw_983) (fun _ h9 => h9) rfl dX8_takeFigures_152 ?_
          refine lv_i2l (v := nu2_1.toInt64) hx hb dX8_takeFigures_155 rfl ?_
          refine lv_iload_n hx hb dX8_takeFigures_156 rfl (lv_at hl 4 rfl) ?_
          refine lv_i2l (v := p1.toInt64) hx hb dX8_takeFigures_157 rfl ?_
          refine lv_iload_n hx hb dX8_takeFigures_158 rfl (lv_at hl 5 rfl) ?_
          refine lv_i2l (v := p2.toInt64) hx hb dX8_takeFigures_159 rfl ?_
          refine ro_i (D := D) (va_runS (As := [.long (nu2_1.toInt64), .long (p1.toInt64), .long (p2.toInt64)]) (rest := []) ⟨hx, hb, hml, hown, hts⟩ ((k_in l D k st lo nu2_1 p1 p2) H.size) (va_cwS 3 hts (gS tw_1111 tw_1112 tw_87 tw_1113) rfl rfl rfl (by decide +kernel) ⟨Nat.le_of_ble_eq_true rfl, Nat.le_of_ble_eq_true rfl⟩) (pS hS hAlo hlo hP hK (va_Dlo hD hAlo) hZ [] (by decide) rfl) rfl rfl hl.1 rfl (lv_room (Nat.le_of_ble_eq_true rfl)) dX8_takeFigures_160 ⟨Nat.le_of_ble_eq_true rfl, Nat.le_of_ble_eq_true rfl⟩) hS hA hP (fun r_7 H locs hw_7 hP hS => ?_)
          try dsimp only at hw_7
          rcases hw_7 with ⟨rfl, hw_7⟩ | ⟨rfl, hw_7⟩
          · refine lv_if_ne (tgt := 175) hx hb dX8_takeFigures_163 (by decide) (fun _ => ?_) (fun h => absurd h (by decide))
            refine lv_iconst (v := 0) hx hb dX8_takeFigures_175 (by decide) ?_
            have hP9 := hP.sub (ws' := [((a 0), .inr (8, (fX8 a (nI tx) fp (nI t_1) wd (nI we) nu2_1 na (nI rd) ts (nI ru) (nI rw) (nI ca) df db sd))), (aI k (a 5) 240 ftext)]) [0, 1] rfl
            have hD9 := hD.sub (ws' := [((a 0), .inr (8, (fX8 a (nI tx) fp (nI t_1) wd (nI we) nu2_1 na (nI rd) ts (nI ru) (nI rw) (nI ca) df db sd))), (aI k (a 5) 240 ftext)]) [0, 1] (by decide) rfl
            exact W.iret (v := 0) hx hb hr (fun t ht hW => ⟨⟨0, (t_1, nu2_1, fp, 0), rfl, ⟨rfl, by omega, by omega, by omega, by omega, fun _ => hw_7⟩, by rw [ht]; exact hP9, hD9⟩, hS.F ht⟩) hS.2.2 dX8_takeFigures_176
          · refine lv_if_ne (tgt := 175) hx hb dX8_takeFigures_163 (by decide) (fun h => absurd (by decide) h) (fun _ => ?_)
            refine lv_aload_n hx hb dX8_takeFigures_166 rfl (lv_at hl 2 rfl) ?_
            refine lv_iconst (v := 2) hx hb dX8_takeFigures_167 (by decide) ?_
            refine lv_iload_n hx hb dX8_takeFigures_168 rfl (lv_at hl 3 rfl) ?_
            refine rw_i (D := D) (wr := [(aI k (a 5) 240 ftext)]) (va_runV (As := [.int 2, .int p0]) (rest := []) ⟨hx, hb, hml, hown, hts⟩ ((m_fails l D k st lo a tx t_1 we rd ru rw ca fp wd nu2_1 na ts df db sd 2 p0) H.size) (cwV 2 hts (gV tw_1151 tw_1153 tw_31 tw_87 tw_1154) rfl rfl rfl (by decide +kernel) ⟨Nat.le_of_ble_eq_true rfl, Nat.le_of_ble_eq_true rfl⟩) (pV hS hAlo hlo hP hK (va_Dlo hD hAlo) hZ [0] (by decide) rfl (ci := 8) (q := (RX8, TX8, 44)) (q0 := 0) rfl rfl) rfl rfl hl.1 rfl (lv_room (Nat.le_of_ble_eq_true rfl)) dX8_takeFigures_169 ⟨Nat.le_of_ble_eq_true rfl, Nat.le_of_ble_eq_true rfl⟩) hS hA hP hD [0] [1] rfl rfl (by decide) (by decide) (fun r_8 u H locs hw_8 hP hD hS => ?_)
            obtain ⟨fp__8, rfl⟩ : ∃ z, z = u := ⟨_, rfl⟩
            replace hP : va_P D classes [(aI k (a 5) 240 ftext), ((a 0), .inr (8, (fX8 a (nI tx) fp__8 (nI t_1) wd (nI we) nu2_1 na (nI rd) ts (nI ru) (nI rw) (nI ca) df db sd)))] H := hP
            replace hD : va_D A [(aI k (a 5) 240 ftext), ((a 0), .inr (8, (fX8 a (nI tx) fp__8 (nI t_1) wd (nI we) nu2_1 na (nI rd) ts (nI ru) (nI rw) (nI ca) df db sd)))] := hD
            try dsimp only at hw_8
            subst hw_8
            refine lv_goto (tgt := 176) hx hb dX8_takeFigures_172 (by decide) ?_
            have hP9 := hP.sub (ws' := [((a 0), .inr (8, (fX8 a (nI tx) fp__8 (nI t_1) wd (nI we) nu2_1 na (nI rd) ts (nI ru) (nI rw) (nI ca) df db sd))), (aI k (a 5) 240 ftext)]) [1, 0] rfl
            have hD9 := hD.sub (ws' := [((a 0), .inr (8, (fX8 a (nI tx) fp__8 (nI t_1) wd (nI we) nu2_1 na (nI rd) ts (nI ru) (nI rw) (nI ca) df db sd))), (aI k (a 5) 240 ftext)]) [1, 0] (by decide) rfl
            exact W.iret (v := 2) hx hb hr (fun t ht hW => ⟨⟨2, (t_1, nu2_1, fp__8, 2), rfl, ⟨rfl, by omega, by omega, by omega, by omega, fun h => absurd h (by decide)⟩, by rw [ht]; exact hP9, hD9⟩, hS.F ht⟩) hS.2.2 dX8_takeFigures_176
      · refine lv_aload_n hx hb dX8_takeFigures_130 rfl (lv_at hl 2 rfl) ?_
        refine va_get (D := D) (ci := 8) (v := .int nu2_1) (C := RX8) (T := TX8) (N := 44) hx hb hts inX8 hown hK hP 0 rfl rfl 10 (by decide) (hts _ tw_983) (fun _ h9 => h9) rfl dX8_takeFigures_131 ?_
        refine lv_ineg hx hb dX8_takeFigures_134 ?_
        refine lv_topi (fun x_9 ex_9 => ?_)
        refine lv_goto (tgt := 142) hx hb dX8_takeFigures_135 (by decide) ?_
        refine va_put (D := D) (ci := 8) (v := .int x_9) (ty := .int) (C := RX8) (T := TX8) (N := 44) hx hb hts inX8 tyX8 tyX8_ok nmX8 hown hK hP hD hS 0 rfl rfl 10 (by decide) (hts _ tw_983) (fun _ h9 => h9) rfl (by decide +kernel) rfl rfl (Nat.le_of_ble_eq_true rfl) dX8_takeFigures_142 (fun H locs hP hD hS => ?_)
        replace hP : va_P D classes [((a 0), .inr (8, (fX8 a (nI tx) fp (nI t_1) wd (nI we) x_9 na (nI rd) ts (nI ru) (nI rw) (nI ca) df db sd))), (aI k (a 5) 240 ftext)] H := hP
        replace hD : va_D A [((a 0), .inr (8, (fX8 a (nI tx) fp (nI t_1) wd (nI we) x_9 na (nI rd) ts (nI ru) (nI rw) (nI ca) df db sd))), (aI k (a 5) 240 ftext)] := hD
        refine lv_iload hx hb dX8_takeFigures_145 (lv_at hl 0 rfl) ?_
        refine lv_iconst (v := 3) hx hb dX8_takeFigures_147 (by decide) ?_
        refine lv_icmp_gt (tgt := 166) hx hb dX8_takeFigures_148 (by decide) (fun c_10 => ?_) (fun c_10 => ?_)
        · have c_10 := (nI_ltI (a := 3) (b := (t_1 - t0)) (by omega) (by omega)).mp c_10
          refine lv_aload_n hx hb dX8_takeFigures_166 rfl (lv_at hl 2 rfl) ?_
          refine lv_iconst (v := 2) hx hb dX8_takeFigures_167 (by decide) ?_
          refine lv_iload_n hx hb dX8_takeFigures_168 rfl (lv_at hl 3 rfl) ?_
          refine rw_i (D := D) (wr := [(aI k (a 5) 240 ftext)]) (va_runV (As := [.int 2, .int p0]) (rest := []) ⟨hx, hb, hml, hown, hts⟩ ((m_fails l D k st lo a tx t_1 we rd ru rw ca fp wd x_9 na ts df db sd 2 p0) H.size) (cwV 2 hts (gV tw_1151 tw_1153 tw_31 tw_87 tw_1154) rfl rfl rfl (by decide +kernel) ⟨Nat.le_of_ble_eq_true rfl, Nat.le_of_ble_eq_true rfl⟩) (pV hS hAlo hlo hP hK (va_Dlo hD hAlo) hZ [0] (by decide) rfl (ci := 8) (q := (RX8, TX8, 44)) (q0 := 0) rfl rfl) rfl rfl hl.1 rfl (lv_room (Nat.le_of_ble_eq_true rfl)) dX8_takeFigures_169 ⟨Nat.le_of_ble_eq_true rfl, Nat.le_of_ble_eq_true rfl⟩) hS hA hP hD [0] [1] rfl rfl (by decide) (by decide) (fun r_11 u H locs hw_11 hP hD hS => ?_)
          obtain ⟨fp__11, rfl⟩ : ∃ z, z = u := ⟨_, rfl⟩
          replace hP : va_P D classes [(aI k (a 5) 240 ftext), ((a 0), .inr (8, (fX8 a (nI tx) fp__11 (nI t_1) wd (nI we) x_9 na (nI rd) ts (nI ru) (nI rw) (nI ca) df db sd)))] H := hP
          replace hD : va_D A [(aI k (a 5) 240 ftext), ((a 0), .inr (8, (fX8 a (nI tx) fp__11 (nI t_1) wd (nI we) x_9 na (nI rd) ts (nI ru) (nI rw) (nI ca) df db sd)))] := hD
          try dsimp only at hw_11
          subst hw_11
          refine lv_goto (tgt := 176) hx hb dX8_takeFigures_172 (by decide) ?_
          have hP9 := hP.sub (ws' := [((a 0), .inr (8, (fX8 a (nI tx) fp__11 (nI t_1) wd (nI we) x_9 na (nI rd) ts (nI ru) (nI rw) (nI ca) df db sd))), (aI k (a 5) 240 ftext)]) [1, 0] rfl
          have hD9 := hD.sub (ws' := [((a 0), .inr (8, (fX8 a (nI tx) fp__11 (nI t_1) wd (nI we) x_9 na (nI rd) ts (nI ru) (nI rw) (nI ca) df db sd))), (aI k (a 5) 240 ftext)]) [1, 0] (by decide) rfl
          exact W.iret (v := 2) hx hb hr (fun t ht hW => ⟨⟨2, (t_1, x_9, fp__11, 2), rfl, ⟨rfl, by omega, by omega, by omega, by omega, fun h => absurd h (by decide)⟩, by rw [ht]; exact hP9, hD9⟩, hS.F ht⟩) hS.2.2 dX8_takeFigures_176
        · have c_10 : ¬ (3 < (t_1 - t0)) := fun h => c_10 ((nI_ltI (a := 3) (b := (t_1 - t0)) (by omega) (by omega)).mpr h)
          refine lv_aload_n hx hb dX8_takeFigures_151 rfl (lv_at hl 2 rfl) ?_
          refine va_get (D := D) (ci := 8) (v := .int x_9) (C := RX8) (T := TX8) (N := 44) hx hb hts inX8 hown hK hP 0 rfl rfl 10 (by decide) (hts _ tw_983) (fun _ h9 => h9) rfl dX8_takeFigures_152 ?_
          refine lv_i2l (v := x_9.toInt64) hx hb dX8_takeFigures_155 rfl ?_
          refine lv_iload_n hx hb dX8_takeFigures_156 rfl (lv_at hl 4 rfl) ?_
          refine lv_i2l (v := p1.toInt64) hx hb dX8_takeFigures_157 rfl ?_
          refine lv_iload_n hx hb dX8_takeFigures_158 rfl (lv_at hl 5 rfl) ?_
          refine lv_i2l (v := p2.toInt64) hx hb dX8_takeFigures_159 rfl ?_
          refine ro_i (D := D) (va_runS (As := [.long (x_9.toInt64), .long (p1.toInt64), .long (p2.toInt64)]) (rest := []) ⟨hx, hb, hml, hown, hts⟩ ((k_in l D k st lo x_9 p1 p2) H.size) (va_cwS 3 hts (gS tw_1111 tw_1112 tw_87 tw_1113) rfl rfl rfl (by decide +kernel) ⟨Nat.le_of_ble_eq_true rfl, Nat.le_of_ble_eq_true rfl⟩) (pS hS hAlo hlo hP hK (va_Dlo hD hAlo) hZ [] (by decide) rfl) rfl rfl hl.1 rfl (lv_room (Nat.le_of_ble_eq_true rfl)) dX8_takeFigures_160 ⟨Nat.le_of_ble_eq_true rfl, Nat.le_of_ble_eq_true rfl⟩) hS hA hP (fun r_12 H locs hw_12 hP hS => ?_)
          try dsimp only at hw_12
          rcases hw_12 with ⟨rfl, hw_12⟩ | ⟨rfl, hw_12⟩
          · refine lv_if_ne (tgt := 175) hx hb dX8_takeFigures_163 (by decide) (fun _ => ?_) (fun h => absurd h (by decide))
            refine lv_iconst (v := 0) hx hb dX8_takeFigures_175 (by decide) ?_
            have hP9 := hP.sub (ws' := [((a 0), .inr (8, (fX8 a (nI tx) fp (nI t_1) wd (nI we) x_9 na (nI rd) ts (nI ru) (nI rw) (nI ca) df db sd))), (aI k (a 5) 240 ftext)]) [0, 1] rfl
            have hD9 := hD.sub (ws' := [((a 0), .inr (8, (fX8 a (nI tx) fp (nI t_1) wd (nI we) x_9 na (nI rd) ts (nI ru) (nI rw) (nI ca) df db sd))), (aI k (a 5) 240 ftext)]) [0, 1] (by decide) rfl
            exact W.iret (v := 0) hx hb hr (fun t ht hW => ⟨⟨0, (t_1, x_9, fp, 0), rfl, ⟨rfl, by omega, by omega, by omega, by omega, fun _ => hw_12⟩, by rw [ht]; exact hP9, hD9⟩, hS.F ht⟩) hS.2.2 dX8_takeFigures_176
          · refine lv_if_ne (tgt := 175) hx hb dX8_takeFigures_163 (by decide) (fun h => absurd (by decide) h) (fun _ => ?_)
            refine lv_aload_n hx hb dX8_takeFigures_166 rfl (lv_at hl 2 rfl) ?_
            refine lv_iconst (v := 2) hx hb dX8_takeFigures_167 (by decide) ?_
            refine lv_iload_n hx hb dX8_takeFigures_168 rfl (lv_at hl 3 rfl) ?_
            refine rw_i (D := D) (wr := [(aI k (a 5) 240 ftext)]) (va_runV (As := [.int 2, .int p0]) (rest := []) ⟨hx, hb, hml, hown, hts⟩ ((m_fails l D k st lo a tx t_1 we rd ru rw ca fp wd x_9 na ts df db sd 2 p0) H.size) (cwV 2 hts (gV tw_1151 tw_1153 tw_31 tw_87 tw_1154) rfl rfl rfl (by decide +kernel) ⟨Nat.le_of_ble_eq_true rfl, Nat.le_of_ble_eq_true rfl⟩) (pV hS hAlo hlo hP hK (va_Dlo hD hAlo) hZ [0] (by decide) rfl (ci := 8) (q := (RX8, TX8, 44)) (q0 := 0) rfl rfl) rfl rfl hl.1 rfl (lv_room (Nat.le_of_ble_eq_true rfl)) dX8_takeFigures_169 ⟨Nat.le_of_ble_eq_true rfl, Nat.le_of_ble_eq_true rfl⟩) hS hA hP hD [0] [1] rfl rfl (by decide) (by decide) (fun r_13 u H locs hw_13 hP hD hS => ?_)
            obtain ⟨fp__13, rfl⟩ : ∃ z, z = u := ⟨_, rfl⟩
            replace hP : va_P D classes [(aI k (a 5) 240 ftext), ((a 0), .inr (8, (fX8 a (nI tx) fp__13 (nI t_1) wd (nI we) x_9 na (nI rd) ts (nI ru) (nI rw) (nI ca) df db sd)))] H := hP
            replace hD : va_D A [(aI k (a 5) 240 ftext), ((a 0), .inr (8, (fX8 a (nI tx) fp__13 (nI t_1) wd (nI we) x_9 na (nI rd) ts (nI ru) (nI rw) (nI ca) df db sd)))] := hD
            try dsimp only at hw_13
            subst hw_13
            refine lv_goto (tgt := 176) hx hb dX8_takeFigures_172 (by decide) ?_
            have hP9 := hP.sub (ws' := [((a 0), .inr (8, (fX8 a (nI tx) fp__13 (nI t_1) wd (nI we) x_9 na (nI rd) ts (nI ru) (nI rw) (nI ca) df db sd))), (aI k (a 5) 240 ftext)]) [1, 0] rfl
            have hD9 := hD.sub (ws' := [((a 0), .inr (8, (fX8 a (nI tx) fp__13 (nI t_1) wd (nI we) x_9 na (nI rd) ts (nI ru) (nI rw) (nI ca) df db sd))), (aI k (a 5) 240 ftext)]) [1, 0] (by decide) rfl
            exact W.iret (v := 2) hx hb hr (fun t ht hW => ⟨⟨2, (t_1, x_9, fp__13, 2), rfl, ⟨rfl, by omega, by omega, by omega, by omega, fun h => absurd h (by decide)⟩, by rw [ht]; exact hP9, hD9⟩, hS.F ht⟩) hS.2.2 dX8_takeFigures_176
    · have c_3 := (nI_eq (a := t_1) (b := t0) (by omega) (by omega)).mp c_3
      refine lv_aload_n hx hb dX8_takeFigures_107 rfl (lv_at hl 1 rfl) ?_
      refine lv_iconst (v := 1) hx hb dX8_takeFigures_108 (by decide) ?_
      refine lv_iload hx hb dX8_takeFigures_109 (lv_at hl 0 rfl) ?_
      refine rw_i (D := D) (wr := [(aI k (a 5) 240 ftext)]) (va_runV (As := [.int 1, .int (nI t0)]) (rest := []) ⟨hx, hb, hml, hown, hts⟩ ((m_fails l D k st lo a tx t_1 we rd ru rw ca fp wd nu2_1 na ts df db sd 1 (nI t0)) H.size) (cwV 2 hts (gV tw_1151 tw_1153 tw_31 tw_87 tw_1154) rfl rfl rfl (by decide +kernel) ⟨Nat.le_of_ble_eq_true rfl, Nat.le_of_ble_eq_true rfl⟩) (pV hS hAlo hlo hP hK (va_Dlo hD hAlo) hZ [0] (by decide) rfl (ci := 8) (q := (RX8, TX8, 44)) (q0 := 0) rfl rfl) rfl rfl hl.1 rfl (lv_room (Nat.le_of_ble_eq_true rfl)) dX8_takeFigures_111 ⟨Nat.le_of_ble_eq_true rfl, Nat.le_of_ble_eq_true rfl⟩) hS hA hP hD [0] [1] rfl rfl (by decide) (by decide) (fun r_14 u H locs hw_14 hP hD hS => ?_)
      obtain ⟨fp__14, rfl⟩ : ∃ z, z = u := ⟨_, rfl⟩
      replace hP : va_P D classes [(aI k (a 5) 240 ftext), ((a 0), .inr (8, (fX8 a (nI tx) fp__14 (nI t_1) wd (nI we) nu2_1 na (nI rd) ts (nI ru) (nI rw) (nI ca) df db sd)))] H := hP
      replace hD : va_D A [(aI k (a 5) 240 ftext), ((a 0), .inr (8, (fX8 a (nI tx) fp__14 (nI t_1) wd (nI we) nu2_1 na (nI rd) ts (nI ru) (nI rw) (nI ca) df db sd)))] := hD
      try dsimp only at hw_14
      subst hw_14
      have hP9 := hP.sub (ws' := [((a 0), .inr (8, (fX8 a (nI tx) fp__14 (nI t_1) wd (nI we) nu2_1 na (nI rd) ts (nI ru) (nI rw) (nI ca) df db sd))), (aI k (a 5) 240 ftext)]) [1, 0] rfl
      have hD9 := hD.sub (ws' := [((a 0), .inr (8, (fX8 a (nI tx) fp__14 (nI t_1) wd (nI we) nu2_1 na (nI rd) ts (nI ru) (nI rw) (nI ca) df db sd))), (aI k (a 5) 240 ftext)]) [1, 0] (by decide) rfl
      exact W.iret (v := 1) hx hb hr (fun t ht hW => ⟨⟨1, (t_1, nu2_1, fp__14, 1), rfl, ⟨rfl, by omega, by omega, by omega, by omega, fun h => absurd h (by decide)⟩, by rw [ht]; exact hP9, hD9⟩, hS.F ht⟩) hS.2.2 dX8_takeFigures_114
  · have c_2 : ¬ (tx ≤ t_1) := fun h => c_2 ((nI_leI (a := tx) (b := t_1) (by omega) (by omega)).mpr h)
    refine lv_aload_n hx hb dX8_takeFigures_22 rfl (lv_at hl 1 rfl) ?_
    refine va_get (D := D) (ci := 8) (v := .ref (a 5)) (C := RX8) (T := TX8) (N := 44) hx hb hts inX8 hown hK hP 0 rfl rfl 4 (by decide) (hts _ tw_977) (fun _ h9 => h9) rfl dX8_takeFigures_23 ?_
    refine lv_aload_n hx hb dX8_takeFigures_26 rfl (lv_at hl 1 rfl) ?_
    refine va_get (D := D) (ci := 8) (v := .int (nI t_1)) (C := RX8) (T := TX8) (N := 44) hx hb hts inX8 hown hK hP 0 rfl rfl 7 (by decide) (hts _ tw_980) (fun _ h9 => h9) rfl dX8_takeFigures_27 ?_
    refine va_iald hx hb hK hP 1 1 rfl rfl (vp_in_nI (by omega) (by decide)) dX8_takeFigures_30 ?_
    refine lv_ti (y := (ftext t_1)) (by rw [nI_clamp (by omega)]) ?_
    refine lv_i2l (v := (ftext t_1).toInt64) hx hb dX8_takeFigures_31 rfl ?_
    refine lv_ldc2 hx hb hown (hts _ tw_1163) dX8_takeFigures_32 ?_
    refine lv_tl (y := ((48 : Int32).toInt64)) (by decide) ?_
    refine lv_ldc2 hx hb hown (hts _ tw_1164) dX8_takeFigures_35 ?_
    refine lv_tl (y := ((57 : Int32).toInt64)) (by decide) ?_
    refine ro_i (D := D) (va_runS (As := [.long ((ftext t_1).toInt64), .long ((48 : Int32).toInt64), .long ((57 : Int32).toInt64)]) (rest := []) ⟨hx, hb, hml, hown, hts⟩ ((k_in l D k st lo (ftext t_1) (48 : Int32) (57 : Int32)) H.size) (va_cwS 3 hts (gS tw_1111 tw_1112 tw_87 tw_1113) rfl rfl rfl (by decide +kernel) ⟨Nat.le_of_ble_eq_true rfl, Nat.le_of_ble_eq_true rfl⟩) (pS hS hAlo hlo hP hK (va_Dlo hD hAlo) hZ [] (by decide) rfl) rfl rfl hl.1 rfl (lv_room (Nat.le_of_ble_eq_true rfl)) dX8_takeFigures_38 ⟨Nat.le_of_ble_eq_true rfl, Nat.le_of_ble_eq_true rfl⟩) hS hA hP (fun r_15 H locs hw_15 hP hS => ?_)
    try dsimp only at hw_15
    rcases hw_15 with ⟨rfl, hw_15⟩ | ⟨rfl, hw_15⟩
    · refine lv_if_eq (tgt := 98) hx hb dX8_takeFigures_41 (by decide) (fun h => absurd h (by decide)) (fun _ => ?_)
      refine lv_aload_n hx hb dX8_takeFigures_44 rfl (lv_at hl 1 rfl) ?_
      refine lv_aload_n hx hb dX8_takeFigures_45 rfl (lv_at hl 1 rfl) ?_
      refine va_get (D := D) (ci := 8) (v := .int nu2_1) (C := RX8) (T := TX8) (N := 44) hx hb hts inX8 hown hK hP 0 rfl rfl 10 (by decide) (hts _ tw_983) (fun _ h9 => h9) rfl dX8_takeFigures_46 ?_
      refine lv_sipush (v := 10000) hx hb dX8_takeFigures_49 (by decide) ?_
      refine lv_icmp_le (tgt := 62) hx hb dX8_takeFigures_52 (by decide) (fun c_16 => ?_) (fun c_16 => ?_)
      · refine lv_bipush (v := 10) hx hb dX8_takeFigures_62 (by decide) ?_
        refine lv_aload_n hx hb dX8_takeFigures_64 rfl (lv_at hl 1 rfl) ?_
        refine va_get (D := D) (ci := 8) (v := .int nu2_1) (C := RX8) (T := TX8) (N := 44) hx hb hts inX8 hown hK hP 0 rfl rfl 10 (by decide) (hts _ tw_983) (fun _ h9 => h9) rfl dX8_takeFigures_65 ?_
        refine lv_imul hx hb dX8_takeFigures_68 ?_
        refine lv_topi (fun x_17 ex_17 => ?_)
        refine lv_aload_n hx hb dX8_takeFigures_69 rfl (lv_at hl 1 rfl) ?_
        refine va_get (D := D) (ci := 8) (v := .ref (a 5)) (C := RX8) (T := TX8) (N := 44) hx hb hts inX8 hown hK hP 0 rfl rfl 4 (by decide) (hts _ tw_977) (fun _ h9 => h9) rfl dX8_takeFigures_70 ?_
        refine lv_aload_n hx hb dX8_takeFigures_73 rfl (lv_at hl 1 rfl) ?_
        refine va_get (D := D) (ci := 8) (v := .int (nI t_1)) (C := RX8) (T := TX8) (N := 44) hx hb hts inX8 hown hK hP 0 rfl rfl 7 (by decide) (hts _ tw_980) (fun _ h9 => h9) rfl dX8_takeFigures_74 ?_
        refine va_iald hx hb hK hP 1 1 rfl rfl (vp_in_nI (by omega) (by decide)) dX8_takeFigures_77 ?_
        refine lv_ti (y := (ftext t_1)) (by rw [nI_clamp (by omega)]) ?_
        refine lv_iadd hx hb dX8_takeFigures_78 ?_
        refine lv_topi (fun x_18 ex_18 => ?_)
        refine lv_bipush (v := 48) hx hb dX8_takeFigures_79 (by decide) ?_
        refine lv_isub hx hb dX8_takeFigures_81 ?_
        refine lv_topi (fun x_19 ex_19 => ?_)
        refine va_put (D := D) (ci := 8) (v := .int x_19) (ty := .int) (C := RX8) (T := TX8) (N := 44) hx hb hts inX8 tyX8 tyX8_ok nmX8 hown hK hP hD hS 0 rfl rfl 10 (by decide) (hts _ tw_983) (fun _ h9 => h9) rfl (by decide +kernel) rfl rfl (Nat.le_of_ble_eq_true rfl) dX8_takeFigures_82 (fun H locs hP hD hS => ?_)
        replace hP : va_P D classes [((a 0), .inr (8, (fX8 a (nI tx) fp (nI t_1) wd (nI we) x_19 na (nI rd) ts (nI ru) (nI rw) (nI ca) df db sd))), (aI k (a 5) 240 ftext)] H := hP
        replace hD : va_D A [((a 0), .inr (8, (fX8 a (nI tx) fp (nI t_1) wd (nI we) x_19 na (nI rd) ts (nI ru) (nI rw) (nI ca) df db sd))), (aI k (a 5) 240 ftext)] := hD
        refine lv_aload_n hx hb dX8_takeFigures_85 rfl (lv_at hl 1 rfl) ?_
        refine lv_dup hx hb dX8_takeFigures_86 rfl ?_
        refine va_get (D := D) (ci := 8) (v := .int (nI t_1)) (C := RX8) (T := TX8) (N := 44) hx hb hts inX8 hown hK hP 0 rfl rfl 7 (by decide) (hts _ tw_980) (fun _ h9 => h9) rfl dX8_takeFigures_87 ?_
        refine lv_iconst (v := 1) hx hb dX8_takeFigures_90 (by decide) ?_
        refine lv_iadd hx hb dX8_takeFigures_91 ?_
        refine lv_ti (y := (nI (t_1 + 1))) (nI_add t_1 1) ?_
        refine va_put (D := D) (ci := 8) (v := .int (nI (t_1 + 1))) (ty := .int) (C := RX8) (T := TX8) (N := 44) hx hb hts inX8 tyX8 tyX8_ok nmX8 hown hK hP hD hS 0 rfl rfl 7 (by decide) (hts _ tw_980) (fun _ h9 => h9) rfl (by decide +kernel) rfl rfl (Nat.le_of_ble_eq_true rfl) dX8_takeFigures_92 (fun H locs hP hD hS => ?_)
        replace hP : va_P D classes [((a 0), .inr (8, (fX8 a (nI tx) fp (nI (t_1 + 1)) wd (nI we) x_19 na (nI rd) ts (nI ru) (nI rw) (nI ca) df db sd))), (aI k (a 5) 240 ftext)] H := hP
        replace hD : va_D A [((a 0), .inr (8, (fX8 a (nI tx) fp (nI (t_1 + 1)) wd (nI we) x_19 na (nI rd) ts (nI ru) (nI rw) (nI ca) df db sd))), (aI k (a 5) 240 ftext)] := hD
        refine lv_goto (tgt := 11) hx hb dX8_takeFigures_95 (by decide) ?_
        exact ih_1 _ (t_1 + 1, x_19) _ _ _ (by omega) ⟨rfl, ⟨by omega, by omega⟩, hP, hD, hS, (lv_sub hl [0, 1, 2, 3, 4, 5] rfl)⟩
      · refine lv_aload_n hx hb dX8_takeFigures_55 rfl (lv_at hl 1 rfl) ?_
        refine va_get (D := D) (ci := 8) (v := .int nu2_1) (C := RX8) (T := TX8) (N := 44) hx hb hts inX8 hown hK hP 0 rfl rfl 10 (by decide) (hts _ tw_983) (fun _ h9 => h9) rfl dX8_takeFigures_56 ?_
        refine lv_goto (tgt := 82) hx hb dX8_takeFigures_59 (by decide) ?_
        refine va_put (D := D) (ci := 8) (v := .int nu2_1) (ty := .int) (C := RX8) (T := TX8) (N := 44) hx hb hts inX8 tyX8 tyX8_ok nmX8 hown hK hP hD hS 0 rfl rfl 10 (by decide) (hts _ tw_983) (fun _ h9 => h9) rfl (by decide +kernel) rfl rfl (Nat.le_of_ble_eq_true rfl) dX8_takeFigures_82 (fun H locs hP hD hS => ?_)
        replace hP : va_P D classes [((a 0), .inr (8, (fX8 a (nI tx) fp (nI t_1) wd (nI we) nu2_1 na (nI rd) ts (nI ru) (nI rw) (nI ca) df db sd))), (aI k (a 5) 240 ftext)] H := hP
        replace hD : va_D A [((a 0), .inr (8, (fX8 a (nI tx) fp (nI t_1) wd (nI we) nu2_1 na (nI rd) ts (nI ru) (nI rw) (nI ca) df db sd))), (aI k (a 5) 240 ftext)] := hD
        refine lv_aload_n hx hb dX8_takeFigures_85 rfl (lv_at hl 1 rfl) ?_
        refine lv_dup hx hb dX8_takeFigures_86 rfl ?_
        refine va_get (D := D) (ci := 8) (v := .int (nI t_1)) (C := RX8) (T := TX8) (N := 44) hx hb hts inX8 hown hK hP 0 rfl rfl 7 (by decide) (hts _ tw_980) (fun _ h9 => h9) rfl dX8_takeFigures_87 ?_
        refine lv_iconst (v := 1) hx hb dX8_takeFigures_90 (by decide) ?_
        refine lv_iadd hx hb dX8_takeFigures_91 ?_
        refine lv_ti (y := (nI (t_1 + 1))) (nI_add t_1 1) ?_
        refine va_put (D := D) (ci := 8) (v := .int (nI (t_1 + 1))) (ty := .int) (C := RX8) (T := TX8) (N := 44) hx hb hts inX8 tyX8 tyX8_ok nmX8 hown hK hP hD hS 0 rfl rfl 7 (by decide) (hts _ tw_980) (fun _ h9 => h9) rfl (by decide +kernel) rfl rfl (Nat.le_of_ble_eq_true rfl) dX8_takeFigures_92 (fun H locs hP hD hS => ?_)
        replace hP : va_P D classes [((a 0), .inr (8, (fX8 a (nI tx) fp (nI (t_1 + 1)) wd (nI we) nu2_1 na (nI rd) ts (nI ru) (nI rw) (nI ca) df db sd))), (aI k (a 5) 240 ftext)] H := hP
        replace hD : va_D A [((a 0), .inr (8, (fX8 a (nI tx) fp (nI (t_1 + 1)) wd (nI we) nu2_1 na (nI rd) ts (nI ru) (nI rw) (nI ca) df db sd))), (aI k (a 5) 240 ftext)] := hD
        refine lv_goto (tgt := 11) hx hb dX8_takeFigures_95 (by decide) ?_
        exact ih_1 _ (t_1 + 1, nu2_1) _ _ _ (by omega) ⟨rfl, ⟨by omega, by omega⟩, hP, hD, hS, (lv_sub hl [0, 1, 2, 3, 4, 5] rfl)⟩
    · refine lv_if_eq (tgt := 98) hx hb dX8_takeFigures_41 (by decide) (fun _ => ?_) (fun h => absurd (by decide) h)
      refine lv_aload_n hx hb dX8_takeFigures_98 rfl (lv_at hl 1 rfl) ?_
      refine va_get (D := D) (ci := 8) (v := .int (nI t_1)) (C := RX8) (T := TX8) (N := 44) hx hb hts inX8 hown hK hP 0 rfl rfl 7 (by decide) (hts _ tw_980) (fun _ h9 => h9) rfl dX8_takeFigures_99 ?_
      refine lv_iload hx hb dX8_takeFigures_102 (lv_at hl 0 rfl) ?_
      refine lv_icmp_ne (tgt := 115) hx hb dX8_takeFigures_104 (by decide) (fun c_20 => ?_) (fun c_20 => ?_)
      · have c_20 : ¬ (t_1 = t0) := fun h => c_20 ((nI_eq (a := t_1) (b := t0) (by omega) (by omega)).mpr h)
        refine lv_aload_n hx hb dX8_takeFigures_115 rfl (lv_at hl 1 rfl) ?_
        refine va_get (D := D) (ci := 8) (v := .int (nI t_1)) (C := RX8) (T := TX8) (N := 44) hx hb hts inX8 hown hK hP 0 rfl rfl 7 (by decide) (hts _ tw_980) (fun _ h9 => h9) rfl dX8_takeFigures_116 ?_
        refine lv_iload hx hb dX8_takeFigures_119 (lv_at hl 0 rfl) ?_
        refine lv_isub hx hb dX8_takeFigures_121 ?_
        refine lv_ti (y := (nI (t_1 - t0))) (pk_sub (a := t_1) (b := t0) (by omega)) ?_
        refine lv_istore (lv' := [(6, .int (nI (t_1 - t0))), (5, .int (nI t0)), (0, .ref (a 0)), (1, .int p0), (2, .int p1), (3, .int p2), (4, .int p3)]) hx hb dX8_takeFigures_122 hl (by decide) rfl (fun ls hl => ?_)
        refine lv_aload_n hx hb dX8_takeFigures_124 rfl (lv_at hl 2 rfl) ?_
        refine lv_iload hx hb dX8_takeFigures_125 (lv_at hl 6 rfl) ?_
        refine lv_if_eq (tgt := 138) hx hb dX8_takeFigures_127 (by decide) (fun c_21 => ?_) (fun c_21 => ?_)
        · refine lv_aload_n hx hb dX8_takeFigures_138 rfl (lv_at hl 2 rfl) ?_
          refine va_get (D := D) (ci := 8) (v := .int nu2_1) (C := RX8) (T := TX8) (N := 44) hx hb hts inX8 hown hK hP 0 rfl rfl 10 (by decide) (hts _ tw_983) (fun _ h9 => h9) rfl dX8_takeFigures_139 ?_
          refine va_put (D := D) (ci := 8) (v := .int nu2_1) (ty := .int) (C := RX8) (T := TX8) (N := 44) hx hb hts inX8 tyX8 tyX8_ok nmX8 hown hK hP hD hS 0 rfl rfl 10 (by decide) (hts _ tw_983) (fun _ h9 => h9) rfl (by decide +kernel) rfl rfl (Nat.le_of_ble_eq_true rfl) dX8_takeFigures_142 (fun H locs hP hD hS => ?_)
          replace hP : va_P D classes [((a 0), .inr (8, (fX8 a (nI tx) fp (nI t_1) wd (nI we) nu2_1 na (nI rd) ts (nI ru) (nI rw) (nI ca) df db sd))), (aI k (a 5) 240 ftext)] H := hP
          replace hD : va_D A [((a 0), .inr (8, (fX8 a (nI tx) fp (nI t_1) wd (nI we) nu2_1 na (nI rd) ts (nI ru) (nI rw) (nI ca) df db sd))), (aI k (a 5) 240 ftext)] := hD
          refine lv_iload hx hb dX8_takeFigures_145 (lv_at hl 0 rfl) ?_
          refine lv_iconst (v := 3) hx hb dX8_takeFigures_147 (by decide) ?_
          refine lv_icmp_gt (tgt := 166) hx hb dX8_takeFigures_148 (by decide) (fun c_22 => ?_) (fun c_22 => ?_)
          · have c_22 := (nI_ltI (a := 3) (b := (t_1 - t0)) (by omega) (by omega)).mp c_22
            refine lv_aload_n hx hb dX8_takeFigures_166 rfl (lv_at hl 2 rfl) ?_
            refine lv_iconst (v := 2) hx hb dX8_takeFigures_167 (by decide) ?_
            refine lv_iload_n hx hb dX8_takeFigures_168 rfl (lv_at hl 3 rfl) ?_
            refine rw_i (D := D) (wr := [(aI k (a 5) 240 ftext)]) (va_runV (As := [.int 2, .int p0]) (rest := []) ⟨hx, hb, hml, hown, hts⟩ ((m_fails l D k st lo a tx t_1 we rd ru rw ca fp wd nu2_1 na ts df db sd 2 p0) H.size) (cwV 2 hts (gV tw_1151 tw_1153 tw_31 tw_87 tw_1154) rfl rfl rfl (by decide +kernel) ⟨Nat.le_of_ble_eq_true rfl, Nat.le_of_ble_eq_true rfl⟩) (pV hS hAlo hlo hP hK (va_Dlo hD hAlo) hZ [0] (by decide) rfl (ci := 8) (q := (RX8, TX8, 44)) (q0 := 0) rfl rfl) rfl rfl hl.1 rfl (lv_room (Nat.le_of_ble_eq_true rfl)) dX8_takeFigures_169 ⟨Nat.le_of_ble_eq_true rfl, Nat.le_of_ble_eq_true rfl⟩) hS hA hP hD [0] [1] rfl rfl (by decide) (by decide) (fun r_23 u H locs hw_23 hP hD hS => ?_)
            obtain ⟨fp__23, rfl⟩ : ∃ z, z = u := ⟨_, rfl⟩
            replace hP : va_P D classes [(aI k (a 5) 240 ftext), ((a 0), .inr (8, (fX8 a (nI tx) fp__23 (nI t_1) wd (nI we) nu2_1 na (nI rd) ts (nI ru) (nI rw) (nI ca) df db sd)))] H := hP
            replace hD : va_D A [(aI k (a 5) 240 ftext), ((a 0), .inr (8, (fX8 a (nI tx) fp__23 (nI t_1) wd (nI we) nu2_1 na (nI rd) ts (nI ru) (nI rw) (nI ca) df db sd)))] := hD
            try dsimp only at hw_23
            subst hw_23
            refine lv_goto (tgt := 176) hx hb dX8_takeFigures_172 (by decide) ?_
            have hP9 := hP.sub (ws' := [((a 0), .inr (8, (fX8 a (nI tx) fp__23 (nI t_1) wd (nI we) nu2_1 na (nI rd) ts (nI ru) (nI rw) (nI ca) df db sd))), (aI k (a 5) 240 ftext)]) [1, 0] rfl
            have hD9 := hD.sub (ws' := [((a 0), .inr (8, (fX8 a (nI tx) fp__23 (nI t_1) wd (nI we) nu2_1 na (nI rd) ts (nI ru) (nI rw) (nI ca) df db sd))), (aI k (a 5) 240 ftext)]) [1, 0] (by decide) rfl
            exact W.iret (v := 2) hx hb hr (fun t ht hW => ⟨⟨2, (t_1, nu2_1, fp__23, 2), rfl, ⟨rfl, by omega, by omega, by omega, by omega, fun h => absurd h (by decide)⟩, by rw [ht]; exact hP9, hD9⟩, hS.F ht⟩) hS.2.2 dX8_takeFigures_176
          · have c_22 : ¬ (3 < (t_1 - t0)) := fun h => c_22 ((nI_ltI (a := 3) (b := (t_1 - t0)) (by omega) (by omega)).mpr h)
            refine lv_aload_n hx hb dX8_takeFigures_151 rfl (lv_at hl 2 rfl) ?_
            refine va_get (D := D) (ci := 8) (v := .int nu2_1) (C := RX8) (T := TX8) (N := 44) hx hb hts inX8 hown hK hP 0 rfl rfl 10 (by decide) (hts _ tw_983) (fun _ h9 => h9) rfl dX8_takeFigures_152 ?_
            refine lv_i2l (v := nu2_1.toInt64) hx hb dX8_takeFigures_155 rfl ?_
            refine lv_iload_n hx hb dX8_takeFigures_156 rfl (lv_at hl 4 rfl) ?_
            refine lv_i2l (v := p1.toInt64) hx hb dX8_takeFigures_157 rfl ?_
            refine lv_iload_n hx hb dX8_takeFigures_158 rfl (lv_at hl 5 rfl) ?_
            refine lv_i2l (v := p2.toInt64) hx hb dX8_takeFigures_159 rfl ?_
            refine ro_i (D := D) (va_runS (As := [.long (nu2_1.toInt64), .long (p1.toInt64), .long (p2.toInt64)]) (rest := []) ⟨hx, hb, hml, hown, hts⟩ ((k_in l D k st lo nu2_1 p1 p2) H.size) (va_cwS 3 hts (gS tw_1111 tw_1112 tw_87 tw_1113) rfl rfl rfl (by decide +kernel) ⟨Nat.le_of_ble_eq_true rfl, Nat.le_of_ble_eq_true rfl⟩) (pS hS hAlo hlo hP hK (va_Dlo hD hAlo) hZ [] (by decide) rfl) rfl rfl hl.1 rfl (lv_room (Nat.le_of_ble_eq_true rfl)) dX8_takeFigures_160 ⟨Nat.le_of_ble_eq_true rfl, Nat.le_of_ble_eq_true rfl⟩) hS hA hP (fun r_24 H locs hw_24 hP hS => ?_)
            try dsimp only at hw_24
            rcases hw_24 with ⟨rfl, hw_24⟩ | ⟨rfl, hw_24⟩
            · refine lv_if_ne (tgt := 175) hx hb dX8_takeFigures_163 (by decide) (fun _ => ?_) (fun h => absurd h (by decide))
              refine lv_iconst (v := 0) hx hb dX8_takeFigures_175 (by decide) ?_
              have hP9 := hP.sub (ws' := [((a 0), .inr (8, (fX8 a (nI tx) fp (nI t_1) wd (nI we) nu2_1 na (nI rd) ts (nI ru) (nI rw) (nI ca) df db sd))), (aI k (a 5) 240 ftext)]) [0, 1] rfl
              have hD9 := hD.sub (ws' := [((a 0), .inr (8, (fX8 a (nI tx) fp (nI t_1) wd (nI we) nu2_1 na (nI rd) ts (nI ru) (nI rw) (nI ca) df db sd))), (aI k (a 5) 240 ftext)]) [0, 1] (by decide) rfl
              exact W.iret (v := 0) hx hb hr (fun t ht hW => ⟨⟨0, (t_1, nu2_1, fp, 0), rfl, ⟨rfl, by omega, by omega, by omega, by omega, fun _ => hw_24⟩, by rw [ht]; exact hP9, hD9⟩, hS.F ht⟩) hS.2.2 dX8_takeFigures_176
            · refine lv_if_ne (tgt := 175) hx hb dX8_takeFigures_163 (by decide) (fun h => absurd (by decide) h) (fun _ => ?_)
              refine lv_aload_n hx hb dX8_takeFigures_166 rfl (lv_at hl 2 rfl) ?_
              refine lv_iconst (v := 2) hx hb dX8_takeFigures_167 (by decide) ?_
              refine lv_iload_n hx hb dX8_takeFigures_168 rfl (lv_at hl 3 rfl) ?_
              refine rw_i (D := D) (wr := [(aI k (a 5) 240 ftext)]) (va_runV (As := [.int 2, .int p0]) (rest := []) ⟨hx, hb, hml, hown, hts⟩ ((m_fails l D k st lo a tx t_1 we rd ru rw ca fp wd nu2_1 na ts df db sd 2 p0) H.size) (cwV 2 hts (gV tw_1151 tw_1153 tw_31 tw_87 tw_1154) rfl rfl rfl (by decide +kernel) ⟨Nat.le_of_ble_eq_true rfl, Nat.le_of_ble_eq_true rfl⟩) (pV hS hAlo hlo hP hK (va_Dlo hD hAlo) hZ [0] (by decide) rfl (ci := 8) (q := (RX8, TX8, 44)) (q0 := 0) rfl rfl) rfl rfl hl.1 rfl (lv_room (Nat.le_of_ble_eq_true rfl)) dX8_takeFigures_169 ⟨Nat.le_of_ble_eq_true rfl, Nat.le_of_ble_eq_true rfl⟩) hS hA hP hD [0] [1] rfl rfl (by decide) (by decide) (fun r_25 u H locs hw_25 hP hD hS => ?_)
              obtain ⟨fp__25, rfl⟩ : ∃ z, z = u := ⟨_, rfl⟩
              replace hP : va_P D classes [(aI k (a 5) 240 ftext), ((a 0), .inr (8, (fX8 a (nI tx) fp__25 (nI t_1) wd (nI we) nu2_1 na (nI rd) ts (nI ru) (nI rw) (nI ca) df db sd)))] H := hP
              replace hD : va_D A [(aI k (a 5) 240 ftext), ((a 0), .inr (8, (fX8 a (nI tx) fp__25 (nI t_1) wd (nI we) nu2_1 na (nI rd) ts (nI ru) (nI rw) (nI ca) df db sd)))] := hD
              try dsimp only at hw_25
              subst hw_25
              refine lv_goto (tgt := 176) hx hb dX8_takeFigures_172 (by decide) ?_
              have hP9 := hP.sub (ws' := [((a 0), .inr (8, (fX8 a (nI tx) fp__25 (nI t_1) wd (nI we) nu2_1 na (nI rd) ts (nI ru) (nI rw) (nI ca) df db sd))), (aI k (a 5) 240 ftext)]) [1, 0] rfl
              have hD9 := hD.sub (ws' := [((a 0), .inr (8, (fX8 a (nI tx) fp__25 (nI t_1) wd (nI we) nu2_1 na (nI rd) ts (nI ru) (nI rw) (nI ca) df db sd))), (aI k (a 5) 240 ftext)]) [1, 0] (by decide) rfl
              exact W.iret (v := 2) hx hb hr (fun t ht hW => ⟨⟨2, (t_1, nu2_1, fp__25, 2), rfl, ⟨rfl, by omega, by omega, by omega, by omega, fun h => absurd h (by decide)⟩, by rw [ht]; exact hP9, hD9⟩, hS.F ht⟩) hS.2.2 dX8_takeFigures_176
        · refine lv_aload_n hx hb dX8_takeFigures_130 rfl (lv_at hl 2 rfl) ?_
          refine va_get (D := D) (ci := 8) (v := .int nu2_1) (C := RX8) (T := TX8) (N := 44) hx hb hts inX8 hown hK hP 0 rfl rfl 10 (by decide) (hts _ tw_983) (fun _ h9 => h9) rfl dX8_takeFigures_131 ?_
          refine lv_ineg hx hb dX8_takeFigures_134 ?_
          refine lv_topi (fun x_26 ex_26 => ?_)
          refine lv_goto (tgt := 142) hx hb dX8_takeFigures_135 (by decide) ?_
          refine va_put (D := D) (ci := 8) (v := .int x_26) (ty := .int) (C := RX8) (T := TX8) (N := 44) hx hb hts inX8 tyX8 tyX8_ok nmX8 hown hK hP hD hS 0 rfl rfl 10 (by decide) (hts _ tw_983) (fun _ h9 => h9) rfl (by decide +kernel) rfl rfl (Nat.le_of_ble_eq_true rfl) dX8_takeFigures_142 (fun H locs hP hD hS => ?_)
          replace hP : va_P D classes [((a 0), .inr (8, (fX8 a (nI tx) fp (nI t_1) wd (nI we) x_26 na (nI rd) ts (nI ru) (nI rw) (nI ca) df db sd))), (aI k (a 5) 240 ftext)] H := hP
          replace hD : va_D A [((a 0), .inr (8, (fX8 a (nI tx) fp (nI t_1) wd (nI we) x_26 na (nI rd) ts (nI ru) (nI rw) (nI ca) df db sd))), (aI k (a 5) 240 ftext)] := hD
          refine lv_iload hx hb dX8_takeFigures_145 (lv_at hl 0 rfl) ?_
          refine lv_iconst (v := 3) hx hb dX8_takeFigures_147 (by decide) ?_
          refine lv_icmp_gt (tgt := 166) hx hb dX8_takeFigures_148 (by decide) (fun c_27 => ?_) (fun c_27 => ?_)
          · have c_27 := (nI_ltI (a := 3) (b := (t_1 - t0)) (by omega) (by omega)).mp c_27
            refine lv_aload_n hx hb dX8_takeFigures_166 rfl (lv_at hl 2 rfl) ?_
            refine lv_iconst (v := 2) hx hb dX8_takeFigures_167 (by decide) ?_
            refine lv_iload_n hx hb dX8_takeFigures_168 rfl (lv_at hl 3 rfl) ?_
            refine rw_i (D := D) (wr := [(aI k (a 5) 240 ftext)]) (va_runV (As := [.int 2, .int p0]) (rest := []) ⟨hx, hb, hml, hown, hts⟩ ((m_fails l D k st lo a tx t_1 we rd ru rw ca fp wd x_26 na ts df db sd 2 p0) H.size) (cwV 2 hts (gV tw_1151 tw_1153 tw_31 tw_87 tw_1154) rfl rfl rfl (by decide +kernel) ⟨Nat.le_of_ble_eq_true rfl, Nat.le_of_ble_eq_true rfl⟩) (pV hS hAlo hlo hP hK (va_Dlo hD hAlo) hZ [0] (by decide) rfl (ci := 8) (q := (RX8, TX8, 44)) (q0 := 0) rfl rfl) rfl rfl hl.1 rfl (lv_room (Nat.le_of_ble_eq_true rfl)) dX8_takeFigures_169 ⟨Nat.le_of_ble_eq_true rfl, Nat.le_of_ble_eq_true rfl⟩) hS hA hP hD [0] [1] rfl rfl (by decide) (by decide) (fun r_28 u H locs hw_28 hP hD hS => ?_)
            obtain ⟨fp__28, rfl⟩ : ∃ z, z = u := ⟨_, rfl⟩
            replace hP : va_P D classes [(aI k (a 5) 240 ftext), ((a 0), .inr (8, (fX8 a (nI tx) fp__28 (nI t_1) wd (nI we) x_26 na (nI rd) ts (nI ru) (nI rw) (nI ca) df db sd)))] H := hP
            replace hD : va_D A [(aI k (a 5) 240 ftext), ((a 0), .inr (8, (fX8 a (nI tx) fp__28 (nI t_1) wd (nI we) x_26 na (nI rd) ts (nI ru) (nI rw) (nI ca) df db sd)))] := hD
            try dsimp only at hw_28
            subst hw_28
            refine lv_goto (tgt := 176) hx hb dX8_takeFigures_172 (by decide) ?_
            have hP9 := hP.sub (ws' := [((a 0), .inr (8, (fX8 a (nI tx) fp__28 (nI t_1) wd (nI we) x_26 na (nI rd) ts (nI ru) (nI rw) (nI ca) df db sd))), (aI k (a 5) 240 ftext)]) [1, 0] rfl
            have hD9 := hD.sub (ws' := [((a 0), .inr (8, (fX8 a (nI tx) fp__28 (nI t_1) wd (nI we) x_26 na (nI rd) ts (nI ru) (nI rw) (nI ca) df db sd))), (aI k (a 5) 240 ftext)]) [1, 0] (by decide) rfl
            exact W.iret (v := 2) hx hb hr (fun t ht hW => ⟨⟨2, (t_1, x_26, fp__28, 2), rfl, ⟨rfl, by omega, by omega, by omega, by omega, fun h => absurd h (by decide)⟩, by rw [ht]; exact hP9, hD9⟩, hS.F ht⟩) hS.2.2 dX8_takeFigures_176
          · have c_27 : ¬ (3 < (t_1 - t0)) := fun h => c_27 ((nI_ltI (a := 3) (b := (t_1 - t0)) (by omega) (by omega)).mpr h)
            refine lv_aload_n hx hb dX8_takeFigures_151 rfl (lv_at hl 2 rfl) ?_
            refine va_get (D := D) (ci := 8) (v := .int x_26) (C := RX8) (T := TX8) (N := 44) hx hb hts inX8 hown hK hP 0 rfl rfl 10 (by decide) (hts _ tw_983) (fun _ h9 => h9) rfl dX8_takeFigures_152 ?_
            refine lv_i2l (v := x_26.toInt64) hx hb dX8_takeFigures_155 rfl ?_
            refine lv_iload_n hx hb dX8_takeFigures_156 rfl (lv_at hl 4 rfl) ?_
            refine lv_i2l (v := p1.toInt64) hx hb dX8_takeFigures_157 rfl ?_
            refine lv_iload_n hx hb dX8_takeFigures_158 rfl (lv_at hl 5 rfl) ?_
            refine lv_i2l (v := p2.toInt64) hx hb dX8_takeFigures_159 rfl ?_
            refine ro_i (D := D) (va_runS (As := [.long (x_26.toInt64), .long (p1.toInt64), .long (p2.toInt64)]) (rest := []) ⟨hx, hb, hml, hown, hts⟩ ((k_in l D k st lo x_26 p1 p2) H.size) (va_cwS 3 hts (gS tw_1111 tw_1112 tw_87 tw_1113) rfl rfl rfl (by decide +kernel) ⟨Nat.le_of_ble_eq_true rfl, Nat.le_of_ble_eq_true rfl⟩) (pS hS hAlo hlo hP hK (va_Dlo hD hAlo) hZ [] (by decide) rfl) rfl rfl hl.1 rfl (lv_room (Nat.le_of_ble_eq_true rfl)) dX8_takeFigures_160 ⟨Nat.le_of_ble_eq_true rfl, Nat.le_of_ble_eq_true rfl⟩) hS hA hP (fun r_29 H locs hw_29 hP hS => ?_)
            try dsimp only at hw_29
            rcases hw_29 with ⟨rfl, hw_29⟩ | ⟨rfl, hw_29⟩
            · refine lv_if_ne (tgt := 175) hx hb dX8_takeFigures_163 (by decide) (fun _ => ?_) (fun h => absurd h (by decide))
              refine lv_iconst (v := 0) hx hb dX8_takeFigures_175 (by decide) ?_
              have hP9 := hP.sub (ws' := [((a 0), .inr (8, (fX8 a (nI tx) fp (nI t_1) wd (nI we) x_26 na (nI rd) ts (nI ru) (nI rw) (nI ca) df db sd))), (aI k (a 5) 240 ftext)]) [0, 1] rfl
              have hD9 := hD.sub (ws' := [((a 0), .inr (8, (fX8 a (nI tx) fp (nI t_1) wd (nI we) x_26 na (nI rd) ts (nI ru) (nI rw) (nI ca) df db sd))), (aI k (a 5) 240 ftext)]) [0, 1] (by decide) rfl
              exact W.iret (v := 0) hx hb hr (fun t ht hW => ⟨⟨0, (t_1, x_26, fp, 0), rfl, ⟨rfl, by omega, by omega, by omega, by omega, fun _ => hw_29⟩, by rw [ht]; exact hP9, hD9⟩, hS.F ht⟩) hS.2.2 dX8_takeFigures_176
            · refine lv_if_ne (tgt := 175) hx hb dX8_takeFigures_163 (by decide) (fun h => absurd (by decide) h) (fun _ => ?_)
              refine lv_aload_n hx hb dX8_takeFigures_166 rfl (lv_at hl 2 rfl) ?_
              refine lv_iconst (v := 2) hx hb dX8_takeFigures_167 (by decide) ?_
              refine lv_iload_n hx hb dX8_takeFigures_168 rfl (lv_at hl 3 rfl) ?_
              refine rw_i (D := D) (wr := [(aI k (a 5) 240 ftext)]) (va_runV (As := [.int 2, .int p0]) (rest := []) ⟨hx, hb, hml, hown, hts⟩ ((m_fails l D k st lo a tx t_1 we rd ru rw ca fp wd x_26 na ts df db sd 2 p0) H.size) (cwV 2 hts (gV tw_1151 tw_1153 tw_31 tw_87 tw_1154) rfl rfl rfl (by decide +kernel) ⟨Nat.le_of_ble_eq_true rfl, Nat.le_of_ble_eq_true rfl⟩) (pV hS hAlo hlo hP hK (va_Dlo hD hAlo) hZ [0] (by decide) rfl (ci := 8) (q := (RX8, TX8, 44)) (q0 := 0) rfl rfl) rfl rfl hl.1 rfl (lv_room (Nat.le_of_ble_eq_true rfl)) dX8_takeFigures_169 ⟨Nat.le_of_ble_eq_true rfl, Nat.le_of_ble_eq_true rfl⟩) hS hA hP hD [0] [1] rfl rfl (by decide) (by decide) (fun r_30 u H locs hw_30 hP hD hS => ?_)
              obtain ⟨fp__30, rfl⟩ : ∃ z, z = u := ⟨_, rfl⟩
              replace hP : va_P D classes [(aI k (a 5) 240 ftext), ((a 0), .inr (8, (fX8 a (nI tx) fp__30 (nI t_1) wd (nI we) x_26 na (nI rd) ts (nI ru) (nI rw) (nI ca) df db sd)))] H := hP
              replace hD : va_D A [(aI k (a 5) 240 ftext), ((a 0), .inr (8, (fX8 a (nI tx) fp__30 (nI t_1) wd (nI we) x_26 na (nI rd) ts (nI ru) (nI rw) (nI ca) df db sd)))] := hD
              try dsimp only at hw_30
              subst hw_30
              refine lv_goto (tgt := 176) hx hb dX8_takeFigures_172 (by decide) ?_
              have hP9 := hP.sub (ws' := [((a 0), .inr (8, (fX8 a (nI tx) fp__30 (nI t_1) wd (nI we) x_26 na (nI rd) ts (nI ru) (nI rw) (nI ca) df db sd))), (aI k (a 5) 240 ftext)]) [1, 0] rfl
              have hD9 := hD.sub (ws' := [((a 0), .inr (8, (fX8 a (nI tx) fp__30 (nI t_1) wd (nI we) x_26 na (nI rd) ts (nI ru) (nI rw) (nI ca) df db sd))), (aI k (a 5) 240 ftext)]) [1, 0] (by decide) rfl
              exact W.iret (v := 2) hx hb hr (fun t ht hW => ⟨⟨2, (t_1, x_26, fp__30, 2), rfl, ⟨rfl, by omega, by omega, by omega, by omega, fun h => absurd h (by decide)⟩, by rw [ht]; exact hP9, hD9⟩, hS.F ht⟩) hS.2.2 dX8_takeFigures_176
      · have c_20 := (nI_eq (a := t_1) (b := t0) (by omega) (by omega)).mp c_20
        refine lv_aload_n hx hb dX8_takeFigures_107 rfl (lv_at hl 1 rfl) ?_
        refine lv_iconst (v := 1) hx hb dX8_takeFigures_108 (by decide) ?_
        refine lv_iload hx hb dX8_takeFigures_109 (lv_at hl 0 rfl) ?_
        refine rw_i (D := D) (wr := [(aI k (a 5) 240 ftext)]) (va_runV (As := [.int 1, .int (nI t0)]) (rest := []) ⟨hx, hb, hml, hown, hts⟩ ((m_fails l D k st lo a tx t_1 we rd ru rw ca fp wd nu2_1 na ts df db sd 1 (nI t0)) H.size) (cwV 2 hts (gV tw_1151 tw_1153 tw_31 tw_87 tw_1154) rfl rfl rfl (by decide +kernel) ⟨Nat.le_of_ble_eq_true rfl, Nat.le_of_ble_eq_true rfl⟩) (pV hS hAlo hlo hP hK (va_Dlo hD hAlo) hZ [0] (by decide) rfl (ci := 8) (q := (RX8, TX8, 44)) (q0 := 0) rfl rfl) rfl rfl hl.1 rfl (lv_room (Nat.le_of_ble_eq_true rfl)) dX8_takeFigures_111 ⟨Nat.le_of_ble_eq_true rfl, Nat.le_of_ble_eq_true rfl⟩) hS hA hP hD [0] [1] rfl rfl (by decide) (by decide) (fun r_31 u H locs hw_31 hP hD hS => ?_)
        obtain ⟨fp__31, rfl⟩ : ∃ z, z = u := ⟨_, rfl⟩
        replace hP : va_P D classes [(aI k (a 5) 240 ftext), ((a 0), .inr (8, (fX8 a (nI tx) fp__31 (nI t_1) wd (nI we) nu2_1 na (nI rd) ts (nI ru) (nI rw) (nI ca) df db sd)))] H := hP
        replace hD : va_D A [(aI k (a 5) 240 ftext), ((a 0), .inr (8, (fX8 a (nI tx) fp__31 (nI t_1) wd (nI we) nu2_1 na (nI rd) ts (nI ru) (nI rw) (nI ca) df db sd)))] := hD
        try dsimp only at hw_31
        subst hw_31
        have hP9 := hP.sub (ws' := [((a 0), .inr (8, (fX8 a (nI tx) fp__31 (nI t_1) wd (nI we) nu2_1 na (nI rd) ts (nI ru) (nI rw) (nI ca) df db sd))), (aI k (a 5) 240 ftext)]) [1, 0] rfl
        have hD9 := hD.sub (ws' := [((a 0), .inr (8, (fX8 a (nI tx) fp__31 (nI t_1) wd (nI we) nu2_1 na (nI rd) ts (nI ru) (nI rw) (nI ca) df db sd))), (aI k (a 5) 240 ftext)]) [1, 0] (by decide) rfl
        exact W.iret (v := 1) hx hb hr (fun t ht hW => ⟨⟨1, (t_1, nu2_1, fp__31, 1), rfl, ⟨rfl, by omega, by omega, by omega, by omega, fun h => absurd h (by decide)⟩, by rw [ht]; exact hP9, hD9⟩, hS.F ht⟩) hS.2.2 dX8_takeFigures_114

theorem dX8_takeNumber_0 : decode cX8_takeNumber 0 = .ok (.aload_n 0, 1) := by decide +kernel
theorem dX8_takeNumber_1 : decode cX8_takeNumber 1 = .ok (.invokevirtual 121, 3) := by decide +kernel
theorem dX8_takeNumber_4 : decode cX8_takeNumber 4 = .ok (.istore_n 3, 1) := by decide +kernel
theorem dX8_takeNumber_5 : decode cX8_takeNumber 5 = .ok (.aload_n 0, 1) := by decide +kernel
theorem dX8_takeNumber_6 : decode cX8_takeNumber 6 = .ok (.aload_n 0, 1) := by decide +kernel
theorem dX8_takeNumber_7 : decode cX8_takeNumber 7 = .ok (.getfield 118, 3) := by decide +kernel
theorem dX8_takeNumber_10 : decode cX8_takeNumber 10 = .ok (.putfield 170, 3) := by decide +kernel
theorem dX8_takeNumber_13 : decode cX8_takeNumber 13 = .ok (.iload_n 3, 1) := by decide +kernel
theorem dX8_takeNumber_14 : decode cX8_takeNumber 14 = .ok (.i2l, 1) := by decide +kernel
theorem dX8_takeNumber_15 : decode cX8_takeNumber 15 = .ok (.ldc2_w 166, 3) := by decide +kernel
theorem dX8_takeNumber_18 : decode cX8_takeNumber 18 = .ok (.ldc2_w 168, 3) := by decide +kernel
theorem dX8_takeNumber_21 : decode cX8_takeNumber 21 = .ok (.invokestatic 107, 3) := by decide +kernel
theorem dX8_takeNumber_24 : decode cX8_takeNumber 24 = .ok (.ifCond .eq 17, 3) := by decide +kernel
theorem dX8_takeNumber_27 : decode cX8_takeNumber 27 = .ok (.aload_n 0, 1) := by decide +kernel
theorem dX8_takeNumber_28 : decode cX8_takeNumber 28 = .ok (.aload_n 0, 1) := by decide +kernel
theorem dX8_takeNumber_29 : decode cX8_takeNumber 29 = .ok (.getfield 170, 3) := by decide +kernel
theorem dX8_takeNumber_32 : decode cX8_takeNumber 32 = .ok (.iload_n 1, 1) := by decide +kernel
theorem dX8_takeNumber_33 : decode cX8_takeNumber 33 = .ok (.iload_n 2, 1) := by decide +kernel
theorem dX8_takeNumber_34 : decode cX8_takeNumber 34 = .ok (.iconst 0, 1) := by decide +kernel
theorem dX8_takeNumber_35 : decode cX8_takeNumber 35 = .ok (.invokevirtual 173, 3) := by decide +kernel
theorem dX8_takeNumber_38 : decode cX8_takeNumber 38 = .ok (.goto 12, 3) := by decide +kernel
theorem dX8_takeNumber_41 : decode cX8_takeNumber 41 = .ok (.aload_n 0, 1) := by decide +kernel
theorem dX8_takeNumber_42 : decode cX8_takeNumber 42 = .ok (.iconst 1, 1) := by decide +kernel
theorem dX8_takeNumber_43 : decode cX8_takeNumber 43 = .ok (.aload_n 0, 1) := by decide +kernel
theorem dX8_takeNumber_44 : decode cX8_takeNumber 44 = .ok (.getfield 118, 3) := by decide +kernel
theorem dX8_takeNumber_47 : decode cX8_takeNumber 47 = .ok (.invokevirtual 159, 3) := by decide +kernel
theorem dX8_takeNumber_50 : decode cX8_takeNumber 50 = .ok (.ireturn, 1) := by decide +kernel
set_option maxHeartbeats 4000000 in
set_option maxRecDepth 100000 in
theorem m_takeNumber (l : Launch) (D : va_G) (k : Nat → ClassId) (st : Nat → Nat) (lo : Nat) (a : Nat → Nat) (tx : Nat) (t0 : Nat) (we : Nat) (rd : Nat) (ru : Nat) (rw : Nat) (ca : Nat) (fp : Int32) (wd : Int64) (nu : Int32) (na : Int32) (ts : Int32) (df : Int32) (db : Int32) (sd : Int32) (ftext : Nat → Int32) (p0 : Int32) (p1 : Int32) (ht : t0 ≤ tx) (htx : tx ≤ 240) : CWi l D k st lo yX8_takeNumber cX8_takeNumber 4 (some .int) ({ frames := 2, cells := 0, slots := 0, locals := 51 }) 0 0 [.ref (a 0), .int p0, .int p1] [((a 0), .inr (8, (fX8 a (nI tx) fp (nI t0) wd (nI we) nu na (nI rd) ts (nI ru) (nI rw) (nI ca) df db sd))), (aI k (a 5) 240 ftext)] (fun (r : Int32) (u : Nat × Int32 × Int32 × Int32 × Nat) => match u with | (t0_, nu_, na_, fp_, er) => r = nI er ∧ er ≤ 2 ∧ t0 ≤ t0_ ∧ t0_ ≤ tx ∧ (er = 0 → t0 < t0_) ∧ (er = 0 → inB nu_ p0 p1)) (fun (u : Nat × Int32 × Int32 × Int32 × Nat) => match u with | (t0_, nu_, na_, fp_, er) => [((a 0), .inr (8, (fX8 a (nI tx) fp_ (nI t0_) wd (nI we) nu_ na_ (nI rd) ts (nI ru) (nI rw) (nI ca) df db sd))), (aI k (a 5) 240 ftext)]) := by
  intro sz
  refine Met.ofW (cc := cX8_takeNumber) (maxL := 4) (ret := (some .int)) (by decide) rfl ?_
  intro p e s m args below meth c s₁ B hml hv
  obtain ⟨rfl, hsz, hlo, hP, hK, hDL, hZ⟩ := hv
  have hx := B.exec
  have hb := B.bytes
  have hr := B.returns
  have hts := WS_ts B.pre
  have hown : s.vm.findClass RX8 = some m.cls := findClass_of_methodNamed B.named
  have hlocks := B.notSynchronized
  subst hsz
  have hD := hDL.self (sz := s.heap.size)
  have hAlo := A_lo hDL hlo
  generalize hAe : va_A [((a 0), .inr (8, (fX8 a (nI tx) fp (nI t0) wd (nI we) nu na (nI rd) ts (nI ru) (nI rw) (nI ca) df db sd))), (aI k (a 5) 240 ftext)] s.heap.size = A at hD hAlo ⊢
  have hA : ∀ q : Nat, s.heap.size ≤ q → A q := fun q h => by rw [← hAe]; exact Or.inr h
  have hS : va_S A s.heap s.heap [] := va_S.rf
  have hl := lv_entry ([.ref (a 0), .int p0, .int p1]) (n := 4) (Nat.le_of_ble_eq_true rfl)
  rw [lg_entry_eq]
  generalize (lg_sl ([.ref (a 0), .int p0, .int p1]) ++ List.replicate (4 - (lg_sl ([.ref (a 0), .int p0, .int p1])).length) Slot.unset).toArray = ls at hl ⊢
  have hl : lv_has ls 4 [(0, .ref (a 0)), (1, .int p0), (2, .int p1)] := hl
  refine lv_aload_n hx hb dX8_takeNumber_0 rfl (lv_at hl 0 rfl) ?_
  refine rw_i (D := D) (wr := []) (va_runV (As := []) (rest := []) ⟨hx, hb, hml, hown, hts⟩ ((m_here l D k st lo a tx t0 we rd ru rw ca fp wd nu na ts df db sd ftext (by omega) (by omega)) s.heap.size) (cwV 0 hts (gV tw_1120 tw_1122 tw_27 tw_87 tw_1123) rfl rfl rfl (by decide +kernel) ⟨Nat.le_of_ble_eq_true rfl, Nat.le_of_ble_eq_true rfl⟩) (pV hS hAlo hlo hP hK (va_Dlo hD hAlo) hZ [0, 1] (by decide) rfl (ci := 8) (q := (RX8, TX8, 44)) (q0 := 0) rfl rfl) rfl rfl hl.1 rfl (lv_room (Nat.le_of_ble_eq_true rfl)) dX8_takeNumber_1 ⟨Nat.le_of_ble_eq_true rfl, Nat.le_of_ble_eq_true rfl⟩) hS hA hP hD [0, 1] [] rfl rfl (by decide) (by decide) (fun r_1 u H locs hw_1 hP hD hS => ?_)
  obtain ⟨t0__1, rfl⟩ : ∃ z, z = u := ⟨_, rfl⟩
  replace hP : va_P D classes [((a 0), .inr (8, (fX8 a (nI tx) fp (nI t0__1) wd (nI we) nu na (nI rd) ts (nI ru) (nI rw) (nI ca) df db sd))), (aI k (a 5) 240 ftext)] H := hP
  replace hD : va_D A [((a 0), .inr (8, (fX8 a (nI tx) fp (nI t0__1) wd (nI we) nu na (nI rd) ts (nI ru) (nI rw) (nI ca) df db sd))), (aI k (a 5) 240 ftext)] := hD
  try dsimp only at hw_1
  refine lv_istore_n (lv' := [(3, .int r_1), (0, .ref (a 0)), (1, .int p0), (2, .int p1)]) hx hb dX8_takeNumber_4 rfl hl (by decide) rfl (fun ls hl => ?_)
  refine lv_aload_n hx hb dX8_takeNumber_5 rfl (lv_at hl 1 rfl) ?_
  refine lv_aload_n hx hb dX8_takeNumber_6 rfl (lv_at hl 1 rfl) ?_
  refine va_get (D := D) (ci := 8) (v := .int (nI t0__1)) (C := RX8) (T := TX8) (N := 44) hx hb hts inX8 hown hK hP 0 rfl rfl 7 (by decide) (hts _ tw_980) (fun _ h9 => h9) rfl dX8_takeNumber_7 ?_
  refine va_put (D := D) (ci := 8) (v := .int (nI t0__1)) (ty := .int) (C := RX8) (T := TX8) (N := 44) hx hb hts inX8 tyX8 tyX8_ok nmX8 hown hK hP hD hS 0 rfl rfl 11 (by decide) (hts _ tw_984) (fun _ h9 => h9) rfl (by decide +kernel) rfl rfl (Nat.le_of_ble_eq_true rfl) dX8_takeNumber_10 (fun H locs hP hD hS => ?_)
  replace hP : va_P D classes [((a 0), .inr (8, (fX8 a (nI tx) fp (nI t0__1) wd (nI we) nu (nI t0__1) (nI rd) ts (nI ru) (nI rw) (nI ca) df db sd))), (aI k (a 5) 240 ftext)] H := hP
  replace hD : va_D A [((a 0), .inr (8, (fX8 a (nI tx) fp (nI t0__1) wd (nI we) nu (nI t0__1) (nI rd) ts (nI ru) (nI rw) (nI ca) df db sd))), (aI k (a 5) 240 ftext)] := hD
  refine lv_iload_n hx hb dX8_takeNumber_13 rfl (lv_at hl 0 rfl) ?_
  refine lv_i2l (v := r_1.toInt64) hx hb dX8_takeNumber_14 rfl ?_
  refine lv_ldc2 hx hb hown (hts _ tw_1163) dX8_takeNumber_15 ?_
  refine lv_tl (y := ((48 : Int32).toInt64)) (by decide) ?_
  refine lv_ldc2 hx hb hown (hts _ tw_1164) dX8_takeNumber_18 ?_
  refine lv_tl (y := ((57 : Int32).toInt64)) (by decide) ?_
  refine ro_i (D := D) (va_runS (As := [.long (r_1.toInt64), .long ((48 : Int32).toInt64), .long ((57 : Int32).toInt64)]) (rest := []) ⟨hx, hb, hml, hown, hts⟩ ((k_in l D k st lo r_1 (48 : Int32) (57 : Int32)) H.size) (va_cwS 3 hts (gS tw_1111 tw_1112 tw_87 tw_1113) rfl rfl rfl (by decide +kernel) ⟨Nat.le_of_ble_eq_true rfl, Nat.le_of_ble_eq_true rfl⟩) (pS hS hAlo hlo hP hK (va_Dlo hD hAlo) hZ [] (by decide) rfl) rfl rfl hl.1 rfl (lv_room (Nat.le_of_ble_eq_true rfl)) dX8_takeNumber_21 ⟨Nat.le_of_ble_eq_true rfl, Nat.le_of_ble_eq_true rfl⟩) hS hA hP (fun r_2 H locs hw_2 hP hS => ?_)
  try dsimp only at hw_2
  rcases hw_2 with ⟨rfl, hw_2⟩ | ⟨rfl, hw_2⟩
  · refine lv_if_eq (tgt := 41) hx hb dX8_takeNumber_24 (by decide) (fun h => absurd h (by decide)) (fun _ => ?_)
    refine lv_aload_n hx hb dX8_takeNumber_27 rfl (lv_at hl 1 rfl) ?_
    refine lv_aload_n hx hb dX8_takeNumber_28 rfl (lv_at hl 1 rfl) ?_
    refine va_get (D := D) (ci := 8) (v := .int (nI t0__1)) (C := RX8) (T := TX8) (N := 44) hx hb hts inX8 hown hK hP 0 rfl rfl 11 (by decide) (hts _ tw_984) (fun _ h9 => h9) rfl dX8_takeNumber_29 ?_
    refine lv_iload_n hx hb dX8_takeNumber_32 rfl (lv_at hl 2 rfl) ?_
    refine lv_iload_n hx hb dX8_takeNumber_33 rfl (lv_at hl 3 rfl) ?_
    refine lv_iconst (v := 0) hx hb dX8_takeNumber_34 (by decide) ?_
    refine rw_i (D := D) (wr := []) (va_runV (As := [.int (nI t0__1), .int p0, .int p1, .int 0]) (rest := []) ⟨hx, hb, hml, hown, hts⟩ ((m_takeFigures l D k st lo a tx t0__1 we rd ru rw ca fp wd nu (nI t0__1) ts df db sd ftext (nI t0__1) p0 p1 0 (by omega) (by omega)) H.size) (cwV 4 hts (gV tw_1165 tw_1167 tw_34 tw_87 tw_1168) rfl rfl rfl (by decide +kernel) ⟨Nat.le_of_ble_eq_true rfl, Nat.le_of_ble_eq_true rfl⟩) (pV hS hAlo hlo hP hK (va_Dlo hD hAlo) hZ [0, 1] (by decide) rfl (ci := 8) (q := (RX8, TX8, 44)) (q0 := 0) rfl rfl) rfl rfl hl.1 rfl (lv_room (Nat.le_of_ble_eq_true rfl)) dX8_takeNumber_35 ⟨Nat.le_of_ble_eq_true rfl, Nat.le_of_ble_eq_true rfl⟩) hS hA hP hD [0, 1] [] rfl rfl (by decide) (by decide) (fun r_3 u H locs hw_3 hP hD hS => ?_)
    obtain ⟨t0__3, nu__3, fp__3, er_3⟩ := u
    replace hP : va_P D classes [((a 0), .inr (8, (fX8 a (nI tx) fp__3 (nI t0__3) wd (nI we) nu__3 (nI t0__1) (nI rd) ts (nI ru) (nI rw) (nI ca) df db sd))), (aI k (a 5) 240 ftext)] H := hP
    replace hD : va_D A [((a 0), .inr (8, (fX8 a (nI tx) fp__3 (nI t0__3) wd (nI we) nu__3 (nI t0__1) (nI rd) ts (nI ru) (nI rw) (nI ca) df db sd))), (aI k (a 5) 240 ftext)] := hD
    try dsimp only at hw_3
    obtain ⟨rfl, hw_3⟩ := hw_3
    refine lv_goto (tgt := 50) hx hb dX8_takeNumber_38 (by decide) ?_
    have hP9 := hP.sub (ws' := [((a 0), .inr (8, (fX8 a (nI tx) fp__3 (nI t0__3) wd (nI we) nu__3 (nI t0__1) (nI rd) ts (nI ru) (nI rw) (nI ca) df db sd))), (aI k (a 5) 240 ftext)]) [0, 1] rfl
    have hD9 := hD.sub (ws' := [((a 0), .inr (8, (fX8 a (nI tx) fp__3 (nI t0__3) wd (nI we) nu__3 (nI t0__1) (nI rd) ts (nI ru) (nI rw) (nI ca) df db sd))), (aI k (a 5) 240 ftext)]) [0, 1] (by decide) rfl
    exact W.iret (v := (nI er_3)) hx hb hr (fun t ht hW => ⟨⟨(nI er_3), (t0__3, nu__3, (nI t0__1), fp__3, er_3), rfl, ⟨rfl, by omega, by omega, by omega, by omega, hw_3.2.2.2.2⟩, by rw [ht]; exact hP9, hD9⟩, hS.F ht⟩) hS.2.2 dX8_takeNumber_50
  · refine lv_if_eq (tgt := 41) hx hb dX8_takeNumber_24 (by decide) (fun _ => ?_) (fun h => absurd (by decide) h)
    refine lv_aload_n hx hb dX8_takeNumber_41 rfl (lv_at hl 1 rfl) ?_
    refine lv_iconst (v := 1) hx hb dX8_takeNumber_42 (by decide) ?_
    refine lv_aload_n hx hb dX8_takeNumber_43 rfl (lv_at hl 1 rfl) ?_
    refine va_get (D := D) (ci := 8) (v := .int (nI t0__1)) (C := RX8) (T := TX8) (N := 44) hx hb hts inX8 hown hK hP 0 rfl rfl 7 (by decide) (hts _ tw_980) (fun _ h9 => h9) rfl dX8_takeNumber_44 ?_
    refine rw_i (D := D) (wr := [(aI k (a 5) 240 ftext)]) (va_runV (As := [.int 1, .int (nI t0__1)]) (rest := []) ⟨hx, hb, hml, hown, hts⟩ ((m_fails l D k st lo a tx t0__1 we rd ru rw ca fp wd nu (nI t0__1) ts df db sd 1 (nI t0__1)) H.size) (cwV 2 hts (gV tw_1151 tw_1153 tw_31 tw_87 tw_1154) rfl rfl rfl (by decide +kernel) ⟨Nat.le_of_ble_eq_true rfl, Nat.le_of_ble_eq_true rfl⟩) (pV hS hAlo hlo hP hK (va_Dlo hD hAlo) hZ [0] (by decide) rfl (ci := 8) (q := (RX8, TX8, 44)) (q0 := 0) rfl rfl) rfl rfl hl.1 rfl (lv_room (Nat.le_of_ble_eq_true rfl)) dX8_takeNumber_47 ⟨Nat.le_of_ble_eq_true rfl, Nat.le_of_ble_eq_true rfl⟩) hS hA hP hD [0] [1] rfl rfl (by decide) (by decide) (fun r_4 u H locs hw_4 hP hD hS => ?_)
    obtain ⟨fp__4, rfl⟩ : ∃ z, z = u := ⟨_, rfl⟩
    replace hP : va_P D classes [(aI k (a 5) 240 ftext), ((a 0), .inr (8, (fX8 a (nI tx) fp__4 (nI t0__1) wd (nI we) nu (nI t0__1) (nI rd) ts (nI ru) (nI rw) (nI ca) df db sd)))] H := hP
    replace hD : va_D A [(aI k (a 5) 240 ftext), ((a 0), .inr (8, (fX8 a (nI tx) fp__4 (nI t0__1) wd (nI we) nu (nI t0__1) (nI rd) ts (nI ru) (nI rw) (nI ca) df db sd)))] := hD
    try dsimp only at hw_4
    subst hw_4
    have hP9 := hP.sub (ws' := [((a 0), .inr (8, (fX8 a (nI tx) fp__4 (nI t0__1) wd (nI we) nu (nI t0__1) (nI rd) ts (nI ru) (nI rw) (nI ca) df db sd))), (aI k (a 5) 240 ftext)]) [1, 0] rfl
    have hD9 := hD.sub (ws' := [((a 0), .inr (8, (fX8 a (nI tx) fp__4 (nI t0__1) wd (nI we) nu (nI t0__1) (nI rd) ts (nI ru) (nI rw) (nI ca) df db sd))), (aI k (a 5) 240 ftext)]) [1, 0] (by decide) rfl
    exact W.iret (v := 1) hx hb hr (fun t ht hW => ⟨⟨1, (t0__1, nu, (nI t0__1), fp__4, 1), rfl, ⟨rfl, by omega, by omega, by omega, by omega, fun h => absurd h (by decide)⟩, by rw [ht]; exact hP9, hD9⟩, hS.F ht⟩) hS.2.2 dX8_takeNumber_50

theorem dX8_takeSigned_0 : decode cX8_takeSigned 0 = .ok (.aload_n 0, 1) := by decide +kernel
theorem dX8_takeSigned_1 : decode cX8_takeSigned 1 = .ok (.invokevirtual 121, 3) := by decide +kernel
theorem dX8_takeSigned_4 : decode cX8_takeSigned 4 = .ok (.istore_n 2, 1) := by decide +kernel
theorem dX8_takeSigned_5 : decode cX8_takeSigned 5 = .ok (.aload_n 0, 1) := by decide +kernel
theorem dX8_takeSigned_6 : decode cX8_takeSigned 6 = .ok (.aload_n 0, 1) := by decide +kernel
theorem dX8_takeSigned_7 : decode cX8_takeSigned 7 = .ok (.getfield 118, 3) := by decide +kernel
theorem dX8_takeSigned_10 : decode cX8_takeSigned 10 = .ok (.putfield 170, 3) := by decide +kernel
theorem dX8_takeSigned_13 : decode cX8_takeSigned 13 = .ok (.iload_n 2, 1) := by decide +kernel
theorem dX8_takeSigned_14 : decode cX8_takeSigned 14 = .ok (.bipush 45, 2) := by decide +kernel
theorem dX8_takeSigned_16 : decode cX8_takeSigned 16 = .ok (.if_icmp .ne 7, 3) := by decide +kernel
theorem dX8_takeSigned_19 : decode cX8_takeSigned 19 = .ok (.iconst 1, 1) := by decide +kernel
theorem dX8_takeSigned_20 : decode cX8_takeSigned 20 = .ok (.goto 4, 3) := by decide +kernel
theorem dX8_takeSigned_23 : decode cX8_takeSigned 23 = .ok (.iconst 0, 1) := by decide +kernel
theorem dX8_takeSigned_24 : decode cX8_takeSigned 24 = .ok (.istore_n 3, 1) := by decide +kernel
theorem dX8_takeSigned_25 : decode cX8_takeSigned 25 = .ok (.aload_n 0, 1) := by decide +kernel
theorem dX8_takeSigned_26 : decode cX8_takeSigned 26 = .ok (.dup, 1) := by decide +kernel
theorem dX8_takeSigned_27 : decode cX8_takeSigned 27 = .ok (.getfield 118, 3) := by decide +kernel
theorem dX8_takeSigned_30 : decode cX8_takeSigned 30 = .ok (.iload_n 3, 1) := by decide +kernel
theorem dX8_takeSigned_31 : decode cX8_takeSigned 31 = .ok (.ifCond .eq 7, 3) := by decide +kernel
theorem dX8_takeSigned_34 : decode cX8_takeSigned 34 = .ok (.iconst 1, 1) := by decide +kernel
theorem dX8_takeSigned_35 : decode cX8_takeSigned 35 = .ok (.goto 4, 3) := by decide +kernel
theorem dX8_takeSigned_38 : decode cX8_takeSigned 38 = .ok (.iconst 0, 1) := by decide +kernel
theorem dX8_takeSigned_39 : decode cX8_takeSigned 39 = .ok (.iadd, 1) := by decide +kernel
theorem dX8_takeSigned_40 : decode cX8_takeSigned 40 = .ok (.putfield 118, 3) := by decide +kernel
theorem dX8_takeSigned_43 : decode cX8_takeSigned 43 = .ok (.aload_n 0, 1) := by decide +kernel
theorem dX8_takeSigned_44 : decode cX8_takeSigned 44 = .ok (.aload_n 0, 1) := by decide +kernel
theorem dX8_takeSigned_45 : decode cX8_takeSigned 45 = .ok (.getfield 170, 3) := by decide +kernel
theorem dX8_takeSigned_48 : decode cX8_takeSigned 48 = .ok (.iload_n 1, 1) := by decide +kernel
theorem dX8_takeSigned_49 : decode cX8_takeSigned 49 = .ok (.ineg, 1) := by decide +kernel
theorem dX8_takeSigned_50 : decode cX8_takeSigned 50 = .ok (.iload_n 1, 1) := by decide +kernel
theorem dX8_takeSigned_51 : decode cX8_takeSigned 51 = .ok (.iload_n 3, 1) := by decide +kernel
theorem dX8_takeSigned_52 : decode cX8_takeSigned 52 = .ok (.invokevirtual 173, 3) := by decide +kernel
theorem dX8_takeSigned_55 : decode cX8_takeSigned 55 = .ok (.ireturn, 1) := by decide +kernel
set_option maxHeartbeats 4000000 in
set_option maxRecDepth 100000 in
theorem m_takeSigned (l : Launch) (D : va_G) (k : Nat → ClassId) (st : Nat → Nat) (lo : Nat) (a : Nat → Nat) (tx : Nat) (t0 : Nat) (we : Nat) (rd : Nat) (ru : Nat) (rw : Nat) (ca : Nat) (fp : Int32) (wd : Int64) (nu : Int32) (na : Int32) (ts : Int32) (df : Int32) (db : Int32) (sd : Int32) (ftext : Nat → Int32) (p0 : Int32) (ht : t0 ≤ tx) (htx : tx ≤ 240) : CWi l D k st lo yX8_takeSigned cX8_takeSigned 4 (some .int) ({ frames := 2, cells := 0, slots := 0, locals := 51 }) 0 0 [.ref (a 0), .int p0] [((a 0), .inr (8, (fX8 a (nI tx) fp (nI t0) wd (nI we) nu na (nI rd) ts (nI ru) (nI rw) (nI ca) df db sd))), (aI k (a 5) 240 ftext)] (fun (r : Int32) (u : Nat × Int32 × Int32 × Int32 × Nat) => match u with | (t0_, nu_, na_, fp_, er) => r = nI er ∧ er ≤ 2 ∧ t0 ≤ t0_ ∧ t0_ ≤ tx) (fun (u : Nat × Int32 × Int32 × Int32 × Nat) => match u with | (t0_, nu_, na_, fp_, er) => [((a 0), .inr (8, (fX8 a (nI tx) fp_ (nI t0_) wd (nI we) nu_ na_ (nI rd) ts (nI ru) (nI rw) (nI ca) df db sd))), (aI k (a 5) 240 ftext)]) := by
  intro sz
  refine Met.ofW (cc := cX8_takeSigned) (maxL := 4) (ret := (some .int)) (by decide) rfl ?_
  intro p e s m args below meth c s₁ B hml hv
  obtain ⟨rfl, hsz, hlo, hP, hK, hDL, hZ⟩ := hv
  have hx := B.exec
  have hb := B.bytes
  have hr := B.returns
  have hts := WS_ts B.pre
  have hown : s.vm.findClass RX8 = some m.cls := findClass_of_methodNamed B.named
  have hlocks := B.notSynchronized
  subst hsz
  have hD := hDL.self (sz := s.heap.size)
  have hAlo := A_lo hDL hlo
  generalize hAe : va_A [((a 0), .inr (8, (fX8 a (nI tx) fp (nI t0) wd (nI we) nu na (nI rd) ts (nI ru) (nI rw) (nI ca) df db sd))), (aI k (a 5) 240 ftext)] s.heap.size = A at hD hAlo ⊢
  have hA : ∀ q : Nat, s.heap.size ≤ q → A q := fun q h => by rw [← hAe]; exact Or.inr h
  have hS : va_S A s.heap s.heap [] := va_S.rf
  have hl := lv_entry ([.ref (a 0), .int p0]) (n := 4) (Nat.le_of_ble_eq_true rfl)
  rw [lg_entry_eq]
  generalize (lg_sl ([.ref (a 0), .int p0]) ++ List.replicate (4 - (lg_sl ([.ref (a 0), .int p0])).length) Slot.unset).toArray = ls at hl ⊢
  have hl : lv_has ls 4 [(0, .ref (a 0)), (1, .int p0)] := hl
  refine lv_aload_n hx hb dX8_takeSigned_0 rfl (lv_at hl 0 rfl) ?_
  refine rw_i (D := D) (wr := []) (va_runV (As := []) (rest := []) ⟨hx, hb, hml, hown, hts⟩ ((m_here l D k st lo a tx t0 we rd ru rw ca fp wd nu na ts df db sd ftext (by omega) (by omega)) s.heap.size) (cwV 0 hts (gV tw_1120 tw_1122 tw_27 tw_87 tw_1123) rfl rfl rfl (by decide +kernel) ⟨Nat.le_of_ble_eq_true rfl, Nat.le_of_ble_eq_true rfl⟩) (pV hS hAlo hlo hP hK (va_Dlo hD hAlo) hZ [0, 1] (by decide) rfl (ci := 8) (q := (RX8, TX8, 44)) (q0 := 0) rfl rfl) rfl rfl hl.1 rfl (lv_room (Nat.le_of_ble_eq_true rfl)) dX8_takeSigned_1 ⟨Nat.le_of_ble_eq_true rfl, Nat.le_of_ble_eq_true rfl⟩) hS hA hP hD [0, 1] [] rfl rfl (by decide) (by decide) (fun r_1 u H locs hw_1 hP hD hS => ?_)
  obtain ⟨t0__1, rfl⟩ : ∃ z, z = u := ⟨_, rfl⟩
  replace hP : va_P D classes [((a 0), .inr (8, (fX8 a (nI tx) fp (nI t0__1) wd (nI we) nu na (nI rd) ts (nI ru) (nI rw) (nI ca) df db sd))), (aI k (a 5) 240 ftext)] H := hP
  replace hD : va_D A [((a 0), .inr (8, (fX8 a (nI tx) fp (nI t0__1) wd (nI we) nu na (nI rd) ts (nI ru) (nI rw) (nI ca) df db sd))), (aI k (a 5) 240 ftext)] := hD
  try dsimp only at hw_1
  refine lv_istore_n (lv' := [(2, .int r_1), (0, .ref (a 0)), (1, .int p0)]) hx hb dX8_takeSigned_4 rfl hl (by decide) rfl (fun ls hl => ?_)
  refine lv_aload_n hx hb dX8_takeSigned_5 rfl (lv_at hl 1 rfl) ?_
  refine lv_aload_n hx hb dX8_takeSigned_6 rfl (lv_at hl 1 rfl) ?_
  refine va_get (D := D) (ci := 8) (v := .int (nI t0__1)) (C := RX8) (T := TX8) (N := 44) hx hb hts inX8 hown hK hP 0 rfl rfl 7 (by decide) (hts _ tw_980) (fun _ h9 => h9) rfl dX8_takeSigned_7 ?_
  refine va_put (D := D) (ci := 8) (v := .int (nI t0__1)) (ty := .int) (C := RX8) (T := TX8) (N := 44) hx hb hts inX8 tyX8 tyX8_ok nmX8 hown hK hP hD hS 0 rfl rfl 11 (by decide) (hts _ tw_984) (fun _ h9 => h9) rfl (by decide +kernel) rfl rfl (Nat.le_of_ble_eq_true rfl) dX8_takeSigned_10 (fun H locs hP hD hS => ?_)
  replace hP : va_P D classes [((a 0), .inr (8, (fX8 a (nI tx) fp (nI t0__1) wd (nI we) nu (nI t0__1) (nI rd) ts (nI ru) (nI rw) (nI ca) df db sd))), (aI k (a 5) 240 ftext)] H := hP
  replace hD : va_D A [((a 0), .inr (8, (fX8 a (nI tx) fp (nI t0__1) wd (nI we) nu (nI t0__1) (nI rd) ts (nI ru) (nI rw) (nI ca) df db sd))), (aI k (a 5) 240 ftext)] := hD
  refine lv_iload_n hx hb dX8_takeSigned_13 rfl (lv_at hl 0 rfl) ?_
  refine lv_bipush (v := 45) hx hb dX8_takeSigned_14 (by decide) ?_
  refine lv_icmp_ne (tgt := 23) hx hb dX8_takeSigned_16 (by decide) (fun c_2 => ?_) (fun c_2 => ?_)
  · refine lv_iconst (v := 0) hx hb dX8_takeSigned_23 (by decide) ?_
    refine lv_istore_n (lv' := [(3, .int 0), (2, .int r_1), (0, .ref (a 0)), (1, .int p0)]) hx hb dX8_takeSigned_24 rfl hl (by decide) rfl (fun ls hl => ?_)
    refine lv_aload_n hx hb dX8_takeSigned_25 rfl (lv_at hl 2 rfl) ?_
    refine lv_dup hx hb dX8_takeSigned_26 rfl ?_
    refine va_get (D := D) (ci := 8) (v := .int (nI t0__1)) (C := RX8) (T := TX8) (N := 44) hx hb hts inX8 hown hK hP 0 rfl rfl 7 (by decide) (hts _ tw_980) (fun _ h9 => h9) rfl dX8_takeSigned_27 ?_
    refine lv_iload_n hx hb dX8_takeSigned_30 rfl (lv_at hl 0 rfl) ?_
    refine lv_if_eq (tgt := 38) hx hb dX8_takeSigned_31 (by decide) (fun _ => ?_) (fun h => absurd (by decide) h)
    refine lv_iconst (v := 0) hx hb dX8_takeSigned_38 (by decide) ?_
    refine lv_iadd hx hb dX8_takeSigned_39 ?_
    refine lv_ti (y := (nI (t0__1 + 0))) (nI_add t0__1 0) ?_
    refine va_put (D := D) (ci := 8) (v := .int (nI (t0__1 + 0))) (ty := .int) (C := RX8) (T := TX8) (N := 44) hx hb hts inX8 tyX8 tyX8_ok nmX8 hown hK hP hD hS 0 rfl rfl 7 (by decide) (hts _ tw_980) (fun _ h9 => h9) rfl (by decide +kernel) rfl rfl (Nat.le_of_ble_eq_true rfl) dX8_takeSigned_40 (fun H locs hP hD hS => ?_)
    replace hP : va_P D classes [((a 0), .inr (8, (fX8 a (nI tx) fp (nI (t0__1 + 0)) wd (nI we) nu (nI t0__1) (nI rd) ts (nI ru) (nI rw) (nI ca) df db sd))), (aI k (a 5) 240 ftext)] H := hP
    replace hD : va_D A [((a 0), .inr (8, (fX8 a (nI tx) fp (nI (t0__1 + 0)) wd (nI we) nu (nI t0__1) (nI rd) ts (nI ru) (nI rw) (nI ca) df db sd))), (aI k (a 5) 240 ftext)] := hD
    refine lv_aload_n hx hb dX8_takeSigned_43 rfl (lv_at hl 2 rfl) ?_
    refine lv_aload_n hx hb dX8_takeSigned_44 rfl (lv_at hl 2 rfl) ?_
    refine va_get (D := D) (ci := 8) (v := .int (nI t0__1)) (C := RX8) (T := TX8) (N := 44) hx hb hts inX8 hown hK hP 0 rfl rfl 11 (by decide) (hts _ tw_984) (fun _ h9 => h9) rfl dX8_takeSigned_45 ?_
    refine lv_iload_n hx hb dX8_takeSigned_48 rfl (lv_at hl 3 rfl) ?_
    refine lv_ineg hx hb dX8_takeSigned_49 ?_
    refine lv_topi (fun x_3 ex_3 => ?_)
    refine lv_iload_n hx hb dX8_takeSigned_50 rfl (lv_at hl 3 rfl) ?_
    refine lv_iload_n hx hb dX8_takeSigned_51 rfl (lv_at hl 0 rfl) ?_
    refine rw_i (D := D) (wr := []) (va_runV (As := [.int (nI t0__1), .int x_3, .int p0, .int 0]) (rest := []) ⟨hx, hb, hml, hown, hts⟩ ((m_takeFigures l D k st lo a tx (t0__1 + 0) we rd ru rw ca fp wd nu (nI t0__1) ts df db sd ftext (nI t0__1) x_3 p0 0 (by omega) (by omega)) H.size) (cwV 4 hts (gV tw_1165 tw_1167 tw_34 tw_87 tw_1168) rfl rfl rfl (by decide +kernel) ⟨Nat.le_of_ble_eq_true rfl, Nat.le_of_ble_eq_true rfl⟩) (pV hS hAlo hlo hP hK (va_Dlo hD hAlo) hZ [0, 1] (by decide) rfl (ci := 8) (q := (RX8, TX8, 44)) (q0 := 0) rfl rfl) rfl rfl hl.1 rfl (lv_room (Nat.le_of_ble_eq_true rfl)) dX8_takeSigned_52 ⟨Nat.le_of_ble_eq_true rfl, Nat.le_of_ble_eq_true rfl⟩) hS hA hP hD [0, 1] [] rfl rfl (by decide) (by decide) (fun r_4 u H locs hw_4 hP hD hS => ?_)
    obtain ⟨t0__4, nu__4, fp__4, er_4⟩ := u
    replace hP : va_P D classes [((a 0), .inr (8, (fX8 a (nI tx) fp__4 (nI t0__4) wd (nI we) nu__4 (nI t0__1) (nI rd) ts (nI ru) (nI rw) (nI ca) df db sd))), (aI k (a 5) 240 ftext)] H := hP
    replace hD : va_D A [((a 0), .inr (8, (fX8 a (nI tx) fp__4 (nI t0__4) wd (nI we) nu__4 (nI t0__1) (nI rd) ts (nI ru) (nI rw) (nI ca) df db sd))), (aI k (a 5) 240 ftext)] := hD
    try dsimp only at hw_4
    obtain ⟨rfl, hw_4⟩ := hw_4
    have hP9 := hP.sub (ws' := [((a 0), .inr (8, (fX8 a (nI tx) fp__4 (nI t0__4) wd (nI we) nu__4 (nI t0__1) (nI rd) ts (nI ru) (nI rw) (nI ca) df db sd))), (aI k (a 5) 240 ftext)]) [0, 1] rfl
    have hD9 := hD.sub (ws' := [((a 0), .inr (8, (fX8 a (nI tx) fp__4 (nI t0__4) wd (nI we) nu__4 (nI t0__1) (nI rd) ts (nI ru) (nI rw) (nI ca) df db sd))), (aI k (a 5) 240 ftext)]) [0, 1] (by decide) rfl
    exact W.iret (v := (nI er_4)) hx hb hr (fun t ht hW => ⟨⟨(nI er_4), (t0__4, nu__4, (nI t0__1), fp__4, er_4), rfl, ⟨rfl, by omega, by omega, by omega⟩, by rw [ht]; exact hP9, hD9⟩, hS.F ht⟩) hS.2.2 dX8_takeSigned_55
  · have hlt_5 := hw_1.2.2.resolve_left (fun h => absurd (h.symm.trans c_2) (by decide))
    refine lv_iconst (v := 1) hx hb dX8_takeSigned_19 (by decide) ?_
    refine lv_goto (tgt := 24) hx hb dX8_takeSigned_20 (by decide) ?_
    refine lv_istore_n (lv' := [(3, .int 1), (2, .int r_1), (0, .ref (a 0)), (1, .int p0)]) hx hb dX8_takeSigned_24 rfl hl (by decide) rfl (fun ls hl => ?_)
    refine lv_aload_n hx hb dX8_takeSigned_25 rfl (lv_at hl 2 rfl) ?_
    refine lv_dup hx hb dX8_takeSigned_26 rfl ?_
    refine va_get (D := D) (ci := 8) (v := .int (nI t0__1)) (C := RX8) (T := TX8) (N := 44) hx hb hts inX8 hown hK hP 0 rfl rfl 7 (by decide) (hts _ tw_980) (fun _ h9 => h9) rfl dX8_takeSigned_27 ?_
    refine lv_iload_n hx hb dX8_takeSigned_30 rfl (lv_at hl 0 rfl) ?_
    refine lv_if_eq (tgt := 38) hx hb dX8_takeSigned_31 (by decide) (fun h => absurd h (by decide)) (fun _ => ?_)
    refine lv_iconst (v := 1) hx hb dX8_takeSigned_34 (by decide) ?_
    refine lv_goto (tgt := 39) hx hb dX8_takeSigned_35 (by decide) ?_
    refine lv_iadd hx hb dX8_takeSigned_39 ?_
    refine lv_ti (y := (nI (t0__1 + 1))) (nI_add t0__1 1) ?_
    refine va_put (D := D) (ci := 8) (v := .int (nI (t0__1 + 1))) (ty := .int) (C := RX8) (T := TX8) (N := 44) hx hb hts inX8 tyX8 tyX8_ok nmX8 hown hK hP hD hS 0 rfl rfl 7 (by decide) (hts _ tw_980) (fun _ h9 => h9) rfl (by decide +kernel) rfl rfl (Nat.le_of_ble_eq_true rfl) dX8_takeSigned_40 (fun H locs hP hD hS => ?_)
    replace hP : va_P D classes [((a 0), .inr (8, (fX8 a (nI tx) fp (nI (t0__1 + 1)) wd (nI we) nu (nI t0__1) (nI rd) ts (nI ru) (nI rw) (nI ca) df db sd))), (aI k (a 5) 240 ftext)] H := hP
    replace hD : va_D A [((a 0), .inr (8, (fX8 a (nI tx) fp (nI (t0__1 + 1)) wd (nI we) nu (nI t0__1) (nI rd) ts (nI ru) (nI rw) (nI ca) df db sd))), (aI k (a 5) 240 ftext)] := hD
    refine lv_aload_n hx hb dX8_takeSigned_43 rfl (lv_at hl 2 rfl) ?_
    refine lv_aload_n hx hb dX8_takeSigned_44 rfl (lv_at hl 2 rfl) ?_
    refine va_get (D := D) (ci := 8) (v := .int (nI t0__1)) (C := RX8) (T := TX8) (N := 44) hx hb hts inX8 hown hK hP 0 rfl rfl 11 (by decide) (hts _ tw_984) (fun _ h9 => h9) rfl dX8_takeSigned_45 ?_
    refine lv_iload_n hx hb dX8_takeSigned_48 rfl (lv_at hl 3 rfl) ?_
    refine lv_ineg hx hb dX8_takeSigned_49 ?_
    refine lv_topi (fun x_6 ex_6 => ?_)
    refine lv_iload_n hx hb dX8_takeSigned_50 rfl (lv_at hl 3 rfl) ?_
    refine lv_iload_n hx hb dX8_takeSigned_51 rfl (lv_at hl 0 rfl) ?_
    refine rw_i (D := D) (wr := []) (va_runV (As := [.int (nI t0__1), .int x_6, .int p0, .int 1]) (rest := []) ⟨hx, hb, hml, hown, hts⟩ ((m_takeFigures l D k st lo a tx (t0__1 + 1) we rd ru rw ca fp wd nu (nI t0__1) ts df db sd ftext (nI t0__1) x_6 p0 1 (by omega) (by omega)) H.size) (cwV 4 hts (gV tw_1165 tw_1167 tw_34 tw_87 tw_1168) rfl rfl rfl (by decide +kernel) ⟨Nat.le_of_ble_eq_true rfl, Nat.le_of_ble_eq_true rfl⟩) (pV hS hAlo hlo hP hK (va_Dlo hD hAlo) hZ [0, 1] (by decide) rfl (ci := 8) (q := (RX8, TX8, 44)) (q0 := 0) rfl rfl) rfl rfl hl.1 rfl (lv_room (Nat.le_of_ble_eq_true rfl)) dX8_takeSigned_52 ⟨Nat.le_of_ble_eq_true rfl, Nat.le_of_ble_eq_true rfl⟩) hS hA hP hD [0, 1] [] rfl rfl (by decide) (by decide) (fun r_7 u H locs hw_7 hP hD hS => ?_)
    obtain ⟨t0__7, nu__7, fp__7, er_7⟩ := u
    replace hP : va_P D classes [((a 0), .inr (8, (fX8 a (nI tx) fp__7 (nI t0__7) wd (nI we) nu__7 (nI t0__1) (nI rd) ts (nI ru) (nI rw) (nI ca) df db sd))), (aI k (a 5) 240 ftext)] H := hP
    replace hD : va_D A [((a 0), .inr (8, (fX8 a (nI tx) fp__7 (nI t0__7) wd (nI we) nu__7 (nI t0__1) (nI rd) ts (nI ru) (nI rw) (nI ca) df db sd))), (aI k (a 5) 240 ftext)] := hD
    try dsimp only at hw_7
    obtain ⟨rfl, hw_7⟩ := hw_7
    have hP9 := hP.sub (ws' := [((a 0), .inr (8, (fX8 a (nI tx) fp__7 (nI t0__7) wd (nI we) nu__7 (nI t0__1) (nI rd) ts (nI ru) (nI rw) (nI ca) df db sd))), (aI k (a 5) 240 ftext)]) [0, 1] rfl
    have hD9 := hD.sub (ws' := [((a 0), .inr (8, (fX8 a (nI tx) fp__7 (nI t0__7) wd (nI we) nu__7 (nI t0__1) (nI rd) ts (nI ru) (nI rw) (nI ca) df db sd))), (aI k (a 5) 240 ftext)]) [0, 1] (by decide) rfl
    exact W.iret (v := (nI er_7)) hx hb hr (fun t ht hW => ⟨⟨(nI er_7), (t0__7, nu__7, (nI t0__1), fp__7, er_7), rfl, ⟨rfl, by omega, by omega, by omega⟩, by rw [ht]; exact hP9, hD9⟩, hS.F ht⟩) hS.2.2 dX8_takeSigned_55


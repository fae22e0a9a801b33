theorem x_glueR : True := trivial
theorem nI_inj {a b : Nat} (ha : a < 2 ^ 31) (hb : b < 2 ^ 31) (h : nI a = nI b) : a = b := (nI_eq ha hb).mp h
theorem upd_ne {f : Nat → Int32} {i j : Nat} {x : Int32} (h : ¬ j = i) : upd f i x j = f j := by
  unfold upd
  rw [if_neg h]
theorem upd_eq {f : Nat → Int32} {i : Nat} {x : Int32} : upd f i x i = x := by
  unfold upd
  rw [if_pos rfl]
def sawP (n : Nat) (r : Int32) (n' : Nat) : Prop := (n < 24 → r = nI (n + 1) ∧ n' = n + 1) ∧ (¬ n < 24 → r = -1004 ∧ n' = n)
theorem sawP_fun {n : Nat} {r q : Int32} {x y : Nat} (h : sawP n r x) (g : sawP n q y) : r = q ∧ x = y := by
  rcases Classical.em (n < 24) with c | c
  · exact ⟨(h.1 c).1.trans (g.1 c).1.symm, (h.1 c).2.trans (g.1 c).2.symm⟩
  · exact ⟨(h.2 c).1.trans (g.2 c).1.symm, (h.2 c).2.trans (g.2 c).2.symm⟩
def carP (p0 p1 : Int32) (n : Nat) (r : Int32) (n' : Nat) : Prop := (inB p0 0 99 ∧ inB p1 0 24 → (n < 4 → r = nI n ∧ n' = n + 1) ∧ (¬ n < 4 → r = -1004 ∧ n' = n)) ∧ (¬ (inB p0 0 99 ∧ inB p1 0 24) → r = -1002 ∧ n' = n)
theorem carP_fun {p0 p1 : Int32} {n : Nat} {r q : Int32} {x y : Nat} (h : carP p0 p1 n r x) (g : carP p0 p1 n q y) : r = q ∧ x = y := by
  rcases Classical.em (inB p0 0 99 ∧ inB p1 0 24) with b | b
  · rcases Classical.em (n < 4) with c | c
    · exact ⟨((h.1 b).1 c).1.trans ((g.1 b).1 c).1.symm, ((h.1 b).1 c).2.trans ((g.1 b).1 c).2.symm⟩
    · exact ⟨((h.1 b).2 c).1.trans ((g.1 b).2 c).1.symm, ((h.1 b).2 c).2.trans ((g.1 b).2 c).2.symm⟩
  · exact ⟨(h.2 b).1.trans (g.2 b).1.symm, (h.2 b).2.trans (g.2 b).2.symm⟩
def gbP (pz f0 f1 : Int32) (a0 a1 a : Nat) (r : Int32) (a' : Nat) : Prop := (pz = 0 → (f0 = 0 → r = -1003 ∧ a' = a) ∧ (¬ f0 = 0 → r = 1 ∧ a' = a0)) ∧ (pz = 1 → (f1 = 0 → r = -1003 ∧ a' = a) ∧ (¬ f1 = 0 → r = 1 ∧ a' = a1)) ∧ (¬ pz = 0 → ¬ pz = 1 → r = -1001 ∧ a' = a)
theorem gbP_fun {pz f0 f1 : Int32} {a0 a1 a : Nat} {r q : Int32} {x y : Nat} (h : gbP pz f0 f1 a0 a1 a r x) (g : gbP pz f0 f1 a0 a1 a q y) : r = q ∧ x = y := by
  rcases Classical.em (pz = 0) with b | b
  · rcases Classical.em (f0 = 0) with c | c
    · exact ⟨((h.1 b).1 c).1.trans ((g.1 b).1 c).1.symm, ((h.1 b).1 c).2.trans ((g.1 b).1 c).2.symm⟩
    · exact ⟨((h.1 b).2 c).1.trans ((g.1 b).2 c).1.symm, ((h.1 b).2 c).2.trans ((g.1 b).2 c).2.symm⟩
  · rcases Classical.em (pz = 1) with b1 | b1
    · rcases Classical.em (f1 = 0) with c | c
      · exact ⟨((h.2.1 b1).1 c).1.trans ((g.2.1 b1).1 c).1.symm, ((h.2.1 b1).1 c).2.trans ((g.2.1 b1).1 c).2.symm⟩
      · exact ⟨((h.2.1 b1).2 c).1.trans ((g.2.1 b1).2 c).1.symm, ((h.2.1 b1).2 c).2.trans ((g.2.1 b1).2 c).2.symm⟩
    · exact ⟨(h.2.2 b b1).1.trans (g.2.2 b b1).1.symm, (h.2.2 b b1).2.trans (g.2.2 b b1).2.symm⟩
theorem gb_out {pz f0 f1 : Int32} {a0 a1 a : Nat} (h : ¬ inB pz 0 1) : gbP pz f0 f1 a0 a1 a (-1001) a :=
  ⟨fun e => absurd (by rw [e]; exact ⟨by decide, by decide⟩) h, fun e => absurd (by rw [e]; exact ⟨by decide, by decide⟩) h, fun _ _ => ⟨rfl, rfl⟩⟩
theorem gb_n0 {f0 f1 : Int32} {a0 a1 a : Nat} (h : f0 = 0) : gbP 0 f0 f1 a0 a1 a (-1003) a := ⟨fun _ => ⟨fun _ => ⟨rfl, rfl⟩, fun g => absurd h g⟩, fun e => absurd e (by decide), fun e => absurd rfl e⟩
theorem gb_n1 {f0 f1 : Int32} {a0 a1 a : Nat} (h : f1 = 0) : gbP 1 f0 f1 a0 a1 a (-1003) a := ⟨fun e => absurd e (by decide), fun _ => ⟨fun _ => ⟨rfl, rfl⟩, fun g => absurd h g⟩, fun _ e => absurd rfl e⟩
theorem gb_k0 {f0 f1 : Int32} {a0 a1 a a' : Nat} (h : ¬ f0 = 0) (g : a' = a0) : gbP 0 f0 f1 a0 a1 a 1 a' := ⟨fun _ => ⟨fun e => absurd e h, fun _ => ⟨rfl, g⟩⟩, fun e => absurd e (by decide), fun e => absurd rfl e⟩
theorem gb_k1 {f0 f1 : Int32} {a0 a1 a a' : Nat} (h : ¬ f1 = 0) (g : a' = a1) : gbP 1 f0 f1 a0 a1 a 1 a' := ⟨fun e => absurd e (by decide), fun _ => ⟨fun e => absurd e h, fun _ => ⟨rfl, g⟩⟩, fun _ e => absurd rfl e⟩
/-- an image behind keep -/
def kpN (pz k f f' : Int32) (a b a' b' a2 b2 : Nat) : Prop := (pz = k → f' = 1 ∧ a' = a2 ∧ b' = b2) ∧ (¬ pz = k → f' = f ∧ a' = a ∧ b' = b)
def kpI (pz k f f' a b a' b' : Int32) (a2 b2 : Nat) : Prop := (pz = k → f' = 1 ∧ a' = nI a2 ∧ b' = nI b2) ∧ (¬ pz = k → f' = f ∧ a' = a ∧ b' = b)
theorem kp_rel {pz k f f' g g' : Int32} {a b a' b' a2 b2 : Nat} {i j i' j' : Int32} (h : kpN pz k f f' a b a' b' a2 b2) (q : kpI pz k g g' i j i' j' a2 b2) (e : f = g) (ei : i = nI a) (ej : j = nI b) : f' = g' ∧ i' = nI a' ∧ j' = nI b' := by
  rcases Classical.em (pz = k) with c | c
  · obtain ⟨h1, h2, h3⟩ := h.1 c
    obtain ⟨q1, q2, q3⟩ := q.1 c
    rw [h1, h2, h3, q1, q2, q3]
    exact ⟨rfl, rfl, rfl⟩
  · obtain ⟨h1, h2, h3⟩ := h.2 c
    obtain ⟨q1, q2, q3⟩ := q.2 c
    rw [h1, h2, h3, q1, q2, q3]
    exact ⟨e, ei, ej⟩
theorem no_in {pz : Int32} (h : ¬ inB pz 0 1) : ¬ pz = 0 ∧ ¬ pz = 1 := ⟨fun e => h (by rw [e]; exact ⟨by decide, by decide⟩), fun e => h (by rw [e]; exact ⟨by decide, by decide⟩)⟩


set_option maxHeartbeats 4000000 in
set_option maxRecDepth 100000 in
theorem x_see2 (l : Launch) (D : va_G) (k : Nat → ClassId) (st : Nat → Nat) (lo : Nat) (c0 : Nat) (c1 : Nat) (c2 : Nat) (cc : Nat) (rz : Nat) (ro : Int32) (sd : Int32) (p0 : Int32) (hrz : rz < 24) : CWi l D k st lo yX4_see cX4_see 2 (some .int) ({ frames := 0, cells := 0, slots := 0, locals := 0 }) 0 0 [.ref c0, .int p0] [(c0, .inr (4, (fX4 c1 c2 (nI cc) (nI rz) ro sd)))] (fun (r : Int32) (u : Nat × Int32) => match u with | (rz_, ro_) => r = nI (rz + 1) ∧ rz_ = rz + 1) (fun (u : Nat × Int32) => match u with | (rz_, ro_) => [(c0, .inr (4, (fX4 c1 c2 (nI cc) (nI rz_) ro_ sd)))]) := by
  intro sz
  refine Met.ofW (cc := cX4_see) (maxL := 2) (ret := (some .int)) (by decide) rfl ?_
  intro p e s m args below meth c s₁ B hml hv
  obtain ⟨rfl, hsz, hlo, hP, hK, hDL, hZ⟩ := hv
  have hx := B.exec
  have hb := B.bytes
  have hr := B.returns
  have hts := WS_ts B.pre
  have hown : s.vm.findClass RX4 = some m.cls := findClass_of_methodNamed B.named
  have hlocks := B.notSynchronized
  subst hsz
  have hD := hDL.self (sz := s.heap.size)
  have hAlo := A_lo hDL hlo
  generalize hAe : va_A [(c0, .inr (4, (fX4 c1 c2 (nI cc) (nI rz) ro sd)))] s.heap.size = A at hD hAlo ⊢
  have hA : ∀ q : Nat, s.heap.size ≤ q → A q := fun q h => by rw [← hAe]; exact Or.inr h
  have hS : va_S A s.heap s.heap [] := va_S.rf
  have hl := lv_entry ([.ref c0, .int p0]) (n := 2) (Nat.le_of_ble_eq_true rfl)
  rw [lg_entry_eq]
  generalize (lg_sl ([.ref c0, .int p0]) ++ List.replicate (2 - (lg_sl ([.ref c0, .int p0])).length) Slot.unset).toArray = ls at hl ⊢
  have hl : lv_has ls 2 [(0, .ref c0), (1, .int p0)] := hl
  refine lv_iload_n hx hb dX4_see_0 rfl (lv_at hl 1 rfl) ?_
  refine lv_if_eq (tgt := 19) hx hb dX4_see_1 (by decide) (fun c_1 => ?_) (fun c_1 => ?_)
  · refine lv_aload_n hx hb dX4_see_19 rfl (lv_at hl 0 rfl) ?_
    refine lv_dup hx hb dX4_see_20 rfl ?_
    refine va_get (D := D) (ci := 4) (v := .int (nI rz)) (C := RX4) (T := TX4) (N := 6) hx hb hts inX4 hown hK hP 0 rfl rfl 3 (by decide) (hts _ tw_181) (fun _ h9 => h9) rfl dX4_see_21 ?_
    refine lv_iconst (v := 1) hx hb dX4_see_24 (by decide) ?_
    refine lv_iadd hx hb dX4_see_25 ?_
    refine lv_ti (y := (nI (rz + 1))) (nI_add rz 1) ?_
    refine va_put (D := D) (ci := 4) (v := .int (nI (rz + 1))) (ty := .int) (C := RX4) (T := TX4) (N := 6) hx hb hts inX4 tyX4 tyX4_ok nmX4 hown hK hP hD hS 0 rfl rfl 3 (by decide) (hts _ tw_181) (fun _ h9 => h9) rfl (by decide +kernel) rfl rfl (Nat.le_of_ble_eq_true rfl) dX4_see_26 (fun H locs hP hD hS => ?_)
    replace hP : va_P D classes [(c0, .inr (4, (fX4 c1 c2 (nI cc) (nI (rz + 1)) ro sd)))] H := hP
    replace hD : va_D A [(c0, .inr (4, (fX4 c1 c2 (nI cc) (nI (rz + 1)) ro sd)))] := hD
    refine lv_aload_n hx hb dX4_see_29 rfl (lv_at hl 0 rfl) ?_
    refine va_get (D := D) (ci := 4) (v := .int (nI (rz + 1))) (C := RX4) (T := TX4) (N := 6) hx hb hts inX4 hown hK hP 0 rfl rfl 3 (by decide) (hts _ tw_181) (fun _ h9 => h9) rfl dX4_see_30 ?_
    have hP9 := hP.sub (ws' := [(c0, .inr (4, (fX4 c1 c2 (nI cc) (nI (rz + 1)) ro sd)))]) [0] rfl
    have hD9 := hD.sub (ws' := [(c0, .inr (4, (fX4 c1 c2 (nI cc) (nI (rz + 1)) ro sd)))]) [0] (by decide) rfl
    exact W.iret (v := (nI (rz + 1))) hx hb hr (fun t ht hW => ⟨⟨(nI (rz + 1)), ((rz + 1), ro), rfl, ⟨rfl, rfl⟩, by rw [ht]; exact hP9, hD9⟩, hS.F ht⟩) hS.2.2 dX4_see_33
  · refine lv_aload_n hx hb dX4_see_4 rfl (lv_at hl 0 rfl) ?_
    refine lv_dup hx hb dX4_see_5 rfl ?_
    refine va_get (D := D) (ci := 4) (v := .int ro) (C := RX4) (T := TX4) (N := 6) hx hb hts inX4 hown hK hP 0 rfl rfl 4 (by decide) (hts _ tw_185) (fun _ h9 => h9) rfl dX4_see_6 ?_
    refine lv_iconst (v := 1) hx hb dX4_see_9 (by decide) ?_
    refine lv_aload_n hx hb dX4_see_10 rfl (lv_at hl 0 rfl) ?_
    refine va_get (D := D) (ci := 4) (v := .int (nI rz)) (C := RX4) (T := TX4) (N := 6) hx hb hts inX4 hown hK hP 0 rfl rfl 3 (by decide) (hts _ tw_181) (fun _ h9 => h9) rfl dX4_see_11 ?_
    refine lv_ishl hx hb dX4_see_14 ?_
    refine lv_topi (fun x_2 ex_2 => ?_)
    refine lv_ior hx hb dX4_see_15 ?_
    refine lv_topi (fun x_3 ex_3 => ?_)
    refine va_put (D := D) (ci := 4) (v := .int x_3) (ty := .int) (C := RX4) (T := TX4) (N := 6) hx hb hts inX4 tyX4 tyX4_ok nmX4 hown hK hP hD hS 0 rfl rfl 4 (by decide) (hts _ tw_185) (fun _ h9 => h9) rfl (by decide +kernel) rfl rfl (Nat.le_of_ble_eq_true rfl) dX4_see_16 (fun H locs hP hD hS => ?_)
    replace hP : va_P D classes [(c0, .inr (4, (fX4 c1 c2 (nI cc) (nI rz) x_3 sd)))] H := hP
    replace hD : va_D A [(c0, .inr (4, (fX4 c1 c2 (nI cc) (nI rz) x_3 sd)))] := hD
    refine lv_aload_n hx hb dX4_see_19 rfl (lv_at hl 0 rfl) ?_
    refine lv_dup hx hb dX4_see_20 rfl ?_
    refine va_get (D := D) (ci := 4) (v := .int (nI rz)) (C := RX4) (T := TX4) (N := 6) hx hb hts inX4 hown hK hP 0 rfl rfl 3 (by decide) (hts _ tw_181) (fun _ h9 => h9) rfl dX4_see_21 ?_
    refine lv_iconst (v := 1) hx hb dX4_see_24 (by decide) ?_
    refine lv_iadd hx hb dX4_see_25 ?_
    refine lv_ti (y := (nI (rz + 1))) (nI_add rz 1) ?_
    refine va_put (D := D) (ci := 4) (v := .int (nI (rz + 1))) (ty := .int) (C := RX4) (T := TX4) (N := 6) hx hb hts inX4 tyX4 tyX4_ok nmX4 hown hK hP hD hS 0 rfl rfl 3 (by decide) (hts _ tw_181) (fun _ h9 => h9) rfl (by decide +kernel) rfl rfl (Nat.le_of_ble_eq_true rfl) dX4_see_26 (fun H locs hP hD hS => ?_)
    replace hP : va_P D classes [(c0, .inr (4, (fX4 c1 c2 (nI cc) (nI (rz + 1)) x_3 sd)))] H := hP
    replace hD : va_D A [(c0, .inr (4, (fX4 c1 c2 (nI cc) (nI (rz + 1)) x_3 sd)))] := hD
    refine lv_aload_n hx hb dX4_see_29 rfl (lv_at hl 0 rfl) ?_
    refine va_get (D := D) (ci := 4) (v := .int (nI (rz + 1))) (C := RX4) (T := TX4) (N := 6) hx hb hts inX4 hown hK hP 0 rfl rfl 3 (by decide) (hts _ tw_181) (fun _ h9 => h9) rfl dX4_see_30 ?_
    have hP9 := hP.sub (ws' := [(c0, .inr (4, (fX4 c1 c2 (nI cc) (nI (rz + 1)) x_3 sd)))]) [0] rfl
    have hD9 := hD.sub (ws' := [(c0, .inr (4, (fX4 c1 c2 (nI cc) (nI (rz + 1)) x_3 sd)))]) [0] (by decide) rfl
    exact W.iret (v := (nI (rz + 1))) hx hb hr (fun t ht hW => ⟨⟨(nI (rz + 1)), ((rz + 1), x_3), rfl, ⟨rfl, rfl⟩, by rw [ht]; exact hP9, hD9⟩, hS.F ht⟩) hS.2.2 dX4_see_33


set_option maxHeartbeats 4000000 in
set_option maxRecDepth 100000 in
theorem x_saw2 (l : Launch) (D : va_G) (k : Nat → ClassId) (st : Nat → Nat) (lo : Nat) (a : Nat → Nat) (rk : Nat) (lfa : Int32) (cc : Nat) (rz : Nat) (ro : Int32) (sd : Int32) (p0 : Int32) (hrz : rz ≤ 24) : CWi l D k st lo yX7_saw cX7_saw 2 (some .int) ({ frames := 1, cells := 0, slots := 0, locals := 21 }) 0 0 [.ref (a 0), .int p0] [((a 0), .inr (7, (fX7 (a 1) (a 3) (a 19) (a 35) (a 40) (nI rk) lfa (a 53) (a 56) (a 63) (a 64) (a 68)))), ((a 53), .inr (4, (fX4 (a 54) (a 55) (nI cc) (nI rz) ro sd)))] (fun (r : Int32) (u : Nat × Int32) => match u with | (rz_, ro_) => sawP rz r rz_ ∧ rz_ ≤ 24) (fun (u : Nat × Int32) => match u with | (rz_, ro_) => [((a 0), .inr (7, (fX7 (a 1) (a 3) (a 19) (a 35) (a 40) (nI rk) lfa (a 53) (a 56) (a 63) (a 64) (a 68)))), ((a 53), .inr (4, (fX4 (a 54) (a 55) (nI cc) (nI rz_) ro_ sd)))]) := by
  intro sz
  refine Met.ofW (cc := cX7_saw) (maxL := 2) (ret := (some .int)) (by decide) rfl ?_
  intro p e s m args below meth c s₁ B hml hv
  obtain ⟨rfl, hsz, hlo, hP, hK, hDL, hZ⟩ := hv
  have hx := B.exec
  have hb := B.bytes
  have hr := B.returns
  have hts := WS_ts B.pre
  have hown : s.vm.findClass RX7 = some m.cls := findClass_of_methodNamed B.named
  have hlocks := B.notSynchronized
  subst hsz
  have hD := hDL.self (sz := s.heap.size)
  have hAlo := A_lo hDL hlo
  generalize hAe : va_A [((a 0), .inr (7, (fX7 (a 1) (a 3) (a 19) (a 35) (a 40) (nI rk) lfa (a 53) (a 56) (a 63) (a 64) (a 68)))), ((a 53), .inr (4, (fX4 (a 54) (a 55) (nI cc) (nI rz) ro sd)))] s.heap.size = A at hD hAlo ⊢
  have hA : ∀ q : Nat, s.heap.size ≤ q → A q := fun q h => by rw [← hAe]; exact Or.inr h
  have hS : va_S A s.heap s.heap [] := va_S.rf
  have hl := lv_entry ([.ref (a 0), .int p0]) (n := 2) (Nat.le_of_ble_eq_true rfl)
  rw [lg_entry_eq]
  generalize (lg_sl ([.ref (a 0), .int p0]) ++ List.replicate (2 - (lg_sl ([.ref (a 0), .int p0])).length) Slot.unset).toArray = ls at hl ⊢
  have hl : lv_has ls 2 [(0, .ref (a 0)), (1, .int p0)] := hl
  refine lv_aload_n hx hb dX7_saw_0 rfl (lv_at hl 0 rfl) ?_
  refine va_get (D := D) (ci := 7) (v := .ref (a 53)) (C := RX7) (T := TX7) (N := 12) hx hb hts inX7 hown hK hP 0 rfl rfl 7 (by decide) (hts _ tw_312) (fun _ h9 => h9) rfl dX7_saw_1 ?_
  refine va_get (D := D) (ci := 4) (v := .int (nI rz)) (C := RX4) (T := TX4) (N := 6) hx hb hts inX4 hown hK hP 1 rfl rfl 3 (by decide) (hts _ tw_184) (fun _ h9 => h9) rfl dX7_saw_4 ?_
  refine lv_bipush (v := 24) hx hb dX7_saw_7 (by decide) ?_
  refine lv_icmp_ge (tgt := 23) hx hb dX7_saw_9 (by decide) (fun c_1 => ?_) (fun c_1 => ?_)
  · have c_1 := (nI_leI (a := 24) (b := rz) (by omega) (by omega)).mp c_1
    refine lv_sipush (v := (-1004)) hx hb dX7_saw_23 (by decide) ?_
    have hP9 := hP.sub (ws' := [((a 0), .inr (7, (fX7 (a 1) (a 3) (a 19) (a 35) (a 40) (nI rk) lfa (a 53) (a 56) (a 63) (a 64) (a 68)))), ((a 53), .inr (4, (fX4 (a 54) (a 55) (nI cc) (nI rz) ro sd)))]) [0, 1] rfl
    have hD9 := hD.sub (ws' := [((a 0), .inr (7, (fX7 (a 1) (a 3) (a 19) (a 35) (a 40) (nI rk) lfa (a 53) (a 56) (a 63) (a 64) (a 68)))), ((a 53), .inr (4, (fX4 (a 54) (a 55) (nI cc) (nI rz) ro sd)))]) [0, 1] (by decide) rfl
    exact W.iret (v := (-1004)) hx hb hr (fun t ht hW => ⟨⟨(-1004), (rz, ro), rfl, ⟨⟨fun h => absurd h (by omega), fun _ => ⟨rfl, rfl⟩⟩, by omega⟩, by rw [ht]; exact hP9, hD9⟩, hS.F ht⟩) hS.2.2 dX7_saw_26
  · have c_1 : ¬ (24 ≤ rz) := fun h => c_1 ((nI_leI (a := 24) (b := rz) (by omega) (by omega)).mpr h)
    refine lv_aload_n hx hb dX7_saw_12 rfl (lv_at hl 0 rfl) ?_
    refine va_get (D := D) (ci := 7) (v := .ref (a 53)) (C := RX7) (T := TX7) (N := 12) hx hb hts inX7 hown hK hP 0 rfl rfl 7 (by decide) (hts _ tw_312) (fun _ h9 => h9) rfl dX7_saw_13 ?_
    refine lv_iload_n hx hb dX7_saw_16 rfl (lv_at hl 1 rfl) ?_
    refine rw_i (D := D) (wr := [((a 0), .inr (7, (fX7 (a 1) (a 3) (a 19) (a 35) (a 40) (nI rk) lfa (a 53) (a 56) (a 63) (a 64) (a 68))))]) (va_runV (As := [.int p0]) (rest := []) ⟨hx, hb, hml, hown, hts⟩ ((x_see2 l D k st lo (a 53) (a 54) (a 55) cc rz ro sd p0 (by omega)) s.heap.size) (cwV 1 hts (gV tw_740 tw_741 tw_742 tw_82 tw_743) rfl rfl rfl (by decide +kernel) ⟨Nat.le_of_ble_eq_true rfl, Nat.le_of_ble_eq_true rfl⟩) (pV hS hAlo hlo hP hK (va_Dlo hD hAlo) hZ [1] (by decide) rfl (ci := 4) (q := (RX4, TX4, 6)) (q0 := 0) rfl rfl) rfl rfl hl.1 rfl (lv_room (Nat.le_of_ble_eq_true rfl)) dX7_saw_17 ⟨Nat.le_of_ble_eq_true rfl, Nat.le_of_ble_eq_true rfl⟩) hS hA hP hD [1] [0] rfl rfl (by decide) (by decide) (fun r_2 u H locs hw_2 hP hD hS => ?_)
    obtain ⟨rz__2, ro__2⟩ := u
    replace hP : va_P D classes [((a 0), .inr (7, (fX7 (a 1) (a 3) (a 19) (a 35) (a 40) (nI rk) lfa (a 53) (a 56) (a 63) (a 64) (a 68)))), ((a 53), .inr (4, (fX4 (a 54) (a 55) (nI cc) (nI rz__2) ro__2 sd)))] H := hP
    replace hD : va_D A [((a 0), .inr (7, (fX7 (a 1) (a 3) (a 19) (a 35) (a 40) (nI rk) lfa (a 53) (a 56) (a 63) (a 64) (a 68)))), ((a 53), .inr (4, (fX4 (a 54) (a 55) (nI cc) (nI rz__2) ro__2 sd)))] := hD
    try dsimp only at hw_2
    refine lv_goto (tgt := 26) hx hb dX7_saw_20 (by decide) ?_
    have hP9 := hP.sub (ws' := [((a 0), .inr (7, (fX7 (a 1) (a 3) (a 19) (a 35) (a 40) (nI rk) lfa (a 53) (a 56) (a 63) (a 64) (a 68)))), ((a 53), .inr (4, (fX4 (a 54) (a 55) (nI cc) (nI rz__2) ro__2 sd)))]) [0, 1] rfl
    have hD9 := hD.sub (ws' := [((a 0), .inr (7, (fX7 (a 1) (a 3) (a 19) (a 35) (a 40) (nI rk) lfa (a 53) (a 56) (a 63) (a 64) (a 68)))), ((a 53), .inr (4, (fX4 (a 54) (a 55) (nI cc) (nI rz__2) ro__2 sd)))]) [0, 1] (by decide) rfl
    exact W.iret (v := r_2) hx hb hr (fun t ht hW => ⟨⟨r_2, (rz__2, ro__2), rfl, ⟨⟨fun _ => hw_2, fun h => absurd (by omega) h⟩, by omega⟩, by rw [ht]; exact hP9, hD9⟩, hS.F ht⟩) hS.2.2 dX7_saw_26


set_option maxHeartbeats 4000000 in
set_option maxRecDepth 100000 in
theorem x_clear2 (l : Launch) (D : va_G) (k : Nat → ClassId) (st : Nat → Nat) (lo : Nat) (a : Nat → Nat) (rk : Nat) (lfa : Int32) (cc : Nat) (rz : Nat) (ro : Int32) (sd : Int32) (hrz : rz ≤ 24) : CWi l D k st lo yX7_clear cX7_clear 2 (some .int) ({ frames := 0, cells := 0, slots := 0, locals := 0 }) 0 0 [.ref (a 0)] [((a 0), .inr (7, (fX7 (a 1) (a 3) (a 19) (a 35) (a 40) (nI rk) lfa (a 53) (a 56) (a 63) (a 64) (a 68)))), ((a 53), .inr (4, (fX4 (a 54) (a 55) (nI cc) (nI rz) ro sd)))] (fun (r : Int32) (u : Nat × Int32) => match u with | (rz_, ro_) => r = nI rz ∧ rz_ = 0) (fun (u : Nat × Int32) => match u with | (rz_, ro_) => [((a 0), .inr (7, (fX7 (a 1) (a 3) (a 19) (a 35) (a 40) (nI rk) lfa (a 53) (a 56) (a 63) (a 64) (a 68)))), ((a 53), .inr (4, (fX4 (a 54) (a 55) (nI cc) (nI rz_) ro_ sd)))]) := by
  intro sz
  refine Met.ofW (cc := cX7_clear) (maxL := 2) (ret := (some .int)) (by decide) rfl ?_
  intro p e s m args below meth c s₁ B hml hv
  obtain ⟨rfl, hsz, hlo, hP, hK, hDL, hZ⟩ := hv
  have hx := B.exec
  have hb := B.bytes
  have hr := B.returns
  have hts := WS_ts B.pre
  have hown : s.vm.findClass RX7 = some m.cls := findClass_of_methodNamed B.named
  have hlocks := B.notSynchronized
  subst hsz
  have hD := hDL.self (sz := s.heap.size)
  have hAlo := A_lo hDL hlo
  generalize hAe : va_A [((a 0), .inr (7, (fX7 (a 1) (a 3) (a 19) (a 35) (a 40) (nI rk) lfa (a 53) (a 56) (a 63) (a 64) (a 68)))), ((a 53), .inr (4, (fX4 (a 54) (a 55) (nI cc) (nI rz) ro sd)))] s.heap.size = A at hD hAlo ⊢
  have hA : ∀ q : Nat, s.heap.size ≤ q → A q := fun q h => by rw [← hAe]; exact Or.inr h
  have hS : va_S A s.heap s.heap [] := va_S.rf
  have hl := lv_entry ([.ref (a 0)]) (n := 2) (Nat.le_of_ble_eq_true rfl)
  rw [lg_entry_eq]
  generalize (lg_sl ([.ref (a 0)]) ++ List.replicate (2 - (lg_sl ([.ref (a 0)])).length) Slot.unset).toArray = ls at hl ⊢
  have hl : lv_has ls 2 [(0, .ref (a 0))] := hl
  refine lv_aload_n hx hb dX7_clear_0 rfl (lv_at hl 0 rfl) ?_
  refine va_get (D := D) (ci := 7) (v := .ref (a 53)) (C := RX7) (T := TX7) (N := 12) hx hb hts inX7 hown hK hP 0 rfl rfl 7 (by decide) (hts _ tw_312) (fun _ h9 => h9) rfl dX7_clear_1 ?_
  refine va_get (D := D) (ci := 4) (v := .int (nI rz)) (C := RX4) (T := TX4) (N := 6) hx hb hts inX4 hown hK hP 1 rfl rfl 3 (by decide) (hts _ tw_184) (fun _ h9 => h9) rfl dX7_clear_4 ?_
  refine lv_istore_n (lv' := [(1, .int (nI rz)), (0, .ref (a 0))]) hx hb dX7_clear_7 rfl hl (by decide) rfl (fun ls hl => ?_)
  refine lv_aload_n hx hb dX7_clear_8 rfl (lv_at hl 1 rfl) ?_
  refine va_get (D := D) (ci := 7) (v := .ref (a 53)) (C := RX7) (T := TX7) (N := 12) hx hb hts inX7 hown hK hP 0 rfl rfl 7 (by decide) (hts _ tw_312) (fun _ h9 => h9) rfl dX7_clear_9 ?_
  refine lv_iconst (v := 0) hx hb dX7_clear_12 (by decide) ?_
  refine va_put (D := D) (ci := 4) (v := .int 0) (ty := .int) (C := RX4) (T := TX4) (N := 6) hx hb hts inX4 tyX4 tyX4_ok nmX4 hown hK hP hD hS 1 rfl rfl 3 (by decide) (hts _ tw_184) (fun _ h9 => h9) rfl (by decide +kernel) rfl rfl (Nat.le_of_ble_eq_true rfl) dX7_clear_13 (fun H locs hP hD hS => ?_)
  replace hP : va_P D classes [((a 0), .inr (7, (fX7 (a 1) (a 3) (a 19) (a 35) (a 40) (nI rk) lfa (a 53) (a 56) (a 63) (a 64) (a 68)))), ((a 53), .inr (4, (fX4 (a 54) (a 55) (nI cc) 0 ro sd)))] H := hP
  replace hD : va_D A [((a 0), .inr (7, (fX7 (a 1) (a 3) (a 19) (a 35) (a 40) (nI rk) lfa (a 53) (a 56) (a 63) (a 64) (a 68)))), ((a 53), .inr (4, (fX4 (a 54) (a 55) (nI cc) 0 ro sd)))] := hD
  refine lv_aload_n hx hb dX7_clear_16 rfl (lv_at hl 1 rfl) ?_
  refine va_get (D := D) (ci := 7) (v := .ref (a 53)) (C := RX7) (T := TX7) (N := 12) hx hb hts inX7 hown hK hP 0 rfl rfl 7 (by decide) (hts _ tw_312) (fun _ h9 => h9) rfl dX7_clear_17 ?_
  refine lv_iconst (v := 0) hx hb dX7_clear_20 (by decide) ?_
  refine va_put (D := D) (ci := 4) (v := .int 0) (ty := .int) (C := RX4) (T := TX4) (N := 6) hx hb hts inX4 tyX4 tyX4_ok nmX4 hown hK hP hD hS 1 rfl rfl 4 (by decide) (hts _ tw_187) (fun _ h9 => h9) rfl (by decide +kernel) rfl rfl (Nat.le_of_ble_eq_true rfl) dX7_clear_21 (fun H locs hP hD hS => ?_)
  replace hP : va_P D classes [((a 0), .inr (7, (fX7 (a 1) (a 3) (a 19) (a 35) (a 40) (nI rk) lfa (a 53) (a 56) (a 63) (a 64) (a 68)))), ((a 53), .inr (4, (fX4 (a 54) (a 55) (nI cc) 0 0 sd)))] H := hP
  replace hD : va_D A [((a 0), .inr (7, (fX7 (a 1) (a 3) (a 19) (a 35) (a 40) (nI rk) lfa (a 53) (a 56) (a 63) (a 64) (a 68)))), ((a 53), .inr (4, (fX4 (a 54) (a 55) (nI cc) 0 0 sd)))] := hD
  refine lv_iload_n hx hb dX7_clear_24 rfl (lv_at hl 0 rfl) ?_
  have hP9 := hP.sub (ws' := [((a 0), .inr (7, (fX7 (a 1) (a 3) (a 19) (a 35) (a 40) (nI rk) lfa (a 53) (a 56) (a 63) (a 64) (a 68)))), ((a 53), .inr (4, (fX4 (a 54) (a 55) (nI cc) 0 0 sd)))]) [0, 1] rfl
  have hD9 := hD.sub (ws' := [((a 0), .inr (7, (fX7 (a 1) (a 3) (a 19) (a 35) (a 40) (nI rk) lfa (a 53) (a 56) (a 63) (a 64) (a 68)))), ((a 53), .inr (4, (fX4 (a 54) (a 55) (nI cc) 0 0 sd)))]) [0, 1] (by decide) rfl
  exact W.iret (v := (nI rz)) hx hb hr (fun t ht hW => ⟨⟨(nI rz), (0, 0), rfl, ⟨rfl, rfl⟩, by rw [ht]; exact hP9, hD9⟩, hS.F ht⟩) hS.2.2 dX7_clear_25


set_option maxHeartbeats 4000000 in
set_option maxRecDepth 100000 in
theorem x_addCar2 (l : Launch) (D : va_G) (k : Nat → ClassId) (st : Nat → Nat) (lo : Nat) (c0 : Nat) (c1 : Nat) (c2 : Nat) (cc : Nat) (rz : Nat) (ro : Int32) (sd : Int32) (wk : Nat → Int32) (br : Nat → Nat) (p0 : Int32) (bb : Nat) (hcc : cc < 4) (hbb : bb ≤ 24) (hbr : ∀ j, br j ≤ 24) : CWi l D k st lo yX4_addCar cX4_addCar 4 (some .int) ({ frames := 0, cells := 0, slots := 0, locals := 0 }) 0 0 [.ref c0, .int p0, .int (nI bb)] [(c0, .inr (4, (fX4 c1 c2 (nI cc) (nI rz) ro sd))), (aI k c1 4 wk), (aI k c2 4 (nF br))] (fun (r : Int32) (u : Nat × (Nat → Int32) × (Nat → Nat)) => match u with | (cc_, wk_, br_) => (r = nI cc ∧ cc_ = cc + 1) ∧ (∀ j, br_ j ≤ 24)) (fun (u : Nat × (Nat → Int32) × (Nat → Nat)) => match u with | (cc_, wk_, br_) => [(c0, .inr (4, (fX4 c1 c2 (nI cc_) (nI rz) ro sd))), (aI k c1 4 wk_), (aI k c2 4 (nF br_))]) := by
  intro sz
  refine Met.ofW (cc := cX4_addCar) (maxL := 4) (ret := (some .int)) (by decide) rfl ?_
  intro p e s m args below meth c s₁ B hml hv
  obtain ⟨rfl, hsz, hlo, hP, hK, hDL, hZ⟩ := hv
  have hx := B.exec
  have hb := B.bytes
  have hr := B.returns
  have hts := WS_ts B.pre
  have hown : s.vm.findClass RX4 = some m.cls := findClass_of_methodNamed B.named
  have hlocks := B.notSynchronized
  subst hsz
  have hD := hDL.self (sz := s.heap.size)
  have hAlo := A_lo hDL hlo
  generalize hAe : va_A [(c0, .inr (4, (fX4 c1 c2 (nI cc) (nI rz) ro sd))), (aI k c1 4 wk), (aI k c2 4 (nF br))] s.heap.size = A at hD hAlo ⊢
  have hA : ∀ q : Nat, s.heap.size ≤ q → A q := fun q h => by rw [← hAe]; exact Or.inr h
  have hS : va_S A s.heap s.heap [] := va_S.rf
  have hl := lv_entry ([.ref c0, .int p0, .int (nI bb)]) (n := 4) (Nat.le_of_ble_eq_true rfl)
  rw [lg_entry_eq]
  generalize (lg_sl ([.ref c0, .int p0, .int (nI bb)]) ++ List.replicate (4 - (lg_sl ([.ref c0, .int p0, .int (nI bb)])).length) Slot.unset).toArray = ls at hl ⊢
  have hl : lv_has ls 4 [(0, .ref c0), (1, .int p0), (2, .int (nI bb))] := hl
  refine lv_aload_n hx hb dX4_addCar_0 rfl (lv_at hl 0 rfl) ?_
  refine va_get (D := D) (ci := 4) (v := .int (nI cc)) (C := RX4) (T := TX4) (N := 6) hx hb hts inX4 hown hK hP 0 rfl rfl 2 (by decide) (hts _ tw_178) (fun _ h9 => h9) rfl dX4_addCar_1 ?_
  refine lv_istore_n (lv' := [(3, .int (nI cc)), (0, .ref c0), (1, .int p0), (2, .int (nI bb))]) hx hb dX4_addCar_4 rfl hl (by decide) rfl (fun ls hl => ?_)
  refine lv_iload_n hx hb dX4_addCar_5 rfl (lv_at hl 0 rfl) ?_
  refine lv_iconst (v := 4) hx hb dX4_addCar_6 (by decide) ?_
  refine lv_icmp_ge (tgt := 34) hx hb dX4_addCar_7 (by decide) (fun h => absurd ((nI_leI (a := 4) (b := cc) (by omega) (by omega)).mp h) (by omega)) (fun _ => ?_)
  refine lv_aload_n hx hb dX4_addCar_10 rfl (lv_at hl 1 rfl) ?_
  refine va_get (D := D) (ci := 4) (v := .ref c1) (C := RX4) (T := TX4) (N := 6) hx hb hts inX4 hown hK hP 0 rfl rfl 0 (by decide) (hts _ tw_173) (fun _ h9 => h9) rfl dX4_addCar_11 ?_
  refine lv_iload_n hx hb dX4_addCar_14 rfl (lv_at hl 0 rfl) ?_
  refine lv_iload_n hx hb dX4_addCar_15 rfl (lv_at hl 2 rfl) ?_
  refine va_iast hx hb hK hP hD hS 1 1 rfl rfl (vp_in_nI (by omega) (by decide)) dX4_addCar_16 (fun H locs hP hD hS => ?_)
  replace hP : va_P D classes [(c0, .inr (4, (fX4 c1 c2 (nI cc) (nI rz) ro sd))), (aI k c1 4 (upd wk (Int32.toNatClampNeg (nI cc)) p0)), (aI k c2 4 (nF br))] H := hP
  replace hD : va_D A [(c0, .inr (4, (fX4 c1 c2 (nI cc) (nI rz) ro sd))), (aI k c1 4 (upd wk (Int32.toNatClampNeg (nI cc)) p0)), (aI k c2 4 (nF br))] := hD
  generalize (upd wk (Int32.toNatClampNeg (nI cc)) p0) = f_2 at hP hD
  refine lv_aload_n hx hb dX4_addCar_17 rfl (lv_at hl 1 rfl) ?_
  refine va_get (D := D) (ci := 4) (v := .ref c2) (C := RX4) (T := TX4) (N := 6) hx hb hts inX4 hown hK hP 0 rfl rfl 1 (by decide) (hts _ tw_175) (fun _ h9 => h9) rfl dX4_addCar_18 ?_
  refine lv_iload_n hx hb dX4_addCar_21 rfl (lv_at hl 0 rfl) ?_
  refine lv_iload_n hx hb dX4_addCar_22 rfl (lv_at hl 3 rfl) ?_
  refine va_iast hx hb hK hP hD hS 2 1 rfl rfl (vp_in_nI (by omega) (by decide)) dX4_addCar_23 (fun H locs hP hD hS => ?_)
  replace hP : va_P D classes [(c0, .inr (4, (fX4 c1 c2 (nI cc) (nI rz) ro sd))), (aI k c1 4 f_2), (aI k c2 4 (upd (nF br) (Int32.toNatClampNeg (nI cc)) (nI bb)))] H := hP
  replace hD : va_D A [(c0, .inr (4, (fX4 c1 c2 (nI cc) (nI rz) ro sd))), (aI k c1 4 f_2), (aI k c2 4 (upd (nF br) (Int32.toNatClampNeg (nI cc)) (nI bb)))] := hD
  rw [nI_clamp (n := cc) (by omega)] at hP hD
  rw [show upd (nF br) cc (nI bb) = nF (fun j => if j = cc then bb else br j) from nF_upd _ _ _] at hP hD
  obtain ⟨d_4, hd_4⟩ : ∃ z : Nat → Nat, z = (fun j => if j = cc then bb else br j) := ⟨_, rfl⟩
  rw [← hd_4] at hP hD
  have hbb_4 : ∀ j, d_4 j ≤ 24 := by rw [hd_4]; exact up_le hbr (by omega)
  refine lv_aload_n hx hb dX4_addCar_24 rfl (lv_at hl 1 rfl) ?_
  refine lv_dup hx hb dX4_addCar_25 rfl ?_
  refine va_get (D := D) (ci := 4) (v := .int (nI cc)) (C := RX4) (T := TX4) (N := 6) hx hb hts inX4 hown hK hP 0 rfl rfl 2 (by decide) (hts _ tw_178) (fun _ h9 => h9) rfl dX4_addCar_26 ?_
  refine lv_iconst (v := 1) hx hb dX4_addCar_29 (by decide) ?_
  refine lv_iadd hx hb dX4_addCar_30 ?_
  refine lv_ti (y := (nI (cc + 1))) (nI_add cc 1) ?_
  refine va_put (D := D) (ci := 4) (v := .int (nI (cc + 1))) (ty := .int) (C := RX4) (T := TX4) (N := 6) hx hb hts inX4 tyX4 tyX4_ok nmX4 hown hK hP hD hS 0 rfl rfl 2 (by decide) (hts _ tw_178) (fun _ h9 => h9) rfl (by decide +kernel) rfl rfl (Nat.le_of_ble_eq_true rfl) dX4_addCar_31 (fun H locs hP hD hS => ?_)
  replace hP : va_P D classes [(c0, .inr (4, (fX4 c1 c2 (nI (cc + 1)) (nI rz) ro sd))), (aI k c1 4 f_2), (aI k c2 4 (nF d_4))] H := hP
  replace hD : va_D A [(c0, .inr (4, (fX4 c1 c2 (nI (cc + 1)) (nI rz) ro sd))), (aI k c1 4 f_2), (aI k c2 4 (nF d_4))] := hD
  refine lv_iload_n hx hb dX4_addCar_34 rfl (lv_at hl 0 rfl) ?_
  have hP9 := hP.sub (ws' := [(c0, .inr (4, (fX4 c1 c2 (nI (cc + 1)) (nI rz) ro sd))), (aI k c1 4 f_2), (aI k c2 4 (nF d_4))]) [0, 1, 2] rfl
  have hD9 := hD.sub (ws' := [(c0, .inr (4, (fX4 c1 c2 (nI (cc + 1)) (nI rz) ro sd))), (aI k c1 4 f_2), (aI k c2 4 (nF d_4))]) [0, 1, 2] (by decide) rfl
  exact W.iret (v := (nI cc)) hx hb hr (fun t ht hW => ⟨⟨(nI cc), ((cc + 1), f_2, d_4), rfl, ⟨⟨rfl, rfl⟩, hbb_4⟩, by rw [ht]; exact hP9, hD9⟩, hS.F ht⟩) hS.2.2 dX4_addCar_35


set_option maxHeartbeats 4000000 in
set_option maxRecDepth 100000 in
theorem x_car2 (l : Launch) (D : va_G) (k : Nat → ClassId) (st : Nat → Nat) (lo : Nat) (a : Nat → Nat) (rk : Nat) (lfa : Int32) (cc : Nat) (rz : Nat) (ro : Int32) (sd : Int32) (wk : Nat → Int32) (br : Nat → Nat) (p0 : Int32) (p1 : Int32) (hcc : cc ≤ 4) (hbr : ∀ j, br j ≤ 24) : CWi l D k st lo yX7_car cX7_car 3 (some .int) ({ frames := 1, cells := 0, slots := 0, locals := 23 }) 0 0 [.ref (a 0), .int p0, .int p1] [((a 0), .inr (7, (fX7 (a 1) (a 3) (a 19) (a 35) (a 40) (nI rk) lfa (a 53) (a 56) (a 63) (a 64) (a 68)))), ((a 53), .inr (4, (fX4 (a 54) (a 55) (nI cc) (nI rz) ro sd))), (aI k (a 54) 4 wk), (aI k (a 55) 4 (nF br))] (fun (r : Int32) (u : Nat × (Nat → Int32) × (Nat → Nat)) => match u with | (cc_, wk_, br_) => carP p0 p1 cc r cc_ ∧ cc_ ≤ 4 ∧ (∀ j, br_ j ≤ 24)) (fun (u : Nat × (Nat → Int32) × (Nat → Nat)) => match u with | (cc_, wk_, br_) => [((a 0), .inr (7, (fX7 (a 1) (a 3) (a 19) (a 35) (a 40) (nI rk) lfa (a 53) (a 56) (a 63) (a 64) (a 68)))), ((a 53), .inr (4, (fX4 (a 54) (a 55) (nI cc_) (nI rz) ro sd))), (aI k (a 54) 4 wk_), (aI k (a 55) 4 (nF br_))]) := by
  intro sz
  refine Met.ofW (cc := cX7_car) (maxL := 3) (ret := (some .int)) (by decide) rfl ?_
  intro p e s m args below meth c s₁ B hml hv
  obtain ⟨rfl, hsz, hlo, hP, hK, hDL, hZ⟩ := hv
  have hx := B.exec
  have hb := B.bytes
  have hr := B.returns
  have hts := WS_ts B.pre
  have hown : s.vm.findClass RX7 = some m.cls := findClass_of_methodNamed B.named
  have hlocks := B.notSynchronized
  subst hsz
  have hD := hDL.self (sz := s.heap.size)
  have hAlo := A_lo hDL hlo
  generalize hAe : va_A [((a 0), .inr (7, (fX7 (a 1) (a 3) (a 19) (a 35) (a 40) (nI rk) lfa (a 53) (a 56) (a 63) (a 64) (a 68)))), ((a 53), .inr (4, (fX4 (a 54) (a 55) (nI cc) (nI rz) ro sd))), (aI k (a 54) 4 wk), (aI k (a 55) 4 (nF br))] s.heap.size = A at hD hAlo ⊢
  have hA : ∀ q : Nat, s.heap.size ≤ q → A q := fun q h => by rw [← hAe]; exact Or.inr h
  have hS : va_S A s.heap s.heap [] := va_S.rf
  have hl := lv_entry ([.ref (a 0), .int p0, .int p1]) (n := 3) (Nat.le_of_ble_eq_true rfl)
  rw [lg_entry_eq]
  generalize (lg_sl ([.ref (a 0), .int p0, .int p1]) ++ List.replicate (3 - (lg_sl ([.ref (a 0), .int p0, .int p1])).length) Slot.unset).toArray = ls at hl ⊢
  have hl : lv_has ls 3 [(0, .ref (a 0)), (1, .int p0), (2, .int p1)] := hl
  refine lv_iload_n hx hb dX7_car_0 rfl (lv_at hl 1 rfl) ?_
  refine lv_iconst (v := 0) hx hb dX7_car_1 (by decide) ?_
  refine va_gets (A := A) hx hb (hZ.2.2.1.narrow hAlo) hS hown (hts _ tw_800) (fun _ h9 => h9) dX7_car_2 ?_
  refine lv_iconst (v := 2) hx hb dX7_car_5 (by decide) ?_
  refine va_ti (A := A) hx hb (hZ.2.2.2.1.narrow hAlo) hS (i := 2) (by unfold vp_in; decide) (v := .int 99) rfl dX7_car_6 ?_
  refine ro_i (D := D) (va_runS (As := [.int p0, .int 0, .int 99]) (rest := []) ⟨hx, hb, hml, hown, hts⟩ ((k_isIn l D k st lo p0 0 99) s.heap.size) (va_cwS 3 hts (gS tw_593 tw_594 tw_79 tw_595) rfl rfl rfl (by decide +kernel) ⟨Nat.le_of_ble_eq_true rfl, Nat.le_of_ble_eq_true rfl⟩) (pS hS hAlo hlo hP hK (va_Dlo hD hAlo) hZ [] (by decide) rfl) rfl rfl hl.1 rfl (lv_room (Nat.le_of_ble_eq_true rfl)) dX7_car_7 ⟨Nat.le_of_ble_eq_true rfl, Nat.le_of_ble_eq_true rfl⟩) hS hA hP (fun r_1 H locs hw_1 hP hS => ?_)
  try dsimp only at hw_1
  rcases hw_1 with ⟨rfl, hw_1⟩ | ⟨rfl, hw_1⟩
  · refine lv_if_eq (tgt := 23) hx hb dX7_car_10 (by decide) (fun h => absurd h (by decide)) (fun _ => ?_)
    refine lv_iload_n hx hb dX7_car_13 rfl (lv_at hl 2 rfl) ?_
    refine lv_iconst (v := 0) hx hb dX7_car_14 (by decide) ?_
    refine lv_bipush (v := 24) hx hb dX7_car_15 (by decide) ?_
    refine ro_i (D := D) (va_runS (As := [.int p1, .int 0, .int 24]) (rest := []) ⟨hx, hb, hml, hown, hts⟩ ((k_isIn l D k st lo p1 0 24) H.size) (va_cwS 3 hts (gS tw_593 tw_594 tw_79 tw_595) rfl rfl rfl (by decide +kernel) ⟨Nat.le_of_ble_eq_true rfl, Nat.le_of_ble_eq_true rfl⟩) (pS hS hAlo hlo hP hK (va_Dlo hD hAlo) hZ [] (by decide) rfl) rfl rfl hl.1 rfl (lv_room (Nat.le_of_ble_eq_true rfl)) dX7_car_17 ⟨Nat.le_of_ble_eq_true rfl, Nat.le_of_ble_eq_true rfl⟩) hS hA hP (fun r_2 H locs hw_2 hP hS => ?_)
    try dsimp only at hw_2
    rcases hw_2 with ⟨rfl, hw_2⟩ | ⟨rfl, hw_2⟩
    · refine lv_if_ne (tgt := 27) hx hb dX7_car_20 (by decide) (fun _ => ?_) (fun h => absurd h (by decide))
      refine lv_aload_n hx hb dX7_car_27 rfl (lv_at hl 0 rfl) ?_
      refine va_get (D := D) (ci := 7) (v := .ref (a 53)) (C := RX7) (T := TX7) (N := 12) hx hb hts inX7 hown hK hP 0 rfl rfl 7 (by decide) (hts _ tw_312) (fun _ h9 => h9) rfl dX7_car_28 ?_
      refine va_get (D := D) (ci := 4) (v := .int (nI cc)) (C := RX4) (T := TX4) (N := 6) hx hb hts inX4 hown hK hP 1 rfl rfl 2 (by decide) (hts _ tw_180) (fun _ h9 => h9) rfl dX7_car_31 ?_
      refine lv_iconst (v := 4) hx hb dX7_car_34 (by decide) ?_
      refine lv_icmp_ge (tgt := 50) hx hb dX7_car_35 (by decide) (fun c_3 => ?_) (fun c_3 => ?_)
      · have c_3 := (nI_leI (a := 4) (b := cc) (by omega) (by omega)).mp c_3
        refine lv_sipush (v := (-1004)) hx hb dX7_car_50 (by decide) ?_
        have hP9 := hP.sub (ws' := [((a 0), .inr (7, (fX7 (a 1) (a 3) (a 19) (a 35) (a 40) (nI rk) lfa (a 53) (a 56) (a 63) (a 64) (a 68)))), ((a 53), .inr (4, (fX4 (a 54) (a 55) (nI cc) (nI rz) ro sd))), (aI k (a 54) 4 wk), (aI k (a 55) 4 (nF br))]) [0, 1, 2, 3] rfl
        have hD9 := hD.sub (ws' := [((a 0), .inr (7, (fX7 (a 1) (a 3) (a 19) (a 35) (a 40) (nI rk) lfa (a 53) (a 56) (a 63) (a 64) (a 68)))), ((a 53), .inr (4, (fX4 (a 54) (a 55) (nI cc) (nI rz) ro sd))), (aI k (a 54) 4 wk), (aI k (a 55) 4 (nF br))]) [0, 1, 2, 3] (by decide) rfl
        exact W.iret (v := (-1004)) hx hb hr (fun t ht hW => ⟨⟨(-1004), (cc, wk, br), rfl, ⟨⟨fun _ => ⟨fun h => absurd h (by omega), fun _ => ⟨rfl, rfl⟩⟩, fun h => absurd ⟨hw_1, hw_2⟩ h⟩, by omega, hbr⟩, by rw [ht]; exact hP9, hD9⟩, hS.F ht⟩) hS.2.2 dX7_car_53
      · have c_3 : ¬ (4 ≤ cc) := fun h => c_3 ((nI_leI (a := 4) (b := cc) (by omega) (by omega)).mpr h)
        obtain ⟨nb_4, hnl_4, hnh_4, rfl⟩ := inB_ofc (a := 0) (b := 24) (by omega) (by omega) hw_2
        refine lv_aload_n hx hb dX7_car_38 rfl (lv_at hl 0 rfl) ?_
        refine va_get (D := D) (ci := 7) (v := .ref (a 53)) (C := RX7) (T := TX7) (N := 12) hx hb hts inX7 hown hK hP 0 rfl rfl 7 (by decide) (hts _ tw_312) (fun _ h9 => h9) rfl dX7_car_39 ?_
        refine lv_iload_n hx hb dX7_car_42 rfl (lv_at hl 1 rfl) ?_
        refine lv_iload_n hx hb dX7_car_43 rfl (lv_at hl 2 rfl) ?_
        refine rw_i (D := D) (wr := [((a 0), .inr (7, (fX7 (a 1) (a 3) (a 19) (a 35) (a 40) (nI rk) lfa (a 53) (a 56) (a 63) (a 64) (a 68))))]) (va_runV (As := [.int p0, .int (nI nb_4)]) (rest := []) ⟨hx, hb, hml, hown, hts⟩ ((x_addCar2 l D k st lo (a 53) (a 54) (a 55) cc rz ro sd wk br p0 nb_4 (by omega) (by omega) hbr) H.size) (cwV 2 hts (gV tw_801 tw_802 tw_803 tw_82 tw_804) rfl rfl rfl (by decide +kernel) ⟨Nat.le_of_ble_eq_true rfl, Nat.le_of_ble_eq_true rfl⟩) (pV hS hAlo hlo hP hK (va_Dlo hD hAlo) hZ [1, 2, 3] (by decide) rfl (ci := 4) (q := (RX4, TX4, 6)) (q0 := 0) rfl rfl) rfl rfl hl.1 rfl (lv_room (Nat.le_of_ble_eq_true rfl)) dX7_car_44 ⟨Nat.le_of_ble_eq_true rfl, Nat.le_of_ble_eq_true rfl⟩) hS hA hP hD [1, 2, 3] [0] rfl rfl (by decide) (by decide) (fun r_5 u H locs hw_5 hP hD hS => ?_)
        obtain ⟨cc__5, wk__5, br__5⟩ := u
        replace hP : va_P D classes [((a 0), .inr (7, (fX7 (a 1) (a 3) (a 19) (a 35) (a 40) (nI rk) lfa (a 53) (a 56) (a 63) (a 64) (a 68)))), ((a 53), .inr (4, (fX4 (a 54) (a 55) (nI cc__5) (nI rz) ro sd))), (aI k (a 54) 4 wk__5), (aI k (a 55) 4 (nF br__5))] H := hP
        replace hD : va_D A [((a 0), .inr (7, (fX7 (a 1) (a 3) (a 19) (a 35) (a 40) (nI rk) lfa (a 53) (a 56) (a 63) (a 64) (a 68)))), ((a 53), .inr (4, (fX4 (a 54) (a 55) (nI cc__5) (nI rz) ro sd))), (aI k (a 54) 4 wk__5), (aI k (a 55) 4 (nF br__5))] := hD
        try dsimp only at hw_5
        refine lv_goto (tgt := 53) hx hb dX7_car_47 (by decide) ?_
        have hP9 := hP.sub (ws' := [((a 0), .inr (7, (fX7 (a 1) (a 3) (a 19) (a 35) (a 40) (nI rk) lfa (a 53) (a 56) (a 63) (a 64) (a 68)))), ((a 53), .inr (4, (fX4 (a 54) (a 55) (nI cc__5) (nI rz) ro sd))), (aI k (a 54) 4 wk__5), (aI k (a 55) 4 (nF br__5))]) [0, 1, 2, 3] rfl
        have hD9 := hD.sub (ws' := [((a 0), .inr (7, (fX7 (a 1) (a 3) (a 19) (a 35) (a 40) (nI rk) lfa (a 53) (a 56) (a 63) (a 64) (a 68)))), ((a 53), .inr (4, (fX4 (a 54) (a 55) (nI cc__5) (nI rz) ro sd))), (aI k (a 54) 4 wk__5), (aI k (a 55) 4 (nF br__5))]) [0, 1, 2, 3] (by decide) rfl
        exact W.iret (v := r_5) hx hb hr (fun t ht hW => ⟨⟨r_5, (cc__5, wk__5, br__5), rfl, ⟨⟨fun _ => ⟨fun _ => hw_5.1, fun h => absurd (by omega) h⟩, fun h => absurd ⟨hw_1, hw_2⟩ h⟩, by omega, hw_5.2⟩, by rw [ht]; exact hP9, hD9⟩, hS.F ht⟩) hS.2.2 dX7_car_53
    · refine lv_if_ne (tgt := 27) hx hb dX7_car_20 (by decide) (fun h => absurd (by decide) h) (fun _ => ?_)
      refine lv_sipush (v := (-1002)) hx hb dX7_car_23 (by decide) ?_
      have hP9 := hP.sub (ws' := [((a 0), .inr (7, (fX7 (a 1) (a 3) (a 19) (a 35) (a 40) (nI rk) lfa (a 53) (a 56) (a 63) (a 64) (a 68)))), ((a 53), .inr (4, (fX4 (a 54) (a 55) (nI cc) (nI rz) ro sd))), (aI k (a 54) 4 wk), (aI k (a 55) 4 (nF br))]) [0, 1, 2, 3] rfl
      have hD9 := hD.sub (ws' := [((a 0), .inr (7, (fX7 (a 1) (a 3) (a 19) (a 35) (a 40) (nI rk) lfa (a 53) (a 56) (a 63) (a 64) (a 68)))), ((a 53), .inr (4, (fX4 (a 54) (a 55) (nI cc) (nI rz) ro sd))), (aI k (a 54) 4 wk), (aI k (a 55) 4 (nF br))]) [0, 1, 2, 3] (by decide) rfl
      exact W.iret (v := (-1002)) hx hb hr (fun t ht hW => ⟨⟨(-1002), (cc, wk, br), rfl, ⟨⟨fun h => absurd h.2 hw_2, fun _ => ⟨rfl, rfl⟩⟩, by omega, hbr⟩, by rw [ht]; exact hP9, hD9⟩, hS.F ht⟩) hS.2.2 dX7_car_26
  · refine lv_if_eq (tgt := 23) hx hb dX7_car_10 (by decide) (fun _ => ?_) (fun h => absurd (by decide) h)
    refine lv_sipush (v := (-1002)) hx hb dX7_car_23 (by decide) ?_
    have hP9 := hP.sub (ws' := [((a 0), .inr (7, (fX7 (a 1) (a 3) (a 19) (a 35) (a 40) (nI rk) lfa (a 53) (a 56) (a 63) (a 64) (a 68)))), ((a 53), .inr (4, (fX4 (a 54) (a 55) (nI cc) (nI rz) ro sd))), (aI k (a 54) 4 wk), (aI k (a 55) 4 (nF br))]) [0, 1, 2, 3] rfl
    have hD9 := hD.sub (ws' := [((a 0), .inr (7, (fX7 (a 1) (a 3) (a 19) (a 35) (a 40) (nI rk) lfa (a 53) (a 56) (a 63) (a 64) (a 68)))), ((a 53), .inr (4, (fX4 (a 54) (a 55) (nI cc) (nI rz) ro sd))), (aI k (a 54) 4 wk), (aI k (a 55) 4 (nF br))]) [0, 1, 2, 3] (by decide) rfl
    exact W.iret (v := (-1002)) hx hb hr (fun t ht hW => ⟨⟨(-1002), (cc, wk, br), rfl, ⟨⟨fun h => absurd h.1 hw_1, fun _ => ⟨rfl, rfl⟩⟩, by omega, hbr⟩, by rw [ht]; exact hP9, hD9⟩, hS.F ht⟩) hS.2.2 dX7_car_26


set_option maxHeartbeats 4000000 in
set_option maxRecDepth 100000 in
theorem x_copyFrom2 (l : Launch) (D : va_G) (k : Nat → ClassId) (st : Nat → Nat) (lo : Nat) (c0 : Nat) (c1 : Nat) (c2 : Nat) (cc : Nat) (rz : Nat) (ro : Int32) (sd : Int32) (wk : Nat → Int32) (br : Nat → Nat) (o0 : Nat) (o1 : Nat) (o2 : Nat) (cco : Nat) (rzo : Nat) (roo : Int32) (sdo : Int32) (wko : Nat → Int32) (bro : Nat → Nat) (hcc : cco ≤ 4) (hrz : rzo ≤ 24) (hbr : ∀ j, br j ≤ 24) (hbo : ∀ j, bro j ≤ 24) : CWv l D k st lo yX4_copyFrom cX4_copyFrom 2 none ({ frames := 1, cells := 0, slots := 0, locals := 60 }) 0 0 [.ref c0, .ref o0] [(c0, .inr (4, (fX4 c1 c2 (nI cc) (nI rz) ro sd))), (aI k c1 4 wk), (aI k c2 4 (nF br)), (o0, .inr (4, (fX4 o1 o2 (nI cco) (nI rzo) roo sdo))), (aI k o1 4 wko), (aI k o2 4 (nF bro))] (fun (u : Nat × Nat × Int32 × Int32 × (Nat → Int32) × (Nat → Nat)) => match u with | (cc_, rz_, ro_, sd_, wk_, br_) => cco = cc_ ∧ rzo = rz_ ∧ (∀ j, br_ j ≤ 24)) (fun (u : Nat × Nat × Int32 × Int32 × (Nat → Int32) × (Nat → Nat)) => match u with | (cc_, rz_, ro_, sd_, wk_, br_) => [(c0, .inr (4, (fX4 c1 c2 (nI cc_) (nI rz_) ro_ sd_))), (aI k c1 4 wk_), (aI k c2 4 (nF br_)), (o0, .inr (4, (fX4 o1 o2 (nI cco) (nI rzo) roo sdo))), (aI k o1 4 wko), (aI k o2 4 (nF bro))]) := by
  intro sz
  refine Met.ofW (cc := cX4_copyFrom) (maxL := 2) (ret := none) (by decide) rfl ?_
  intro p e s m args below meth c s₁ B hml hv
  obtain ⟨rfl, hsz, hlo, hP, hK, hDL, hZ⟩ := hv
  have hx := B.exec
  have hb := B.bytes
  have hr := B.returns
  have hts := WS_ts B.pre
  have hown : s.vm.findClass RX4 = some m.cls := findClass_of_methodNamed B.named
  have hlocks := B.notSynchronized
  subst hsz
  have hD := hDL.self (sz := s.heap.size)
  have hAlo := A_lo hDL hlo
  generalize hAe : va_A [(c0, .inr (4, (fX4 c1 c2 (nI cc) (nI rz) ro sd))), (aI k c1 4 wk), (aI k c2 4 (nF br)), (o0, .inr (4, (fX4 o1 o2 (nI cco) (nI rzo) roo sdo))), (aI k o1 4 wko), (aI k o2 4 (nF bro))] s.heap.size = A at hD hAlo ⊢
  have hA : ∀ q : Nat, s.heap.size ≤ q → A q := fun q h => by rw [← hAe]; exact Or.inr h
  have hS : va_S A s.heap s.heap [] := va_S.rf
  have hl := lv_entry ([.ref c0, .ref o0]) (n := 2) (Nat.le_of_ble_eq_true rfl)
  rw [lg_entry_eq]
  generalize (lg_sl ([.ref c0, .ref o0]) ++ List.replicate (2 - (lg_sl ([.ref c0, .ref o0])).length) Slot.unset).toArray = ls at hl ⊢
  have hl : lv_has ls 2 [(0, .ref c0), (1, .ref o0)] := hl
  refine lv_aload_n hx hb dX4_copyFrom_0 rfl (lv_at hl 1 rfl) ?_
  refine va_get (D := D) (ci := 4) (v := .ref o1) (C := RX4) (T := TX4) (N := 6) hx hb hts inX4 hown hK hP 3 rfl rfl 0 (by decide) (hts _ tw_173) (fun _ h9 => h9) rfl dX4_copyFrom_1 ?_
  refine lv_iconst (v := 0) hx hb dX4_copyFrom_4 (by decide) ?_
  refine lv_aload_n hx hb dX4_copyFrom_5 rfl (lv_at hl 0 rfl) ?_
  refine va_get (D := D) (ci := 4) (v := .ref c1) (C := RX4) (T := TX4) (N := 6) hx hb hts inX4 hown hK hP 0 rfl rfl 0 (by decide) (hts _ tw_173) (fun _ h9 => h9) rfl dX4_copyFrom_6 ?_
  refine lv_iconst (v := 0) hx hb dX4_copyFrom_9 (by decide) ?_
  refine lv_iconst (v := 4) hx hb dX4_copyFrom_10 (by decide) ?_
  refine va_copyi hx hb (by rw [hml]; exact hl.1.symm) hown (hts _ tw_883) (hts _ tw_366) (hts _ tw_365) (hts _ tw_88) hK hP hD hS 4 1 1 1 rfl rfl rfl rfl rfl (by decide) (by decide) (by decide) (by decide) (by decide) (fun _ _ => rfl) (Nat.le_of_ble_eq_true rfl) (Nat.le_of_ble_eq_true rfl) dX4_copyFrom_11 (fun H locs hP hD hS => ?_)
  replace hP : va_P D classes [(c0, .inr (4, (fX4 c1 c2 (nI cc) (nI rz) ro sd))), (aI k c1 4 (va_cpy wko wk 0 0 4)), (aI k c2 4 (nF br)), (o0, .inr (4, (fX4 o1 o2 (nI cco) (nI rzo) roo sdo))), (aI k o1 4 wko), (aI k o2 4 (nF bro))] H := hP
  replace hD : va_D A [(c0, .inr (4, (fX4 c1 c2 (nI cc) (nI rz) ro sd))), (aI k c1 4 (va_cpy wko wk 0 0 4)), (aI k c2 4 (nF br)), (o0, .inr (4, (fX4 o1 o2 (nI cco) (nI rzo) roo sdo))), (aI k o1 4 wko), (aI k o2 4 (nF bro))] := hD
  generalize (va_cpy wko wk 0 0 4) = f_2 at hP hD
  refine lv_aload_n hx hb dX4_copyFrom_14 rfl (lv_at hl 1 rfl) ?_
  refine va_get (D := D) (ci := 4) (v := .ref o2) (C := RX4) (T := TX4) (N := 6) hx hb hts inX4 hown hK hP 3 rfl rfl 1 (by decide) (hts _ tw_175) (fun _ h9 => h9) rfl dX4_copyFrom_15 ?_
  refine lv_iconst (v := 0) hx hb dX4_copyFrom_18 (by decide) ?_
  refine lv_aload_n hx hb dX4_copyFrom_19 rfl (lv_at hl 0 rfl) ?_
  refine va_get (D := D) (ci := 4) (v := .ref c2) (C := RX4) (T := TX4) (N := 6) hx hb hts inX4 hown hK hP 0 rfl rfl 1 (by decide) (hts _ tw_175) (fun _ h9 => h9) rfl dX4_copyFrom_20 ?_
  refine lv_iconst (v := 0) hx hb dX4_copyFrom_23 (by decide) ?_
  refine lv_iconst (v := 4) hx hb dX4_copyFrom_24 (by decide) ?_
  refine va_copyi hx hb (by rw [hml]; exact hl.1.symm) hown (hts _ tw_883) (hts _ tw_366) (hts _ tw_365) (hts _ tw_88) hK hP hD hS 5 2 1 1 rfl rfl rfl rfl rfl (by decide) (by decide) (by decide) (by decide) (by decide) (fun _ _ => rfl) (Nat.le_of_ble_eq_true rfl) (Nat.le_of_ble_eq_true rfl) dX4_copyFrom_25 (fun H locs hP hD hS => ?_)
  replace hP : va_P D classes [(c0, .inr (4, (fX4 c1 c2 (nI cc) (nI rz) ro sd))), (aI k c1 4 f_2), (aI k c2 4 (va_cpy (nF bro) (nF br) 0 0 4)), (o0, .inr (4, (fX4 o1 o2 (nI cco) (nI rzo) roo sdo))), (aI k o1 4 wko), (aI k o2 4 (nF bro))] H := hP
  replace hD : va_D A [(c0, .inr (4, (fX4 c1 c2 (nI cc) (nI rz) ro sd))), (aI k c1 4 f_2), (aI k c2 4 (va_cpy (nF bro) (nF br) 0 0 4)), (o0, .inr (4, (fX4 o1 o2 (nI cco) (nI rzo) roo sdo))), (aI k o1 4 wko), (aI k o2 4 (nF bro))] := hD
  obtain ⟨d_3, hd_3, hbb_3⟩ := nF_cpy hbo hbr
  rw [show va_cpy (nF bro) (nF br) 0 0 4 = nF d_3 from hd_3] at hP hD
  replace hP : va_P D classes [(c0, .inr (4, (fX4 c1 c2 (nI cc) (nI rz) ro sd))), (aI k c1 4 f_2), (aI k c2 4 (nF d_3)), (o0, .inr (4, (fX4 o1 o2 (nI cco) (nI rzo) roo sdo))), (aI k o1 4 wko), (aI k o2 4 (nF bro))] H := hP
  replace hD : va_D A [(c0, .inr (4, (fX4 c1 c2 (nI cc) (nI rz) ro sd))), (aI k c1 4 f_2), (aI k c2 4 (nF d_3)), (o0, .inr (4, (fX4 o1 o2 (nI cco) (nI rzo) roo sdo))), (aI k o1 4 wko), (aI k o2 4 (nF bro))] := hD
  refine lv_aload_n hx hb dX4_copyFrom_28 rfl (lv_at hl 0 rfl) ?_
  refine lv_aload_n hx hb dX4_copyFrom_29 rfl (lv_at hl 1 rfl) ?_
  refine va_get (D := D) (ci := 4) (v := .int (nI cco)) (C := RX4) (T := TX4) (N := 6) hx hb hts inX4 hown hK hP 3 rfl rfl 2 (by decide) (hts _ tw_178) (fun _ h9 => h9) rfl dX4_copyFrom_30 ?_
  refine va_put (D := D) (ci := 4) (v := .int (nI cco)) (ty := .int) (C := RX4) (T := TX4) (N := 6) hx hb hts inX4 tyX4 tyX4_ok nmX4 hown hK hP hD hS 0 rfl rfl 2 (by decide) (hts _ tw_178) (fun _ h9 => h9) rfl (by decide +kernel) rfl rfl (Nat.le_of_ble_eq_true rfl) dX4_copyFrom_33 (fun H locs hP hD hS => ?_)
  replace hP : va_P D classes [(c0, .inr (4, (fX4 c1 c2 (nI cco) (nI rz) ro sd))), (aI k c1 4 f_2), (aI k c2 4 (nF d_3)), (o0, .inr (4, (fX4 o1 o2 (nI cco) (nI rzo) roo sdo))), (aI k o1 4 wko), (aI k o2 4 (nF bro))] H := hP
  replace hD : va_D A [(c0, .inr (4, (fX4 c1 c2 (nI cco) (nI rz) ro sd))), (aI k c1 4 f_2), (aI k c2 4 (nF d_3)), (o0, .inr (4, (fX4 o1 o2 (nI cco) (nI rzo) roo sdo))), (aI k o1 4 wko), (aI k o2 4 (nF bro))] := hD
  refine lv_aload_n hx hb dX4_copyFrom_36 rfl (lv_at hl 0 rfl) ?_
  refine lv_aload_n hx hb dX4_copyFrom_37 rfl (lv_at hl 1 rfl) ?_
  refine va_get (D := D) (ci := 4) (v := .int (nI rzo)) (C := RX4) (T := TX4) (N := 6) hx hb hts inX4 hown hK hP 3 rfl rfl 3 (by decide) (hts _ tw_181) (fun _ h9 => h9) rfl dX4_copyFrom_38 ?_
  refine va_put (D := D) (ci := 4) (v := .int (nI rzo)) (ty := .int) (C := RX4) (T := TX4) (N := 6) hx hb hts inX4 tyX4 tyX4_ok nmX4 hown hK hP hD hS 0 rfl rfl 3 (by decide) (hts _ tw_181) (fun _ h9 => h9) rfl (by decide +kernel) rfl rfl (Nat.le_of_ble_eq_true rfl) dX4_copyFrom_41 (fun H locs hP hD hS => ?_)
  replace hP : va_P D classes [(c0, .inr (4, (fX4 c1 c2 (nI cco) (nI rzo) ro sd))), (aI k c1 4 f_2), (aI k c2 4 (nF d_3)), (o0, .inr (4, (fX4 o1 o2 (nI cco) (nI rzo) roo sdo))), (aI k o1 4 wko), (aI k o2 4 (nF bro))] H := hP
  replace hD : va_D A [(c0, .inr (4, (fX4 c1 c2 (nI cco) (nI rzo) ro sd))), (aI k c1 4 f_2), (aI k c2 4 (nF d_3)), (o0, .inr (4, (fX4 o1 o2 (nI cco) (nI rzo) roo sdo))), (aI k o1 4 wko), (aI k o2 4 (nF bro))] := hD
  refine lv_aload_n hx hb dX4_copyFrom_44 rfl (lv_at hl 0 rfl) ?_
  refine lv_aload_n hx hb dX4_copyFrom_45 rfl (lv_at hl 1 rfl) ?_
  refine va_get (D := D) (ci := 4) (v := .int roo) (C := RX4) (T := TX4) (N := 6) hx hb hts inX4 hown hK hP 3 rfl rfl 4 (by decide) (hts _ tw_185) (fun _ h9 => h9) rfl dX4_copyFrom_46 ?_
  refine va_put (D := D) (ci := 4) (v := .int roo) (ty := .int) (C := RX4) (T := TX4) (N := 6) hx hb hts inX4 tyX4 tyX4_ok nmX4 hown hK hP hD hS 0 rfl rfl 4 (by decide) (hts _ tw_185) (fun _ h9 => h9) rfl (by decide +kernel) rfl rfl (Nat.le_of_ble_eq_true rfl) dX4_copyFrom_49 (fun H locs hP hD hS => ?_)
  replace hP : va_P D classes [(c0, .inr (4, (fX4 c1 c2 (nI cco) (nI rzo) roo sd))), (aI k c1 4 f_2), (aI k c2 4 (nF d_3)), (o0, .inr (4, (fX4 o1 o2 (nI cco) (nI rzo) roo sdo))), (aI k o1 4 wko), (aI k o2 4 (nF bro))] H := hP
  replace hD : va_D A [(c0, .inr (4, (fX4 c1 c2 (nI cco) (nI rzo) roo sd))), (aI k c1 4 f_2), (aI k c2 4 (nF d_3)), (o0, .inr (4, (fX4 o1 o2 (nI cco) (nI rzo) roo sdo))), (aI k o1 4 wko), (aI k o2 4 (nF bro))] := hD
  refine lv_aload_n hx hb dX4_copyFrom_52 rfl (lv_at hl 0 rfl) ?_
  refine lv_aload_n hx hb dX4_copyFrom_53 rfl (lv_at hl 1 rfl) ?_
  refine va_get (D := D) (ci := 4) (v := .int sdo) (C := RX4) (T := TX4) (N := 6) hx hb hts inX4 hown hK hP 3 rfl rfl 5 (by decide) (hts _ tw_188) (fun _ h9 => h9) rfl dX4_copyFrom_54 ?_
  refine va_put (D := D) (ci := 4) (v := .int sdo) (ty := .int) (C := RX4) (T := TX4) (N := 6) hx hb hts inX4 tyX4 tyX4_ok nmX4 hown hK hP hD hS 0 rfl rfl 5 (by decide) (hts _ tw_188) (fun _ h9 => h9) rfl (by decide +kernel) rfl rfl (Nat.le_of_ble_eq_true rfl) dX4_copyFrom_57 (fun H locs hP hD hS => ?_)
  replace hP : va_P D classes [(c0, .inr (4, (fX4 c1 c2 (nI cco) (nI rzo) roo sdo))), (aI k c1 4 f_2), (aI k c2 4 (nF d_3)), (o0, .inr (4, (fX4 o1 o2 (nI cco) (nI rzo) roo sdo))), (aI k o1 4 wko), (aI k o2 4 (nF bro))] H := hP
  replace hD : va_D A [(c0, .inr (4, (fX4 c1 c2 (nI cco) (nI rzo) roo sdo))), (aI k c1 4 f_2), (aI k c2 4 (nF d_3)), (o0, .inr (4, (fX4 o1 o2 (nI cco) (nI rzo) roo sdo))), (aI k o1 4 wko), (aI k o2 4 (nF bro))] := hD
  have hP9 := hP.sub (ws' := [(c0, .inr (4, (fX4 c1 c2 (nI cco) (nI rzo) roo sdo))), (aI k c1 4 f_2), (aI k c2 4 (nF d_3)), (o0, .inr (4, (fX4 o1 o2 (nI cco) (nI rzo) roo sdo))), (aI k o1 4 wko), (aI k o2 4 (nF bro))]) [0, 1, 2, 3, 4, 5] rfl
  have hD9 := hD.sub (ws' := [(c0, .inr (4, (fX4 c1 c2 (nI cco) (nI rzo) roo sdo))), (aI k c1 4 f_2), (aI k c2 4 (nF d_3)), (o0, .inr (4, (fX4 o1 o2 (nI cco) (nI rzo) roo sdo))), (aI k o1 4 wko), (aI k o2 4 (nF bro))]) [0, 1, 2, 3, 4, 5] (by decide) rfl
  exact W.vret hx hb hr (fun t ht hW => ⟨⟨(cco, rzo, roo, sdo, f_2, d_3), rfl, ⟨rfl, rfl, hbb_3⟩, by rw [ht]; exact hP9, hD9⟩, hS.F ht⟩) hS.2.2 dX4_copyFrom_60


set_option maxHeartbeats 4000000 in
set_option maxRecDepth 100000 in
theorem x_keep2 (l : Launch) (D : va_G) (k : Nat → ClassId) (st : Nat → Nat) (lo : Nat) (a : Nat → Nat) (rk : Nat) (lfa : Int32) (cc : Nat) (rz : Nat) (ro : Int32) (sd : Int32) (wk : Nat → Int32) (br : Nat → Nat) (cci0 : Nat) (rzi0 : Nat) (roi0 : Int32) (sdi0 : Int32) (wki0 : Nat → Int32) (bri0 : Nat → Nat) (cci1 : Nat) (rzi1 : Nat) (roi1 : Int32) (sdi1 : Int32) (wki1 : Nat → Int32) (bri1 : Nat → Nat) (fk : Nat → Int32) (pz : Int32) (hcc : cc ≤ 4) (hrz : rz ≤ 24) (hbr : ∀ j, br j ≤ 24) (hcci0 : cci0 ≤ 4) (hrzi0 : rzi0 ≤ 24) (hbi0 : ∀ j, bri0 j ≤ 24) (hcci1 : cci1 ≤ 4) (hrzi1 : rzi1 ≤ 24) (hbi1 : ∀ j, bri1 j ≤ 24) : CWi l D k st lo yX7_keep cX7_keep 2 (some .int) ({ frames := 2, cells := 0, slots := 0, locals := 81 }) 0 0 [.ref (a 0), .int pz] [((a 0), .inr (7, (fX7 (a 1) (a 3) (a 19) (a 35) (a 40) (nI rk) lfa (a 53) (a 56) (a 63) (a 64) (a 68)))), ((a 53), .inr (4, (fX4 (a 54) (a 55) (nI cc) (nI rz) ro sd))), (aI k (a 54) 4 wk), (aI k (a 55) 4 (nF br)), ((a 56), .inl (k 6, 2, .inr (.inr (.inr (.inr (a2 (a 57) (a 60))))))), ((a 57), .inr (4, (fX4 (a 58) (a 59) (nI cci0) (nI rzi0) roi0 sdi0))), (aI k (a 58) 4 wki0), (aI k (a 59) 4 (nF bri0)), ((a 60), .inr (4, (fX4 (a 61) (a 62) (nI cci1) (nI rzi1) roi1 sdi1))), (aI k (a 61) 4 wki1), (aI k (a 62) 4 (nF bri1)), (aZ k (a 63) 2 fk)] (fun (r : Int32) (u : Nat × Nat × Int32 × Int32 × (Nat → Int32) × (Nat → Nat) × Nat × Nat × Int32 × Int32 × (Nat → Int32) × (Nat → Nat) × (Nat → Int32)) => match u with | (cci0_, rzi0_, roi0_, sdi0_, wki0_, bri0_, cci1_, rzi1_, roi1_, sdi1_, wki1_, bri1_, fk_) => cci0_ ≤ 4 ∧ rzi0_ ≤ 24 ∧ (∀ j, bri0_ j ≤ 24) ∧ cci1_ ≤ 4 ∧ rzi1_ ≤ 24 ∧ (∀ j, bri1_ j ≤ 24) ∧ kpN pz 0 (fk 0) (fk_ 0) rzi0 cci0 rzi0_ cci0_ rz cc ∧ kpN pz 1 (fk 1) (fk_ 1) rzi1 cci1 rzi1_ cci1_ rz cc ∧ (inB pz 0 1 → r = 1) ∧ (¬ inB pz 0 1 → r = -1001)) (fun (u : Nat × Nat × Int32 × Int32 × (Nat → Int32) × (Nat → Nat) × Nat × Nat × Int32 × Int32 × (Nat → Int32) × (Nat → Nat) × (Nat → Int32)) => match u with | (cci0_, rzi0_, roi0_, sdi0_, wki0_, bri0_, cci1_, rzi1_, roi1_, sdi1_, wki1_, bri1_, fk_) => [((a 0), .inr (7, (fX7 (a 1) (a 3) (a 19) (a 35) (a 40) (nI rk) lfa (a 53) (a 56) (a 63) (a 64) (a 68)))), ((a 53), .inr (4, (fX4 (a 54) (a 55) (nI cc) (nI rz) ro sd))), (aI k (a 54) 4 wk), (aI k (a 55) 4 (nF br)), ((a 56), .inl (k 6, 2, .inr (.inr (.inr (.inr (a2 (a 57) (a 60))))))), ((a 57), .inr (4, (fX4 (a 58) (a 59) (nI cci0_) (nI rzi0_) roi0_ sdi0_))), (aI k (a 58) 4 wki0_), (aI k (a 59) 4 (nF bri0_)), ((a 60), .inr (4, (fX4 (a 61) (a 62) (nI cci1_) (nI rzi1_) roi1_ sdi1_))), (aI k (a 61) 4 wki1_), (aI k (a 62) 4 (nF bri1_)), (aZ k (a 63) 2 fk_)]) := by
  intro sz
  refine Met.ofW (cc := cX7_keep) (maxL := 2) (ret := (some .int)) (by decide) rfl ?_
  intro p e s m args below meth c s₁ B hml hv
  obtain ⟨rfl, hsz, hlo, hP, hK, hDL, hZ⟩ := hv
  have hx := B.exec
  have hb := B.bytes
  have hr := B.returns
  have hts := WS_ts B.pre
  have hown : s.vm.findClass RX7 = some m.cls := findClass_of_methodNamed B.named
  have hlocks := B.notSynchronized
  subst hsz
  have hD := hDL.self (sz := s.heap.size)
  have hAlo := A_lo hDL hlo
  generalize hAe : va_A [((a 0), .inr (7, (fX7 (a 1) (a 3) (a 19) (a 35) (a 40) (nI rk) lfa (a 53) (a 56) (a 63) (a 64) (a 68)))), ((a 53), .inr (4, (fX4 (a 54) (a 55) (nI cc) (nI rz) ro sd))), (aI k (a 54) 4 wk), (aI k (a 55) 4 (nF br)), ((a 56), .inl (k 6, 2, .inr (.inr (.inr (.inr (a2 (a 57) (a 60))))))), ((a 57), .inr (4, (fX4 (a 58) (a 59) (nI cci0) (nI rzi0) roi0 sdi0))), (aI k (a 58) 4 wki0), (aI k (a 59) 4 (nF bri0)), ((a 60), .inr (4, (fX4 (a 61) (a 62) (nI cci1) (nI rzi1) roi1 sdi1))), (aI k (a 61) 4 wki1), (aI k (a 62) 4 (nF bri1)), (aZ k (a 63) 2 fk)] s.heap.size = A at hD hAlo ⊢
  have hA : ∀ q : Nat, s.heap.size ≤ q → A q := fun q h => by rw [← hAe]; exact Or.inr h
  have hS : va_S A s.heap s.heap [] := va_S.rf
  have hl := lv_entry ([.ref (a 0), .int pz]) (n := 2) (Nat.le_of_ble_eq_true rfl)
  rw [lg_entry_eq]
  generalize (lg_sl ([.ref (a 0), .int pz]) ++ List.replicate (2 - (lg_sl ([.ref (a 0), .int pz])).length) Slot.unset).toArray = ls at hl ⊢
  have hl : lv_has ls 2 [(0, .ref (a 0)), (1, .int pz)] := hl
  refine lv_iload_n hx hb dX7_keep_0 rfl (lv_at hl 1 rfl) ?_
  refine lv_iconst (v := 0) hx hb dX7_keep_1 (by decide) ?_
  refine lv_iconst (v := 1) hx hb dX7_keep_2 (by decide) ?_
  refine ro_i (D := D) (va_runS (As := [.int pz, .int 0, .int 1]) (rest := []) ⟨hx, hb, hml, hown, hts⟩ ((k_isIn l D k st lo pz 0 1) s.heap.size) (va_cwS 3 hts (gS tw_593 tw_594 tw_79 tw_595) rfl rfl rfl (by decide +kernel) ⟨Nat.le_of_ble_eq_true rfl, Nat.le_of_ble_eq_true rfl⟩) (pS hS hAlo hlo hP hK (va_Dlo hD hAlo) hZ [] (by decide) rfl) rfl rfl hl.1 rfl (lv_room (Nat.le_of_ble_eq_true rfl)) dX7_keep_3 ⟨Nat.le_of_ble_eq_true rfl, Nat.le_of_ble_eq_true rfl⟩) hS hA hP (fun r_1 H locs hw_1 hP hS => ?_)
  try dsimp only at hw_1
  rcases hw_1 with ⟨rfl, hw_1⟩ | ⟨rfl, hw_1⟩
  · refine lv_if_ne (tgt := 13) hx hb dX7_keep_6 (by decide) (fun _ => ?_) (fun h => absurd h (by decide))
    rcases spl2 hw_1 with rfl | rfl
    · refine lv_aload_n hx hb dX7_keep_13 rfl (lv_at hl 0 rfl) ?_
      refine va_get (D := D) (ci := 7) (v := .ref (a 56)) (C := RX7) (T := TX7) (N := 12) hx hb hts inX7 hown hK hP 0 rfl rfl 8 (by decide) (hts _ tw_313) (fun _ h9 => h9) rfl dX7_keep_14 ?_
      refine lv_iload_n hx hb dX7_keep_17 rfl (lv_at hl 1 rfl) ?_
      refine va_aldq hx hb hK hP 4 6 rfl rfl (by unfold vp_in; decide) dX7_keep_18 ?_
      refine lv_tr (y := .ref (a 57)) rfl ?_
      refine lv_aload_n hx hb dX7_keep_19 rfl (lv_at hl 0 rfl) ?_
      refine va_get (D := D) (ci := 7) (v := .ref (a 53)) (C := RX7) (T := TX7) (N := 12) hx hb hts inX7 hown hK hP 0 rfl rfl 7 (by decide) (hts _ tw_312) (fun _ h9 => h9) rfl dX7_keep_20 ?_
      refine rw_v (D := D) (wr := [((a 0), .inr (7, (fX7 (a 1) (a 3) (a 19) (a 35) (a 40) (nI rk) lfa (a 53) (a 56) (a 63) (a 64) (a 68)))), ((a 56), .inl (k 6, 2, .inr (.inr (.inr (.inr (a2 (a 57) (a 60))))))), ((a 60), .inr (4, (fX4 (a 61) (a 62) (nI cci1) (nI rzi1) roi1 sdi1))), (aI k (a 61) 4 wki1), (aI k (a 62) 4 (nF bri1)), (aZ k (a 63) 2 fk)]) (va_runV (As := [.ref (a 53)]) (rest := []) ⟨hx, hb, hml, hown, hts⟩ ((x_copyFrom2 l D k st lo (a 57) (a 58) (a 59) cci0 rzi0 roi0 sdi0 wki0 bri0 (a 53) (a 54) (a 55) cc rz ro sd wk br (by omega) (by omega) hbi0 hbr) H.size) (cwV 1 hts (gV tw_955 tw_956 tw_957 tw_82 tw_958) rfl rfl rfl (by decide +kernel) ⟨Nat.le_of_ble_eq_true rfl, Nat.le_of_ble_eq_true rfl⟩) (pV hS hAlo hlo hP hK (va_Dlo hD hAlo) hZ [5, 6, 7, 1, 2, 3] (by decide) rfl (ci := 4) (q := (RX4, TX4, 6)) (q0 := 0) rfl rfl) rfl rfl hl.1 rfl (lv_room (Nat.le_of_ble_eq_true rfl)) dX7_keep_23 ⟨Nat.le_of_ble_eq_true rfl, Nat.le_of_ble_eq_true rfl⟩) hS hA hP hD [5, 6, 7, 1, 2, 3] [0, 4, 8, 9, 10, 11] rfl rfl (by decide +kernel) (by decide +kernel) (fun u H locs hw_2 hP hD hS => ?_)
      obtain ⟨cc__2, rz__2, ro__2, sd__2, wk__2, br__2⟩ := u
      replace hP : va_P D classes [((a 0), .inr (7, (fX7 (a 1) (a 3) (a 19) (a 35) (a 40) (nI rk) lfa (a 53) (a 56) (a 63) (a 64) (a 68)))), ((a 56), .inl (k 6, 2, .inr (.inr (.inr (.inr (a2 (a 57) (a 60))))))), ((a 60), .inr (4, (fX4 (a 61) (a 62) (nI cci1) (nI rzi1) roi1 sdi1))), (aI k (a 61) 4 wki1), (aI k (a 62) 4 (nF bri1)), (aZ k (a 63) 2 fk), ((a 57), .inr (4, (fX4 (a 58) (a 59) (nI cc__2) (nI rz__2) ro__2 sd__2))), (aI k (a 58) 4 wk__2), (aI k (a 59) 4 (nF br__2)), ((a 53), .inr (4, (fX4 (a 54) (a 55) (nI cc) (nI rz) ro sd))), (aI k (a 54) 4 wk), (aI k (a 55) 4 (nF br))] H := hP
      replace hD : va_D A [((a 0), .inr (7, (fX7 (a 1) (a 3) (a 19) (a 35) (a 40) (nI rk) lfa (a 53) (a 56) (a 63) (a 64) (a 68)))), ((a 56), .inl (k 6, 2, .inr (.inr (.inr (.inr (a2 (a 57) (a 60))))))), ((a 60), .inr (4, (fX4 (a 61) (a 62) (nI cci1) (nI rzi1) roi1 sdi1))), (aI k (a 61) 4 wki1), (aI k (a 62) 4 (nF bri1)), (aZ k (a 63) 2 fk), ((a 57), .inr (4, (fX4 (a 58) (a 59) (nI cc__2) (nI rz__2) ro__2 sd__2))), (aI k (a 58) 4 wk__2), (aI k (a 59) 4 (nF br__2)), ((a 53), .inr (4, (fX4 (a 54) (a 55) (nI cc) (nI rz) ro sd))), (aI k (a 54) 4 wk), (aI k (a 55) 4 (nF br))] := hD
      try dsimp only at hw_2
      obtain ⟨rfl, rfl, hw_2⟩ := hw_2
      refine lv_aload_n hx hb dX7_keep_26 rfl (lv_at hl 0 rfl) ?_
      refine va_get (D := D) (ci := 7) (v := .ref (a 63)) (C := RX7) (T := TX7) (N := 12) hx hb hts inX7 hown hK hP 0 rfl rfl 9 (by decide) (hts _ tw_314) (fun _ h9 => h9) rfl dX7_keep_27 ?_
      refine lv_iload_n hx hb dX7_keep_30 rfl (lv_at hl 1 rfl) ?_
      refine lv_iconst (v := 1) hx hb dX7_keep_31 (by decide) ?_
      refine va_zast hx hb hK hP hD hS 5 2 rfl rfl (by unfold vp_in; decide) dX7_keep_32 (fun H locs hP hD hS => ?_)
      replace hP : va_P D classes [((a 0), .inr (7, (fX7 (a 1) (a 3) (a 19) (a 35) (a 40) (nI rk) lfa (a 53) (a 56) (a 63) (a 64) (a 68)))), ((a 56), .inl (k 6, 2, .inr (.inr (.inr (.inr (a2 (a 57) (a 60))))))), ((a 60), .inr (4, (fX4 (a 61) (a 62) (nI cci1) (nI rzi1) roi1 sdi1))), (aI k (a 61) 4 wki1), (aI k (a 62) 4 (nF bri1)), (aZ k (a 63) 2 (upd fk (Int32.toNatClampNeg 0) (vp_nar .boolean 1))), ((a 57), .inr (4, (fX4 (a 58) (a 59) (nI cc) (nI rz) ro__2 sd__2))), (aI k (a 58) 4 wk__2), (aI k (a 59) 4 (nF br__2)), ((a 53), .inr (4, (fX4 (a 54) (a 55) (nI cc) (nI rz) ro sd))), (aI k (a 54) 4 wk), (aI k (a 55) 4 (nF br))] H := hP
      replace hD : va_D A [((a 0), .inr (7, (fX7 (a 1) (a 3) (a 19) (a 35) (a 40) (nI rk) lfa (a 53) (a 56) (a 63) (a 64) (a 68)))), ((a 56), .inl (k 6, 2, .inr (.inr (.inr (.inr (a2 (a 57) (a 60))))))), ((a 60), .inr (4, (fX4 (a 61) (a 62) (nI cci1) (nI rzi1) roi1 sdi1))), (aI k (a 61) 4 wki1), (aI k (a 62) 4 (nF bri1)), (aZ k (a 63) 2 (upd fk (Int32.toNatClampNeg 0) (vp_nar .boolean 1))), ((a 57), .inr (4, (fX4 (a 58) (a 59) (nI cc) (nI rz) ro__2 sd__2))), (aI k (a 58) 4 wk__2), (aI k (a 59) 4 (nF br__2)), ((a 53), .inr (4, (fX4 (a 54) (a 55) (nI cc) (nI rz) ro sd))), (aI k (a 54) 4 wk), (aI k (a 55) 4 (nF br))] := hD
      replace hP : va_P D classes [((a 0), .inr (7, (fX7 (a 1) (a 3) (a 19) (a 35) (a 40) (nI rk) lfa (a 53) (a 56) (a 63) (a 64) (a 68)))), ((a 56), .inl (k 6, 2, .inr (.inr (.inr (.inr (a2 (a 57) (a 60))))))), ((a 60), .inr (4, (fX4 (a 61) (a 62) (nI cci1) (nI rzi1) roi1 sdi1))), (aI k (a 61) 4 wki1), (aI k (a 62) 4 (nF bri1)), (aZ k (a 63) 2 (upd fk 0 1)), ((a 57), .inr (4, (fX4 (a 58) (a 59) (nI cc) (nI rz) ro__2 sd__2))), (aI k (a 58) 4 wk__2), (aI k (a 59) 4 (nF br__2)), ((a 53), .inr (4, (fX4 (a 54) (a 55) (nI cc) (nI rz) ro sd))), (aI k (a 54) 4 wk), (aI k (a 55) 4 (nF br))] H := hP
      replace hD : va_D A [((a 0), .inr (7, (fX7 (a 1) (a 3) (a 19) (a 35) (a 40) (nI rk) lfa (a 53) (a 56) (a 63) (a 64) (a 68)))), ((a 56), .inl (k 6, 2, .inr (.inr (.inr (.inr (a2 (a 57) (a 60))))))), ((a 60), .inr (4, (fX4 (a 61) (a 62) (nI cci1) (nI rzi1) roi1 sdi1))), (aI k (a 61) 4 wki1), (aI k (a 62) 4 (nF bri1)), (aZ k (a 63) 2 (upd fk 0 1)), ((a 57), .inr (4, (fX4 (a 58) (a 59) (nI cc) (nI rz) ro__2 sd__2))), (aI k (a 58) 4 wk__2), (aI k (a 59) 4 (nF br__2)), ((a 53), .inr (4, (fX4 (a 54) (a 55) (nI cc) (nI rz) ro sd))), (aI k (a 54) 4 wk), (aI k (a 55) 4 (nF br))] := hD
      refine lv_iconst (v := 1) hx hb dX7_keep_33 (by decide) ?_
      have hP9 := hP.sub (ws' := [((a 0), .inr (7, (fX7 (a 1) (a 3) (a 19) (a 35) (a 40) (nI rk) lfa (a 53) (a 56) (a 63) (a 64) (a 68)))), ((a 53), .inr (4, (fX4 (a 54) (a 55) (nI cc) (nI rz) ro sd))), (aI k (a 54) 4 wk), (aI k (a 55) 4 (nF br)), ((a 56), .inl (k 6, 2, .inr (.inr (.inr (.inr (a2 (a 57) (a 60))))))), ((a 57), .inr (4, (fX4 (a 58) (a 59) (nI cc) (nI rz) ro__2 sd__2))), (aI k (a 58) 4 wk__2), (aI k (a 59) 4 (nF br__2)), ((a 60), .inr (4, (fX4 (a 61) (a 62) (nI cci1) (nI rzi1) roi1 sdi1))), (aI k (a 61) 4 wki1), (aI k (a 62) 4 (nF bri1)), (aZ k (a 63) 2 (upd fk 0 1))]) [0, 9, 10, 11, 1, 6, 7, 8, 2, 3, 4, 5] rfl
      have hD9 := hD.sub (ws' := [((a 0), .inr (7, (fX7 (a 1) (a 3) (a 19) (a 35) (a 40) (nI rk) lfa (a 53) (a 56) (a 63) (a 64) (a 68)))), ((a 53), .inr (4, (fX4 (a 54) (a 55) (nI cc) (nI rz) ro sd))), (aI k (a 54) 4 wk), (aI k (a 55) 4 (nF br)), ((a 56), .inl (k 6, 2, .inr (.inr (.inr (.inr (a2 (a 57) (a 60))))))), ((a 57), .inr (4, (fX4 (a 58) (a 59) (nI cc) (nI rz) ro__2 sd__2))), (aI k (a 58) 4 wk__2), (aI k (a 59) 4 (nF br__2)), ((a 60), .inr (4, (fX4 (a 61) (a 62) (nI cci1) (nI rzi1) roi1 sdi1))), (aI k (a 61) 4 wki1), (aI k (a 62) 4 (nF bri1)), (aZ k (a 63) 2 (upd fk 0 1))]) [0, 9, 10, 11, 1, 6, 7, 8, 2, 3, 4, 5] (by decide +kernel) rfl
      exact W.iret (v := 1) hx hb hr (fun t ht hW => ⟨⟨1, (cc, rz, ro__2, sd__2, wk__2, br__2, cci1, rzi1, roi1, sdi1, wki1, bri1, (upd fk 0 1)), rfl, ⟨by omega, by omega, hw_2, by omega, by omega, hbi1, ⟨fun _ => ⟨by rfl, rfl, rfl⟩, fun h => absurd rfl h⟩, ⟨fun h => absurd h (by decide), fun _ => ⟨by rfl, rfl, rfl⟩⟩, fun _ => rfl, fun h => absurd hw_1 h⟩, by rw [ht]; exact hP9, hD9⟩, hS.F ht⟩) hS.2.2 dX7_keep_34
    · refine lv_aload_n hx hb dX7_keep_13 rfl (lv_at hl 0 rfl) ?_
      refine va_get (D := D) (ci := 7) (v := .ref (a 56)) (C := RX7) (T := TX7) (N := 12) hx hb hts inX7 hown hK hP 0 rfl rfl 8 (by decide) (hts _ tw_313) (fun _ h9 => h9) rfl dX7_keep_14 ?_
      refine lv_iload_n hx hb dX7_keep_17 rfl (lv_at hl 1 rfl) ?_
      refine va_aldq hx hb hK hP 4 6 rfl rfl (by unfold vp_in; decide) dX7_keep_18 ?_
      refine lv_tr (y := .ref (a 60)) rfl ?_
      refine lv_aload_n hx hb dX7_keep_19 rfl (lv_at hl 0 rfl) ?_
      refine va_get (D := D) (ci := 7) (v := .ref (a 53)) (C := RX7) (T := TX7) (N := 12) hx hb hts inX7 hown hK hP 0 rfl rfl 7 (by decide) (hts _ tw_312) (fun _ h9 => h9) rfl dX7_keep_20 ?_
      refine rw_v (D := D) (wr := [((a 0), .inr (7, (fX7 (a 1) (a 3) (a 19) (a 35) (a 40) (nI rk) lfa (a 53) (a 56) (a 63) (a 64) (a 68)))), ((a 56), .inl (k 6, 2, .inr (.inr (.inr (.inr (a2 (a 57) (a 60))))))), ((a 57), .inr (4, (fX4 (a 58) (a 59) (nI cci0) (nI rzi0) roi0 sdi0))), (aI k (a 58) 4 wki0), (aI k (a 59) 4 (nF bri0)), (aZ k (a 63) 2 fk)]) (va_runV (As := [.ref (a 53)]) (rest := []) ⟨hx, hb, hml, hown, hts⟩ ((x_copyFrom2 l D k st lo (a 60) (a 61) (a 62) cci1 rzi1 roi1 sdi1 wki1 bri1 (a 53) (a 54) (a 55) cc rz ro sd wk br (by omega) (by omega) hbi1 hbr) H.size) (cwV 1 hts (gV tw_955 tw_956 tw_957 tw_82 tw_958) rfl rfl rfl (by decide +kernel) ⟨Nat.le_of_ble_eq_true rfl, Nat.le_of_ble_eq_true rfl⟩) (pV hS hAlo hlo hP hK (va_Dlo hD hAlo) hZ [8, 9, 10, 1, 2, 3] (by decide) rfl (ci := 4) (q := (RX4, TX4, 6)) (q0 := 0) rfl rfl) rfl rfl hl.1 rfl (lv_room (Nat.le_of_ble_eq_true rfl)) dX7_keep_23 ⟨Nat.le_of_ble_eq_true rfl, Nat.le_of_ble_eq_true rfl⟩) hS hA hP hD [8, 9, 10, 1, 2, 3] [0, 4, 5, 6, 7, 11] rfl rfl (by decide +kernel) (by decide +kernel) (fun u H locs hw_4 hP hD hS => ?_)
      obtain ⟨cc__4, rz__4, ro__4, sd__4, wk__4, br__4⟩ := u
      replace hP : va_P D classes [((a 0), .inr (7, (fX7 (a 1) (a 3) (a 19) (a 35) (a 40) (nI rk) lfa (a 53) (a 56) (a 63) (a 64) (a 68)))), ((a 56), .inl (k 6, 2, .inr (.inr (.inr (.inr (a2 (a 57) (a 60))))))), ((a 57), .inr (4, (fX4 (a 58) (a 59) (nI cci0) (nI rzi0) roi0 sdi0))), (aI k (a 58) 4 wki0), (aI k (a 59) 4 (nF bri0)), (aZ k (a 63) 2 fk), ((a 60), .inr (4, (fX4 (a 61) (a 62) (nI cc__4) (nI rz__4) ro__4 sd__4))), (aI k (a 61) 4 wk__4), (aI k (a 62) 4 (nF br__4)), ((a 53), .inr (4, (fX4 (a 54) (a 55) (nI cc) (nI rz) ro sd))), (aI k (a 54) 4 wk), (aI k (a 55) 4 (nF br))] H := hP
      replace hD : va_D A [((a 0), .inr (7, (fX7 (a 1) (a 3) (a 19) (a 35) (a 40) (nI rk) lfa (a 53) (a 56) (a 63) (a 64) (a 68)))), ((a 56), .inl (k 6, 2, .inr (.inr (.inr (.inr (a2 (a 57) (a 60))))))), ((a 57), .inr (4, (fX4 (a 58) (a 59) (nI cci0) (nI rzi0) roi0 sdi0))), (aI k (a 58) 4 wki0), (aI k (a 59) 4 (nF bri0)), (aZ k (a 63) 2 fk), ((a 60), .inr (4, (fX4 (a 61) (a 62) (nI cc__4) (nI rz__4) ro__4 sd__4))), (aI k (a 61) 4 wk__4), (aI k (a 62) 4 (nF br__4)), ((a 53), .inr (4, (fX4 (a 54) (a 55) (nI cc) (nI rz) ro sd))), (aI k (a 54) 4 wk), (aI k (a 55) 4 (nF br))] := hD
      try dsimp only at hw_4
      obtain ⟨rfl, rfl, hw_4⟩ := hw_4
      refine lv_aload_n hx hb dX7_keep_26 rfl (lv_at hl 0 rfl) ?_
      refine va_get (D := D) (ci := 7) (v := .ref (a 63)) (C := RX7) (T := TX7) (N := 12) hx hb hts inX7 hown hK hP 0 rfl rfl 9 (by decide) (hts _ tw_314) (fun _ h9 => h9) rfl dX7_keep_27 ?_
      refine lv_iload_n hx hb dX7_keep_30 rfl (lv_at hl 1 rfl) ?_
      refine lv_iconst (v := 1) hx hb dX7_keep_31 (by decide) ?_
      refine va_zast hx hb hK hP hD hS 5 2 rfl rfl (by unfold vp_in; decide) dX7_keep_32 (fun H locs hP hD hS => ?_)
      replace hP : va_P D classes [((a 0), .inr (7, (fX7 (a 1) (a 3) (a 19) (a 35) (a 40) (nI rk) lfa (a 53) (a 56) (a 63) (a 64) (a 68)))), ((a 56), .inl (k 6, 2, .inr (.inr (.inr (.inr (a2 (a 57) (a 60))))))), ((a 57), .inr (4, (fX4 (a 58) (a 59) (nI cci0) (nI rzi0) roi0 sdi0))), (aI k (a 58) 4 wki0), (aI k (a 59) 4 (nF bri0)), (aZ k (a 63) 2 (upd fk (Int32.toNatClampNeg 1) (vp_nar .boolean 1))), ((a 60), .inr (4, (fX4 (a 61) (a 62) (nI cc) (nI rz) ro__4 sd__4))), (aI k (a 61) 4 wk__4), (aI k (a 62) 4 (nF br__4)), ((a 53), .inr (4, (fX4 (a 54) (a 55) (nI cc) (nI rz) ro sd))), (aI k (a 54) 4 wk), (aI k (a 55) 4 (nF br))] H := hP
      replace hD : va_D A [((a 0), .inr (7, (fX7 (a 1) (a 3) (a 19) (a 35) (a 40) (nI rk) lfa (a 53) (a 56) (a 63) (a 64) (a 68)))), ((a 56), .inl (k 6, 2, .inr (.inr (.inr (.inr (a2 (a 57) (a 60))))))), ((a 57), .inr (4, (fX4 (a 58) (a 59) (nI cci0) (nI rzi0) roi0 sdi0))), (aI k (a 58) 4 wki0), (aI k (a 59) 4 (nF bri0)), (aZ k (a 63) 2 (upd fk (Int32.toNatClampNeg 1) (vp_nar .boolean 1))), ((a 60), .inr (4, (fX4 (a 61) (a 62) (nI cc) (nI rz) ro__4 sd__4))), (aI k (a 61) 4 wk__4), (aI k (a 62) 4 (nF br__4)), ((a 53), .inr (4, (fX4 (a 54) (a 55) (nI cc) (nI rz) ro sd))), (aI k (a 54) 4 wk), (aI k (a 55) 4 (nF br))] := hD
      replace hP : va_P D classes [((a 0), .inr (7, (fX7 (a 1) (a 3) (a 19) (a 35) (a 40) (nI rk) lfa (a 53) (a 56) (a 63) (a 64) (a 68)))), ((a 56), .inl (k 6, 2, .inr (.inr (.inr (.inr (a2 (a 57) (a 60))))))), ((a 57), .inr (4, (fX4 (a 58) (a 59) (nI cci0) (nI rzi0) roi0 sdi0))), (aI k (a 58) 4 wki0), (aI k (a 59) 4 (nF bri0)), (aZ k (a 63) 2 (upd fk 1 1)), ((a 60), .inr (4, (fX4 (a 61) (a 62) (nI cc) (nI rz) ro__4 sd__4))), (aI k (a 61) 4 wk__4), (aI k (a 62) 4 (nF br__4)), ((a 53), .inr (4, (fX4 (a 54) (a 55) (nI cc) (nI rz) ro sd))), (aI k (a 54) 4 wk), (aI k (a 55) 4 (nF br))] H := hP
      replace hD : va_D A [((a 0), .inr (7, (fX7 (a 1) (a 3) (a 19) (a 35) (a 40) (nI rk) lfa (a 53) (a 56) (a 63) (a 64) (a 68)))), ((a 56), .inl (k 6, 2, .inr (.inr (.inr (.inr (a2 (a 57) (a 60))))))), ((a 57), .inr (4, (fX4 (a 58) (a 59) (nI cci0) (nI rzi0) roi0 sdi0))), (aI k (a 58) 4 wki0), (aI k (a 59) 4 (nF bri0)), (aZ k (a 63) 2 (upd fk 1 1)), ((a 60), .inr (4, (fX4 (a 61) (a 62) (nI cc) (nI rz) ro__4 sd__4))), (aI k (a 61) 4 wk__4), (aI k (a 62) 4 (nF br__4)), ((a 53), .inr (4, (fX4 (a 54) (a 55) (nI cc) (nI rz) ro sd))), (aI k (a 54) 4 wk), (aI k (a 55) 4 (nF br))] := hD
      refine lv_iconst (v := 1) hx hb dX7_keep_33 (by decide) ?_
      have hP9 := hP.sub (ws' := [((a 0), .inr (7, (fX7 (a 1) (a 3) (a 19) (a 35) (a 40) (nI rk) lfa (a 53) (a 56) (a 63) (a 64) (a 68)))), ((a 53), .inr (4, (fX4 (a 54) (a 55) (nI cc) (nI rz) ro sd))), (aI k (a 54) 4 wk), (aI k (a 55) 4 (nF br)), ((a 56), .inl (k 6, 2, .inr (.inr (.inr (.inr (a2 (a 57) (a 60))))))), ((a 57), .inr (4, (fX4 (a 58) (a 59) (nI cci0) (nI rzi0) roi0 sdi0))), (aI k (a 58) 4 wki0), (aI k (a 59) 4 (nF bri0)), ((a 60), .inr (4, (fX4 (a 61) (a 62) (nI cc) (nI rz) ro__4 sd__4))), (aI k (a 61) 4 wk__4), (aI k (a 62) 4 (nF br__4)), (aZ k (a 63) 2 (upd fk 1 1))]) [0, 9, 10, 11, 1, 2, 3, 4, 6, 7, 8, 5] rfl
      have hD9 := hD.sub (ws' := [((a 0), .inr (7, (fX7 (a 1) (a 3) (a 19) (a 35) (a 40) (nI rk) lfa (a 53) (a 56) (a 63) (a 64) (a 68)))), ((a 53), .inr (4, (fX4 (a 54) (a 55) (nI cc) (nI rz) ro sd))), (aI k (a 54) 4 wk), (aI k (a 55) 4 (nF br)), ((a 56), .inl (k 6, 2, .inr (.inr (.inr (.inr (a2 (a 57) (a 60))))))), ((a 57), .inr (4, (fX4 (a 58) (a 59) (nI cci0) (nI rzi0) roi0 sdi0))), (aI k (a 58) 4 wki0), (aI k (a 59) 4 (nF bri0)), ((a 60), .inr (4, (fX4 (a 61) (a 62) (nI cc) (nI rz) ro__4 sd__4))), (aI k (a 61) 4 wk__4), (aI k (a 62) 4 (nF br__4)), (aZ k (a 63) 2 (upd fk 1 1))]) [0, 9, 10, 11, 1, 2, 3, 4, 6, 7, 8, 5] (by decide +kernel) rfl
      exact W.iret (v := 1) hx hb hr (fun t ht hW => ⟨⟨1, (cci0, rzi0, roi0, sdi0, wki0, bri0, cc, rz, ro__4, sd__4, wk__4, br__4, (upd fk 1 1)), rfl, ⟨by omega, by omega, hbi0, by omega, by omega, hw_4, ⟨fun h => absurd h (by decide), fun _ => ⟨by rfl, rfl, rfl⟩⟩, ⟨fun _ => ⟨by rfl, rfl, rfl⟩, fun h => absurd rfl h⟩, fun _ => rfl, fun h => absurd hw_1 h⟩, by rw [ht]; exact hP9, hD9⟩, hS.F ht⟩) hS.2.2 dX7_keep_34
  · refine lv_if_ne (tgt := 13) hx hb dX7_keep_6 (by decide) (fun h => absurd (by decide) h) (fun _ => ?_)
    refine lv_sipush (v := (-1001)) hx hb dX7_keep_9 (by decide) ?_
    have hP9 := hP.sub (ws' := [((a 0), .inr (7, (fX7 (a 1) (a 3) (a 19) (a 35) (a 40) (nI rk) lfa (a 53) (a 56) (a 63) (a 64) (a 68)))), ((a 53), .inr (4, (fX4 (a 54) (a 55) (nI cc) (nI rz) ro sd))), (aI k (a 54) 4 wk), (aI k (a 55) 4 (nF br)), ((a 56), .inl (k 6, 2, .inr (.inr (.inr (.inr (a2 (a 57) (a 60))))))), ((a 57), .inr (4, (fX4 (a 58) (a 59) (nI cci0) (nI rzi0) roi0 sdi0))), (aI k (a 58) 4 wki0), (aI k (a 59) 4 (nF bri0)), ((a 60), .inr (4, (fX4 (a 61) (a 62) (nI cci1) (nI rzi1) roi1 sdi1))), (aI k (a 61) 4 wki1), (aI k (a 62) 4 (nF bri1)), (aZ k (a 63) 2 fk)]) [0, 1, 2, 3, 4, 5, 6, 7, 8, 9, 10, 11] rfl
    have hD9 := hD.sub (ws' := [((a 0), .inr (7, (fX7 (a 1) (a 3) (a 19) (a 35) (a 40) (nI rk) lfa (a 53) (a 56) (a 63) (a 64) (a 68)))), ((a 53), .inr (4, (fX4 (a 54) (a 55) (nI cc) (nI rz) ro sd))), (aI k (a 54) 4 wk), (aI k (a 55) 4 (nF br)), ((a 56), .inl (k 6, 2, .inr (.inr (.inr (.inr (a2 (a 57) (a 60))))))), ((a 57), .inr (4, (fX4 (a 58) (a 59) (nI cci0) (nI rzi0) roi0 sdi0))), (aI k (a 58) 4 wki0), (aI k (a 59) 4 (nF bri0)), ((a 60), .inr (4, (fX4 (a 61) (a 62) (nI cci1) (nI rzi1) roi1 sdi1))), (aI k (a 61) 4 wki1), (aI k (a 62) 4 (nF bri1)), (aZ k (a 63) 2 fk)]) [0, 1, 2, 3, 4, 5, 6, 7, 8, 9, 10, 11] (by decide +kernel) rfl
    exact W.iret (v := (-1001)) hx hb hr (fun t ht hW => ⟨⟨(-1001), (cci0, rzi0, roi0, sdi0, wki0, bri0, cci1, rzi1, roi1, sdi1, wki1, bri1, fk), rfl, ⟨by omega, by omega, hbi0, by omega, by omega, hbi1, ⟨fun h => absurd h (no_in hw_1).1, fun _ => ⟨rfl, rfl, rfl⟩⟩, ⟨fun h => absurd h (no_in hw_1).2, fun _ => ⟨rfl, rfl, rfl⟩⟩, fun h => absurd h hw_1, fun _ => rfl⟩, by rw [ht]; exact hP9, hD9⟩, hS.F ht⟩) hS.2.2 dX7_keep_12


set_option maxHeartbeats 4000000 in
set_option maxRecDepth 100000 in
theorem x_goBack2 (l : Launch) (D : va_G) (k : Nat → ClassId) (st : Nat → Nat) (lo : Nat) (a : Nat → Nat) (rk : Nat) (lfa : Int32) (cc : Nat) (rz : Nat) (ro : Int32) (sd : Int32) (wk : Nat → Int32) (br : Nat → Nat) (cci0 : Nat) (rzi0 : Nat) (roi0 : Int32) (sdi0 : Int32) (wki0 : Nat → Int32) (bri0 : Nat → Nat) (cci1 : Nat) (rzi1 : Nat) (roi1 : Int32) (sdi1 : Int32) (wki1 : Nat → Int32) (bri1 : Nat → Nat) (fk : Nat → Int32) (pz : Int32) (hcc : cc ≤ 4) (hrz : rz ≤ 24) (hbr : ∀ j, br j ≤ 24) (hcci0 : cci0 ≤ 4) (hrzi0 : rzi0 ≤ 24) (hbi0 : ∀ j, bri0 j ≤ 24) (hcci1 : cci1 ≤ 4) (hrzi1 : rzi1 ≤ 24) (hbi1 : ∀ j, bri1 j ≤ 24) : CWi l D k st lo yX7_goBack cX7_goBack 2 (some .int) ({ frames := 2, cells := 0, slots := 0, locals := 81 }) 0 0 [.ref (a 0), .int pz] [((a 0), .inr (7, (fX7 (a 1) (a 3) (a 19) (a 35) (a 40) (nI rk) lfa (a 53) (a 56) (a 63) (a 64) (a 68)))), ((a 53), .inr (4, (fX4 (a 54) (a 55) (nI cc) (nI rz) ro sd))), (aI k (a 54) 4 wk), (aI k (a 55) 4 (nF br)), ((a 56), .inl (k 6, 2, .inr (.inr (.inr (.inr (a2 (a 57) (a 60))))))), ((a 57), .inr (4, (fX4 (a 58) (a 59) (nI cci0) (nI rzi0) roi0 sdi0))), (aI k (a 58) 4 wki0), (aI k (a 59) 4 (nF bri0)), ((a 60), .inr (4, (fX4 (a 61) (a 62) (nI cci1) (nI rzi1) roi1 sdi1))), (aI k (a 61) 4 wki1), (aI k (a 62) 4 (nF bri1)), (aZ k (a 63) 2 fk)] (fun (r : Int32) (u : Nat × Nat × Int32 × Int32 × (Nat → Int32) × (Nat → Nat)) => match u with | (cc_, rz_, ro_, sd_, wk_, br_) => gbP pz (fk 0) (fk 1) rzi0 rzi1 rz r rz_ ∧ gbP pz (fk 0) (fk 1) cci0 cci1 cc r cc_ ∧ cc_ ≤ 4 ∧ rz_ ≤ 24 ∧ (∀ j, br_ j ≤ 24)) (fun (u : Nat × Nat × Int32 × Int32 × (Nat → Int32) × (Nat → Nat)) => match u with | (cc_, rz_, ro_, sd_, wk_, br_) => [((a 0), .inr (7, (fX7 (a 1) (a 3) (a 19) (a 35) (a 40) (nI rk) lfa (a 53) (a 56) (a 63) (a 64) (a 68)))), ((a 53), .inr (4, (fX4 (a 54) (a 55) (nI cc_) (nI rz_) ro_ sd_))), (aI k (a 54) 4 wk_), (aI k (a 55) 4 (nF br_)), ((a 56), .inl (k 6, 2, .inr (.inr (.inr (.inr (a2 (a 57) (a 60))))))), ((a 57), .inr (4, (fX4 (a 58) (a 59) (nI cci0) (nI rzi0) roi0 sdi0))), (aI k (a 58) 4 wki0), (aI k (a 59) 4 (nF bri0)), ((a 60), .inr (4, (fX4 (a 61) (a 62) (nI cci1) (nI rzi1) roi1 sdi1))), (aI k (a 61) 4 wki1), (aI k (a 62) 4 (nF bri1)), (aZ k (a 63) 2 fk)]) := by
  intro sz
  refine Met.ofW (cc := cX7_goBack) (maxL := 2) (ret := (some .int)) (by decide) rfl ?_
  intro p e s m args below meth c s₁ B hml hv
  obtain ⟨rfl, hsz, hlo, hP, hK, hDL, hZ⟩ := hv
  have hx := B.exec
  have hb := B.bytes
  have hr := B.returns
  have hts := WS_ts B.pre
  have hown : s.vm.findClass RX7 = some m.cls := findClass_of_methodNamed B.named
  have hlocks := B.notSynchronized
  subst hsz
  have hD := hDL.self (sz := s.heap.size)
  have hAlo := A_lo hDL hlo
  generalize hAe : va_A [((a 0), .inr (7, (fX7 (a 1) (a 3) (a 19) (a 35) (a 40) (nI rk) lfa (a 53) (a 56) (a 63) (a 64) (a 68)))), ((a 53), .inr (4, (fX4 (a 54) (a 55) (nI cc) (nI rz) ro sd))), (aI k (a 54) 4 wk), (aI k (a 55) 4 (nF br)), ((a 56), .inl (k 6, 2, .inr (.inr (.inr (.inr (a2 (a 57) (a 60))))))), ((a 57), .inr (4, (fX4 (a 58) (a 59) (nI cci0) (nI rzi0) roi0 sdi0))), (aI k (a 58) 4 wki0), (aI k (a 59) 4 (nF bri0)), ((a 60), .inr (4, (fX4 (a 61) (a 62) (nI cci1) (nI rzi1) roi1 sdi1))), (aI k (a 61) 4 wki1), (aI k (a 62) 4 (nF bri1)), (aZ k (a 63) 2 fk)] s.heap.size = A at hD hAlo ⊢
  have hA : ∀ q : Nat, s.heap.size ≤ q → A q := fun q h => by rw [← hAe]; exact Or.inr h
  have hS : va_S A s.heap s.heap [] := va_S.rf
  have hl := lv_entry ([.ref (a 0), .int pz]) (n := 2) (Nat.le_of_ble_eq_true rfl)
  rw [lg_entry_eq]
  generalize (lg_sl ([.ref (a 0), .int pz]) ++ List.replicate (2 - (lg_sl ([.ref (a 0), .int pz])).length) Slot.unset).toArray = ls at hl ⊢
  have hl : lv_has ls 2 [(0, .ref (a 0)), (1, .int pz)] := hl
  refine lv_iload_n hx hb dX7_goBack_0 rfl (lv_at hl 1 rfl) ?_
  refine lv_iconst (v := 0) hx hb dX7_goBack_1 (by decide) ?_
  refine lv_iconst (v := 1) hx hb dX7_goBack_2 (by decide) ?_
  refine ro_i (D := D) (va_runS (As := [.int pz, .int 0, .int 1]) (rest := []) ⟨hx, hb, hml, hown, hts⟩ ((k_isIn l D k st lo pz 0 1) s.heap.size) (va_cwS 3 hts (gS tw_593 tw_594 tw_79 tw_595) rfl rfl rfl (by decide +kernel) ⟨Nat.le_of_ble_eq_true rfl, Nat.le_of_ble_eq_true rfl⟩) (pS hS hAlo hlo hP hK (va_Dlo hD hAlo) hZ [] (by decide) rfl) rfl rfl hl.1 rfl (lv_room (Nat.le_of_ble_eq_true rfl)) dX7_goBack_3 ⟨Nat.le_of_ble_eq_true rfl, Nat.le_of_ble_eq_true rfl⟩) hS hA hP (fun r_1 H locs hw_1 hP hS => ?_)
  try dsimp only at hw_1
  rcases hw_1 with ⟨rfl, hw_1⟩ | ⟨rfl, hw_1⟩
  · refine lv_if_ne (tgt := 13) hx hb dX7_goBack_6 (by decide) (fun _ => ?_) (fun h => absurd h (by decide))
    rcases spl2 hw_1 with rfl | rfl
    · refine lv_aload_n hx hb dX7_goBack_13 rfl (lv_at hl 0 rfl) ?_
      refine va_get (D := D) (ci := 7) (v := .ref (a 63)) (C := RX7) (T := TX7) (N := 12) hx hb hts inX7 hown hK hP 0 rfl rfl 9 (by decide) (hts _ tw_314) (fun _ h9 => h9) rfl dX7_goBack_14 ?_
      refine lv_iload_n hx hb dX7_goBack_17 rfl (lv_at hl 1 rfl) ?_
      refine va_zald hx hb hK hP 11 2 rfl rfl (by unfold vp_in; decide) dX7_goBack_18 ?_
      refine lv_ti (y := (fk 0)) (by rfl) ?_
      refine lv_if_ne (tgt := 26) hx hb dX7_goBack_19 (by decide) (fun c_2 => ?_) (fun c_2 => ?_)
      · refine lv_aload_n hx hb dX7_goBack_26 rfl (lv_at hl 0 rfl) ?_
        refine va_get (D := D) (ci := 7) (v := .ref (a 53)) (C := RX7) (T := TX7) (N := 12) hx hb hts inX7 hown hK hP 0 rfl rfl 7 (by decide) (hts _ tw_312) (fun _ h9 => h9) rfl dX7_goBack_27 ?_
        refine lv_aload_n hx hb dX7_goBack_30 rfl (lv_at hl 0 rfl) ?_
        refine va_get (D := D) (ci := 7) (v := .ref (a 56)) (C := RX7) (T := TX7) (N := 12) hx hb hts inX7 hown hK hP 0 rfl rfl 8 (by decide) (hts _ tw_313) (fun _ h9 => h9) rfl dX7_goBack_31 ?_
        refine lv_iload_n hx hb dX7_goBack_34 rfl (lv_at hl 1 rfl) ?_
        refine va_aldq hx hb hK hP 4 6 rfl rfl (by unfold vp_in; decide) dX7_goBack_35 ?_
        refine lv_tr (y := .ref (a 57)) rfl ?_
        refine rw_v (D := D) (wr := [((a 0), .inr (7, (fX7 (a 1) (a 3) (a 19) (a 35) (a 40) (nI rk) lfa (a 53) (a 56) (a 63) (a 64) (a 68)))), ((a 56), .inl (k 6, 2, .inr (.inr (.inr (.inr (a2 (a 57) (a 60))))))), ((a 60), .inr (4, (fX4 (a 61) (a 62) (nI cci1) (nI rzi1) roi1 sdi1))), (aI k (a 61) 4 wki1), (aI k (a 62) 4 (nF bri1)), (aZ k (a 63) 2 fk)]) (va_runV (As := [.ref (a 57)]) (rest := []) ⟨hx, hb, hml, hown, hts⟩ ((x_copyFrom2 l D k st lo (a 53) (a 54) (a 55) cc rz ro sd wk br (a 57) (a 58) (a 59) cci0 rzi0 roi0 sdi0 wki0 bri0 (by omega) (by omega) hbr hbi0) H.size) (cwV 1 hts (gV tw_955 tw_956 tw_957 tw_82 tw_958) rfl rfl rfl (by decide +kernel) ⟨Nat.le_of_ble_eq_true rfl, Nat.le_of_ble_eq_true rfl⟩) (pV hS hAlo hlo hP hK (va_Dlo hD hAlo) hZ [1, 2, 3, 5, 6, 7] (by decide) rfl (ci := 4) (q := (RX4, TX4, 6)) (q0 := 0) rfl rfl) rfl rfl hl.1 rfl (lv_room (Nat.le_of_ble_eq_true rfl)) dX7_goBack_36 ⟨Nat.le_of_ble_eq_true rfl, Nat.le_of_ble_eq_true rfl⟩) hS hA hP hD [1, 2, 3, 5, 6, 7] [0, 4, 8, 9, 10, 11] rfl rfl (by decide +kernel) (by decide +kernel) (fun u H locs hw_3 hP hD hS => ?_)
        obtain ⟨cc__3, rz__3, ro__3, sd__3, wk__3, br__3⟩ := u
        replace hP : va_P D classes [((a 0), .inr (7, (fX7 (a 1) (a 3) (a 19) (a 35) (a 40) (nI rk) lfa (a 53) (a 56) (a 63) (a 64) (a 68)))), ((a 56), .inl (k 6, 2, .inr (.inr (.inr (.inr (a2 (a 57) (a 60))))))), ((a 60), .inr (4, (fX4 (a 61) (a 62) (nI cci1) (nI rzi1) roi1 sdi1))), (aI k (a 61) 4 wki1), (aI k (a 62) 4 (nF bri1)), (aZ k (a 63) 2 fk), ((a 53), .inr (4, (fX4 (a 54) (a 55) (nI cc__3) (nI rz__3) ro__3 sd__3))), (aI k (a 54) 4 wk__3), (aI k (a 55) 4 (nF br__3)), ((a 57), .inr (4, (fX4 (a 58) (a 59) (nI cci0) (nI rzi0) roi0 sdi0))), (aI k (a 58) 4 wki0), (aI k (a 59) 4 (nF bri0))] H := hP
        replace hD : va_D A [((a 0), .inr (7, (fX7 (a 1) (a 3) (a 19) (a 35) (a 40) (nI rk) lfa (a 53) (a 56) (a 63) (a 64) (a 68)))), ((a 56), .inl (k 6, 2, .inr (.inr (.inr (.inr (a2 (a 57) (a 60))))))), ((a 60), .inr (4, (fX4 (a 61) (a 62) (nI cci1) (nI rzi1) roi1 sdi1))), (aI k (a 61) 4 wki1), (aI k (a 62) 4 (nF bri1)), (aZ k (a 63) 2 fk), ((a 53), .inr (4, (fX4 (a 54) (a 55) (nI cc__3) (nI rz__3) ro__3 sd__3))), (aI k (a 54) 4 wk__3), (aI k (a 55) 4 (nF br__3)), ((a 57), .inr (4, (fX4 (a 58) (a 59) (nI cci0) (nI rzi0) roi0 sdi0))), (aI k (a 58) 4 wki0), (aI k (a 59) 4 (nF bri0))] := hD
        try dsimp only at hw_3
        obtain ⟨rfl, rfl, hw_3⟩ := hw_3
        refine lv_iconst (v := 1) hx hb dX7_goBack_39 (by decide) ?_
        have hP9 := hP.sub (ws' := [((a 0), .inr (7, (fX7 (a 1) (a 3) (a 19) (a 35) (a 40) (nI rk) lfa (a 53) (a 56) (a 63) (a 64) (a 68)))), ((a 53), .inr (4, (fX4 (a 54) (a 55) (nI cci0) (nI rzi0) ro__3 sd__3))), (aI k (a 54) 4 wk__3), (aI k (a 55) 4 (nF br__3)), ((a 56), .inl (k 6, 2, .inr (.inr (.inr (.inr (a2 (a 57) (a 60))))))), ((a 57), .inr (4, (fX4 (a 58) (a 59) (nI cci0) (nI rzi0) roi0 sdi0))), (aI k (a 58) 4 wki0), (aI k (a 59) 4 (nF bri0)), ((a 60), .inr (4, (fX4 (a 61) (a 62) (nI cci1) (nI rzi1) roi1 sdi1))), (aI k (a 61) 4 wki1), (aI k (a 62) 4 (nF bri1)), (aZ k (a 63) 2 fk)]) [0, 6, 7, 8, 1, 9, 10, 11, 2, 3, 4, 5] rfl
        have hD9 := hD.sub (ws' := [((a 0), .inr (7, (fX7 (a 1) (a 3) (a 19) (a 35) (a 40) (nI rk) lfa (a 53) (a 56) (a 63) (a 64) (a 68)))), ((a 53), .inr (4, (fX4 (a 54) (a 55) (nI cci0) (nI rzi0) ro__3 sd__3))), (aI k (a 54) 4 wk__3), (aI k (a 55) 4 (nF br__3)), ((a 56), .inl (k 6, 2, .inr (.inr (.inr (.inr (a2 (a 57) (a 60))))))), ((a 57), .inr (4, (fX4 (a 58) (a 59) (nI cci0) (nI rzi0) roi0 sdi0))), (aI k (a 58) 4 wki0), (aI k (a 59) 4 (nF bri0)), ((a 60), .inr (4, (fX4 (a 61) (a 62) (nI cci1) (nI rzi1) roi1 sdi1))), (aI k (a 61) 4 wki1), (aI k (a 62) 4 (nF bri1)), (aZ k (a 63) 2 fk)]) [0, 6, 7, 8, 1, 9, 10, 11, 2, 3, 4, 5] (by decide +kernel) rfl
        exact W.iret (v := 1) hx hb hr (fun t ht hW => ⟨⟨1, (cci0, rzi0, ro__3, sd__3, wk__3, br__3), rfl, ⟨gb_k0 c_2 rfl, gb_k0 c_2 rfl, by omega, by omega, hw_3⟩, by rw [ht]; exact hP9, hD9⟩, hS.F ht⟩) hS.2.2 dX7_goBack_40
      · refine lv_sipush (v := (-1003)) hx hb dX7_goBack_22 (by decide) ?_
        have hP9 := hP.sub (ws' := [((a 0), .inr (7, (fX7 (a 1) (a 3) (a 19) (a 35) (a 40) (nI rk) lfa (a 53) (a 56) (a 63) (a 64) (a 68)))), ((a 53), .inr (4, (fX4 (a 54) (a 55) (nI cc) (nI rz) ro sd))), (aI k (a 54) 4 wk), (aI k (a 55) 4 (nF br)), ((a 56), .inl (k 6, 2, .inr (.inr (.inr (.inr (a2 (a 57) (a 60))))))), ((a 57), .inr (4, (fX4 (a 58) (a 59) (nI cci0) (nI rzi0) roi0 sdi0))), (aI k (a 58) 4 wki0), (aI k (a 59) 4 (nF bri0)), ((a 60), .inr (4, (fX4 (a 61) (a 62) (nI cci1) (nI rzi1) roi1 sdi1))), (aI k (a 61) 4 wki1), (aI k (a 62) 4 (nF bri1)), (aZ k (a 63) 2 fk)]) [0, 1, 2, 3, 4, 5, 6, 7, 8, 9, 10, 11] rfl
        have hD9 := hD.sub (ws' := [((a 0), .inr (7, (fX7 (a 1) (a 3) (a 19) (a 35) (a 40) (nI rk) lfa (a 53) (a 56) (a 63) (a 64) (a 68)))), ((a 53), .inr (4, (fX4 (a 54) (a 55) (nI cc) (nI rz) ro sd))), (aI k (a 54) 4 wk), (aI k (a 55) 4 (nF br)), ((a 56), .inl (k 6, 2, .inr (.inr (.inr (.inr (a2 (a 57) (a 60))))))), ((a 57), .inr (4, (fX4 (a 58) (a 59) (nI cci0) (nI rzi0) roi0 sdi0))), (aI k (a 58) 4 wki0), (aI k (a 59) 4 (nF bri0)), ((a 60), .inr (4, (fX4 (a 61) (a 62) (nI cci1) (nI rzi1) roi1 sdi1))), (aI k (a 61) 4 wki1), (aI k (a 62) 4 (nF bri1)), (aZ k (a 63) 2 fk)]) [0, 1, 2, 3, 4, 5, 6, 7, 8, 9, 10, 11] (by decide +kernel) rfl
        exact W.iret (v := (-1003)) hx hb hr (fun t ht hW => ⟨⟨(-1003), (cc, rz, ro, sd, wk, br), rfl, ⟨gb_n0 c_2, gb_n0 c_2, by omega, by omega, hbr⟩, by rw [ht]; exact hP9, hD9⟩, hS.F ht⟩) hS.2.2 dX7_goBack_25
    · refine lv_aload_n hx hb dX7_goBack_13 rfl (lv_at hl 0 rfl) ?_
      refine va_get (D := D) (ci := 7) (v := .ref (a 63)) (C := RX7) (T := TX7) (N := 12) hx hb hts inX7 hown hK hP 0 rfl rfl 9 (by decide) (hts _ tw_314) (fun _ h9 => h9) rfl dX7_goBack_14 ?_
      refine lv_iload_n hx hb dX7_goBack_17 rfl (lv_at hl 1 rfl) ?_
      refine va_zald hx hb hK hP 11 2 rfl rfl (by unfold vp_in; decide) dX7_goBack_18 ?_
      refine lv_ti (y := (fk 1)) (by rfl) ?_
      refine lv_if_ne (tgt := 26) hx hb dX7_goBack_19 (by decide) (fun c_4 => ?_) (fun c_4 => ?_)
      · refine lv_aload_n hx hb dX7_goBack_26 rfl (lv_at hl 0 rfl) ?_
        refine va_get (D := D) (ci := 7) (v := .ref (a 53)) (C := RX7) (T := TX7) (N := 12) hx hb hts inX7 hown hK hP 0 rfl rfl 7 (by decide) (hts _ tw_312) (fun _ h9 => h9) rfl dX7_goBack_27 ?_
        refine lv_aload_n hx hb dX7_goBack_30 rfl (lv_at hl 0 rfl) ?_
        refine va_get (D := D) (ci := 7) (v := .ref (a 56)) (C := RX7) (T := TX7) (N := 12) hx hb hts inX7 hown hK hP 0 rfl rfl 8 (by decide) (hts _ tw_313) (fun _ h9 => h9) rfl dX7_goBack_31 ?_
        refine lv_iload_n hx hb dX7_goBack_34 rfl (lv_at hl 1 rfl) ?_
        refine va_aldq hx hb hK hP 4 6 rfl rfl (by unfold vp_in; decide) dX7_goBack_35 ?_
        refine lv_tr (y := .ref (a 60)) rfl ?_
        refine rw_v (D := D) (wr := [((a 0), .inr (7, (fX7 (a 1) (a 3) (a 19) (a 35) (a 40) (nI rk) lfa (a 53) (a 56) (a 63) (a 64) (a 68)))), ((a 56), .inl (k 6, 2, .inr (.inr (.inr (.inr (a2 (a 57) (a 60))))))), ((a 57), .inr (4, (fX4 (a 58) (a 59) (nI cci0) (nI rzi0) roi0 sdi0))), (aI k (a 58) 4 wki0), (aI k (a 59) 4 (nF bri0)), (aZ k (a 63) 2 fk)]) (va_runV (As := [.ref (a 60)]) (rest := []) ⟨hx, hb, hml, hown, hts⟩ ((x_copyFrom2 l D k st lo (a 53) (a 54) (a 55) cc rz ro sd wk br (a 60) (a 61) (a 62) cci1 rzi1 roi1 sdi1 wki1 bri1 (by omega) (by omega) hbr hbi1) H.size) (cwV 1 hts (gV tw_955 tw_956 tw_957 tw_82 tw_958) rfl rfl rfl (by decide +kernel) ⟨Nat.le_of_ble_eq_true rfl, Nat.le_of_ble_eq_true rfl⟩) (pV hS hAlo hlo hP hK (va_Dlo hD hAlo) hZ [1, 2, 3, 8, 9, 10] (by decide) rfl (ci := 4) (q := (RX4, TX4, 6)) (q0 := 0) rfl rfl) rfl rfl hl.1 rfl (lv_room (Nat.le_of_ble_eq_true rfl)) dX7_goBack_36 ⟨Nat.le_of_ble_eq_true rfl, Nat.le_of_ble_eq_true rfl⟩) hS hA hP hD [1, 2, 3, 8, 9, 10] [0, 4, 5, 6, 7, 11] rfl rfl (by decide +kernel) (by decide +kernel) (fun u H locs hw_5 hP hD hS => ?_)
        obtain ⟨cc__5, rz__5, ro__5, sd__5, wk__5, br__5⟩ := u
        replace hP : va_P D classes [((a 0), .inr (7, (fX7 (a 1) (a 3) (a 19) (a 35) (a 40) (nI rk) lfa (a 53) (a 56) (a 63) (a 64) (a 68)))), ((a 56), .inl (k 6, 2, .inr (.inr (.inr (.inr (a2 (a 57) (a 60))))))), ((a 57), .inr (4, (fX4 (a 58) (a 59) (nI cci0) (nI rzi0) roi0 sdi0))), (aI k (a 58) 4 wki0), (aI k (a 59) 4 (nF bri0)), (aZ k (a 63) 2 fk), ((a 53), .inr (4, (fX4 (a 54) (a 55) (nI cc__5) (nI rz__5) ro__5 sd__5))), (aI k (a 54) 4 wk__5), (aI k (a 55) 4 (nF br__5)), ((a 60), .inr (4, (fX4 (a 61) (a 62) (nI cci1) (nI rzi1) roi1 sdi1))), (aI k (a 61) 4 wki1), (aI k (a 62) 4 (nF bri1))] H := hP
        replace hD : va_D A [((a 0), .inr (7, (fX7 (a 1) (a 3) (a 19) (a 35) (a 40) (nI rk) lfa (a 53) (a 56) (a 63) (a 64) (a 68)))), ((a 56), .inl (k 6, 2, .inr (.inr (.inr (.inr (a2 (a 57) (a 60))))))), ((a 57), .inr (4, (fX4 (a 58) (a 59) (nI cci0) (nI rzi0) roi0 sdi0))), (aI k (a 58) 4 wki0), (aI k (a 59) 4 (nF bri0)), (aZ k (a 63) 2 fk), ((a 53), .inr (4, (fX4 (a 54) (a 55) (nI cc__5) (nI rz__5) ro__5 sd__5))), (aI k (a 54) 4 wk__5), (aI k (a 55) 4 (nF br__5)), ((a 60), .inr (4, (fX4 (a 61) (a 62) (nI cci1) (nI rzi1) roi1 sdi1))), (aI k (a 61) 4 wki1), (aI k (a 62) 4 (nF bri1))] := hD
        try dsimp only at hw_5
        obtain ⟨rfl, rfl, hw_5⟩ := hw_5
        refine lv_iconst (v := 1) hx hb dX7_goBack_39 (by decide) ?_
        have hP9 := hP.sub (ws' := [((a 0), .inr (7, (fX7 (a 1) (a 3) (a 19) (a 35) (a 40) (nI rk) lfa (a 53) (a 56) (a 63) (a 64) (a 68)))), ((a 53), .inr (4, (fX4 (a 54) (a 55) (nI cci1) (nI rzi1) ro__5 sd__5))), (aI k (a 54) 4 wk__5), (aI k (a 55) 4 (nF br__5)), ((a 56), .inl (k 6, 2, .inr (.inr (.inr (.inr (a2 (a 57) (a 60))))))), ((a 57), .inr (4, (fX4 (a 58) (a 59) (nI cci0) (nI rzi0) roi0 sdi0))), (aI k (a 58) 4 wki0), (aI k (a 59) 4 (nF bri0)), ((a 60), .inr (4, (fX4 (a 61) (a 62) (nI cci1) (nI rzi1) roi1 sdi1))), (aI k (a 61) 4 wki1), (aI k (a 62) 4 (nF bri1)), (aZ k (a 63) 2 fk)]) [0, 6, 7, 8, 1, 2, 3, 4, 9, 10, 11, 5] rfl
        have hD9 := hD.sub (ws' := [((a 0), .inr (7, (fX7 (a 1) (a 3) (a 19) (a 35) (a 40) (nI rk) lfa (a 53) (a 56) (a 63) (a 64) (a 68)))), ((a 53), .inr (4, (fX4 (a 54) (a 55) (nI cci1) (nI rzi1) ro__5 sd__5))), (aI k (a 54) 4 wk__5), (aI k (a 55) 4 (nF br__5)), ((a 56), .inl (k 6, 2, .inr (.inr (.inr (.inr (a2 (a 57) (a 60))))))), ((a 57), .inr (4, (fX4 (a 58) (a 59) (nI cci0) (nI rzi0) roi0 sdi0))), (aI k (a 58) 4 wki0), (aI k (a 59) 4 (nF bri0)), ((a 60), .inr (4, (fX4 (a 61) (a 62) (nI cci1) (nI rzi1) roi1 sdi1))), (aI k (a 61) 4 wki1), (aI k (a 62) 4 (nF bri1)), (aZ k (a 63) 2 fk)]) [0, 6, 7, 8, 1, 2, 3, 4, 9, 10, 11, 5] (by decide +kernel) rfl
        exact W.iret (v := 1) hx hb hr (fun t ht hW => ⟨⟨1, (cci1, rzi1, ro__5, sd__5, wk__5, br__5), rfl, ⟨gb_k1 c_4 rfl, gb_k1 c_4 rfl, by omega, by omega, hw_5⟩, by rw [ht]; exact hP9, hD9⟩, hS.F ht⟩) hS.2.2 dX7_goBack_40
      · refine lv_sipush (v := (-1003)) hx hb dX7_goBack_22 (by decide) ?_
        have hP9 := hP.sub (ws' := [((a 0), .inr (7, (fX7 (a 1) (a 3) (a 19) (a 35) (a 40) (nI rk) lfa (a 53) (a 56) (a 63) (a 64) (a 68)))), ((a 53), .inr (4, (fX4 (a 54) (a 55) (nI cc) (nI rz) ro sd))), (aI k (a 54) 4 wk), (aI k (a 55) 4 (nF br)), ((a 56), .inl (k 6, 2, .inr (.inr (.inr (.inr (a2 (a 57) (a 60))))))), ((a 57), .inr (4, (fX4 (a 58) (a 59) (nI cci0) (nI rzi0) roi0 sdi0))), (aI k (a 58) 4 wki0), (aI k (a 59) 4 (nF bri0)), ((a 60), .inr (4, (fX4 (a 61) (a 62) (nI cci1) (nI rzi1) roi1 sdi1))), (aI k (a 61) 4 wki1), (aI k (a 62) 4 (nF bri1)), (aZ k (a 63) 2 fk)]) [0, 1, 2, 3, 4, 5, 6, 7, 8, 9, 10, 11] rfl
        have hD9 := hD.sub (ws' := [((a 0), .inr (7, (fX7 (a 1) (a 3) (a 19) (a 35) (a 40) (nI rk) lfa (a 53) (a 56) (a 63) (a 64) (a 68)))), ((a 53), .inr (4, (fX4 (a 54) (a 55) (nI cc) (nI rz) ro sd))), (aI k (a 54) 4 wk), (aI k (a 55) 4 (nF br)), ((a 56), .inl (k 6, 2, .inr (.inr (.inr (.inr (a2 (a 57) (a 60))))))), ((a 57), .inr (4, (fX4 (a 58) (a 59) (nI cci0) (nI rzi0) roi0 sdi0))), (aI k (a 58) 4 wki0), (aI k (a 59) 4 (nF bri0)), ((a 60), .inr (4, (fX4 (a 61) (a 62) (nI cci1) (nI rzi1) roi1 sdi1))), (aI k (a 61) 4 wki1), (aI k (a 62) 4 (nF bri1)), (aZ k (a 63) 2 fk)]) [0, 1, 2, 3, 4, 5, 6, 7, 8, 9, 10, 11] (by decide +kernel) rfl
        exact W.iret (v := (-1003)) hx hb hr (fun t ht hW => ⟨⟨(-1003), (cc, rz, ro, sd, wk, br), rfl, ⟨gb_n1 c_4, gb_n1 c_4, by omega, by omega, hbr⟩, by rw [ht]; exact hP9, hD9⟩, hS.F ht⟩) hS.2.2 dX7_goBack_25
  · refine lv_if_ne (tgt := 13) hx hb dX7_goBack_6 (by decide) (fun h => absurd (by decide) h) (fun _ => ?_)
    refine lv_sipush (v := (-1001)) hx hb dX7_goBack_9 (by decide) ?_
    have hP9 := hP.sub (ws' := [((a 0), .inr (7, (fX7 (a 1) (a 3) (a 19) (a 35) (a 40) (nI rk) lfa (a 53) (a 56) (a 63) (a 64) (a 68)))), ((a 53), .inr (4, (fX4 (a 54) (a 55) (nI cc) (nI rz) ro sd))), (aI k (a 54) 4 wk), (aI k (a 55) 4 (nF br)), ((a 56), .inl (k 6, 2, .inr (.inr (.inr (.inr (a2 (a 57) (a 60))))))), ((a 57), .inr (4, (fX4 (a 58) (a 59) (nI cci0) (nI rzi0) roi0 sdi0))), (aI k (a 58) 4 wki0), (aI k (a 59) 4 (nF bri0)), ((a 60), .inr (4, (fX4 (a 61) (a 62) (nI cci1) (nI rzi1) roi1 sdi1))), (aI k (a 61) 4 wki1), (aI k (a 62) 4 (nF bri1)), (aZ k (a 63) 2 fk)]) [0, 1, 2, 3, 4, 5, 6, 7, 8, 9, 10, 11] rfl
    have hD9 := hD.sub (ws' := [((a 0), .inr (7, (fX7 (a 1) (a 3) (a 19) (a 35) (a 40) (nI rk) lfa (a 53) (a 56) (a 63) (a 64) (a 68)))), ((a 53), .inr (4, (fX4 (a 54) (a 55) (nI cc) (nI rz) ro sd))), (aI k (a 54) 4 wk), (aI k (a 55) 4 (nF br)), ((a 56), .inl (k 6, 2, .inr (.inr (.inr (.inr (a2 (a 57) (a 60))))))), ((a 57), .inr (4, (fX4 (a 58) (a 59) (nI cci0) (nI rzi0) roi0 sdi0))), (aI k (a 58) 4 wki0), (aI k (a 59) 4 (nF bri0)), ((a 60), .inr (4, (fX4 (a 61) (a 62) (nI cci1) (nI rzi1) roi1 sdi1))), (aI k (a 61) 4 wki1), (aI k (a 62) 4 (nF bri1)), (aZ k (a 63) 2 fk)]) [0, 1, 2, 3, 4, 5, 6, 7, 8, 9, 10, 11] (by decide +kernel) rfl
    exact W.iret (v := (-1001)) hx hb hr (fun t ht hW => ⟨⟨(-1001), (cc, rz, ro, sd, wk, br), rfl, ⟨gb_out hw_1, gb_out hw_1, by omega, by omega, hbr⟩, by rw [ht]; exact hP9, hD9⟩, hS.F ht⟩) hS.2.2 dX7_goBack_12


set_option maxHeartbeats 4000000 in
set_option maxRecDepth 100000 in
theorem m_saw2 (l : Launch) (D : va_G) (k : Nat → ClassId) (st : Nat → Nat) (lo : Nat) (a : Nat → Nat) (tx : Nat) (t0 : Nat) (we : Nat) (rd : Nat) (ru : Nat) (rw : Nat) (ca : Nat) (fp : Int32) (wd : Int64) (nu : Int32) (na : Int32) (ts : Int32) (df : Int32) (db : Int32) (sd : Int32) (frow : Nat → Int32) (p0 : Int32) (hrw : rw ≤ 24) : CWi l D k st lo yX8_saw cX8_saw 2 (some .int) ({ frames := 0, cells := 0, slots := 0, locals := 0 }) 0 0 [.ref (a 0), .int p0] [((a 0), .inr (8, (fX8 a (nI tx) fp (nI t0) wd (nI we) nu na (nI rd) ts (nI ru) (nI rw) (nI ca) df db sd))), (aZ k (a 32) 24 frow)] (fun (r : Int32) (u : Nat × (Nat → Int32)) => match u with | (rw_, frow_) => sawP rw r rw_ ∧ rw_ ≤ 24) (fun (u : Nat × (Nat → Int32)) => match u with | (rw_, frow_) => [((a 0), .inr (8, (fX8 a (nI tx) fp (nI t0) wd (nI we) nu na (nI rd) ts (nI ru) (nI rw_) (nI ca) df db sd))), (aZ k (a 32) 24 frow_)]) := by
  intro sz
  refine Met.ofW (cc := cX8_saw) (maxL := 2) (ret := (some .int)) (by decide) rfl ?_
  intro p e s m args below meth c s₁ B hml hv
  obtain ⟨rfl, hsz, hlo, hP, hK, hDL, hZ⟩ := hv
  have hx := B.exec
  have hb := B.bytes
  have hr := B.returns
  have hts := WS_ts B.pre
  have hown : s.vm.findClass RX8 = some m.cls := findClass_of_methodNamed B.named
  have hlocks := B.notSynchronized
  subst hsz
  have hD := hDL.self (sz := s.heap.size)
  have hAlo := A_lo hDL hlo
  generalize hAe : va_A [((a 0), .inr (8, (fX8 a (nI tx) fp (nI t0) wd (nI we) nu na (nI rd) ts (nI ru) (nI rw) (nI ca) df db sd))), (aZ k (a 32) 24 frow)] s.heap.size = A at hD hAlo ⊢
  have hA : ∀ q : Nat, s.heap.size ≤ q → A q := fun q h => by rw [← hAe]; exact Or.inr h
  have hS : va_S A s.heap s.heap [] := va_S.rf
  have hl := lv_entry ([.ref (a 0), .int p0]) (n := 2) (Nat.le_of_ble_eq_true rfl)
  rw [lg_entry_eq]
  generalize (lg_sl ([.ref (a 0), .int p0]) ++ List.replicate (2 - (lg_sl ([.ref (a 0), .int p0])).length) Slot.unset).toArray = ls at hl ⊢
  have hl : lv_has ls 2 [(0, .ref (a 0)), (1, .int p0)] := hl
  refine lv_aload_n hx hb dX8_saw_0 rfl (lv_at hl 0 rfl) ?_
  refine va_get (D := D) (ci := 8) (v := .int (nI rw)) (C := RX8) (T := TX8) (N := 44) hx hb hts inX8 hown hK hP 0 rfl rfl 30 (by decide) (hts _ tw_1003) (fun _ h9 => h9) rfl dX8_saw_1 ?_
  refine lv_bipush (v := 24) hx hb dX8_saw_4 (by decide) ?_
  refine lv_icmp_ne (tgt := 13) hx hb dX8_saw_6 (by decide) (fun c_1 => ?_) (fun c_1 => ?_)
  · have c_1 : ¬ (rw = 24) := fun h => c_1 ((nI_eq (a := rw) (b := 24) (by omega) (by omega)).mpr h)
    refine lv_aload_n hx hb dX8_saw_13 rfl (lv_at hl 0 rfl) ?_
    refine va_get (D := D) (ci := 8) (v := .ref (a 32)) (C := RX8) (T := TX8) (N := 44) hx hb hts inX8 hown hK hP 0 rfl rfl 31 (by decide) (hts _ tw_1004) (fun _ h9 => h9) rfl dX8_saw_14 ?_
    refine lv_aload_n hx hb dX8_saw_17 rfl (lv_at hl 0 rfl) ?_
    refine va_get (D := D) (ci := 8) (v := .int (nI rw)) (C := RX8) (T := TX8) (N := 44) hx hb hts inX8 hown hK hP 0 rfl rfl 30 (by decide) (hts _ tw_1003) (fun _ h9 => h9) rfl dX8_saw_18 ?_
    refine lv_iload_n hx hb dX8_saw_21 rfl (lv_at hl 1 rfl) ?_
    refine va_zast hx hb hK hP hD hS 1 2 rfl rfl (vp_in_nI (by omega) (by decide)) dX8_saw_22 (fun H locs hP hD hS => ?_)
    replace hP : va_P D classes [((a 0), .inr (8, (fX8 a (nI tx) fp (nI t0) wd (nI we) nu na (nI rd) ts (nI ru) (nI rw) (nI ca) df db sd))), (aZ k (a 32) 24 (upd frow (Int32.toNatClampNeg (nI rw)) (vp_nar .boolean p0)))] H := hP
    replace hD : va_D A [((a 0), .inr (8, (fX8 a (nI tx) fp (nI t0) wd (nI we) nu na (nI rd) ts (nI ru) (nI rw) (nI ca) df db sd))), (aZ k (a 32) 24 (upd frow (Int32.toNatClampNeg (nI rw)) (vp_nar .boolean p0)))] := hD
    generalize (upd frow (Int32.toNatClampNeg (nI rw)) (vp_nar .boolean p0)) = f_2 at hP hD
    refine lv_aload_n hx hb dX8_saw_23 rfl (lv_at hl 0 rfl) ?_
    refine lv_dup hx hb dX8_saw_24 rfl ?_
    refine va_get (D := D) (ci := 8) (v := .int (nI rw)) (C := RX8) (T := TX8) (N := 44) hx hb hts inX8 hown hK hP 0 rfl rfl 30 (by decide) (hts _ tw_1003) (fun _ h9 => h9) rfl dX8_saw_25 ?_
    refine lv_iconst (v := 1) hx hb dX8_saw_28 (by decide) ?_
    refine lv_iadd hx hb dX8_saw_29 ?_
    refine lv_ti (y := (nI (rw + 1))) (nI_add rw 1) ?_
    refine va_put (D := D) (ci := 8) (v := .int (nI (rw + 1))) (ty := .int) (C := RX8) (T := TX8) (N := 44) hx hb hts inX8 tyX8 tyX8_ok nmX8 hown hK hP hD hS 0 rfl rfl 30 (by decide) (hts _ tw_1003) (fun _ h9 => h9) rfl (by decide +kernel) rfl rfl (Nat.le_of_ble_eq_true rfl) dX8_saw_30 (fun H locs hP hD hS => ?_)
    replace hP : va_P D classes [((a 0), .inr (8, (fX8 a (nI tx) fp (nI t0) wd (nI we) nu na (nI rd) ts (nI ru) (nI (rw + 1)) (nI ca) df db sd))), (aZ k (a 32) 24 f_2)] H := hP
    replace hD : va_D A [((a 0), .inr (8, (fX8 a (nI tx) fp (nI t0) wd (nI we) nu na (nI rd) ts (nI ru) (nI (rw + 1)) (nI ca) df db sd))), (aZ k (a 32) 24 f_2)] := hD
    refine lv_aload_n hx hb dX8_saw_33 rfl (lv_at hl 0 rfl) ?_
    refine va_get (D := D) (ci := 8) (v := .int (nI (rw + 1))) (C := RX8) (T := TX8) (N := 44) hx hb hts inX8 hown hK hP 0 rfl rfl 30 (by decide) (hts _ tw_1003) (fun _ h9 => h9) rfl dX8_saw_34 ?_
    have hP9 := hP.sub (ws' := [((a 0), .inr (8, (fX8 a (nI tx) fp (nI t0) wd (nI we) nu na (nI rd) ts (nI ru) (nI (rw + 1)) (nI ca) df db sd))), (aZ k (a 32) 24 f_2)]) [0, 1] rfl
    have hD9 := hD.sub (ws' := [((a 0), .inr (8, (fX8 a (nI tx) fp (nI t0) wd (nI we) nu na (nI rd) ts (nI ru) (nI (rw + 1)) (nI ca) df db sd))), (aZ k (a 32) 24 f_2)]) [0, 1] (by decide) rfl
    exact W.iret (v := (nI (rw + 1))) hx hb hr (fun t ht hW => ⟨⟨(nI (rw + 1)), ((rw + 1), f_2), rfl, ⟨⟨fun _ => ⟨rfl, rfl⟩, fun h => absurd (by omega) h⟩, by omega⟩, by rw [ht]; exact hP9, hD9⟩, hS.F ht⟩) hS.2.2 dX8_saw_37
  · have c_1 := (nI_eq (a := rw) (b := 24) (by omega) (by omega)).mp c_1
    refine lv_sipush (v := (-1004)) hx hb dX8_saw_9 (by decide) ?_
    have hP9 := hP.sub (ws' := [((a 0), .inr (8, (fX8 a (nI tx) fp (nI t0) wd (nI we) nu na (nI rd) ts (nI ru) (nI rw) (nI ca) df db sd))), (aZ k (a 32) 24 frow)]) [0, 1] rfl
    have hD9 := hD.sub (ws' := [((a 0), .inr (8, (fX8 a (nI tx) fp (nI t0) wd (nI we) nu na (nI rd) ts (nI ru) (nI rw) (nI ca) df db sd))), (aZ k (a 32) 24 frow)]) [0, 1] (by decide) rfl
    exact W.iret (v := (-1004)) hx hb hr (fun t ht hW => ⟨⟨(-1004), (rw, frow), rfl, ⟨⟨fun h => absurd h (by omega), fun _ => ⟨rfl, rfl⟩⟩, by omega⟩, by rw [ht]; exact hP9, hD9⟩, hS.F ht⟩) hS.2.2 dX8_saw_12


set_option maxHeartbeats 4000000 in
set_option maxRecDepth 100000 in
theorem m_clear2 (l : Launch) (D : va_G) (k : Nat → ClassId) (st : Nat → Nat) (lo : Nat) (a : Nat → Nat) (tx : Nat) (t0 : Nat) (we : Nat) (rd : Nat) (ru : Nat) (rw : Nat) (ca : Nat) (fp : Int32) (wd : Int64) (nu : Int32) (na : Int32) (ts : Int32) (df : Int32) (db : Int32) (sd : Int32) (hrw : rw ≤ 24) : CWi l D k st lo yX8_clear cX8_clear 2 (some .int) ({ frames := 0, cells := 0, slots := 0, locals := 0 }) 0 0 [.ref (a 0)] [((a 0), .inr (8, (fX8 a (nI tx) fp (nI t0) wd (nI we) nu na (nI rd) ts (nI ru) (nI rw) (nI ca) df db sd)))] (fun (r : Int32) (rw_ : Nat) => r = nI rw ∧ rw_ = 0) (fun (rw_ : Nat) => [((a 0), .inr (8, (fX8 a (nI tx) fp (nI t0) wd (nI we) nu na (nI rd) ts (nI ru) (nI rw_) (nI ca) df db sd)))]) := by
  intro sz
  refine Met.ofW (cc := cX8_clear) (maxL := 2) (ret := (some .int)) (by decide) rfl ?_
  intro p e s m args below meth c s₁ B hml hv
  obtain ⟨rfl, hsz, hlo, hP, hK, hDL, hZ⟩ := hv
  have hx := B.exec
  have hb := B.bytes
  have hr := B.returns
  have hts := WS_ts B.pre
  have hown : s.vm.findClass RX8 = some m.cls := findClass_of_methodNamed B.named
  have hlocks := B.notSynchronized
  subst hsz
  have hD := hDL.self (sz := s.heap.size)
  have hAlo := A_lo hDL hlo
  generalize hAe : va_A [((a 0), .inr (8, (fX8 a (nI tx) fp (nI t0) wd (nI we) nu na (nI rd) ts (nI ru) (nI rw) (nI ca) df db sd)))] s.heap.size = A at hD hAlo ⊢
  have hA : ∀ q : Nat, s.heap.size ≤ q → A q := fun q h => by rw [← hAe]; exact Or.inr h
  have hS : va_S A s.heap s.heap [] := va_S.rf
  have hl := lv_entry ([.ref (a 0)]) (n := 2) (Nat.le_of_ble_eq_true rfl)
  rw [lg_entry_eq]
  generalize (lg_sl ([.ref (a 0)]) ++ List.replicate (2 - (lg_sl ([.ref (a 0)])).length) Slot.unset).toArray = ls at hl ⊢
  have hl : lv_has ls 2 [(0, .ref (a 0))] := hl
  refine lv_aload_n hx hb dX8_clear_0 rfl (lv_at hl 0 rfl) ?_
  refine va_get (D := D) (ci := 8) (v := .int (nI rw)) (C := RX8) (T := TX8) (N := 44) hx hb hts inX8 hown hK hP 0 rfl rfl 30 (by decide) (hts _ tw_1003) (fun _ h9 => h9) rfl dX8_clear_1 ?_
  refine lv_istore_n (lv' := [(1, .int (nI rw)), (0, .ref (a 0))]) hx hb dX8_clear_4 rfl hl (by decide) rfl (fun ls hl => ?_)
  refine lv_aload_n hx hb dX8_clear_5 rfl (lv_at hl 1 rfl) ?_
  refine lv_iconst (v := 0) hx hb dX8_clear_6 (by decide) ?_
  refine va_put (D := D) (ci := 8) (v := .int 0) (ty := .int) (C := RX8) (T := TX8) (N := 44) hx hb hts inX8 tyX8 tyX8_ok nmX8 hown hK hP hD hS 0 rfl rfl 30 (by decide) (hts _ tw_1003) (fun _ h9 => h9) rfl (by decide +kernel) rfl rfl (Nat.le_of_ble_eq_true rfl) dX8_clear_7 (fun H locs hP hD hS => ?_)
  replace hP : va_P D classes [((a 0), .inr (8, (fX8 a (nI tx) fp (nI t0) wd (nI we) nu na (nI rd) ts (nI ru) 0 (nI ca) df db sd)))] H := hP
  replace hD : va_D A [((a 0), .inr (8, (fX8 a (nI tx) fp (nI t0) wd (nI we) nu na (nI rd) ts (nI ru) 0 (nI ca) df db sd)))] := hD
  refine lv_iload_n hx hb dX8_clear_10 rfl (lv_at hl 0 rfl) ?_
  have hP9 := hP.sub (ws' := [((a 0), .inr (8, (fX8 a (nI tx) fp (nI t0) wd (nI we) nu na (nI rd) ts (nI ru) 0 (nI ca) df db sd)))]) [0] rfl
  have hD9 := hD.sub (ws' := [((a 0), .inr (8, (fX8 a (nI tx) fp (nI t0) wd (nI we) nu na (nI rd) ts (nI ru) 0 (nI ca) df db sd)))]) [0] (by decide) rfl
  exact W.iret (v := (nI rw)) hx hb hr (fun t ht hW => ⟨⟨(nI rw), 0, rfl, ⟨rfl, rfl⟩, by rw [ht]; exact hP9, hD9⟩, hS.F ht⟩) hS.2.2 dX8_clear_11


set_option maxHeartbeats 4000000 in
set_option maxRecDepth 100000 in
theorem m_car2 (l : Launch) (D : va_G) (k : Nat → ClassId) (st : Nat → Nat) (lo : Nat) (a : Nat → Nat) (tx : Nat) (t0 : Nat) (we : Nat) (rd : Nat) (ru : Nat) (rw : Nat) (ca : Nat) (fp : Int32) (wd : Int64) (nu : Int32) (na : Int32) (ts : Int32) (df : Int32) (db : Int32) (sd : Int32) (fwalks : Nat → Int32) (br : Nat → Nat) (p0 : Int32) (p1 : Int32) (hca : ca ≤ 4) (hbr : ∀ j, br j ≤ 24) : CWi l D k st lo yX8_car cX8_car 3 (some .int) ({ frames := 1, cells := 0, slots := 0, locals := 25 }) 0 0 [.ref (a 0), .int p0, .int p1] [((a 0), .inr (8, (fX8 a (nI tx) fp (nI t0) wd (nI we) nu na (nI rd) ts (nI ru) (nI rw) (nI ca) df db sd))), (aI k (a 36) 4 fwalks), (aI k (a 37) 4 (nF br))] (fun (r : Int32) (u : Nat × (Nat → Int32) × (Nat → Nat)) => match u with | (ca_, fwalks_, br_) => carP p0 p1 ca r ca_ ∧ ca_ ≤ 4 ∧ (∀ j, br_ j ≤ 24)) (fun (u : Nat × (Nat → Int32) × (Nat → Nat)) => match u with | (ca_, fwalks_, br_) => [((a 0), .inr (8, (fX8 a (nI tx) fp (nI t0) wd (nI we) nu na (nI rd) ts (nI ru) (nI rw) (nI ca_) df db sd))), (aI k (a 36) 4 fwalks_), (aI k (a 37) 4 (nF br_))]) := by
  intro sz
  refine Met.ofW (cc := cX8_car) (maxL := 3) (ret := (some .int)) (by decide) rfl ?_
  intro p e s m args below meth c s₁ B hml hv
  obtain ⟨rfl, hsz, hlo, hP, hK, hDL, hZ⟩ := hv
  have hx := B.exec
  have hb := B.bytes
  have hr := B.returns
  have hts := WS_ts B.pre
  have hown : s.vm.findClass RX8 = some m.cls := findClass_of_methodNamed B.named
  have hlocks := B.notSynchronized
  subst hsz
  have hD := hDL.self (sz := s.heap.size)
  have hAlo := A_lo hDL hlo
  generalize hAe : va_A [((a 0), .inr (8, (fX8 a (nI tx) fp (nI t0) wd (nI we) nu na (nI rd) ts (nI ru) (nI rw) (nI ca) df db sd))), (aI k (a 36) 4 fwalks), (aI k (a 37) 4 (nF br))] s.heap.size = A at hD hAlo ⊢
  have hA : ∀ q : Nat, s.heap.size ≤ q → A q := fun q h => by rw [← hAe]; exact Or.inr h
  have hS : va_S A s.heap s.heap [] := va_S.rf
  have hl := lv_entry ([.ref (a 0), .int p0, .int p1]) (n := 3) (Nat.le_of_ble_eq_true rfl)
  rw [lg_entry_eq]
  generalize (lg_sl ([.ref (a 0), .int p0, .int p1]) ++ List.replicate (3 - (lg_sl ([.ref (a 0), .int p0, .int p1])).length) Slot.unset).toArray = ls at hl ⊢
  have hl : lv_has ls 3 [(0, .ref (a 0)), (1, .int p0), (2, .int p1)] := hl
  refine lv_iload_n hx hb dX8_car_0 rfl (lv_at hl 1 rfl) ?_
  refine lv_i2l (v := p0.toInt64) hx hb dX8_car_1 rfl ?_
  refine lv_lconst (v := (0 : Int32).toInt64) hx hb dX8_car_2 (by decide) ?_
  refine lv_ldc2 hx hb hown (hts _ tw_1368) dX8_car_3 ?_
  refine lv_tl (y := ((99 : Int32).toInt64)) (by decide) ?_
  refine ro_i (D := D) (va_runS (As := [.long (p0.toInt64), .long ((0 : Int32).toInt64), .long ((99 : Int32).toInt64)]) (rest := []) ⟨hx, hb, hml, hown, hts⟩ ((k_in l D k st lo p0 (0 : Int32) (99 : Int32)) s.heap.size) (va_cwS 3 hts (gS tw_1111 tw_1112 tw_87 tw_1113) rfl rfl rfl (by decide +kernel) ⟨Nat.le_of_ble_eq_true rfl, Nat.le_of_ble_eq_true rfl⟩) (pS hS hAlo hlo hP hK (va_Dlo hD hAlo) hZ [] (by decide) rfl) rfl rfl hl.1 rfl (lv_room (Nat.le_of_ble_eq_true rfl)) dX8_car_6 ⟨Nat.le_of_ble_eq_true rfl, Nat.le_of_ble_eq_true rfl⟩) hS hA hP (fun r_1 H locs hw_1 hP hS => ?_)
  try dsimp only at hw_1
  rcases hw_1 with ⟨rfl, hw_1⟩ | ⟨rfl, hw_1⟩
  · refine lv_if_eq (tgt := 24) hx hb dX8_car_9 (by decide) (fun h => absurd h (by decide)) (fun _ => ?_)
    refine lv_iload_n hx hb dX8_car_12 rfl (lv_at hl 2 rfl) ?_
    refine lv_i2l (v := p1.toInt64) hx hb dX8_car_13 rfl ?_
    refine lv_lconst (v := (0 : Int32).toInt64) hx hb dX8_car_14 (by decide) ?_
    refine lv_ldc2 hx hb hown (hts _ tw_1377) dX8_car_15 ?_
    refine lv_tl (y := ((24 : Int32).toInt64)) (by decide) ?_
    refine ro_i (D := D) (va_runS (As := [.long (p1.toInt64), .long ((0 : Int32).toInt64), .long ((24 : Int32).toInt64)]) (rest := []) ⟨hx, hb, hml, hown, hts⟩ ((k_in l D k st lo p1 (0 : Int32) (24 : Int32)) H.size) (va_cwS 3 hts (gS tw_1111 tw_1112 tw_87 tw_1113) rfl rfl rfl (by decide +kernel) ⟨Nat.le_of_ble_eq_true rfl, Nat.le_of_ble_eq_true rfl⟩) (pS hS hAlo hlo hP hK (va_Dlo hD hAlo) hZ [] (by decide) rfl) rfl rfl hl.1 rfl (lv_room (Nat.le_of_ble_eq_true rfl)) dX8_car_18 ⟨Nat.le_of_ble_eq_true rfl, Nat.le_of_ble_eq_true rfl⟩) hS hA hP (fun r_2 H locs hw_2 hP hS => ?_)
    try dsimp only at hw_2
    rcases hw_2 with ⟨rfl, hw_2⟩ | ⟨rfl, hw_2⟩
    · refine lv_if_ne (tgt := 28) hx hb dX8_car_21 (by decide) (fun _ => ?_) (fun h => absurd h (by decide))
      obtain ⟨nb_3, hnl_3, hnh_3, rfl⟩ := inB_ofc (a := 0) (b := 24) (by omega) (by omega) hw_2
      refine lv_aload_n hx hb dX8_car_28 rfl (lv_at hl 0 rfl) ?_
      refine va_get (D := D) (ci := 8) (v := .int (nI ca)) (C := RX8) (T := TX8) (N := 44) hx hb hts inX8 hown hK hP 0 rfl rfl 34 (by decide) (hts _ tw_1007) (fun _ h9 => h9) rfl dX8_car_29 ?_
      refine lv_iconst (v := 4) hx hb dX8_car_32 (by decide) ?_
      refine lv_icmp_ne (tgt := 40) hx hb dX8_car_33 (by decide) (fun c_4 => ?_) (fun c_4 => ?_)
      · have c_4 : ¬ (ca = 4) := fun h => c_4 ((nI_eq (a := ca) (b := 4) (by omega) (by omega)).mpr h)
        refine lv_aload_n hx hb dX8_car_40 rfl (lv_at hl 0 rfl) ?_
        refine va_get (D := D) (ci := 8) (v := .ref (a 36)) (C := RX8) (T := TX8) (N := 44) hx hb hts inX8 hown hK hP 0 rfl rfl 35 (by decide) (hts _ tw_1008) (fun _ h9 => h9) rfl dX8_car_41 ?_
        refine lv_aload_n hx hb dX8_car_44 rfl (lv_at hl 0 rfl) ?_
        refine va_get (D := D) (ci := 8) (v := .int (nI ca)) (C := RX8) (T := TX8) (N := 44) hx hb hts inX8 hown hK hP 0 rfl rfl 34 (by decide) (hts _ tw_1007) (fun _ h9 => h9) rfl dX8_car_45 ?_
        refine lv_iload_n hx hb dX8_car_48 rfl (lv_at hl 1 rfl) ?_
        refine va_iast hx hb hK hP hD hS 1 1 rfl rfl (vp_in_nI (by omega) (by decide)) dX8_car_49 (fun H locs hP hD hS => ?_)
        replace hP : va_P D classes [((a 0), .inr (8, (fX8 a (nI tx) fp (nI t0) wd (nI we) nu na (nI rd) ts (nI ru) (nI rw) (nI ca) df db sd))), (aI k (a 36) 4 (upd fwalks (Int32.toNatClampNeg (nI ca)) p0)), (aI k (a 37) 4 (nF br))] H := hP
        replace hD : va_D A [((a 0), .inr (8, (fX8 a (nI tx) fp (nI t0) wd (nI we) nu na (nI rd) ts (nI ru) (nI rw) (nI ca) df db sd))), (aI k (a 36) 4 (upd fwalks (Int32.toNatClampNeg (nI ca)) p0)), (aI k (a 37) 4 (nF br))] := hD
        generalize (upd fwalks (Int32.toNatClampNeg (nI ca)) p0) = f_5 at hP hD
        refine lv_aload_n hx hb dX8_car_50 rfl (lv_at hl 0 rfl) ?_
        refine va_get (D := D) (ci := 8) (v := .ref (a 37)) (C := RX8) (T := TX8) (N := 44) hx hb hts inX8 hown hK hP 0 rfl rfl 36 (by decide) (hts _ tw_1009) (fun _ h9 => h9) rfl dX8_car_51 ?_
        refine lv_aload_n hx hb dX8_car_54 rfl (lv_at hl 0 rfl) ?_
        refine va_get (D := D) (ci := 8) (v := .int (nI ca)) (C := RX8) (T := TX8) (N := 44) hx hb hts inX8 hown hK hP 0 rfl rfl 34 (by decide) (hts _ tw_1007) (fun _ h9 => h9) rfl dX8_car_55 ?_
        refine lv_iload_n hx hb dX8_car_58 rfl (lv_at hl 2 rfl) ?_
        refine va_iast hx hb hK hP hD hS 2 1 rfl rfl (vp_in_nI (by omega) (by decide)) dX8_car_59 (fun H locs hP hD hS => ?_)
        replace hP : va_P D classes [((a 0), .inr (8, (fX8 a (nI tx) fp (nI t0) wd (nI we) nu na (nI rd) ts (nI ru) (nI rw) (nI ca) df db sd))), (aI k (a 36) 4 f_5), (aI k (a 37) 4 (upd (nF br) (Int32.toNatClampNeg (nI ca)) (nI nb_3)))] H := hP
        replace hD : va_D A [((a 0), .inr (8, (fX8 a (nI tx) fp (nI t0) wd (nI we) nu na (nI rd) ts (nI ru) (nI rw) (nI ca) df db sd))), (aI k (a 36) 4 f_5), (aI k (a 37) 4 (upd (nF br) (Int32.toNatClampNeg (nI ca)) (nI nb_3)))] := hD
        rw [nI_clamp (n := ca) (by omega)] at hP hD
        rw [show upd (nF br) ca (nI nb_3) = nF (fun j => if j = ca then nb_3 else br j) from nF_upd _ _ _] at hP hD
        obtain ⟨d_6, hd_6⟩ : ∃ z : Nat → Nat, z = (fun j => if j = ca then nb_3 else br j) := ⟨_, rfl⟩
        rw [← hd_6] at hP hD
        refine lv_aload_n hx hb dX8_car_60 rfl (lv_at hl 0 rfl) ?_
        refine lv_dup hx hb dX8_car_61 rfl ?_
        refine va_get (D := D) (ci := 8) (v := .int (nI ca)) (C := RX8) (T := TX8) (N := 44) hx hb hts inX8 hown hK hP 0 rfl rfl 34 (by decide) (hts _ tw_1007) (fun _ h9 => h9) rfl dX8_car_62 ?_
        refine lv_iconst (v := 1) hx hb dX8_car_65 (by decide) ?_
        refine lv_iadd hx hb dX8_car_66 ?_
        refine lv_ti (y := (nI (ca + 1))) (nI_add ca 1) ?_
        refine va_put (D := D) (ci := 8) (v := .int (nI (ca + 1))) (ty := .int) (C := RX8) (T := TX8) (N := 44) hx hb hts inX8 tyX8 tyX8_ok nmX8 hown hK hP hD hS 0 rfl rfl 34 (by decide) (hts _ tw_1007) (fun _ h9 => h9) rfl (by decide +kernel) rfl rfl (Nat.le_of_ble_eq_true rfl) dX8_car_67 (fun H locs hP hD hS => ?_)
        replace hP : va_P D classes [((a 0), .inr (8, (fX8 a (nI tx) fp (nI t0) wd (nI we) nu na (nI rd) ts (nI ru) (nI rw) (nI (ca + 1)) df db sd))), (aI k (a 36) 4 f_5), (aI k (a 37) 4 (nF d_6))] H := hP
        replace hD : va_D A [((a 0), .inr (8, (fX8 a (nI tx) fp (nI t0) wd (nI we) nu na (nI rd) ts (nI ru) (nI rw) (nI (ca + 1)) df db sd))), (aI k (a 36) 4 f_5), (aI k (a 37) 4 (nF d_6))] := hD
        refine lv_aload_n hx hb dX8_car_70 rfl (lv_at hl 0 rfl) ?_
        refine va_get (D := D) (ci := 8) (v := .int (nI (ca + 1))) (C := RX8) (T := TX8) (N := 44) hx hb hts inX8 hown hK hP 0 rfl rfl 34 (by decide) (hts _ tw_1007) (fun _ h9 => h9) rfl dX8_car_71 ?_
        refine lv_iconst (v := 1) hx hb dX8_car_74 (by decide) ?_
        refine lv_isub hx hb dX8_car_75 ?_
        refine lv_ti (y := (nI ((ca + 1) - 1))) (pk_sub (a := (ca + 1)) (b := 1) (by omega)) ?_
        have hP9 := hP.sub (ws' := [((a 0), .inr (8, (fX8 a (nI tx) fp (nI t0) wd (nI we) nu na (nI rd) ts (nI ru) (nI rw) (nI (ca + 1)) df db sd))), (aI k (a 36) 4 f_5), (aI k (a 37) 4 (nF d_6))]) [0, 1, 2] rfl
        have hD9 := hD.sub (ws' := [((a 0), .inr (8, (fX8 a (nI tx) fp (nI t0) wd (nI we) nu na (nI rd) ts (nI ru) (nI rw) (nI (ca + 1)) df db sd))), (aI k (a 36) 4 f_5), (aI k (a 37) 4 (nF d_6))]) [0, 1, 2] (by decide) rfl
        exact W.iret (v := (nI ((ca + 1) - 1))) hx hb hr (fun t ht hW => ⟨⟨(nI ((ca + 1) - 1)), ((ca + 1), f_5, d_6), rfl, ⟨⟨fun _ => ⟨fun _ => ⟨rfl, rfl⟩, fun h => absurd (by omega) h⟩, fun h => absurd ⟨hw_1, hw_2⟩ h⟩, by omega, (by rw [hd_6]; exact up_le hbr (by omega))⟩, by rw [ht]; exact hP9, hD9⟩, hS.F ht⟩) hS.2.2 dX8_car_76
      · have c_4 := (nI_eq (a := ca) (b := 4) (by omega) (by omega)).mp c_4
        refine lv_sipush (v := (-1004)) hx hb dX8_car_36 (by decide) ?_
        have hP9 := hP.sub (ws' := [((a 0), .inr (8, (fX8 a (nI tx) fp (nI t0) wd (nI we) nu na (nI rd) ts (nI ru) (nI rw) (nI ca) df db sd))), (aI k (a 36) 4 fwalks), (aI k (a 37) 4 (nF br))]) [0, 1, 2] rfl
        have hD9 := hD.sub (ws' := [((a 0), .inr (8, (fX8 a (nI tx) fp (nI t0) wd (nI we) nu na (nI rd) ts (nI ru) (nI rw) (nI ca) df db sd))), (aI k (a 36) 4 fwalks), (aI k (a 37) 4 (nF br))]) [0, 1, 2] (by decide) rfl
        exact W.iret (v := (-1004)) hx hb hr (fun t ht hW => ⟨⟨(-1004), (ca, fwalks, br), rfl, ⟨⟨fun _ => ⟨fun h => absurd h (by omega), fun _ => ⟨rfl, rfl⟩⟩, fun h => absurd ⟨hw_1, hw_2⟩ h⟩, by omega, hbr⟩, by rw [ht]; exact hP9, hD9⟩, hS.F ht⟩) hS.2.2 dX8_car_39
    · refine lv_if_ne (tgt := 28) hx hb dX8_car_21 (by decide) (fun h => absurd (by decide) h) (fun _ => ?_)
      refine lv_sipush (v := (-1002)) hx hb dX8_car_24 (by decide) ?_
      have hP9 := hP.sub (ws' := [((a 0), .inr (8, (fX8 a (nI tx) fp (nI t0) wd (nI we) nu na (nI rd) ts (nI ru) (nI rw) (nI ca) df db sd))), (aI k (a 36) 4 fwalks), (aI k (a 37) 4 (nF br))]) [0, 1, 2] rfl
      have hD9 := hD.sub (ws' := [((a 0), .inr (8, (fX8 a (nI tx) fp (nI t0) wd (nI we) nu na (nI rd) ts (nI ru) (nI rw) (nI ca) df db sd))), (aI k (a 36) 4 fwalks), (aI k (a 37) 4 (nF br))]) [0, 1, 2] (by decide) rfl
      exact W.iret (v := (-1002)) hx hb hr (fun t ht hW => ⟨⟨(-1002), (ca, fwalks, br), rfl, ⟨⟨fun h => absurd h.2 hw_2, fun _ => ⟨rfl, rfl⟩⟩, by omega, hbr⟩, by rw [ht]; exact hP9, hD9⟩, hS.F ht⟩) hS.2.2 dX8_car_27
  · refine lv_if_eq (tgt := 24) hx hb dX8_car_9 (by decide) (fun _ => ?_) (fun h => absurd (by decide) h)
    refine lv_sipush (v := (-1002)) hx hb dX8_car_24 (by decide) ?_
    have hP9 := hP.sub (ws' := [((a 0), .inr (8, (fX8 a (nI tx) fp (nI t0) wd (nI we) nu na (nI rd) ts (nI ru) (nI rw) (nI ca) df db sd))), (aI k (a 36) 4 fwalks), (aI k (a 37) 4 (nF br))]) [0, 1, 2] rfl
    have hD9 := hD.sub (ws' := [((a 0), .inr (8, (fX8 a (nI tx) fp (nI t0) wd (nI we) nu na (nI rd) ts (nI ru) (nI rw) (nI ca) df db sd))), (aI k (a 36) 4 fwalks), (aI k (a 37) 4 (nF br))]) [0, 1, 2] (by decide) rfl
    exact W.iret (v := (-1002)) hx hb hr (fun t ht hW => ⟨⟨(-1002), (ca, fwalks, br), rfl, ⟨⟨fun h => absurd h.1 hw_1, fun _ => ⟨rfl, rfl⟩⟩, by omega, hbr⟩, by rw [ht]; exact hP9, hD9⟩, hS.F ht⟩) hS.2.2 dX8_car_27


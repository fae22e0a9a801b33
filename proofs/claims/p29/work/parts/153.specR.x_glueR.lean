theorem x_glueR : True := trivial
theorem nI_inj {a b : Nat} (ha : a < 2 ^ 31) (hb : b < 2 ^ 31) (h : nI a = nI b) : a = b := (nI_eq ha hb).mp h
theorem upd_ne {f : Nat → Int32} {i j : Nat} {x : Int32} (h : ¬ j = i) : upd f i x j = f j := by
  unfold upd
  rw [if_neg h]
theorem upd_eq {f : Nat → Int32} {i : Nat} {x : Int32} : upd f i x i = x := by
  unfold upd
  rw [if_pos rfl]
def sawP (n : Nat) (r : Int32) (n' : Nat) : Prop := (n < 24 → r = nI (n + 1) ∧ n' = n + 1) ∧ (¬ n < 24 → r = -1004 ∧ n' = n)
theorem sawP_fun {n : Nat} {r q : Int32} {x y : Nat} (h : sawP n r x) (g : sawP n q y) : r = q ∧ x = y := by
  rcases Classical.em (n < 24) with c | c
  · exact ⟨(h.1 c).1.trans (g.1 c).1.symm, (h.1 c).2.trans (g.1 c).2.symm⟩
  · exact ⟨(h.2 c).1.trans (g.2 c).1.symm, (h.2 c).2.trans (g.2 c).2.symm⟩
def carP (p0 p1 : Int32) (n : Nat) (r : Int32) (n' : Nat) : Prop := (inB p0 0 99 ∧ inB p1 0 24 → (n < 4 → r = nI n ∧ n' = n + 1) ∧ (¬ n < 4 → r = -1004 ∧ n' = n)) ∧ (¬ (inB p0 0 99 ∧ inB p1 0 24) → r = -1002 ∧ n' = n)
theorem carP_fun {p0 p1 : Int32} {n : Nat} {r q : Int32} {x y : Nat} (h : carP p0 p1 n r x) (g : carP p0 p1 n q y) : r = q ∧ x = y := by
  rcases Classical.em (inB p0 0 99 ∧ inB p1 0 24) with b | b
  · rcases Classical.em (n < 4) with c | c
    · exact ⟨((h.1 b).1 c).1.trans ((g.1 b).1 c).1.symm, ((h.1 b).1 c).2.trans ((g.1 b).1 c).2.symm⟩
    · exact ⟨((h.1 b).2 c).1.trans ((g.1 b).2 c).1.symm, ((h.1 b).2 c).2.trans ((g.1 b).2 c).2.symm⟩
  · exact ⟨(h.2 b).1.trans (g.2 b).1.symm, (h.2 b).2.trans (g.2 b).2.symm⟩
def gbP (pz f0 f1 : Int32) (a0 a1 a : Nat) (r : Int32) (a' : Nat) : Prop := (pz = 0 → (f0 = 0 → r = -1003 ∧ a' = a) ∧ (¬ f0 = 0 → r = 1 ∧ a' = a0)) ∧ (pz = 1 → (f1 = 0 → r = -1003 ∧ a' = a) ∧ (¬ f1 = 0 → r = 1 ∧ a' = a1)) ∧ (¬ pz = 0 → ¬ pz = 1 → r = -1001 ∧ a' = a)
theorem gbP_fun {pz f0 f1 : Int32} {a0 a1 a : Nat} {r q : Int32} {x y : Nat} (h : gbP pz f0 f1 a0 a1 a r x) (g : gbP pz f0 f1 a0 a1 a q y) : r = q ∧ x = y := by
  rcases Classical.em (pz = 0) with b | b
  · rcases Classical.em (f0 = 0) with c | c
    · exact ⟨((h.1 b).1 c).1.trans ((g.1 b).1 c).1.symm, ((h.1 b).1 c).2.trans ((g.1 b).1 c).2.symm⟩
    · exact ⟨((h.1 b).2 c).1.trans ((g.1 b).2 c).1.symm, ((h.1 b).2 c).2.trans ((g.1 b).2 c).2.symm⟩
  · rcases Classical.em (pz = 1) with b1 | b1
    · rcases Classical.em (f1 = 0) with c | c
      · exact ⟨((h.2.1 b1).1 c).1.trans ((g.2.1 b1).1 c).1.symm, ((h.2.1 b1).1 c).2.trans ((g.2.1 b1).1 c).2.symm⟩
      · exact ⟨((h.2.1 b1).2 c).1.trans ((g.2.1 b1).2 c).1.symm, ((h.2.1 b1).2 c).2.trans ((g.2.1 b1).2 c).2.symm⟩
    · exact ⟨(h.2.2 b b1).1.trans (g.2.2 b b1).1.symm, (h.2.2 b b1).2.trans (g.2.2 b b1).2.symm⟩
theorem gb_out {pz f0 f1 : Int32} {a0 a1 a : Nat} (h : ¬ inB pz 0 1) : gbP pz f0 f1 a0 a1 a (-1001) a :=
  ⟨fun e => absurd (by rw [e]; exact ⟨by decide, by decide⟩) h, fun e => absurd (by rw [e]; exact ⟨by decide, by decide⟩) h, fun _ _ => ⟨rfl, rfl⟩⟩
theorem gb_n0 {f0 f1 : Int32} {a0 a1 a : Nat} (h : f0 = 0) : gbP 0 f0 f1 a0 a1 a (-1003) a := ⟨fun _ => ⟨fun _ => ⟨rfl, rfl⟩, fun g => absurd h g⟩, fun e => absurd e (by decide), fun e => absurd rfl e⟩
theorem gb_n1 {f0 f1 : Int32} {a0 a1 a : Nat} (h : f1 = 0) : gbP 1 f0 f1 a0 a1 a (-1003) a := ⟨fun e => absurd e (by decide), fun _ => ⟨fun _ => ⟨rfl, rfl⟩, fun g => absurd h g⟩, fun _ e => absurd rfl e⟩
theorem gb_k0 {f0 f1 : Int32} {a0 a1 a a' : Nat} (h : ¬ f0 = 0) (g : a' = a0) : gbP 0 f0 f1 a0 a1 a 1 a' := ⟨fun _ => ⟨fun e => absurd e h, fun _ => ⟨rfl, g⟩⟩, fun e => absurd e (by decide), fun e => absurd rfl e⟩
theorem gb_k1 {f0 f1 : Int32} {a0 a1 a a' : Nat} (h : ¬ f1 = 0) (g : a' = a1) : gbP 1 f0 f1 a0 a1 a 1 a' := ⟨fun e => absurd e (by decide), fun _ => ⟨fun e => absurd e h, fun _ => ⟨rfl, g⟩⟩, fun _ e => absurd rfl e⟩
/-- an image behind keep -/
def kpN (pz k f f' : Int32) (a b a' b' a2 b2 : Nat) : Prop := (pz = k → f' = 1 ∧ a' = a2 ∧ b' = b2) ∧ (¬ pz = k → f' = f ∧ a' = a ∧ b' = b)
def kpI (pz k f f' a b a' b' : Int32) (a2 b2 : Nat) : Prop := (pz = k → f' = 1 ∧ a' = nI a2 ∧ b' = nI b2) ∧ (¬ pz = k → f' = f ∧ a' = a ∧ b' = b)
theorem kp_rel {pz k f f' g g' : Int32} {a b a' b' a2 b2 : Nat} {i j i' j' : Int32} (h : kpN pz k f f' a b a' b' a2 b2) (q : kpI pz k g g' i j i' j' a2 b2) (e : f = g) (ei : i = nI a) (ej : j = nI b) : f' = g' ∧ i' = nI a' ∧ j' = nI b' := by
  rcases Classical.em (pz = k) with c | c
  · obtain ⟨h1, h2, h3⟩ := h.1 c
    obtain ⟨q1, q2, q3⟩ := q.1 c
    rw [h1, h2, h3, q1, q2, q3]
    exact ⟨rfl, rfl, rfl⟩
  · obtain ⟨h1, h2, h3⟩ := h.2 c
    obtain ⟨q1, q2, q3⟩ := q.2 c
    rw [h1, h2, h3, q1, q2, q3]
    exact ⟨e, ei, ej⟩
theorem no_in {pz : Int32} (h : ¬ inB pz 0 1) : ¬ pz = 0 ∧ ¬ pz = 1 := ⟨fun e => h (by rw [e]; exact ⟨by decide, by decide⟩), fun e => h (by rw [e]; exact ⟨by decide, by decide⟩)⟩


set_option maxHeartbeats 4000000 in
set_option maxRecDepth 100000 in
theorem m_clear2 (l : Launch) (D : va_G) (k : Nat → ClassId) (st : Nat → Nat) (lo : Nat) (a : Nat → Nat) (tx : Nat) (t0 : Nat) (we : Nat) (rd : Nat) (ru : Nat) (rw : Nat) (ca : Nat) (fp : Int32) (wd : Int64) (nu : Int32) (na : Int32) (ts : Int32) (df : Int32) (db : Int32) (sd : Int32) (hrw : rw ≤ 24) : CWi l D k st lo yX8_clear cX8_clear 2 (some .int) ({ frames := 0, cells := 0, slots := 0, locals := 0 }) 0 0 [.ref (a 0)] [((a 0), .inr (8, (fX8 a (nI tx) fp (nI t0) wd (nI we) nu na (nI rd) ts (nI ru) (nI rw) (nI ca) df db sd)))] (fun (r : Int32) (rw_ : Nat) => r = nI rw ∧ rw_ = 0) (fun (rw_ : Nat) => [((a 0), .inr (8, (fX8 a (nI tx) fp (nI t0) wd (nI we) nu na (nI rd) ts (nI ru) (nI rw_) (nI ca) df db sd)))]) := by
  intro sz
  refine Met.ofW (cc := cX8_clear) (maxL := 2) (ret := (some .int)) (by decide) rfl ?_
  intro p e s m args below meth c s₁ B hml hv
  obtain ⟨rfl, hsz, hlo, hP, hK, hDL, hZ⟩ := hv
  have hx := B.exec
  have hb := B.bytes
  have hr := B.returns
  have hts := WS_ts B.pre
  have hown : s.vm.findClass RX8 = some m.cls := findClass_of_methodNamed B.named
  have hlocks := B.notSynchronized
  subst hsz
  have hD := hDL.self (sz := s.heap.size)
  have hAlo := A_lo hDL hlo
  generalize hAe : va_A [((a 0), .inr (8, (fX8 a (nI tx) fp (nI t0) wd (nI we) nu na (nI rd) ts (nI ru) (nI rw) (nI ca) df db sd)))] s.heap.size = A at hD hAlo ⊢
  have hA : ∀ q : Nat, s.heap.size ≤ q → A q := fun q h => by rw [← hAe]; exact Or.inr h
  have hS : va_S A s.heap s.heap [] := va_S.rf
  have hl := lv_entry ([.ref (a 0)]) (n := 2) (Nat.le_of_ble_eq_true rfl)
  rw [lg_entry_eq]
  generalize (lg_sl ([.ref (a 0)]) ++ List.replicate (2 - (lg_sl ([.ref (a 0)])).length) Slot.unset).toArray = ls at hl ⊢
  have hl : lv_has ls 2 [(0, .ref (a 0))] := hl
  refine lv_aload_n hx hb dX8_clear_0 rfl (lv_at hl 0 rfl) ?_
  refine va_get (D := D) (ci := 8) (v := .int (nI rw)) (C := RX8) (T := TX8) (N := 44) hx hb hts inX8 hown hK hP 0 rfl rfl 30 (by decide) (hts _ tw_1003) (fun _ h9 => h9) rfl dX8_clear_1 ?_
  refine lv_istore_n (lv' := [(1, .int (nI rw)), (0, .ref (a 0))]) hx hb dX8_clear_4 rfl hl (by decide) rfl (fun ls hl => ?_)
  refine lv_aload_n hx hb dX8_clear_5 rfl (lv_at hl 1 rfl) ?_
  refine lv_iconst (v := 0) hx hb dX8_clear_6 (by decide) ?_
  refine va_put (D := D) (ci := 8) (v := .int 0) (ty := .int) (C := RX8) (T := TX8) (N := 44) hx hb hts inX8 tyX8 tyX8_ok nmX8 hown hK hP hD hS 0 rfl rfl 30 (by decide) (hts _ tw_1003) (fun _ h9 => h9) rfl (by decide +kernel) rfl rfl (Nat.le_of_ble_eq_true rfl) dX8_clear_7 (fun H locs hP hD hS => ?_)
  replace hP : va_P D classes [((a 0), .inr (8, (fX8 a (nI tx) fp (nI t0) wd (nI we) nu na (nI rd) ts (nI ru) 0 (nI ca) df db sd)))] H := hP
  replace hD : va_D A [((a 0), .inr (8, (fX8 a (nI tx) fp (nI t0) wd (nI we) nu na (nI rd) ts (nI ru) 0 (nI ca) df db sd)))] := hD
  refine lv_iload_n hx hb dX8_clear_10 rfl (lv_at hl 0 rfl) ?_
  have hP9 := hP.sub (ws' := [((a 0), .inr (8, (fX8 a (nI tx) fp (nI t0) wd (nI we) nu na (nI rd) ts (nI ru) 0 (nI ca) df db sd)))]) [0] rfl
  have hD9 := hD.sub (ws' := [((a 0), .inr (8, (fX8 a (nI tx) fp (nI t0) wd (nI we) nu na (nI rd) ts (nI ru) 0 (nI ca) df db sd)))]) [0] (by decide) rfl
  exact W.iret (v := (nI rw)) hx hb hr (fun t ht hW => ⟨⟨(nI rw), 0, rfl, ⟨rfl, rfl⟩, by rw [ht]; exact hP9, hD9⟩, hS.F ht⟩) hS.2.2 dX8_clear_11


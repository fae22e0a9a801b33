theorem x_glueR : True := trivial
theorem nI_inj {a b : Nat} (ha : a < 2 ^ 31) (hb : b < 2 ^ 31) (h : nI a = nI b) : a = b := (nI_eq ha hb).mp h
theorem upd_ne {f : Nat → Int32} {i j : Nat} {x : Int32} (h : ¬ j = i) : upd f i x j = f j := by
  unfold upd
  rw [if_neg h]
theorem upd_eq {f : Nat → Int32} {i : Nat} {x : Int32} : upd f i x i = x := by
  unfold upd
  rw [if_pos rfl]
def sawP (n : Nat) (r : Int32) (n' : Nat) : Prop := (n < 24 → r = nI (n + 1) ∧ n' = n + 1) ∧ (¬ n < 24 → r = -1004 ∧ n' = n)
theorem sawP_fun {n : Nat} {r q : Int32} {x y : Nat} (h : sawP n r x) (g : sawP n q y) : r = q ∧ x = y := by
  rcases Classical.em (n < 24) with c | c
  · exact ⟨(h.1 c).1.trans (g.1 c).1.symm, (h.1 c).2.trans (g.1 c).2.symm⟩
  · exact ⟨(h.2 c).1.trans (g.2 c).1.symm, (h.2 c).2.trans (g.2 c).2.symm⟩
def carP (p0 p1 : Int32) (n : Nat) (r : Int32) (n' : Nat) : Prop := (inB p0 0 99 ∧ inB p1 0 24 → (n < 4 → r = nI n ∧ n' = n + 1) ∧ (¬ n < 4 → r = -1004 ∧ n' = n)) ∧ (¬ (inB p0 0 99 ∧ inB p1 0 24) → r = -1002 ∧ n' = n)
theorem carP_fun {p0 p1 : Int32} {n : Nat} {r q : Int32} {x y : Nat} (h : carP p0 p1 n r x) (g : carP p0 p1 n q y) : r = q ∧ x = y := by
  rcases Classical.em (inB p0 0 99 ∧ inB p1 0 24) with b | b
  · rcases Classical.em (n < 4) with c | c
    · exact ⟨((h.1 b).1 c).1.trans ((g.1 b).1 c).1.symm, ((h.1 b).1 c).2.trans ((g.1 b).1 c).2.symm⟩
    · exact ⟨((h.1 b).2 c).1.trans ((g.1 b).2 c).1.symm, ((h.1 b).2 c).2.trans ((g.1 b).2 c).2.symm⟩
  · exact ⟨(h.2 b).1.trans (g.2 b).1.symm, (h.2 b).2.trans (g.2 b).2.symm⟩
def gbP (pz f0 f1 : Int32) (a0 a1 a : Nat) (r : Int32) (a' : Nat) : Prop := (pz = 0 → (f0 = 0 → r = -1003 ∧ a' = a) ∧ (¬ f0 = 0 → r = 1 ∧ a' = a0)) ∧ (pz = 1 → (f1 = 0 → r = -1003 ∧ a' = a) ∧ (¬ f1 = 0 → r = 1 ∧ a' = a1)) ∧ (¬ pz = 0 → ¬ pz = 1 → r = -1001 ∧ a' = a)
theorem gbP_fun {pz f0 f1 : Int32} {a0 a1 a : Nat} {r q : Int32} {x y : Nat} (h : gbP pz f0 f1 a0 a1 a r x) (g : gbP pz f0 f1 a0 a1 a q y) : r = q ∧ x = y := by
  rcases Classical.em (pz = 0) with b | b
  · rcases Classical.em (f0 = 0) with c | c
    · exact ⟨((h.1 b).1 c).1.trans ((g.1 b).1 c).1.symm, ((h.1 b).1 c).2.trans ((g.1 b).1 c).2.symm⟩
    · exact ⟨((h.1 b).2 c).1.trans ((g.1 b).2 c).1.symm, ((h.1 b).2 c).2.trans ((g.1 b).2 c).2.symm⟩
  · rcases Classical.em (pz = 1) with b1 | b1
    · rcases Classical.em (f1 = 0) with c | c
      · exact ⟨((h.2.1 b1).1 c).1.trans ((g.2.1 b1).1 c).1.symm, ((h.2.1 b1).1 c).2.trans ((g.2.1 b1).1 c).2.symm⟩
      · exact ⟨((h.2.1 b1).2 c).1.trans ((g.2.1 b1).2 c).1.symm, ((h.2.1 b1).2 c).2.trans ((g.2.1 b1).2 c).2.symm⟩
    · exact ⟨(h.2.2 b b1).1.trans (g.2.2 b b1).1.symm, (h.2.2 b b1).2.trans (g.2.2 b b1).2.symm⟩
theorem gb_out {pz f0 f1 : Int32} {a0 a1 a : Nat} (h : ¬ inB pz 0 1) : gbP pz f0 f1 a0 a1 a (-1001) a :=
  ⟨fun e => absurd (by rw [e]; exact ⟨by decide, by decide⟩) h, fun e => absurd (by rw [e]; exact ⟨by decide, by decide⟩) h, fun _ _ => ⟨rfl, rfl⟩⟩
theorem gb_n0 {f0 f1 : Int32} {a0 a1 a : Nat} (h : f0 = 0) : gbP 0 f0 f1 a0 a1 a (-1003) a := ⟨fun _ => ⟨fun _ => ⟨rfl, rfl⟩, fun g => absurd h g⟩, fun e => absurd e (by decide), fun e => absurd rfl e⟩
theorem gb_n1 {f0 f1 : Int32} {a0 a1 a : Nat} (h : f1 = 0) : gbP 1 f0 f1 a0 a1 a (-1003) a := ⟨fun e => absurd e (by decide), fun _ => ⟨fun _ => ⟨rfl, rfl⟩, fun g => absurd h g⟩, fun _ e => absurd rfl e⟩
theorem gb_k0 {f0 f1 : Int32} {a0 a1 a a' : Nat} (h : ¬ f0 = 0) (g : a' = a0) : gbP 0 f0 f1 a0 a1 a 1 a' := ⟨fun _ => ⟨fun e => absurd e h, fun _ => ⟨rfl, g⟩⟩, fun e => absurd e (by decide), fun e => absurd rfl e⟩
theorem gb_k1 {f0 f1 : Int32} {a0 a1 a a' : Nat} (h : ¬ f1 = 0) (g : a' = a1) : gbP 1 f0 f1 a0 a1 a 1 a' := ⟨fun e => absurd e (by decide), fun _ => ⟨fun e => absurd e h, fun _ => ⟨rfl, g⟩⟩, fun _ e => absurd rfl e⟩
/-- an image behind keep -/
def kpN (pz k f f' : Int32) (a b a' b' a2 b2 : Nat) : Prop := (pz = k → f' = 1 ∧ a' = a2 ∧ b' = b2) ∧ (¬ pz = k → f' = f ∧ a' = a ∧ b' = b)
def kpI (pz k f f' a b a' b' : Int32) (a2 b2 : Nat) : Prop := (pz = k → f' = 1 ∧ a' = nI a2 ∧ b' = nI b2) ∧ (¬ pz = k → f' = f ∧ a' = a ∧ b' = b)
theorem kp_rel {pz k f f' g g' : Int32} {a b a' b' a2 b2 : Nat} {i j i' j' : Int32} (h : kpN pz k f f' a b a' b' a2 b2) (q : kpI pz k g g' i j i' j' a2 b2) (e : f = g) (ei : i = nI a) (ej : j = nI b) : f' = g' ∧ i' = nI a' ∧ j' = nI b' := by
  rcases Classical.em (pz = k) with c | c
  · obtain ⟨h1, h2, h3⟩ := h.1 c
    obtain ⟨q1, q2, q3⟩ := q.1 c
    rw [h1, h2, h3, q1, q2, q3]
    exact ⟨rfl, rfl, rfl⟩
  · obtain ⟨h1, h2, h3⟩ := h.2 c
    obtain ⟨q1, q2, q3⟩ := q.2 c
    rw [h1, h2, h3, q1, q2, q3]
    exact ⟨e, ei, ej⟩
theorem no_in {pz : Int32} (h : ¬ inB pz 0 1) : ¬ pz = 0 ∧ ¬ pz = 1 := ⟨fun e => h (by rw [e]; exact ⟨by decide, by decide⟩), fun e => h (by rw [e]; exact ⟨by decide, by decide⟩)⟩


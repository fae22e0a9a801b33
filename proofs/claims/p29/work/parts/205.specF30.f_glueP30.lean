theorem f_glueP30 : True := trivial
theorem kp_nn {pz k a s a' s' a2 s2 : Int32} {w w' w2 : Nat → Int32} (h : kpX pz k a s w a' s' w' a2 s2 w2) (h1 : ¬ s < 0) (h2 : ¬ s2 < 0) : ¬ s' < 0 := by
  rcases Classical.em (pz = k) with c | c
  · rw [(h.1 c).2.1]
    exact h2
  · rw [(h.2 c).2.1]
    exact h1
theorem gb_nn {pz f0 f1 a0 s0 a1 s1 a s a' s' : Int32} {w0 w1 w w' : Nat → Int32} (h : gbX pz f0 f1 (a0, s0, w0) (a1, s1, w1) (a, s, w) (a', s', w')) (h0 : ¬ s0 < 0) (h1 : ¬ s1 < 0) (h2 : ¬ s < 0) : ¬ s' < 0 := by
  rcases Classical.em (pz = 0 ∧ ¬ f0 = 0) with c | c
  · rw [show s' = s0 from (h.1 c.1 c.2).2.1]
    exact h0
  · rcases Classical.em (pz = 1 ∧ ¬ f1 = 0) with d | d
    · rw [show s' = s1 from (h.2.1 d.1 d.2).2.1]
      exact h1
    · rw [show s' = s from (h.2.2 c d).2.1]
      exact h2
theorem sed_nn {p s r s' : Int32} (h : sedP p s r s') (hs : ¬ s < 0) : ¬ s' < 0 := by
  rcases Classical.em (p < 0) with c | c
  · rw [(h.1 c).2]
    exact hs
  · rw [(h.2 c).2]
    exact c
theorem gk_of {sd se : Nat → SDt} (e : ∀ i, i < 3 → sd i = se i) (h : ∀ i, i < 3 → 0 < (sd i).1 → okG (sd i).2.1) : ∀ i, i < 3 → 0 < (se i).1 → okG (se i).2.1 := by
  intro i hi hp
  rw [← e i hi] at hp ⊢
  exact h i hi hp
theorem okg_0 : ∀ i, i < 3 → 0 < (d3 zX zX zX i).1 → okG (d3 zX zX zX i).2.1 := by
  intro i _ h
  rw [z3] at h
  exact absurd h (Nat.lt_irrefl 0)


theorem m_glue6 : True := trivial
theorem sg_upd (se tm : Nat → Nat) (g : Nat → Int32) (i : Nat) (x : Int32) (h5 : i % 9 ≠ 5) (h7 : i % 9 ≠ 7) : upd (sg se tm g) i x = sg se tm (upd g i x) := by
  funext j
  unfold upd sg
  by_cases h : j = i
  · subst h
    simp [h5, h7]
  · simp [h]
theorem sg_upd5 (se tm : Nat → Nat) (g : Nat → Int32) (s a : Nat) : upd (sg se tm g) (9 * s + 5) (nI a) = sg (fun j => if j = s then a else se j) tm g := by
  funext j
  unfold upd sg
  by_cases h : j = 9 * s + 5
  · subst h
    simp only [if_true, if_pos (show (9 * s + 5) % 9 = 5 by omega), if_pos (show (9 * s + 5) / 9 = s by omega)]
  · rw [if_neg h]
    by_cases h5 : j % 9 = 5
    · rw [if_pos h5, if_pos h5]
      show nI (se (j / 9)) = nI (if j / 9 = s then a else se (j / 9))
      rw [if_neg (show ¬ j / 9 = s by omega)]
    · rw [if_neg h5, if_neg h5]
theorem sg_upd7 (se tm : Nat → Nat) (g : Nat → Int32) (s a : Nat) : upd (sg se tm g) (9 * s + 7) (nI a) = sg se (fun j => if j = s then a else tm j) g := by
  funext j
  unfold upd sg
  by_cases h : j = 9 * s + 7
  · subst h
    simp only [if_true, if_neg (show ¬ (9 * s + 7) % 9 = 5 by omega), if_pos (show (9 * s + 7) % 9 = 7 by omega), if_pos (show (9 * s + 7) / 9 = s by omega)]
  · rw [if_neg h]
    by_cases h5 : j % 9 = 5
    · rw [if_pos h5, if_pos h5]
    · rw [if_neg h5, if_neg h5]
      by_cases h7 : j % 9 = 7
      · rw [if_pos h7, if_pos h7]
        show nI (tm (j / 9)) = nI (if j / 9 = s then a else tm (j / 9))
        rw [if_neg (show ¬ j / 9 = s by omega)]
      · rw [if_neg h7, if_neg h7]
theorem up_le {d : Nat → Nat} {s a b : Nat} (h : ∀ j, d j ≤ b) (ha : a ≤ b) : ∀ j, (fun j => if j = s then a else d j) j ≤ b := by
  intro j
  show (if j = s then a else d j) ≤ b
  split
  · exact ha
  · exact h j


theorem m_glue9 : True := trivial
/-- no door, or one of 24 -/
def dvOK (f : Nat → Int32) : Prop := ∀ j, f j < 0 ∨ ∃ d : Nat, d < 24 ∧ f j = nI d
theorem dvOK_upd {f : Nat → Int32} (h : dvOK f) (i : Nat) (x : Int32) (hx : x < 0 ∨ ∃ d : Nat, d < 24 ∧ x = nI d) : dvOK (upd f i x) := by
  intro j
  unfold upd
  by_cases hj : j = i
  · rw [if_pos hj]
    exact hx
  · rw [if_neg hj]
    exact h j


theorem m_glue7 : True := trivial
theorem shl1 : ∀ k, k < 31 → (1 : Int32) <<< (nI k &&& 31) = nI (2 ^ k) := by decide
theorem pw8 {k : Nat} (h : k ≤ 3) : 1 ≤ 2 ^ k ∧ 2 ^ k ≤ 8 := by
  rcases (show k = 0 ∨ k = 1 ∨ k = 2 ∨ k = 3 by omega) with rfl | rfl | rfl | rfl <;> decide
theorem pw4 {k : Nat} (h : k ≤ 2) : 1 ≤ 2 ^ k ∧ 2 ^ k ≤ 4 := by
  rcases (show k = 0 ∨ k = 1 ∨ k = 2 by omega) with rfl | rfl | rfl <;> decide
theorem pw24 {k : Nat} (h : k ≤ 24) : 1 ≤ 2 ^ k ∧ 2 ^ k ≤ 16777216 := by
  refine ⟨Nat.one_le_two_pow, ?_⟩
  exact Nat.pow_le_pow_right (by omega) h
theorem or8 : ∀ a, a < 8 → ∀ b, b < 8 → ∃ z : Nat, z < 8 ∧ nI a ||| nI b = nI z := by
  intro a ha b hb
  have h : ∀ a, a < 8 → ∀ b, b < 8 → nI a ||| nI b = nI (a ||| b) ∧ a ||| b < 8 := by decide
  exact ⟨a ||| b, (h a ha b hb).2, (h a ha b hb).1⟩


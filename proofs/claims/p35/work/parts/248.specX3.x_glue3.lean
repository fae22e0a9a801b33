theorem x_glue3 : True := trivial
theorem clsplit {n : Nat} (h : 1 ≤ n ∧ n ≤ 9 ∧ n ≠ 8) : n = 1 ∨ n = 2 ∨ n = 3 ∨ n = 4 ∨ n = 5 ∨ n = 6 ∨ n = 7 ∨ n = 9 := by omega


theorem x_glue5 : True := trivial
theorem whsplit {n : Nat} (h : n ≤ 2) : n = 0 ∨ n = 1 ∨ n = 2 := by omega


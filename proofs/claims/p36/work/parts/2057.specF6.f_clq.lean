theorem f_clq : True := trivial
theorem lg0 {x y : Int64} : lg_cmp x y = 0 ↔ x = y := ⟨lgc0, fun h => Classical.not_not.mp (fun q => lgn q h)⟩
theorem fM_clq (w : Int64) : fM_clause w = clQ w := by
  unfold fM_clause clQ
  simp only [lg0]
  by_cases h0 : w = 2432449
  · subst h0
    decide
  by_cases h1 : w = 774500
  · subst h1
    decide
  by_cases h2 : w = 453773
  · subst h2
    decide
  by_cases h3 : w = 2487218
  · subst h3
    decide
  by_cases h4 : w = 237470
  · subst h4
    decide
  by_cases h5 : w = 1473549098
  · subst h5
    decide
  by_cases h6 : w = 13991
  · subst h6
    decide
  by_cases h7 : w = 9876874
  · subst h7
    decide
  by_cases h8 : w = 101329007
  · subst h8
    decide
  simp only [h0, h1, h2, h3, h4, h5, h6, h7, h8, if_false]
  decide


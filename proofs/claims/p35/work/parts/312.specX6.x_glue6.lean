theorem x_glue6 : True := trivial
theorem an16 : ∀ s, s < 16 → ∀ c, c < 4 → ∃ z : Nat, z ≤ s ∧ nI s &&& (((1 : Int32) <<< (nI c &&& 31)) ^^^ (-1)) = nI z := by
  have h : ∀ s, s < 16 → ∀ c, c < 4 → s &&& (15 - 2 ^ c) ≤ s ∧ nI s &&& (((1 : Int32) <<< (nI c &&& 31)) ^^^ (-1)) = nI (s &&& (15 - 2 ^ c)) := by decide +kernel
  intro s hs c hc
  exact ⟨_, (h s hs c hc).1, (h s hs c hc).2⟩


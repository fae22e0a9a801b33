theorem m_glue14 : True := trivial
theorem sg_0 : sg (fun _ => 0) (fun _ => 0) (fun _ => 0) = (fun _ => 0) := by
  funext j
  unfold sg
  by_cases h5 : j % 9 = 5
  · rw [if_pos h5]; rfl
  · rw [if_neg h5]
    by_cases h7 : j % 9 = 7
    · rw [if_pos h7]; rfl
    · rw [if_neg h7]
theorem dvOK_0 : dvOK (fun _ => 0) := fun _ => .inr ⟨0, by omega, rfl⟩


theorem x_glue9 : True := trivial
theorem vv_0 : vv 0 0 0 (fun _ => 0) = (fun _ => 0) := by
  funext j
  unfold vv
  by_cases h0 : j = 0
  · rw [if_pos h0]; rfl
  · rw [if_neg h0]
    by_cases h6 : j = 6
    · rw [if_pos h6]; rfl
    · rw [if_neg h6]
      by_cases h8 : j = 8
      · rw [if_pos h8]; rfl
      · rw [if_neg h8]


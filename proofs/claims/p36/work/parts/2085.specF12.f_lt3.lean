theorem f_lt3 : True := trivial
theorem ltx3 {x : Int32} (h : x ≤ 2) : x < 3 := by
  rw [Int32.lt_iff_toInt_lt]
  rw [Int32.le_iff_toInt_le] at h
  have e1 : (2 : Int32).toInt = 2 := by decide
  have e2 : (3 : Int32).toInt = 3 := by decide
  omega


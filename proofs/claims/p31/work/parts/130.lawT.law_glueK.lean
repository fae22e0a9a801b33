theorem law_glueK : True := trivial
/-- array classes of the tables' words -/
theorem K_prim {args : Array Value} {s : State} {ty : FieldType} (h : (Cond.arrayClass ty).before args s = true) : ∃ cA : ClassId, ArrOfT s cA ty ∧ s.vm.findClass ("[" ++ ty.toString) = some cA := by
  obtain ⟨cA, kA, comp, h1, h2, h3⟩ := Cond.arrayClass_spec h
  exact ⟨cA, fun n z => ⟨fun k h => (by cases h), kA, h2, comp, h3⟩, h1⟩
theorem K_obj {args : Array Value} {s : State} {C : String} (h : (Cond.arrayOver (.object C)).before args s = true) : ∃ cA : ClassId, ArrOfT s cA (.object C) ∧ va_RA s cA (.object C) := by
  obtain ⟨comp, cA, kA, h1, -, h3, h4, h5⟩ := Cond.arrayOver_spec h
  exact ⟨cA, fun n z => ⟨fun k h => (by cases h), kA, h3, comp, h4⟩, kA, comp, h3, h4, h1, h5⟩
theorem law_K {args : Array Value} {s : State} (hts0 : ∀ w ∈ lw_tbl, w.before args s = true) : ∃ (D : va_G) (k : Nat → ClassId), va_K D classes (TY k) s := by
  have hts := LW_lw hts0
  obtain ⟨c0, iS0, hKn0⟩ := u_known (C := RX0) (T := TX0) (N := 5) (n := 5) hts inX0 (hts0 (.instantiable RX0 5) (List.mem_of_getElem? (i := 261) (by decide +kernel)))
  obtain ⟨c1, iS1, hKn1⟩ := u_known (C := RX1) (T := TX1) (N := 8) (n := 8) hts inX1 (hts0 (.instantiable RX1 8) (List.mem_of_getElem? (i := 230) (by decide +kernel)))
  obtain ⟨c2, iS2, hKn2⟩ := u_known (C := RX2) (T := TX2) (N := 5) (n := 5) hts inX2 (hts0 (.instantiable RX2 5) (List.mem_of_getElem? (i := 205) (by decide +kernel)))
  obtain ⟨c3, iS3, hKn3⟩ := u_known (C := RX3) (T := TX3) (N := 5) (n := 5) hts inX3 (hts0 (.instantiable RX3 5) (List.mem_of_getElem? (i := 284) (by decide +kernel)))
  obtain ⟨c4, iS4, hKn4⟩ := u_known (C := RX4) (T := TX4) (N := 6) (n := 6) hts inX4 (hts0 (.instantiable RX4 6) (List.mem_of_getElem? (i := 168) (by decide +kernel)))
  obtain ⟨c5, iS5, hKn5⟩ := u_known (C := RX5) (T := TX5) (N := 4) (n := 4) hts inX5 (hts0 (.instantiable RX5 4) (List.mem_of_getElem? (i := 141) (by decide +kernel)))
  obtain ⟨c6, iS6, hKn6⟩ := u_known (C := RX6) (T := TX6) (N := 6) (n := 6) hts inX6 (hts0 (.instantiable RX6 6) (List.mem_of_getElem? (i := 104) (by decide +kernel)))
  obtain ⟨c7, iS7, hKn7⟩ := u_known (C := RX7) (T := TX7) (N := 12) (n := 12) hts inX7 (hts0 (.instantiable RX7 12) (List.mem_of_getElem? (i := 96) (by decide +kernel)))
  obtain ⟨c8, iS8, hKn8⟩ := u_known (C := RX8) (T := TX8) (N := 44) (n := 44) hts inX8 (hts0 (.instantiable RX8 44) (List.mem_of_getElem? (i := 964) (by decide +kernel)))
  obtain ⟨k0, hA0, hF0⟩ := K_prim (hts0 (.arrayClass .byte) (List.mem_of_getElem? (i := 136) (by decide +kernel)))
  obtain ⟨k1, hA1, hF1⟩ := K_prim (hts0 (.arrayClass .int) (List.mem_of_getElem? (i := 164) (by decide +kernel)))
  obtain ⟨k2, hA2, hF2⟩ := K_prim (hts0 (.arrayClass .boolean) (List.mem_of_getElem? (i := 228) (by decide +kernel)))
  obtain ⟨k3, hA3, hF3⟩ := K_obj (hts0 (.arrayOver (.object "LastPlace$Street")) (List.mem_of_getElem? (i := 138) (by decide +kernel)))
  obtain ⟨k4, hA4, hF4⟩ := K_obj (hts0 (.arrayOver (.object "LastPlace$BestWay")) (List.mem_of_getElem? (i := 140) (by decide +kernel)))
  obtain ⟨k5, hA5, hF5⟩ := K_obj (hts0 (.arrayOver (.object "LastPlace$Rule")) (List.mem_of_getElem? (i := 166) (by decide +kernel)))
  obtain ⟨k6, hA6, hF6⟩ := K_obj (hts0 (.arrayOver (.object "LastPlace$Scene")) (List.mem_of_getElem? (i := 203) (by decide +kernel)))
  refine ⟨(fun j => match j with | 0 => c0 | 1 => c1 | 2 => c2 | 3 => c3 | 4 => c4 | 5 => c5 | 6 => c6 | 7 => c7 | _ => c8, fun j => match j with | 0 => iS0 | 1 => iS1 | 2 => iS2 | 3 => iS3 | 4 => iS4 | 5 => iS5 | 6 => iS6 | 7 => iS7 | _ => iS8), fun j => match j with | 0 => k0 | 1 => k1 | 2 => k2 | 3 => k3 | 4 => k4 | 5 => k5 | _ => k6, ?_, ?_⟩
  · intro j q hq
    match j, hq with
    | 0, hq => cases hq; exact hKn0
    | 1, hq => cases hq; exact hKn1
    | 2, hq => cases hq; exact hKn2
    | 3, hq => cases hq; exact hKn3
    | 4, hq => cases hq; exact hKn4
    | 5, hq => cases hq; exact hKn5
    | 6, hq => cases hq; exact hKn6
    | 7, hq => cases hq; exact hKn7
    | 8, hq => cases hq; exact hKn8
    | j + 9, hq => simp [classes] at hq
  · intro j q hq
    match j, hq with
    | 0, hq => cases hq; exact ⟨hA0, hF0⟩
    | 1, hq => cases hq; exact ⟨hA1, hF1⟩
    | 2, hq => cases hq; exact ⟨hA2, hF2⟩
    | 3, hq => cases hq; exact ⟨hA3, hF3⟩
    | 4, hq => cases hq; exact ⟨hA4, hF4⟩
    | 5, hq => cases hq; exact ⟨hA5, hF5⟩
    | 6, hq => cases hq; exact ⟨hA6, hF6⟩
    | j + 7, hq => simp [TY] at hq


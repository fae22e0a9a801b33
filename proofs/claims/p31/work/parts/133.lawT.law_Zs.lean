set_option maxHeartbeats 8000000 in
set_option maxRecDepth 100000 in
theorem law_Zs {b : Nat} {s : State} (hts0 : ∀ w ∈ lw_tbl, w.before #[Value.ref b] s = true) (hgv : (Jvm.Cond.and given_1 narrow_1).before #[Value.ref b] s = true) : ∃ st, Zs st s.heap.size s s.heap := by
  have hs := flat_of_before _ hgv
  have hA : ∀ a : Nat, a < s.heap.size → ¬ (fun q : Nat => s.heap.size ≤ q) a := fun a h => Nat.not_le.mpr h
  obtain ⟨t0, e0, T0⟩ := va_Tof (A := fun q : Nat => s.heap.size ≤ q) (tm := (.static "LastPlace" "NOT_TOLD" "[I")) (ty := .int) (N := 10) (f := fun j => .int (zNT j)) (by decide) (hs (.arrayOf (.static "LastPlace" "NOT_TOLD" "[I") .int) (by decide +kernel)) (va_eqt (hs (.eq (.length (.static "LastPlace" "NOT_TOLD" "[I")) (.int 10)) (by decide +kernel))) (fun j hj => match j, hj with | 0, _ => va_eqt (hs (.eq (.elem (.static "LastPlace" "NOT_TOLD" "[I") (.int 0)) (.int (0))) (by decide +kernel)) | 1, _ => va_eqt (hs (.eq (.elem (.static "LastPlace" "NOT_TOLD" "[I") (.int 1)) (.int (0))) (by decide +kernel)) | 2, _ => va_eqt (hs (.eq (.elem (.static "LastPlace" "NOT_TOLD" "[I") (.int 2)) (.int (2))) (by decide +kernel)) | 3, _ => va_eqt (hs (.eq (.elem (.static "LastPlace" "NOT_TOLD" "[I") (.int 3)) (.int (1))) (by decide +kernel)) | 4, _ => va_eqt (hs (.eq (.elem (.static "LastPlace" "NOT_TOLD" "[I") (.int 4)) (.int (5))) (by decide +kernel)) | 5, _ => va_eqt (hs (.eq (.elem (.static "LastPlace" "NOT_TOLD" "[I") (.int 5)) (.int (30))) (by decide +kernel)) | 6, _ => va_eqt (hs (.eq (.elem (.static "LastPlace" "NOT_TOLD" "[I") (.int 6)) (.int (1))) (by decide +kernel)) | 7, _ => va_eqt (hs (.eq (.elem (.static "LastPlace" "NOT_TOLD" "[I") (.int 7)) (.int (10))) (by decide +kernel)) | 8, _ => va_eqt (hs (.eq (.elem (.static "LastPlace" "NOT_TOLD" "[I") (.int 8)) (.int (0))) (by decide +kernel)) | 9, _ => va_eqt (hs (.eq (.elem (.static "LastPlace" "NOT_TOLD" "[I") (.int 9)) (.int (200))) (by decide +kernel)) | j + 10, h => absurd h (by omega)) hA
  obtain ⟨t1, e1, T1⟩ := va_Tof (A := fun q : Nat => s.heap.size ≤ q) (tm := (.static "LastPlace" "MOST" "[I")) (ty := .int) (N := 10) (f := fun j => .int (zMO j)) (by decide) (hs (.arrayOf (.static "LastPlace" "MOST" "[I") .int) (by decide +kernel)) (va_eqt (hs (.eq (.length (.static "LastPlace" "MOST" "[I")) (.int 10)) (by decide +kernel))) (fun j hj => match j, hj with | 0, _ => va_eqt (hs (.eq (.elem (.static "LastPlace" "MOST" "[I") (.int 0)) (.int (24))) (by decide +kernel)) | 1, _ => va_eqt (hs (.eq (.elem (.static "LastPlace" "MOST" "[I") (.int 1)) (.int (50))) (by decide +kernel)) | 2, _ => va_eqt (hs (.eq (.elem (.static "LastPlace" "MOST" "[I") (.int 2)) (.int (99))) (by decide +kernel)) | 3, _ => va_eqt (hs (.eq (.elem (.static "LastPlace" "MOST" "[I") (.int 3)) (.int (99))) (by decide +kernel)) | 4, _ => va_eqt (hs (.eq (.elem (.static "LastPlace" "MOST" "[I") (.int 4)) (.int (99))) (by decide +kernel)) | 5, _ => va_eqt (hs (.eq (.elem (.static "LastPlace" "MOST" "[I") (.int 5)) (.int (200))) (by decide +kernel)) | 6, _ => va_eqt (hs (.eq (.elem (.static "LastPlace" "MOST" "[I") (.int 6)) (.int (2))) (by decide +kernel)) | 7, _ => va_eqt (hs (.eq (.elem (.static "LastPlace" "MOST" "[I") (.int 7)) (.int (60))) (by decide +kernel)) | 8, _ => va_eqt (hs (.eq (.elem (.static "LastPlace" "MOST" "[I") (.int 8)) (.int (3))) (by decide +kernel)) | 9, _ => va_eqt (hs (.eq (.elem (.static "LastPlace" "MOST" "[I") (.int 9)) (.int (999))) (by decide +kernel)) | j + 10, h => absurd h (by omega)) hA
  obtain ⟨t2, e2, T2⟩ := va_Tof (A := fun q : Nat => s.heap.size ≤ q) (tm := (.static "LastPlace" "LEAST" "[I")) (ty := .int) (N := 10) (f := fun j => .int (zLE j)) (by decide) (hs (.arrayOf (.static "LastPlace" "LEAST" "[I") .int) (by decide +kernel)) (va_eqt (hs (.eq (.length (.static "LastPlace" "LEAST" "[I")) (.int 10)) (by decide +kernel))) (fun j hj => match j, hj with | 0, _ => va_eqt (hs (.eq (.elem (.static "LastPlace" "LEAST" "[I") (.int 0)) (.int (1))) (by decide +kernel)) | 1, _ => va_eqt (hs (.eq (.elem (.static "LastPlace" "LEAST" "[I") (.int 1)) (.int (-50))) (by decide +kernel)) | 2, _ => va_eqt (hs (.eq (.elem (.static "LastPlace" "LEAST" "[I") (.int 2)) (.int (0))) (by decide +kernel)) | 3, _ => va_eqt (hs (.eq (.elem (.static "LastPlace" "LEAST" "[I") (.int 3)) (.int (0))) (by decide +kernel)) | 4, _ => va_eqt (hs (.eq (.elem (.static "LastPlace" "LEAST" "[I") (.int 4)) (.int (0))) (by decide +kernel)) | 5, _ => va_eqt (hs (.eq (.elem (.static "LastPlace" "LEAST" "[I") (.int 5)) (.int (0))) (by decide +kernel)) | 6, _ => va_eqt (hs (.eq (.elem (.static "LastPlace" "LEAST" "[I") (.int 6)) (.int (0))) (by decide +kernel)) | 7, _ => va_eqt (hs (.eq (.elem (.static "LastPlace" "LEAST" "[I") (.int 7)) (.int (0))) (by decide +kernel)) | 8, _ => va_eqt (hs (.eq (.elem (.static "LastPlace" "LEAST" "[I") (.int 8)) (.int (0))) (by decide +kernel)) | 9, _ => va_eqt (hs (.eq (.elem (.static "LastPlace" "LEAST" "[I") (.int 9)) (.int (0))) (by decide +kernel)) | j + 10, h => absurd h (by omega)) hA
  obtain ⟨adK, adV, hV, hE⟩ := vk_Sof (A := fun q : Nat => s.heap.size ≤ q) (N := 14) (tm := sTm) (len := sLen) (byt := sByt) (fun i hi => Nat.lt_of_le_of_lt (sLen_le i hi) (by decide)) (fun i hi => hs _ (law_sa i hi)) (fun i hi => hs _ (law_sb i hi)) (fun i hi => hs _ (law_sc i hi)) (fun i hi => hs _ (law_sd i hi)) (fun i hi j hj => hs _ (law_se i hi j hj)) (fun i j hi hj hn => (Nat.lt_or_gt_of_ne hn).elim (fun h => .inl (hs _ (law_sf j hj i h))) (fun h => .inr (hs _ (law_sf i hi j h)))) hA
  obtain ⟨stf, hst⟩ : ∃ f : Nat → Nat, f = fun i => if i < 100 then (match i with | 0 => t0 | 1 => t1 | _ => t2) else if i < 200 then adK (i - 100) else adV (i - 200) := ⟨_, rfl⟩
  have hk : ∀ i, i < 14 → stf (100 + i) = adK i := by
    intro i hi
    rw [hst]
    show (if 100 + i < 100 then _ else if 100 + i < 200 then adK (100 + i - 100) else _) = _
    rw [if_neg (by omega), if_pos (by omega), Nat.add_sub_cancel_left]
  have hv : ∀ i, stf (200 + i) = adV i := by
    intro i
    rw [hst]
    show (if 200 + i < 100 then _ else if 200 + i < 200 then _ else adV (200 + i - 200)) = _
    rw [if_neg (by omega), if_neg (by omega), Nat.add_sub_cancel_left]
  have h0 : stf 0 = t0 := by rw [hst]; rfl
  have h1 : stf 1 = t1 := by rw [hst]; rfl
  have h2 : stf 2 = t2 := by rw [hst]; rfl
  have hVS : vk_S 14 sLen sByt (fun i => stf (100 + i)) (fun i => stf (200 + i)) (fun q : Nat => s.heap.size ≤ q) s s.heap := by
    refine ⟨fun i hi => ?_, fun i j hi hj hij => ?_⟩
    · show va_O "java/lang/String" (stf (100 + i)) _ s s.heap ∧ va_OF "java/lang/String" "coder" "B" (.int 0) (stf (100 + i)) _ s s.heap ∧ va_OF "java/lang/String" "value" "[B" (.ref (stf (200 + i))) (stf (100 + i)) _ s s.heap ∧ va_T .byte (stf (200 + i)) _ _ _ s s.heap
      rw [hk i hi, hv i]
      exact hV.1 i hi
    · exact hV.2 i j hi hj (by have h9 : stf (100 + i) = stf (100 + j) := hij; rw [hk i hi, hk j hj] at h9; exact h9)
  refine ⟨stf, ?_⟩
  refine ⟨?_, ?_, ?_, ?_, ?_, ?_, ?_, ?_, law_Nws hts0, hVS, ?_⟩
  · rw [h0]; exact va_Zref (hts0 (.laysStatic "LastPlace" "NOT_TOLD" "[I") (List.mem_of_getElem? (i := 363) (by decide +kernel))) (hts0 (.initialized "LastPlace") (List.mem_of_getElem? (i := 79) (by decide +kernel))) e0 hA
  · rw [h0]; exact T0
  · rw [h1]; exact va_Zref (hts0 (.laysStatic "LastPlace" "MOST" "[I") (List.mem_of_getElem? (i := 466) (by decide +kernel))) (hts0 (.initialized "LastPlace") (List.mem_of_getElem? (i := 79) (by decide +kernel))) e1 hA
  · rw [h1]; exact T1
  · rw [h2]; exact va_Zref (hts0 (.laysStatic "LastPlace" "LEAST" "[I") (List.mem_of_getElem? (i := 464) (by decide +kernel))) (hts0 (.initialized "LastPlace") (List.mem_of_getElem? (i := 79) (by decide +kernel))) e2 hA
  · rw [h2]; exact T2
  · exact va_Zof (hts0 (.laysStatic "java/lang/String" "COMPACT_STRINGS" "Z") (List.mem_of_getElem? (i := 412) (by decide +kernel))) (hts0 (.initialized "java/lang/String") (List.mem_of_getElem? (i := 89) (by decide +kernel))) (va_eqi (hs (.eq (.static "java/lang/String" "COMPACT_STRINGS" "Z") (.int 1)) (by decide +kernel))) hA
  · exact va_Zqof (hts0 (.laysStatic "jdk/internal/util/Preconditions" "SIOOBE_FORMATTER" "Ljava/util/function/BiFunction;") (List.mem_of_getElem? (i := 428) (by decide +kernel))) (hts0 (.initialized "jdk/internal/util/Preconditions") (List.mem_of_getElem? (i := 91) (by decide +kernel))) (hs (.isRef (.static "jdk/internal/util/Preconditions" "SIOOBE_FORMATTER" "Ljava/util/function/BiFunction;")) (by decide +kernel)) hA
  · intro q hq
    simp only [strs, List.mem_cons, List.not_mem_nil, or_false] at hq
    rcases hq with rfl | rfl | rfl | rfl | rfl | rfl | rfl | rfl | rfl | rfl | rfl | rfl | rfl | rfl | rfl
    · show vk_R _ _ _ (stf (100 + 0)) s
      rw [hk 0 (by decide)]
      exact vk_R.of (hts0 (.stringRef "LastPlace$Street" 87 "doors") (List.mem_of_getElem? (i := 389) (by decide +kernel))) (hE 0 (by decide))
    · show vk_R _ _ _ (stf (100 + 1)) s
      rw [hk 1 (by decide)]
      exact vk_R.of (hts0 (.stringRef "LastPlace$Street" 88 "alike") (List.mem_of_getElem? (i := 390) (by decide +kernel))) (hE 1 (by decide))
    · show vk_R _ _ _ (stf (100 + 2)) s
      rw [hk 2 (by decide)]
      exact vk_R.of (hts0 (.stringRef "LastPlace$Street" 90 "walk") (List.mem_of_getElem? (i := 391) (by decide +kernel))) (hE 2 (by decide))
    · show vk_R _ _ _ (stf (100 + 3)) s
      rw [hk 3 (by decide)]
      exact vk_R.of (hts0 (.stringRef "LastPlace$Street" 92 "drive") (List.mem_of_getElem? (i := 392) (by decide +kernel))) (hE 3 (by decide))
    · show vk_R _ _ _ (stf (100 + 4)) s
      rw [hk 4 (by decide)]
      exact vk_R.of (hts0 (.stringRef "LastPlace$Street" 94 "late") (List.mem_of_getElem? (i := 393) (by decide +kernel))) (hE 4 (by decide))
    · show vk_R _ _ _ (stf (100 + 5)) s
      rw [hk 5 (by decide)]
      exact vk_R.of (hts0 (.stringRef "LastPlace$Street" 96 "curtain") (List.mem_of_getElem? (i := 394) (by decide +kernel))) (hE 5 (by decide))
    · show vk_R _ _ _ (stf (100 + 6)) s
      rw [hk 6 (by decide)]
      exact vk_R.of (hts0 (.stringRef "LastPlace$Street" 98 "see") (List.mem_of_getElem? (i := 395) (by decide +kernel))) (hE 6 (by decide))
    · show vk_R _ _ _ (stf (100 + 7)) s
      rw [hk 7 (by decide)]
      exact vk_R.of (hts0 (.stringRef "LastPlace$Street" 100 "round") (List.mem_of_getElem? (i := 396) (by decide +kernel))) (hE 7 (by decide))
    · show vk_R _ _ _ (stf (100 + 8)) s
      rw [hk 8 (by decide)]
      exact vk_R.of (hts0 (.stringRef "LastPlace$Street" 102 "times") (List.mem_of_getElem? (i := 397) (by decide +kernel))) (hE 8 (by decide))
    · show vk_R _ _ _ (stf (100 + 9)) s
      rw [hk 9 (by decide)]
      exact vk_R.of (hts0 (.stringRef "LastPlace$Street" 104 "garage") (List.mem_of_getElem? (i := 398) (by decide +kernel))) (hE 9 (by decide))
    · show vk_R _ _ _ (stf (100 + 10)) s
      rw [hk 10 (by decide)]
      exact vk_R.of (hts0 (.stringRef "LastPlace$Street" 118 "free") (List.mem_of_getElem? (i := 481) (by decide +kernel))) (hE 10 (by decide))
    · show vk_R _ _ _ (stf (100 + 11)) s
      rw [hk 11 (by decide)]
      exact vk_R.of (hts0 (.stringRef "LastPlace$Street" 124 "price") (List.mem_of_getElem? (i := 487) (by decide +kernel))) (hE 11 (by decide))
    · show vk_R _ _ _ (stf (100 + 12)) s
      rw [hk 12 (by decide)]
      exact vk_R.of (hts0 (.stringRef "LastPlace$Rule" 28 "from") (List.mem_of_getElem? (i := 679) (by decide +kernel))) (hE 12 (by decide))
    · show vk_R _ _ _ (stf (100 + 13)) s
      rw [hk 13 (by decide)]
      exact vk_R.of (hts0 (.stringRef "LastPlace$Rule" 43 "seen") (List.mem_of_getElem? (i := 683) (by decide +kernel))) (hE 13 (by decide))
    · show vk_R _ _ _ (stf (100 + 7)) s
      rw [hk 7 (by decide)]
      exact vk_R.of (hts0 (.stringRef "LastPlace$Rule" 52 "round") (List.mem_of_getElem? (i := 690) (by decide +kernel))) (va_eqR (hs (.eq (.string "LastPlace$Street" 100) (.string "LastPlace$Rule" 52)) (by decide +kernel)) (hE 7 (by decide)))


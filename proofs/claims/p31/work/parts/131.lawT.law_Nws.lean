theorem law_Nws {args : Array Value} {s : State} (hts0 : ∀ w ∈ lw_tbl, w.before args s = true) : Nws s := by
  refine ⟨?_, ?_, ?_⟩
  · intro q hq
    simp only [nestM, List.mem_cons, List.not_mem_nil, or_false] at hq
    rcases hq with rfl | rfl | rfl | rfl | rfl | rfl | rfl
    · exact va_Nw.of rfl (hts0 (.methodLinkNest RX7 11 yX6_init RX7) (List.mem_of_getElem? (i := 105) (by decide +kernel)))
    · exact va_Nw.of rfl (hts0 (.methodLinkNest RX7 28 yX5_init RX7) (List.mem_of_getElem? (i := 142) (by decide +kernel)))
    · exact va_Nw.of rfl (hts0 (.methodLinkNest RX7 48 yX4_init RX7) (List.mem_of_getElem? (i := 169) (by decide +kernel)))
    · exact va_Nw.of rfl (hts0 (.methodLinkNest RX7 63 yX2_init RX7) (List.mem_of_getElem? (i := 206) (by decide +kernel)))
    · exact va_Nw.of rfl (hts0 (.methodLinkNest RX7 80 yX3_init RX7) (List.mem_of_getElem? (i := 285) (by decide +kernel)))
    · exact va_Nw.of rfl (hts0 (.methodLinkNest RX0 80 yX7_mixed RX7) (List.mem_of_getElem? (i := 568) (by decide +kernel)))
    · exact va_Nw.of rfl (hts0 (.methodLinkNest RX2 78 yX7_mixed RX7) (List.mem_of_getElem? (i := 734) (by decide +kernel)))
  · intro q hq
    simp only [nestF, List.mem_cons, List.not_mem_nil, or_false] at hq
    rcases hq with rfl | rfl | rfl | rfl
    · exact va_Nw.of rfl (hts0 (.fieldLinkNest RX5 40 "LastPlace" "NOT_TOLD" "[I" RX7) (List.mem_of_getElem? (i := 362) (by decide +kernel)))
    · exact va_Nw.of rfl (hts0 (.fieldLinkNest RX5 106 "LastPlace" "LEAST" "[I" RX7) (List.mem_of_getElem? (i := 463) (by decide +kernel)))
    · exact va_Nw.of rfl (hts0 (.fieldLinkNest RX5 109 "LastPlace" "MOST" "[I" RX7) (List.mem_of_getElem? (i := 465) (by decide +kernel)))
    · exact va_Nw.of rfl (hts0 (.fieldLinkNest RX3 54 "LastPlace" "MOST" "[I" RX7) (List.mem_of_getElem? (i := 691) (by decide +kernel)))
  · intro q hq
    simp only [overs, List.mem_cons, List.not_mem_nil, or_false] at hq
    rcases hq with rfl | rfl | rfl | rfl
    · exact va_AO.of (hts0 (.arrayOver (.object "LastPlace$Street")) (List.mem_of_getElem? (i := 138) (by decide +kernel)))
    · exact va_AO.of (hts0 (.arrayOver (.object "LastPlace$BestWay")) (List.mem_of_getElem? (i := 140) (by decide +kernel)))
    · exact va_AO.of (hts0 (.arrayOver (.object "LastPlace$Rule")) (List.mem_of_getElem? (i := 166) (by decide +kernel)))
    · exact va_AO.of (hts0 (.arrayOver (.object "LastPlace$Scene")) (List.mem_of_getElem? (i := 203) (by decide +kernel)))


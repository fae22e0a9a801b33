theorem dL_law_1505 : decode code 1505 = .ok (.iinc 3 8, 3) := by decide +kernel
theorem dL_law_1508 : decode code 1508 = .ok (.goto (-1490), 3) := by decide +kernel
theorem dL_law_18 : decode code 18 = .ok (.iload_n 3, 1) := by decide +kernel
theorem dL_law_19 : decode code 19 = .ok (.aload_n 0, 1) := by decide +kernel
theorem dL_law_20 : decode code 20 = .ok (.arraylength, 1) := by decide +kernel
theorem dL_law_21 : decode code 21 = .ok (.bipush 8, 2) := by decide +kernel
theorem dL_law_23 : decode code 23 = .ok (.isub, 1) := by decide +kernel
theorem dL_law_24 : decode code 24 = .ok (.if_icmp .gt 1487, 3) := by decide +kernel
theorem dL_law_27 : decode code 27 = .ok (.aload_n 0, 1) := by decide +kernel
theorem dL_law_28 : decode code 28 = .ok (.iload_n 3, 1) := by decide +kernel
theorem dL_law_29 : decode code 29 = .ok (.iaload, 1) := by decide +kernel
theorem dL_law_30 : decode code 30 = .ok (.bipush 63, 2) := by decide +kernel
theorem dL_law_32 : decode code 32 = .ok (.iand, 1) := by decide +kernel
theorem dL_law_33 : decode code 33 = .ok (.tableswitch 1472 0 34 #[155, 218, 241, 254, 287, 330, 389, 432, 485, 538, 591, 624, 667, 700, 733, 746, 789, 828, 841, 900, 933, 1020, 1043, 1076, 1109, 1162, 1195, 1228, 1261, 1294, 1337, 1360, 1403, 1426, 1449], 155) := by decide +kernel
theorem dL_law_1511 : decode code 1511 = .ok (.iconst 1, 1) := by decide +kernel
theorem dL_law_1512 : decode code 1512 = .ok (.ireturn, 1) := by decide +kernel
set_option maxHeartbeats 8000000 in
set_option maxRecDepth 100000 in
theorem law_head {p : Program} {l : Launch} {e : Env} {s : State} {m : MethodId} {below : List Frame} {meth : Method} {c : Code} {b : Nat} {xs : Nat → Int32} {H : Heap} {locs : List Loc} {ls : Array Slot} (hx : p.tables.exec = Jvm.exec) (hb : c.code = code) (hr : meth.sig.returnType = ret) (hlocks : meth.locks = false) {D : va_G} {k : Nat → ClassId} {st : Nat → Nat} {lo : Nat} {ax am : Nat → Nat} (hml : c.maxLocals = 4) (hown : s.vm.findClass R_law = some m.cls) (hts : ∀ w ∈ LW, w.before #[Value.ref b] s = true) (hbl : b < s.heap.size) (hlo : lo ≤ s.heap.size) (hZ : Zs st lo s s.heap) (hK : va_K D classes (TY k) s) {L : Nat} (hL : L ≤ 512) (hX : va_X b L xs s s.heap) (zz : QSt) (hO : LOK zz) (hP : va_P D classes (LWd k ax am zz) H) (hD : va_D (fun q : Nat => s.heap.size ≤ q) (LWd k ax am zz)) (hS : va_S (fun q : Nat => s.heap.size ≤ q) s.heap H locs) (hl : lv_has ls 4 [(3, .int 0), (2, .ref (am 0)), (1, .ref (ax 0)), (0, .ref b)]) : W p l e room_1 s m #[Value.ref b] below meth c H locs 102 5857 (lw_Z below #[Value.ref b] s) (F0 m 18 ls []) := by
  have hbA : ¬ (fun q : Nat => s.heap.size ≤ q) b := Nat.not_le.mpr hbl
  refine W_loop (σ := QSt × Nat) (fun n_ x_ H locs ls => n_ = 520 - x_.2 ∧ x_.2 ≤ 512 ∧ LOK x_.1 ∧ va_P D classes (LWd k ax am x_.1) H ∧ va_D (fun q : Nat => s.heap.size ≤ q) (LWd k ax am x_.1) ∧ va_S (fun q : Nat => s.heap.size ≤ q) s.heap H locs ∧ lv_has ls 4 [(3, .int (nI x_.2)), (2, .ref (am 0)), (1, .ref (ax 0)), (0, .ref b)]) (fun n_ x_ H locs ls hI ih => ?_) _ (zz, 0) ⟨rfl, Nat.zero_le _, hO, hP, hD, hS, hl⟩
  obtain ⟨yy, i⟩ := x_
  obtain ⟨hm, hi, hO, hP, hD, hS, hl⟩ := hI
  replace hi : i ≤ 512 := hi
  replace hm : n_ = 520 - i := hm
  replace hO : LOK yy := hO
  replace hP : va_P D classes (LWd k ax am yy) H := hP
  replace hD : va_D (fun q : Nat => s.heap.size ≤ q) (LWd k ax am yy) := hD
  replace hl : lv_has ls 4 [(3, .int (nI i)), (2, .ref (am 0)), (1, .ref (ax 0)), (0, .ref b)] := hl
  refine lv_iload_n hx hb dL_law_18 rfl (lv_at hl 0 rfl) ?_
  refine lv_aload_n hx hb dL_law_19 rfl (lv_at hl 3 rfl) ?_
  refine va_slen hx hb hX hbl hbA hS dL_law_20 ?_
  refine lv_bipush (v := 8) hx hb dL_law_21 (by decide) ?_
  refine lv_isub hx hb dL_law_23 ?_
  refine lv_icmp_gt (tgt := 1511) hx hb dL_law_24 (by decide) (fun _ => ?_) (fun hc => ?_)
  · refine lv_iconst (v := 1) hx hb dL_law_1511 (by decide) ?_
    refine va_forget (fun q hq => hS.2.2 q hq) ?_
    refine W.widen (k := 600000) (n := 7302250) (by decide) (by decide) ?_
    exact lw_ret hx hb hr hlocks dL_law_1512
  · have hi8 : i + 8 ≤ L := ltL hL hi hc
    have hT : ∀ (zy : QSt) (H' : Heap) (locs' : List Loc) (ls' : Array Slot), LOK zy → va_P D classes (LWd k ax am zy) H' → va_D (fun q : Nat => s.heap.size ≤ q) (LWd k ax am zy) → va_S (fun q : Nat => s.heap.size ≤ q) s.heap H' locs' → lv_has ls' 4 [(3, .int (nI i)), (2, .ref (am 0)), (1, .ref (ax 0)), (0, .ref b)] → W p l e room_1 s m #[Value.ref b] below meth c H' locs' 102 5857 (lw_Z below #[Value.ref b] s) (F0 m 1505 ls' []) := by
      intro zy H' locs' ls' hO' hP' hD' hS' hl'
      refine lv_iinc (v := nI (i + 8)) (lv' := [(3, .int (nI (i + 8))), (2, .ref (am 0)), (1, .ref (ax 0)), (0, .ref b)]) hx hb dL_law_1505 hl' (k := 0) rfl (nI_add i 8) (by decide) rfl (fun ls2 hl2 => ?_)
      refine lv_goto (tgt := 18) hx hb dL_law_1508 (by decide) ?_
      exact ih _ (zy, i + 8) _ _ _ (show 520 - (i + 8) < n_ by omega) ⟨rfl, (show i + 8 ≤ 512 by omega), hO', hP', hD', hS', hl2⟩
    refine lv_aload_n hx hb dL_law_27 rfl (lv_at hl 3 rfl) ?_
    refine lv_iload_n hx hb dL_law_28 rfl (lv_at hl 0 rfl) ?_
    refine va_sld hx hb hX hbl hbA hS (vp_in_nI (by omega) (by omega)) dL_law_29 ?_
    refine lv_bipush (v := 63) hx hb dL_law_30 (by decide) ?_
    refine lv_iand hx hb dL_law_32 ?_
    refine lv_topi (fun x_1 ex_1 => ?_)
    clear ex_1
    rcases law_sw x_1 with rfl | rfl | rfl | rfl | rfl | rfl | rfl | rfl | rfl | rfl | rfl | rfl | rfl | rfl | rfl | rfl | rfl | rfl | rfl | rfl | rfl | rfl | rfl | rfl | rfl | rfl | rfl | rfl | rfl | rfl | rfl | rfl | rfl | rfl | rfl | hsw
    · exact lv_tableIn (tgt := 188) hx hb dL_law_33 (by decide) (by decide) rfl (by decide) (law_c0 hx hb hr hlocks hml hown hts hbl hlo hZ hK hL hi8 hX hO hP hD hS hl hT)
    · exact lv_tableIn (tgt := 251) hx hb dL_law_33 (by decide) (by decide) rfl (by decide) (law_c1 hx hb hr hlocks hml hown hts hbl hlo hZ hK hL hi8 hX hO hP hD hS hl hT)
    · exact lv_tableIn (tgt := 274) hx hb dL_law_33 (by decide) (by decide) rfl (by decide) (law_c2 hx hb hr hlocks hml hown hts hbl hlo hZ hK hL hi8 hX hO hP hD hS hl hT)
    · exact lv_tableIn (tgt := 287) hx hb dL_law_33 (by decide) (by decide) rfl (by decide) (law_c3 hx hb hr hlocks hml hown hts hbl hlo hZ hK hL hi8 hX hO hP hD hS hl hT)
    · exact lv_tableIn (tgt := 320) hx hb dL_law_33 (by decide) (by decide) rfl (by decide) (law_c4 hx hb hr hlocks hml hown hts hbl hlo hZ hK hL hi8 hX hO hP hD hS hl hT)
    · exact lv_tableIn (tgt := 363) hx hb dL_law_33 (by decide) (by decide) rfl (by decide) (law_c5 hx hb hr hlocks hml hown hts hbl hlo hZ hK hL hi8 hX hO hP hD hS hl hT)
    · exact lv_tableIn (tgt := 422) hx hb dL_law_33 (by decide) (by decide) rfl (by decide) (law_c6 hx hb hr hlocks hml hown hts hbl hlo hZ hK hL hi8 hX hO hP hD hS hl hT)
    · exact lv_tableIn (tgt := 465) hx hb dL_law_33 (by decide) (by decide) rfl (by decide) (law_c7 hx hb hr hlocks hml hown hts hbl hlo hZ hK hL hi8 hX hO hP hD hS hl hT)
    · exact lv_tableIn (tgt := 518) hx hb dL_law_33 (by decide) (by decide) rfl (by decide) (law_c8 hx hb hr hlocks hml hown hts hbl hlo hZ hK hL hi8 hX hO hP hD hS hl hT)
    · exact lv_tableIn (tgt := 571) hx hb dL_law_33 (by decide) (by decide) rfl (by decide) (law_c9 hx hb hr hlocks hml hown hts hbl hlo hZ hK hL hi8 hX hO hP hD hS hl hT)
    · exact lv_tableIn (tgt := 624) hx hb dL_law_33 (by decide) (by decide) rfl (by decide) (law_c10 hx hb hr hlocks hml hown hts hbl hlo hZ hK hL hi8 hX hO hP hD hS hl hT)
    · exact lv_tableIn (tgt := 657) hx hb dL_law_33 (by decide) (by decide) rfl (by decide) (law_c11 hx hb hr hlocks hml hown hts hbl hlo hZ hK hL hi8 hX hO hP hD hS hl hT)
    · exact lv_tableIn (tgt := 700) hx hb dL_law_33 (by decide) (by decide) rfl (by decide) (law_c12 hx hb hr hlocks hml hown hts hbl hlo hZ hK hL hi8 hX hO hP hD hS hl hT)
    · exact lv_tableIn (tgt := 733) hx hb dL_law_33 (by decide) (by decide) rfl (by decide) (law_c13 hx hb hr hlocks hml hown hts hbl hlo hZ hK hL hi8 hX hO hP hD hS hl hT)
    · exact lv_tableIn (tgt := 766) hx hb dL_law_33 (by decide) (by decide) rfl (by decide) (law_c14 hx hb hr hlocks hml hown hts hbl hlo hZ hK hL hi8 hX hO hP hD hS hl hT)
    · exact lv_tableIn (tgt := 779) hx hb dL_law_33 (by decide) (by decide) rfl (by decide) (law_c15 hx hb hr hlocks hml hown hts hbl hlo hZ hK hL hi8 hX hO hP hD hS hl hT)
    · exact lv_tableIn (tgt := 822) hx hb dL_law_33 (by decide) (by decide) rfl (by decide) (law_c16 hx hb hr hlocks hml hown hts hbl hlo hZ hK hL hi8 hX hO hP hD hS hl hT)
    · exact lv_tableIn (tgt := 861) hx hb dL_law_33 (by decide) (by decide) rfl (by decide) (law_c17 hx hb hr hlocks hml hown hts hbl hlo hZ hK hL hi8 hX hO hP hD hS hl hT)
    · exact lv_tableIn (tgt := 874) hx hb dL_law_33 (by decide) (by decide) rfl (by decide) (law_c18 hx hb hr hlocks hml hown hts hbl hlo hZ hK hL hi8 hX hO hP hD hS hl hT)
    · exact lv_tableIn (tgt := 933) hx hb dL_law_33 (by decide) (by decide) rfl (by decide) (law_c19 hx hb hr hlocks hml hown hts hbl hlo hZ hK hL hi8 hX hO hP hD hS hl hT)
    · exact lv_tableIn (tgt := 966) hx hb dL_law_33 (by decide) (by decide) rfl (by decide) (law_c20 hx hb hr hlocks hml hown hts hbl hlo hZ hK hL hi8 hX hO hP hD hS hl hT)
    · exact lv_tableIn (tgt := 1053) hx hb dL_law_33 (by decide) (by decide) rfl (by decide) (law_c21 hx hb hr hlocks hml hown hts hbl hlo hZ hK hL hi8 hX hO hP hD hS hl hT)
    · exact lv_tableIn (tgt := 1076) hx hb dL_law_33 (by decide) (by decide) rfl (by decide) (law_c22 hx hb hr hlocks hml hown hts hbl hlo hZ hK hL hi8 hX hO hP hD hS hl hT)
    · exact lv_tableIn (tgt := 1109) hx hb dL_law_33 (by decide) (by decide) rfl (by decide) (law_c23 hx hb hr hlocks hml hown hts hbl hlo hZ hK hL hi8 hX hO hP hD hS hl hT)
    · exact lv_tableIn (tgt := 1142) hx hb dL_law_33 (by decide) (by decide) rfl (by decide) (law_c24 hx hb hr hlocks hml hown hts hbl hlo hZ hK hL hi8 hX hO hP hD hS hl hT)
    · exact lv_tableIn (tgt := 1195) hx hb dL_law_33 (by decide) (by decide) rfl (by decide) (law_c25 hx hb hr hlocks hml hown hts hbl hlo hZ hK hL hi8 hX hO hP hD hS hl hT)
    · exact lv_tableIn (tgt := 1228) hx hb dL_law_33 (by decide) (by decide) rfl (by decide) (law_c26 hx hb hr hlocks hml hown hts hbl hlo hZ hK hL hi8 hX hO hP hD hS hl hT)
    · exact lv_tableIn (tgt := 1261) hx hb dL_law_33 (by decide) (by decide) rfl (by decide) (law_c27 hx hb hr hlocks hml hown hts hbl hlo hZ hK hL hi8 hX hO hP hD hS hl hT)
    · exact lv_tableIn (tgt := 1294) hx hb dL_law_33 (by decide) (by decide) rfl (by decide) (law_c28 hx hb hr hlocks hml hown hts hbl hlo hZ hK hL hi8 hX hO hP hD hS hl hT)
    · exact lv_tableIn (tgt := 1327) hx hb dL_law_33 (by decide) (by decide) rfl (by decide) (law_c29 hx hb hr hlocks hml hown hts hbl hlo hZ hK hL hi8 hX hO hP hD hS hl hT)
    · exact lv_tableIn (tgt := 1370) hx hb dL_law_33 (by decide) (by decide) rfl (by decide) (law_c30 hx hb hr hlocks hml hown hts hbl hlo hZ hK hL hi8 hX hO hP hD hS hl hT)
    · exact lv_tableIn (tgt := 1393) hx hb dL_law_33 (by decide) (by decide) rfl (by decide) (law_c31 hx hb hr hlocks hml hown hts hbl hlo hZ hK hL hi8 hX hO hP hD hS hl hT)
    · exact lv_tableIn (tgt := 1436) hx hb dL_law_33 (by decide) (by decide) rfl (by decide) (law_c32 hx hb hr hlocks hml hown hts hbl hlo hZ hK hL hi8 hX hO hP hD hS hl hT)
    · exact lv_tableIn (tgt := 1459) hx hb dL_law_33 (by decide) (by decide) rfl (by decide) (law_c33 hx hb hr hlocks hml hown hts hbl hlo hZ hK hL hi8 hX hO hP hD hS hl hT)
    · exact lv_tableIn (tgt := 1482) hx hb dL_law_33 (by decide) (by decide) rfl (by decide) (law_c34 hx hb hr hlocks hml hown hts hbl hlo hZ hK hL hi8 hX hO hP hD hS hl hT)
    · exact lv_tableOut (tgt := 1505) hx hb dL_law_33 hsw (by decide) (hT yy _ _ _ hO hP hD hS hl)


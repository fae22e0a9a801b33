theorem dL_law_27 : decode code 27 = .ok (.aload_n 0, 1) := by decide +kernel
theorem dL_law_28 : decode code 28 = .ok (.iload_n 3, 1) := by decide +kernel
theorem dL_law_29 : decode code 29 = .ok (.iaload, 1) := by decide +kernel
theorem dL_law_30 : decode code 30 = .ok (.bipush 63, 2) := by decide +kernel
theorem dL_law_32 : decode code 32 = .ok (.iand, 1) := by decide +kernel
theorem dL_law_33 : decode code 33 = .ok (.tableswitch 1472 0 34 #[155, 218, 241, 254, 287, 330, 389, 432, 485, 538, 591, 624, 667, 700, 733, 746, 789, 828, 841, 900, 933, 1020, 1043, 1076, 1109, 1162, 1195, 1228, 1261, 1294, 1337, 1360, 1403, 1426, 1449], 155) := by decide +kernel
set_option maxHeartbeats 4000000 in
set_option maxRecDepth 100000 in
theorem law_head {p : Program} {l : Launch} {e : Env} {s : State} {m : MethodId} {below : List Frame} {meth : Method} {c : Code} {b : Nat} {xs : Nat → Int32} {H : Heap} {locs : List Loc} {ls : Array Slot} (hx : p.tables.exec = Jvm.exec) (hb : c.code = code) (hr : meth.sig.returnType = ret) (hlocks : meth.locks = false) {D : va_G} {k : Nat → ClassId} {st : Nat → Nat} {lo : Nat} {ax am : Nat → Nat} {g0 : Nat → Int32} (hml : c.maxLocals = 4) (hown : s.vm.findClass R_law = some m.cls) (hts : ∀ w ∈ LW, w.before #[Value.ref b] s = true) (hbl : b < s.heap.size) (hlo : lo ≤ s.heap.size) (hZ : Zs st lo s s.heap) (hK : va_K D classes (TY k) s) {L : Nat} (hL : L ≤ 8) (hX : va_X b L xs s s.heap) (hP : va_P D classes (LWd k ax am g0) H) (hD : va_D (fun q : Nat => s.heap.size ≤ q) (LWd k ax am g0)) (hS : va_S (fun q : Nat => s.heap.size ≤ q) s.heap H locs) (hl : lv_has ls 4 [(3, .int 0), (2, .ref (am 0)), (1, .ref (ax 0)), (0, .ref b)]) : W p l e room_1 s m #[Value.ref b] below meth c H locs 102 5857 (lw_Z below #[Value.ref b] s) (F0 m 18 ls []) := by
  have hbA : ¬ (fun q : Nat => s.heap.size ≤ q) b := Nat.not_le.mpr hbl
  refine lv_iload_n hx hb dL_law_18 rfl (lv_at hl 0 rfl) ?_
  refine lv_aload_n hx hb dL_law_19 rfl (lv_at hl 3 rfl) ?_
  refine va_slen hx hb hX hbl hbA hS dL_law_20 ?_
  refine lv_bipush (v := 8) hx hb dL_law_21 (by decide) ?_
  refine lv_isub hx hb dL_law_23 ?_
  refine lv_icmp_gt (tgt := 1511) hx hb dL_law_24 (by decide) (fun _ => ?_) (fun hc => ?_)
  · refine lv_iconst (v := 1) hx hb dL_law_1511 (by decide) ?_
    refine va_forget (fun q hq => hS.2.2 q hq) ?_
    refine W.widen (k := 600000) (n := 7302250) (by decide) (by decide) ?_
    exact lw_ret hx hb hr hlocks dL_law_1512
  · have h8 : L = 8 := by
      rcases Nat.lt_or_ge L 8 with h | h
      · exact absurd (lt_e h) hc
      · omega
    subst h8
    refine lv_aload_n hx hb dL_law_27 rfl (lv_at hl 3 rfl) ?_
    refine lv_iload_n hx hb dL_law_28 rfl (lv_at hl 0 rfl) ?_
    refine va_sld hx hb hX hbl hbA hS (by unfold vp_in; decide) dL_law_29 ?_
    refine lv_bipush (v := 63) hx hb dL_law_30 (by decide) ?_
    refine lv_iand hx hb dL_law_32 ?_
    refine lv_topi (fun x_1 ex_1 => ?_)
    clear ex_1
    rcases law_sw x_1 with rfl | rfl | rfl | rfl | rfl | rfl | rfl | rfl | rfl | rfl | rfl | rfl | rfl | rfl | rfl | rfl | rfl | rfl | rfl | rfl | rfl | rfl | rfl | rfl | rfl | rfl | rfl | rfl | rfl | rfl | rfl | rfl | rfl | rfl | rfl | hsw
    · exact lv_tableIn (tgt := 188) hx hb dL_law_33 (by decide) (by decide) rfl (by decide) (law_c0 hx hb hr hlocks hml hown hts hbl hlo hZ hK hX hP hD hS hl)
    · exact lv_tableIn (tgt := 251) hx hb dL_law_33 (by decide) (by decide) rfl (by decide) (law_c1 hx hb hr hlocks hml hown hts hbl hlo hZ hK hX hP hD hS hl)
    · exact lv_tableIn (tgt := 274) hx hb dL_law_33 (by decide) (by decide) rfl (by decide) (law_c2 hx hb hr hlocks hml hown hts hbl hlo hZ hK hX hP hD hS hl)
    · exact lv_tableIn (tgt := 287) hx hb dL_law_33 (by decide) (by decide) rfl (by decide) (law_c3 hx hb hr hlocks hml hown hts hbl hlo hZ hK hX hP hD hS hl)
    · exact lv_tableIn (tgt := 320) hx hb dL_law_33 (by decide) (by decide) rfl (by decide) (law_c4 hx hb hr hlocks hml hown hts hbl hlo hZ hK hX hP hD hS hl)
    · exact lv_tableIn (tgt := 363) hx hb dL_law_33 (by decide) (by decide) rfl (by decide) (law_c5 hx hb hr hlocks hml hown hts hbl hlo hZ hK hX hP hD hS hl)
    · exact lv_tableIn (tgt := 422) hx hb dL_law_33 (by decide) (by decide) rfl (by decide) (law_c6 hx hb hr hlocks hml hown hts hbl hlo hZ hK hX hP hD hS hl)
    · exact lv_tableIn (tgt := 465) hx hb dL_law_33 (by decide) (by decide) rfl (by decide) (law_c7 hx hb hr hlocks hml hown hts hbl hlo hZ hK hX hP hD hS hl)
    · exact lv_tableIn (tgt := 518) hx hb dL_law_33 (by decide) (by decide) rfl (by decide) (law_c8 hx hb hr hlocks hml hown hts hbl hlo hZ hK hX hP hD hS hl)
    · exact lv_tableIn (tgt := 571) hx hb dL_law_33 (by decide) (by decide) rfl (by decide) (law_c9 hx hb hr hlocks hml hown hts hbl hlo hZ hK hX hP hD hS hl)
    · exact lv_tableIn (tgt := 624) hx hb dL_law_33 (by decide) (by decide) rfl (by decide) (law_c10 hx hb hr hlocks hml hown hts hbl hlo hZ hK hX hP hD hS hl)
    · exact lv_tableIn (tgt := 657) hx hb dL_law_33 (by decide) (by decide) rfl (by decide) (law_c11 hx hb hr hlocks hml hown hts hbl hlo hZ hK hX hP hD hS hl)
    · exact lv_tableIn (tgt := 700) hx hb dL_law_33 (by decide) (by decide) rfl (by decide) (law_c12 hx hb hr hlocks hml hown hts hbl hlo hZ hK hX hP hD hS hl)
    · exact lv_tableIn (tgt := 733) hx hb dL_law_33 (by decide) (by decide) rfl (by decide) (law_c13 hx hb hr hlocks hml hown hts hbl hlo hZ hK hX hP hD hS hl)
    · exact lv_tableIn (tgt := 766) hx hb dL_law_33 (by decide) (by decide) rfl (by decide) (law_c14 hx hb hr hlocks hml hown hts hbl hlo hZ hK hX hP hD hS hl)
    · exact lv_tableIn (tgt := 779) hx hb dL_law_33 (by decide) (by decide) rfl (by decide) (law_c15 hx hb hr hlocks hml hown hts hbl hlo hZ hK hX hP hD hS hl)
    · exact lv_tableIn (tgt := 822) hx hb dL_law_33 (by decide) (by decide) rfl (by decide) (law_c16 hx hb hr hlocks hml hown hts hbl hlo hZ hK hX hP hD hS hl)
    · exact lv_tableIn (tgt := 861) hx hb dL_law_33 (by decide) (by decide) rfl (by decide) (law_c17 hx hb hr hlocks hml hown hts hbl hlo hZ hK hX hP hD hS hl)
    · exact lv_tableIn (tgt := 874) hx hb dL_law_33 (by decide) (by decide) rfl (by decide) (law_c18 hx hb hr hlocks hml hown hts hbl hlo hZ hK hX hP hD hS hl)
    · exact lv_tableIn (tgt := 933) hx hb dL_law_33 (by decide) (by decide) rfl (by decide) (law_c19 hx hb hr hlocks hml hown hts hbl hlo hZ hK hX hP hD hS hl)
    · exact lv_tableIn (tgt := 966) hx hb dL_law_33 (by decide) (by decide) rfl (by decide) (law_c20 hx hb hr hlocks hml hown hts hbl hlo hZ hK hX hP hD hS hl)
    · exact lv_tableIn (tgt := 1053) hx hb dL_law_33 (by decide) (by decide) rfl (by decide) (law_c21 hx hb hr hlocks hml hown hts hbl hlo hZ hK hX hP hD hS hl)
    · exact lv_tableIn (tgt := 1076) hx hb dL_law_33 (by decide) (by decide) rfl (by decide) (law_c22 hx hb hr hlocks hml hown hts hbl hlo hZ hK hX hP hD hS hl)
    · exact lv_tableIn (tgt := 1109) hx hb dL_law_33 (by decide) (by decide) rfl (by decide) (law_c23 hx hb hr hlocks hml hown hts hbl hlo hZ hK hX hP hD hS hl)
    · exact lv_tableIn (tgt := 1142) hx hb dL_law_33 (by decide) (by decide) rfl (by decide) (law_c24 hx hb hr hlocks hml hown hts hbl hlo hZ hK hX hP hD hS hl)
    · exact lv_tableIn (tgt := 1195) hx hb dL_law_33 (by decide) (by decide) rfl (by decide) (law_c25 hx hb hr hlocks hml hown hts hbl hlo hZ hK hX hP hD hS hl)
    · exact lv_tableIn (tgt := 1228) hx hb dL_law_33 (by decide) (by decide) rfl (by decide) (law_c26 hx hb hr hlocks hml hown hts hbl hlo hZ hK hX hP hD hS hl)
    · exact lv_tableIn (tgt := 1261) hx hb dL_law_33 (by decide) (by decide) rfl (by decide) (law_c27 hx hb hr hlocks hml hown hts hbl hlo hZ hK hX hP hD hS hl)
    · exact lv_tableIn (tgt := 1294) hx hb dL_law_33 (by decide) (by decide) rfl (by decide) (law_c28 hx hb hr hlocks hml hown hts hbl hlo hZ hK hX hP hD hS hl)
    · exact lv_tableIn (tgt := 1327) hx hb dL_law_33 (by decide) (by decide) rfl (by decide) (law_c29 hx hb hr hlocks hml hown hts hbl hlo hZ hK hX hP hD hS hl)
    · exact lv_tableIn (tgt := 1370) hx hb dL_law_33 (by decide) (by decide) rfl (by decide) (law_c30 hx hb hr hlocks hml hown hts hbl hlo hZ hK hX hP hD hS hl)
    · exact lv_tableIn (tgt := 1393) hx hb dL_law_33 (by decide) (by decide) rfl (by decide) (law_c31 hx hb hr hlocks hml hown hts hbl hlo hZ hK hX hP hD hS hl)
    · exact lv_tableIn (tgt := 1436) hx hb dL_law_33 (by decide) (by decide) rfl (by decide) (law_c32 hx hb hr hlocks hml hown hts hbl hlo hZ hK hX hP hD hS hl)
    · exact lv_tableIn (tgt := 1459) hx hb dL_law_33 (by decide) (by decide) rfl (by decide) (law_c33 hx hb hr hlocks hml hown hts hbl hlo hZ hK hX hP hD hS hl)
    · exact lv_tableIn (tgt := 1482) hx hb dL_law_33 (by decide) (by decide) rfl (by decide) (law_c34 hx hb hr hlocks hml hown hts hbl hlo hZ hK hX hP hD hS hl)
    · exact lv_tableOut (tgt := 1505) hx hb dL_law_33 hsw (by decide) (law_tail hx hb hr hlocks hX hbl hS (lv_sub hl [0, 3] rfl))


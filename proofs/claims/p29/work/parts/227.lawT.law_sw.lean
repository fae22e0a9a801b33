theorem law_sw (x : Int32) : x = 0 ∨ x = 1 ∨ x = 2 ∨ x = 3 ∨ x = 4 ∨ x = 5 ∨ x = 6 ∨ x = 7 ∨ x = 8 ∨ x = 9 ∨ x = 10 ∨ x = 11 ∨ x = 12 ∨ x = 13 ∨ x = 14 ∨ x = 15 ∨ x = 16 ∨ x = 17 ∨ x = 18 ∨ x = 19 ∨ x = 20 ∨ x = 21 ∨ x = 22 ∨ x = 23 ∨ x = 24 ∨ x = 25 ∨ x = 26 ∨ x = 27 ∨ x = 28 ∨ x = 29 ∨ x = 30 ∨ x = 31 ∨ x = 32 ∨ x = 33 ∨ x = 34 ∨ (x.toInt < 0 ∨ 34 < x.toInt) := by
  have h : ∀ y : Int32, x.toInt = y.toInt → x = y := fun y => Int32.toInt_inj.mp
  rcases Classical.em (x.toInt < 0 ∨ 34 < x.toInt) with hx | hx
  · exact .inr (.inr (.inr (.inr (.inr (.inr (.inr (.inr (.inr (.inr (.inr (.inr (.inr (.inr (.inr (.inr (.inr (.inr (.inr (.inr (.inr (.inr (.inr (.inr (.inr (.inr (.inr (.inr (.inr (.inr (.inr (.inr (.inr (.inr (.inr (hx)))))))))))))))))))))))))))))))))))
  · have h0 : x.toInt = ((x.toInt.toNat : Nat) : Int) := by omega
    have h1 : x.toInt.toNat < 35 := by omega
    generalize x.toInt.toNat = n at h0 h1
    match n, h1 with
    | 0, _ => exact .inl (h 0 h0)
    | 1, _ => exact .inr (.inl (h 1 h0))
    | 2, _ => exact .inr (.inr (.inl (h 2 h0)))
    | 3, _ => exact .inr (.inr (.inr (.inl (h 3 h0))))
    | 4, _ => exact .inr (.inr (.inr (.inr (.inl (h 4 h0)))))
    | 5, _ => exact .inr (.inr (.inr (.inr (.inr (.inl (h 5 h0))))))
    | 6, _ => exact .inr (.inr (.inr (.inr (.inr (.inr (.inl (h 6 h0)))))))
    | 7, _ => exact .inr (.inr (.inr (.inr (.inr (.inr (.inr (.inl (h 7 h0))))))))
    | 8, _ => exact .inr (.inr (.inr (.inr (.inr (.inr (.inr (.inr (.inl (h 8 h0)))))))))
    | 9, _ => exact .inr (.inr (.inr (.inr (.inr (.inr (.inr (.inr (.inr (.inl (h 9 h0))))))))))
    | 10, _ => exact .inr (.inr (.inr (.inr (.inr (.inr (.inr (.inr (.inr (.inr (.inl (h 10 h0)))))))))))
    | 11, _ => exact .inr (.inr (.inr (.inr (.inr (.inr (.inr (.inr (.inr (.inr (.inr (.inl (h 11 h0))))))))))))
    | 12, _ => exact .inr (.inr (.inr (.inr (.inr (.inr (.inr (.inr (.inr (.inr (.inr (.inr (.inl (h 12 h0)))))))))))))
    | 13, _ => exact .inr (.inr (.inr (.inr (.inr (.inr (.inr (.inr (.inr (.inr (.inr (.inr (.inr (.inl (h 13 h0))))))))))))))
    | 14, _ => exact .inr (.inr (.inr (.inr (.inr (.inr (.inr (.inr (.inr (.inr (.inr (.inr (.inr (.inr (.inl (h 14 h0)))))))))))))))
    | 15, _ => exact .inr (.inr (.inr (.inr (.inr (.inr (.inr (.inr (.inr (.inr (.inr (.inr (.inr (.inr (.inr (.inl (h 15 h0))))))))))))))))
    | 16, _ => exact .inr (.inr (.inr (.inr (.inr (.inr (.inr (.inr (.inr (.inr (.inr (.inr (.inr (.inr (.inr (.inr (.inl (h 16 h0)))))))))))))))))
    | 17, _ => exact .inr (.inr (.inr (.inr (.inr (.inr (.inr (.inr (.inr (.inr (.inr (.inr (.inr (.inr (.inr (.inr (.inr (.inl (h 17 h0))))))))))))))))))
    | 18, _ => exact .inr (.inr (.inr (.inr (.inr (.inr (.inr (.inr (.inr (.inr (.inr (.inr (.inr (.inr (.inr (.inr (.inr (.inr (.inl (h 18 h0)))))))))))))))))))
    | 19, _ => exact .inr (.inr (.inr (.inr (.inr (.inr (.inr (.inr (.inr (.inr (.inr (.inr (.inr (.inr (.inr (.inr (.inr (.inr (.inr (.inl (h 19 h0))))))))))))))))))))
    | 20, _ => exact .inr (.inr (.inr (.inr (.inr (.inr (.inr (.inr (.inr (.inr (.inr (.inr (.inr (.inr (.inr (.inr (.inr (.inr (.inr (.inr (.inl (h 20 h0)))))))))))))))))))))
    | 21, _ => exact .inr (.inr (.inr (.inr (.inr (.inr (.inr (.inr (.inr (.inr (.inr (.inr (.inr (.inr (.inr (.inr (.inr (.inr (.inr (.inr (.inr (.inl (h 21 h0))))))))))))))))))))))
    | 22, _ => exact .inr (.inr (.inr (.inr (.inr (.inr (.inr (.inr (.inr (.inr (.inr (.inr (.inr (.inr (.inr (.inr (.inr (.inr (.inr (.inr (.inr (.inr (.inl (h 22 h0)))))))))))))))))))))))
    | 23, _ => exact .inr (.inr (.inr (.inr (.inr (.inr (.inr (.inr (.inr (.inr (.inr (.inr (.inr (.inr (.inr (.inr (.inr (.inr (.inr (.inr (.inr (.inr (.inr (.inl (h 23 h0))))))))))))))))))))))))
    | 24, _ => exact .inr (.inr (.inr (.inr (.inr (.inr (.inr (.inr (.inr (.inr (.inr (.inr (.inr (.inr (.inr (.inr (.inr (.inr (.inr (.inr (.inr (.inr (.inr (.inr (.inl (h 24 h0)))))))))))))))))))))))))
    | 25, _ => exact .inr (.inr (.inr (.inr (.inr (.inr (.inr (.inr (.inr (.inr (.inr (.inr (.inr (.inr (.inr (.inr (.inr (.inr (.inr (.inr (.inr (.inr (.inr (.inr (.inr (.inl (h 25 h0))))))))))))))))))))))))))
    | 26, _ => exact .inr (.inr (.inr (.inr (.inr (.inr (.inr (.inr (.inr (.inr (.inr (.inr (.inr (.inr (.inr (.inr (.inr (.inr (.inr (.inr (.inr (.inr (.inr (.inr (.inr (.inr (.inl (h 26 h0)))))))))))))))))))))))))))
    | 27, _ => exact .inr (.inr (.inr (.inr (.inr (.inr (.inr (.inr (.inr (.inr (.inr (.inr (.inr (.inr (.inr (.inr (.inr (.inr (.inr (.inr (.inr (.inr (.inr (.inr (.inr (.inr (.inr (.inl (h 27 h0))))))))))))))))))))))))))))
    | 28, _ => exact .inr (.inr (.inr (.inr (.inr (.inr (.inr (.inr (.inr (.inr (.inr (.inr (.inr (.inr (.inr (.inr (.inr (.inr (.inr (.inr (.inr (.inr (.inr (.inr (.inr (.inr (.inr (.inr (.inl (h 28 h0)))))))))))))))))))))))))))))
    | 29, _ => exact .inr (.inr (.inr (.inr (.inr (.inr (.inr (.inr (.inr (.inr (.inr (.inr (.inr (.inr (.inr (.inr (.inr (.inr (.inr (.inr (.inr (.inr (.inr (.inr (.inr (.inr (.inr (.inr (.inr (.inl (h 29 h0))))))))))))))))))))))))))))))
    | 30, _ => exact .inr (.inr (.inr (.inr (.inr (.inr (.inr (.inr (.inr (.inr (.inr (.inr (.inr (.inr (.inr (.inr (.inr (.inr (.inr (.inr (.inr (.inr (.inr (.inr (.inr (.inr (.inr (.inr (.inr (.inr (.inl (h 30 h0)))))))))))))))))))))))))))))))
    | 31, _ => exact .inr (.inr (.inr (.inr (.inr (.inr (.inr (.inr (.inr (.inr (.inr (.inr (.inr (.inr (.inr (.inr (.inr (.inr (.inr (.inr (.inr (.inr (.inr (.inr (.inr (.inr (.inr (.inr (.inr (.inr (.inr (.inl (h 31 h0))))))))))))))))))))))))))))))))
    | 32, _ => exact .inr (.inr (.inr (.inr (.inr (.inr (.inr (.inr (.inr (.inr (.inr (.inr (.inr (.inr (.inr (.inr (.inr (.inr (.inr (.inr (.inr (.inr (.inr (.inr (.inr (.inr (.inr (.inr (.inr (.inr (.inr (.inr (.inl (h 32 h0)))))))))))))))))))))))))))))))))
    | 33, _ => exact .inr (.inr (.inr (.inr (.inr (.inr (.inr (.inr (.inr (.inr (.inr (.inr (.inr (.inr (.inr (.inr (.inr (.inr (.inr (.inr (.inr (.inr (.inr (.inr (.inr (.inr (.inr (.inr (.inr (.inr (.inr (.inr (.inr (.inl (h 33 h0))))))))))))))))))))))))))))))))))
    | 34, _ => exact .inr (.inr (.inr (.inr (.inr (.inr (.inr (.inr (.inr (.inr (.inr (.inr (.inr (.inr (.inr (.inr (.inr (.inr (.inr (.inr (.inr (.inr (.inr (.inr (.inr (.inr (.inr (.inr (.inr (.inr (.inr (.inr (.inr (.inr (.inl (h 34 h0)))))))))))))))))))))))))))))))))))
    | n + 35, h1 => exact absurd h1 (by omega)

theorem dL_law_1505 : decode code 1505 = .ok (.iinc 3 8, 3) := by decide +kernel
theorem dL_law_1508 : decode code 1508 = .ok (.goto (-1490), 3) := by decide +kernel
theorem dL_law_18 : decode code 18 = .ok (.iload_n 3, 1) := by decide +kernel
theorem dL_law_19 : decode code 19 = .ok (.aload_n 0, 1) := by decide +kernel
theorem dL_law_20 : decode code 20 = .ok (.arraylength, 1) := by decide +kernel
theorem dL_law_21 : decode code 21 = .ok (.bipush 8, 2) := by decide +kernel
theorem dL_law_23 : decode code 23 = .ok (.isub, 1) := by decide +kernel
theorem dL_law_24 : decode code 24 = .ok (.if_icmp .gt 1487, 3) := by decide +kernel
theorem dL_law_27 : decode code 27 = .ok (.aload_n 0, 1) := by decide +kernel
theorem dL_law_28 : decode code 28 = .ok (.iload_n 3, 1) := by decide +kernel
theorem dL_law_29 : decode code 29 = .ok (.iaload, 1) := by decide +kernel
theorem dL_law_30 : decode code 30 = .ok (.bipush 63, 2) := by decide +kernel
theorem dL_law_32 : decode code 32 = .ok (.iand, 1) := by decide +kernel
theorem dL_law_33 : decode code 33 = .ok (.tableswitch 1472 0 34 #[155, 218, 241, 254, 287, 330, 389, 432, 485, 538, 591, 624, 667, 700, 733, 746, 789, 828, 841, 900, 933, 1020, 1043, 1076, 1109, 1162, 1195, 1228, 1261, 1294, 1337, 1360, 1403, 1426, 1449], 155) := by decide +kernel
theorem dL_law_1511 : decode code 1511 = .ok (.iconst 1, 1) := by decide +kernel
theorem dL_law_1512 : decode code 1512 = .ok (.ireturn, 1) := by decide +kernel
set_option maxHeartbeats 8000000 in
set_option maxRecDepth 100000 in
theorem law_head {p : Program} {l : Launch} {e : Env} {s : State} {m : MethodId} {below : List Frame} {meth : Method} {c : Code} {b : Nat} {xs : Nat → Int32} {H : Heap} {locs : List Loc} {ls : Array Slot} (hx : p.tables.exec = Jvm.exec) (hb : c.code = code) (hr : meth.sig.returnType = ret) (hlocks : meth.locks = false) {D : va_G} {k : Nat → ClassId} {st : Nat → Nat} {lo : Nat} {ax am : Nat → Nat} (hml : c.maxLocals = 4) (hown : s.vm.findClass R_law = some m.cls) (hts : ∀ w ∈ LW, w.before #[Value.ref b] s = true) (hbl : b < s.heap.size) (hlo : lo ≤ s.heap.size) (hZ : Zs st lo s s.heap) (hK : va_K D classes (TY k) s) {L : Nat} (hL : L ≤ 512) (hX : va_X b L xs s s.heap) (zz : QSt) (hO : LOK zz) (hP : va_P D classes (LWd k ax am zz) H) (hD : va_D (fun q : Nat => s.heap.size ≤ q) (LWd k ax am zz)) (hS : va_S (fun q : Nat => s.heap.size ≤ q) s.heap H locs) (hl : lv_has ls 4 [(3, .int 0), (2, .ref (am 0)), (1, .ref (ax 0)), (0, .ref b)]) : W p l e room_1 s m #[Value.ref b] below meth c H locs 102 5857 (lw_Z below #[Value.ref b] s) (F0 m 18 ls []) := by
  have hbA : ¬ (fun q : Nat => s.heap.size ≤ q) b := Nat.not_le.mpr hbl
  refine W_loop (σ := QSt × Nat) (fun n_ x_ H locs ls => n_ = 520 - x_.2 ∧ x_.2 ≤ 512 ∧ LOK x_.1 ∧ va_P D classes (LWd k ax am x_.1) H ∧ va_D (fun q : Nat => s.heap.size ≤ q) (LWd k ax am x_.1) ∧ va_S (fun q : Nat => s.heap.size ≤ q) s.heap H locs ∧ lv_has ls 4 [(3, .int (nI x_.2)), (2, .ref (am 0)), (1, .ref (ax 0)), (0, .ref b)]) (fun n_ x_ H locs ls hI ih => ?_) _ (zz, 0) ⟨rfl, Nat.zero_le _, hO, hP, hD, hS, hl⟩
  obtain ⟨yy, i⟩ := x_
  obtain ⟨hm, hi, hO, hP, hD, hS, hl⟩ := hI
  replace hi : i ≤ 512 := hi
  replace hm : n_ = 520 - i := hm
  replace hO : LOK yy := hO
  replace hP : va_P D classes (LWd k ax am yy) H := hP
  replace hD : va_D (fun q : Nat => s.heap.size ≤ q) (LWd k ax am yy) := hD
  replace hl : lv_has ls 4 [(3, .int (nI i)), (2, .ref (am 0)), (1, .ref (ax 0)), (0, .ref b)] := hl
  refine lv_iload_n hx hb dL_law_18 rfl (lv_at hl 0 rfl) ?_
  refine lv_aload_n hx hb dL_law_19 rfl (lv_at hl 3 rfl) ?_
  refine va_slen hx hb hX hbl hbA hS dL_law_20 ?_
  refine lv_bipush (v := 8) hx hb dL_law_21 (by decide) ?_
  refine lv_isub hx hb dL_law_23 ?_
  refine lv_icmp_gt (tgt := 1511) hx hb dL_law_24 (by decide) (fun _ => ?_) (fun hc => ?_)
  · refine lv_iconst (v := 1) hx hb dL_law_1511 (by decide) ?_
    refine va_forget (fun q hq => hS.2.2 q hq) ?_
    refine W.widen (k := 600000) (n := 7302250) (by decide) (by decide) ?_
    exact lw_ret hx hb hr hlocks dL_law_1512
  · have hi8 : i + 8 ≤ L := ltL hL hi hc
    have hT : ∀ (zy : QSt) (H' : Heap) (locs' : List Loc) (ls' : Array Slot), LOK zy → va_P D classes (LWd k ax am zy) H' → va_D (fun q : Nat => s.heap.size ≤ q) (LWd k ax am zy) → va_S (fun q : Nat => s.heap.size ≤ q) s.heap H' locs' → lv_has ls' 4 [(3, .int (nI i)), (2, .ref (am 0)), (1, .ref (ax 0)), (0, .ref b)] → W p l e room_1 s m #[Value.ref b] below meth c H' locs' 102 5857 (lw_Z below #[Value.ref b] s) (F0 m 1505 ls' []) := by
      intro zy H' locs' ls' hO' hP' hD' hS' hl'
      refine lv_iinc (v := nI (i + 8)) (lv' := [(3, .int (nI (i + 8))), (2, .ref (am 0)), (1, .ref (ax 0)), (0, .ref b)]) hx hb dL_law_1505 hl' (k := 0) rfl (nI_add i 8) (by decide) rfl (fun ls2 hl2 => ?_)
      refine lv_goto (tgt := 18) hx hb dL_law_1508 (by decide) ?_
      exact ih _ (zy, i + 8) _ _ _ (show 520 - (i + 8) < n_ by omega) ⟨rfl, (show i + 8 ≤ 512 by omega), hO', hP', hD', hS', hl2⟩
    refine lv_aload_n hx hb dL_law_27 rfl (lv_at hl 3 rfl) ?_
    refine lv_iload_n hx hb dL_law_28 rfl (lv_at hl 0 rfl) ?_
    refine va_sld hx hb hX hbl hbA hS (vp_in_nI (by omega) (by omega)) dL_law_29 ?_
    refine lv_bipush (v := 63) hx hb dL_law_30 (by decide) ?_
    refine lv_iand hx hb dL_law_32 ?_
    refine lv_topi (fun x_1 ex_1 => ?_)
    clear ex_1
    rcases law_sw x_1 with rfl | rfl | rfl | rfl | rfl | rfl | rfl | rfl | rfl | rfl | rfl | rfl | rfl | rfl | rfl | rfl | rfl | rfl | rfl | rfl | rfl | rfl | rfl | rfl | rfl | rfl | rfl | rfl | rfl | rfl | rfl | rfl | rfl | rfl | rfl | hsw
    · exact lv_tableIn (tgt := 188) hx hb dL_law_33 (by decide) (by decide) rfl (by decide) (law_c0 hx hb hr hlocks hml hown hts hbl hlo hZ hK hL hi8 hX hO hP hD hS hl hT)
    · exact lv_tableIn (tgt := 251) hx hb dL_law_33 (by decide) (by decide) rfl (by decide) (law_c1 hx hb hr hlocks hml hown hts hbl hlo hZ hK hL hi8 hX hO hP hD hS hl hT)
    · exact lv_tableIn (tgt := 274) hx hb dL_law_33 (by decide) (by decide) rfl (by decide) (law_c2 hx hb hr hlocks hml hown hts hbl hlo hZ hK hL hi8 hX hO hP hD hS hl hT)
    · exact lv_tableIn (tgt := 287) hx hb dL_law_33 (by decide) (by decide) rfl (by decide) (law_c3 hx hb hr hlocks hml hown hts hbl hlo hZ hK hL hi8 hX hO hP hD hS hl hT)
    · exact lv_tableIn (tgt := 320) hx hb dL_law_33 (by decide) (by decide) rfl (by decide) (law_c4 hx hb hr hlocks hml hown hts hbl hlo hZ hK hL hi8 hX hO hP hD hS hl hT)
    · exact lv_tableIn (tgt := 363) hx hb dL_law_33 (by decide) (by decide) rfl (by decide) (law_c5 hx hb hr hlocks hml hown hts hbl hlo hZ hK hL hi8 hX hO hP hD hS hl hT)
    · exact lv_tableIn (tgt := 422) hx hb dL_law_33 (by decide) (by decide) rfl (by decide) (law_c6 hx hb hr hlocks hml hown hts hbl hlo hZ hK hL hi8 hX hO hP hD hS hl hT)
    · exact lv_tableIn (tgt := 465) hx hb dL_law_33 (by decide) (by decide) rfl (by decide) (law_c7 hx hb hr hlocks hml hown hts hbl hlo hZ hK hL hi8 hX hO hP hD hS hl hT)
    · exact lv_tableIn (tgt := 518) hx hb dL_law_33 (by decide) (by decide) rfl (by decide) (law_c8 hx hb hr hlocks hml hown hts hbl hlo hZ hK hL hi8 hX hO hP hD hS hl hT)
    · exact lv_tableIn (tgt := 571) hx hb dL_law_33 (by decide) (by decide) rfl (by decide) (law_c9 hx hb hr hlocks hml hown hts hbl hlo hZ hK hL hi8 hX hO hP hD hS hl hT)
    · exact lv_tableIn (tgt := 624) hx hb dL_law_33 (by decide) (by decide) rfl (by decide) (law_c10 hx hb hr hlocks hml hown hts hbl hlo hZ hK hL hi8 hX hO hP hD hS hl hT)
    · exact lv_tableIn (tgt := 657) hx hb dL_law_33 (by decide) (by decide) rfl (by decide) (law_c11 hx hb hr hlocks hml hown hts hbl hlo hZ hK hL hi8 hX hO hP hD hS hl hT)
    · exact lv_tableIn (tgt := 700) hx hb dL_law_33 (by decide) (by decide) rfl (by decide) (law_c12 hx hb hr hlocks hml hown hts hbl hlo hZ hK hL hi8 hX hO hP hD hS hl hT)
    · exact lv_tableIn (tgt := 733) hx hb dL_law_33 (by decide) (by decide) rfl (by decide) (law_c13 hx hb hr hlocks hml hown hts hbl hlo hZ hK hL hi8 hX hO hP hD hS hl hT)
    · exact lv_tableIn (tgt := 766) hx hb dL_law_33 (by decide) (by decide) rfl (by decide) (law_c14 hx hb hr hlocks hml hown hts hbl hlo hZ hK hL hi8 hX hO hP hD hS hl hT)
    · exact lv_tableIn (tgt := 779) hx hb dL_law_33 (by decide) (by decide) rfl (by decide) (law_c15 hx hb hr hlocks hml hown hts hbl hlo hZ hK hL hi8 hX hO hP hD hS hl hT)
    · exact lv_tableIn (tgt := 822) hx hb dL_law_33 (by decide) (by decide) rfl (by decide) (law_c16 hx hb hr hlocks hml hown hts hbl hlo hZ hK hL hi8 hX hO hP hD hS hl hT)
    · exact lv_tableIn (tgt := 861) hx hb dL_law_33 (by decide) (by decide) rfl (by decide) (law_c17 hx hb hr hlocks hml hown hts hbl hlo hZ hK hL hi8 hX hO hP hD hS hl hT)
    · exact lv_tableIn (tgt := 874) hx hb dL_law_33 (by decide) (by decide) rfl (by decide) (law_c18 hx hb hr hlocks hml hown hts hbl hlo hZ hK hL hi8 hX hO hP hD hS hl hT)
    · exact lv_tableIn (tgt := 933) hx hb dL_law_33 (by decide) (by decide) rfl (by decide) (law_c19 hx hb hr hlocks hml hown hts hbl hlo hZ hK hL hi8 hX hO hP hD hS hl hT)
    · exact lv_tableIn (tgt := 966) hx hb dL_law_33 (by decide) (by decide) rfl (by decide) (law_c20 hx hb hr hlocks hml hown hts hbl hlo hZ hK hL hi8 hX hO hP hD hS hl hT)
    · exact lv_tableIn (tgt := 1053) hx hb dL_law_33 (by decide) (by decide) rfl (by decide) (law_c21 hx hb hr hlocks hml hown hts hbl hlo hZ hK hL hi8 hX hO hP hD hS hl hT)
    · exact lv_tableIn (tgt := 1076) hx hb dL_law_33 (by decide) (by decide) rfl (by decide) (law_c22 hx hb hr hlocks hml hown hts hbl hlo hZ hK hL hi8 hX hO hP hD hS hl hT)
    · exact lv_tableIn (tgt := 1109) hx hb dL_law_33 (by decide) (by decide) rfl (by decide) (law_c23 hx hb hr hlocks hml hown hts hbl hlo hZ hK hL hi8 hX hO hP hD hS hl hT)
    · exact lv_tableIn (tgt := 1142) hx hb dL_law_33 (by decide) (by decide) rfl (by decide) (law_c24 hx hb hr hlocks hml hown hts hbl hlo hZ hK hL hi8 hX hO hP hD hS hl hT)
    · exact lv_tableIn (tgt := 1195) hx hb dL_law_33 (by decide) (by decide) rfl (by decide) (law_c25 hx hb hr hlocks hml hown hts hbl hlo hZ hK hL hi8 hX hO hP hD hS hl hT)
    · exact lv_tableIn (tgt := 1228) hx hb dL_law_33 (by decide) (by decide) rfl (by decide) (law_c26 hx hb hr hlocks hml hown hts hbl hlo hZ hK hL hi8 hX hO hP hD hS hl hT)
    · exact lv_tableIn (tgt := 1261) hx hb dL_law_33 (by decide) (by decide) rfl (by decide) (law_c27 hx hb hr hlocks hml hown hts hbl hlo hZ hK hL hi8 hX hO hP hD hS hl hT)
    · exact lv_tableIn (tgt := 1294) hx hb dL_law_33 (by decide) (by decide) rfl (by decide) (law_c28 hx hb hr hlocks hml hown hts hbl hlo hZ hK hL hi8 hX hO hP hD hS hl hT)
    · exact lv_tableIn (tgt := 1327) hx hb dL_law_33 (by decide) (by decide) rfl (by decide) (law_c29 hx hb hr hlocks hml hown hts hbl hlo hZ hK hL hi8 hX hO hP hD hS hl hT)
    · exact lv_tableIn (tgt := 1370) hx hb dL_law_33 (by decide) (by decide) rfl (by decide) (law_c30 hx hb hr hlocks hml hown hts hbl hlo hZ hK hL hi8 hX hO hP hD hS hl hT)
    · exact lv_tableIn (tgt := 1393) hx hb dL_law_33 (by decide) (by decide) rfl (by decide) (law_c31 hx hb hr hlocks hml hown hts hbl hlo hZ hK hL hi8 hX hO hP hD hS hl hT)
    · exact lv_tableIn (tgt := 1436) hx hb dL_law_33 (by decide) (by decide) rfl (by decide) (law_c32 hx hb hr hlocks hml hown hts hbl hlo hZ hK hL hi8 hX hO hP hD hS hl hT)
    · exact lv_tableIn (tgt := 1459) hx hb dL_law_33 (by decide) (by decide) rfl (by decide) (law_c33 hx hb hr hlocks hml hown hts hbl hlo hZ hK hL hi8 hX hO hP hD hS hl hT)
    · exact lv_tableIn (tgt := 1482) hx hb dL_law_33 (by decide) (by decide) rfl (by decide) (law_c34 hx hb hr hlocks hml hown hts hbl hlo hZ hK hL hi8 hX hO hP hD hS hl hT)
    · exact lv_tableOut (tgt := 1505) hx hb dL_law_33 hsw (by decide) (hT yy _ _ _ hO hP hD hS hl)

theorem law_glueK : True := trivial
/-- array classes of the tables' words -/
theorem K_prim {args : Array Value} {s : State} {ty : FieldType} (h : (Cond.arrayClass ty).before args s = true) : ∃ cA : ClassId, ArrOfT s cA ty ∧ s.vm.findClass ("[" ++ ty.toString) = some cA := by
  obtain ⟨cA, kA, comp, h1, h2, h3⟩ := Cond.arrayClass_spec h
  exact ⟨cA, fun n z => ⟨fun k h => (by cases h), kA, h2, comp, h3⟩, h1⟩
theorem K_obj {args : Array Value} {s : State} {C : String} (h : (Cond.arrayOver (.object C)).before args s = true) : ∃ cA : ClassId, ArrOfT s cA (.object C) ∧ va_RA s cA (.object C) := by
  obtain ⟨comp, cA, kA, h1, -, h3, h4, h5⟩ := Cond.arrayOver_spec h
  exact ⟨cA, fun n z => ⟨fun k h => (by cases h), kA, h3, comp, h4⟩, kA, comp, h3, h4, h1, h5⟩
theorem law_K {args : Array Value} {s : State} (hts0 : ∀ w ∈ lw_tbl, w.before args s = true) : ∃ (D : va_G) (k : Nat → ClassId), va_K D classes (TY k) s := by
  have hts := LW_lw hts0
  obtain ⟨c0, iS0, hKn0⟩ := u_known (C := RX0) (T := TX0) (N := 5) (n := 5) hts inX0 (hts0 (.instantiable RX0 5) (List.mem_of_getElem? (i := 261) (by decide +kernel)))
  obtain ⟨c1, iS1, hKn1⟩ := u_known (C := RX1) (T := TX1) (N := 8) (n := 8) hts inX1 (hts0 (.instantiable RX1 8) (List.mem_of_getElem? (i := 230) (by decide +kernel)))
  obtain ⟨c2, iS2, hKn2⟩ := u_known (C := RX2) (T := TX2) (N := 5) (n := 5) hts inX2 (hts0 (.instantiable RX2 5) (List.mem_of_getElem? (i := 205) (by decide +kernel)))
  obtain ⟨c3, iS3, hKn3⟩ := u_known (C := RX3) (T := TX3) (N := 5) (n := 5) hts inX3 (hts0 (.instantiable RX3 5) (List.mem_of_getElem? (i := 284) (by decide +kernel)))
  obtain ⟨c4, iS4, hKn4⟩ := u_known (C := RX4) (T := TX4) (N := 6) (n := 6) hts inX4 (hts0 (.instantiable RX4 6) (List.mem_of_getElem? (i := 168) (by decide +kernel)))
  obtain ⟨c5, iS5, hKn5⟩ := u_known (C := RX5) (T := TX5) (N := 4) (n := 4) hts inX5 (hts0 (.instantiable RX5 4) (List.mem_of_getElem? (i := 141) (by decide +kernel)))
  obtain ⟨c6, iS6, hKn6⟩ := u_known (C := RX6) (T := TX6) (N := 6) (n := 6) hts inX6 (hts0 (.instantiable RX6 6) (List.mem_of_getElem? (i := 104) (by decide +kernel)))
  obtain ⟨c7, iS7, hKn7⟩ := u_known (C := RX7) (T := TX7) (N := 12) (n := 12) hts inX7 (hts0 (.instantiable RX7 12) (List.mem_of_getElem? (i := 96) (by decide +kernel)))
  obtain ⟨c8, iS8, hKn8⟩ := u_known (C := RX8) (T := TX8) (N := 44) (n := 44) hts inX8 (hts0 (.instantiable RX8 44) (List.mem_of_getElem? (i := 964) (by decide +kernel)))
  obtain ⟨k0, hA0, hF0⟩ := K_prim (hts0 (.arrayClass .byte) (List.mem_of_getElem? (i := 136) (by decide +kernel)))
  obtain ⟨k1, hA1, hF1⟩ := K_prim (hts0 (.arrayClass .int) (List.mem_of_getElem? (i := 164) (by decide +kernel)))
  obtain ⟨k2, hA2, hF2⟩ := K_prim (hts0 (.arrayClass .boolean) (List.mem_of_getElem? (i := 228) (by decide +kernel)))
  obtain ⟨k3, hA3, hF3⟩ := K_obj (hts0 (.arrayOver (.object "LastPlace$Street")) (List.mem_of_getElem? (i := 138) (by decide +kernel)))
  obtain ⟨k4, hA4, hF4⟩ := K_obj (hts0 (.arrayOver (.object "LastPlace$BestWay")) (List.mem_of_getElem? (i := 140) (by decide +kernel)))
  obtain ⟨k5, hA5, hF5⟩ := K_obj (hts0 (.arrayOver (.object "LastPlace$Rule")) (List.mem_of_getElem? (i := 166) (by decide +kernel)))
  obtain ⟨k6, hA6, hF6⟩ := K_obj (hts0 (.arrayOver (.object "LastPlace$Scene")) (List.mem_of_getElem? (i := 203) (by decide +kernel)))
  refine ⟨(fun j => match j with | 0 => c0 | 1 => c1 | 2 => c2 | 3 => c3 | 4 => c4 | 5 => c5 | 6 => c6 | 7 => c7 | _ => c8, fun j => match j with | 0 => iS0 | 1 => iS1 | 2 => iS2 | 3 => iS3 | 4 => iS4 | 5 => iS5 | 6 => iS6 | 7 => iS7 | _ => iS8), fun j => match j with | 0 => k0 | 1 => k1 | 2 => k2 | 3 => k3 | 4 => k4 | 5 => k5 | _ => k6, ?_, ?_⟩
  · intro j q hq
    match j, hq with
    | 0, hq => cases hq; exact hKn0
    | 1, hq => cases hq; exact hKn1
    | 2, hq => cases hq; exact hKn2
    | 3, hq => cases hq; exact hKn3
    | 4, hq => cases hq; exact hKn4
    | 5, hq => cases hq; exact hKn5
    | 6, hq => cases hq; exact hKn6
    | 7, hq => cases hq; exact hKn7
    | 8, hq => cases hq; exact hKn8
    | j + 9, hq => simp [classes] at hq
  · intro j q hq
    match j, hq with
    | 0, hq => cases hq; exact ⟨hA0, hF0⟩
    | 1, hq => cases hq; exact ⟨hA1, hF1⟩
    | 2, hq => cases hq; exact ⟨hA2, hF2⟩
    | 3, hq => cases hq; exact ⟨hA3, hF3⟩
    | 4, hq => cases hq; exact ⟨hA4, hF4⟩
    | 5, hq => cases hq; exact ⟨hA5, hF5⟩
    | 6, hq => cases hq; exact ⟨hA6, hF6⟩
    | j + 7, hq => simp [TY] at hq

theorem law_Nws {args : Array Value} {s : State} (hts0 : ∀ w ∈ lw_tbl, w.before args s = true) : Nws s := by
  refine ⟨?_, ?_, ?_⟩
  · intro q hq
    simp only [nestM, List.mem_cons, List.not_mem_nil, or_false] at hq
    rcases hq with rfl | rfl | rfl | rfl | rfl | rfl | rfl
    · exact va_Nw.of rfl (hts0 (.methodLinkNest RX7 11 yX6_init RX7) (List.mem_of_getElem? (i := 105) (by decide +kernel)))
    · exact va_Nw.of rfl (hts0 (.methodLinkNest RX7 28 yX5_init RX7) (List.mem_of_getElem? (i := 142) (by decide +kernel)))
    · exact va_Nw.of rfl (hts0 (.methodLinkNest RX7 48 yX4_init RX7) (List.mem_of_getElem? (i := 169) (by decide +kernel)))
    · exact va_Nw.of rfl (hts0 (.methodLinkNest RX7 63 yX2_init RX7) (List.mem_of_getElem? (i := 206) (by decide +kernel)))
    · exact va_Nw.of rfl (hts0 (.methodLinkNest RX7 80 yX3_init RX7) (List.mem_of_getElem? (i := 285) (by decide +kernel)))
    · exact va_Nw.of rfl (hts0 (.methodLinkNest RX0 80 yX7_mixed RX7) (List.mem_of_getElem? (i := 568) (by decide +kernel)))
    · exact va_Nw.of rfl (hts0 (.methodLinkNest RX2 78 yX7_mixed RX7) (List.mem_of_getElem? (i := 734) (by decide +kernel)))
  · intro q hq
    simp only [nestF, List.mem_cons, List.not_mem_nil, or_false] at hq
    rcases hq with rfl | rfl | rfl | rfl
    · exact va_Nw.of rfl (hts0 (.fieldLinkNest RX5 40 "LastPlace" "NOT_TOLD" "[I" RX7) (List.mem_of_getElem? (i := 362) (by decide +kernel)))
    · exact va_Nw.of rfl (hts0 (.fieldLinkNest RX5 106 "LastPlace" "LEAST" "[I" RX7) (List.mem_of_getElem? (i := 463) (by decide +kernel)))
    · exact va_Nw.of rfl (hts0 (.fieldLinkNest RX5 109 "LastPlace" "MOST" "[I" RX7) (List.mem_of_getElem? (i := 465) (by decide +kernel)))
    · exact va_Nw.of rfl (hts0 (.fieldLinkNest RX3 54 "LastPlace" "MOST" "[I" RX7) (List.mem_of_getElem? (i := 691) (by decide +kernel)))
  · intro q hq
    simp only [overs, List.mem_cons, List.not_mem_nil, or_false] at hq
    rcases hq with rfl | rfl | rfl | rfl
    · exact va_AO.of (hts0 (.arrayOver (.object "LastPlace$Street")) (List.mem_of_getElem? (i := 138) (by decide +kernel)))
    · exact va_AO.of (hts0 (.arrayOver (.object "LastPlace$BestWay")) (List.mem_of_getElem? (i := 140) (by decide +kernel)))
    · exact va_AO.of (hts0 (.arrayOver (.object "LastPlace$Rule")) (List.mem_of_getElem? (i := 166) (by decide +kernel)))
    · exact va_AO.of (hts0 (.arrayOver (.object "LastPlace$Scene")) (List.mem_of_getElem? (i := 203) (by decide +kernel)))

theorem law_str0 : True := trivial
def sTmL : List Term := [.string "LastPlace$Street" 87, .string "LastPlace$Street" 88, .string "LastPlace$Street" 90, .string "LastPlace$Street" 92, .string "LastPlace$Street" 94, .string "LastPlace$Street" 96, .string "LastPlace$Street" 98, .string "LastPlace$Street" 100, .string "LastPlace$Street" 102, .string "LastPlace$Street" 104, .string "LastPlace$Street" 118, .string "LastPlace$Street" 124, .string "LastPlace$Rule" 28, .string "LastPlace$Rule" 43]
def sTm (i : Nat) : Term := sTmL.getD i (.int 0)
theorem law_sa : ∀ i, i < 14 → Cond.exactly (sTm i) "java/lang/String" ∈ flatC (Jvm.Cond.and given_1 narrow_1) := by decide +kernel
theorem law_sb : ∀ i, i < 14 → Cond.eq (.field (sTm i) "java/lang/String" "coder" "B") (.int 0) ∈ flatC (Jvm.Cond.and given_1 narrow_1) := by decide +kernel
theorem law_sc : ∀ i, i < 14 → Cond.arrayOf (.field (sTm i) "java/lang/String" "value" "[B") .byte ∈ flatC (Jvm.Cond.and given_1 narrow_1) := by decide +kernel
theorem law_sd : ∀ i, i < 14 → Cond.eq (.length (.field (sTm i) "java/lang/String" "value" "[B")) (.int (Int32.ofNat (sLen.getD i 0))) ∈ flatC (Jvm.Cond.and given_1 narrow_1) := by decide +kernel
theorem law_se : ∀ i, i < 14 → ∀ j, j < sLen.getD i 0 → Cond.eq (.elem (.field (sTm i) "java/lang/String" "value" "[B") (.int (Int32.ofNat j))) (.int ((sByt.getD i []).getD j 0)) ∈ flatC (Jvm.Cond.and given_1 narrow_1) := by decide +kernel
theorem law_sf : ∀ j, j < 14 → ∀ i, i < j → Cond.not (Cond.eq (sTm i) (sTm j)) ∈ flatC (Jvm.Cond.and given_1 narrow_1) := by decide +kernel

set_option maxHeartbeats 8000000 in
set_option maxRecDepth 100000 in
theorem law_Zs {b : Nat} {s : State} (hts0 : ∀ w ∈ lw_tbl, w.before #[Value.ref b] s = true) (hgv : (Jvm.Cond.and given_1 narrow_1).before #[Value.ref b] s = true) : ∃ st, Zs st s.heap.size s s.heap := by
  have hs := flat_of_before _ hgv
  have hA : ∀ a : Nat, a < s.heap.size → ¬ (fun q : Nat => s.heap.size ≤ q) a := fun a h => Nat.not_le.mpr h
  obtain ⟨t0, e0, T0⟩ := va_Tof (A := fun q : Nat => s.heap.size ≤ q) (tm := (.static "LastPlace" "NOT_TOLD" "[I")) (ty := .int) (N := 10) (f := fun j => .int (zNT j)) (by decide) (hs (.arrayOf (.static "LastPlace" "NOT_TOLD" "[I") .int) (by decide +kernel)) (va_eqt (hs (.eq (.length (.static "LastPlace" "NOT_TOLD" "[I")) (.int 10)) (by decide +kernel))) (fun j hj => match j, hj with | 0, _ => va_eqt (hs (.eq (.elem (.static "LastPlace" "NOT_TOLD" "[I") (.int 0)) (.int (0))) (by decide +kernel)) | 1, _ => va_eqt (hs (.eq (.elem (.static "LastPlace" "NOT_TOLD" "[I") (.int 1)) (.int (0))) (by decide +kernel)) | 2, _ => va_eqt (hs (.eq (.elem (.static "LastPlace" "NOT_TOLD" "[I") (.int 2)) (.int (2))) (by decide +kernel)) | 3, _ => va_eqt (hs (.eq (.elem (.static "LastPlace" "NOT_TOLD" "[I") (.int 3)) (.int (1))) (by decide +kernel)) | 4, _ => va_eqt (hs (.eq (.elem (.static "LastPlace" "NOT_TOLD" "[I") (.int 4)) (.int (5))) (by decide +kernel)) | 5, _ => va_eqt (hs (.eq (.elem (.static "LastPlace" "NOT_TOLD" "[I") (.int 5)) (.int (30))) (by decide +kernel)) | 6, _ => va_eqt (hs (.eq (.elem (.static "LastPlace" "NOT_TOLD" "[I") (.int 6)) (.int (1))) (by decide +kernel)) | 7, _ => va_eqt (hs (.eq (.elem (.static "LastPlace" "NOT_TOLD" "[I") (.int 7)) (.int (10))) (by decide +kernel)) | 8, _ => va_eqt (hs (.eq (.elem (.static "LastPlace" "NOT_TOLD" "[I") (.int 8)) (.int (0))) (by decide +kernel)) | 9, _ => va_eqt (hs (.eq (.elem (.static "LastPlace" "NOT_TOLD" "[I") (.int 9)) (.int (200))) (by decide +kernel)) | j + 10, h => absurd h (by omega)) hA
  obtain ⟨t1, e1, T1⟩ := va_Tof (A := fun q : Nat => s.heap.size ≤ q) (tm := (.static "LastPlace" "MOST" "[I")) (ty := .int) (N := 10) (f := fun j => .int (zMO j)) (by decide) (hs (.arrayOf (.static "LastPlace" "MOST" "[I") .int) (by decide +kernel)) (va_eqt (hs (.eq (.length (.static "LastPlace" "MOST" "[I")) (.int 10)) (by decide +kernel))) (fun j hj => match j, hj with | 0, _ => va_eqt (hs (.eq (.elem (.static "LastPlace" "MOST" "[I") (.int 0)) (.int (24))) (by decide +kernel)) | 1, _ => va_eqt (hs (.eq (.elem (.static "LastPlace" "MOST" "[I") (.int 1)) (.int (50))) (by decide +kernel)) | 2, _ => va_eqt (hs (.eq (.elem (.static "LastPlace" "MOST" "[I") (.int 2)) (.int (99))) (by decide +kernel)) | 3, _ => va_eqt (hs (.eq (.elem (.static "LastPlace" "MOST" "[I") (.int 3)) (.int (99))) (by decide +kernel)) | 4, _ => va_eqt (hs (.eq (.elem (.static "LastPlace" "MOST" "[I") (.int 4)) (.int (99))) (by decide +kernel)) | 5, _ => va_eqt (hs (.eq (.elem (.static "LastPlace" "MOST" "[I") (.int 5)) (.int (200))) (by decide +kernel)) | 6, _ => va_eqt (hs (.eq (.elem (.static "LastPlace" "MOST" "[I") (.int 6)) (.int (2))) (by decide +kernel)) | 7, _ => va_eqt (hs (.eq (.elem (.static "LastPlace" "MOST" "[I") (.int 7)) (.int (60))) (by decide +kernel)) | 8, _ => va_eqt (hs (.eq (.elem (.static "LastPlace" "MOST" "[I") (.int 8)) (.int (3))) (by decide +kernel)) | 9, _ => va_eqt (hs (.eq (.elem (.static "LastPlace" "MOST" "[I") (.int 9)) (.int (999))) (by decide +kernel)) | j + 10, h => absurd h (by omega)) hA
  obtain ⟨t2, e2, T2⟩ := va_Tof (A := fun q : Nat => s.heap.size ≤ q) (tm := (.static "LastPlace" "LEAST" "[I")) (ty := .int) (N := 10) (f := fun j => .int (zLE j)) (by decide) (hs (.arrayOf (.static "LastPlace" "LEAST" "[I") .int) (by decide +kernel)) (va_eqt (hs (.eq (.length (.static "LastPlace" "LEAST" "[I")) (.int 10)) (by decide +kernel))) (fun j hj => match j, hj with | 0, _ => va_eqt (hs (.eq (.elem (.static "LastPlace" "LEAST" "[I") (.int 0)) (.int (1))) (by decide +kernel)) | 1, _ => va_eqt (hs (.eq (.elem (.static "LastPlace" "LEAST" "[I") (.int 1)) (.int (-50))) (by decide +kernel)) | 2, _ => va_eqt (hs (.eq (.elem (.static "LastPlace" "LEAST" "[I") (.int 2)) (.int (0))) (by decide +kernel)) | 3, _ => va_eqt (hs (.eq (.elem (.static "LastPlace" "LEAST" "[I") (.int 3)) (.int (0))) (by decide +kernel)) | 4, _ => va_eqt (hs (.eq (.elem (.static "LastPlace" "LEAST" "[I") (.int 4)) (.int (0))) (by decide +kernel)) | 5, _ => va_eqt (hs (.eq (.elem (.static "LastPlace" "LEAST" "[I") (.int 5)) (.int (0))) (by decide +kernel)) | 6, _ => va_eqt (hs (.eq (.elem (.static "LastPlace" "LEAST" "[I") (.int 6)) (.int (0))) (by decide +kernel)) | 7, _ => va_eqt (hs (.eq (.elem (.static "LastPlace" "LEAST" "[I") (.int 7)) (.int (0))) (by decide +kernel)) | 8, _ => va_eqt (hs (.eq (.elem (.static "LastPlace" "LEAST" "[I") (.int 8)) (.int (0))) (by decide +kernel)) | 9, _ => va_eqt (hs (.eq (.elem (.static "LastPlace" "LEAST" "[I") (.int 9)) (.int (0))) (by decide +kernel)) | j + 10, h => absurd h (by omega)) hA
  obtain ⟨adK, adV, hV, hE⟩ := vk_Sof (A := fun q : Nat => s.heap.size ≤ q) (N := 14) (tm := sTm) (len := sLen) (byt := sByt) (fun i hi => Nat.lt_of_le_of_lt (sLen_le i hi) (by decide)) (fun i hi => hs _ (law_sa i hi)) (fun i hi => hs _ (law_sb i hi)) (fun i hi => hs _ (law_sc i hi)) (fun i hi => hs _ (law_sd i hi)) (fun i hi j hj => hs _ (law_se i hi j hj)) (fun i j hi hj hn => (Nat.lt_or_gt_of_ne hn).elim (fun h => .inl (hs _ (law_sf j hj i h))) (fun h => .inr (hs _ (law_sf i hi j h)))) hA
  obtain ⟨stf, hst⟩ : ∃ f : Nat → Nat, f = fun i => if i < 100 then (match i with | 0 => t0 | 1 => t1 | _ => t2) else if i < 200 then adK (i - 100) else adV (i - 200) := ⟨_, rfl⟩
  have hk : ∀ i, i < 14 → stf (100 + i) = adK i := by
    intro i hi
    rw [hst]
    show (if 100 + i < 100 then _ else if 100 + i < 200 then adK (100 + i - 100) else _) = _
    rw [if_neg (by omega), if_pos (by omega), Nat.add_sub_cancel_left]
  have hv : ∀ i, stf (200 + i) = adV i := by
    intro i
    rw [hst]
    show (if 200 + i < 100 then _ else if 200 + i < 200 then _ else adV (200 + i - 200)) = _
    rw [if_neg (by omega), if_neg (by omega), Nat.add_sub_cancel_left]
  have h0 : stf 0 = t0 := by rw [hst]; rfl
  have h1 : stf 1 = t1 := by rw [hst]; rfl
  have h2 : stf 2 = t2 := by rw [hst]; rfl
  have hVS : vk_S 14 sLen sByt (fun i => stf (100 + i)) (fun i => stf (200 + i)) (fun q : Nat => s.heap.size ≤ q) s s.heap := by
    refine ⟨fun i hi => ?_, fun i j hi hj hij => ?_⟩
    · show va_O "java/lang/String" (stf (100 + i)) _ s s.heap ∧ va_OF "java/lang/String" "coder" "B" (.int 0) (stf (100 + i)) _ s s.heap ∧ va_OF "java/lang/String" "value" "[B" (.ref (stf (200 + i))) (stf (100 + i)) _ s s.heap ∧ va_T .byte (stf (200 + i)) _ _ _ s s.heap
      rw [hk i hi, hv i]
      exact hV.1 i hi
    · exact hV.2 i j hi hj (by have h9 : stf (100 + i) = stf (100 + j) := hij; rw [hk i hi, hk j hj] at h9; exact h9)
  refine ⟨stf, ?_⟩
  refine ⟨?_, ?_, ?_, ?_, ?_, ?_, ?_, ?_, law_Nws hts0, hVS, ?_⟩
  · rw [h0]; exact va_Zref (hts0 (.laysStatic "LastPlace" "NOT_TOLD" "[I") (List.mem_of_getElem? (i := 363) (by decide +kernel))) (hts0 (.initialized "LastPlace") (List.mem_of_getElem? (i := 79) (by decide +kernel))) e0 hA
  · rw [h0]; exact T0
  · rw [h1]; exact va_Zref (hts0 (.laysStatic "LastPlace" "MOST" "[I") (List.mem_of_getElem? (i := 466) (by decide +kernel))) (hts0 (.initialized "LastPlace") (List.mem_of_getElem? (i := 79) (by decide +kernel))) e1 hA
  · rw [h1]; exact T1
  · rw [h2]; exact va_Zref (hts0 (.laysStatic "LastPlace" "LEAST" "[I") (List.mem_of_getElem? (i := 464) (by decide +kernel))) (hts0 (.initialized "LastPlace") (List.mem_of_getElem? (i := 79) (by decide +kernel))) e2 hA
  · rw [h2]; exact T2
  · exact va_Zof (hts0 (.laysStatic "java/lang/String" "COMPACT_STRINGS" "Z") (List.mem_of_getElem? (i := 412) (by decide +kernel))) (hts0 (.initialized "java/lang/String") (List.mem_of_getElem? (i := 89) (by decide +kernel))) (va_eqi (hs (.eq (.static "java/lang/String" "COMPACT_STRINGS" "Z") (.int 1)) (by decide +kernel))) hA
  · exact va_Zqof (hts0 (.laysStatic "jdk/internal/util/Preconditions" "SIOOBE_FORMATTER" "Ljava/util/function/BiFunction;") (List.mem_of_getElem? (i := 428) (by decide +kernel))) (hts0 (.initialized "jdk/internal/util/Preconditions") (List.mem_of_getElem? (i := 91) (by decide +kernel))) (hs (.isRef (.static "jdk/internal/util/Preconditions" "SIOOBE_FORMATTER" "Ljava/util/function/BiFunction;")) (by decide +kernel)) hA
  · intro q hq
    simp only [strs, List.mem_cons, List.not_mem_nil, or_false] at hq
    rcases hq with rfl | rfl | rfl | rfl | rfl | rfl | rfl | rfl | rfl | rfl | rfl | rfl | rfl | rfl | rfl
    · show vk_R _ _ _ (stf (100 + 0)) s
      rw [hk 0 (by decide)]
      exact vk_R.of (hts0 (.stringRef "LastPlace$Street" 87 "doors") (List.mem_of_getElem? (i := 389) (by decide +kernel))) (hE 0 (by decide))
    · show vk_R _ _ _ (stf (100 + 1)) s
      rw [hk 1 (by decide)]
      exact vk_R.of (hts0 (.stringRef "LastPlace$Street" 88 "alike") (List.mem_of_getElem? (i := 390) (by decide +kernel))) (hE 1 (by decide))
    · show vk_R _ _ _ (stf (100 + 2)) s
      rw [hk 2 (by decide)]
      exact vk_R.of (hts0 (.stringRef "LastPlace$Street" 90 "walk") (List.mem_of_getElem? (i := 391) (by decide +kernel))) (hE 2 (by decide))
    · show vk_R _ _ _ (stf (100 + 3)) s
      rw [hk 3 (by decide)]
      exact vk_R.of (hts0 (.stringRef "LastPlace$Street" 92 "drive") (List.mem_of_getElem? (i := 392) (by decide +kernel))) (hE 3 (by decide))
    · show vk_R _ _ _ (stf (100 + 4)) s
      rw [hk 4 (by decide)]
      exact vk_R.of (hts0 (.stringRef "LastPlace$Street" 94 "late") (List.mem_of_getElem? (i := 393) (by decide +kernel))) (hE 4 (by decide))
    · show vk_R _ _ _ (stf (100 + 5)) s
      rw [hk 5 (by decide)]
      exact vk_R.of (hts0 (.stringRef "LastPlace$Street" 96 "curtain") (List.mem_of_getElem? (i := 394) (by decide +kernel))) (hE 5 (by decide))
    · show vk_R _ _ _ (stf (100 + 6)) s
      rw [hk 6 (by decide)]
      exact vk_R.of (hts0 (.stringRef "LastPlace$Street" 98 "see") (List.mem_of_getElem? (i := 395) (by decide +kernel))) (hE 6 (by decide))
    · show vk_R _ _ _ (stf (100 + 7)) s
      rw [hk 7 (by decide)]
      exact vk_R.of (hts0 (.stringRef "LastPlace$Street" 100 "round") (List.mem_of_getElem? (i := 396) (by decide +kernel))) (hE 7 (by decide))
    · show vk_R _ _ _ (stf (100 + 8)) s
      rw [hk 8 (by decide)]
      exact vk_R.of (hts0 (.stringRef "LastPlace$Street" 102 "times") (List.mem_of_getElem? (i := 397) (by decide +kernel))) (hE 8 (by decide))
    · show vk_R _ _ _ (stf (100 + 9)) s
      rw [hk 9 (by decide)]
      exact vk_R.of (hts0 (.stringRef "LastPlace$Street" 104 "garage") (List.mem_of_getElem? (i := 398) (by decide +kernel))) (hE 9 (by decide))
    · show vk_R _ _ _ (stf (100 + 10)) s
      rw [hk 10 (by decide)]
      exact vk_R.of (hts0 (.stringRef "LastPlace$Street" 118 "free") (List.mem_of_getElem? (i := 481) (by decide +kernel))) (hE 10 (by decide))
    · show vk_R _ _ _ (stf (100 + 11)) s
      rw [hk 11 (by decide)]
      exact vk_R.of (hts0 (.stringRef "LastPlace$Street" 124 "price") (List.mem_of_getElem? (i := 487) (by decide +kernel))) (hE 11 (by decide))
    · show vk_R _ _ _ (stf (100 + 12)) s
      rw [hk 12 (by decide)]
      exact vk_R.of (hts0 (.stringRef "LastPlace$Rule" 28 "from") (List.mem_of_getElem? (i := 679) (by decide +kernel))) (hE 12 (by decide))
    · show vk_R _ _ _ (stf (100 + 13)) s
      rw [hk 13 (by decide)]
      exact vk_R.of (hts0 (.stringRef "LastPlace$Rule" 43 "seen") (List.mem_of_getElem? (i := 683) (by decide +kernel))) (hE 13 (by decide))
    · show vk_R _ _ _ (stf (100 + 7)) s
      rw [hk 7 (by decide)]
      exact vk_R.of (hts0 (.stringRef "LastPlace$Rule" 52 "round") (List.mem_of_getElem? (i := 690) (by decide +kernel))) (va_eqR (hs (.eq (.string "LastPlace$Street" 100) (.string "LastPlace$Rule" 52)) (by decide +kernel)) (hE 7 (by decide)))


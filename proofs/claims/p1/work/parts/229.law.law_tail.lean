theorem dL_law_1505 : decode code 1505 = .ok (.iinc 3 8, 3) := by decide +kernel
theorem dL_law_1508 : decode code 1508 = .ok (.goto (-1490), 3) := by decide +kernel
theorem dL_law_18 : decode code 18 = .ok (.iload_n 3, 1) := by decide +kernel
theorem dL_law_19 : decode code 19 = .ok (.aload_n 0, 1) := by decide +kernel
theorem dL_law_20 : decode code 20 = .ok (.arraylength, 1) := by decide +kernel
theorem dL_law_21 : decode code 21 = .ok (.bipush 8, 2) := by decide +kernel
theorem dL_law_23 : decode code 23 = .ok (.isub, 1) := by decide +kernel
theorem dL_law_24 : decode code 24 = .ok (.if_icmp .gt 1487, 3) := by decide +kernel
theorem dL_law_1511 : decode code 1511 = .ok (.iconst 1, 1) := by decide +kernel
theorem dL_law_1512 : decode code 1512 = .ok (.ireturn, 1) := by decide +kernel
set_option maxHeartbeats 4000000 in
set_option maxRecDepth 100000 in
theorem law_tail {p : Program} {l : Launch} {e : Env} {s : State} {m : MethodId} {below : List Frame} {meth : Method} {c : Code} {b : Nat} {xs : Nat → Int32} {H : Heap} {locs : List Loc} {ls : Array Slot} (hx : p.tables.exec = Jvm.exec) (hb : c.code = code) (hr : meth.sig.returnType = ret) (hlocks : meth.locks = false) (hX : va_X b 8 xs s s.heap) (hbl : b < s.heap.size) (hS : va_S (fun q : Nat => s.heap.size ≤ q) s.heap H locs) (hl : lv_has ls 4 [(3, .int 0), (0, .ref b)]) : W p l e room_1 s m #[Value.ref b] below meth c H locs 102 5857 (lw_Z below #[Value.ref b] s) (F0 m 1505 ls []) := by
  have hbA : ¬ (fun q : Nat => s.heap.size ≤ q) b := Nat.not_le.mpr hbl
  refine lv_iinc (v := 8) (lv' := [(3, .int 8), (0, .ref b)]) hx hb dL_law_1505 hl (k := 0) rfl (by decide) (by decide) rfl (fun ls hl => ?_)
  refine lv_goto (tgt := 18) hx hb dL_law_1508 (by decide) ?_
  refine lv_iload_n hx hb dL_law_18 rfl (lv_at hl 0 rfl) ?_
  refine lv_aload_n hx hb dL_law_19 rfl (lv_at hl 1 rfl) ?_
  refine va_slen hx hb hX hbl hbA hS dL_law_20 ?_
  refine lv_ti (y := 8) (by decide) ?_
  refine lv_bipush (v := 8) hx hb dL_law_21 (by decide) ?_
  refine lv_isub hx hb dL_law_23 ?_
  refine lv_ti (y := 0) (by decide) ?_
  refine lv_icmp_gt (tgt := 1511) hx hb dL_law_24 (by decide) (fun _ => ?_) (fun h => absurd (by decide) h)
  refine lv_iconst (v := 1) hx hb dL_law_1511 (by decide) ?_
  refine va_forget (fun q hq => hS.2.2 q hq) ?_
  refine W.widen (k := 600000) (n := 7302250) (by decide) (by decide) ?_
  exact lw_ret hx hb hr hlocks dL_law_1512


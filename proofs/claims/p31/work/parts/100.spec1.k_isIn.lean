theorem dX7_isIn_0 : decode cX7_isIn 0 = .ok (.iload_n 0, 1) := by decide +kernel
theorem dX7_isIn_1 : decode cX7_isIn 1 = .ok (.iload_n 1, 1) := by decide +kernel
theorem dX7_isIn_2 : decode cX7_isIn 2 = .ok (.if_icmp .lt 12, 3) := by decide +kernel
theorem dX7_isIn_5 : decode cX7_isIn 5 = .ok (.iload_n 0, 1) := by decide +kernel
theorem dX7_isIn_6 : decode cX7_isIn 6 = .ok (.iload_n 2, 1) := by decide +kernel
theorem dX7_isIn_7 : decode cX7_isIn 7 = .ok (.if_icmp .gt 7, 3) := by decide +kernel
theorem dX7_isIn_10 : decode cX7_isIn 10 = .ok (.iconst 1, 1) := by decide +kernel
theorem dX7_isIn_11 : decode cX7_isIn 11 = .ok (.goto 4, 3) := by decide +kernel
theorem dX7_isIn_14 : decode cX7_isIn 14 = .ok (.iconst 0, 1) := by decide +kernel
theorem dX7_isIn_15 : decode cX7_isIn 15 = .ok (.ireturn, 1) := by decide +kernel
set_option maxHeartbeats 4000000 in
set_option maxRecDepth 100000 in
theorem k_isIn (l : Launch) (D : va_G) (k : Nat → ClassId) (st : Nat → Nat) (lo : Nat) (v : Int32) (l0 : Int32) (h0 : Int32)  : CRi l D k st lo yX7_isIn cX7_isIn 3 (some .boolean) ({ frames := 0, cells := 0, slots := 0, locals := 0 }) [.int v, .int l0, .int h0] [] (fun r => isB r v l0 h0) := by
  intro sz
  refine Met.ofW (cc := cX7_isIn) (maxL := 3) (ret := (some .boolean)) (by decide) rfl ?_
  intro p e s m args below meth c s₁ B hml hv
  obtain ⟨rfl, hsz, hlo, hP, hK, hDL, hZ⟩ := hv
  have hx := B.exec
  have hb := B.bytes
  have hr := B.returns
  have hts := WS_ts B.pre
  have hown : s.vm.findClass RX7 = some m.cls := findClass_of_methodNamed B.named
  have hlocks := B.notSynchronized
  subst hsz
  have hA : ∀ q : Nat, s.heap.size ≤ q → (fun q : Nat => s.heap.size ≤ q) q := fun _ h => h
  have hAlo : ∀ q : Nat, (fun q : Nat => s.heap.size ≤ q) q → lo ≤ q := fun q h => Nat.le_trans hlo h
  have hS : va_S (fun q : Nat => s.heap.size ≤ q) s.heap s.heap [] := va_S.rf
  have hl := lv_entry ([.int v, .int l0, .int h0]) (n := 3) (Nat.le_of_ble_eq_true rfl)
  rw [lg_entry_eq]
  generalize (lg_sl ([.int v, .int l0, .int h0]) ++ List.replicate (3 - (lg_sl ([.int v, .int l0, .int h0])).length) Slot.unset).toArray = ls at hl ⊢
  have hl : lv_has ls 3 [(0, .int v), (1, .int l0), (2, .int h0)] := hl
  refine lv_iload_n hx hb dX7_isIn_0 rfl (lv_at hl 0 rfl) ?_
  refine lv_iload_n hx hb dX7_isIn_1 rfl (lv_at hl 1 rfl) ?_
  refine lv_icmp_lt (tgt := 14) hx hb dX7_isIn_2 (by decide) (fun c_1 => ?_) (fun c_1 => ?_)
  · refine lv_iconst (v := 0) hx hb dX7_isIn_14 (by decide) ?_
    exact W.zret (v := 0) (ty := .boolean) hx hb hr rfl (fun t ht hW => ⟨⟨0, (), rfl, (by first | exact .inl ⟨rfl, Int32.not_lt.mp c_1, Int32.not_lt.mp c_2⟩ | exact .inr ⟨rfl, fun h => absurd c_1 (Int32.not_lt.mpr h.1)⟩ | exact .inr ⟨rfl, fun h => absurd c_2 (Int32.not_lt.mpr h.2)⟩), trivial⟩, hS.F ht⟩) hS.2.2 dX7_isIn_15
  · refine lv_iload_n hx hb dX7_isIn_5 rfl (lv_at hl 0 rfl) ?_
    refine lv_iload_n hx hb dX7_isIn_6 rfl (lv_at hl 2 rfl) ?_
    refine lv_icmp_gt (tgt := 14) hx hb dX7_isIn_7 (by decide) (fun c_2 => ?_) (fun c_2 => ?_)
    · refine lv_iconst (v := 0) hx hb dX7_isIn_14 (by decide) ?_
      exact W.zret (v := 0) (ty := .boolean) hx hb hr rfl (fun t ht hW => ⟨⟨0, (), rfl, (by first | exact .inl ⟨rfl, Int32.not_lt.mp c_1, Int32.not_lt.mp c_2⟩ | exact .inr ⟨rfl, fun h => absurd c_1 (Int32.not_lt.mpr h.1)⟩ | exact .inr ⟨rfl, fun h => absurd c_2 (Int32.not_lt.mpr h.2)⟩), trivial⟩, hS.F ht⟩) hS.2.2 dX7_isIn_15
    · refine lv_iconst (v := 1) hx hb dX7_isIn_10 (by decide) ?_
      refine lv_goto (tgt := 15) hx hb dX7_isIn_11 (by decide) ?_
      exact W.zret (v := 1) (ty := .boolean) hx hb hr rfl (fun t ht hW => ⟨⟨1, (), rfl, (by first | exact .inl ⟨rfl, Int32.not_lt.mp c_1, Int32.not_lt.mp c_2⟩ | exact .inr ⟨rfl, fun h => absurd c_1 (Int32.not_lt.mpr h.1)⟩ | exact .inr ⟨rfl, fun h => absurd c_2 (Int32.not_lt.mpr h.2)⟩), trivial⟩, hS.F ht⟩) hS.2.2 dX7_isIn_15

theorem dX8_in_0 : decode cX8_in 0 = .ok (.lload_n 0, 1) := by decide +kernel
theorem dX8_in_1 : decode cX8_in 1 = .ok (.lload_n 2, 1) := by decide +kernel
theorem dX8_in_2 : decode cX8_in 2 = .ok (.lcmp, 1) := by decide +kernel
theorem dX8_in_3 : decode cX8_in 3 = .ok (.ifCond .lt 14, 3) := by decide +kernel
theorem dX8_in_6 : decode cX8_in 6 = .ok (.lload_n 0, 1) := by decide +kernel
theorem dX8_in_7 : decode cX8_in 7 = .ok (.lload 4, 2) := by decide +kernel
theorem dX8_in_9 : decode cX8_in 9 = .ok (.lcmp, 1) := by decide +kernel
theorem dX8_in_10 : decode cX8_in 10 = .ok (.ifCond .gt 7, 3) := by decide +kernel
theorem dX8_in_13 : decode cX8_in 13 = .ok (.iconst 1, 1) := by decide +kernel
theorem dX8_in_14 : decode cX8_in 14 = .ok (.goto 4, 3) := by decide +kernel
theorem dX8_in_17 : decode cX8_in 17 = .ok (.iconst 0, 1) := by decide +kernel
theorem dX8_in_18 : decode cX8_in 18 = .ok (.ireturn, 1) := by decide +kernel
set_option maxHeartbeats 4000000 in
set_option maxRecDepth 100000 in
theorem k_in (l : Launch) (D : va_G) (k : Nat → ClassId) (st : Nat → Nat) (lo : Nat) (v : Int32) (l0 : Int32) (h0 : Int32)  : CRi l D k st lo yX8_in cX8_in 6 (some .boolean) ({ frames := 0, cells := 0, slots := 0, locals := 0 }) [.long (v.toInt64), .long (l0.toInt64), .long (h0.toInt64)] [] (fun r => isB r v l0 h0) := by
  intro sz
  refine Met.ofW (cc := cX8_in) (maxL := 6) (ret := (some .boolean)) (by decide) rfl ?_
  intro p e s m args below meth c s₁ B hml hv
  obtain ⟨rfl, hsz, hlo, hP, hK, hDL, hZ⟩ := hv
  have hx := B.exec
  have hb := B.bytes
  have hr := B.returns
  have hts := WS_ts B.pre
  have hown : s.vm.findClass RX8 = some m.cls := findClass_of_methodNamed B.named
  have hlocks := B.notSynchronized
  subst hsz
  have hA : ∀ q : Nat, s.heap.size ≤ q → (fun q : Nat => s.heap.size ≤ q) q := fun _ h => h
  have hAlo : ∀ q : Nat, (fun q : Nat => s.heap.size ≤ q) q → lo ≤ q := fun q h => Nat.le_trans hlo h
  have hS : va_S (fun q : Nat => s.heap.size ≤ q) s.heap s.heap [] := va_S.rf
  have hl := lv_entry ([.long (v.toInt64), .long (l0.toInt64), .long (h0.toInt64)]) (n := 6) (Nat.le_of_ble_eq_true rfl)
  rw [lg_entry_eq]
  generalize (lg_sl ([.long (v.toInt64), .long (l0.toInt64), .long (h0.toInt64)]) ++ List.replicate (6 - (lg_sl ([.long (v.toInt64), .long (l0.toInt64), .long (h0.toInt64)])).length) Slot.unset).toArray = ls at hl ⊢
  have hl : lv_has ls 6 [(0, .long (v.toInt64)), (2, .long (l0.toInt64)), (4, .long (h0.toInt64))] := hl
  refine lv_lload_n hx hb dX8_in_0 rfl (lv_at hl 0 rfl) ?_
  refine lv_lload_n hx hb dX8_in_1 rfl (lv_at hl 1 rfl) ?_
  refine W.lcmp hx hb dX8_in_2 ?_
  refine lv_if_lt (tgt := 17) hx hb dX8_in_3 (by decide) (fun c_1 => ?_) (fun c_1 => ?_)
  · refine lv_iconst (v := 0) hx hb dX8_in_17 (by decide) ?_
    exact W.zret (v := 0) (ty := .boolean) hx hb hr rfl (fun t ht hW => ⟨⟨0, (), rfl, (by first | exact .inl ⟨rfl, inL1 c_1, inL3 c_2⟩ | exact .inr ⟨rfl, fun h => absurd h.1 (inL2 c_1)⟩ | exact .inr ⟨rfl, fun h => absurd h.2 (inL4 c_2)⟩), trivial⟩, hS.F ht⟩) hS.2.2 dX8_in_18
  · refine lv_lload_n hx hb dX8_in_6 rfl (lv_at hl 0 rfl) ?_
    refine lv_lload hx hb dX8_in_7 (lv_at hl 2 rfl) ?_
    refine W.lcmp hx hb dX8_in_9 ?_
    refine lv_if_gt (tgt := 17) hx hb dX8_in_10 (by decide) (fun c_2 => ?_) (fun c_2 => ?_)
    · refine lv_iconst (v := 0) hx hb dX8_in_17 (by decide) ?_
      exact W.zret (v := 0) (ty := .boolean) hx hb hr rfl (fun t ht hW => ⟨⟨0, (), rfl, (by first | exact .inl ⟨rfl, inL1 c_1, inL3 c_2⟩ | exact .inr ⟨rfl, fun h => absurd h.1 (inL2 c_1)⟩ | exact .inr ⟨rfl, fun h => absurd h.2 (inL4 c_2)⟩), trivial⟩, hS.F ht⟩) hS.2.2 dX8_in_18
    · refine lv_iconst (v := 1) hx hb dX8_in_13 (by decide) ?_
      refine lv_goto (tgt := 18) hx hb dX8_in_14 (by decide) ?_
      exact W.zret (v := 1) (ty := .boolean) hx hb hr rfl (fun t ht hW => ⟨⟨1, (), rfl, (by first | exact .inl ⟨rfl, inL1 c_1, inL3 c_2⟩ | exact .inr ⟨rfl, fun h => absurd h.1 (inL2 c_1)⟩ | exact .inr ⟨rfl, fun h => absurd h.2 (inL4 c_2)⟩), trivial⟩, hS.F ht⟩) hS.2.2 dX8_in_18

theorem tw_39 : Cond.selects RX8 yX8_of yX8_of ∈ LW := LWm (i := 39) (by decide +kernel) rfl
theorem tw_44 : Cond.selects RX8 yX8_takingBy yX8_takingBy ∈ LW := LWm (i := 44) (by decide +kernel) rfl
theorem tw_45 : Cond.selects RX8 yX8_tick yX8_tick ∈ LW := LWm (i := 45) (by decide +kernel) rfl
theorem tw_46 : Cond.selects RX8 yX8_lateAt yX8_lateAt ∈ LW := LWm (i := 46) (by decide +kernel) rfl
theorem tw_87 : Cond.initialized RX8 ∈ LW := LWm1 (i := 9) (by decide +kernel) rfl
theorem tw_973 : Cond.fieldLink RX8 7 "LastPlaceModel" "doorMany" "[I" ∈ LW := LWm4 (i := 175) (by decide +kernel) rfl
theorem tw_974 : Cond.fieldLink RX8 13 "LastPlaceModel" "frees" "[I" ∈ LW := LWm4 (i := 176) (by decide +kernel) rfl
theorem tw_975 : Cond.fieldLink RX8 16 "LastPlaceModel" "prices" "[I" ∈ LW := LWm4 (i := 177) (by decide +kernel) rfl
theorem tw_976 : Cond.fieldLink RX8 19 "LastPlaceModel" "singles" "[I" ∈ LW := LWm4 (i := 178) (by decide +kernel) rfl
theorem tw_979 : Cond.fieldLink RX8 25 "LastPlaceModel" "faultPlace" "I" ∈ LW := LWm4 (i := 181) (by decide +kernel) rfl
theorem tw_1111 : Cond.methodLink RX8 107 yX8_in ∈ LW := LWm5 (i := 73) (by decide +kernel) rfl
theorem tw_1112 : Cond.static yX8_in ∈ LW := LWm5 (i := 74) (by decide +kernel) rfl
set_option maxRecDepth 100000 in theorem tw_1113 : Cond.code yX8_in cX8_in 6 (some .boolean) ∈ LW := LWm5 (i := 75) rfl rfl
theorem tw_1119 : Cond.constantLong RX8 105 (2) ∈ LW := LWm5 (i := 81) (by decide +kernel) rfl
theorem tw_1194 : Cond.methodLink RX8 212 yX8_of ∈ LW := LWm5 (i := 156) (by decide +kernel) rfl
theorem tw_1196 : Cond.instanceMethod yX8_of ∈ LW := LWm5 (i := 158) (by decide +kernel) rfl
set_option maxRecDepth 100000 in theorem tw_1197 : Cond.code yX8_of cX8_of 3 (some .int) ∈ LW := LWm5 (i := 159) rfl rfl
theorem tw_1226 : Cond.methodLink RX8 230 yX8_takingBy ∈ LW := LWm5 (i := 188) (by decide +kernel) rfl
theorem tw_1228 : Cond.instanceMethod yX8_takingBy ∈ LW := LWm5 (i := 190) (by decide +kernel) rfl
set_option maxRecDepth 100000 in theorem tw_1229 : Cond.code yX8_takingBy cX8_takingBy 6 (some .int) ∈ LW := LWm5 (i := 191) rfl rfl
theorem tw_1230 : Cond.methodLink RX8 223 yX8_tick ∈ LW := LWm5 (i := 192) (by decide +kernel) rfl
theorem tw_1232 : Cond.instanceMethod yX8_tick ∈ LW := LWm5 (i := 194) (by decide +kernel) rfl
set_option maxRecDepth 100000 in theorem tw_1233 : Cond.code yX8_tick cX8_tick 4 (some .int) ∈ LW := LWm5 (i := 195) rfl rfl
theorem tw_1234 : Cond.methodLink RX8 227 yX8_lateAt ∈ LW := LWm5 (i := 196) (by decide +kernel) rfl
theorem tw_1236 : Cond.instanceMethod yX8_lateAt ∈ LW := LWm5 (i := 198) (by decide +kernel) rfl
set_option maxRecDepth 100000 in theorem tw_1237 : Cond.code yX8_lateAt cX8_lateAt 4 (some .int) ∈ LW := LWm5 (i := 199) rfl rfl
theorem tw_1272 : Cond.constantLong RX8 240 (100) ∈ LW := LWm5 (i := 234) (by decide +kernel) rfl
theorem dX8_at_0 : decode cX8_at 0 = .ok (.sipush 192, 3) := by decide +kernel
theorem dX8_at_3 : decode cX8_at 3 = .ok (.iload_n 0, 1) := by decide +kernel
theorem dX8_at_4 : decode cX8_at 4 = .ok (.imul, 1) := by decide +kernel
theorem dX8_at_5 : decode cX8_at 5 = .ok (.bipush 8, 2) := by decide +kernel
theorem dX8_at_7 : decode cX8_at 7 = .ok (.iload_n 1, 1) := by decide +kernel
theorem dX8_at_8 : decode cX8_at 8 = .ok (.imul, 1) := by decide +kernel
theorem dX8_at_9 : decode cX8_at 9 = .ok (.iadd, 1) := by decide +kernel
theorem dX8_at_10 : decode cX8_at 10 = .ok (.iload_n 2, 1) := by decide +kernel
theorem dX8_at_11 : decode cX8_at 11 = .ok (.iadd, 1) := by decide +kernel
theorem dX8_at_12 : decode cX8_at 12 = .ok (.ireturn, 1) := by decide +kernel
set_option maxHeartbeats 4000000 in
set_option maxRecDepth 100000 in
theorem m_at (l : Launch) (D : va_G) (k : Nat → ClassId) (st : Nat → Nat) (lo : Nat) (r : Nat) (i : Nat) (g : Nat)  : CRi l D k st lo yX8_at cX8_at 3 (some .int) ({ frames := 0, cells := 0, slots := 0, locals := 0 }) [.int (nI r), .int (nI i), .int (nI g)] [] (fun x => x = nI (192 * r + 8 * i + g)) := by
  intro sz
  refine Met.ofW (cc := cX8_at) (maxL := 3) (ret := (some .int)) (by decide) rfl ?_
  intro p e s m args below meth c s₁ B hml hv
  obtain ⟨rfl, hsz, hlo, hP, hK, hDL, hZ⟩ := hv
  have hx := B.exec
  have hb := B.bytes
  have hr := B.returns
  have hts := WS_ts B.pre
  have hown : s.vm.findClass RX8 = some m.cls := findClass_of_methodNamed B.named
  have hlocks := B.notSynchronized
  subst hsz
  have hA : ∀ q : Nat, s.heap.size ≤ q → (fun q : Nat => s.heap.size ≤ q) q := fun _ h => h
  have hAlo : ∀ q : Nat, (fun q : Nat => s.heap.size ≤ q) q → lo ≤ q := fun q h => Nat.le_trans hlo h
  have hS : va_S (fun q : Nat => s.heap.size ≤ q) s.heap s.heap [] := va_S.rf
  have hl := lv_entry ([.int (nI r), .int (nI i), .int (nI g)]) (n := 3) (Nat.le_of_ble_eq_true rfl)
  rw [lg_entry_eq]
  generalize (lg_sl ([.int (nI r), .int (nI i), .int (nI g)]) ++ List.replicate (3 - (lg_sl ([.int (nI r), .int (nI i), .int (nI g)])).length) Slot.unset).toArray = ls at hl ⊢
  have hl : lv_has ls 3 [(0, .int (nI r)), (1, .int (nI i)), (2, .int (nI g))] := hl
  refine lv_sipush (v := 192) hx hb dX8_at_0 (by decide) ?_
  refine lv_iload_n hx hb dX8_at_3 rfl (lv_at hl 0 rfl) ?_
  refine lv_imul hx hb dX8_at_4 ?_
  refine lv_ti (y := (nI (192 * r))) (pk_mul 192 r) ?_
  refine lv_bipush (v := 8) hx hb dX8_at_5 (by decide) ?_
  refine lv_iload_n hx hb dX8_at_7 rfl (lv_at hl 1 rfl) ?_
  refine lv_imul hx hb dX8_at_8 ?_
  refine lv_ti (y := (nI (8 * i))) (pk_mul 8 i) ?_
  refine lv_iadd hx hb dX8_at_9 ?_
  refine lv_ti (y := (nI (192 * r + 8 * i))) (nI_add (192 * r) (8 * i)) ?_
  refine lv_iload_n hx hb dX8_at_10 rfl (lv_at hl 2 rfl) ?_
  refine lv_iadd hx hb dX8_at_11 ?_
  refine lv_ti (y := (nI (192 * r + 8 * i + g))) (nI_add (192 * r + 8 * i) g) ?_
  exact W.iret (v := (nI (192 * r + 8 * i + g))) hx hb hr (fun t ht hW => ⟨⟨(nI (192 * r + 8 * i + g)), (), rfl, rfl, trivial⟩, hS.F ht⟩) hS.2.2 dX8_at_12

theorem f_m_mixed_rows : True := trivial
theorem dX8_mixed_0 : decode cX8_mixed 0 = .ok (.iload_n 0, 1) := by decide +kernel
theorem dX8_mixed_1 : decode cX8_mixed 1 = .ok (.i2l, 1) := by decide +kernel
theorem dX8_mixed_2 : decode cX8_mixed 2 = .ok (.iload_n 1, 1) := by decide +kernel
theorem dX8_mixed_3 : decode cX8_mixed 3 = .ok (.i2l, 1) := by decide +kernel
theorem dX8_mixed_4 : decode cX8_mixed 4 = .ok (.lmul, 1) := by decide +kernel
theorem dX8_mixed_5 : decode cX8_mixed 5 = .ok (.ldc2_w 240, 3) := by decide +kernel
theorem dX8_mixed_8 : decode cX8_mixed 8 = .ok (.iload_n 0, 1) := by decide +kernel
theorem dX8_mixed_9 : decode cX8_mixed 9 = .ok (.i2l, 1) := by decide +kernel
theorem dX8_mixed_10 : decode cX8_mixed 10 = .ok (.lsub, 1) := by decide +kernel
theorem dX8_mixed_11 : decode cX8_mixed 11 = .ok (.iload_n 2, 1) := by decide +kernel
theorem dX8_mixed_12 : decode cX8_mixed 12 = .ok (.i2l, 1) := by decide +kernel
theorem dX8_mixed_13 : decode cX8_mixed 13 = .ok (.lmul, 1) := by decide +kernel
theorem dX8_mixed_14 : decode cX8_mixed 14 = .ok (.ladd, 1) := by decide +kernel
theorem dX8_mixed_15 : decode cX8_mixed 15 = .ok (.ldc2_w 240, 3) := by decide +kernel
theorem dX8_mixed_18 : decode cX8_mixed 18 = .ok (.ldiv, 1) := by decide +kernel
theorem dX8_mixed_19 : decode cX8_mixed 19 = .ok (.l2i, 1) := by decide +kernel
theorem dX8_mixed_20 : decode cX8_mixed 20 = .ok (.ireturn, 1) := by decide +kernel
theorem dX8_of_0 : decode cX8_of 0 = .ok (.aload_n 0, 1) := by decide +kernel
theorem dX8_of_1 : decode cX8_of 1 = .ok (.getfield 19, 3) := by decide +kernel
theorem dX8_of_4 : decode cX8_of 4 = .ok (.bipush 9, 2) := by decide +kernel
theorem dX8_of_6 : decode cX8_of 6 = .ok (.iload_n 1, 1) := by decide +kernel
theorem dX8_of_7 : decode cX8_of 7 = .ok (.imul, 1) := by decide +kernel
theorem dX8_of_8 : decode cX8_of 8 = .ok (.iload_n 2, 1) := by decide +kernel
theorem dX8_of_9 : decode cX8_of 9 = .ok (.iadd, 1) := by decide +kernel
theorem dX8_of_10 : decode cX8_of 10 = .ok (.iaload, 1) := by decide +kernel
theorem dX8_of_11 : decode cX8_of 11 = .ok (.ireturn, 1) := by decide +kernel
set_option maxHeartbeats 4000000 in
set_option maxRecDepth 100000 in
theorem m_of (l : Launch) (D : va_G) (k : Nat → ClassId) (st : Nat → Nat) (lo : Nat) (a : Nat → Nat) (tx : Nat) (t0 : Nat) (we : Nat) (rd : Nat) (ru : Nat) (rw : Nat) (ca : Nat) (fp : Int32) (wd : Int64) (nu : Int32) (na : Int32) (ts : Int32) (df : Int32) (db : Int32) (sd : Int32) (se : Nat → Nat) (tm : Nat → Nat) (gs : Nat → Int32) (sn : Nat) (w : Nat)  (hs : sn < 3) (hw9 : w < 9) : CRi l D k st lo yX8_of cX8_of 3 (some .int) ({ frames := 0, cells := 0, slots := 0, locals := 0 }) [.ref (a 0), .int (nI sn), .int (nI w)] [((a 0), .inr (8, (fX8 a (nI tx) fp (nI t0) wd (nI we) nu na (nI rd) ts (nI ru) (nI rw) (nI ca) df db sd))), (aI k (a 4) 27 (sg se tm gs))] (fun r => r = sg se tm gs (9 * sn + w)) := by
  intro sz
  refine Met.ofW (cc := cX8_of) (maxL := 3) (ret := (some .int)) (by decide) rfl ?_
  intro p e s m args below meth c s₁ B hml hv
  obtain ⟨rfl, hsz, hlo, hP, hK, hDL, hZ⟩ := hv
  have hx := B.exec
  have hb := B.bytes
  have hr := B.returns
  have hts := WS_ts B.pre
  have hown : s.vm.findClass RX8 = some m.cls := findClass_of_methodNamed B.named
  have hlocks := B.notSynchronized
  subst hsz
  have hA : ∀ q : Nat, s.heap.size ≤ q → (fun q : Nat => s.heap.size ≤ q) q := fun _ h => h
  have hAlo : ∀ q : Nat, (fun q : Nat => s.heap.size ≤ q) q → lo ≤ q := fun q h => Nat.le_trans hlo h
  have hS : va_S (fun q : Nat => s.heap.size ≤ q) s.heap s.heap [] := va_S.rf
  have hl := lv_entry ([.ref (a 0), .int (nI sn), .int (nI w)]) (n := 3) (Nat.le_of_ble_eq_true rfl)
  rw [lg_entry_eq]
  generalize (lg_sl ([.ref (a 0), .int (nI sn), .int (nI w)]) ++ List.replicate (3 - (lg_sl ([.ref (a 0), .int (nI sn), .int (nI w)])).length) Slot.unset).toArray = ls at hl ⊢
  have hl : lv_has ls 3 [(0, .ref (a 0)), (1, .int (nI sn)), (2, .int (nI w))] := hl
  refine lv_aload_n hx hb dX8_of_0 rfl (lv_at hl 0 rfl) ?_
  refine va_get (D := D) (ci := 8) (v := .ref (a 4)) (C := RX8) (T := TX8) (N := 44) hx hb hts inX8 hown hK hP 0 rfl rfl 3 (by decide) (hts _ tw_976) (fun _ h9 => h9) rfl dX8_of_1 ?_
  refine lv_bipush (v := 9) hx hb dX8_of_4 (by decide) ?_
  refine lv_iload_n hx hb dX8_of_6 rfl (lv_at hl 1 rfl) ?_
  refine lv_imul hx hb dX8_of_7 ?_
  refine lv_ti (y := (nI (9 * sn))) (pk_mul 9 sn) ?_
  refine lv_iload_n hx hb dX8_of_8 rfl (lv_at hl 2 rfl) ?_
  refine lv_iadd hx hb dX8_of_9 ?_
  refine lv_ti (y := (nI (9 * sn + w))) (nI_add (9 * sn) w) ?_
  refine va_iald hx hb hK hP 1 1 rfl rfl (vp_in_nI (by omega) (by decide)) dX8_of_10 ?_
  refine lv_ti (y := ((sg se tm gs) (9 * sn + w))) (by rw [nI_clamp (by omega)]) ?_
  exact W.iret (v := ((sg se tm gs) (9 * sn + w))) hx hb hr (fun t ht hW => ⟨⟨((sg se tm gs) (9 * sn + w)), (), rfl, rfl, trivial⟩, hS.F ht⟩) hS.2.2 dX8_of_11

theorem dX8_isStreet_0 : decode cX8_isStreet 0 = .ok (.iload_n 1, 1) := by decide +kernel
theorem dX8_isStreet_1 : decode cX8_isStreet 1 = .ok (.i2l, 1) := by decide +kernel
theorem dX8_isStreet_2 : decode cX8_isStreet 2 = .ok (.lconst 0, 1) := by decide +kernel
theorem dX8_isStreet_3 : decode cX8_isStreet 3 = .ok (.ldc2_w 105, 3) := by decide +kernel
theorem dX8_isStreet_6 : decode cX8_isStreet 6 = .ok (.invokestatic 107, 3) := by decide +kernel
theorem dX8_isStreet_9 : decode cX8_isStreet 9 = .ok (.ifCond .eq 16, 3) := by decide +kernel
theorem dX8_isStreet_12 : decode cX8_isStreet 12 = .ok (.aload_n 0, 1) := by decide +kernel
theorem dX8_isStreet_13 : decode cX8_isStreet 13 = .ok (.getfield 7, 3) := by decide +kernel
theorem dX8_isStreet_16 : decode cX8_isStreet 16 = .ok (.iload_n 1, 1) := by decide +kernel
theorem dX8_isStreet_17 : decode cX8_isStreet 17 = .ok (.iaload, 1) := by decide +kernel
theorem dX8_isStreet_18 : decode cX8_isStreet 18 = .ok (.ifCond .le 7, 3) := by decide +kernel
theorem dX8_isStreet_21 : decode cX8_isStreet 21 = .ok (.iconst 1, 1) := by decide +kernel
theorem dX8_isStreet_22 : decode cX8_isStreet 22 = .ok (.goto 4, 3) := by decide +kernel
theorem dX8_isStreet_25 : decode cX8_isStreet 25 = .ok (.iconst 0, 1) := by decide +kernel
theorem dX8_isStreet_26 : decode cX8_isStreet 26 = .ok (.ireturn, 1) := by decide +kernel
set_option maxHeartbeats 4000000 in
set_option maxRecDepth 100000 in
theorem m_isStreet (l : Launch) (D : va_G) (k : Nat → ClassId) (st : Nat → Nat) (lo : Nat) (a : Nat → Nat) (tx : Nat) (t0 : Nat) (we : Nat) (rd : Nat) (ru : Nat) (rw : Nat) (ca : Nat) (fp : Int32) (wd : Int64) (nu : Int32) (na : Int32) (ts : Int32) (df : Int32) (db : Int32) (sd : Int32) (dn : Nat → Nat) (pz : Int32) (hdn : ∀ j, dn j ≤ 24) : CRi l D k st lo yX8_isStreet cX8_isStreet 2 (some .boolean) ({ frames := 1, cells := 0, slots := 0, locals := 25 }) [.ref (a 0), .int pz] [((a 0), .inr (8, (fX8 a (nI tx) fp (nI t0) wd (nI we) nu na (nI rd) ts (nI ru) (nI rw) (nI ca) df db sd))), (aI k (a 1) 3 (nF dn))] (fun r => (r = 1 ∧ ∃ j : Nat, j < 3 ∧ pz = nI j ∧ 0 < dn j) ∨ r = 0) := by
  intro sz
  refine Met.ofW (cc := cX8_isStreet) (maxL := 2) (ret := (some .boolean)) (by decide) rfl ?_
  intro p e s m args below meth c s₁ B hml hv
  obtain ⟨rfl, hsz, hlo, hP, hK, hDL, hZ⟩ := hv
  have hx := B.exec
  have hb := B.bytes
  have hr := B.returns
  have hts := WS_ts B.pre
  have hown : s.vm.findClass RX8 = some m.cls := findClass_of_methodNamed B.named
  have hlocks := B.notSynchronized
  subst hsz
  have hA : ∀ q : Nat, s.heap.size ≤ q → (fun q : Nat => s.heap.size ≤ q) q := fun _ h => h
  have hAlo : ∀ q : Nat, (fun q : Nat => s.heap.size ≤ q) q → lo ≤ q := fun q h => Nat.le_trans hlo h
  have hS : va_S (fun q : Nat => s.heap.size ≤ q) s.heap s.heap [] := va_S.rf
  have hl := lv_entry ([.ref (a 0), .int pz]) (n := 2) (Nat.le_of_ble_eq_true rfl)
  rw [lg_entry_eq]
  generalize (lg_sl ([.ref (a 0), .int pz]) ++ List.replicate (2 - (lg_sl ([.ref (a 0), .int pz])).length) Slot.unset).toArray = ls at hl ⊢
  have hl : lv_has ls 2 [(0, .ref (a 0)), (1, .int pz)] := hl
  refine lv_iload_n hx hb dX8_isStreet_0 rfl (lv_at hl 1 rfl) ?_
  refine lv_i2l (v := pz.toInt64) hx hb dX8_isStreet_1 rfl ?_
  refine lv_lconst (v := (0 : Int32).toInt64) hx hb dX8_isStreet_2 (by decide) ?_
  refine lv_ldc2 hx hb hown (hts _ tw_1119) dX8_isStreet_3 ?_
  refine lv_tl (y := ((2 : Int32).toInt64)) (by decide) ?_
  refine ro_i (D := D) (va_runS (As := [.long (pz.toInt64), .long ((0 : Int32).toInt64), .long ((2 : Int32).toInt64)]) (rest := []) ⟨hx, hb, hml, hown, hts⟩ ((k_in l D k st lo pz (0 : Int32) (2 : Int32)) s.heap.size) (va_cwS 3 hts (gS tw_1111 tw_1112 tw_87 tw_1113) rfl rfl rfl (by decide +kernel) ⟨Nat.le_of_ble_eq_true rfl, Nat.le_of_ble_eq_true rfl⟩) (pS hS hAlo hlo hP hK hDL hZ [] (by decide) rfl) rfl rfl hl.1 rfl (lv_room (Nat.le_of_ble_eq_true rfl)) dX8_isStreet_6 ⟨Nat.le_of_ble_eq_true rfl, Nat.le_of_ble_eq_true rfl⟩) hS hA hP (fun r_1 H locs hw_1 hP hS => ?_)
  try dsimp only at hw_1
  rcases hw_1 with ⟨rfl, hw_1⟩ | ⟨rfl, hw_1⟩
  · refine lv_if_eq (tgt := 25) hx hb dX8_isStreet_9 (by decide) (fun h => absurd h (by decide)) (fun _ => ?_)
    obtain ⟨j_9, -, hj_9, rfl⟩ := inB_ofc (a := 0) (b := 2) (by omega) (by omega) hw_1
    have hd_9 := hdn j_9
    refine lv_aload_n hx hb dX8_isStreet_12 rfl (lv_at hl 0 rfl) ?_
    refine va_get (D := D) (ci := 8) (v := .ref (a 1)) (C := RX8) (T := TX8) (N := 44) hx hb hts inX8 hown hK hP 0 rfl rfl 0 (by decide) (hts _ tw_973) (fun _ h9 => h9) rfl dX8_isStreet_13 ?_
    refine lv_iload_n hx hb dX8_isStreet_16 rfl (lv_at hl 1 rfl) ?_
    refine va_iald hx hb hK hP 1 1 rfl rfl (vp_in_nI (by omega) (by decide)) dX8_isStreet_17 ?_
    refine lv_ti (y := (nI (dn j_9))) (by rw [nI_clamp (by omega)]; rfl) ?_
    refine lv_if_le (tgt := 25) hx hb dX8_isStreet_18 (by decide) (fun c_2 => ?_) (fun c_2 => ?_)
    · have c_2 := (nI_leI (a := (dn j_9)) (b := 0) (by omega) (by omega)).mp c_2
      refine lv_iconst (v := 0) hx hb dX8_isStreet_25 (by decide) ?_
      exact W.zret (v := 0) (ty := .boolean) hx hb hr rfl (fun t ht hW => ⟨⟨0, (), rfl, .inr rfl, trivial⟩, hS.F ht⟩) hS.2.2 dX8_isStreet_26
    · have c_2 : ¬ ((dn j_9) ≤ 0) := fun h => c_2 ((nI_leI (a := (dn j_9)) (b := 0) (by omega) (by omega)).mpr h)
      refine lv_iconst (v := 1) hx hb dX8_isStreet_21 (by decide) ?_
      refine lv_goto (tgt := 26) hx hb dX8_isStreet_22 (by decide) ?_
      exact W.zret (v := 1) (ty := .boolean) hx hb hr rfl (fun t ht hW => ⟨⟨1, (), rfl, .inl ⟨rfl, j_9, by omega, rfl, by omega⟩, trivial⟩, hS.F ht⟩) hS.2.2 dX8_isStreet_26
  · refine lv_if_eq (tgt := 25) hx hb dX8_isStreet_9 (by decide) (fun _ => ?_) (fun h => absurd (by decide) h)
    refine lv_iconst (v := 0) hx hb dX8_isStreet_25 (by decide) ?_
    exact W.zret (v := 0) (ty := .boolean) hx hb hr rfl (fun t ht hW => ⟨⟨0, (), rfl, .inr rfl, trivial⟩, hS.F ht⟩) hS.2.2 dX8_isStreet_26

theorem f_m_isDoor_rows : True := trivial
theorem dX8_isDoor_0 : decode cX8_isDoor 0 = .ok (.iload_n 2, 1) := by decide +kernel
theorem dX8_isDoor_1 : decode cX8_isDoor 1 = .ok (.i2l, 1) := by decide +kernel
theorem dX8_isDoor_2 : decode cX8_isDoor 2 = .ok (.lconst 0, 1) := by decide +kernel
theorem dX8_isDoor_3 : decode cX8_isDoor 3 = .ok (.aload_n 0, 1) := by decide +kernel
theorem dX8_isDoor_4 : decode cX8_isDoor 4 = .ok (.getfield 7, 3) := by decide +kernel
theorem dX8_isDoor_7 : decode cX8_isDoor 7 = .ok (.iload_n 1, 1) := by decide +kernel
theorem dX8_isDoor_8 : decode cX8_isDoor 8 = .ok (.iaload, 1) := by decide +kernel
theorem dX8_isDoor_9 : decode cX8_isDoor 9 = .ok (.iconst 1, 1) := by decide +kernel
theorem dX8_isDoor_10 : decode cX8_isDoor 10 = .ok (.isub, 1) := by decide +kernel
theorem dX8_isDoor_11 : decode cX8_isDoor 11 = .ok (.i2l, 1) := by decide +kernel
theorem dX8_isDoor_12 : decode cX8_isDoor 12 = .ok (.invokestatic 107, 3) := by decide +kernel
theorem dX8_isDoor_15 : decode cX8_isDoor 15 = .ok (.ireturn, 1) := by decide +kernel
theorem f_m_isRound_rows : True := trivial
theorem dX8_isRound_0 : decode cX8_isRound 0 = .ok (.iload_n 2, 1) := by decide +kernel
theorem dX8_isRound_1 : decode cX8_isRound 1 = .ok (.i2l, 1) := by decide +kernel
theorem dX8_isRound_2 : decode cX8_isRound 2 = .ok (.lconst 0, 1) := by decide +kernel
theorem dX8_isRound_3 : decode cX8_isRound 3 = .ok (.aload_n 0, 1) := by decide +kernel
theorem dX8_isRound_4 : decode cX8_isRound 4 = .ok (.iload_n 1, 1) := by decide +kernel
theorem dX8_isRound_5 : decode cX8_isRound 5 = .ok (.bipush 7, 2) := by decide +kernel
theorem dX8_isRound_7 : decode cX8_isRound 7 = .ok (.invokevirtual 212, 3) := by decide +kernel
theorem dX8_isRound_10 : decode cX8_isRound 10 = .ok (.i2l, 1) := by decide +kernel
theorem dX8_isRound_11 : decode cX8_isRound 11 = .ok (.invokestatic 107, 3) := by decide +kernel
theorem dX8_isRound_14 : decode cX8_isRound 14 = .ok (.ireturn, 1) := by decide +kernel
theorem f_m_seen_rows : True := trivial
theorem dX8_seen_0 : decode cX8_seen 0 = .ok (.aload_n 0, 1) := by decide +kernel
theorem dX8_seen_1 : decode cX8_seen 1 = .ok (.getfield 7, 3) := by decide +kernel
theorem dX8_seen_4 : decode cX8_seen 4 = .ok (.iload_n 1, 1) := by decide +kernel
theorem dX8_seen_5 : decode cX8_seen 5 = .ok (.iaload, 1) := by decide +kernel
theorem dX8_seen_6 : decode cX8_seen 6 = .ok (.iload_n 2, 1) := by decide +kernel
theorem dX8_seen_7 : decode cX8_seen 7 = .ok (.isub, 1) := by decide +kernel
theorem dX8_seen_8 : decode cX8_seen 8 = .ok (.istore_n 3, 1) := by decide +kernel
theorem dX8_seen_9 : decode cX8_seen 9 = .ok (.iload_n 3, 1) := by decide +kernel
theorem dX8_seen_10 : decode cX8_seen 10 = .ok (.aload_n 0, 1) := by decide +kernel
theorem dX8_seen_11 : decode cX8_seen 11 = .ok (.iload_n 1, 1) := by decide +kernel
theorem dX8_seen_12 : decode cX8_seen 12 = .ok (.iconst 5, 1) := by decide +kernel
theorem dX8_seen_13 : decode cX8_seen 13 = .ok (.invokevirtual 212, 3) := by decide +kernel
theorem dX8_seen_16 : decode cX8_seen 16 = .ok (.iconst 1, 1) := by decide +kernel
theorem dX8_seen_17 : decode cX8_seen 17 = .ok (.iadd, 1) := by decide +kernel
theorem dX8_seen_18 : decode cX8_seen 18 = .ok (.if_icmp .ge 7, 3) := by decide +kernel
theorem dX8_seen_21 : decode cX8_seen 21 = .ok (.iload_n 3, 1) := by decide +kernel
theorem dX8_seen_22 : decode cX8_seen 22 = .ok (.goto 11, 3) := by decide +kernel
theorem dX8_seen_25 : decode cX8_seen 25 = .ok (.aload_n 0, 1) := by decide +kernel
theorem dX8_seen_26 : decode cX8_seen 26 = .ok (.iload_n 1, 1) := by decide +kernel
theorem dX8_seen_27 : decode cX8_seen 27 = .ok (.iconst 5, 1) := by decide +kernel
theorem dX8_seen_28 : decode cX8_seen 28 = .ok (.invokevirtual 212, 3) := by decide +kernel
theorem dX8_seen_31 : decode cX8_seen 31 = .ok (.iconst 1, 1) := by decide +kernel
theorem dX8_seen_32 : decode cX8_seen 32 = .ok (.iadd, 1) := by decide +kernel
theorem dX8_seen_33 : decode cX8_seen 33 = .ok (.ireturn, 1) := by decide +kernel
theorem f_m_chanceOf_rows : True := trivial
theorem dX8_chanceOf_0 : decode cX8_chanceOf 0 = .ok (.aload_n 0, 1) := by decide +kernel
theorem dX8_chanceOf_1 : decode cX8_chanceOf 1 = .ok (.getfield 13, 3) := by decide +kernel
theorem dX8_chanceOf_4 : decode cX8_chanceOf 4 = .ok (.bipush 24, 2) := by decide +kernel
theorem dX8_chanceOf_6 : decode cX8_chanceOf 6 = .ok (.iload_n 1, 1) := by decide +kernel
theorem dX8_chanceOf_7 : decode cX8_chanceOf 7 = .ok (.imul, 1) := by decide +kernel
theorem dX8_chanceOf_8 : decode cX8_chanceOf 8 = .ok (.iload_n 2, 1) := by decide +kernel
theorem dX8_chanceOf_9 : decode cX8_chanceOf 9 = .ok (.iadd, 1) := by decide +kernel
theorem dX8_chanceOf_10 : decode cX8_chanceOf 10 = .ok (.iaload, 1) := by decide +kernel
theorem dX8_chanceOf_11 : decode cX8_chanceOf 11 = .ok (.istore 4, 2) := by decide +kernel
theorem dX8_chanceOf_13 : decode cX8_chanceOf 13 = .ok (.iload_n 2, 1) := by decide +kernel
theorem dX8_chanceOf_14 : decode cX8_chanceOf 14 = .ok (.ifCond .ne 8, 3) := by decide +kernel
theorem dX8_chanceOf_17 : decode cX8_chanceOf 17 = .ok (.iload 4, 2) := by decide +kernel
theorem dX8_chanceOf_19 : decode cX8_chanceOf 19 = .ok (.goto 28, 3) := by decide +kernel
theorem dX8_chanceOf_22 : decode cX8_chanceOf 22 = .ok (.iload_n 3, 1) := by decide +kernel
theorem dX8_chanceOf_23 : decode cX8_chanceOf 23 = .ok (.ifCond .eq 15, 3) := by decide +kernel
theorem dX8_chanceOf_26 : decode cX8_chanceOf 26 = .ok (.iload 4, 2) := by decide +kernel
theorem dX8_chanceOf_28 : decode cX8_chanceOf 28 = .ok (.aload_n 0, 1) := by decide +kernel
theorem dX8_chanceOf_29 : decode cX8_chanceOf 29 = .ok (.iload_n 1, 1) := by decide +kernel
theorem dX8_chanceOf_30 : decode cX8_chanceOf 30 = .ok (.iconst 0, 1) := by decide +kernel
theorem dX8_chanceOf_31 : decode cX8_chanceOf 31 = .ok (.invokevirtual 212, 3) := by decide +kernel
theorem dX8_chanceOf_34 : decode cX8_chanceOf 34 = .ok (.iadd, 1) := by decide +kernel
theorem dX8_chanceOf_35 : decode cX8_chanceOf 35 = .ok (.goto 12, 3) := by decide +kernel
theorem dX8_chanceOf_38 : decode cX8_chanceOf 38 = .ok (.iload 4, 2) := by decide +kernel
theorem dX8_chanceOf_40 : decode cX8_chanceOf 40 = .ok (.aload_n 0, 1) := by decide +kernel
theorem dX8_chanceOf_41 : decode cX8_chanceOf 41 = .ok (.iload_n 1, 1) := by decide +kernel
theorem dX8_chanceOf_42 : decode cX8_chanceOf 42 = .ok (.iconst 0, 1) := by decide +kernel
theorem dX8_chanceOf_43 : decode cX8_chanceOf 43 = .ok (.invokevirtual 212, 3) := by decide +kernel
theorem dX8_chanceOf_46 : decode cX8_chanceOf 46 = .ok (.isub, 1) := by decide +kernel
theorem dX8_chanceOf_47 : decode cX8_chanceOf 47 = .ok (.istore 5, 2) := by decide +kernel
theorem dX8_chanceOf_49 : decode cX8_chanceOf 49 = .ok (.iload 5, 2) := by decide +kernel
theorem dX8_chanceOf_51 : decode cX8_chanceOf 51 = .ok (.ifCond .ge 7, 3) := by decide +kernel
theorem dX8_chanceOf_54 : decode cX8_chanceOf 54 = .ok (.iconst 0, 1) := by decide +kernel
theorem dX8_chanceOf_55 : decode cX8_chanceOf 55 = .ok (.goto 17, 3) := by decide +kernel
theorem dX8_chanceOf_58 : decode cX8_chanceOf 58 = .ok (.iload 5, 2) := by decide +kernel
theorem dX8_chanceOf_60 : decode cX8_chanceOf 60 = .ok (.bipush 100, 2) := by decide +kernel
theorem dX8_chanceOf_62 : decode cX8_chanceOf 62 = .ok (.if_icmp .le 8, 3) := by decide +kernel
theorem dX8_chanceOf_65 : decode cX8_chanceOf 65 = .ok (.bipush 100, 2) := by decide +kernel
theorem dX8_chanceOf_67 : decode cX8_chanceOf 67 = .ok (.goto 5, 3) := by decide +kernel
theorem dX8_chanceOf_70 : decode cX8_chanceOf 70 = .ok (.iload 5, 2) := by decide +kernel
theorem dX8_chanceOf_72 : decode cX8_chanceOf 72 = .ok (.ireturn, 1) := by decide +kernel
theorem dX8_tick_0 : decode cX8_tick 0 = .ok (.iload_n 2, 1) := by decide +kernel
theorem dX8_tick_1 : decode cX8_tick 1 = .ok (.aload_n 0, 1) := by decide +kernel
theorem dX8_tick_2 : decode cX8_tick 2 = .ok (.getfield 7, 3) := by decide +kernel
theorem dX8_tick_5 : decode cX8_tick 5 = .ok (.iload_n 1, 1) := by decide +kernel
theorem dX8_tick_6 : decode cX8_tick 6 = .ok (.iaload, 1) := by decide +kernel
theorem dX8_tick_7 : decode cX8_tick 7 = .ok (.aload_n 0, 1) := by decide +kernel
theorem dX8_tick_8 : decode cX8_tick 8 = .ok (.iload_n 1, 1) := by decide +kernel
theorem dX8_tick_9 : decode cX8_tick 9 = .ok (.bipush 6, 2) := by decide +kernel
theorem dX8_tick_11 : decode cX8_tick 11 = .ok (.invokevirtual 212, 3) := by decide +kernel
theorem dX8_tick_14 : decode cX8_tick 14 = .ok (.iadd, 1) := by decide +kernel
theorem dX8_tick_15 : decode cX8_tick 15 = .ok (.imul, 1) := by decide +kernel
theorem dX8_tick_16 : decode cX8_tick 16 = .ok (.iload_n 3, 1) := by decide +kernel
theorem dX8_tick_17 : decode cX8_tick 17 = .ok (.iadd, 1) := by decide +kernel
theorem dX8_tick_18 : decode cX8_tick 18 = .ok (.ireturn, 1) := by decide +kernel
set_option maxHeartbeats 4000000 in
set_option maxRecDepth 100000 in
theorem m_tick (l : Launch) (D : va_G) (k : Nat → ClassId) (st : Nat → Nat) (lo : Nat) (a : Nat → Nat) (tx : Nat) (t0 : Nat) (we : Nat) (rd : Nat) (ru : Nat) (rw : Nat) (ca : Nat) (fp : Int32) (wd : Int64) (nu : Int32) (na : Int32) (ts : Int32) (df : Int32) (db : Int32) (sd : Int32) (dn : Nat → Nat) (se : Nat → Nat) (tm : Nat → Nat) (gs : Nat → Int32) (sn : Nat) (p0 : Int32) (p1 : Int32)  (hs : sn < 3) : CRi l D k st lo yX8_tick cX8_tick 4 (some .int) ({ frames := 1, cells := 0, slots := 0, locals := 22 }) [.ref (a 0), .int (nI sn), .int p0, .int p1] [((a 0), .inr (8, (fX8 a (nI tx) fp (nI t0) wd (nI we) nu na (nI rd) ts (nI ru) (nI rw) (nI ca) df db sd))), (aI k (a 1) 3 (nF dn)), (aI k (a 4) 27 (sg se tm gs))] (fun r => True) := by
  intro sz
  refine Met.ofW (cc := cX8_tick) (maxL := 4) (ret := (some .int)) (by decide) rfl ?_
  intro p e s m args below meth c s₁ B hml hv
  obtain ⟨rfl, hsz, hlo, hP, hK, hDL, hZ⟩ := hv
  have hx := B.exec
  have hb := B.bytes
  have hr := B.returns
  have hts := WS_ts B.pre
  have hown : s.vm.findClass RX8 = some m.cls := findClass_of_methodNamed B.named
  have hlocks := B.notSynchronized
  subst hsz
  have hA : ∀ q : Nat, s.heap.size ≤ q → (fun q : Nat => s.heap.size ≤ q) q := fun _ h => h
  have hAlo : ∀ q : Nat, (fun q : Nat => s.heap.size ≤ q) q → lo ≤ q := fun q h => Nat.le_trans hlo h
  have hS : va_S (fun q : Nat => s.heap.size ≤ q) s.heap s.heap [] := va_S.rf
  have hl := lv_entry ([.ref (a 0), .int (nI sn), .int p0, .int p1]) (n := 4) (Nat.le_of_ble_eq_true rfl)
  rw [lg_entry_eq]
  generalize (lg_sl ([.ref (a 0), .int (nI sn), .int p0, .int p1]) ++ List.replicate (4 - (lg_sl ([.ref (a 0), .int (nI sn), .int p0, .int p1])).length) Slot.unset).toArray = ls at hl ⊢
  have hl : lv_has ls 4 [(0, .ref (a 0)), (1, .int (nI sn)), (2, .int p0), (3, .int p1)] := hl
  refine lv_iload_n hx hb dX8_tick_0 rfl (lv_at hl 2 rfl) ?_
  refine lv_aload_n hx hb dX8_tick_1 rfl (lv_at hl 0 rfl) ?_
  refine va_get (D := D) (ci := 8) (v := .ref (a 1)) (C := RX8) (T := TX8) (N := 44) hx hb hts inX8 hown hK hP 0 rfl rfl 0 (by decide) (hts _ tw_973) (fun _ h9 => h9) rfl dX8_tick_2 ?_
  refine lv_iload_n hx hb dX8_tick_5 rfl (lv_at hl 1 rfl) ?_
  refine va_iald hx hb hK hP 1 1 rfl rfl (vp_in_nI (by omega) (by decide)) dX8_tick_6 ?_
  refine lv_ti (y := (nI (dn sn))) (by rw [nI_clamp (by omega)]; rfl) ?_
  refine lv_aload_n hx hb dX8_tick_7 rfl (lv_at hl 0 rfl) ?_
  refine lv_iload_n hx hb dX8_tick_8 rfl (lv_at hl 1 rfl) ?_
  refine lv_bipush (v := 6) hx hb dX8_tick_9 (by decide) ?_
  refine ro_i (D := D) (va_runV (As := [.int (nI sn), .int 6]) (rest := [.int (nI (dn sn)), .int p0]) ⟨hx, hb, hml, hown, hts⟩ ((m_of l D k st lo a tx t0 we rd ru rw ca fp wd nu na ts df db sd se tm gs sn 6 (by first | assumption | omega) (by first | assumption | omega)) s.heap.size) (cwV 2 hts (gV tw_1194 tw_1196 tw_39 tw_87 tw_1197) rfl rfl rfl (by decide +kernel) ⟨Nat.le_of_ble_eq_true rfl, Nat.le_of_ble_eq_true rfl⟩) (pV hS hAlo hlo hP hK hDL hZ [0, 2] (by decide) rfl (ci := 8) (q := (RX8, TX8, 44)) (q0 := 0) rfl rfl) rfl rfl hl.1 rfl (lv_room (Nat.le_of_ble_eq_true rfl)) dX8_tick_11 ⟨Nat.le_of_ble_eq_true rfl, Nat.le_of_ble_eq_true rfl⟩) hS hA hP (fun r_1 H locs hw_1 hP hS => ?_)
  try dsimp only at hw_1
  refine lv_iadd hx hb dX8_tick_14 ?_
  refine lv_topi (fun x_2 ex_2 => ?_)
  refine lv_imul hx hb dX8_tick_15 ?_
  refine lv_topi (fun x_3 ex_3 => ?_)
  refine lv_iload_n hx hb dX8_tick_16 rfl (lv_at hl 3 rfl) ?_
  refine lv_iadd hx hb dX8_tick_17 ?_
  refine lv_topi (fun x_4 ex_4 => ?_)
  exact W.iret (v := x_4) hx hb hr (fun t ht hW => ⟨⟨x_4, (), rfl, trivial, trivial⟩, hS.F ht⟩) hS.2.2 dX8_tick_18

theorem dX8_lateAt_0 : decode cX8_lateAt 0 = .ok (.iload_n 2, 1) := by decide +kernel
theorem dX8_lateAt_1 : decode cX8_lateAt 1 = .ok (.aload_n 0, 1) := by decide +kernel
theorem dX8_lateAt_2 : decode cX8_lateAt 2 = .ok (.iload_n 1, 1) := by decide +kernel
theorem dX8_lateAt_3 : decode cX8_lateAt 3 = .ok (.iconst 4, 1) := by decide +kernel
theorem dX8_lateAt_4 : decode cX8_lateAt 4 = .ok (.invokevirtual 212, 3) := by decide +kernel
theorem dX8_lateAt_7 : decode cX8_lateAt 7 = .ok (.isub, 1) := by decide +kernel
theorem dX8_lateAt_8 : decode cX8_lateAt 8 = .ok (.istore_n 3, 1) := by decide +kernel
theorem dX8_lateAt_9 : decode cX8_lateAt 9 = .ok (.iload_n 3, 1) := by decide +kernel
theorem dX8_lateAt_10 : decode cX8_lateAt 10 = .ok (.ifCond .ge 7, 3) := by decide +kernel
theorem dX8_lateAt_13 : decode cX8_lateAt 13 = .ok (.iconst 0, 1) := by decide +kernel
theorem dX8_lateAt_14 : decode cX8_lateAt 14 = .ok (.goto 4, 3) := by decide +kernel
theorem dX8_lateAt_17 : decode cX8_lateAt 17 = .ok (.iload_n 3, 1) := by decide +kernel
theorem dX8_lateAt_18 : decode cX8_lateAt 18 = .ok (.ireturn, 1) := by decide +kernel
set_option maxHeartbeats 4000000 in
set_option maxRecDepth 100000 in
theorem m_lateAt (l : Launch) (D : va_G) (k : Nat → ClassId) (st : Nat → Nat) (lo : Nat) (a : Nat → Nat) (tx : Nat) (t0 : Nat) (we : Nat) (rd : Nat) (ru : Nat) (rw : Nat) (ca : Nat) (fp : Int32) (wd : Int64) (nu : Int32) (na : Int32) (ts : Int32) (df : Int32) (db : Int32) (sd : Int32) (se : Nat → Nat) (tm : Nat → Nat) (gs : Nat → Int32) (sn : Nat) (p0 : Int32)  (hs : sn < 3) : CRi l D k st lo yX8_lateAt cX8_lateAt 4 (some .int) ({ frames := 1, cells := 0, slots := 0, locals := 22 }) [.ref (a 0), .int (nI sn), .int p0] [((a 0), .inr (8, (fX8 a (nI tx) fp (nI t0) wd (nI we) nu na (nI rd) ts (nI ru) (nI rw) (nI ca) df db sd))), (aI k (a 4) 27 (sg se tm gs))] (fun r => True) := by
  intro sz
  refine Met.ofW (cc := cX8_lateAt) (maxL := 4) (ret := (some .int)) (by decide) rfl ?_
  intro p e s m args below meth c s₁ B hml hv
  obtain ⟨rfl, hsz, hlo, hP, hK, hDL, hZ⟩ := hv
  have hx := B.exec
  have hb := B.bytes
  have hr := B.returns
  have hts := WS_ts B.pre
  have hown : s.vm.findClass RX8 = some m.cls := findClass_of_methodNamed B.named
  have hlocks := B.notSynchronized
  subst hsz
  have hA : ∀ q : Nat, s.heap.size ≤ q → (fun q : Nat => s.heap.size ≤ q) q := fun _ h => h
  have hAlo : ∀ q : Nat, (fun q : Nat => s.heap.size ≤ q) q → lo ≤ q := fun q h => Nat.le_trans hlo h
  have hS : va_S (fun q : Nat => s.heap.size ≤ q) s.heap s.heap [] := va_S.rf
  have hl := lv_entry ([.ref (a 0), .int (nI sn), .int p0]) (n := 4) (Nat.le_of_ble_eq_true rfl)
  rw [lg_entry_eq]
  generalize (lg_sl ([.ref (a 0), .int (nI sn), .int p0]) ++ List.replicate (4 - (lg_sl ([.ref (a 0), .int (nI sn), .int p0])).length) Slot.unset).toArray = ls at hl ⊢
  have hl : lv_has ls 4 [(0, .ref (a 0)), (1, .int (nI sn)), (2, .int p0)] := hl
  refine lv_iload_n hx hb dX8_lateAt_0 rfl (lv_at hl 2 rfl) ?_
  refine lv_aload_n hx hb dX8_lateAt_1 rfl (lv_at hl 0 rfl) ?_
  refine lv_iload_n hx hb dX8_lateAt_2 rfl (lv_at hl 1 rfl) ?_
  refine lv_iconst (v := 4) hx hb dX8_lateAt_3 (by decide) ?_
  refine ro_i (D := D) (va_runV (As := [.int (nI sn), .int 4]) (rest := [.int p0]) ⟨hx, hb, hml, hown, hts⟩ ((m_of l D k st lo a tx t0 we rd ru rw ca fp wd nu na ts df db sd se tm gs sn 4 (by first | assumption | omega) (by first | assumption | omega)) s.heap.size) (cwV 2 hts (gV tw_1194 tw_1196 tw_39 tw_87 tw_1197) rfl rfl rfl (by decide +kernel) ⟨Nat.le_of_ble_eq_true rfl, Nat.le_of_ble_eq_true rfl⟩) (pV hS hAlo hlo hP hK hDL hZ [0, 1] (by decide) rfl (ci := 8) (q := (RX8, TX8, 44)) (q0 := 0) rfl rfl) rfl rfl hl.1 rfl (lv_room (Nat.le_of_ble_eq_true rfl)) dX8_lateAt_4 ⟨Nat.le_of_ble_eq_true rfl, Nat.le_of_ble_eq_true rfl⟩) hS hA hP (fun r_1 H locs hw_1 hP hS => ?_)
  try dsimp only at hw_1
  refine lv_isub hx hb dX8_lateAt_7 ?_
  refine lv_topi (fun x_2 ex_2 => ?_)
  refine lv_istore_n (lv' := [(3, .int x_2), (0, .ref (a 0)), (1, .int (nI sn)), (2, .int p0)]) hx hb dX8_lateAt_8 rfl hl (by decide) rfl (fun ls hl => ?_)
  refine lv_iload_n hx hb dX8_lateAt_9 rfl (lv_at hl 0 rfl) ?_
  refine lv_if_ge (tgt := 17) hx hb dX8_lateAt_10 (by decide) (fun c_3 => ?_) (fun c_3 => ?_)
  · refine lv_iload_n hx hb dX8_lateAt_17 rfl (lv_at hl 0 rfl) ?_
    exact W.iret (v := x_2) hx hb hr (fun t ht hW => ⟨⟨x_2, (), rfl, trivial, trivial⟩, hS.F ht⟩) hS.2.2 dX8_lateAt_18
  · refine lv_iconst (v := 0) hx hb dX8_lateAt_13 (by decide) ?_
    refine lv_goto (tgt := 18) hx hb dX8_lateAt_14 (by decide) ?_
    exact W.iret (v := 0) hx hb hr (fun t ht hW => ⟨⟨0, (), rfl, trivial, trivial⟩, hS.F ht⟩) hS.2.2 dX8_lateAt_18

theorem dX8_takingBy_0 : decode cX8_takingBy 0 = .ok (.aload_n 0, 1) := by decide +kernel
theorem dX8_takingBy_1 : decode cX8_takingBy 1 = .ok (.getfield 7, 3) := by decide +kernel
theorem dX8_takingBy_4 : decode cX8_takingBy 4 = .ok (.iload_n 1, 1) := by decide +kernel
theorem dX8_takingBy_5 : decode cX8_takingBy 5 = .ok (.iaload, 1) := by decide +kernel
theorem dX8_takingBy_6 : decode cX8_takingBy 6 = .ok (.istore 5, 2) := by decide +kernel
theorem dX8_takingBy_8 : decode cX8_takingBy 8 = .ok (.aload_n 0, 1) := by decide +kernel
theorem dX8_takingBy_9 : decode cX8_takingBy 9 = .ok (.getfield 16, 3) := by decide +kernel
theorem dX8_takingBy_12 : decode cX8_takingBy 12 = .ok (.bipush 24, 2) := by decide +kernel
theorem dX8_takingBy_14 : decode cX8_takingBy 14 = .ok (.iload_n 1, 1) := by decide +kernel
theorem dX8_takingBy_15 : decode cX8_takingBy 15 = .ok (.imul, 1) := by decide +kernel
theorem dX8_takingBy_16 : decode cX8_takingBy 16 = .ok (.iload_n 3, 1) := by decide +kernel
theorem dX8_takingBy_17 : decode cX8_takingBy 17 = .ok (.iadd, 1) := by decide +kernel
theorem dX8_takingBy_18 : decode cX8_takingBy 18 = .ok (.iaload, 1) := by decide +kernel
theorem dX8_takingBy_19 : decode cX8_takingBy 19 = .ok (.iload 4, 2) := by decide +kernel
theorem dX8_takingBy_21 : decode cX8_takingBy 21 = .ok (.iload 5, 2) := by decide +kernel
theorem dX8_takingBy_23 : decode cX8_takingBy 23 = .ok (.iload_n 3, 1) := by decide +kernel
theorem dX8_takingBy_24 : decode cX8_takingBy 24 = .ok (.isub, 1) := by decide +kernel
theorem dX8_takingBy_25 : decode cX8_takingBy 25 = .ok (.imul, 1) := by decide +kernel
theorem dX8_takingBy_26 : decode cX8_takingBy 26 = .ok (.iadd, 1) := by decide +kernel
theorem dX8_takingBy_27 : decode cX8_takingBy 27 = .ok (.aload_n 0, 1) := by decide +kernel
theorem dX8_takingBy_28 : decode cX8_takingBy 28 = .ok (.iload_n 1, 1) := by decide +kernel
theorem dX8_takingBy_29 : decode cX8_takingBy 29 = .ok (.iconst 3, 1) := by decide +kernel
theorem dX8_takingBy_30 : decode cX8_takingBy 30 = .ok (.invokevirtual 212, 3) := by decide +kernel
theorem dX8_takingBy_33 : decode cX8_takingBy 33 = .ok (.aload_n 0, 1) := by decide +kernel
theorem dX8_takingBy_34 : decode cX8_takingBy 34 = .ok (.iload_n 1, 1) := by decide +kernel
theorem dX8_takingBy_35 : decode cX8_takingBy 35 = .ok (.aload_n 0, 1) := by decide +kernel
theorem dX8_takingBy_36 : decode cX8_takingBy 36 = .ok (.iload_n 1, 1) := by decide +kernel
theorem dX8_takingBy_37 : decode cX8_takingBy 37 = .ok (.iload_n 2, 1) := by decide +kernel
theorem dX8_takingBy_38 : decode cX8_takingBy 38 = .ok (.iload_n 3, 1) := by decide +kernel
theorem dX8_takingBy_39 : decode cX8_takingBy 39 = .ok (.invokevirtual 223, 3) := by decide +kernel
theorem dX8_takingBy_42 : decode cX8_takingBy 42 = .ok (.iload 5, 2) := by decide +kernel
theorem dX8_takingBy_44 : decode cX8_takingBy 44 = .ok (.iadd, 1) := by decide +kernel
theorem dX8_takingBy_45 : decode cX8_takingBy 45 = .ok (.iload_n 3, 1) := by decide +kernel
theorem dX8_takingBy_46 : decode cX8_takingBy 46 = .ok (.isub, 1) := by decide +kernel
theorem dX8_takingBy_47 : decode cX8_takingBy 47 = .ok (.invokevirtual 227, 3) := by decide +kernel
theorem dX8_takingBy_50 : decode cX8_takingBy 50 = .ok (.imul, 1) := by decide +kernel
theorem dX8_takingBy_51 : decode cX8_takingBy 51 = .ok (.iadd, 1) := by decide +kernel
theorem dX8_takingBy_52 : decode cX8_takingBy 52 = .ok (.sipush 1000, 3) := by decide +kernel
theorem dX8_takingBy_55 : decode cX8_takingBy 55 = .ok (.imul, 1) := by decide +kernel
theorem dX8_takingBy_56 : decode cX8_takingBy 56 = .ok (.ireturn, 1) := by decide +kernel
set_option maxHeartbeats 4000000 in
set_option maxRecDepth 100000 in
theorem m_takingBy (l : Launch) (D : va_G) (k : Nat → ClassId) (st : Nat → Nat) (lo : Nat) (a : Nat → Nat) (tx : Nat) (t0 : Nat) (we : Nat) (rd : Nat) (ru : Nat) (rw : Nat) (ca : Nat) (fp : Int32) (wd : Int64) (nu : Int32) (na : Int32) (ts : Int32) (df : Int32) (db : Int32) (sd : Int32) (dn : Nat → Nat) (se : Nat → Nat) (tm : Nat → Nat) (gs : Nat → Int32) (fprices : Nat → Int32) (sn : Nat) (i : Nat) (p0 : Int32) (p2 : Int32)  (hs : sn < 3) (hi : i < 24) : CRi l D k st lo yX8_takingBy cX8_takingBy 6 (some .int) ({ frames := 2, cells := 0, slots := 0, locals := 45 }) [.ref (a 0), .int (nI sn), .int p0, .int (nI i), .int p2] [((a 0), .inr (8, (fX8 a (nI tx) fp (nI t0) wd (nI we) nu na (nI rd) ts (nI ru) (nI rw) (nI ca) df db sd))), (aI k (a 1) 3 (nF dn)), (aI k (a 4) 27 (sg se tm gs)), (aI k (a 3) 72 fprices)] (fun r => True) := by
  intro sz
  refine Met.ofW (cc := cX8_takingBy) (maxL := 6) (ret := (some .int)) (by decide) rfl ?_
  intro p e s m args below meth c s₁ B hml hv
  obtain ⟨rfl, hsz, hlo, hP, hK, hDL, hZ⟩ := hv
  have hx := B.exec
  have hb := B.bytes
  have hr := B.returns
  have hts := WS_ts B.pre
  have hown : s.vm.findClass RX8 = some m.cls := findClass_of_methodNamed B.named
  have hlocks := B.notSynchronized
  subst hsz
  have hA : ∀ q : Nat, s.heap.size ≤ q → (fun q : Nat => s.heap.size ≤ q) q := fun _ h => h
  have hAlo : ∀ q : Nat, (fun q : Nat => s.heap.size ≤ q) q → lo ≤ q := fun q h => Nat.le_trans hlo h
  have hS : va_S (fun q : Nat => s.heap.size ≤ q) s.heap s.heap [] := va_S.rf
  have hl := lv_entry ([.ref (a 0), .int (nI sn), .int p0, .int (nI i), .int p2]) (n := 6) (Nat.le_of_ble_eq_true rfl)
  rw [lg_entry_eq]
  generalize (lg_sl ([.ref (a 0), .int (nI sn), .int p0, .int (nI i), .int p2]) ++ List.replicate (6 - (lg_sl ([.ref (a 0), .int (nI sn), .int p0, .int (nI i), .int p2])).length) Slot.unset).toArray = ls at hl ⊢
  have hl : lv_has ls 6 [(0, .ref (a 0)), (1, .int (nI sn)), (2, .int p0), (3, .int (nI i)), (4, .int p2)] := hl
  refine lv_aload_n hx hb dX8_takingBy_0 rfl (lv_at hl 0 rfl) ?_
  refine va_get (D := D) (ci := 8) (v := .ref (a 1)) (C := RX8) (T := TX8) (N := 44) hx hb hts inX8 hown hK hP 0 rfl rfl 0 (by decide) (hts _ tw_973) (fun _ h9 => h9) rfl dX8_takingBy_1 ?_
  refine lv_iload_n hx hb dX8_takingBy_4 rfl (lv_at hl 1 rfl) ?_
  refine va_iald hx hb hK hP 1 1 rfl rfl (vp_in_nI (by omega) (by decide)) dX8_takingBy_5 ?_
  refine lv_ti (y := (nI (dn sn))) (by rw [nI_clamp (by omega)]; rfl) ?_
  refine lv_istore (lv' := [(5, .int (nI (dn sn))), (0, .ref (a 0)), (1, .int (nI sn)), (2, .int p0), (3, .int (nI i)), (4, .int p2)]) hx hb dX8_takingBy_6 hl (by decide) rfl (fun ls hl => ?_)
  refine lv_aload_n hx hb dX8_takingBy_8 rfl (lv_at hl 1 rfl) ?_
  refine va_get (D := D) (ci := 8) (v := .ref (a 3)) (C := RX8) (T := TX8) (N := 44) hx hb hts inX8 hown hK hP 0 rfl rfl 2 (by decide) (hts _ tw_975) (fun _ h9 => h9) rfl dX8_takingBy_9 ?_
  refine lv_bipush (v := 24) hx hb dX8_takingBy_12 (by decide) ?_
  refine lv_iload_n hx hb dX8_takingBy_14 rfl (lv_at hl 2 rfl) ?_
  refine lv_imul hx hb dX8_takingBy_15 ?_
  refine lv_ti (y := (nI (24 * sn))) (pk_mul 24 sn) ?_
  refine lv_iload_n hx hb dX8_takingBy_16 rfl (lv_at hl 4 rfl) ?_
  refine lv_iadd hx hb dX8_takingBy_17 ?_
  refine lv_ti (y := (nI (24 * sn + i))) (nI_add (24 * sn) i) ?_
  refine va_iald hx hb hK hP 3 1 rfl rfl (vp_in_nI (by omega) (by decide)) dX8_takingBy_18 ?_
  refine lv_ti (y := (fprices (24 * sn + i))) (by rw [nI_clamp (by omega)]) ?_
  refine lv_iload hx hb dX8_takingBy_19 (lv_at hl 5 rfl) ?_
  refine lv_iload hx hb dX8_takingBy_21 (lv_at hl 0 rfl) ?_
  refine lv_iload_n hx hb dX8_takingBy_23 rfl (lv_at hl 4 rfl) ?_
  refine lv_isub hx hb dX8_takingBy_24 ?_
  refine lv_topi (fun x_1 ex_1 => ?_)
  refine lv_imul hx hb dX8_takingBy_25 ?_
  refine lv_topi (fun x_2 ex_2 => ?_)
  refine lv_iadd hx hb dX8_takingBy_26 ?_
  refine lv_topi (fun x_3 ex_3 => ?_)
  refine lv_aload_n hx hb dX8_takingBy_27 rfl (lv_at hl 1 rfl) ?_
  refine lv_iload_n hx hb dX8_takingBy_28 rfl (lv_at hl 2 rfl) ?_
  refine lv_iconst (v := 3) hx hb dX8_takingBy_29 (by decide) ?_
  refine ro_i (D := D) (va_runV (As := [.int (nI sn), .int 3]) (rest := [.int x_3]) ⟨hx, hb, hml, hown, hts⟩ ((m_of l D k st lo a tx t0 we rd ru rw ca fp wd nu na ts df db sd se tm gs sn 3 (by first | assumption | omega) (by first | assumption | omega)) s.heap.size) (cwV 2 hts (gV tw_1194 tw_1196 tw_39 tw_87 tw_1197) rfl rfl rfl (by decide +kernel) ⟨Nat.le_of_ble_eq_true rfl, Nat.le_of_ble_eq_true rfl⟩) (pV hS hAlo hlo hP hK hDL hZ [0, 2] (by decide) rfl (ci := 8) (q := (RX8, TX8, 44)) (q0 := 0) rfl rfl) rfl rfl hl.1 rfl (lv_room (Nat.le_of_ble_eq_true rfl)) dX8_takingBy_30 ⟨Nat.le_of_ble_eq_true rfl, Nat.le_of_ble_eq_true rfl⟩) hS hA hP (fun r_4 H locs hw_4 hP hS => ?_)
  try dsimp only at hw_4
  refine lv_aload_n hx hb dX8_takingBy_33 rfl (lv_at hl 1 rfl) ?_
  refine lv_iload_n hx hb dX8_takingBy_34 rfl (lv_at hl 2 rfl) ?_
  refine lv_aload_n hx hb dX8_takingBy_35 rfl (lv_at hl 1 rfl) ?_
  refine lv_iload_n hx hb dX8_takingBy_36 rfl (lv_at hl 2 rfl) ?_
  refine lv_iload_n hx hb dX8_takingBy_37 rfl (lv_at hl 3 rfl) ?_
  refine lv_iload_n hx hb dX8_takingBy_38 rfl (lv_at hl 4 rfl) ?_
  refine ro_i (D := D) (va_runV (As := [.int (nI sn), .int p0, .int (nI i)]) (rest := [.int (nI sn), .ref (a 0), .int r_4, .int x_3]) ⟨hx, hb, hml, hown, hts⟩ ((m_tick l D k st lo a tx t0 we rd ru rw ca fp wd nu na ts df db sd dn se tm gs sn p0 (nI i) (by first | assumption | omega)) H.size) (cwV 3 hts (gV tw_1230 tw_1232 tw_45 tw_87 tw_1233) rfl rfl rfl (by decide +kernel) ⟨Nat.le_of_ble_eq_true rfl, Nat.le_of_ble_eq_true rfl⟩) (pV hS hAlo hlo hP hK hDL hZ [0, 1, 2] (by decide) rfl (ci := 8) (q := (RX8, TX8, 44)) (q0 := 0) rfl rfl) rfl rfl hl.1 rfl (lv_room (Nat.le_of_ble_eq_true rfl)) dX8_takingBy_39 ⟨Nat.le_of_ble_eq_true rfl, Nat.le_of_ble_eq_true rfl⟩) hS hA hP (fun r_5 H locs hw_5 hP hS => ?_)
  try dsimp only at hw_5
  refine lv_iload hx hb dX8_takingBy_42 (lv_at hl 0 rfl) ?_
  refine lv_iadd hx hb dX8_takingBy_44 ?_
  refine lv_topi (fun x_6 ex_6 => ?_)
  refine lv_iload_n hx hb dX8_takingBy_45 rfl (lv_at hl 4 rfl) ?_
  refine lv_isub hx hb dX8_takingBy_46 ?_
  refine lv_topi (fun x_7 ex_7 => ?_)
  refine ro_i (D := D) (va_runV (As := [.int (nI sn), .int x_7]) (rest := [.int r_4, .int x_3]) ⟨hx, hb, hml, hown, hts⟩ ((m_lateAt l D k st lo a tx t0 we rd ru rw ca fp wd nu na ts df db sd se tm gs sn x_7 (by first | assumption | omega)) H.size) (cwV 2 hts (gV tw_1234 tw_1236 tw_46 tw_87 tw_1237) rfl rfl rfl (by decide +kernel) ⟨Nat.le_of_ble_eq_true rfl, Nat.le_of_ble_eq_true rfl⟩) (pV hS hAlo hlo hP hK hDL hZ [0, 2] (by decide) rfl (ci := 8) (q := (RX8, TX8, 44)) (q0 := 0) rfl rfl) rfl rfl hl.1 rfl (lv_room (Nat.le_of_ble_eq_true rfl)) dX8_takingBy_47 ⟨Nat.le_of_ble_eq_true rfl, Nat.le_of_ble_eq_true rfl⟩) hS hA hP (fun r_8 H locs hw_8 hP hS => ?_)
  try dsimp only at hw_8
  refine lv_imul hx hb dX8_takingBy_50 ?_
  refine lv_topi (fun x_9 ex_9 => ?_)
  refine lv_iadd hx hb dX8_takingBy_51 ?_
  refine lv_topi (fun x_10 ex_10 => ?_)
  refine lv_sipush (v := 1000) hx hb dX8_takingBy_52 (by decide) ?_
  refine lv_imul hx hb dX8_takingBy_55 ?_
  refine lv_topi (fun x_11 ex_11 => ?_)
  exact W.iret (v := x_11) hx hb hr (fun t ht hW => ⟨⟨x_11, (), rfl, trivial, trivial⟩, hS.F ht⟩) hS.2.2 dX8_takingBy_56

theorem f_m_takingOf_rows : True := trivial
theorem dX8_takingOf_0 : decode cX8_takingOf 0 = .ok (.aload_n 0, 1) := by decide +kernel
theorem dX8_takingOf_1 : decode cX8_takingOf 1 = .ok (.iload_n 1, 1) := by decide +kernel
theorem dX8_takingOf_2 : decode cX8_takingOf 2 = .ok (.iload_n 2, 1) := by decide +kernel
theorem dX8_takingOf_3 : decode cX8_takingOf 3 = .ok (.iload_n 3, 1) := by decide +kernel
theorem dX8_takingOf_4 : decode cX8_takingOf 4 = .ok (.aload_n 0, 1) := by decide +kernel
theorem dX8_takingOf_5 : decode cX8_takingOf 5 = .ok (.iload_n 1, 1) := by decide +kernel
theorem dX8_takingOf_6 : decode cX8_takingOf 6 = .ok (.iconst 1, 1) := by decide +kernel
theorem dX8_takingOf_7 : decode cX8_takingOf 7 = .ok (.invokevirtual 212, 3) := by decide +kernel
theorem dX8_takingOf_10 : decode cX8_takingOf 10 = .ok (.invokevirtual 230, 3) := by decide +kernel
theorem dX8_takingOf_13 : decode cX8_takingOf 13 = .ok (.ireturn, 1) := by decide +kernel
theorem dX8_garageOf_0 : decode cX8_garageOf 0 = .ok (.aload_n 0, 1) := by decide +kernel
theorem dX8_garageOf_1 : decode cX8_garageOf 1 = .ok (.iload_n 1, 1) := by decide +kernel
theorem dX8_garageOf_2 : decode cX8_garageOf 2 = .ok (.bipush 8, 2) := by decide +kernel
theorem dX8_garageOf_4 : decode cX8_garageOf 4 = .ok (.invokevirtual 212, 3) := by decide +kernel
theorem dX8_garageOf_7 : decode cX8_garageOf 7 = .ok (.aload_n 0, 1) := by decide +kernel
theorem dX8_garageOf_8 : decode cX8_garageOf 8 = .ok (.iload_n 1, 1) := by decide +kernel
theorem dX8_garageOf_9 : decode cX8_garageOf 9 = .ok (.iconst 3, 1) := by decide +kernel
theorem dX8_garageOf_10 : decode cX8_garageOf 10 = .ok (.invokevirtual 212, 3) := by decide +kernel
theorem dX8_garageOf_13 : decode cX8_garageOf 13 = .ok (.aload_n 0, 1) := by decide +kernel
theorem dX8_garageOf_14 : decode cX8_garageOf 14 = .ok (.iload_n 1, 1) := by decide +kernel
theorem dX8_garageOf_15 : decode cX8_garageOf 15 = .ok (.aload_n 0, 1) := by decide +kernel
theorem dX8_garageOf_16 : decode cX8_garageOf 16 = .ok (.iload_n 1, 1) := by decide +kernel
theorem dX8_garageOf_17 : decode cX8_garageOf 17 = .ok (.iload_n 2, 1) := by decide +kernel
theorem dX8_garageOf_18 : decode cX8_garageOf 18 = .ok (.aload_n 0, 1) := by decide +kernel
theorem dX8_garageOf_19 : decode cX8_garageOf 19 = .ok (.getfield 7, 3) := by decide +kernel
theorem dX8_garageOf_22 : decode cX8_garageOf 22 = .ok (.iload_n 1, 1) := by decide +kernel
theorem dX8_garageOf_23 : decode cX8_garageOf 23 = .ok (.iaload, 1) := by decide +kernel
theorem dX8_garageOf_24 : decode cX8_garageOf 24 = .ok (.invokevirtual 223, 3) := by decide +kernel
theorem dX8_garageOf_27 : decode cX8_garageOf 27 = .ok (.invokevirtual 227, 3) := by decide +kernel
theorem dX8_garageOf_30 : decode cX8_garageOf 30 = .ok (.imul, 1) := by decide +kernel
theorem dX8_garageOf_31 : decode cX8_garageOf 31 = .ok (.iadd, 1) := by decide +kernel
theorem dX8_garageOf_32 : decode cX8_garageOf 32 = .ok (.sipush 1000, 3) := by decide +kernel
theorem dX8_garageOf_35 : decode cX8_garageOf 35 = .ok (.imul, 1) := by decide +kernel
theorem dX8_garageOf_36 : decode cX8_garageOf 36 = .ok (.ireturn, 1) := by decide +kernel
set_option maxHeartbeats 4000000 in
set_option maxRecDepth 100000 in
theorem m_garageOf (l : Launch) (D : va_G) (k : Nat → ClassId) (st : Nat → Nat) (lo : Nat) (a : Nat → Nat) (tx : Nat) (t0 : Nat) (we : Nat) (rd : Nat) (ru : Nat) (rw : Nat) (ca : Nat) (fp : Int32) (wd : Int64) (nu : Int32) (na : Int32) (ts : Int32) (df : Int32) (db : Int32) (sd : Int32) (dn : Nat → Nat) (se : Nat → Nat) (tm : Nat → Nat) (gs : Nat → Int32) (sn : Nat) (p0 : Int32)  (hs : sn < 3) : CRi l D k st lo yX8_garageOf cX8_garageOf 3 (some .int) ({ frames := 2, cells := 0, slots := 0, locals := 45 }) [.ref (a 0), .int (nI sn), .int p0] [((a 0), .inr (8, (fX8 a (nI tx) fp (nI t0) wd (nI we) nu na (nI rd) ts (nI ru) (nI rw) (nI ca) df db sd))), (aI k (a 1) 3 (nF dn)), (aI k (a 4) 27 (sg se tm gs))] (fun r => True) := by
  intro sz
  refine Met.ofW (cc := cX8_garageOf) (maxL := 3) (ret := (some .int)) (by decide) rfl ?_
  intro p e s m args below meth c s₁ B hml hv
  obtain ⟨rfl, hsz, hlo, hP, hK, hDL, hZ⟩ := hv
  have hx := B.exec
  have hb := B.bytes
  have hr := B.returns
  have hts := WS_ts B.pre
  have hown : s.vm.findClass RX8 = some m.cls := findClass_of_methodNamed B.named
  have hlocks := B.notSynchronized
  subst hsz
  have hA : ∀ q : Nat, s.heap.size ≤ q → (fun q : Nat => s.heap.size ≤ q) q := fun _ h => h
  have hAlo : ∀ q : Nat, (fun q : Nat => s.heap.size ≤ q) q → lo ≤ q := fun q h => Nat.le_trans hlo h
  have hS : va_S (fun q : Nat => s.heap.size ≤ q) s.heap s.heap [] := va_S.rf
  have hl := lv_entry ([.ref (a 0), .int (nI sn), .int p0]) (n := 3) (Nat.le_of_ble_eq_true rfl)
  rw [lg_entry_eq]
  generalize (lg_sl ([.ref (a 0), .int (nI sn), .int p0]) ++ List.replicate (3 - (lg_sl ([.ref (a 0), .int (nI sn), .int p0])).length) Slot.unset).toArray = ls at hl ⊢
  have hl : lv_has ls 3 [(0, .ref (a 0)), (1, .int (nI sn)), (2, .int p0)] := hl
  refine lv_aload_n hx hb dX8_garageOf_0 rfl (lv_at hl 0 rfl) ?_
  refine lv_iload_n hx hb dX8_garageOf_1 rfl (lv_at hl 1 rfl) ?_
  refine lv_bipush (v := 8) hx hb dX8_garageOf_2 (by decide) ?_
  refine ro_i (D := D) (va_runV (As := [.int (nI sn), .int 8]) (rest := []) ⟨hx, hb, hml, hown, hts⟩ ((m_of l D k st lo a tx t0 we rd ru rw ca fp wd nu na ts df db sd se tm gs sn 8 (by first | assumption | omega) (by first | assumption | omega)) s.heap.size) (cwV 2 hts (gV tw_1194 tw_1196 tw_39 tw_87 tw_1197) rfl rfl rfl (by decide +kernel) ⟨Nat.le_of_ble_eq_true rfl, Nat.le_of_ble_eq_true rfl⟩) (pV hS hAlo hlo hP hK hDL hZ [0, 2] (by decide) rfl (ci := 8) (q := (RX8, TX8, 44)) (q0 := 0) rfl rfl) rfl rfl hl.1 rfl (lv_room (Nat.le_of_ble_eq_true rfl)) dX8_garageOf_4 ⟨Nat.le_of_ble_eq_true rfl, Nat.le_of_ble_eq_true rfl⟩) hS hA hP (fun r_1 H locs hw_1 hP hS => ?_)
  try dsimp only at hw_1
  refine lv_aload_n hx hb dX8_garageOf_7 rfl (lv_at hl 0 rfl) ?_
  refine lv_iload_n hx hb dX8_garageOf_8 rfl (lv_at hl 1 rfl) ?_
  refine lv_iconst (v := 3) hx hb dX8_garageOf_9 (by decide) ?_
  refine ro_i (D := D) (va_runV (As := [.int (nI sn), .int 3]) (rest := [.int r_1]) ⟨hx, hb, hml, hown, hts⟩ ((m_of l D k st lo a tx t0 we rd ru rw ca fp wd nu na ts df db sd se tm gs sn 3 (by first | assumption | omega) (by first | assumption | omega)) H.size) (cwV 2 hts (gV tw_1194 tw_1196 tw_39 tw_87 tw_1197) rfl rfl rfl (by decide +kernel) ⟨Nat.le_of_ble_eq_true rfl, Nat.le_of_ble_eq_true rfl⟩) (pV hS hAlo hlo hP hK hDL hZ [0, 2] (by decide) rfl (ci := 8) (q := (RX8, TX8, 44)) (q0 := 0) rfl rfl) rfl rfl hl.1 rfl (lv_room (Nat.le_of_ble_eq_true rfl)) dX8_garageOf_10 ⟨Nat.le_of_ble_eq_true rfl, Nat.le_of_ble_eq_true rfl⟩) hS hA hP (fun r_2 H locs hw_2 hP hS => ?_)
  try dsimp only at hw_2
  refine lv_aload_n hx hb dX8_garageOf_13 rfl (lv_at hl 0 rfl) ?_
  refine lv_iload_n hx hb dX8_garageOf_14 rfl (lv_at hl 1 rfl) ?_
  refine lv_aload_n hx hb dX8_garageOf_15 rfl (lv_at hl 0 rfl) ?_
  refine lv_iload_n hx hb dX8_garageOf_16 rfl (lv_at hl 1 rfl) ?_
  refine lv_iload_n hx hb dX8_garageOf_17 rfl (lv_at hl 2 rfl) ?_
  refine lv_aload_n hx hb dX8_garageOf_18 rfl (lv_at hl 0 rfl) ?_
  refine va_get (D := D) (ci := 8) (v := .ref (a 1)) (C := RX8) (T := TX8) (N := 44) hx hb hts inX8 hown hK hP 0 rfl rfl 0 (by decide) (hts _ tw_973) (fun _ h9 => h9) rfl dX8_garageOf_19 ?_
  refine lv_iload_n hx hb dX8_garageOf_22 rfl (lv_at hl 1 rfl) ?_
  refine va_iald hx hb hK hP 1 1 rfl rfl (vp_in_nI (by omega) (by decide)) dX8_garageOf_23 ?_
  refine lv_ti (y := (nI (dn sn))) (by rw [nI_clamp (by omega)]; rfl) ?_
  refine ro_i (D := D) (va_runV (As := [.int (nI sn), .int p0, .int (nI (dn sn))]) (rest := [.int (nI sn), .ref (a 0), .int r_2, .int r_1]) ⟨hx, hb, hml, hown, hts⟩ ((m_tick l D k st lo a tx t0 we rd ru rw ca fp wd nu na ts df db sd dn se tm gs sn p0 (nI (dn sn)) (by first | assumption | omega)) H.size) (cwV 3 hts (gV tw_1230 tw_1232 tw_45 tw_87 tw_1233) rfl rfl rfl (by decide +kernel) ⟨Nat.le_of_ble_eq_true rfl, Nat.le_of_ble_eq_true rfl⟩) (pV hS hAlo hlo hP hK hDL hZ [0, 1, 2] (by decide) rfl (ci := 8) (q := (RX8, TX8, 44)) (q0 := 0) rfl rfl) rfl rfl hl.1 rfl (lv_room (Nat.le_of_ble_eq_true rfl)) dX8_garageOf_24 ⟨Nat.le_of_ble_eq_true rfl, Nat.le_of_ble_eq_true rfl⟩) hS hA hP (fun r_3 H locs hw_3 hP hS => ?_)
  try dsimp only at hw_3
  refine ro_i (D := D) (va_runV (As := [.int (nI sn), .int r_3]) (rest := [.int r_2, .int r_1]) ⟨hx, hb, hml, hown, hts⟩ ((m_lateAt l D k st lo a tx t0 we rd ru rw ca fp wd nu na ts df db sd se tm gs sn r_3 (by first | assumption | omega)) H.size) (cwV 2 hts (gV tw_1234 tw_1236 tw_46 tw_87 tw_1237) rfl rfl rfl (by decide +kernel) ⟨Nat.le_of_ble_eq_true rfl, Nat.le_of_ble_eq_true rfl⟩) (pV hS hAlo hlo hP hK hDL hZ [0, 2] (by decide) rfl (ci := 8) (q := (RX8, TX8, 44)) (q0 := 0) rfl rfl) rfl rfl hl.1 rfl (lv_room (Nat.le_of_ble_eq_true rfl)) dX8_garageOf_27 ⟨Nat.le_of_ble_eq_true rfl, Nat.le_of_ble_eq_true rfl⟩) hS hA hP (fun r_4 H locs hw_4 hP hS => ?_)
  try dsimp only at hw_4
  refine lv_imul hx hb dX8_garageOf_30 ?_
  refine lv_topi (fun x_5 ex_5 => ?_)
  refine lv_iadd hx hb dX8_garageOf_31 ?_
  refine lv_topi (fun x_6 ex_6 => ?_)
  refine lv_sipush (v := 1000) hx hb dX8_garageOf_32 (by decide) ?_
  refine lv_imul hx hb dX8_garageOf_35 ?_
  refine lv_topi (fun x_7 ex_7 => ?_)
  exact W.iret (v := x_7) hx hb hr (fun t ht hW => ⟨⟨x_7, (), rfl, trivial, trivial⟩, hS.F ht⟩) hS.2.2 dX8_garageOf_36

theorem f_m_fault_rows : True := trivial
theorem dX8_fault_0 : decode cX8_fault 0 = .ok (.aload_n 0, 1) := by decide +kernel
theorem dX8_fault_1 : decode cX8_fault 1 = .ok (.getfield 25, 3) := by decide +kernel
theorem dX8_fault_4 : decode cX8_fault 4 = .ok (.ireturn, 1) := by decide +kernel
theorem tw_27 : Cond.selects RX8 yX8_here yX8_here ∈ LW := LWm (i := 27) (by decide +kernel) rfl
theorem tw_29 : Cond.selects RX8 yX8_readWord yX8_readWord ∈ LW := LWm (i := 29) (by decide +kernel) rfl
theorem tw_31 : Cond.selects RX8 yX8_fails yX8_fails ∈ LW := LWm (i := 31) (by decide +kernel) rfl
theorem tw_33 : Cond.selects RX8 yX8_takeNumber yX8_takeNumber ∈ LW := LWm (i := 33) (by decide +kernel) rfl
theorem tw_34 : Cond.selects RX8 yX8_takeFigures yX8_takeFigures ∈ LW := LWm (i := 34) (by decide +kernel) rfl
theorem tw_35 : Cond.selects RX8 yX8_needs yX8_needs ∈ LW := LWm (i := 35) (by decide +kernel) rfl
theorem tw_977 : Cond.fieldLink RX8 22 "LastPlaceModel" "text" "[I" ∈ LW := LWm4 (i := 179) (by decide +kernel) rfl
theorem tw_978 : Cond.fieldLink RX8 113 "LastPlaceModel" "texted" "I" ∈ LW := LWm4 (i := 180) (by decide +kernel) rfl
theorem tw_980 : Cond.fieldLink RX8 118 "LastPlaceModel" "at0" "I" ∈ LW := LWm4 (i := 182) (by decide +kernel) rfl
theorem tw_981 : Cond.fieldLink RX8 125 "LastPlaceModel" "word" "J" ∈ LW := LWm4 (i := 183) (by decide +kernel) rfl
theorem tw_982 : Cond.fieldLink RX8 129 "LastPlaceModel" "wordEnd" "I" ∈ LW := LWm4 (i := 184) (by decide +kernel) rfl
theorem tw_983 : Cond.fieldLink RX8 163 "LastPlaceModel" "number" "I" ∈ LW := LWm4 (i := 185) (by decide +kernel) rfl
theorem tw_984 : Cond.fieldLink RX8 170 "LastPlaceModel" "numberAt" "I" ∈ LW := LWm4 (i := 186) (by decide +kernel) rfl
theorem tw_985 : Cond.fieldLink RX8 177 "LastPlaceModel" "readDoors" "I" ∈ LW := LWm4 (i := 187) (by decide +kernel) rfl
theorem tw_986 : Cond.fieldLink RX8 29 "LastPlaceModel" "readFree" "[I" ∈ LW := LWm4 (i := 188) (by decide +kernel) rfl
theorem tw_987 : Cond.fieldLink RX8 32 "LastPlaceModel" "readPrice" "[I" ∈ LW := LWm4 (i := 189) (by decide +kernel) rfl
theorem tw_988 : Cond.fieldLink RX8 35 "LastPlaceModel" "readSingle" "[I" ∈ LW := LWm4 (i := 190) (by decide +kernel) rfl
theorem tw_989 : Cond.fieldLink RX8 180 "LastPlaceModel" "toldSet" "I" ∈ LW := LWm4 (i := 191) (by decide +kernel) rfl
theorem tw_1120 : Cond.methodLink RX8 121 yX8_here ∈ LW := LWm5 (i := 82) (by decide +kernel) rfl
theorem tw_1122 : Cond.instanceMethod yX8_here ∈ LW := LWm5 (i := 84) (by decide +kernel) rfl
set_option maxRecDepth 100000 in theorem tw_1123 : Cond.code yX8_here cX8_here 1 (some .int) ∈ LW := LWm5 (i := 85) rfl rfl
theorem tw_1128 : Cond.methodLink RX8 156 yX8_readWord ∈ LW := LWm5 (i := 90) (by decide +kernel) rfl
theorem tw_1130 : Cond.instanceMethod yX8_readWord ∈ LW := LWm5 (i := 92) (by decide +kernel) rfl
set_option maxRecDepth 100000 in theorem tw_1131 : Cond.code yX8_readWord cX8_readWord 2 none ∈ LW := LWm5 (i := 93) rfl rfl
theorem tw_1132 : Cond.constantLong RX8 132 (97) ∈ LW := LWm5 (i := 94) (by decide +kernel) rfl
theorem tw_1133 : Cond.constantLong RX8 134 (122) ∈ LW := LWm5 (i := 95) (by decide +kernel) rfl
theorem tw_1134 : Cond.constantLong RX8 136 (1000000000000) ∈ LW := LWm5 (i := 96) (by decide +kernel) rfl
theorem tw_1135 : Cond.constantLong RX8 138 (2000000000000) ∈ LW := LWm5 (i := 97) (by decide +kernel) rfl
theorem tw_1136 : Cond.constantLong RX8 140 (27) ∈ LW := LWm5 (i := 98) (by decide +kernel) rfl
theorem tw_1137 : Cond.constantLong RX8 142 (96) ∈ LW := LWm5 (i := 99) (by decide +kernel) rfl
theorem tw_1142 : Cond.methodLink RX8 148 yX8_code ∈ LW := LWm5 (i := 104) (by decide +kernel) rfl
theorem tw_1143 : Cond.static yX8_code ∈ LW := LWm5 (i := 105) (by decide +kernel) rfl
set_option maxRecDepth 100000 in theorem tw_1144 : Cond.code yX8_code cX8_code 3 (some .long) ∈ LW := LWm5 (i := 106) rfl rfl
theorem tw_1145 : Cond.methodLink RX8 152 yX8_longest ∈ LW := LWm5 (i := 107) (by decide +kernel) rfl
theorem tw_1146 : Cond.static yX8_longest ∈ LW := LWm5 (i := 108) (by decide +kernel) rfl
set_option maxRecDepth 100000 in theorem tw_1147 : Cond.code yX8_longest cX8_longest 4 (some .long) ∈ LW := LWm5 (i := 109) rfl rfl
theorem tw_1148 : Cond.methodLink RX8 144 yX8_longer ∈ LW := LWm5 (i := 110) (by decide +kernel) rfl
theorem tw_1149 : Cond.static yX8_longer ∈ LW := LWm5 (i := 111) (by decide +kernel) rfl
set_option maxRecDepth 100000 in theorem tw_1150 : Cond.code yX8_longer cX8_longer 3 (some .long) ∈ LW := LWm5 (i := 112) rfl rfl
theorem tw_1151 : Cond.methodLink RX8 159 yX8_fails ∈ LW := LWm5 (i := 113) (by decide +kernel) rfl
theorem tw_1153 : Cond.instanceMethod yX8_fails ∈ LW := LWm5 (i := 115) (by decide +kernel) rfl
set_option maxRecDepth 100000 in theorem tw_1154 : Cond.code yX8_fails cX8_fails 3 (some .int) ∈ LW := LWm5 (i := 116) rfl rfl
theorem tw_1159 : Cond.methodLink RX8 183 yX8_takeNumber ∈ LW := LWm5 (i := 121) (by decide +kernel) rfl
theorem tw_1161 : Cond.instanceMethod yX8_takeNumber ∈ LW := LWm5 (i := 123) (by decide +kernel) rfl
set_option maxRecDepth 100000 in theorem tw_1162 : Cond.code yX8_takeNumber cX8_takeNumber 4 (some .int) ∈ LW := LWm5 (i := 124) rfl rfl
theorem tw_1163 : Cond.constantLong RX8 166 (48) ∈ LW := LWm5 (i := 125) (by decide +kernel) rfl
theorem tw_1164 : Cond.constantLong RX8 168 (57) ∈ LW := LWm5 (i := 126) (by decide +kernel) rfl
theorem tw_1165 : Cond.methodLink RX8 173 yX8_takeFigures ∈ LW := LWm5 (i := 127) (by decide +kernel) rfl
theorem tw_1167 : Cond.instanceMethod yX8_takeFigures ∈ LW := LWm5 (i := 129) (by decide +kernel) rfl
set_option maxRecDepth 100000 in theorem tw_1168 : Cond.code yX8_takeFigures cX8_takeFigures 7 (some .int) ∈ LW := LWm5 (i := 130) rfl rfl
theorem tw_1169 : Cond.methodLink RX8 186 yX8_needs ∈ LW := LWm5 (i := 131) (by decide +kernel) rfl
theorem tw_1171 : Cond.instanceMethod yX8_needs ∈ LW := LWm5 (i := 133) (by decide +kernel) rfl
set_option maxRecDepth 100000 in theorem tw_1172 : Cond.code yX8_needs cX8_needs 3 (some .int) ∈ LW := LWm5 (i := 134) rfl rfl
theorem f_m_code_rows : True := trivial
theorem dX8_code_0 : decode cX8_code 0 = .ok (.ldc2_w 140, 3) := by decide +kernel
theorem dX8_code_3 : decode cX8_code 3 = .ok (.ldc2_w 140, 3) := by decide +kernel
theorem dX8_code_6 : decode cX8_code 6 = .ok (.iload_n 0, 1) := by decide +kernel
theorem dX8_code_7 : decode cX8_code 7 = .ok (.i2l, 1) := by decide +kernel
theorem dX8_code_8 : decode cX8_code 8 = .ok (.ldc2_w 142, 3) := by decide +kernel
theorem dX8_code_11 : decode cX8_code 11 = .ok (.lsub, 1) := by decide +kernel
theorem dX8_code_12 : decode cX8_code 12 = .ok (.lmul, 1) := by decide +kernel
theorem dX8_code_13 : decode cX8_code 13 = .ok (.iload_n 1, 1) := by decide +kernel
theorem dX8_code_14 : decode cX8_code 14 = .ok (.i2l, 1) := by decide +kernel
theorem dX8_code_15 : decode cX8_code 15 = .ok (.ladd, 1) := by decide +kernel
theorem dX8_code_16 : decode cX8_code 16 = .ok (.ldc2_w 142, 3) := by decide +kernel
theorem dX8_code_19 : decode cX8_code 19 = .ok (.lsub, 1) := by decide +kernel
theorem dX8_code_20 : decode cX8_code 20 = .ok (.lmul, 1) := by decide +kernel
theorem dX8_code_21 : decode cX8_code 21 = .ok (.iload_n 2, 1) := by decide +kernel
theorem dX8_code_22 : decode cX8_code 22 = .ok (.i2l, 1) := by decide +kernel
theorem dX8_code_23 : decode cX8_code 23 = .ok (.ladd, 1) := by decide +kernel
theorem dX8_code_24 : decode cX8_code 24 = .ok (.ldc2_w 142, 3) := by decide +kernel
theorem dX8_code_27 : decode cX8_code 27 = .ok (.lsub, 1) := by decide +kernel
theorem dX8_code_28 : decode cX8_code 28 = .ok (.lreturn, 1) := by decide +kernel
theorem f_m_longer_rows : True := trivial
theorem dX8_longer_0 : decode cX8_longer 0 = .ok (.ldc2_w 140, 3) := by decide +kernel
theorem dX8_longer_3 : decode cX8_longer 3 = .ok (.lload_n 0, 1) := by decide +kernel
theorem dX8_longer_4 : decode cX8_longer 4 = .ok (.lmul, 1) := by decide +kernel
theorem dX8_longer_5 : decode cX8_longer 5 = .ok (.iload_n 2, 1) := by decide +kernel
theorem dX8_longer_6 : decode cX8_longer 6 = .ok (.i2l, 1) := by decide +kernel
theorem dX8_longer_7 : decode cX8_longer 7 = .ok (.ladd, 1) := by decide +kernel
theorem dX8_longer_8 : decode cX8_longer 8 = .ok (.ldc2_w 142, 3) := by decide +kernel
theorem dX8_longer_11 : decode cX8_longer 11 = .ok (.lsub, 1) := by decide +kernel
theorem dX8_longer_12 : decode cX8_longer 12 = .ok (.lreturn, 1) := by decide +kernel
theorem f_m_longest_rows : True := trivial
theorem dX8_longest_0 : decode cX8_longest 0 = .ok (.lload_n 0, 1) := by decide +kernel
theorem dX8_longest_1 : decode cX8_longest 1 = .ok (.iload_n 2, 1) := by decide +kernel
theorem dX8_longest_2 : decode cX8_longest 2 = .ok (.invokestatic 144, 3) := by decide +kernel
theorem dX8_longest_5 : decode cX8_longest 5 = .ok (.iload_n 3, 1) := by decide +kernel
theorem dX8_longest_6 : decode cX8_longest 6 = .ok (.invokestatic 144, 3) := by decide +kernel
theorem dX8_longest_9 : decode cX8_longest 9 = .ok (.lreturn, 1) := by decide +kernel
theorem f_m_fails_rows : True := trivial
theorem dX8_fails_0 : decode cX8_fails 0 = .ok (.aload_n 0, 1) := by decide +kernel
theorem dX8_fails_1 : decode cX8_fails 1 = .ok (.iload_n 2, 1) := by decide +kernel
theorem dX8_fails_2 : decode cX8_fails 2 = .ok (.putfield 25, 3) := by decide +kernel
theorem dX8_fails_5 : decode cX8_fails 5 = .ok (.iload_n 1, 1) := by decide +kernel
theorem dX8_fails_6 : decode cX8_fails 6 = .ok (.ireturn, 1) := by decide +kernel
theorem f_m_here_rows : True := trivial
theorem dX8_here_0 : decode cX8_here 0 = .ok (.aload_n 0, 1) := by decide +kernel
theorem dX8_here_1 : decode cX8_here 1 = .ok (.getfield 118, 3) := by decide +kernel
theorem dX8_here_4 : decode cX8_here 4 = .ok (.aload_n 0, 1) := by decide +kernel
theorem dX8_here_5 : decode cX8_here 5 = .ok (.getfield 113, 3) := by decide +kernel
theorem dX8_here_8 : decode cX8_here 8 = .ok (.if_icmp .ge 30, 3) := by decide +kernel
theorem dX8_here_11 : decode cX8_here 11 = .ok (.aload_n 0, 1) := by decide +kernel
theorem dX8_here_12 : decode cX8_here 12 = .ok (.getfield 22, 3) := by decide +kernel
theorem dX8_here_15 : decode cX8_here 15 = .ok (.aload_n 0, 1) := by decide +kernel
theorem dX8_here_16 : decode cX8_here 16 = .ok (.getfield 118, 3) := by decide +kernel
theorem dX8_here_19 : decode cX8_here 19 = .ok (.iaload, 1) := by decide +kernel
theorem dX8_here_20 : decode cX8_here 20 = .ok (.bipush 32, 2) := by decide +kernel
theorem dX8_here_22 : decode cX8_here 22 = .ok (.if_icmp .ne 16, 3) := by decide +kernel
theorem dX8_here_25 : decode cX8_here 25 = .ok (.aload_n 0, 1) := by decide +kernel
theorem dX8_here_26 : decode cX8_here 26 = .ok (.dup, 1) := by decide +kernel
theorem dX8_here_27 : decode cX8_here 27 = .ok (.getfield 118, 3) := by decide +kernel
theorem dX8_here_30 : decode cX8_here 30 = .ok (.iconst 1, 1) := by decide +kernel
theorem dX8_here_31 : decode cX8_here 31 = .ok (.iadd, 1) := by decide +kernel
theorem dX8_here_32 : decode cX8_here 32 = .ok (.putfield 118, 3) := by decide +kernel
theorem dX8_here_35 : decode cX8_here 35 = .ok (.goto (-35), 3) := by decide +kernel
theorem dX8_here_38 : decode cX8_here 38 = .ok (.aload_n 0, 1) := by decide +kernel
theorem dX8_here_39 : decode cX8_here 39 = .ok (.getfield 118, 3) := by decide +kernel
theorem dX8_here_42 : decode cX8_here 42 = .ok (.aload_n 0, 1) := by decide +kernel
theorem dX8_here_43 : decode cX8_here 43 = .ok (.getfield 113, 3) := by decide +kernel
theorem dX8_here_46 : decode cX8_here 46 = .ok (.if_icmp .ge 15, 3) := by decide +kernel
theorem dX8_here_49 : decode cX8_here 49 = .ok (.aload_n 0, 1) := by decide +kernel
theorem dX8_here_50 : decode cX8_here 50 = .ok (.getfield 22, 3) := by decide +kernel
theorem dX8_here_53 : decode cX8_here 53 = .ok (.aload_n 0, 1) := by decide +kernel
theorem dX8_here_54 : decode cX8_here 54 = .ok (.getfield 118, 3) := by decide +kernel
theorem dX8_here_57 : decode cX8_here 57 = .ok (.iaload, 1) := by decide +kernel
theorem dX8_here_58 : decode cX8_here 58 = .ok (.goto 4, 3) := by decide +kernel
theorem dX8_here_61 : decode cX8_here 61 = .ok (.iconst (-1), 1) := by decide +kernel
theorem dX8_here_62 : decode cX8_here 62 = .ok (.ireturn, 1) := by decide +kernel
theorem f_m_readWord_rows : True := trivial
theorem dX8_readWord_0 : decode cX8_readWord 0 = .ok (.aload_n 0, 1) := by decide +kernel
theorem dX8_readWord_1 : decode cX8_readWord 1 = .ok (.invokevirtual 121, 3) := by decide +kernel
theorem dX8_readWord_4 : decode cX8_readWord 4 = .ok (.istore_n 1, 1) := by decide +kernel
theorem dX8_readWord_5 : decode cX8_readWord 5 = .ok (.aload_n 0, 1) := by decide +kernel
theorem dX8_readWord_6 : decode cX8_readWord 6 = .ok (.lconst 0, 1) := by decide +kernel
theorem dX8_readWord_7 : decode cX8_readWord 7 = .ok (.putfield 125, 3) := by decide +kernel
theorem dX8_readWord_10 : decode cX8_readWord 10 = .ok (.aload_n 0, 1) := by decide +kernel
theorem dX8_readWord_11 : decode cX8_readWord 11 = .ok (.aload_n 0, 1) := by decide +kernel
theorem dX8_readWord_12 : decode cX8_readWord 12 = .ok (.getfield 118, 3) := by decide +kernel
theorem dX8_readWord_15 : decode cX8_readWord 15 = .ok (.putfield 129, 3) := by decide +kernel
theorem dX8_readWord_18 : decode cX8_readWord 18 = .ok (.aload_n 0, 1) := by decide +kernel
theorem dX8_readWord_19 : decode cX8_readWord 19 = .ok (.getfield 129, 3) := by decide +kernel
theorem dX8_readWord_22 : decode cX8_readWord 22 = .ok (.aload_n 0, 1) := by decide +kernel
theorem dX8_readWord_23 : decode cX8_readWord 23 = .ok (.getfield 113, 3) := by decide +kernel
theorem dX8_readWord_26 : decode cX8_readWord 26 = .ok (.if_icmp .ge 82, 3) := by decide +kernel
theorem dX8_readWord_29 : decode cX8_readWord 29 = .ok (.aload_n 0, 1) := by decide +kernel
theorem dX8_readWord_30 : decode cX8_readWord 30 = .ok (.getfield 22, 3) := by decide +kernel
theorem dX8_readWord_33 : decode cX8_readWord 33 = .ok (.aload_n 0, 1) := by decide +kernel
theorem dX8_readWord_34 : decode cX8_readWord 34 = .ok (.getfield 129, 3) := by decide +kernel
theorem dX8_readWord_37 : decode cX8_readWord 37 = .ok (.iaload, 1) := by decide +kernel
theorem dX8_readWord_38 : decode cX8_readWord 38 = .ok (.i2l, 1) := by decide +kernel
theorem dX8_readWord_39 : decode cX8_readWord 39 = .ok (.ldc2_w 132, 3) := by decide +kernel
theorem dX8_readWord_42 : decode cX8_readWord 42 = .ok (.ldc2_w 134, 3) := by decide +kernel
theorem dX8_readWord_45 : decode cX8_readWord 45 = .ok (.invokestatic 107, 3) := by decide +kernel
theorem dX8_readWord_48 : decode cX8_readWord 48 = .ok (.ifCond .eq 60, 3) := by decide +kernel
theorem dX8_readWord_51 : decode cX8_readWord 51 = .ok (.aload_n 0, 1) := by decide +kernel
theorem dX8_readWord_52 : decode cX8_readWord 52 = .ok (.aload_n 0, 1) := by decide +kernel
theorem dX8_readWord_53 : decode cX8_readWord 53 = .ok (.getfield 125, 3) := by decide +kernel
theorem dX8_readWord_56 : decode cX8_readWord 56 = .ok (.ldc2_w 136, 3) := by decide +kernel
theorem dX8_readWord_59 : decode cX8_readWord 59 = .ok (.lcmp, 1) := by decide +kernel
theorem dX8_readWord_60 : decode cX8_readWord 60 = .ok (.ifCond .le 9, 3) := by decide +kernel
theorem dX8_readWord_63 : decode cX8_readWord 63 = .ok (.ldc2_w 138, 3) := by decide +kernel
theorem dX8_readWord_66 : decode cX8_readWord 66 = .ok (.goto 26, 3) := by decide +kernel
theorem dX8_readWord_69 : decode cX8_readWord 69 = .ok (.ldc2_w 140, 3) := by decide +kernel
theorem dX8_readWord_72 : decode cX8_readWord 72 = .ok (.aload_n 0, 1) := by decide +kernel
theorem dX8_readWord_73 : decode cX8_readWord 73 = .ok (.getfield 125, 3) := by decide +kernel
theorem dX8_readWord_76 : decode cX8_readWord 76 = .ok (.lmul, 1) := by decide +kernel
theorem dX8_readWord_77 : decode cX8_readWord 77 = .ok (.aload_n 0, 1) := by decide +kernel
theorem dX8_readWord_78 : decode cX8_readWord 78 = .ok (.getfield 22, 3) := by decide +kernel
theorem dX8_readWord_81 : decode cX8_readWord 81 = .ok (.aload_n 0, 1) := by decide +kernel
theorem dX8_readWord_82 : decode cX8_readWord 82 = .ok (.getfield 129, 3) := by decide +kernel
theorem dX8_readWord_85 : decode cX8_readWord 85 = .ok (.iaload, 1) := by decide +kernel
theorem dX8_readWord_86 : decode cX8_readWord 86 = .ok (.i2l, 1) := by decide +kernel
theorem dX8_readWord_87 : decode cX8_readWord 87 = .ok (.ladd, 1) := by decide +kernel
theorem dX8_readWord_88 : decode cX8_readWord 88 = .ok (.ldc2_w 142, 3) := by decide +kernel
theorem dX8_readWord_91 : decode cX8_readWord 91 = .ok (.lsub, 1) := by decide +kernel
theorem dX8_readWord_92 : decode cX8_readWord 92 = .ok (.putfield 125, 3) := by decide +kernel
theorem dX8_readWord_95 : decode cX8_readWord 95 = .ok (.aload_n 0, 1) := by decide +kernel
theorem dX8_readWord_96 : decode cX8_readWord 96 = .ok (.dup, 1) := by decide +kernel
theorem dX8_readWord_97 : decode cX8_readWord 97 = .ok (.getfield 129, 3) := by decide +kernel
theorem dX8_readWord_100 : decode cX8_readWord 100 = .ok (.iconst 1, 1) := by decide +kernel
theorem dX8_readWord_101 : decode cX8_readWord 101 = .ok (.iadd, 1) := by decide +kernel
theorem dX8_readWord_102 : decode cX8_readWord 102 = .ok (.putfield 129, 3) := by decide +kernel
theorem dX8_readWord_105 : decode cX8_readWord 105 = .ok (.goto (-87), 3) := by decide +kernel
theorem dX8_readWord_108 : decode cX8_readWord 108 = .ok (.return_, 1) := by decide +kernel
theorem f_m_needs_rows : True := trivial
theorem dX8_needs_0 : decode cX8_needs 0 = .ok (.aload_n 0, 1) := by decide +kernel
theorem dX8_needs_1 : decode cX8_needs 1 = .ok (.invokevirtual 156, 3) := by decide +kernel
theorem dX8_needs_4 : decode cX8_needs 4 = .ok (.aload_n 0, 1) := by decide +kernel
theorem dX8_needs_5 : decode cX8_needs 5 = .ok (.getfield 125, 3) := by decide +kernel
theorem dX8_needs_8 : decode cX8_needs 8 = .ok (.lload_n 1, 1) := by decide +kernel
theorem dX8_needs_9 : decode cX8_needs 9 = .ok (.lcmp, 1) := by decide +kernel
theorem dX8_needs_10 : decode cX8_needs 10 = .ok (.ifCond .eq 13, 3) := by decide +kernel
theorem dX8_needs_13 : decode cX8_needs 13 = .ok (.aload_n 0, 1) := by decide +kernel
theorem dX8_needs_14 : decode cX8_needs 14 = .ok (.iconst 1, 1) := by decide +kernel
theorem dX8_needs_15 : decode cX8_needs 15 = .ok (.aload_n 0, 1) := by decide +kernel
theorem dX8_needs_16 : decode cX8_needs 16 = .ok (.getfield 118, 3) := by decide +kernel
theorem dX8_needs_19 : decode cX8_needs 19 = .ok (.invokevirtual 159, 3) := by decide +kernel
theorem dX8_needs_22 : decode cX8_needs 22 = .ok (.ireturn, 1) := by decide +kernel
theorem dX8_needs_23 : decode cX8_needs 23 = .ok (.aload_n 0, 1) := by decide +kernel
theorem dX8_needs_24 : decode cX8_needs 24 = .ok (.aload_n 0, 1) := by decide +kernel
theorem dX8_needs_25 : decode cX8_needs 25 = .ok (.getfield 129, 3) := by decide +kernel
theorem dX8_needs_28 : decode cX8_needs 28 = .ok (.putfield 118, 3) := by decide +kernel
theorem dX8_needs_31 : decode cX8_needs 31 = .ok (.iconst 0, 1) := by decide +kernel
theorem dX8_needs_32 : decode cX8_needs 32 = .ok (.ireturn, 1) := by decide +kernel
theorem f_m_takeFigures_rows : True := trivial
theorem dX8_takeFigures_0 : decode cX8_takeFigures 0 = .ok (.aload_n 0, 1) := by decide +kernel
theorem dX8_takeFigures_1 : decode cX8_takeFigures 1 = .ok (.getfield 118, 3) := by decide +kernel
theorem dX8_takeFigures_4 : decode cX8_takeFigures 4 = .ok (.istore 5, 2) := by decide +kernel
theorem dX8_takeFigures_6 : decode cX8_takeFigures 6 = .ok (.aload_n 0, 1) := by decide +kernel
theorem dX8_takeFigures_7 : decode cX8_takeFigures 7 = .ok (.iconst 0, 1) := by decide +kernel
theorem dX8_takeFigures_8 : decode cX8_takeFigures 8 = .ok (.putfield 163, 3) := by decide +kernel
theorem dX8_takeFigures_11 : decode cX8_takeFigures 11 = .ok (.aload_n 0, 1) := by decide +kernel
theorem dX8_takeFigures_12 : decode cX8_takeFigures 12 = .ok (.getfield 118, 3) := by decide +kernel
theorem dX8_takeFigures_15 : decode cX8_takeFigures 15 = .ok (.aload_n 0, 1) := by decide +kernel
theorem dX8_takeFigures_16 : decode cX8_takeFigures 16 = .ok (.getfield 113, 3) := by decide +kernel
theorem dX8_takeFigures_19 : decode cX8_takeFigures 19 = .ok (.if_icmp .ge 79, 3) := by decide +kernel
theorem dX8_takeFigures_22 : decode cX8_takeFigures 22 = .ok (.aload_n 0, 1) := by decide +kernel
theorem dX8_takeFigures_23 : decode cX8_takeFigures 23 = .ok (.getfield 22, 3) := by decide +kernel
theorem dX8_takeFigures_26 : decode cX8_takeFigures 26 = .ok (.aload_n 0, 1) := by decide +kernel
theorem dX8_takeFigures_27 : decode cX8_takeFigures 27 = .ok (.getfield 118, 3) := by decide +kernel
theorem dX8_takeFigures_30 : decode cX8_takeFigures 30 = .ok (.iaload, 1) := by decide +kernel
theorem dX8_takeFigures_31 : decode cX8_takeFigures 31 = .ok (.i2l, 1) := by decide +kernel
theorem dX8_takeFigures_32 : decode cX8_takeFigures 32 = .ok (.ldc2_w 166, 3) := by decide +kernel
theorem dX8_takeFigures_35 : decode cX8_takeFigures 35 = .ok (.ldc2_w 168, 3) := by decide +kernel
theorem dX8_takeFigures_38 : decode cX8_takeFigures 38 = .ok (.invokestatic 107, 3) := by decide +kernel
theorem dX8_takeFigures_41 : decode cX8_takeFigures 41 = .ok (.ifCond .eq 57, 3) := by decide +kernel
theorem dX8_takeFigures_44 : decode cX8_takeFigures 44 = .ok (.aload_n 0, 1) := by decide +kernel
theorem dX8_takeFigures_45 : decode cX8_takeFigures 45 = .ok (.aload_n 0, 1) := by decide +kernel
theorem dX8_takeFigures_46 : decode cX8_takeFigures 46 = .ok (.getfield 163, 3) := by decide +kernel
theorem dX8_takeFigures_49 : decode cX8_takeFigures 49 = .ok (.sipush 10000, 3) := by decide +kernel
theorem dX8_takeFigures_52 : decode cX8_takeFigures 52 = .ok (.if_icmp .le 10, 3) := by decide +kernel
theorem dX8_takeFigures_55 : decode cX8_takeFigures 55 = .ok (.aload_n 0, 1) := by decide +kernel
theorem dX8_takeFigures_56 : decode cX8_takeFigures 56 = .ok (.getfield 163, 3) := by decide +kernel
theorem dX8_takeFigures_59 : decode cX8_takeFigures 59 = .ok (.goto 23, 3) := by decide +kernel
theorem dX8_takeFigures_62 : decode cX8_takeFigures 62 = .ok (.bipush 10, 2) := by decide +kernel
theorem dX8_takeFigures_64 : decode cX8_takeFigures 64 = .ok (.aload_n 0, 1) := by decide +kernel
theorem dX8_takeFigures_65 : decode cX8_takeFigures 65 = .ok (.getfield 163, 3) := by decide +kernel
theorem dX8_takeFigures_68 : decode cX8_takeFigures 68 = .ok (.imul, 1) := by decide +kernel
theorem dX8_takeFigures_69 : decode cX8_takeFigures 69 = .ok (.aload_n 0, 1) := by decide +kernel
theorem dX8_takeFigures_70 : decode cX8_takeFigures 70 = .ok (.getfield 22, 3) := by decide +kernel
theorem dX8_takeFigures_73 : decode cX8_takeFigures 73 = .ok (.aload_n 0, 1) := by decide +kernel
theorem dX8_takeFigures_74 : decode cX8_takeFigures 74 = .ok (.getfield 118, 3) := by decide +kernel
theorem dX8_takeFigures_77 : decode cX8_takeFigures 77 = .ok (.iaload, 1) := by decide +kernel
theorem dX8_takeFigures_78 : decode cX8_takeFigures 78 = .ok (.iadd, 1) := by decide +kernel
theorem dX8_takeFigures_79 : decode cX8_takeFigures 79 = .ok (.bipush 48, 2) := by decide +kernel
theorem dX8_takeFigures_81 : decode cX8_takeFigures 81 = .ok (.isub, 1) := by decide +kernel
theorem dX8_takeFigures_82 : decode cX8_takeFigures 82 = .ok (.putfield 163, 3) := by decide +kernel
theorem dX8_takeFigures_85 : decode cX8_takeFigures 85 = .ok (.aload_n 0, 1) := by decide +kernel
theorem dX8_takeFigures_86 : decode cX8_takeFigures 86 = .ok (.dup, 1) := by decide +kernel
theorem dX8_takeFigures_87 : decode cX8_takeFigures 87 = .ok (.getfield 118, 3) := by decide +kernel
theorem dX8_takeFigures_90 : decode cX8_takeFigures 90 = .ok (.iconst 1, 1) := by decide +kernel
theorem dX8_takeFigures_91 : decode cX8_takeFigures 91 = .ok (.iadd, 1) := by decide +kernel
theorem dX8_takeFigures_92 : decode cX8_takeFigures 92 = .ok (.putfield 118, 3) := by decide +kernel
theorem dX8_takeFigures_95 : decode cX8_takeFigures 95 = .ok (.goto (-84), 3) := by decide +kernel
theorem dX8_takeFigures_98 : decode cX8_takeFigures 98 = .ok (.aload_n 0, 1) := by decide +kernel
theorem dX8_takeFigures_99 : decode cX8_takeFigures 99 = .ok (.getfield 118, 3) := by decide +kernel
theorem dX8_takeFigures_102 : decode cX8_takeFigures 102 = .ok (.iload 5, 2) := by decide +kernel
theorem dX8_takeFigures_104 : decode cX8_takeFigures 104 = .ok (.if_icmp .ne 11, 3) := by decide +kernel
theorem dX8_takeFigures_107 : decode cX8_takeFigures 107 = .ok (.aload_n 0, 1) := by decide +kernel
theorem dX8_takeFigures_108 : decode cX8_takeFigures 108 = .ok (.iconst 1, 1) := by decide +kernel
theorem dX8_takeFigures_109 : decode cX8_takeFigures 109 = .ok (.iload 5, 2) := by decide +kernel
theorem dX8_takeFigures_111 : decode cX8_takeFigures 111 = .ok (.invokevirtual 159, 3) := by decide +kernel
theorem dX8_takeFigures_114 : decode cX8_takeFigures 114 = .ok (.ireturn, 1) := by decide +kernel
theorem dX8_takeFigures_115 : decode cX8_takeFigures 115 = .ok (.aload_n 0, 1) := by decide +kernel
theorem dX8_takeFigures_116 : decode cX8_takeFigures 116 = .ok (.getfield 118, 3) := by decide +kernel
theorem dX8_takeFigures_119 : decode cX8_takeFigures 119 = .ok (.iload 5, 2) := by decide +kernel
theorem dX8_takeFigures_121 : decode cX8_takeFigures 121 = .ok (.isub, 1) := by decide +kernel
theorem dX8_takeFigures_122 : decode cX8_takeFigures 122 = .ok (.istore 6, 2) := by decide +kernel
theorem dX8_takeFigures_124 : decode cX8_takeFigures 124 = .ok (.aload_n 0, 1) := by decide +kernel
theorem dX8_takeFigures_125 : decode cX8_takeFigures 125 = .ok (.iload 4, 2) := by decide +kernel
theorem dX8_takeFigures_127 : decode cX8_takeFigures 127 = .ok (.ifCond .eq 11, 3) := by decide +kernel
theorem dX8_takeFigures_130 : decode cX8_takeFigures 130 = .ok (.aload_n 0, 1) := by decide +kernel
theorem dX8_takeFigures_131 : decode cX8_takeFigures 131 = .ok (.getfield 163, 3) := by decide +kernel
theorem dX8_takeFigures_134 : decode cX8_takeFigures 134 = .ok (.ineg, 1) := by decide +kernel
theorem dX8_takeFigures_135 : decode cX8_takeFigures 135 = .ok (.goto 7, 3) := by decide +kernel
theorem dX8_takeFigures_138 : decode cX8_takeFigures 138 = .ok (.aload_n 0, 1) := by decide +kernel
theorem dX8_takeFigures_139 : decode cX8_takeFigures 139 = .ok (.getfield 163, 3) := by decide +kernel
theorem dX8_takeFigures_142 : decode cX8_takeFigures 142 = .ok (.putfield 163, 3) := by decide +kernel
theorem dX8_takeFigures_145 : decode cX8_takeFigures 145 = .ok (.iload 6, 2) := by decide +kernel
theorem dX8_takeFigures_147 : decode cX8_takeFigures 147 = .ok (.iconst 3, 1) := by decide +kernel
theorem dX8_takeFigures_148 : decode cX8_takeFigures 148 = .ok (.if_icmp .gt 18, 3) := by decide +kernel
theorem dX8_takeFigures_151 : decode cX8_takeFigures 151 = .ok (.aload_n 0, 1) := by decide +kernel
theorem dX8_takeFigures_152 : decode cX8_takeFigures 152 = .ok (.getfield 163, 3) := by decide +kernel
theorem dX8_takeFigures_155 : decode cX8_takeFigures 155 = .ok (.i2l, 1) := by decide +kernel
theorem dX8_takeFigures_156 : decode cX8_takeFigures 156 = .ok (.iload_n 2, 1) := by decide +kernel
theorem dX8_takeFigures_157 : decode cX8_takeFigures 157 = .ok (.i2l, 1) := by decide +kernel
theorem dX8_takeFigures_158 : decode cX8_takeFigures 158 = .ok (.iload_n 3, 1) := by decide +kernel
theorem dX8_takeFigures_159 : decode cX8_takeFigures 159 = .ok (.i2l, 1) := by decide +kernel
theorem dX8_takeFigures_160 : decode cX8_takeFigures 160 = .ok (.invokestatic 107, 3) := by decide +kernel
theorem dX8_takeFigures_163 : decode cX8_takeFigures 163 = .ok (.ifCond .ne 12, 3) := by decide +kernel
theorem dX8_takeFigures_166 : decode cX8_takeFigures 166 = .ok (.aload_n 0, 1) := by decide +kernel
theorem dX8_takeFigures_167 : decode cX8_takeFigures 167 = .ok (.iconst 2, 1) := by decide +kernel
theorem dX8_takeFigures_168 : decode cX8_takeFigures 168 = .ok (.iload_n 1, 1) := by decide +kernel
theorem dX8_takeFigures_169 : decode cX8_takeFigures 169 = .ok (.invokevirtual 159, 3) := by decide +kernel
theorem dX8_takeFigures_172 : decode cX8_takeFigures 172 = .ok (.goto 4, 3) := by decide +kernel
theorem dX8_takeFigures_175 : decode cX8_takeFigures 175 = .ok (.iconst 0, 1) := by decide +kernel
theorem dX8_takeFigures_176 : decode cX8_takeFigures 176 = .ok (.ireturn, 1) := by decide +kernel
theorem f_m_takeNumber_rows : True := trivial
theorem dX8_takeNumber_0 : decode cX8_takeNumber 0 = .ok (.aload_n 0, 1) := by decide +kernel
theorem dX8_takeNumber_1 : decode cX8_takeNumber 1 = .ok (.invokevirtual 121, 3) := by decide +kernel
theorem dX8_takeNumber_4 : decode cX8_takeNumber 4 = .ok (.istore_n 3, 1) := by decide +kernel
theorem dX8_takeNumber_5 : decode cX8_takeNumber 5 = .ok (.aload_n 0, 1) := by decide +kernel
theorem dX8_takeNumber_6 : decode cX8_takeNumber 6 = .ok (.aload_n 0, 1) := by decide +kernel
theorem dX8_takeNumber_7 : decode cX8_takeNumber 7 = .ok (.getfield 118, 3) := by decide +kernel
theorem dX8_takeNumber_10 : decode cX8_takeNumber 10 = .ok (.putfield 170, 3) := by decide +kernel
theorem dX8_takeNumber_13 : decode cX8_takeNumber 13 = .ok (.iload_n 3, 1) := by decide +kernel
theorem dX8_takeNumber_14 : decode cX8_takeNumber 14 = .ok (.i2l, 1) := by decide +kernel
theorem dX8_takeNumber_15 : decode cX8_takeNumber 15 = .ok (.ldc2_w 166, 3) := by decide +kernel
theorem dX8_takeNumber_18 : decode cX8_takeNumber 18 = .ok (.ldc2_w 168, 3) := by decide +kernel
theorem dX8_takeNumber_21 : decode cX8_takeNumber 21 = .ok (.invokestatic 107, 3) := by decide +kernel
theorem dX8_takeNumber_24 : decode cX8_takeNumber 24 = .ok (.ifCond .eq 17, 3) := by decide +kernel
theorem dX8_takeNumber_27 : decode cX8_takeNumber 27 = .ok (.aload_n 0, 1) := by decide +kernel
theorem dX8_takeNumber_28 : decode cX8_takeNumber 28 = .ok (.aload_n 0, 1) := by decide +kernel
theorem dX8_takeNumber_29 : decode cX8_takeNumber 29 = .ok (.getfield 170, 3) := by decide +kernel
theorem dX8_takeNumber_32 : decode cX8_takeNumber 32 = .ok (.iload_n 1, 1) := by decide +kernel
theorem dX8_takeNumber_33 : decode cX8_takeNumber 33 = .ok (.iload_n 2, 1) := by decide +kernel
theorem dX8_takeNumber_34 : decode cX8_takeNumber 34 = .ok (.iconst 0, 1) := by decide +kernel
theorem dX8_takeNumber_35 : decode cX8_takeNumber 35 = .ok (.invokevirtual 173, 3) := by decide +kernel
theorem dX8_takeNumber_38 : decode cX8_takeNumber 38 = .ok (.goto 12, 3) := by decide +kernel
theorem dX8_takeNumber_41 : decode cX8_takeNumber 41 = .ok (.aload_n 0, 1) := by decide +kernel
theorem dX8_takeNumber_42 : decode cX8_takeNumber 42 = .ok (.iconst 1, 1) := by decide +kernel
theorem dX8_takeNumber_43 : decode cX8_takeNumber 43 = .ok (.aload_n 0, 1) := by decide +kernel
theorem dX8_takeNumber_44 : decode cX8_takeNumber 44 = .ok (.getfield 118, 3) := by decide +kernel
theorem dX8_takeNumber_47 : decode cX8_takeNumber 47 = .ok (.invokevirtual 159, 3) := by decide +kernel
theorem dX8_takeNumber_50 : decode cX8_takeNumber 50 = .ok (.ireturn, 1) := by decide +kernel
theorem f_m_takeSigned_rows : True := trivial
theorem dX8_takeSigned_0 : decode cX8_takeSigned 0 = .ok (.aload_n 0, 1) := by decide +kernel
theorem dX8_takeSigned_1 : decode cX8_takeSigned 1 = .ok (.invokevirtual 121, 3) := by decide +kernel
theorem dX8_takeSigned_4 : decode cX8_takeSigned 4 = .ok (.istore_n 2, 1) := by decide +kernel
theorem dX8_takeSigned_5 : decode cX8_takeSigned 5 = .ok (.aload_n 0, 1) := by decide +kernel
theorem dX8_takeSigned_6 : decode cX8_takeSigned 6 = .ok (.aload_n 0, 1) := by decide +kernel
theorem dX8_takeSigned_7 : decode cX8_takeSigned 7 = .ok (.getfield 118, 3) := by decide +kernel
theorem dX8_takeSigned_10 : decode cX8_takeSigned 10 = .ok (.putfield 170, 3) := by decide +kernel
theorem dX8_takeSigned_13 : decode cX8_takeSigned 13 = .ok (.iload_n 2, 1) := by decide +kernel
theorem dX8_takeSigned_14 : decode cX8_takeSigned 14 = .ok (.bipush 45, 2) := by decide +kernel
theorem dX8_takeSigned_16 : decode cX8_takeSigned 16 = .ok (.if_icmp .ne 7, 3) := by decide +kernel
theorem dX8_takeSigned_19 : decode cX8_takeSigned 19 = .ok (.iconst 1, 1) := by decide +kernel
theorem dX8_takeSigned_20 : decode cX8_takeSigned 20 = .ok (.goto 4, 3) := by decide +kernel
theorem dX8_takeSigned_23 : decode cX8_takeSigned 23 = .ok (.iconst 0, 1) := by decide +kernel
theorem dX8_takeSigned_24 : decode cX8_takeSigned 24 = .ok (.istore_n 3, 1) := by decide +kernel
theorem dX8_takeSigned_25 : decode cX8_takeSigned 25 = .ok (.aload_n 0, 1) := by decide +kernel
theorem dX8_takeSigned_26 : decode cX8_takeSigned 26 = .ok (.dup, 1) := by decide +kernel
theorem dX8_takeSigned_27 : decode cX8_takeSigned 27 = .ok (.getfield 118, 3) := by decide +kernel
theorem dX8_takeSigned_30 : decode cX8_takeSigned 30 = .ok (.iload_n 3, 1) := by decide +kernel
theorem dX8_takeSigned_31 : decode cX8_takeSigned 31 = .ok (.ifCond .eq 7, 3) := by decide +kernel
theorem dX8_takeSigned_34 : decode cX8_takeSigned 34 = .ok (.iconst 1, 1) := by decide +kernel
theorem dX8_takeSigned_35 : decode cX8_takeSigned 35 = .ok (.goto 4, 3) := by decide +kernel
theorem dX8_takeSigned_38 : decode cX8_takeSigned 38 = .ok (.iconst 0, 1) := by decide +kernel
theorem dX8_takeSigned_39 : decode cX8_takeSigned 39 = .ok (.iadd, 1) := by decide +kernel
theorem dX8_takeSigned_40 : decode cX8_takeSigned 40 = .ok (.putfield 118, 3) := by decide +kernel
theorem dX8_takeSigned_43 : decode cX8_takeSigned 43 = .ok (.aload_n 0, 1) := by decide +kernel
theorem dX8_takeSigned_44 : decode cX8_takeSigned 44 = .ok (.aload_n 0, 1) := by decide +kernel
theorem dX8_takeSigned_45 : decode cX8_takeSigned 45 = .ok (.getfield 170, 3) := by decide +kernel
theorem dX8_takeSigned_48 : decode cX8_takeSigned 48 = .ok (.iload_n 1, 1) := by decide +kernel
theorem dX8_takeSigned_49 : decode cX8_takeSigned 49 = .ok (.ineg, 1) := by decide +kernel
theorem dX8_takeSigned_50 : decode cX8_takeSigned 50 = .ok (.iload_n 1, 1) := by decide +kernel
theorem dX8_takeSigned_51 : decode cX8_takeSigned 51 = .ok (.iload_n 3, 1) := by decide +kernel
theorem dX8_takeSigned_52 : decode cX8_takeSigned 52 = .ok (.invokevirtual 173, 3) := by decide +kernel
theorem dX8_takeSigned_55 : decode cX8_takeSigned 55 = .ok (.ireturn, 1) := by decide +kernel
theorem f_m_clauseOf_rows : True := trivial
theorem dX8_clauseOf_0 : decode cX8_clauseOf 0 = .ok (.bipush 99, 2) := by decide +kernel
theorem dX8_clauseOf_2 : decode cX8_clauseOf 2 = .ok (.bipush 117, 2) := by decide +kernel
theorem dX8_clauseOf_4 : decode cX8_clauseOf 4 = .ok (.bipush 114, 2) := by decide +kernel
theorem dX8_clauseOf_6 : decode cX8_clauseOf 6 = .ok (.invokestatic 148, 3) := by decide +kernel
theorem dX8_clauseOf_9 : decode cX8_clauseOf 9 = .ok (.bipush 116, 2) := by decide +kernel
theorem dX8_clauseOf_11 : decode cX8_clauseOf 11 = .ok (.bipush 97, 2) := by decide +kernel
theorem dX8_clauseOf_13 : decode cX8_clauseOf 13 = .ok (.invokestatic 152, 3) := by decide +kernel
theorem dX8_clauseOf_16 : decode cX8_clauseOf 16 = .ok (.bipush 105, 2) := by decide +kernel
theorem dX8_clauseOf_18 : decode cX8_clauseOf 18 = .ok (.bipush 110, 2) := by decide +kernel
theorem dX8_clauseOf_20 : decode cX8_clauseOf 20 = .ok (.invokestatic 152, 3) := by decide +kernel
theorem dX8_clauseOf_23 : decode cX8_clauseOf 23 = .ok (.lstore_n 1, 1) := by decide +kernel
theorem dX8_clauseOf_24 : decode cX8_clauseOf 24 = .ok (.bipush 103, 2) := by decide +kernel
theorem dX8_clauseOf_26 : decode cX8_clauseOf 26 = .ok (.bipush 97, 2) := by decide +kernel
theorem dX8_clauseOf_28 : decode cX8_clauseOf 28 = .ok (.bipush 114, 2) := by decide +kernel
theorem dX8_clauseOf_30 : decode cX8_clauseOf 30 = .ok (.invokestatic 148, 3) := by decide +kernel
theorem dX8_clauseOf_33 : decode cX8_clauseOf 33 = .ok (.bipush 97, 2) := by decide +kernel
theorem dX8_clauseOf_35 : decode cX8_clauseOf 35 = .ok (.bipush 103, 2) := by decide +kernel
theorem dX8_clauseOf_37 : decode cX8_clauseOf 37 = .ok (.invokestatic 152, 3) := by decide +kernel
theorem dX8_clauseOf_40 : decode cX8_clauseOf 40 = .ok (.bipush 101, 2) := by decide +kernel
theorem dX8_clauseOf_42 : decode cX8_clauseOf 42 = .ok (.invokestatic 144, 3) := by decide +kernel
theorem dX8_clauseOf_45 : decode cX8_clauseOf 45 = .ok (.lstore_n 3, 1) := by decide +kernel
theorem dX8_clauseOf_46 : decode cX8_clauseOf 46 = .ok (.aload_n 0, 1) := by decide +kernel
theorem dX8_clauseOf_47 : decode cX8_clauseOf 47 = .ok (.getfield 125, 3) := by decide +kernel
theorem dX8_clauseOf_50 : decode cX8_clauseOf 50 = .ok (.bipush 100, 2) := by decide +kernel
theorem dX8_clauseOf_52 : decode cX8_clauseOf 52 = .ok (.bipush 111, 2) := by decide +kernel
theorem dX8_clauseOf_54 : decode cX8_clauseOf 54 = .ok (.bipush 111, 2) := by decide +kernel
theorem dX8_clauseOf_56 : decode cX8_clauseOf 56 = .ok (.invokestatic 148, 3) := by decide +kernel
theorem dX8_clauseOf_59 : decode cX8_clauseOf 59 = .ok (.bipush 114, 2) := by decide +kernel
theorem dX8_clauseOf_61 : decode cX8_clauseOf 61 = .ok (.bipush 115, 2) := by decide +kernel
theorem dX8_clauseOf_63 : decode cX8_clauseOf 63 = .ok (.invokestatic 152, 3) := by decide +kernel
theorem dX8_clauseOf_66 : decode cX8_clauseOf 66 = .ok (.lcmp, 1) := by decide +kernel
theorem dX8_clauseOf_67 : decode cX8_clauseOf 67 = .ok (.ifCond .ne 8, 3) := by decide +kernel
theorem dX8_clauseOf_70 : decode cX8_clauseOf 70 = .ok (.bipush 9, 2) := by decide +kernel
theorem dX8_clauseOf_72 : decode cX8_clauseOf 72 = .ok (.goto 86, 3) := by decide +kernel
theorem dX8_clauseOf_75 : decode cX8_clauseOf 75 = .ok (.aload_n 0, 1) := by decide +kernel
theorem dX8_clauseOf_76 : decode cX8_clauseOf 76 = .ok (.getfield 125, 3) := by decide +kernel
theorem dX8_clauseOf_79 : decode cX8_clauseOf 79 = .ok (.bipush 97, 2) := by decide +kernel
theorem dX8_clauseOf_81 : decode cX8_clauseOf 81 = .ok (.bipush 108, 2) := by decide +kernel
theorem dX8_clauseOf_83 : decode cX8_clauseOf 83 = .ok (.bipush 105, 2) := by decide +kernel
theorem dX8_clauseOf_85 : decode cX8_clauseOf 85 = .ok (.invokestatic 148, 3) := by decide +kernel
theorem dX8_clauseOf_88 : decode cX8_clauseOf 88 = .ok (.bipush 107, 2) := by decide +kernel
theorem dX8_clauseOf_90 : decode cX8_clauseOf 90 = .ok (.bipush 101, 2) := by decide +kernel
theorem dX8_clauseOf_92 : decode cX8_clauseOf 92 = .ok (.invokestatic 152, 3) := by decide +kernel
theorem dX8_clauseOf_95 : decode cX8_clauseOf 95 = .ok (.lcmp, 1) := by decide +kernel
theorem dX8_clauseOf_96 : decode cX8_clauseOf 96 = .ok (.ifCond .ne 7, 3) := by decide +kernel
theorem dX8_clauseOf_99 : decode cX8_clauseOf 99 = .ok (.iconst 0, 1) := by decide +kernel
theorem dX8_clauseOf_100 : decode cX8_clauseOf 100 = .ok (.goto 58, 3) := by decide +kernel
theorem dX8_clauseOf_103 : decode cX8_clauseOf 103 = .ok (.aload_n 0, 1) := by decide +kernel
theorem dX8_clauseOf_104 : decode cX8_clauseOf 104 = .ok (.getfield 125, 3) := by decide +kernel
theorem dX8_clauseOf_107 : decode cX8_clauseOf 107 = .ok (.bipush 119, 2) := by decide +kernel
theorem dX8_clauseOf_109 : decode cX8_clauseOf 109 = .ok (.bipush 97, 2) := by decide +kernel
theorem dX8_clauseOf_111 : decode cX8_clauseOf 111 = .ok (.bipush 108, 2) := by decide +kernel
theorem dX8_clauseOf_113 : decode cX8_clauseOf 113 = .ok (.invokestatic 148, 3) := by decide +kernel
theorem dX8_clauseOf_116 : decode cX8_clauseOf 116 = .ok (.bipush 107, 2) := by decide +kernel
theorem dX8_clauseOf_118 : decode cX8_clauseOf 118 = .ok (.invokestatic 144, 3) := by decide +kernel
theorem dX8_clauseOf_121 : decode cX8_clauseOf 121 = .ok (.lcmp, 1) := by decide +kernel
theorem dX8_clauseOf_122 : decode cX8_clauseOf 122 = .ok (.ifCond .ne 7, 3) := by decide +kernel
theorem dX8_clauseOf_125 : decode cX8_clauseOf 125 = .ok (.iconst 1, 1) := by decide +kernel
theorem dX8_clauseOf_126 : decode cX8_clauseOf 126 = .ok (.goto 32, 3) := by decide +kernel
theorem dX8_clauseOf_129 : decode cX8_clauseOf 129 = .ok (.aload_n 0, 1) := by decide +kernel
theorem dX8_clauseOf_130 : decode cX8_clauseOf 130 = .ok (.getfield 125, 3) := by decide +kernel
theorem dX8_clauseOf_133 : decode cX8_clauseOf 133 = .ok (.bipush 100, 2) := by decide +kernel
theorem dX8_clauseOf_135 : decode cX8_clauseOf 135 = .ok (.bipush 114, 2) := by decide +kernel
theorem dX8_clauseOf_137 : decode cX8_clauseOf 137 = .ok (.bipush 105, 2) := by decide +kernel
theorem dX8_clauseOf_139 : decode cX8_clauseOf 139 = .ok (.invokestatic 148, 3) := by decide +kernel
theorem dX8_clauseOf_142 : decode cX8_clauseOf 142 = .ok (.bipush 118, 2) := by decide +kernel
theorem dX8_clauseOf_144 : decode cX8_clauseOf 144 = .ok (.bipush 101, 2) := by decide +kernel
theorem dX8_clauseOf_146 : decode cX8_clauseOf 146 = .ok (.invokestatic 152, 3) := by decide +kernel
theorem dX8_clauseOf_149 : decode cX8_clauseOf 149 = .ok (.lcmp, 1) := by decide +kernel
theorem dX8_clauseOf_150 : decode cX8_clauseOf 150 = .ok (.ifCond .ne 7, 3) := by decide +kernel
theorem dX8_clauseOf_153 : decode cX8_clauseOf 153 = .ok (.iconst 2, 1) := by decide +kernel
theorem dX8_clauseOf_154 : decode cX8_clauseOf 154 = .ok (.goto 4, 3) := by decide +kernel
theorem dX8_clauseOf_157 : decode cX8_clauseOf 157 = .ok (.iconst (-1), 1) := by decide +kernel
theorem dX8_clauseOf_158 : decode cX8_clauseOf 158 = .ok (.istore 5, 2) := by decide +kernel
theorem dX8_clauseOf_160 : decode cX8_clauseOf 160 = .ok (.aload_n 0, 1) := by decide +kernel
theorem dX8_clauseOf_161 : decode cX8_clauseOf 161 = .ok (.getfield 125, 3) := by decide +kernel
theorem dX8_clauseOf_164 : decode cX8_clauseOf 164 = .ok (.bipush 108, 2) := by decide +kernel
theorem dX8_clauseOf_166 : decode cX8_clauseOf 166 = .ok (.bipush 97, 2) := by decide +kernel
theorem dX8_clauseOf_168 : decode cX8_clauseOf 168 = .ok (.bipush 116, 2) := by decide +kernel
theorem dX8_clauseOf_170 : decode cX8_clauseOf 170 = .ok (.invokestatic 148, 3) := by decide +kernel
theorem dX8_clauseOf_173 : decode cX8_clauseOf 173 = .ok (.bipush 101, 2) := by decide +kernel
theorem dX8_clauseOf_175 : decode cX8_clauseOf 175 = .ok (.invokestatic 144, 3) := by decide +kernel
theorem dX8_clauseOf_178 : decode cX8_clauseOf 178 = .ok (.lcmp, 1) := by decide +kernel
theorem dX8_clauseOf_179 : decode cX8_clauseOf 179 = .ok (.ifCond .ne 7, 3) := by decide +kernel
theorem dX8_clauseOf_182 : decode cX8_clauseOf 182 = .ok (.iconst 3, 1) := by decide +kernel
theorem dX8_clauseOf_183 : decode cX8_clauseOf 183 = .ok (.goto 81, 3) := by decide +kernel
theorem dX8_clauseOf_186 : decode cX8_clauseOf 186 = .ok (.aload_n 0, 1) := by decide +kernel
theorem dX8_clauseOf_187 : decode cX8_clauseOf 187 = .ok (.getfield 125, 3) := by decide +kernel
theorem dX8_clauseOf_190 : decode cX8_clauseOf 190 = .ok (.lload_n 1, 1) := by decide +kernel
theorem dX8_clauseOf_191 : decode cX8_clauseOf 191 = .ok (.lcmp, 1) := by decide +kernel
theorem dX8_clauseOf_192 : decode cX8_clauseOf 192 = .ok (.ifCond .ne 7, 3) := by decide +kernel
theorem dX8_clauseOf_195 : decode cX8_clauseOf 195 = .ok (.iconst 4, 1) := by decide +kernel
theorem dX8_clauseOf_196 : decode cX8_clauseOf 196 = .ok (.goto 68, 3) := by decide +kernel
theorem dX8_clauseOf_199 : decode cX8_clauseOf 199 = .ok (.aload_n 0, 1) := by decide +kernel
theorem dX8_clauseOf_200 : decode cX8_clauseOf 200 = .ok (.getfield 125, 3) := by decide +kernel
theorem dX8_clauseOf_203 : decode cX8_clauseOf 203 = .ok (.bipush 115, 2) := by decide +kernel
theorem dX8_clauseOf_205 : decode cX8_clauseOf 205 = .ok (.bipush 101, 2) := by decide +kernel
theorem dX8_clauseOf_207 : decode cX8_clauseOf 207 = .ok (.bipush 101, 2) := by decide +kernel
theorem dX8_clauseOf_209 : decode cX8_clauseOf 209 = .ok (.invokestatic 148, 3) := by decide +kernel
theorem dX8_clauseOf_212 : decode cX8_clauseOf 212 = .ok (.lcmp, 1) := by decide +kernel
theorem dX8_clauseOf_213 : decode cX8_clauseOf 213 = .ok (.ifCond .ne 7, 3) := by decide +kernel
theorem dX8_clauseOf_216 : decode cX8_clauseOf 216 = .ok (.iconst 5, 1) := by decide +kernel
theorem dX8_clauseOf_217 : decode cX8_clauseOf 217 = .ok (.goto 47, 3) := by decide +kernel
theorem dX8_clauseOf_220 : decode cX8_clauseOf 220 = .ok (.aload_n 0, 1) := by decide +kernel
theorem dX8_clauseOf_221 : decode cX8_clauseOf 221 = .ok (.getfield 125, 3) := by decide +kernel
theorem dX8_clauseOf_224 : decode cX8_clauseOf 224 = .ok (.bipush 114, 2) := by decide +kernel
theorem dX8_clauseOf_226 : decode cX8_clauseOf 226 = .ok (.bipush 111, 2) := by decide +kernel
theorem dX8_clauseOf_228 : decode cX8_clauseOf 228 = .ok (.bipush 117, 2) := by decide +kernel
theorem dX8_clauseOf_230 : decode cX8_clauseOf 230 = .ok (.invokestatic 148, 3) := by decide +kernel
theorem dX8_clauseOf_233 : decode cX8_clauseOf 233 = .ok (.bipush 110, 2) := by decide +kernel
theorem dX8_clauseOf_235 : decode cX8_clauseOf 235 = .ok (.bipush 100, 2) := by decide +kernel
theorem dX8_clauseOf_237 : decode cX8_clauseOf 237 = .ok (.invokestatic 152, 3) := by decide +kernel
theorem dX8_clauseOf_240 : decode cX8_clauseOf 240 = .ok (.lcmp, 1) := by decide +kernel
theorem dX8_clauseOf_241 : decode cX8_clauseOf 241 = .ok (.ifCond .ne 8, 3) := by decide +kernel
theorem dX8_clauseOf_244 : decode cX8_clauseOf 244 = .ok (.bipush 6, 2) := by decide +kernel
theorem dX8_clauseOf_246 : decode cX8_clauseOf 246 = .ok (.goto 18, 3) := by decide +kernel
theorem dX8_clauseOf_249 : decode cX8_clauseOf 249 = .ok (.aload_n 0, 1) := by decide +kernel
theorem dX8_clauseOf_250 : decode cX8_clauseOf 250 = .ok (.getfield 125, 3) := by decide +kernel
theorem dX8_clauseOf_253 : decode cX8_clauseOf 253 = .ok (.lload_n 3, 1) := by decide +kernel
theorem dX8_clauseOf_254 : decode cX8_clauseOf 254 = .ok (.lcmp, 1) := by decide +kernel
theorem dX8_clauseOf_255 : decode cX8_clauseOf 255 = .ok (.ifCond .ne 8, 3) := by decide +kernel
theorem dX8_clauseOf_258 : decode cX8_clauseOf 258 = .ok (.bipush 8, 2) := by decide +kernel
theorem dX8_clauseOf_260 : decode cX8_clauseOf 260 = .ok (.goto 4, 3) := by decide +kernel
theorem dX8_clauseOf_263 : decode cX8_clauseOf 263 = .ok (.iconst (-1), 1) := by decide +kernel
theorem dX8_clauseOf_264 : decode cX8_clauseOf 264 = .ok (.istore 6, 2) := by decide +kernel
theorem dX8_clauseOf_266 : decode cX8_clauseOf 266 = .ok (.iload 5, 2) := by decide +kernel
theorem dX8_clauseOf_268 : decode cX8_clauseOf 268 = .ok (.ifCond .lt 8, 3) := by decide +kernel
theorem dX8_clauseOf_271 : decode cX8_clauseOf 271 = .ok (.iload 5, 2) := by decide +kernel
theorem dX8_clauseOf_273 : decode cX8_clauseOf 273 = .ok (.goto 5, 3) := by decide +kernel
theorem dX8_clauseOf_276 : decode cX8_clauseOf 276 = .ok (.iload 6, 2) := by decide +kernel
theorem dX8_clauseOf_278 : decode cX8_clauseOf 278 = .ok (.ireturn, 1) := by decide +kernel
theorem f_m_bare_rows : True := trivial
theorem dX8_bare_0 : decode cX8_bare 0 = .ok (.aload_n 0, 1) := by decide +kernel
theorem dX8_bare_1 : decode cX8_bare 1 = .ok (.iconst 0, 1) := by decide +kernel
theorem dX8_bare_2 : decode cX8_bare 2 = .ok (.putfield 177, 3) := by decide +kernel
theorem dX8_bare_5 : decode cX8_bare 5 = .ok (.aload_n 0, 1) := by decide +kernel
theorem dX8_bare_6 : decode cX8_bare 6 = .ok (.iconst 0, 1) := by decide +kernel
theorem dX8_bare_7 : decode cX8_bare 7 = .ok (.putfield 180, 3) := by decide +kernel
theorem dX8_bare_10 : decode cX8_bare 10 = .ok (.aload_n 0, 1) := by decide +kernel
theorem dX8_bare_11 : decode cX8_bare 11 = .ok (.getfield 35, 3) := by decide +kernel
theorem dX8_bare_14 : decode cX8_bare 14 = .ok (.iconst 0, 1) := by decide +kernel
theorem dX8_bare_15 : decode cX8_bare 15 = .ok (.iconst 0, 1) := by decide +kernel
theorem dX8_bare_16 : decode cX8_bare 16 = .ok (.iastore, 1) := by decide +kernel
theorem dX8_bare_17 : decode cX8_bare 17 = .ok (.aload_n 0, 1) := by decide +kernel
theorem dX8_bare_18 : decode cX8_bare 18 = .ok (.getfield 35, 3) := by decide +kernel
theorem dX8_bare_21 : decode cX8_bare 21 = .ok (.iconst 1, 1) := by decide +kernel
theorem dX8_bare_22 : decode cX8_bare 22 = .ok (.iconst 2, 1) := by decide +kernel
theorem dX8_bare_23 : decode cX8_bare 23 = .ok (.iastore, 1) := by decide +kernel
theorem dX8_bare_24 : decode cX8_bare 24 = .ok (.aload_n 0, 1) := by decide +kernel
theorem dX8_bare_25 : decode cX8_bare 25 = .ok (.getfield 35, 3) := by decide +kernel
theorem dX8_bare_28 : decode cX8_bare 28 = .ok (.iconst 2, 1) := by decide +kernel
theorem dX8_bare_29 : decode cX8_bare 29 = .ok (.iconst 1, 1) := by decide +kernel
theorem dX8_bare_30 : decode cX8_bare 30 = .ok (.iastore, 1) := by decide +kernel
theorem dX8_bare_31 : decode cX8_bare 31 = .ok (.aload_n 0, 1) := by decide +kernel
theorem dX8_bare_32 : decode cX8_bare 32 = .ok (.getfield 35, 3) := by decide +kernel
theorem dX8_bare_35 : decode cX8_bare 35 = .ok (.iconst 3, 1) := by decide +kernel
theorem dX8_bare_36 : decode cX8_bare 36 = .ok (.iconst 5, 1) := by decide +kernel
theorem dX8_bare_37 : decode cX8_bare 37 = .ok (.iastore, 1) := by decide +kernel
theorem dX8_bare_38 : decode cX8_bare 38 = .ok (.aload_n 0, 1) := by decide +kernel
theorem dX8_bare_39 : decode cX8_bare 39 = .ok (.getfield 35, 3) := by decide +kernel
theorem dX8_bare_42 : decode cX8_bare 42 = .ok (.iconst 4, 1) := by decide +kernel
theorem dX8_bare_43 : decode cX8_bare 43 = .ok (.bipush 30, 2) := by decide +kernel
theorem dX8_bare_45 : decode cX8_bare 45 = .ok (.iastore, 1) := by decide +kernel
theorem dX8_bare_46 : decode cX8_bare 46 = .ok (.aload_n 0, 1) := by decide +kernel
theorem dX8_bare_47 : decode cX8_bare 47 = .ok (.getfield 35, 3) := by decide +kernel
theorem dX8_bare_50 : decode cX8_bare 50 = .ok (.iconst 5, 1) := by decide +kernel
theorem dX8_bare_51 : decode cX8_bare 51 = .ok (.iconst 1, 1) := by decide +kernel
theorem dX8_bare_52 : decode cX8_bare 52 = .ok (.iastore, 1) := by decide +kernel
theorem dX8_bare_53 : decode cX8_bare 53 = .ok (.aload_n 0, 1) := by decide +kernel
theorem dX8_bare_54 : decode cX8_bare 54 = .ok (.getfield 35, 3) := by decide +kernel
theorem dX8_bare_57 : decode cX8_bare 57 = .ok (.bipush 6, 2) := by decide +kernel
theorem dX8_bare_59 : decode cX8_bare 59 = .ok (.bipush 10, 2) := by decide +kernel
theorem dX8_bare_61 : decode cX8_bare 61 = .ok (.iastore, 1) := by decide +kernel
theorem dX8_bare_62 : decode cX8_bare 62 = .ok (.aload_n 0, 1) := by decide +kernel
theorem dX8_bare_63 : decode cX8_bare 63 = .ok (.getfield 35, 3) := by decide +kernel
theorem dX8_bare_66 : decode cX8_bare 66 = .ok (.bipush 7, 2) := by decide +kernel
theorem dX8_bare_68 : decode cX8_bare 68 = .ok (.iconst 0, 1) := by decide +kernel
theorem dX8_bare_69 : decode cX8_bare 69 = .ok (.iastore, 1) := by decide +kernel
theorem dX8_bare_70 : decode cX8_bare 70 = .ok (.aload_n 0, 1) := by decide +kernel
theorem dX8_bare_71 : decode cX8_bare 71 = .ok (.getfield 35, 3) := by decide +kernel
theorem dX8_bare_74 : decode cX8_bare 74 = .ok (.bipush 8, 2) := by decide +kernel
theorem dX8_bare_76 : decode cX8_bare 76 = .ok (.sipush 200, 3) := by decide +kernel
theorem dX8_bare_79 : decode cX8_bare 79 = .ok (.iastore, 1) := by decide +kernel
theorem dX8_bare_80 : decode cX8_bare 80 = .ok (.return_, 1) := by decide +kernel
theorem f_m_takeDoors_rows : True := trivial
theorem dX8_takeDoors_0 : decode cX8_takeDoors 0 = .ok (.aload_n 0, 1) := by decide +kernel
theorem dX8_takeDoors_1 : decode cX8_takeDoors 1 = .ok (.iconst 1, 1) := by decide +kernel
theorem dX8_takeDoors_2 : decode cX8_takeDoors 2 = .ok (.bipush 24, 2) := by decide +kernel
theorem dX8_takeDoors_4 : decode cX8_takeDoors 4 = .ok (.invokevirtual 183, 3) := by decide +kernel
theorem dX8_takeDoors_7 : decode cX8_takeDoors 7 = .ok (.istore_n 1, 1) := by decide +kernel
theorem dX8_takeDoors_8 : decode cX8_takeDoors 8 = .ok (.aload_n 0, 1) := by decide +kernel
theorem dX8_takeDoors_9 : decode cX8_takeDoors 9 = .ok (.getfield 163, 3) := by decide +kernel
theorem dX8_takeDoors_12 : decode cX8_takeDoors 12 = .ok (.istore_n 2, 1) := by decide +kernel
theorem dX8_takeDoors_13 : decode cX8_takeDoors 13 = .ok (.iload_n 1, 1) := by decide +kernel
theorem dX8_takeDoors_14 : decode cX8_takeDoors 14 = .ok (.ifCond .ne 24, 3) := by decide +kernel
theorem dX8_takeDoors_17 : decode cX8_takeDoors 17 = .ok (.aload_n 0, 1) := by decide +kernel
theorem dX8_takeDoors_18 : decode cX8_takeDoors 18 = .ok (.getfield 177, 3) := by decide +kernel
theorem dX8_takeDoors_21 : decode cX8_takeDoors 21 = .ok (.iload_n 2, 1) := by decide +kernel
theorem dX8_takeDoors_22 : decode cX8_takeDoors 22 = .ok (.iadd, 1) := by decide +kernel
theorem dX8_takeDoors_23 : decode cX8_takeDoors 23 = .ok (.bipush 24, 2) := by decide +kernel
theorem dX8_takeDoors_25 : decode cX8_takeDoors 25 = .ok (.if_icmp .le 13, 3) := by decide +kernel
theorem dX8_takeDoors_28 : decode cX8_takeDoors 28 = .ok (.aload_n 0, 1) := by decide +kernel
theorem dX8_takeDoors_29 : decode cX8_takeDoors 29 = .ok (.iconst 4, 1) := by decide +kernel
theorem dX8_takeDoors_30 : decode cX8_takeDoors 30 = .ok (.aload_n 0, 1) := by decide +kernel
theorem dX8_takeDoors_31 : decode cX8_takeDoors 31 = .ok (.getfield 170, 3) := by decide +kernel
theorem dX8_takeDoors_34 : decode cX8_takeDoors 34 = .ok (.invokevirtual 159, 3) := by decide +kernel
theorem dX8_takeDoors_37 : decode cX8_takeDoors 37 = .ok (.istore_n 1, 1) := by decide +kernel
theorem dX8_takeDoors_38 : decode cX8_takeDoors 38 = .ok (.iload_n 1, 1) := by decide +kernel
theorem dX8_takeDoors_39 : decode cX8_takeDoors 39 = .ok (.ifCond .le 7, 3) := by decide +kernel
theorem dX8_takeDoors_42 : decode cX8_takeDoors 42 = .ok (.iload_n 1, 1) := by decide +kernel
theorem dX8_takeDoors_43 : decode cX8_takeDoors 43 = .ok (.goto 21, 3) := by decide +kernel
theorem dX8_takeDoors_46 : decode cX8_takeDoors 46 = .ok (.aload_n 0, 1) := by decide +kernel
theorem dX8_takeDoors_47 : decode cX8_takeDoors 47 = .ok (.bipush 102, 2) := by decide +kernel
theorem dX8_takeDoors_49 : decode cX8_takeDoors 49 = .ok (.bipush 114, 2) := by decide +kernel
theorem dX8_takeDoors_51 : decode cX8_takeDoors 51 = .ok (.bipush 101, 2) := by decide +kernel
theorem dX8_takeDoors_53 : decode cX8_takeDoors 53 = .ok (.invokestatic 148, 3) := by decide +kernel
theorem dX8_takeDoors_56 : decode cX8_takeDoors 56 = .ok (.bipush 101, 2) := by decide +kernel
theorem dX8_takeDoors_58 : decode cX8_takeDoors 58 = .ok (.invokestatic 144, 3) := by decide +kernel
theorem dX8_takeDoors_61 : decode cX8_takeDoors 61 = .ok (.invokevirtual 186, 3) := by decide +kernel
theorem dX8_takeDoors_64 : decode cX8_takeDoors 64 = .ok (.istore_n 1, 1) := by decide +kernel
theorem dX8_takeDoors_65 : decode cX8_takeDoors 65 = .ok (.iload_n 1, 1) := by decide +kernel
theorem dX8_takeDoors_66 : decode cX8_takeDoors 66 = .ok (.ifCond .le 7, 3) := by decide +kernel
theorem dX8_takeDoors_69 : decode cX8_takeDoors 69 = .ok (.iload_n 1, 1) := by decide +kernel
theorem dX8_takeDoors_70 : decode cX8_takeDoors 70 = .ok (.goto 10, 3) := by decide +kernel
theorem dX8_takeDoors_73 : decode cX8_takeDoors 73 = .ok (.aload_n 0, 1) := by decide +kernel
theorem dX8_takeDoors_74 : decode cX8_takeDoors 74 = .ok (.iconst 0, 1) := by decide +kernel
theorem dX8_takeDoors_75 : decode cX8_takeDoors 75 = .ok (.bipush 100, 2) := by decide +kernel
theorem dX8_takeDoors_77 : decode cX8_takeDoors 77 = .ok (.invokevirtual 183, 3) := by decide +kernel
theorem dX8_takeDoors_80 : decode cX8_takeDoors 80 = .ok (.istore_n 1, 1) := by decide +kernel
theorem dX8_takeDoors_81 : decode cX8_takeDoors 81 = .ok (.aload_n 0, 1) := by decide +kernel
theorem dX8_takeDoors_82 : decode cX8_takeDoors 82 = .ok (.getfield 163, 3) := by decide +kernel
theorem dX8_takeDoors_85 : decode cX8_takeDoors 85 = .ok (.istore_n 3, 1) := by decide +kernel
theorem dX8_takeDoors_86 : decode cX8_takeDoors 86 = .ok (.iload_n 1, 1) := by decide +kernel
theorem dX8_takeDoors_87 : decode cX8_takeDoors 87 = .ok (.ifCond .le 7, 3) := by decide +kernel
theorem dX8_takeDoors_90 : decode cX8_takeDoors 90 = .ok (.iload_n 1, 1) := by decide +kernel
theorem dX8_takeDoors_91 : decode cX8_takeDoors 91 = .ok (.goto 23, 3) := by decide +kernel
theorem dX8_takeDoors_94 : decode cX8_takeDoors 94 = .ok (.aload_n 0, 1) := by decide +kernel
theorem dX8_takeDoors_95 : decode cX8_takeDoors 95 = .ok (.bipush 112, 2) := by decide +kernel
theorem dX8_takeDoors_97 : decode cX8_takeDoors 97 = .ok (.bipush 114, 2) := by decide +kernel
theorem dX8_takeDoors_99 : decode cX8_takeDoors 99 = .ok (.bipush 105, 2) := by decide +kernel
theorem dX8_takeDoors_101 : decode cX8_takeDoors 101 = .ok (.invokestatic 148, 3) := by decide +kernel
theorem dX8_takeDoors_104 : decode cX8_takeDoors 104 = .ok (.bipush 99, 2) := by decide +kernel
theorem dX8_takeDoors_106 : decode cX8_takeDoors 106 = .ok (.bipush 101, 2) := by decide +kernel
theorem dX8_takeDoors_108 : decode cX8_takeDoors 108 = .ok (.invokestatic 152, 3) := by decide +kernel
theorem dX8_takeDoors_111 : decode cX8_takeDoors 111 = .ok (.invokevirtual 186, 3) := by decide +kernel
theorem dX8_takeDoors_114 : decode cX8_takeDoors 114 = .ok (.istore_n 1, 1) := by decide +kernel
theorem dX8_takeDoors_115 : decode cX8_takeDoors 115 = .ok (.iload_n 1, 1) := by decide +kernel
theorem dX8_takeDoors_116 : decode cX8_takeDoors 116 = .ok (.ifCond .le 7, 3) := by decide +kernel
theorem dX8_takeDoors_119 : decode cX8_takeDoors 119 = .ok (.iload_n 1, 1) := by decide +kernel
theorem dX8_takeDoors_120 : decode cX8_takeDoors 120 = .ok (.goto 11, 3) := by decide +kernel
theorem dX8_takeDoors_123 : decode cX8_takeDoors 123 = .ok (.aload_n 0, 1) := by decide +kernel
theorem dX8_takeDoors_124 : decode cX8_takeDoors 124 = .ok (.iconst 0, 1) := by decide +kernel
theorem dX8_takeDoors_125 : decode cX8_takeDoors 125 = .ok (.sipush 999, 3) := by decide +kernel
theorem dX8_takeDoors_128 : decode cX8_takeDoors 128 = .ok (.invokevirtual 183, 3) := by decide +kernel
theorem dX8_takeDoors_131 : decode cX8_takeDoors 131 = .ok (.istore_n 1, 1) := by decide +kernel
theorem dX8_takeDoors_132 : decode cX8_takeDoors 132 = .ok (.iconst 0, 1) := by decide +kernel
theorem dX8_takeDoors_133 : decode cX8_takeDoors 133 = .ok (.istore 4, 2) := by decide +kernel
theorem dX8_takeDoors_135 : decode cX8_takeDoors 135 = .ok (.iload 4, 2) := by decide +kernel
theorem dX8_takeDoors_137 : decode cX8_takeDoors 137 = .ok (.iload_n 2, 1) := by decide +kernel
theorem dX8_takeDoors_138 : decode cX8_takeDoors 138 = .ok (.if_icmp .ge 46, 3) := by decide +kernel
theorem dX8_takeDoors_141 : decode cX8_takeDoors 141 = .ok (.iload_n 1, 1) := by decide +kernel
theorem dX8_takeDoors_142 : decode cX8_takeDoors 142 = .ok (.ifCond .ne 42, 3) := by decide +kernel
theorem dX8_takeDoors_145 : decode cX8_takeDoors 145 = .ok (.aload_n 0, 1) := by decide +kernel
theorem dX8_takeDoors_146 : decode cX8_takeDoors 146 = .ok (.getfield 29, 3) := by decide +kernel
theorem dX8_takeDoors_149 : decode cX8_takeDoors 149 = .ok (.aload_n 0, 1) := by decide +kernel
theorem dX8_takeDoors_150 : decode cX8_takeDoors 150 = .ok (.getfield 177, 3) := by decide +kernel
theorem dX8_takeDoors_153 : decode cX8_takeDoors 153 = .ok (.iload_n 3, 1) := by decide +kernel
theorem dX8_takeDoors_154 : decode cX8_takeDoors 154 = .ok (.iastore, 1) := by decide +kernel
theorem dX8_takeDoors_155 : decode cX8_takeDoors 155 = .ok (.aload_n 0, 1) := by decide +kernel
theorem dX8_takeDoors_156 : decode cX8_takeDoors 156 = .ok (.getfield 32, 3) := by decide +kernel
theorem dX8_takeDoors_159 : decode cX8_takeDoors 159 = .ok (.aload_n 0, 1) := by decide +kernel
theorem dX8_takeDoors_160 : decode cX8_takeDoors 160 = .ok (.getfield 177, 3) := by decide +kernel
theorem dX8_takeDoors_163 : decode cX8_takeDoors 163 = .ok (.aload_n 0, 1) := by decide +kernel
theorem dX8_takeDoors_164 : decode cX8_takeDoors 164 = .ok (.getfield 163, 3) := by decide +kernel
theorem dX8_takeDoors_167 : decode cX8_takeDoors 167 = .ok (.iastore, 1) := by decide +kernel
theorem dX8_takeDoors_168 : decode cX8_takeDoors 168 = .ok (.aload_n 0, 1) := by decide +kernel
theorem dX8_takeDoors_169 : decode cX8_takeDoors 169 = .ok (.dup, 1) := by decide +kernel
theorem dX8_takeDoors_170 : decode cX8_takeDoors 170 = .ok (.getfield 177, 3) := by decide +kernel
theorem dX8_takeDoors_173 : decode cX8_takeDoors 173 = .ok (.iconst 1, 1) := by decide +kernel
theorem dX8_takeDoors_174 : decode cX8_takeDoors 174 = .ok (.iadd, 1) := by decide +kernel
theorem dX8_takeDoors_175 : decode cX8_takeDoors 175 = .ok (.putfield 177, 3) := by decide +kernel
theorem dX8_takeDoors_178 : decode cX8_takeDoors 178 = .ok (.iinc 4 1, 3) := by decide +kernel
theorem dX8_takeDoors_181 : decode cX8_takeDoors 181 = .ok (.goto (-46), 3) := by decide +kernel
theorem dX8_takeDoors_184 : decode cX8_takeDoors 184 = .ok (.iload_n 1, 1) := by decide +kernel
theorem dX8_takeDoors_185 : decode cX8_takeDoors 185 = .ok (.ireturn, 1) := by decide +kernel
theorem tw_30 : Cond.selects RX8 yX8_clauseOf yX8_clauseOf ∈ LW := LWm (i := 30) (by decide +kernel) rfl
theorem tw_32 : Cond.selects RX8 yX8_takeDoors yX8_takeDoors ∈ LW := LWm (i := 32) (by decide +kernel) rfl
theorem tw_36 : Cond.selects RX8 yX8_takeSingle yX8_takeSingle ∈ LW := LWm (i := 36) (by decide +kernel) rfl
theorem tw_37 : Cond.selects RX8 yX8_takeSigned yX8_takeSigned ∈ LW := LWm (i := 37) (by decide +kernel) rfl
theorem tw_1138 : Cond.methodLink RX8 194 yX8_clauseOf ∈ LW := LWm5 (i := 100) (by decide +kernel) rfl
theorem tw_1140 : Cond.instanceMethod yX8_clauseOf ∈ LW := LWm5 (i := 102) (by decide +kernel) rfl
set_option maxRecDepth 100000 in theorem tw_1141 : Cond.code yX8_clauseOf cX8_clauseOf 7 (some .int) ∈ LW := LWm5 (i := 103) rfl rfl
theorem tw_1155 : Cond.methodLink RX8 197 yX8_takeDoors ∈ LW := LWm5 (i := 117) (by decide +kernel) rfl
theorem tw_1157 : Cond.instanceMethod yX8_takeDoors ∈ LW := LWm5 (i := 119) (by decide +kernel) rfl
set_option maxRecDepth 100000 in theorem tw_1158 : Cond.code yX8_takeDoors cX8_takeDoors 5 (some .int) ∈ LW := LWm5 (i := 120) rfl rfl
theorem tw_1173 : Cond.methodLink RX8 200 yX8_takeSingle ∈ LW := LWm5 (i := 135) (by decide +kernel) rfl
theorem tw_1175 : Cond.instanceMethod yX8_takeSingle ∈ LW := LWm5 (i := 137) (by decide +kernel) rfl
set_option maxRecDepth 100000 in theorem tw_1176 : Cond.code yX8_takeSingle cX8_takeSingle 4 (some .int) ∈ LW := LWm5 (i := 138) rfl rfl
theorem tw_1177 : Cond.methodLink RX8 190 yX8_takeSigned ∈ LW := LWm5 (i := 139) (by decide +kernel) rfl
theorem tw_1179 : Cond.instanceMethod yX8_takeSigned ∈ LW := LWm5 (i := 141) (by decide +kernel) rfl
set_option maxRecDepth 100000 in theorem tw_1180 : Cond.code yX8_takeSigned cX8_takeSigned 4 (some .int) ∈ LW := LWm5 (i := 142) rfl rfl
theorem m_glue6 : True := trivial
theorem sg_upd (se tm : Nat → Nat) (g : Nat → Int32) (i : Nat) (x : Int32) (h5 : i % 9 ≠ 5) (h7 : i % 9 ≠ 7) : upd (sg se tm g) i x = sg se tm (upd g i x) := by
  funext j
  unfold upd sg
  by_cases h : j = i
  · subst h
    simp [h5, h7]
  · simp [h]
theorem sg_upd5 (se tm : Nat → Nat) (g : Nat → Int32) (s a : Nat) : upd (sg se tm g) (9 * s + 5) (nI a) = sg (fun j => if j = s then a else se j) tm g := by
  funext j
  unfold upd sg
  by_cases h : j = 9 * s + 5
  · subst h
    simp only [if_true, if_pos (show (9 * s + 5) % 9 = 5 by omega), if_pos (show (9 * s + 5) / 9 = s by omega)]
  · rw [if_neg h]
    by_cases h5 : j % 9 = 5
    · rw [if_pos h5, if_pos h5]
      show nI (se (j / 9)) = nI (if j / 9 = s then a else se (j / 9))
      rw [if_neg (show ¬ j / 9 = s by omega)]
    · rw [if_neg h5, if_neg h5]
theorem sg_upd7 (se tm : Nat → Nat) (g : Nat → Int32) (s a : Nat) : upd (sg se tm g) (9 * s + 7) (nI a) = sg se (fun j => if j = s then a else tm j) g := by
  funext j
  unfold upd sg
  by_cases h : j = 9 * s + 7
  · subst h
    simp only [if_true, if_neg (show ¬ (9 * s + 7) % 9 = 5 by omega), if_pos (show (9 * s + 7) % 9 = 7 by omega), if_pos (show (9 * s + 7) / 9 = s by omega)]
  · rw [if_neg h]
    by_cases h5 : j % 9 = 5
    · rw [if_pos h5, if_pos h5]
    · rw [if_neg h5, if_neg h5]
      by_cases h7 : j % 9 = 7
      · rw [if_pos h7, if_pos h7]
        show nI (tm (j / 9)) = nI (if j / 9 = s then a else tm (j / 9))
        rw [if_neg (show ¬ j / 9 = s by omega)]
      · rw [if_neg h7, if_neg h7]
theorem up_le {d : Nat → Nat} {s a b : Nat} (h : ∀ j, d j ≤ b) (ha : a ≤ b) : ∀ j, (fun j => if j = s then a else d j) j ≤ b := by
  intro j
  show (if j = s then a else d j) ≤ b
  split
  · exact ha
  · exact h j

theorem f_m_takeSingle_rows : True := trivial
theorem dX8_takeSingle_0 : decode cX8_takeSingle 0 = .ok (.iload_n 1, 1) := by decide +kernel
theorem dX8_takeSingle_1 : decode cX8_takeSingle 1 = .ok (.ifCond .ne 22, 3) := by decide +kernel
theorem dX8_takeSingle_4 : decode cX8_takeSingle 4 = .ok (.aload_n 0, 1) := by decide +kernel
theorem dX8_takeSingle_5 : decode cX8_takeSingle 5 = .ok (.bipush 50, 2) := by decide +kernel
theorem dX8_takeSingle_7 : decode cX8_takeSingle 7 = .ok (.invokevirtual 190, 3) := by decide +kernel
theorem dX8_takeSingle_10 : decode cX8_takeSingle 10 = .ok (.istore_n 2, 1) := by decide +kernel
theorem dX8_takeSingle_11 : decode cX8_takeSingle 11 = .ok (.aload_n 0, 1) := by decide +kernel
theorem dX8_takeSingle_12 : decode cX8_takeSingle 12 = .ok (.getfield 35, 3) := by decide +kernel
theorem dX8_takeSingle_15 : decode cX8_takeSingle 15 = .ok (.iconst 0, 1) := by decide +kernel
theorem dX8_takeSingle_16 : decode cX8_takeSingle 16 = .ok (.aload_n 0, 1) := by decide +kernel
theorem dX8_takeSingle_17 : decode cX8_takeSingle 17 = .ok (.getfield 163, 3) := by decide +kernel
theorem dX8_takeSingle_20 : decode cX8_takeSingle 20 = .ok (.iastore, 1) := by decide +kernel
theorem dX8_takeSingle_21 : decode cX8_takeSingle 21 = .ok (.iload_n 2, 1) := by decide +kernel
theorem dX8_takeSingle_22 : decode cX8_takeSingle 22 = .ok (.ireturn, 1) := by decide +kernel
theorem dX8_takeSingle_23 : decode cX8_takeSingle 23 = .ok (.iload_n 1, 1) := by decide +kernel
theorem dX8_takeSingle_24 : decode cX8_takeSingle 24 = .ok (.iconst 4, 1) := by decide +kernel
theorem dX8_takeSingle_25 : decode cX8_takeSingle 25 = .ok (.if_icmp .ne 9, 3) := by decide +kernel
theorem dX8_takeSingle_28 : decode cX8_takeSingle 28 = .ok (.sipush 200, 3) := by decide +kernel
theorem dX8_takeSingle_31 : decode cX8_takeSingle 31 = .ok (.goto 37, 3) := by decide +kernel
theorem dX8_takeSingle_34 : decode cX8_takeSingle 34 = .ok (.iload_n 1, 1) := by decide +kernel
theorem dX8_takeSingle_35 : decode cX8_takeSingle 35 = .ok (.iconst 5, 1) := by decide +kernel
theorem dX8_takeSingle_36 : decode cX8_takeSingle 36 = .ok (.if_icmp .ne 7, 3) := by decide +kernel
theorem dX8_takeSingle_39 : decode cX8_takeSingle 39 = .ok (.iconst 2, 1) := by decide +kernel
theorem dX8_takeSingle_40 : decode cX8_takeSingle 40 = .ok (.goto 28, 3) := by decide +kernel
theorem dX8_takeSingle_43 : decode cX8_takeSingle 43 = .ok (.iload_n 1, 1) := by decide +kernel
theorem dX8_takeSingle_44 : decode cX8_takeSingle 44 = .ok (.bipush 6, 2) := by decide +kernel
theorem dX8_takeSingle_46 : decode cX8_takeSingle 46 = .ok (.if_icmp .ne 8, 3) := by decide +kernel
theorem dX8_takeSingle_49 : decode cX8_takeSingle 49 = .ok (.bipush 60, 2) := by decide +kernel
theorem dX8_takeSingle_51 : decode cX8_takeSingle 51 = .ok (.goto 17, 3) := by decide +kernel
theorem dX8_takeSingle_54 : decode cX8_takeSingle 54 = .ok (.iload_n 1, 1) := by decide +kernel
theorem dX8_takeSingle_55 : decode cX8_takeSingle 55 = .ok (.bipush 8, 2) := by decide +kernel
theorem dX8_takeSingle_57 : decode cX8_takeSingle 57 = .ok (.if_icmp .ne 9, 3) := by decide +kernel
theorem dX8_takeSingle_60 : decode cX8_takeSingle 60 = .ok (.sipush 999, 3) := by decide +kernel
theorem dX8_takeSingle_63 : decode cX8_takeSingle 63 = .ok (.goto 5, 3) := by decide +kernel
theorem dX8_takeSingle_66 : decode cX8_takeSingle 66 = .ok (.bipush 99, 2) := by decide +kernel
theorem dX8_takeSingle_68 : decode cX8_takeSingle 68 = .ok (.istore_n 2, 1) := by decide +kernel
theorem dX8_takeSingle_69 : decode cX8_takeSingle 69 = .ok (.aload_n 0, 1) := by decide +kernel
theorem dX8_takeSingle_70 : decode cX8_takeSingle 70 = .ok (.iconst 0, 1) := by decide +kernel
theorem dX8_takeSingle_71 : decode cX8_takeSingle 71 = .ok (.iload_n 2, 1) := by decide +kernel
theorem dX8_takeSingle_72 : decode cX8_takeSingle 72 = .ok (.invokevirtual 183, 3) := by decide +kernel
theorem dX8_takeSingle_75 : decode cX8_takeSingle 75 = .ok (.istore_n 3, 1) := by decide +kernel
theorem dX8_takeSingle_76 : decode cX8_takeSingle 76 = .ok (.aload_n 0, 1) := by decide +kernel
theorem dX8_takeSingle_77 : decode cX8_takeSingle 77 = .ok (.getfield 35, 3) := by decide +kernel
theorem dX8_takeSingle_80 : decode cX8_takeSingle 80 = .ok (.iload_n 1, 1) := by decide +kernel
theorem dX8_takeSingle_81 : decode cX8_takeSingle 81 = .ok (.aload_n 0, 1) := by decide +kernel
theorem dX8_takeSingle_82 : decode cX8_takeSingle 82 = .ok (.getfield 163, 3) := by decide +kernel
theorem dX8_takeSingle_85 : decode cX8_takeSingle 85 = .ok (.iastore, 1) := by decide +kernel
theorem dX8_takeSingle_86 : decode cX8_takeSingle 86 = .ok (.iload_n 3, 1) := by decide +kernel
theorem dX8_takeSingle_87 : decode cX8_takeSingle 87 = .ok (.ifCond .gt 9, 3) := by decide +kernel
theorem dX8_takeSingle_90 : decode cX8_takeSingle 90 = .ok (.iload_n 1, 1) := by decide +kernel
theorem dX8_takeSingle_91 : decode cX8_takeSingle 91 = .ok (.bipush 6, 2) := by decide +kernel
theorem dX8_takeSingle_93 : decode cX8_takeSingle 93 = .ok (.if_icmp .eq 5, 3) := by decide +kernel
theorem dX8_takeSingle_96 : decode cX8_takeSingle 96 = .ok (.iload_n 3, 1) := by decide +kernel
theorem dX8_takeSingle_97 : decode cX8_takeSingle 97 = .ok (.ireturn, 1) := by decide +kernel
theorem dX8_takeSingle_98 : decode cX8_takeSingle 98 = .ok (.aload_n 0, 1) := by decide +kernel
theorem dX8_takeSingle_99 : decode cX8_takeSingle 99 = .ok (.bipush 116, 2) := by decide +kernel
theorem dX8_takeSingle_101 : decode cX8_takeSingle 101 = .ok (.bipush 105, 2) := by decide +kernel
theorem dX8_takeSingle_103 : decode cX8_takeSingle 103 = .ok (.bipush 109, 2) := by decide +kernel
theorem dX8_takeSingle_105 : decode cX8_takeSingle 105 = .ok (.invokestatic 148, 3) := by decide +kernel
theorem dX8_takeSingle_108 : decode cX8_takeSingle 108 = .ok (.bipush 101, 2) := by decide +kernel
theorem dX8_takeSingle_110 : decode cX8_takeSingle 110 = .ok (.bipush 115, 2) := by decide +kernel
theorem dX8_takeSingle_112 : decode cX8_takeSingle 112 = .ok (.invokestatic 152, 3) := by decide +kernel
theorem dX8_takeSingle_115 : decode cX8_takeSingle 115 = .ok (.invokevirtual 186, 3) := by decide +kernel
theorem dX8_takeSingle_118 : decode cX8_takeSingle 118 = .ok (.istore_n 3, 1) := by decide +kernel
theorem dX8_takeSingle_119 : decode cX8_takeSingle 119 = .ok (.iload_n 3, 1) := by decide +kernel
theorem dX8_takeSingle_120 : decode cX8_takeSingle 120 = .ok (.ifCond .le 7, 3) := by decide +kernel
theorem dX8_takeSingle_123 : decode cX8_takeSingle 123 = .ok (.iload_n 3, 1) := by decide +kernel
theorem dX8_takeSingle_124 : decode cX8_takeSingle 124 = .ok (.goto 9, 3) := by decide +kernel
theorem dX8_takeSingle_127 : decode cX8_takeSingle 127 = .ok (.aload_n 0, 1) := by decide +kernel
theorem dX8_takeSingle_128 : decode cX8_takeSingle 128 = .ok (.iconst 0, 1) := by decide +kernel
theorem dX8_takeSingle_129 : decode cX8_takeSingle 129 = .ok (.iconst 3, 1) := by decide +kernel
theorem dX8_takeSingle_130 : decode cX8_takeSingle 130 = .ok (.invokevirtual 183, 3) := by decide +kernel
theorem dX8_takeSingle_133 : decode cX8_takeSingle 133 = .ok (.istore_n 3, 1) := by decide +kernel
theorem dX8_takeSingle_134 : decode cX8_takeSingle 134 = .ok (.aload_n 0, 1) := by decide +kernel
theorem dX8_takeSingle_135 : decode cX8_takeSingle 135 = .ok (.getfield 35, 3) := by decide +kernel
theorem dX8_takeSingle_138 : decode cX8_takeSingle 138 = .ok (.bipush 7, 2) := by decide +kernel
theorem dX8_takeSingle_140 : decode cX8_takeSingle 140 = .ok (.aload_n 0, 1) := by decide +kernel
theorem dX8_takeSingle_141 : decode cX8_takeSingle 141 = .ok (.getfield 163, 3) := by decide +kernel
theorem dX8_takeSingle_144 : decode cX8_takeSingle 144 = .ok (.iastore, 1) := by decide +kernel
theorem dX8_takeSingle_145 : decode cX8_takeSingle 145 = .ok (.iload_n 3, 1) := by decide +kernel
theorem dX8_takeSingle_146 : decode cX8_takeSingle 146 = .ok (.ireturn, 1) := by decide +kernel
theorem f_m_takeClause_rows : True := trivial
theorem dX8_takeClause_0 : decode cX8_takeClause 0 = .ok (.aload_n 0, 1) := by decide +kernel
theorem dX8_takeClause_1 : decode cX8_takeClause 1 = .ok (.invokevirtual 156, 3) := by decide +kernel
theorem dX8_takeClause_4 : decode cX8_takeClause 4 = .ok (.aload_n 0, 1) := by decide +kernel
theorem dX8_takeClause_5 : decode cX8_takeClause 5 = .ok (.invokevirtual 194, 3) := by decide +kernel
theorem dX8_takeClause_8 : decode cX8_takeClause 8 = .ok (.istore_n 1, 1) := by decide +kernel
theorem dX8_takeClause_9 : decode cX8_takeClause 9 = .ok (.iload_n 1, 1) := by decide +kernel
theorem dX8_takeClause_10 : decode cX8_takeClause 10 = .ok (.ifCond .lt 25, 3) := by decide +kernel
theorem dX8_takeClause_13 : decode cX8_takeClause 13 = .ok (.iload_n 1, 1) := by decide +kernel
theorem dX8_takeClause_14 : decode cX8_takeClause 14 = .ok (.bipush 9, 2) := by decide +kernel
theorem dX8_takeClause_16 : decode cX8_takeClause 16 = .ok (.if_icmp .ge 19, 3) := by decide +kernel
theorem dX8_takeClause_19 : decode cX8_takeClause 19 = .ok (.aload_n 0, 1) := by decide +kernel
theorem dX8_takeClause_20 : decode cX8_takeClause 20 = .ok (.getfield 180, 3) := by decide +kernel
theorem dX8_takeClause_23 : decode cX8_takeClause 23 = .ok (.iload_n 1, 1) := by decide +kernel
theorem dX8_takeClause_24 : decode cX8_takeClause 24 = .ok (.ishr, 1) := by decide +kernel
theorem dX8_takeClause_25 : decode cX8_takeClause 25 = .ok (.iconst 1, 1) := by decide +kernel
theorem dX8_takeClause_26 : decode cX8_takeClause 26 = .ok (.iand, 1) := by decide +kernel
theorem dX8_takeClause_27 : decode cX8_takeClause 27 = .ok (.iconst 1, 1) := by decide +kernel
theorem dX8_takeClause_28 : decode cX8_takeClause 28 = .ok (.if_icmp .ne 7, 3) := by decide +kernel
theorem dX8_takeClause_31 : decode cX8_takeClause 31 = .ok (.iconst 1, 1) := by decide +kernel
theorem dX8_takeClause_32 : decode cX8_takeClause 32 = .ok (.goto 4, 3) := by decide +kernel
theorem dX8_takeClause_35 : decode cX8_takeClause 35 = .ok (.iconst 0, 1) := by decide +kernel
theorem dX8_takeClause_36 : decode cX8_takeClause 36 = .ok (.istore_n 2, 1) := by decide +kernel
theorem dX8_takeClause_37 : decode cX8_takeClause 37 = .ok (.iload_n 1, 1) := by decide +kernel
theorem dX8_takeClause_38 : decode cX8_takeClause 38 = .ok (.ifCond .lt 7, 3) := by decide +kernel
theorem dX8_takeClause_41 : decode cX8_takeClause 41 = .ok (.iload_n 2, 1) := by decide +kernel
theorem dX8_takeClause_42 : decode cX8_takeClause 42 = .ok (.ifCond .eq 21, 3) := by decide +kernel
theorem dX8_takeClause_45 : decode cX8_takeClause 45 = .ok (.aload_n 0, 1) := by decide +kernel
theorem dX8_takeClause_46 : decode cX8_takeClause 46 = .ok (.iload_n 1, 1) := by decide +kernel
theorem dX8_takeClause_47 : decode cX8_takeClause 47 = .ok (.ifCond .ge 7, 3) := by decide +kernel
theorem dX8_takeClause_50 : decode cX8_takeClause 50 = .ok (.iconst 1, 1) := by decide +kernel
theorem dX8_takeClause_51 : decode cX8_takeClause 51 = .ok (.goto 4, 3) := by decide +kernel
theorem dX8_takeClause_54 : decode cX8_takeClause 54 = .ok (.iconst 3, 1) := by decide +kernel
theorem dX8_takeClause_55 : decode cX8_takeClause 55 = .ok (.aload_n 0, 1) := by decide +kernel
theorem dX8_takeClause_56 : decode cX8_takeClause 56 = .ok (.getfield 118, 3) := by decide +kernel
theorem dX8_takeClause_59 : decode cX8_takeClause 59 = .ok (.invokevirtual 159, 3) := by decide +kernel
theorem dX8_takeClause_62 : decode cX8_takeClause 62 = .ok (.ireturn, 1) := by decide +kernel
theorem dX8_takeClause_63 : decode cX8_takeClause 63 = .ok (.aload_n 0, 1) := by decide +kernel
theorem dX8_takeClause_64 : decode cX8_takeClause 64 = .ok (.dup, 1) := by decide +kernel
theorem dX8_takeClause_65 : decode cX8_takeClause 65 = .ok (.getfield 180, 3) := by decide +kernel
theorem dX8_takeClause_68 : decode cX8_takeClause 68 = .ok (.iconst 1, 1) := by decide +kernel
theorem dX8_takeClause_69 : decode cX8_takeClause 69 = .ok (.iload_n 1, 1) := by decide +kernel
theorem dX8_takeClause_70 : decode cX8_takeClause 70 = .ok (.ishl, 1) := by decide +kernel
theorem dX8_takeClause_71 : decode cX8_takeClause 71 = .ok (.ior, 1) := by decide +kernel
theorem dX8_takeClause_72 : decode cX8_takeClause 72 = .ok (.putfield 180, 3) := by decide +kernel
theorem dX8_takeClause_75 : decode cX8_takeClause 75 = .ok (.aload_n 0, 1) := by decide +kernel
theorem dX8_takeClause_76 : decode cX8_takeClause 76 = .ok (.aload_n 0, 1) := by decide +kernel
theorem dX8_takeClause_77 : decode cX8_takeClause 77 = .ok (.getfield 129, 3) := by decide +kernel
theorem dX8_takeClause_80 : decode cX8_takeClause 80 = .ok (.putfield 118, 3) := by decide +kernel
theorem dX8_takeClause_83 : decode cX8_takeClause 83 = .ok (.iload_n 1, 1) := by decide +kernel
theorem dX8_takeClause_84 : decode cX8_takeClause 84 = .ok (.bipush 9, 2) := by decide +kernel
theorem dX8_takeClause_86 : decode cX8_takeClause 86 = .ok (.if_icmp .ne 10, 3) := by decide +kernel
theorem dX8_takeClause_89 : decode cX8_takeClause 89 = .ok (.aload_n 0, 1) := by decide +kernel
theorem dX8_takeClause_90 : decode cX8_takeClause 90 = .ok (.invokevirtual 197, 3) := by decide +kernel
theorem dX8_takeClause_93 : decode cX8_takeClause 93 = .ok (.goto 8, 3) := by decide +kernel
theorem dX8_takeClause_96 : decode cX8_takeClause 96 = .ok (.aload_n 0, 1) := by decide +kernel
theorem dX8_takeClause_97 : decode cX8_takeClause 97 = .ok (.iload_n 1, 1) := by decide +kernel
theorem dX8_takeClause_98 : decode cX8_takeClause 98 = .ok (.invokevirtual 200, 3) := by decide +kernel
theorem dX8_takeClause_101 : decode cX8_takeClause 101 = .ok (.istore_n 3, 1) := by decide +kernel
theorem dX8_takeClause_102 : decode cX8_takeClause 102 = .ok (.iload_n 3, 1) := by decide +kernel
theorem dX8_takeClause_103 : decode cX8_takeClause 103 = .ok (.ifCond .le 5, 3) := by decide +kernel
theorem dX8_takeClause_106 : decode cX8_takeClause 106 = .ok (.iload_n 3, 1) := by decide +kernel
theorem dX8_takeClause_107 : decode cX8_takeClause 107 = .ok (.ireturn, 1) := by decide +kernel
theorem dX8_takeClause_108 : decode cX8_takeClause 108 = .ok (.aload_n 0, 1) := by decide +kernel
theorem dX8_takeClause_109 : decode cX8_takeClause 109 = .ok (.invokevirtual 121, 3) := by decide +kernel
theorem dX8_takeClause_112 : decode cX8_takeClause 112 = .ok (.bipush 59, 2) := by decide +kernel
theorem dX8_takeClause_114 : decode cX8_takeClause 114 = .ok (.if_icmp .eq 13, 3) := by decide +kernel
theorem dX8_takeClause_117 : decode cX8_takeClause 117 = .ok (.aload_n 0, 1) := by decide +kernel
theorem dX8_takeClause_118 : decode cX8_takeClause 118 = .ok (.iconst 1, 1) := by decide +kernel
theorem dX8_takeClause_119 : decode cX8_takeClause 119 = .ok (.aload_n 0, 1) := by decide +kernel
theorem dX8_takeClause_120 : decode cX8_takeClause 120 = .ok (.getfield 118, 3) := by decide +kernel
theorem dX8_takeClause_123 : decode cX8_takeClause 123 = .ok (.invokevirtual 159, 3) := by decide +kernel
theorem dX8_takeClause_126 : decode cX8_takeClause 126 = .ok (.ireturn, 1) := by decide +kernel
theorem dX8_takeClause_127 : decode cX8_takeClause 127 = .ok (.aload_n 0, 1) := by decide +kernel
theorem dX8_takeClause_128 : decode cX8_takeClause 128 = .ok (.dup, 1) := by decide +kernel
theorem dX8_takeClause_129 : decode cX8_takeClause 129 = .ok (.getfield 118, 3) := by decide +kernel
theorem dX8_takeClause_132 : decode cX8_takeClause 132 = .ok (.iconst 1, 1) := by decide +kernel
theorem dX8_takeClause_133 : decode cX8_takeClause 133 = .ok (.iadd, 1) := by decide +kernel
theorem dX8_takeClause_134 : decode cX8_takeClause 134 = .ok (.putfield 118, 3) := by decide +kernel
theorem dX8_takeClause_137 : decode cX8_takeClause 137 = .ok (.iconst 0, 1) := by decide +kernel
theorem dX8_takeClause_138 : decode cX8_takeClause 138 = .ok (.ireturn, 1) := by decide +kernel
theorem tw_26 : Cond.selects RX8 yX8_bare yX8_bare ∈ LW := LWm (i := 26) (by decide +kernel) rfl
theorem tw_28 : Cond.selects RX8 yX8_takeClause yX8_takeClause ∈ LW := LWm (i := 28) (by decide +kernel) rfl
theorem tw_969 : Cond.methodLink RX8 102 yX8_bare ∈ LW := LWm4 (i := 171) (by decide +kernel) rfl
theorem tw_971 : Cond.instanceMethod yX8_bare ∈ LW := LWm4 (i := 173) (by decide +kernel) rfl
set_option maxRecDepth 100000 in theorem tw_972 : Cond.code yX8_bare cX8_bare 1 none ∈ LW := LWm4 (i := 174) rfl rfl
theorem tw_1124 : Cond.methodLink RX8 203 yX8_takeClause ∈ LW := LWm5 (i := 86) (by decide +kernel) rfl
theorem tw_1126 : Cond.instanceMethod yX8_takeClause ∈ LW := LWm5 (i := 88) (by decide +kernel) rfl
set_option maxRecDepth 100000 in theorem tw_1127 : Cond.code yX8_takeClause cX8_takeClause 4 (some .int) ∈ LW := LWm5 (i := 89) rfl rfl
theorem f_m_street_rows : True := trivial
theorem dX8_street_0 : decode cX8_street 0 = .ok (.iload_n 1, 1) := by decide +kernel
theorem dX8_street_1 : decode cX8_street 1 = .ok (.i2l, 1) := by decide +kernel
theorem dX8_street_2 : decode cX8_street 2 = .ok (.lconst 0, 1) := by decide +kernel
theorem dX8_street_3 : decode cX8_street 3 = .ok (.ldc2_w 105, 3) := by decide +kernel
theorem dX8_street_6 : decode cX8_street 6 = .ok (.invokestatic 107, 3) := by decide +kernel
theorem dX8_street_9 : decode cX8_street 9 = .ok (.ifCond .ne 7, 3) := by decide +kernel
theorem dX8_street_12 : decode cX8_street 12 = .ok (.sipush (-1001), 3) := by decide +kernel
theorem dX8_street_15 : decode cX8_street 15 = .ok (.ireturn, 1) := by decide +kernel
theorem dX8_street_16 : decode cX8_street 16 = .ok (.aload_n 0, 1) := by decide +kernel
theorem dX8_street_17 : decode cX8_street 17 = .ok (.iconst (-1), 1) := by decide +kernel
theorem dX8_street_18 : decode cX8_street 18 = .ok (.putfield 25, 3) := by decide +kernel
theorem dX8_street_21 : decode cX8_street 21 = .ok (.aload_n 0, 1) := by decide +kernel
theorem dX8_street_22 : decode cX8_street 22 = .ok (.iconst 0, 1) := by decide +kernel
theorem dX8_street_23 : decode cX8_street 23 = .ok (.putfield 118, 3) := by decide +kernel
theorem dX8_street_26 : decode cX8_street 26 = .ok (.aload_n 0, 1) := by decide +kernel
theorem dX8_street_27 : decode cX8_street 27 = .ok (.invokevirtual 102, 3) := by decide +kernel
theorem dX8_street_30 : decode cX8_street 30 = .ok (.iconst 0, 1) := by decide +kernel
theorem dX8_street_31 : decode cX8_street 31 = .ok (.istore_n 2, 1) := by decide +kernel
theorem dX8_street_32 : decode cX8_street 32 = .ok (.iload_n 2, 1) := by decide +kernel
theorem dX8_street_33 : decode cX8_street 33 = .ok (.ifCond .ne 18, 3) := by decide +kernel
theorem dX8_street_36 : decode cX8_street 36 = .ok (.aload_n 0, 1) := by decide +kernel
theorem dX8_street_37 : decode cX8_street 37 = .ok (.invokevirtual 121, 3) := by decide +kernel
theorem dX8_street_40 : decode cX8_street 40 = .ok (.ifCond .lt 11, 3) := by decide +kernel
theorem dX8_street_43 : decode cX8_street 43 = .ok (.aload_n 0, 1) := by decide +kernel
theorem dX8_street_44 : decode cX8_street 44 = .ok (.invokevirtual 203, 3) := by decide +kernel
theorem dX8_street_47 : decode cX8_street 47 = .ok (.istore_n 2, 1) := by decide +kernel
theorem dX8_street_48 : decode cX8_street 48 = .ok (.goto (-16), 3) := by decide +kernel
theorem dX8_street_51 : decode cX8_street 51 = .ok (.iload_n 2, 1) := by decide +kernel
theorem dX8_street_52 : decode cX8_street 52 = .ok (.ifCond .ne 22, 3) := by decide +kernel
theorem dX8_street_55 : decode cX8_street 55 = .ok (.aload_n 0, 1) := by decide +kernel
theorem dX8_street_56 : decode cX8_street 56 = .ok (.getfield 177, 3) := by decide +kernel
theorem dX8_street_59 : decode cX8_street 59 = .ok (.ifCond .ne 15, 3) := by decide +kernel
theorem dX8_street_62 : decode cX8_street 62 = .ok (.aload_n 0, 1) := by decide +kernel
theorem dX8_street_63 : decode cX8_street 63 = .ok (.iconst 1, 1) := by decide +kernel
theorem dX8_street_64 : decode cX8_street 64 = .ok (.aload_n 0, 1) := by decide +kernel
theorem dX8_street_65 : decode cX8_street 65 = .ok (.getfield 113, 3) := by decide +kernel
theorem dX8_street_68 : decode cX8_street 68 = .ok (.invokevirtual 159, 3) := by decide +kernel
theorem dX8_street_71 : decode cX8_street 71 = .ok (.goto 4, 3) := by decide +kernel
theorem dX8_street_74 : decode cX8_street 74 = .ok (.iload_n 2, 1) := by decide +kernel
theorem dX8_street_75 : decode cX8_street 75 = .ok (.istore_n 2, 1) := by decide +kernel
theorem dX8_street_76 : decode cX8_street 76 = .ok (.aload_n 0, 1) := by decide +kernel
theorem dX8_street_77 : decode cX8_street 77 = .ok (.iconst 0, 1) := by decide +kernel
theorem dX8_street_78 : decode cX8_street 78 = .ok (.putfield 113, 3) := by decide +kernel
theorem dX8_street_81 : decode cX8_street 81 = .ok (.iload_n 2, 1) := by decide +kernel
theorem dX8_street_82 : decode cX8_street 82 = .ok (.ifCond .le 8, 3) := by decide +kernel
theorem dX8_street_85 : decode cX8_street 85 = .ok (.bipush (-10), 2) := by decide +kernel
theorem dX8_street_87 : decode cX8_street 87 = .ok (.iload_n 2, 1) := by decide +kernel
theorem dX8_street_88 : decode cX8_street 88 = .ok (.isub, 1) := by decide +kernel
theorem dX8_street_89 : decode cX8_street 89 = .ok (.ireturn, 1) := by decide +kernel
theorem dX8_street_90 : decode cX8_street 90 = .ok (.aload_n 0, 1) := by decide +kernel
theorem dX8_street_91 : decode cX8_street 91 = .ok (.getfield 7, 3) := by decide +kernel
theorem dX8_street_94 : decode cX8_street 94 = .ok (.iload_n 1, 1) := by decide +kernel
theorem dX8_street_95 : decode cX8_street 95 = .ok (.aload_n 0, 1) := by decide +kernel
theorem dX8_street_96 : decode cX8_street 96 = .ok (.getfield 177, 3) := by decide +kernel
theorem dX8_street_99 : decode cX8_street 99 = .ok (.iastore, 1) := by decide +kernel
theorem dX8_street_100 : decode cX8_street 100 = .ok (.iconst 0, 1) := by decide +kernel
theorem dX8_street_101 : decode cX8_street 101 = .ok (.istore_n 3, 1) := by decide +kernel
theorem dX8_street_102 : decode cX8_street 102 = .ok (.iload_n 3, 1) := by decide +kernel
theorem dX8_street_103 : decode cX8_street 103 = .ok (.aload_n 0, 1) := by decide +kernel
theorem dX8_street_104 : decode cX8_street 104 = .ok (.getfield 177, 3) := by decide +kernel
theorem dX8_street_107 : decode cX8_street 107 = .ok (.if_icmp .ge 43, 3) := by decide +kernel
theorem dX8_street_110 : decode cX8_street 110 = .ok (.aload_n 0, 1) := by decide +kernel
theorem dX8_street_111 : decode cX8_street 111 = .ok (.getfield 13, 3) := by decide +kernel
theorem dX8_street_114 : decode cX8_street 114 = .ok (.bipush 24, 2) := by decide +kernel
theorem dX8_street_116 : decode cX8_street 116 = .ok (.iload_n 1, 1) := by decide +kernel
theorem dX8_street_117 : decode cX8_street 117 = .ok (.imul, 1) := by decide +kernel
theorem dX8_street_118 : decode cX8_street 118 = .ok (.iload_n 3, 1) := by decide +kernel
theorem dX8_street_119 : decode cX8_street 119 = .ok (.iadd, 1) := by decide +kernel
theorem dX8_street_120 : decode cX8_street 120 = .ok (.aload_n 0, 1) := by decide +kernel
theorem dX8_street_121 : decode cX8_street 121 = .ok (.getfield 29, 3) := by decide +kernel
theorem dX8_street_124 : decode cX8_street 124 = .ok (.iload_n 3, 1) := by decide +kernel
theorem dX8_street_125 : decode cX8_street 125 = .ok (.iaload, 1) := by decide +kernel
theorem dX8_street_126 : decode cX8_street 126 = .ok (.iastore, 1) := by decide +kernel
theorem dX8_street_127 : decode cX8_street 127 = .ok (.aload_n 0, 1) := by decide +kernel
theorem dX8_street_128 : decode cX8_street 128 = .ok (.getfield 16, 3) := by decide +kernel
theorem dX8_street_131 : decode cX8_street 131 = .ok (.bipush 24, 2) := by decide +kernel
theorem dX8_street_133 : decode cX8_street 133 = .ok (.iload_n 1, 1) := by decide +kernel
theorem dX8_street_134 : decode cX8_street 134 = .ok (.imul, 1) := by decide +kernel
theorem dX8_street_135 : decode cX8_street 135 = .ok (.iload_n 3, 1) := by decide +kernel
theorem dX8_street_136 : decode cX8_street 136 = .ok (.iadd, 1) := by decide +kernel
theorem dX8_street_137 : decode cX8_street 137 = .ok (.aload_n 0, 1) := by decide +kernel
theorem dX8_street_138 : decode cX8_street 138 = .ok (.getfield 32, 3) := by decide +kernel
theorem dX8_street_141 : decode cX8_street 141 = .ok (.iload_n 3, 1) := by decide +kernel
theorem dX8_street_142 : decode cX8_street 142 = .ok (.iaload, 1) := by decide +kernel
theorem dX8_street_143 : decode cX8_street 143 = .ok (.iastore, 1) := by decide +kernel
theorem dX8_street_144 : decode cX8_street 144 = .ok (.iinc 3 1, 3) := by decide +kernel
theorem dX8_street_147 : decode cX8_street 147 = .ok (.goto (-45), 3) := by decide +kernel
theorem dX8_street_150 : decode cX8_street 150 = .ok (.iconst 0, 1) := by decide +kernel
theorem dX8_street_151 : decode cX8_street 151 = .ok (.istore_n 3, 1) := by decide +kernel
theorem dX8_street_152 : decode cX8_street 152 = .ok (.iload_n 3, 1) := by decide +kernel
theorem dX8_street_153 : decode cX8_street 153 = .ok (.bipush 9, 2) := by decide +kernel
theorem dX8_street_155 : decode cX8_street 155 = .ok (.if_icmp .ge 26, 3) := by decide +kernel
theorem dX8_street_158 : decode cX8_street 158 = .ok (.aload_n 0, 1) := by decide +kernel
theorem dX8_street_159 : decode cX8_street 159 = .ok (.getfield 19, 3) := by decide +kernel
theorem dX8_street_162 : decode cX8_street 162 = .ok (.bipush 9, 2) := by decide +kernel
theorem dX8_street_164 : decode cX8_street 164 = .ok (.iload_n 1, 1) := by decide +kernel
theorem dX8_street_165 : decode cX8_street 165 = .ok (.imul, 1) := by decide +kernel
theorem dX8_street_166 : decode cX8_street 166 = .ok (.iload_n 3, 1) := by decide +kernel
theorem dX8_street_167 : decode cX8_street 167 = .ok (.iadd, 1) := by decide +kernel
theorem dX8_street_168 : decode cX8_street 168 = .ok (.aload_n 0, 1) := by decide +kernel
theorem dX8_street_169 : decode cX8_street 169 = .ok (.getfield 35, 3) := by decide +kernel
theorem dX8_street_172 : decode cX8_street 172 = .ok (.iload_n 3, 1) := by decide +kernel
theorem dX8_street_173 : decode cX8_street 173 = .ok (.iaload, 1) := by decide +kernel
theorem dX8_street_174 : decode cX8_street 174 = .ok (.iastore, 1) := by decide +kernel
theorem dX8_street_175 : decode cX8_street 175 = .ok (.iinc 3 1, 3) := by decide +kernel
theorem dX8_street_178 : decode cX8_street 178 = .ok (.goto (-26), 3) := by decide +kernel
theorem dX8_street_181 : decode cX8_street 181 = .ok (.aload_n 0, 1) := by decide +kernel
theorem dX8_street_182 : decode cX8_street 182 = .ok (.getfield 177, 3) := by decide +kernel
theorem dX8_street_185 : decode cX8_street 185 = .ok (.ireturn, 1) := by decide +kernel
theorem tw_41 : Cond.selects RX8 yX8_chanceOf yX8_chanceOf ∈ LW := LWm (i := 41) (by decide +kernel) rfl
theorem tw_43 : Cond.selects RX8 yX8_takingOf yX8_takingOf ∈ LW := LWm (i := 43) (by decide +kernel) rfl
theorem tw_48 : Cond.selects RX8 yX8_seen yX8_seen ∈ LW := LWm (i := 48) (by decide +kernel) rfl
theorem tw_50 : Cond.selects RX8 yX8_findRound yX8_findRound ∈ LW := LWm (i := 50) (by decide +kernel) rfl
theorem tw_51 : Cond.selects RX8 yX8_garageOf yX8_garageOf ∈ LW := LWm (i := 51) (by decide +kernel) rfl
theorem tw_52 : Cond.selects RX8 yX8_on yX8_on ∈ LW := LWm (i := 52) (by decide +kernel) rfl
theorem tw_53 : Cond.selects RX8 yX8_startOf yX8_startOf ∈ LW := LWm (i := 53) (by decide +kernel) rfl
theorem tw_990 : Cond.fieldLink RX8 38 "LastPlaceModel" "ons" "[I" ∈ LW := LWm4 (i := 192) (by decide +kernel) rfl
theorem tw_991 : Cond.fieldLink RX8 41 "LastPlaceModel" "worths" "[I" ∈ LW := LWm4 (i := 193) (by decide +kernel) rfl
theorem tw_992 : Cond.fieldLink RX8 44 "LastPlaceModel" "starts" "[I" ∈ LW := LWm4 (i := 194) (by decide +kernel) rfl
theorem tw_993 : Cond.fieldLink RX8 47 "LastPlaceModel" "ends" "[I" ∈ LW := LWm4 (i := 195) (by decide +kernel) rfl
theorem tw_994 : Cond.fieldLink RX8 50 "LastPlaceModel" "goesRound" "[Z" ∈ LW := LWm4 (i := 196) (by decide +kernel) rfl
theorem tw_995 : Cond.fieldLink RX8 54 "LastPlaceModel" "begin" "[I" ∈ LW := LWm4 (i := 197) (by decide +kernel) rfl
theorem tw_1210 : Cond.methodLink RX8 219 yX8_chanceOf ∈ LW := LWm5 (i := 172) (by decide +kernel) rfl
theorem tw_1212 : Cond.instanceMethod yX8_chanceOf ∈ LW := LWm5 (i := 174) (by decide +kernel) rfl
set_option maxRecDepth 100000 in theorem tw_1213 : Cond.code yX8_chanceOf cX8_chanceOf 6 (some .int) ∈ LW := LWm5 (i := 175) rfl rfl
theorem tw_1222 : Cond.methodLink RX8 237 yX8_takingOf ∈ LW := LWm5 (i := 184) (by decide +kernel) rfl
theorem tw_1224 : Cond.instanceMethod yX8_takingOf ∈ LW := LWm5 (i := 186) (by decide +kernel) rfl
set_option maxRecDepth 100000 in theorem tw_1225 : Cond.code yX8_takingOf cX8_takingOf 4 (some .int) ∈ LW := LWm5 (i := 187) rfl rfl
theorem tw_1246 : Cond.methodLink RX8 251 yX8_seen ∈ LW := LWm5 (i := 208) (by decide +kernel) rfl
theorem tw_1248 : Cond.instanceMethod yX8_seen ∈ LW := LWm5 (i := 210) (by decide +kernel) rfl
set_option maxRecDepth 100000 in theorem tw_1249 : Cond.code yX8_seen cX8_seen 4 (some .int) ∈ LW := LWm5 (i := 211) rfl rfl
theorem tw_1254 : Cond.methodLink RX8 260 yX8_findRound ∈ LW := LWm5 (i := 216) (by decide +kernel) rfl
theorem tw_1256 : Cond.instanceMethod yX8_findRound ∈ LW := LWm5 (i := 218) (by decide +kernel) rfl
set_option maxRecDepth 100000 in theorem tw_1257 : Cond.code yX8_findRound cX8_findRound 10 none ∈ LW := LWm5 (i := 219) rfl rfl
theorem tw_1258 : Cond.methodLink RX8 248 yX8_garageOf ∈ LW := LWm5 (i := 220) (by decide +kernel) rfl
theorem tw_1260 : Cond.instanceMethod yX8_garageOf ∈ LW := LWm5 (i := 222) (by decide +kernel) rfl
set_option maxRecDepth 100000 in theorem tw_1261 : Cond.code yX8_garageOf cX8_garageOf 3 (some .int) ∈ LW := LWm5 (i := 223) rfl rfl
theorem tw_1262 : Cond.methodLink RX8 254 yX8_on ∈ LW := LWm5 (i := 224) (by decide +kernel) rfl
theorem tw_1264 : Cond.instanceMethod yX8_on ∈ LW := LWm5 (i := 226) (by decide +kernel) rfl
set_option maxRecDepth 100000 in theorem tw_1265 : Cond.code yX8_on cX8_on 9 (some .int) ∈ LW := LWm5 (i := 227) rfl rfl
theorem tw_1266 : Cond.methodLink RX8 242 yX8_at ∈ LW := LWm5 (i := 228) (by decide +kernel) rfl
theorem tw_1267 : Cond.static yX8_at ∈ LW := LWm5 (i := 229) (by decide +kernel) rfl
set_option maxRecDepth 100000 in theorem tw_1268 : Cond.code yX8_at cX8_at 3 (some .int) ∈ LW := LWm5 (i := 230) rfl rfl
theorem tw_1269 : Cond.methodLink RX8 245 yX8_mixed ∈ LW := LWm5 (i := 231) (by decide +kernel) rfl
theorem tw_1270 : Cond.static yX8_mixed ∈ LW := LWm5 (i := 232) (by decide +kernel) rfl
set_option maxRecDepth 100000 in theorem tw_1271 : Cond.code yX8_mixed cX8_mixed 3 (some .int) ∈ LW := LWm5 (i := 233) rfl rfl
theorem tw_1273 : Cond.methodLink RX8 257 yX8_startOf ∈ LW := LWm5 (i := 235) (by decide +kernel) rfl
theorem tw_1275 : Cond.instanceMethod yX8_startOf ∈ LW := LWm5 (i := 237) (by decide +kernel) rfl
set_option maxRecDepth 100000 in theorem tw_1276 : Cond.code yX8_startOf cX8_startOf 7 (some .int) ∈ LW := LWm5 (i := 238) rfl rfl
theorem m_glue7 : True := trivial
theorem shl1 : ∀ k, k < 31 → (1 : Int32) <<< (nI k &&& 31) = nI (2 ^ k) := by decide
theorem pw8 {k : Nat} (h : k ≤ 3) : 1 ≤ 2 ^ k ∧ 2 ^ k ≤ 8 := by
  rcases (show k = 0 ∨ k = 1 ∨ k = 2 ∨ k = 3 by omega) with rfl | rfl | rfl | rfl <;> decide
theorem pw4 {k : Nat} (h : k ≤ 2) : 1 ≤ 2 ^ k ∧ 2 ^ k ≤ 4 := by
  rcases (show k = 0 ∨ k = 1 ∨ k = 2 by omega) with rfl | rfl | rfl <;> decide
theorem pw24 {k : Nat} (h : k ≤ 24) : 1 ≤ 2 ^ k ∧ 2 ^ k ≤ 16777216 := by
  refine ⟨Nat.one_le_two_pow, ?_⟩
  exact Nat.pow_le_pow_right (by omega) h
theorem or8 : ∀ a, a < 8 → ∀ b, b < 8 → ∃ z : Nat, z < 8 ∧ nI a ||| nI b = nI z := by
  intro a ha b hb
  have h : ∀ a, a < 8 → ∀ b, b < 8 → nI a ||| nI b = nI (a ||| b) ∧ a ||| b < 8 := by decide
  exact ⟨a ||| b, (h a ha b hb).2, (h a ha b hb).1⟩

theorem f_m_on_rows : True := trivial
theorem dX8_on_0 : decode cX8_on 0 = .ok (.aload_n 0, 1) := by decide +kernel
theorem dX8_on_1 : decode cX8_on 1 = .ok (.iload_n 1, 1) := by decide +kernel
theorem dX8_on_2 : decode cX8_on 2 = .ok (.iconst 5, 1) := by decide +kernel
theorem dX8_on_3 : decode cX8_on 3 = .ok (.invokevirtual 212, 3) := by decide +kernel
theorem dX8_on_6 : decode cX8_on 6 = .ok (.istore 5, 2) := by decide +kernel
theorem dX8_on_8 : decode cX8_on 8 = .ok (.iload_n 3, 1) := by decide +kernel
theorem dX8_on_9 : decode cX8_on 9 = .ok (.iconst 1, 1) := by decide +kernel
theorem dX8_on_10 : decode cX8_on 10 = .ok (.iadd, 1) := by decide +kernel
theorem dX8_on_11 : decode cX8_on 11 = .ok (.iload 5, 2) := by decide +kernel
theorem dX8_on_13 : decode cX8_on 13 = .ok (.iadd, 1) := by decide +kernel
theorem dX8_on_14 : decode cX8_on 14 = .ok (.istore 6, 2) := by decide +kernel
theorem dX8_on_16 : decode cX8_on 16 = .ok (.iload 4, 2) := by decide +kernel
theorem dX8_on_18 : decode cX8_on 18 = .ok (.iconst 1, 1) := by decide +kernel
theorem dX8_on_19 : decode cX8_on 19 = .ok (.ishr, 1) := by decide +kernel
theorem dX8_on_20 : decode cX8_on 20 = .ok (.istore 7, 2) := by decide +kernel
theorem dX8_on_22 : decode cX8_on 22 = .ok (.iload 6, 2) := by decide +kernel
theorem dX8_on_24 : decode cX8_on 24 = .ok (.aload_n 0, 1) := by decide +kernel
theorem dX8_on_25 : decode cX8_on 25 = .ok (.getfield 7, 3) := by decide +kernel
theorem dX8_on_28 : decode cX8_on 28 = .ok (.iload_n 1, 1) := by decide +kernel
theorem dX8_on_29 : decode cX8_on 29 = .ok (.iaload, 1) := by decide +kernel
theorem dX8_on_30 : decode cX8_on 30 = .ok (.if_icmp .lt 18, 3) := by decide +kernel
theorem dX8_on_33 : decode cX8_on 33 = .ok (.aload_n 0, 1) := by decide +kernel
theorem dX8_on_34 : decode cX8_on 34 = .ok (.getfield 41, 3) := by decide +kernel
theorem dX8_on_37 : decode cX8_on 37 = .ok (.iload_n 2, 1) := by decide +kernel
theorem dX8_on_38 : decode cX8_on 38 = .ok (.iload_n 3, 1) := by decide +kernel
theorem dX8_on_39 : decode cX8_on 39 = .ok (.iconst 1, 1) := by decide +kernel
theorem dX8_on_40 : decode cX8_on 40 = .ok (.iadd, 1) := by decide +kernel
theorem dX8_on_41 : decode cX8_on 41 = .ok (.iload 7, 2) := by decide +kernel
theorem dX8_on_43 : decode cX8_on 43 = .ok (.invokestatic 242, 3) := by decide +kernel
theorem dX8_on_46 : decode cX8_on 46 = .ok (.iaload, 1) := by decide +kernel
theorem dX8_on_47 : decode cX8_on 47 = .ok (.ireturn, 1) := by decide +kernel
theorem dX8_on_48 : decode cX8_on 48 = .ok (.aload_n 0, 1) := by decide +kernel
theorem dX8_on_49 : decode cX8_on 49 = .ok (.iload_n 1, 1) := by decide +kernel
theorem dX8_on_50 : decode cX8_on 50 = .ok (.iload 6, 2) := by decide +kernel
theorem dX8_on_52 : decode cX8_on 52 = .ok (.iload 4, 2) := by decide +kernel
theorem dX8_on_54 : decode cX8_on 54 = .ok (.iload 5, 2) := by decide +kernel
theorem dX8_on_56 : decode cX8_on 56 = .ok (.ishr, 1) := by decide +kernel
theorem dX8_on_57 : decode cX8_on 57 = .ok (.iconst 1, 1) := by decide +kernel
theorem dX8_on_58 : decode cX8_on 58 = .ok (.iand, 1) := by decide +kernel
theorem dX8_on_59 : decode cX8_on 59 = .ok (.iconst 1, 1) := by decide +kernel
theorem dX8_on_60 : decode cX8_on 60 = .ok (.if_icmp .ne 7, 3) := by decide +kernel
theorem dX8_on_63 : decode cX8_on 63 = .ok (.iconst 1, 1) := by decide +kernel
theorem dX8_on_64 : decode cX8_on 64 = .ok (.goto 4, 3) := by decide +kernel
theorem dX8_on_67 : decode cX8_on 67 = .ok (.iconst 0, 1) := by decide +kernel
theorem dX8_on_68 : decode cX8_on 68 = .ok (.invokevirtual 219, 3) := by decide +kernel
theorem dX8_on_71 : decode cX8_on 71 = .ok (.istore 8, 2) := by decide +kernel
theorem dX8_on_73 : decode cX8_on 73 = .ok (.iload 8, 2) := by decide +kernel
theorem dX8_on_75 : decode cX8_on 75 = .ok (.aload_n 0, 1) := by decide +kernel
theorem dX8_on_76 : decode cX8_on 76 = .ok (.getfield 41, 3) := by decide +kernel
theorem dX8_on_79 : decode cX8_on 79 = .ok (.iload_n 2, 1) := by decide +kernel
theorem dX8_on_80 : decode cX8_on 80 = .ok (.iload_n 3, 1) := by decide +kernel
theorem dX8_on_81 : decode cX8_on 81 = .ok (.iconst 1, 1) := by decide +kernel
theorem dX8_on_82 : decode cX8_on 82 = .ok (.iadd, 1) := by decide +kernel
theorem dX8_on_83 : decode cX8_on 83 = .ok (.iload 7, 2) := by decide +kernel
theorem dX8_on_85 : decode cX8_on 85 = .ok (.iconst 1, 1) := by decide +kernel
theorem dX8_on_86 : decode cX8_on 86 = .ok (.iload 5, 2) := by decide +kernel
theorem dX8_on_88 : decode cX8_on 88 = .ok (.ishl, 1) := by decide +kernel
theorem dX8_on_89 : decode cX8_on 89 = .ok (.ior, 1) := by decide +kernel
theorem dX8_on_90 : decode cX8_on 90 = .ok (.invokestatic 242, 3) := by decide +kernel
theorem dX8_on_93 : decode cX8_on 93 = .ok (.iaload, 1) := by decide +kernel
theorem dX8_on_94 : decode cX8_on 94 = .ok (.aload_n 0, 1) := by decide +kernel
theorem dX8_on_95 : decode cX8_on 95 = .ok (.getfield 41, 3) := by decide +kernel
theorem dX8_on_98 : decode cX8_on 98 = .ok (.iload_n 2, 1) := by decide +kernel
theorem dX8_on_99 : decode cX8_on 99 = .ok (.iload_n 3, 1) := by decide +kernel
theorem dX8_on_100 : decode cX8_on 100 = .ok (.iconst 1, 1) := by decide +kernel
theorem dX8_on_101 : decode cX8_on 101 = .ok (.iadd, 1) := by decide +kernel
theorem dX8_on_102 : decode cX8_on 102 = .ok (.iload 7, 2) := by decide +kernel
theorem dX8_on_104 : decode cX8_on 104 = .ok (.invokestatic 242, 3) := by decide +kernel
theorem dX8_on_107 : decode cX8_on 107 = .ok (.iaload, 1) := by decide +kernel
theorem dX8_on_108 : decode cX8_on 108 = .ok (.invokestatic 245, 3) := by decide +kernel
theorem dX8_on_111 : decode cX8_on 111 = .ok (.ireturn, 1) := by decide +kernel
theorem f_m_isSight_rows : True := trivial
theorem dX8_isSight_0 : decode cX8_isSight 0 = .ok (.iload_n 3, 1) := by decide +kernel
theorem dX8_isSight_1 : decode cX8_isSight 1 = .ok (.i2l, 1) := by decide +kernel
theorem dX8_isSight_2 : decode cX8_isSight 2 = .ok (.lconst 0, 1) := by decide +kernel
theorem dX8_isSight_3 : decode cX8_isSight 3 = .ok (.iconst 1, 1) := by decide +kernel
theorem dX8_isSight_4 : decode cX8_isSight 4 = .ok (.aload_n 0, 1) := by decide +kernel
theorem dX8_isSight_5 : decode cX8_isSight 5 = .ok (.iload_n 1, 1) := by decide +kernel
theorem dX8_isSight_6 : decode cX8_isSight 6 = .ok (.iload_n 2, 1) := by decide +kernel
theorem dX8_isSight_7 : decode cX8_isSight 7 = .ok (.invokevirtual 251, 3) := by decide +kernel
theorem dX8_isSight_10 : decode cX8_isSight 10 = .ok (.ishl, 1) := by decide +kernel
theorem dX8_isSight_11 : decode cX8_isSight 11 = .ok (.iconst 1, 1) := by decide +kernel
theorem dX8_isSight_12 : decode cX8_isSight 12 = .ok (.isub, 1) := by decide +kernel
theorem dX8_isSight_13 : decode cX8_isSight 13 = .ok (.i2l, 1) := by decide +kernel
theorem dX8_isSight_14 : decode cX8_isSight 14 = .ok (.invokestatic 107, 3) := by decide +kernel
theorem dX8_isSight_17 : decode cX8_isSight 17 = .ok (.ireturn, 1) := by decide +kernel
theorem f_m_isTaking_rows : True := trivial
theorem dX8_isTaking_0 : decode cX8_isTaking 0 = .ok (.iload 4, 2) := by decide +kernel
theorem dX8_isTaking_2 : decode cX8_isTaking 2 = .ok (.iconst 1, 1) := by decide +kernel
theorem dX8_isTaking_3 : decode cX8_isTaking 3 = .ok (.iand, 1) := by decide +kernel
theorem dX8_isTaking_4 : decode cX8_isTaking 4 = .ok (.iconst 1, 1) := by decide +kernel
theorem dX8_isTaking_5 : decode cX8_isTaking 5 = .ok (.if_icmp .ne 29, 3) := by decide +kernel
theorem dX8_isTaking_8 : decode cX8_isTaking 8 = .ok (.aload_n 0, 1) := by decide +kernel
theorem dX8_isTaking_9 : decode cX8_isTaking 9 = .ok (.iload_n 1, 1) := by decide +kernel
theorem dX8_isTaking_10 : decode cX8_isTaking 10 = .ok (.iload_n 2, 1) := by decide +kernel
theorem dX8_isTaking_11 : decode cX8_isTaking 11 = .ok (.iload_n 3, 1) := by decide +kernel
theorem dX8_isTaking_12 : decode cX8_isTaking 12 = .ok (.invokevirtual 237, 3) := by decide +kernel
theorem dX8_isTaking_15 : decode cX8_isTaking 15 = .ok (.aload_n 0, 1) := by decide +kernel
theorem dX8_isTaking_16 : decode cX8_isTaking 16 = .ok (.getfield 38, 3) := by decide +kernel
theorem dX8_isTaking_19 : decode cX8_isTaking 19 = .ok (.iload_n 2, 1) := by decide +kernel
theorem dX8_isTaking_20 : decode cX8_isTaking 20 = .ok (.iload_n 3, 1) := by decide +kernel
theorem dX8_isTaking_21 : decode cX8_isTaking 21 = .ok (.iload 4, 2) := by decide +kernel
theorem dX8_isTaking_23 : decode cX8_isTaking 23 = .ok (.invokestatic 242, 3) := by decide +kernel
theorem dX8_isTaking_26 : decode cX8_isTaking 26 = .ok (.iaload, 1) := by decide +kernel
theorem dX8_isTaking_27 : decode cX8_isTaking 27 = .ok (.if_icmp .gt 7, 3) := by decide +kernel
theorem dX8_isTaking_30 : decode cX8_isTaking 30 = .ok (.iconst 1, 1) := by decide +kernel
theorem dX8_isTaking_31 : decode cX8_isTaking 31 = .ok (.goto 4, 3) := by decide +kernel
theorem dX8_isTaking_34 : decode cX8_isTaking 34 = .ok (.iconst 0, 1) := by decide +kernel
theorem dX8_isTaking_35 : decode cX8_isTaking 35 = .ok (.ireturn, 1) := by decide +kernel
theorem f_m_startOf_rows : True := trivial
theorem dX8_startOf_0 : decode cX8_startOf 0 = .ok (.aload_n 0, 1) := by decide +kernel
theorem dX8_startOf_1 : decode cX8_startOf 1 = .ok (.iload_n 1, 1) := by decide +kernel
theorem dX8_startOf_2 : decode cX8_startOf 2 = .ok (.iconst 0, 1) := by decide +kernel
theorem dX8_startOf_3 : decode cX8_startOf 3 = .ok (.invokevirtual 251, 3) := by decide +kernel
theorem dX8_startOf_6 : decode cX8_startOf 6 = .ok (.istore_n 3, 1) := by decide +kernel
theorem dX8_startOf_7 : decode cX8_startOf 7 = .ok (.iconst 0, 1) := by decide +kernel
theorem dX8_startOf_8 : decode cX8_startOf 8 = .ok (.istore 4, 2) := by decide +kernel
theorem dX8_startOf_10 : decode cX8_startOf 10 = .ok (.iload 4, 2) := by decide +kernel
theorem dX8_startOf_12 : decode cX8_startOf 12 = .ok (.iconst 1, 1) := by decide +kernel
theorem dX8_startOf_13 : decode cX8_startOf 13 = .ok (.iload_n 3, 1) := by decide +kernel
theorem dX8_startOf_14 : decode cX8_startOf 14 = .ok (.ishl, 1) := by decide +kernel
theorem dX8_startOf_15 : decode cX8_startOf 15 = .ok (.if_icmp .ge 28, 3) := by decide +kernel
theorem dX8_startOf_18 : decode cX8_startOf 18 = .ok (.aload_n 0, 1) := by decide +kernel
theorem dX8_startOf_19 : decode cX8_startOf 19 = .ok (.getfield 54, 3) := by decide +kernel
theorem dX8_startOf_22 : decode cX8_startOf 22 = .ok (.iload 4, 2) := by decide +kernel
theorem dX8_startOf_24 : decode cX8_startOf 24 = .ok (.aload_n 0, 1) := by decide +kernel
theorem dX8_startOf_25 : decode cX8_startOf 25 = .ok (.getfield 41, 3) := by decide +kernel
theorem dX8_startOf_28 : decode cX8_startOf 28 = .ok (.iload_n 2, 1) := by decide +kernel
theorem dX8_startOf_29 : decode cX8_startOf 29 = .ok (.iconst 0, 1) := by decide +kernel
theorem dX8_startOf_30 : decode cX8_startOf 30 = .ok (.iload 4, 2) := by decide +kernel
theorem dX8_startOf_32 : decode cX8_startOf 32 = .ok (.invokestatic 242, 3) := by decide +kernel
theorem dX8_startOf_35 : decode cX8_startOf 35 = .ok (.iaload, 1) := by decide +kernel
theorem dX8_startOf_36 : decode cX8_startOf 36 = .ok (.iastore, 1) := by decide +kernel
theorem dX8_startOf_37 : decode cX8_startOf 37 = .ok (.iinc 4 1, 3) := by decide +kernel
theorem dX8_startOf_40 : decode cX8_startOf 40 = .ok (.goto (-30), 3) := by decide +kernel
theorem dX8_startOf_43 : decode cX8_startOf 43 = .ok (.iload_n 3, 1) := by decide +kernel
theorem dX8_startOf_44 : decode cX8_startOf 44 = .ok (.iconst 1, 1) := by decide +kernel
theorem dX8_startOf_45 : decode cX8_startOf 45 = .ok (.isub, 1) := by decide +kernel
theorem dX8_startOf_46 : decode cX8_startOf 46 = .ok (.istore 4, 2) := by decide +kernel
theorem dX8_startOf_48 : decode cX8_startOf 48 = .ok (.iload 4, 2) := by decide +kernel
theorem dX8_startOf_50 : decode cX8_startOf 50 = .ok (.ifCond .lt 90, 3) := by decide +kernel
theorem dX8_startOf_53 : decode cX8_startOf 53 = .ok (.iconst 0, 1) := by decide +kernel
theorem dX8_startOf_54 : decode cX8_startOf 54 = .ok (.istore 5, 2) := by decide +kernel
theorem dX8_startOf_56 : decode cX8_startOf 56 = .ok (.iload 5, 2) := by decide +kernel
theorem dX8_startOf_58 : decode cX8_startOf 58 = .ok (.iconst 1, 1) := by decide +kernel
theorem dX8_startOf_59 : decode cX8_startOf 59 = .ok (.iload 4, 2) := by decide +kernel
theorem dX8_startOf_61 : decode cX8_startOf 61 = .ok (.ishl, 1) := by decide +kernel
theorem dX8_startOf_62 : decode cX8_startOf 62 = .ok (.if_icmp .ge 72, 3) := by decide +kernel
theorem dX8_startOf_65 : decode cX8_startOf 65 = .ok (.iload 4, 2) := by decide +kernel
theorem dX8_startOf_67 : decode cX8_startOf 67 = .ok (.ifCond .le 20, 3) := by decide +kernel
theorem dX8_startOf_70 : decode cX8_startOf 70 = .ok (.iload 5, 2) := by decide +kernel
theorem dX8_startOf_72 : decode cX8_startOf 72 = .ok (.iload 4, 2) := by decide +kernel
theorem dX8_startOf_74 : decode cX8_startOf 74 = .ok (.iconst 1, 1) := by decide +kernel
theorem dX8_startOf_75 : decode cX8_startOf 75 = .ok (.isub, 1) := by decide +kernel
theorem dX8_startOf_76 : decode cX8_startOf 76 = .ok (.ishr, 1) := by decide +kernel
theorem dX8_startOf_77 : decode cX8_startOf 77 = .ok (.iconst 1, 1) := by decide +kernel
theorem dX8_startOf_78 : decode cX8_startOf 78 = .ok (.iand, 1) := by decide +kernel
theorem dX8_startOf_79 : decode cX8_startOf 79 = .ok (.iconst 1, 1) := by decide +kernel
theorem dX8_startOf_80 : decode cX8_startOf 80 = .ok (.if_icmp .ne 7, 3) := by decide +kernel
theorem dX8_startOf_83 : decode cX8_startOf 83 = .ok (.iconst 1, 1) := by decide +kernel
theorem dX8_startOf_84 : decode cX8_startOf 84 = .ok (.goto 4, 3) := by decide +kernel
theorem dX8_startOf_87 : decode cX8_startOf 87 = .ok (.iconst 0, 1) := by decide +kernel
theorem dX8_startOf_88 : decode cX8_startOf 88 = .ok (.istore 6, 2) := by decide +kernel
theorem dX8_startOf_90 : decode cX8_startOf 90 = .ok (.aload_n 0, 1) := by decide +kernel
theorem dX8_startOf_91 : decode cX8_startOf 91 = .ok (.getfield 54, 3) := by decide +kernel
theorem dX8_startOf_94 : decode cX8_startOf 94 = .ok (.iload 5, 2) := by decide +kernel
theorem dX8_startOf_96 : decode cX8_startOf 96 = .ok (.aload_n 0, 1) := by decide +kernel
theorem dX8_startOf_97 : decode cX8_startOf 97 = .ok (.iload_n 1, 1) := by decide +kernel
theorem dX8_startOf_98 : decode cX8_startOf 98 = .ok (.iload 4, 2) := by decide +kernel
theorem dX8_startOf_100 : decode cX8_startOf 100 = .ok (.iload 6, 2) := by decide +kernel
theorem dX8_startOf_102 : decode cX8_startOf 102 = .ok (.invokevirtual 219, 3) := by decide +kernel
theorem dX8_startOf_105 : decode cX8_startOf 105 = .ok (.aload_n 0, 1) := by decide +kernel
theorem dX8_startOf_106 : decode cX8_startOf 106 = .ok (.getfield 54, 3) := by decide +kernel
theorem dX8_startOf_109 : decode cX8_startOf 109 = .ok (.iload 5, 2) := by decide +kernel
theorem dX8_startOf_111 : decode cX8_startOf 111 = .ok (.iconst 1, 1) := by decide +kernel
theorem dX8_startOf_112 : decode cX8_startOf 112 = .ok (.iload 4, 2) := by decide +kernel
theorem dX8_startOf_114 : decode cX8_startOf 114 = .ok (.ishl, 1) := by decide +kernel
theorem dX8_startOf_115 : decode cX8_startOf 115 = .ok (.ior, 1) := by decide +kernel
theorem dX8_startOf_116 : decode cX8_startOf 116 = .ok (.iaload, 1) := by decide +kernel
theorem dX8_startOf_117 : decode cX8_startOf 117 = .ok (.aload_n 0, 1) := by decide +kernel
theorem dX8_startOf_118 : decode cX8_startOf 118 = .ok (.getfield 54, 3) := by decide +kernel
theorem dX8_startOf_121 : decode cX8_startOf 121 = .ok (.iload 5, 2) := by decide +kernel
theorem dX8_startOf_123 : decode cX8_startOf 123 = .ok (.iaload, 1) := by decide +kernel
theorem dX8_startOf_124 : decode cX8_startOf 124 = .ok (.invokestatic 245, 3) := by decide +kernel
theorem dX8_startOf_127 : decode cX8_startOf 127 = .ok (.iastore, 1) := by decide +kernel
theorem dX8_startOf_128 : decode cX8_startOf 128 = .ok (.iinc 5 1, 3) := by decide +kernel
theorem dX8_startOf_131 : decode cX8_startOf 131 = .ok (.goto (-75), 3) := by decide +kernel
theorem dX8_startOf_134 : decode cX8_startOf 134 = .ok (.iinc 4 (-1), 3) := by decide +kernel
theorem dX8_startOf_137 : decode cX8_startOf 137 = .ok (.goto (-89), 3) := by decide +kernel
theorem dX8_startOf_140 : decode cX8_startOf 140 = .ok (.aload_n 0, 1) := by decide +kernel
theorem dX8_startOf_141 : decode cX8_startOf 141 = .ok (.getfield 54, 3) := by decide +kernel
theorem dX8_startOf_144 : decode cX8_startOf 144 = .ok (.iconst 0, 1) := by decide +kernel
theorem dX8_startOf_145 : decode cX8_startOf 145 = .ok (.iaload, 1) := by decide +kernel
theorem dX8_startOf_146 : decode cX8_startOf 146 = .ok (.ireturn, 1) := by decide +kernel
theorem f_m_findRound_rows : True := trivial
theorem dX8_findRound_0 : decode cX8_findRound 0 = .ok (.aload_n 0, 1) := by decide +kernel
theorem dX8_findRound_1 : decode cX8_findRound 1 = .ok (.getfield 7, 3) := by decide +kernel
theorem dX8_findRound_4 : decode cX8_findRound 4 = .ok (.iload_n 1, 1) := by decide +kernel
theorem dX8_findRound_5 : decode cX8_findRound 5 = .ok (.iaload, 1) := by decide +kernel
theorem dX8_findRound_6 : decode cX8_findRound 6 = .ok (.istore_n 3, 1) := by decide +kernel
theorem dX8_findRound_7 : decode cX8_findRound 7 = .ok (.aload_n 0, 1) := by decide +kernel
theorem dX8_findRound_8 : decode cX8_findRound 8 = .ok (.iload_n 1, 1) := by decide +kernel
theorem dX8_findRound_9 : decode cX8_findRound 9 = .ok (.iload_n 2, 1) := by decide +kernel
theorem dX8_findRound_10 : decode cX8_findRound 10 = .ok (.invokevirtual 248, 3) := by decide +kernel
theorem dX8_findRound_13 : decode cX8_findRound 13 = .ok (.istore 4, 2) := by decide +kernel
theorem dX8_findRound_15 : decode cX8_findRound 15 = .ok (.iload_n 2, 1) := by decide +kernel
theorem dX8_findRound_16 : decode cX8_findRound 16 = .ok (.aload_n 0, 1) := by decide +kernel
theorem dX8_findRound_17 : decode cX8_findRound 17 = .ok (.iload_n 1, 1) := by decide +kernel
theorem dX8_findRound_18 : decode cX8_findRound 18 = .ok (.bipush 7, 2) := by decide +kernel
theorem dX8_findRound_20 : decode cX8_findRound 20 = .ok (.invokevirtual 212, 3) := by decide +kernel
theorem dX8_findRound_23 : decode cX8_findRound 23 = .ok (.if_icmp .ge 33, 3) := by decide +kernel
theorem dX8_findRound_26 : decode cX8_findRound 26 = .ok (.aload_n 0, 1) := by decide +kernel
theorem dX8_findRound_27 : decode cX8_findRound 27 = .ok (.iload_n 1, 1) := by decide +kernel
theorem dX8_findRound_28 : decode cX8_findRound 28 = .ok (.iconst 2, 1) := by decide +kernel
theorem dX8_findRound_29 : decode cX8_findRound 29 = .ok (.invokevirtual 212, 3) := by decide +kernel
theorem dX8_findRound_32 : decode cX8_findRound 32 = .ok (.aload_n 0, 1) := by decide +kernel
theorem dX8_findRound_33 : decode cX8_findRound 33 = .ok (.iload_n 1, 1) := by decide +kernel
theorem dX8_findRound_34 : decode cX8_findRound 34 = .ok (.bipush 6, 2) := by decide +kernel
theorem dX8_findRound_36 : decode cX8_findRound 36 = .ok (.invokevirtual 212, 3) := by decide +kernel
theorem dX8_findRound_39 : decode cX8_findRound 39 = .ok (.imul, 1) := by decide +kernel
theorem dX8_findRound_40 : decode cX8_findRound 40 = .ok (.sipush 1000, 3) := by decide +kernel
theorem dX8_findRound_43 : decode cX8_findRound 43 = .ok (.imul, 1) := by decide +kernel
theorem dX8_findRound_44 : decode cX8_findRound 44 = .ok (.aload_n 0, 1) := by decide +kernel
theorem dX8_findRound_45 : decode cX8_findRound 45 = .ok (.getfield 44, 3) := by decide +kernel
theorem dX8_findRound_48 : decode cX8_findRound 48 = .ok (.iload_n 2, 1) := by decide +kernel
theorem dX8_findRound_49 : decode cX8_findRound 49 = .ok (.iconst 1, 1) := by decide +kernel
theorem dX8_findRound_50 : decode cX8_findRound 50 = .ok (.iadd, 1) := by decide +kernel
theorem dX8_findRound_51 : decode cX8_findRound 51 = .ok (.iaload, 1) := by decide +kernel
theorem dX8_findRound_52 : decode cX8_findRound 52 = .ok (.iadd, 1) := by decide +kernel
theorem dX8_findRound_53 : decode cX8_findRound 53 = .ok (.goto 5, 3) := by decide +kernel
theorem dX8_findRound_56 : decode cX8_findRound 56 = .ok (.iload 4, 2) := by decide +kernel
theorem dX8_findRound_58 : decode cX8_findRound 58 = .ok (.istore 5, 2) := by decide +kernel
theorem dX8_findRound_60 : decode cX8_findRound 60 = .ok (.aload_n 0, 1) := by decide +kernel
theorem dX8_findRound_61 : decode cX8_findRound 61 = .ok (.getfield 50, 3) := by decide +kernel
theorem dX8_findRound_64 : decode cX8_findRound 64 = .ok (.iload_n 2, 1) := by decide +kernel
theorem dX8_findRound_65 : decode cX8_findRound 65 = .ok (.iload 5, 2) := by decide +kernel
theorem dX8_findRound_67 : decode cX8_findRound 67 = .ok (.iload 4, 2) := by decide +kernel
theorem dX8_findRound_69 : decode cX8_findRound 69 = .ok (.if_icmp .ge 7, 3) := by decide +kernel
theorem dX8_findRound_72 : decode cX8_findRound 72 = .ok (.iconst 1, 1) := by decide +kernel
theorem dX8_findRound_73 : decode cX8_findRound 73 = .ok (.goto 4, 3) := by decide +kernel
theorem dX8_findRound_76 : decode cX8_findRound 76 = .ok (.iconst 0, 1) := by decide +kernel
theorem dX8_findRound_77 : decode cX8_findRound 77 = .ok (.bastore, 1) := by decide +kernel
theorem dX8_findRound_78 : decode cX8_findRound 78 = .ok (.aload_n 0, 1) := by decide +kernel
theorem dX8_findRound_79 : decode cX8_findRound 79 = .ok (.getfield 47, 3) := by decide +kernel
theorem dX8_findRound_82 : decode cX8_findRound 82 = .ok (.iload_n 2, 1) := by decide +kernel
theorem dX8_findRound_83 : decode cX8_findRound 83 = .ok (.iload 5, 2) := by decide +kernel
theorem dX8_findRound_85 : decode cX8_findRound 85 = .ok (.iload 4, 2) := by decide +kernel
theorem dX8_findRound_87 : decode cX8_findRound 87 = .ok (.if_icmp .ge 8, 3) := by decide +kernel
theorem dX8_findRound_90 : decode cX8_findRound 90 = .ok (.iload 5, 2) := by decide +kernel
theorem dX8_findRound_92 : decode cX8_findRound 92 = .ok (.goto 5, 3) := by decide +kernel
theorem dX8_findRound_95 : decode cX8_findRound 95 = .ok (.iload 4, 2) := by decide +kernel
theorem dX8_findRound_97 : decode cX8_findRound 97 = .ok (.iastore, 1) := by decide +kernel
theorem dX8_findRound_98 : decode cX8_findRound 98 = .ok (.iload_n 3, 1) := by decide +kernel
theorem dX8_findRound_99 : decode cX8_findRound 99 = .ok (.iconst 1, 1) := by decide +kernel
theorem dX8_findRound_100 : decode cX8_findRound 100 = .ok (.isub, 1) := by decide +kernel
theorem dX8_findRound_101 : decode cX8_findRound 101 = .ok (.istore 6, 2) := by decide +kernel
theorem dX8_findRound_103 : decode cX8_findRound 103 = .ok (.iload 6, 2) := by decide +kernel
theorem dX8_findRound_105 : decode cX8_findRound 105 = .ok (.ifCond .lt 132, 3) := by decide +kernel
theorem dX8_findRound_108 : decode cX8_findRound 108 = .ok (.iconst 0, 1) := by decide +kernel
theorem dX8_findRound_109 : decode cX8_findRound 109 = .ok (.istore 7, 2) := by decide +kernel
theorem dX8_findRound_111 : decode cX8_findRound 111 = .ok (.iload 7, 2) := by decide +kernel
theorem dX8_findRound_113 : decode cX8_findRound 113 = .ok (.iconst 1, 1) := by decide +kernel
theorem dX8_findRound_114 : decode cX8_findRound 114 = .ok (.aload_n 0, 1) := by decide +kernel
theorem dX8_findRound_115 : decode cX8_findRound 115 = .ok (.iload_n 1, 1) := by decide +kernel
theorem dX8_findRound_116 : decode cX8_findRound 116 = .ok (.iload 6, 2) := by decide +kernel
theorem dX8_findRound_118 : decode cX8_findRound 118 = .ok (.invokevirtual 251, 3) := by decide +kernel
theorem dX8_findRound_121 : decode cX8_findRound 121 = .ok (.ishl, 1) := by decide +kernel
theorem dX8_findRound_122 : decode cX8_findRound 122 = .ok (.if_icmp .ge 109, 3) := by decide +kernel
theorem dX8_findRound_125 : decode cX8_findRound 125 = .ok (.aload_n 0, 1) := by decide +kernel
theorem dX8_findRound_126 : decode cX8_findRound 126 = .ok (.iload_n 1, 1) := by decide +kernel
theorem dX8_findRound_127 : decode cX8_findRound 127 = .ok (.iconst 2, 1) := by decide +kernel
theorem dX8_findRound_128 : decode cX8_findRound 128 = .ok (.invokevirtual 212, 3) := by decide +kernel
theorem dX8_findRound_131 : decode cX8_findRound 131 = .ok (.sipush 1000, 3) := by decide +kernel
theorem dX8_findRound_134 : decode cX8_findRound 134 = .ok (.imul, 1) := by decide +kernel
theorem dX8_findRound_135 : decode cX8_findRound 135 = .ok (.iload 6, 2) := by decide +kernel
theorem dX8_findRound_137 : decode cX8_findRound 137 = .ok (.iload_n 3, 1) := by decide +kernel
theorem dX8_findRound_138 : decode cX8_findRound 138 = .ok (.iconst 1, 1) := by decide +kernel
theorem dX8_findRound_139 : decode cX8_findRound 139 = .ok (.isub, 1) := by decide +kernel
theorem dX8_findRound_140 : decode cX8_findRound 140 = .ok (.if_icmp .ne 12, 3) := by decide +kernel
theorem dX8_findRound_143 : decode cX8_findRound 143 = .ok (.aload_n 0, 1) := by decide +kernel
theorem dX8_findRound_144 : decode cX8_findRound 144 = .ok (.getfield 47, 3) := by decide +kernel
theorem dX8_findRound_147 : decode cX8_findRound 147 = .ok (.iload_n 2, 1) := by decide +kernel
theorem dX8_findRound_148 : decode cX8_findRound 148 = .ok (.iaload, 1) := by decide +kernel
theorem dX8_findRound_149 : decode cX8_findRound 149 = .ok (.goto 13, 3) := by decide +kernel
theorem dX8_findRound_152 : decode cX8_findRound 152 = .ok (.aload_n 0, 1) := by decide +kernel
theorem dX8_findRound_153 : decode cX8_findRound 153 = .ok (.iload_n 1, 1) := by decide +kernel
theorem dX8_findRound_154 : decode cX8_findRound 154 = .ok (.iload_n 2, 1) := by decide +kernel
theorem dX8_findRound_155 : decode cX8_findRound 155 = .ok (.iload 6, 2) := by decide +kernel
theorem dX8_findRound_157 : decode cX8_findRound 157 = .ok (.iload 7, 2) := by decide +kernel
theorem dX8_findRound_159 : decode cX8_findRound 159 = .ok (.invokevirtual 254, 3) := by decide +kernel
theorem dX8_findRound_162 : decode cX8_findRound 162 = .ok (.iadd, 1) := by decide +kernel
theorem dX8_findRound_163 : decode cX8_findRound 163 = .ok (.istore 8, 2) := by decide +kernel
theorem dX8_findRound_165 : decode cX8_findRound 165 = .ok (.aload_n 0, 1) := by decide +kernel
theorem dX8_findRound_166 : decode cX8_findRound 166 = .ok (.iload_n 1, 1) := by decide +kernel
theorem dX8_findRound_167 : decode cX8_findRound 167 = .ok (.iload_n 2, 1) := by decide +kernel
theorem dX8_findRound_168 : decode cX8_findRound 168 = .ok (.iload 6, 2) := by decide +kernel
theorem dX8_findRound_170 : decode cX8_findRound 170 = .ok (.invokevirtual 237, 3) := by decide +kernel
theorem dX8_findRound_173 : decode cX8_findRound 173 = .ok (.istore 9, 2) := by decide +kernel
theorem dX8_findRound_175 : decode cX8_findRound 175 = .ok (.aload_n 0, 1) := by decide +kernel
theorem dX8_findRound_176 : decode cX8_findRound 176 = .ok (.getfield 38, 3) := by decide +kernel
theorem dX8_findRound_179 : decode cX8_findRound 179 = .ok (.iload_n 2, 1) := by decide +kernel
theorem dX8_findRound_180 : decode cX8_findRound 180 = .ok (.iload 6, 2) := by decide +kernel
theorem dX8_findRound_182 : decode cX8_findRound 182 = .ok (.iload 7, 2) := by decide +kernel
theorem dX8_findRound_184 : decode cX8_findRound 184 = .ok (.invokestatic 242, 3) := by decide +kernel
theorem dX8_findRound_187 : decode cX8_findRound 187 = .ok (.iload 8, 2) := by decide +kernel
theorem dX8_findRound_189 : decode cX8_findRound 189 = .ok (.iastore, 1) := by decide +kernel
theorem dX8_findRound_190 : decode cX8_findRound 190 = .ok (.aload_n 0, 1) := by decide +kernel
theorem dX8_findRound_191 : decode cX8_findRound 191 = .ok (.getfield 41, 3) := by decide +kernel
theorem dX8_findRound_194 : decode cX8_findRound 194 = .ok (.iload_n 2, 1) := by decide +kernel
theorem dX8_findRound_195 : decode cX8_findRound 195 = .ok (.iload 6, 2) := by decide +kernel
theorem dX8_findRound_197 : decode cX8_findRound 197 = .ok (.iload 7, 2) := by decide +kernel
theorem dX8_findRound_199 : decode cX8_findRound 199 = .ok (.invokestatic 242, 3) := by decide +kernel
theorem dX8_findRound_202 : decode cX8_findRound 202 = .ok (.iload 7, 2) := by decide +kernel
theorem dX8_findRound_204 : decode cX8_findRound 204 = .ok (.iconst 1, 1) := by decide +kernel
theorem dX8_findRound_205 : decode cX8_findRound 205 = .ok (.iand, 1) := by decide +kernel
theorem dX8_findRound_206 : decode cX8_findRound 206 = .ok (.iconst 1, 1) := by decide +kernel
theorem dX8_findRound_207 : decode cX8_findRound 207 = .ok (.if_icmp .ne 15, 3) := by decide +kernel
theorem dX8_findRound_210 : decode cX8_findRound 210 = .ok (.iload 9, 2) := by decide +kernel
theorem dX8_findRound_212 : decode cX8_findRound 212 = .ok (.iload 8, 2) := by decide +kernel
theorem dX8_findRound_214 : decode cX8_findRound 214 = .ok (.if_icmp .gt 8, 3) := by decide +kernel
theorem dX8_findRound_217 : decode cX8_findRound 217 = .ok (.iload 9, 2) := by decide +kernel
theorem dX8_findRound_219 : decode cX8_findRound 219 = .ok (.goto 5, 3) := by decide +kernel
theorem dX8_findRound_222 : decode cX8_findRound 222 = .ok (.iload 8, 2) := by decide +kernel
theorem dX8_findRound_224 : decode cX8_findRound 224 = .ok (.iastore, 1) := by decide +kernel
theorem dX8_findRound_225 : decode cX8_findRound 225 = .ok (.iinc 7 1, 3) := by decide +kernel
theorem dX8_findRound_228 : decode cX8_findRound 228 = .ok (.goto (-117), 3) := by decide +kernel
theorem dX8_findRound_231 : decode cX8_findRound 231 = .ok (.iinc 6 (-1), 3) := by decide +kernel
theorem dX8_findRound_234 : decode cX8_findRound 234 = .ok (.goto (-131), 3) := by decide +kernel
theorem dX8_findRound_237 : decode cX8_findRound 237 = .ok (.aload_n 0, 1) := by decide +kernel
theorem dX8_findRound_238 : decode cX8_findRound 238 = .ok (.getfield 44, 3) := by decide +kernel
theorem dX8_findRound_241 : decode cX8_findRound 241 = .ok (.iload_n 2, 1) := by decide +kernel
theorem dX8_findRound_242 : decode cX8_findRound 242 = .ok (.aload_n 0, 1) := by decide +kernel
theorem dX8_findRound_243 : decode cX8_findRound 243 = .ok (.iload_n 1, 1) := by decide +kernel
theorem dX8_findRound_244 : decode cX8_findRound 244 = .ok (.iload_n 2, 1) := by decide +kernel
theorem dX8_findRound_245 : decode cX8_findRound 245 = .ok (.invokevirtual 257, 3) := by decide +kernel
theorem dX8_findRound_248 : decode cX8_findRound 248 = .ok (.iastore, 1) := by decide +kernel
theorem dX8_findRound_249 : decode cX8_findRound 249 = .ok (.return_, 1) := by decide +kernel
theorem f_m_findWay_rows : True := trivial
theorem dX8_findWay_0 : decode cX8_findWay 0 = .ok (.aload_n 0, 1) := by decide +kernel
theorem dX8_findWay_1 : decode cX8_findWay 1 = .ok (.iload_n 1, 1) := by decide +kernel
theorem dX8_findWay_2 : decode cX8_findWay 2 = .ok (.bipush 7, 2) := by decide +kernel
theorem dX8_findWay_4 : decode cX8_findWay 4 = .ok (.invokevirtual 212, 3) := by decide +kernel
theorem dX8_findWay_7 : decode cX8_findWay 7 = .ok (.istore_n 2, 1) := by decide +kernel
theorem dX8_findWay_8 : decode cX8_findWay 8 = .ok (.iload_n 2, 1) := by decide +kernel
theorem dX8_findWay_9 : decode cX8_findWay 9 = .ok (.ifCond .lt 15, 3) := by decide +kernel
theorem dX8_findWay_12 : decode cX8_findWay 12 = .ok (.aload_n 0, 1) := by decide +kernel
theorem dX8_findWay_13 : decode cX8_findWay 13 = .ok (.iload_n 1, 1) := by decide +kernel
theorem dX8_findWay_14 : decode cX8_findWay 14 = .ok (.iload_n 2, 1) := by decide +kernel
theorem dX8_findWay_15 : decode cX8_findWay 15 = .ok (.invokevirtual 260, 3) := by decide +kernel
theorem dX8_findWay_18 : decode cX8_findWay 18 = .ok (.iinc 2 (-1), 3) := by decide +kernel
theorem dX8_findWay_21 : decode cX8_findWay 21 = .ok (.goto (-13), 3) := by decide +kernel
theorem dX8_findWay_24 : decode cX8_findWay 24 = .ok (.return_, 1) := by decide +kernel
theorem tw_38 : Cond.selects RX8 yX8_isStreet yX8_isStreet ∈ LW := LWm (i := 38) (by decide +kernel) rfl
theorem tw_40 : Cond.selects RX8 yX8_isDoor yX8_isDoor ∈ LW := LWm (i := 40) (by decide +kernel) rfl
theorem tw_42 : Cond.selects RX8 yX8_isRound yX8_isRound ∈ LW := LWm (i := 42) (by decide +kernel) rfl
theorem tw_47 : Cond.selects RX8 yX8_isSight yX8_isSight ∈ LW := LWm (i := 47) (by decide +kernel) rfl
theorem tw_49 : Cond.selects RX8 yX8_findWay yX8_findWay ∈ LW := LWm (i := 49) (by decide +kernel) rfl
theorem tw_54 : Cond.selects RX8 yX8_isTaking yX8_isTaking ∈ LW := LWm (i := 54) (by decide +kernel) rfl
theorem tw_1003 : Cond.fieldLink RX8 304 "LastPlaceModel" "rowMany" "I" ∈ LW := LWm4 (i := 205) (by decide +kernel) rfl
theorem tw_1004 : Cond.fieldLink RX8 75 "LastPlaceModel" "row" "[Z" ∈ LW := LWm4 (i := 206) (by decide +kernel) rfl
theorem tw_1014 : Cond.fieldLink RX8 374 "LastPlaceModel" "seed" "I" ∈ LW := LWm4 (i := 216) (by decide +kernel) rfl
theorem tw_1189 : Cond.methodLink RX8 206 yX8_isStreet ∈ LW := LWm5 (i := 151) (by decide +kernel) rfl
theorem tw_1191 : Cond.instanceMethod yX8_isStreet ∈ LW := LWm5 (i := 153) (by decide +kernel) rfl
set_option maxRecDepth 100000 in theorem tw_1192 : Cond.code yX8_isStreet cX8_isStreet 2 (some .boolean) ∈ LW := LWm5 (i := 154) rfl rfl
theorem tw_1193 : Cond.constantLong RX8 210 (9) ∈ LW := LWm5 (i := 155) (by decide +kernel) rfl
theorem tw_1202 : Cond.methodLink RX8 215 yX8_isDoor ∈ LW := LWm5 (i := 164) (by decide +kernel) rfl
theorem tw_1204 : Cond.instanceMethod yX8_isDoor ∈ LW := LWm5 (i := 166) (by decide +kernel) rfl
set_option maxRecDepth 100000 in theorem tw_1205 : Cond.code yX8_isDoor cX8_isDoor 3 (some .boolean) ∈ LW := LWm5 (i := 167) rfl rfl
theorem tw_1218 : Cond.methodLink RX8 234 yX8_isRound ∈ LW := LWm5 (i := 180) (by decide +kernel) rfl
theorem tw_1220 : Cond.instanceMethod yX8_isRound ∈ LW := LWm5 (i := 182) (by decide +kernel) rfl
set_option maxRecDepth 100000 in theorem tw_1221 : Cond.code yX8_isRound cX8_isRound 3 (some .boolean) ∈ LW := LWm5 (i := 183) rfl rfl
theorem tw_1242 : Cond.methodLink RX8 264 yX8_isSight ∈ LW := LWm5 (i := 204) (by decide +kernel) rfl
theorem tw_1244 : Cond.instanceMethod yX8_isSight ∈ LW := LWm5 (i := 206) (by decide +kernel) rfl
set_option maxRecDepth 100000 in theorem tw_1245 : Cond.code yX8_isSight cX8_isSight 4 (some .boolean) ∈ LW := LWm5 (i := 207) rfl rfl
theorem tw_1250 : Cond.methodLink RX8 268 yX8_findWay ∈ LW := LWm5 (i := 212) (by decide +kernel) rfl
theorem tw_1252 : Cond.instanceMethod yX8_findWay ∈ LW := LWm5 (i := 214) (by decide +kernel) rfl
set_option maxRecDepth 100000 in theorem tw_1253 : Cond.code yX8_findWay cX8_findWay 3 none ∈ LW := LWm5 (i := 215) rfl rfl
theorem tw_1285 : Cond.methodLink RX8 272 yX8_isTaking ∈ LW := LWm6 (i := 7) (by decide +kernel) rfl
theorem tw_1287 : Cond.instanceMethod yX8_isTaking ∈ LW := LWm6 (i := 9) (by decide +kernel) rfl
set_option maxRecDepth 100000 in theorem tw_1288 : Cond.code yX8_isTaking cX8_isTaking 5 (some .boolean) ∈ LW := LWm6 (i := 10) rfl rfl
theorem f_m_told_rows : True := trivial
theorem dX8_told_0 : decode cX8_told 0 = .ok (.aload_n 0, 1) := by decide +kernel
theorem dX8_told_1 : decode cX8_told 1 = .ok (.iload_n 1, 1) := by decide +kernel
theorem dX8_told_2 : decode cX8_told 2 = .ok (.invokevirtual 206, 3) := by decide +kernel
theorem dX8_told_5 : decode cX8_told 5 = .ok (.ifCond .ne 7, 3) := by decide +kernel
theorem dX8_told_8 : decode cX8_told 8 = .ok (.sipush (-1001), 3) := by decide +kernel
theorem dX8_told_11 : decode cX8_told 11 = .ok (.ireturn, 1) := by decide +kernel
theorem dX8_told_12 : decode cX8_told 12 = .ok (.iload_n 2, 1) := by decide +kernel
theorem dX8_told_13 : decode cX8_told 13 = .ok (.ifCond .ne 12, 3) := by decide +kernel
theorem dX8_told_16 : decode cX8_told 16 = .ok (.aload_n 0, 1) := by decide +kernel
theorem dX8_told_17 : decode cX8_told 17 = .ok (.getfield 7, 3) := by decide +kernel
theorem dX8_told_20 : decode cX8_told 20 = .ok (.iload_n 1, 1) := by decide +kernel
theorem dX8_told_21 : decode cX8_told 21 = .ok (.iaload, 1) := by decide +kernel
theorem dX8_told_22 : decode cX8_told 22 = .ok (.goto 29, 3) := by decide +kernel
theorem dX8_told_25 : decode cX8_told 25 = .ok (.iload_n 2, 1) := by decide +kernel
theorem dX8_told_26 : decode cX8_told 26 = .ok (.i2l, 1) := by decide +kernel
theorem dX8_told_27 : decode cX8_told 27 = .ok (.lconst 1, 1) := by decide +kernel
theorem dX8_told_28 : decode cX8_told 28 = .ok (.ldc2_w 210, 3) := by decide +kernel
theorem dX8_told_31 : decode cX8_told 31 = .ok (.invokestatic 107, 3) := by decide +kernel
theorem dX8_told_34 : decode cX8_told 34 = .ok (.ifCond .eq 14, 3) := by decide +kernel
theorem dX8_told_37 : decode cX8_told 37 = .ok (.aload_n 0, 1) := by decide +kernel
theorem dX8_told_38 : decode cX8_told 38 = .ok (.iload_n 1, 1) := by decide +kernel
theorem dX8_told_39 : decode cX8_told 39 = .ok (.iload_n 2, 1) := by decide +kernel
theorem dX8_told_40 : decode cX8_told 40 = .ok (.iconst 1, 1) := by decide +kernel
theorem dX8_told_41 : decode cX8_told 41 = .ok (.isub, 1) := by decide +kernel
theorem dX8_told_42 : decode cX8_told 42 = .ok (.invokevirtual 212, 3) := by decide +kernel
theorem dX8_told_45 : decode cX8_told 45 = .ok (.goto 6, 3) := by decide +kernel
theorem dX8_told_48 : decode cX8_told 48 = .ok (.sipush (-1002), 3) := by decide +kernel
theorem dX8_told_51 : decode cX8_told 51 = .ok (.ireturn, 1) := by decide +kernel
theorem f_m_door_rows : True := trivial
theorem dX8_door_0 : decode cX8_door 0 = .ok (.aload_n 0, 1) := by decide +kernel
theorem dX8_door_1 : decode cX8_door 1 = .ok (.iload_n 1, 1) := by decide +kernel
theorem dX8_door_2 : decode cX8_door 2 = .ok (.invokevirtual 206, 3) := by decide +kernel
theorem dX8_door_5 : decode cX8_door 5 = .ok (.ifCond .eq 12, 3) := by decide +kernel
theorem dX8_door_8 : decode cX8_door 8 = .ok (.aload_n 0, 1) := by decide +kernel
theorem dX8_door_9 : decode cX8_door 9 = .ok (.iload_n 1, 1) := by decide +kernel
theorem dX8_door_10 : decode cX8_door 10 = .ok (.iload_n 2, 1) := by decide +kernel
theorem dX8_door_11 : decode cX8_door 11 = .ok (.invokevirtual 215, 3) := by decide +kernel
theorem dX8_door_14 : decode cX8_door 14 = .ok (.ifCond .ne 7, 3) := by decide +kernel
theorem dX8_door_17 : decode cX8_door 17 = .ok (.sipush (-1001), 3) := by decide +kernel
theorem dX8_door_20 : decode cX8_door 20 = .ok (.ireturn, 1) := by decide +kernel
theorem dX8_door_21 : decode cX8_door 21 = .ok (.iload_n 3, 1) := by decide +kernel
theorem dX8_door_22 : decode cX8_door 22 = .ok (.ifCond .ne 17, 3) := by decide +kernel
theorem dX8_door_25 : decode cX8_door 25 = .ok (.aload_n 0, 1) := by decide +kernel
theorem dX8_door_26 : decode cX8_door 26 = .ok (.getfield 13, 3) := by decide +kernel
theorem dX8_door_29 : decode cX8_door 29 = .ok (.bipush 24, 2) := by decide +kernel
theorem dX8_door_31 : decode cX8_door 31 = .ok (.iload_n 1, 1) := by decide +kernel
theorem dX8_door_32 : decode cX8_door 32 = .ok (.imul, 1) := by decide +kernel
theorem dX8_door_33 : decode cX8_door 33 = .ok (.iload_n 2, 1) := by decide +kernel
theorem dX8_door_34 : decode cX8_door 34 = .ok (.iadd, 1) := by decide +kernel
theorem dX8_door_35 : decode cX8_door 35 = .ok (.iaload, 1) := by decide +kernel
theorem dX8_door_36 : decode cX8_door 36 = .ok (.goto 25, 3) := by decide +kernel
theorem dX8_door_39 : decode cX8_door 39 = .ok (.iload_n 3, 1) := by decide +kernel
theorem dX8_door_40 : decode cX8_door 40 = .ok (.iconst 1, 1) := by decide +kernel
theorem dX8_door_41 : decode cX8_door 41 = .ok (.if_icmp .ne 17, 3) := by decide +kernel
theorem dX8_door_44 : decode cX8_door 44 = .ok (.aload_n 0, 1) := by decide +kernel
theorem dX8_door_45 : decode cX8_door 45 = .ok (.getfield 16, 3) := by decide +kernel
theorem dX8_door_48 : decode cX8_door 48 = .ok (.bipush 24, 2) := by decide +kernel
theorem dX8_door_50 : decode cX8_door 50 = .ok (.iload_n 1, 1) := by decide +kernel
theorem dX8_door_51 : decode cX8_door 51 = .ok (.imul, 1) := by decide +kernel
theorem dX8_door_52 : decode cX8_door 52 = .ok (.iload_n 2, 1) := by decide +kernel
theorem dX8_door_53 : decode cX8_door 53 = .ok (.iadd, 1) := by decide +kernel
theorem dX8_door_54 : decode cX8_door 54 = .ok (.iaload, 1) := by decide +kernel
theorem dX8_door_55 : decode cX8_door 55 = .ok (.goto 6, 3) := by decide +kernel
theorem dX8_door_58 : decode cX8_door 58 = .ok (.sipush (-1002), 3) := by decide +kernel
theorem dX8_door_61 : decode cX8_door 61 = .ok (.ireturn, 1) := by decide +kernel
theorem f_m_chance_rows : True := trivial
theorem dX8_chance_0 : decode cX8_chance 0 = .ok (.aload_n 0, 1) := by decide +kernel
theorem dX8_chance_1 : decode cX8_chance 1 = .ok (.iload_n 1, 1) := by decide +kernel
theorem dX8_chance_2 : decode cX8_chance 2 = .ok (.invokevirtual 206, 3) := by decide +kernel
theorem dX8_chance_5 : decode cX8_chance 5 = .ok (.ifCond .eq 22, 3) := by decide +kernel
theorem dX8_chance_8 : decode cX8_chance 8 = .ok (.aload_n 0, 1) := by decide +kernel
theorem dX8_chance_9 : decode cX8_chance 9 = .ok (.iload_n 1, 1) := by decide +kernel
theorem dX8_chance_10 : decode cX8_chance 10 = .ok (.iload_n 2, 1) := by decide +kernel
theorem dX8_chance_11 : decode cX8_chance 11 = .ok (.invokevirtual 215, 3) := by decide +kernel
theorem dX8_chance_14 : decode cX8_chance 14 = .ok (.ifCond .eq 13, 3) := by decide +kernel
theorem dX8_chance_17 : decode cX8_chance 17 = .ok (.aload_n 0, 1) := by decide +kernel
theorem dX8_chance_18 : decode cX8_chance 18 = .ok (.iload_n 1, 1) := by decide +kernel
theorem dX8_chance_19 : decode cX8_chance 19 = .ok (.iload_n 2, 1) := by decide +kernel
theorem dX8_chance_20 : decode cX8_chance 20 = .ok (.iload_n 3, 1) := by decide +kernel
theorem dX8_chance_21 : decode cX8_chance 21 = .ok (.invokevirtual 219, 3) := by decide +kernel
theorem dX8_chance_24 : decode cX8_chance 24 = .ok (.goto 6, 3) := by decide +kernel
theorem dX8_chance_27 : decode cX8_chance 27 = .ok (.sipush (-1001), 3) := by decide +kernel
theorem dX8_chance_30 : decode cX8_chance 30 = .ok (.ireturn, 1) := by decide +kernel
theorem f_m_taking_rows : True := trivial
theorem dX8_taking_0 : decode cX8_taking 0 = .ok (.aload_n 0, 1) := by decide +kernel
theorem dX8_taking_1 : decode cX8_taking 1 = .ok (.iload_n 1, 1) := by decide +kernel
theorem dX8_taking_2 : decode cX8_taking 2 = .ok (.invokevirtual 206, 3) := by decide +kernel
theorem dX8_taking_5 : decode cX8_taking 5 = .ok (.ifCond .eq 12, 3) := by decide +kernel
theorem dX8_taking_8 : decode cX8_taking 8 = .ok (.aload_n 0, 1) := by decide +kernel
theorem dX8_taking_9 : decode cX8_taking 9 = .ok (.iload_n 1, 1) := by decide +kernel
theorem dX8_taking_10 : decode cX8_taking 10 = .ok (.iload_n 3, 1) := by decide +kernel
theorem dX8_taking_11 : decode cX8_taking 11 = .ok (.invokevirtual 215, 3) := by decide +kernel
theorem dX8_taking_14 : decode cX8_taking 14 = .ok (.ifCond .ne 7, 3) := by decide +kernel
theorem dX8_taking_17 : decode cX8_taking 17 = .ok (.sipush (-1001), 3) := by decide +kernel
theorem dX8_taking_20 : decode cX8_taking 20 = .ok (.ireturn, 1) := by decide +kernel
theorem dX8_taking_21 : decode cX8_taking 21 = .ok (.aload_n 0, 1) := by decide +kernel
theorem dX8_taking_22 : decode cX8_taking 22 = .ok (.iload_n 1, 1) := by decide +kernel
theorem dX8_taking_23 : decode cX8_taking 23 = .ok (.iload_n 2, 1) := by decide +kernel
theorem dX8_taking_24 : decode cX8_taking 24 = .ok (.invokevirtual 234, 3) := by decide +kernel
theorem dX8_taking_27 : decode cX8_taking 27 = .ok (.ifCond .eq 13, 3) := by decide +kernel
theorem dX8_taking_30 : decode cX8_taking 30 = .ok (.aload_n 0, 1) := by decide +kernel
theorem dX8_taking_31 : decode cX8_taking 31 = .ok (.iload_n 1, 1) := by decide +kernel
theorem dX8_taking_32 : decode cX8_taking 32 = .ok (.iload_n 2, 1) := by decide +kernel
theorem dX8_taking_33 : decode cX8_taking 33 = .ok (.iload_n 3, 1) := by decide +kernel
theorem dX8_taking_34 : decode cX8_taking 34 = .ok (.invokevirtual 237, 3) := by decide +kernel
theorem dX8_taking_37 : decode cX8_taking 37 = .ok (.goto 6, 3) := by decide +kernel
theorem dX8_taking_40 : decode cX8_taking 40 = .ok (.sipush (-1002), 3) := by decide +kernel
theorem dX8_taking_43 : decode cX8_taking 43 = .ok (.ireturn, 1) := by decide +kernel
theorem f_m_worth_rows : True := trivial
theorem dX8_worth_0 : decode cX8_worth 0 = .ok (.aload_n 0, 1) := by decide +kernel
theorem dX8_worth_1 : decode cX8_worth 1 = .ok (.iload_n 1, 1) := by decide +kernel
theorem dX8_worth_2 : decode cX8_worth 2 = .ok (.invokevirtual 206, 3) := by decide +kernel
theorem dX8_worth_5 : decode cX8_worth 5 = .ok (.ifCond .eq 12, 3) := by decide +kernel
theorem dX8_worth_8 : decode cX8_worth 8 = .ok (.aload_n 0, 1) := by decide +kernel
theorem dX8_worth_9 : decode cX8_worth 9 = .ok (.iload_n 1, 1) := by decide +kernel
theorem dX8_worth_10 : decode cX8_worth 10 = .ok (.iload_n 3, 1) := by decide +kernel
theorem dX8_worth_11 : decode cX8_worth 11 = .ok (.invokevirtual 215, 3) := by decide +kernel
theorem dX8_worth_14 : decode cX8_worth 14 = .ok (.ifCond .ne 7, 3) := by decide +kernel
theorem dX8_worth_17 : decode cX8_worth 17 = .ok (.sipush (-1001), 3) := by decide +kernel
theorem dX8_worth_20 : decode cX8_worth 20 = .ok (.ireturn, 1) := by decide +kernel
theorem dX8_worth_21 : decode cX8_worth 21 = .ok (.aload_n 0, 1) := by decide +kernel
theorem dX8_worth_22 : decode cX8_worth 22 = .ok (.iload_n 1, 1) := by decide +kernel
theorem dX8_worth_23 : decode cX8_worth 23 = .ok (.iload_n 2, 1) := by decide +kernel
theorem dX8_worth_24 : decode cX8_worth 24 = .ok (.invokevirtual 234, 3) := by decide +kernel
theorem dX8_worth_27 : decode cX8_worth 27 = .ok (.ifCond .eq 14, 3) := by decide +kernel
theorem dX8_worth_30 : decode cX8_worth 30 = .ok (.aload_n 0, 1) := by decide +kernel
theorem dX8_worth_31 : decode cX8_worth 31 = .ok (.iload_n 1, 1) := by decide +kernel
theorem dX8_worth_32 : decode cX8_worth 32 = .ok (.iload_n 3, 1) := by decide +kernel
theorem dX8_worth_33 : decode cX8_worth 33 = .ok (.iload 4, 2) := by decide +kernel
theorem dX8_worth_35 : decode cX8_worth 35 = .ok (.invokevirtual 264, 3) := by decide +kernel
theorem dX8_worth_38 : decode cX8_worth 38 = .ok (.ifCond .ne 7, 3) := by decide +kernel
theorem dX8_worth_41 : decode cX8_worth 41 = .ok (.sipush (-1002), 3) := by decide +kernel
theorem dX8_worth_44 : decode cX8_worth 44 = .ok (.ireturn, 1) := by decide +kernel
theorem dX8_worth_45 : decode cX8_worth 45 = .ok (.aload_n 0, 1) := by decide +kernel
theorem dX8_worth_46 : decode cX8_worth 46 = .ok (.iload_n 1, 1) := by decide +kernel
theorem dX8_worth_47 : decode cX8_worth 47 = .ok (.invokevirtual 268, 3) := by decide +kernel
theorem dX8_worth_50 : decode cX8_worth 50 = .ok (.aload_n 0, 1) := by decide +kernel
theorem dX8_worth_51 : decode cX8_worth 51 = .ok (.getfield 41, 3) := by decide +kernel
theorem dX8_worth_54 : decode cX8_worth 54 = .ok (.iload_n 2, 1) := by decide +kernel
theorem dX8_worth_55 : decode cX8_worth 55 = .ok (.iload_n 3, 1) := by decide +kernel
theorem dX8_worth_56 : decode cX8_worth 56 = .ok (.iload 4, 2) := by decide +kernel
theorem dX8_worth_58 : decode cX8_worth 58 = .ok (.invokestatic 242, 3) := by decide +kernel
theorem dX8_worth_61 : decode cX8_worth 61 = .ok (.iaload, 1) := by decide +kernel
theorem dX8_worth_62 : decode cX8_worth 62 = .ok (.ireturn, 1) := by decide +kernel
theorem f_m_goingOn_rows : True := trivial
theorem dX8_goingOn_0 : decode cX8_goingOn 0 = .ok (.aload_n 0, 1) := by decide +kernel
theorem dX8_goingOn_1 : decode cX8_goingOn 1 = .ok (.iload_n 1, 1) := by decide +kernel
theorem dX8_goingOn_2 : decode cX8_goingOn 2 = .ok (.invokevirtual 206, 3) := by decide +kernel
theorem dX8_goingOn_5 : decode cX8_goingOn 5 = .ok (.ifCond .eq 12, 3) := by decide +kernel
theorem dX8_goingOn_8 : decode cX8_goingOn 8 = .ok (.aload_n 0, 1) := by decide +kernel
theorem dX8_goingOn_9 : decode cX8_goingOn 9 = .ok (.iload_n 1, 1) := by decide +kernel
theorem dX8_goingOn_10 : decode cX8_goingOn 10 = .ok (.iload_n 3, 1) := by decide +kernel
theorem dX8_goingOn_11 : decode cX8_goingOn 11 = .ok (.invokevirtual 215, 3) := by decide +kernel
theorem dX8_goingOn_14 : decode cX8_goingOn 14 = .ok (.ifCond .ne 7, 3) := by decide +kernel
theorem dX8_goingOn_17 : decode cX8_goingOn 17 = .ok (.sipush (-1001), 3) := by decide +kernel
theorem dX8_goingOn_20 : decode cX8_goingOn 20 = .ok (.ireturn, 1) := by decide +kernel
theorem dX8_goingOn_21 : decode cX8_goingOn 21 = .ok (.aload_n 0, 1) := by decide +kernel
theorem dX8_goingOn_22 : decode cX8_goingOn 22 = .ok (.iload_n 1, 1) := by decide +kernel
theorem dX8_goingOn_23 : decode cX8_goingOn 23 = .ok (.iload_n 2, 1) := by decide +kernel
theorem dX8_goingOn_24 : decode cX8_goingOn 24 = .ok (.invokevirtual 234, 3) := by decide +kernel
theorem dX8_goingOn_27 : decode cX8_goingOn 27 = .ok (.ifCond .eq 14, 3) := by decide +kernel
theorem dX8_goingOn_30 : decode cX8_goingOn 30 = .ok (.aload_n 0, 1) := by decide +kernel
theorem dX8_goingOn_31 : decode cX8_goingOn 31 = .ok (.iload_n 1, 1) := by decide +kernel
theorem dX8_goingOn_32 : decode cX8_goingOn 32 = .ok (.iload_n 3, 1) := by decide +kernel
theorem dX8_goingOn_33 : decode cX8_goingOn 33 = .ok (.iload 4, 2) := by decide +kernel
theorem dX8_goingOn_35 : decode cX8_goingOn 35 = .ok (.invokevirtual 264, 3) := by decide +kernel
theorem dX8_goingOn_38 : decode cX8_goingOn 38 = .ok (.ifCond .ne 7, 3) := by decide +kernel
theorem dX8_goingOn_41 : decode cX8_goingOn 41 = .ok (.sipush (-1002), 3) := by decide +kernel
theorem dX8_goingOn_44 : decode cX8_goingOn 44 = .ok (.ireturn, 1) := by decide +kernel
theorem dX8_goingOn_45 : decode cX8_goingOn 45 = .ok (.aload_n 0, 1) := by decide +kernel
theorem dX8_goingOn_46 : decode cX8_goingOn 46 = .ok (.iload_n 1, 1) := by decide +kernel
theorem dX8_goingOn_47 : decode cX8_goingOn 47 = .ok (.invokevirtual 268, 3) := by decide +kernel
theorem dX8_goingOn_50 : decode cX8_goingOn 50 = .ok (.aload_n 0, 1) := by decide +kernel
theorem dX8_goingOn_51 : decode cX8_goingOn 51 = .ok (.getfield 38, 3) := by decide +kernel
theorem dX8_goingOn_54 : decode cX8_goingOn 54 = .ok (.iload_n 2, 1) := by decide +kernel
theorem dX8_goingOn_55 : decode cX8_goingOn 55 = .ok (.iload_n 3, 1) := by decide +kernel
theorem dX8_goingOn_56 : decode cX8_goingOn 56 = .ok (.iload 4, 2) := by decide +kernel
theorem dX8_goingOn_58 : decode cX8_goingOn 58 = .ok (.invokestatic 242, 3) := by decide +kernel
theorem dX8_goingOn_61 : decode cX8_goingOn 61 = .ok (.iaload, 1) := by decide +kernel
theorem dX8_goingOn_62 : decode cX8_goingOn 62 = .ok (.ireturn, 1) := by decide +kernel
theorem f_m_takes_rows : True := trivial
theorem dX8_takes_0 : decode cX8_takes 0 = .ok (.aload_n 0, 1) := by decide +kernel
theorem dX8_takes_1 : decode cX8_takes 1 = .ok (.iload_n 1, 1) := by decide +kernel
theorem dX8_takes_2 : decode cX8_takes 2 = .ok (.invokevirtual 206, 3) := by decide +kernel
theorem dX8_takes_5 : decode cX8_takes 5 = .ok (.ifCond .eq 12, 3) := by decide +kernel
theorem dX8_takes_8 : decode cX8_takes 8 = .ok (.aload_n 0, 1) := by decide +kernel
theorem dX8_takes_9 : decode cX8_takes 9 = .ok (.iload_n 1, 1) := by decide +kernel
theorem dX8_takes_10 : decode cX8_takes 10 = .ok (.iload_n 3, 1) := by decide +kernel
theorem dX8_takes_11 : decode cX8_takes 11 = .ok (.invokevirtual 215, 3) := by decide +kernel
theorem dX8_takes_14 : decode cX8_takes 14 = .ok (.ifCond .ne 7, 3) := by decide +kernel
theorem dX8_takes_17 : decode cX8_takes 17 = .ok (.sipush (-1001), 3) := by decide +kernel
theorem dX8_takes_20 : decode cX8_takes 20 = .ok (.ireturn, 1) := by decide +kernel
theorem dX8_takes_21 : decode cX8_takes 21 = .ok (.aload_n 0, 1) := by decide +kernel
theorem dX8_takes_22 : decode cX8_takes 22 = .ok (.iload_n 1, 1) := by decide +kernel
theorem dX8_takes_23 : decode cX8_takes 23 = .ok (.iload_n 2, 1) := by decide +kernel
theorem dX8_takes_24 : decode cX8_takes 24 = .ok (.invokevirtual 234, 3) := by decide +kernel
theorem dX8_takes_27 : decode cX8_takes 27 = .ok (.ifCond .eq 14, 3) := by decide +kernel
theorem dX8_takes_30 : decode cX8_takes 30 = .ok (.aload_n 0, 1) := by decide +kernel
theorem dX8_takes_31 : decode cX8_takes 31 = .ok (.iload_n 1, 1) := by decide +kernel
theorem dX8_takes_32 : decode cX8_takes 32 = .ok (.iload_n 3, 1) := by decide +kernel
theorem dX8_takes_33 : decode cX8_takes 33 = .ok (.iload 4, 2) := by decide +kernel
theorem dX8_takes_35 : decode cX8_takes 35 = .ok (.invokevirtual 264, 3) := by decide +kernel
theorem dX8_takes_38 : decode cX8_takes 38 = .ok (.ifCond .ne 7, 3) := by decide +kernel
theorem dX8_takes_41 : decode cX8_takes 41 = .ok (.sipush (-1002), 3) := by decide +kernel
theorem dX8_takes_44 : decode cX8_takes 44 = .ok (.ireturn, 1) := by decide +kernel
theorem dX8_takes_45 : decode cX8_takes 45 = .ok (.iload 4, 2) := by decide +kernel
theorem dX8_takes_47 : decode cX8_takes 47 = .ok (.iconst 1, 1) := by decide +kernel
theorem dX8_takes_48 : decode cX8_takes 48 = .ok (.iand, 1) := by decide +kernel
theorem dX8_takes_49 : decode cX8_takes 49 = .ok (.ifCond .ne 7, 3) := by decide +kernel
theorem dX8_takes_52 : decode cX8_takes 52 = .ok (.sipush (-1003), 3) := by decide +kernel
theorem dX8_takes_55 : decode cX8_takes 55 = .ok (.ireturn, 1) := by decide +kernel
theorem dX8_takes_56 : decode cX8_takes 56 = .ok (.aload_n 0, 1) := by decide +kernel
theorem dX8_takes_57 : decode cX8_takes 57 = .ok (.iload_n 1, 1) := by decide +kernel
theorem dX8_takes_58 : decode cX8_takes 58 = .ok (.invokevirtual 268, 3) := by decide +kernel
theorem dX8_takes_61 : decode cX8_takes 61 = .ok (.aload_n 0, 1) := by decide +kernel
theorem dX8_takes_62 : decode cX8_takes 62 = .ok (.iload_n 1, 1) := by decide +kernel
theorem dX8_takes_63 : decode cX8_takes 63 = .ok (.iload_n 2, 1) := by decide +kernel
theorem dX8_takes_64 : decode cX8_takes 64 = .ok (.iload_n 3, 1) := by decide +kernel
theorem dX8_takes_65 : decode cX8_takes 65 = .ok (.iload 4, 2) := by decide +kernel
theorem dX8_takes_67 : decode cX8_takes 67 = .ok (.invokevirtual 272, 3) := by decide +kernel
theorem dX8_takes_70 : decode cX8_takes 70 = .ok (.ifCond .eq 7, 3) := by decide +kernel
theorem dX8_takes_73 : decode cX8_takes 73 = .ok (.iconst 1, 1) := by decide +kernel
theorem dX8_takes_74 : decode cX8_takes 74 = .ok (.goto 4, 3) := by decide +kernel
theorem dX8_takes_77 : decode cX8_takes 77 = .ok (.iconst 0, 1) := by decide +kernel
theorem dX8_takes_78 : decode cX8_takes 78 = .ok (.ireturn, 1) := by decide +kernel
theorem f_m_start_rows : True := trivial
theorem dX8_start_0 : decode cX8_start 0 = .ok (.aload_n 0, 1) := by decide +kernel
theorem dX8_start_1 : decode cX8_start 1 = .ok (.iload_n 1, 1) := by decide +kernel
theorem dX8_start_2 : decode cX8_start 2 = .ok (.invokevirtual 206, 3) := by decide +kernel
theorem dX8_start_5 : decode cX8_start 5 = .ok (.ifCond .ne 7, 3) := by decide +kernel
theorem dX8_start_8 : decode cX8_start 8 = .ok (.sipush (-1001), 3) := by decide +kernel
theorem dX8_start_11 : decode cX8_start 11 = .ok (.ireturn, 1) := by decide +kernel
theorem dX8_start_12 : decode cX8_start 12 = .ok (.aload_n 0, 1) := by decide +kernel
theorem dX8_start_13 : decode cX8_start 13 = .ok (.iload_n 1, 1) := by decide +kernel
theorem dX8_start_14 : decode cX8_start 14 = .ok (.iload_n 2, 1) := by decide +kernel
theorem dX8_start_15 : decode cX8_start 15 = .ok (.invokevirtual 234, 3) := by decide +kernel
theorem dX8_start_18 : decode cX8_start 18 = .ok (.ifCond .ne 7, 3) := by decide +kernel
theorem dX8_start_21 : decode cX8_start 21 = .ok (.sipush (-1002), 3) := by decide +kernel
theorem dX8_start_24 : decode cX8_start 24 = .ok (.ireturn, 1) := by decide +kernel
theorem dX8_start_25 : decode cX8_start 25 = .ok (.aload_n 0, 1) := by decide +kernel
theorem dX8_start_26 : decode cX8_start 26 = .ok (.iload_n 1, 1) := by decide +kernel
theorem dX8_start_27 : decode cX8_start 27 = .ok (.invokevirtual 268, 3) := by decide +kernel
theorem dX8_start_30 : decode cX8_start 30 = .ok (.aload_n 0, 1) := by decide +kernel
theorem dX8_start_31 : decode cX8_start 31 = .ok (.getfield 44, 3) := by decide +kernel
theorem dX8_start_34 : decode cX8_start 34 = .ok (.iload_n 2, 1) := by decide +kernel
theorem dX8_start_35 : decode cX8_start 35 = .ok (.iaload, 1) := by decide +kernel
theorem dX8_start_36 : decode cX8_start 36 = .ok (.ireturn, 1) := by decide +kernel
theorem f_m_end_rows : True := trivial
theorem dX8_end_0 : decode cX8_end 0 = .ok (.aload_n 0, 1) := by decide +kernel
theorem dX8_end_1 : decode cX8_end 1 = .ok (.iload_n 1, 1) := by decide +kernel
theorem dX8_end_2 : decode cX8_end 2 = .ok (.invokevirtual 206, 3) := by decide +kernel
theorem dX8_end_5 : decode cX8_end 5 = .ok (.ifCond .ne 7, 3) := by decide +kernel
theorem dX8_end_8 : decode cX8_end 8 = .ok (.sipush (-1001), 3) := by decide +kernel
theorem dX8_end_11 : decode cX8_end 11 = .ok (.ireturn, 1) := by decide +kernel
theorem dX8_end_12 : decode cX8_end 12 = .ok (.aload_n 0, 1) := by decide +kernel
theorem dX8_end_13 : decode cX8_end 13 = .ok (.iload_n 1, 1) := by decide +kernel
theorem dX8_end_14 : decode cX8_end 14 = .ok (.iload_n 2, 1) := by decide +kernel
theorem dX8_end_15 : decode cX8_end 15 = .ok (.invokevirtual 234, 3) := by decide +kernel
theorem dX8_end_18 : decode cX8_end 18 = .ok (.ifCond .eq 13, 3) := by decide +kernel
theorem dX8_end_21 : decode cX8_end 21 = .ok (.iload_n 3, 1) := by decide +kernel
theorem dX8_end_22 : decode cX8_end 22 = .ok (.i2l, 1) := by decide +kernel
theorem dX8_end_23 : decode cX8_end 23 = .ok (.lconst 0, 1) := by decide +kernel
theorem dX8_end_24 : decode cX8_end 24 = .ok (.lconst 1, 1) := by decide +kernel
theorem dX8_end_25 : decode cX8_end 25 = .ok (.invokestatic 107, 3) := by decide +kernel
theorem dX8_end_28 : decode cX8_end 28 = .ok (.ifCond .ne 7, 3) := by decide +kernel
theorem dX8_end_31 : decode cX8_end 31 = .ok (.sipush (-1002), 3) := by decide +kernel
theorem dX8_end_34 : decode cX8_end 34 = .ok (.ireturn, 1) := by decide +kernel
theorem dX8_end_35 : decode cX8_end 35 = .ok (.aload_n 0, 1) := by decide +kernel
theorem dX8_end_36 : decode cX8_end 36 = .ok (.iload_n 1, 1) := by decide +kernel
theorem dX8_end_37 : decode cX8_end 37 = .ok (.invokevirtual 268, 3) := by decide +kernel
theorem dX8_end_40 : decode cX8_end 40 = .ok (.iload_n 3, 1) := by decide +kernel
theorem dX8_end_41 : decode cX8_end 41 = .ok (.ifCond .ne 12, 3) := by decide +kernel
theorem dX8_end_44 : decode cX8_end 44 = .ok (.aload_n 0, 1) := by decide +kernel
theorem dX8_end_45 : decode cX8_end 45 = .ok (.getfield 47, 3) := by decide +kernel
theorem dX8_end_48 : decode cX8_end 48 = .ok (.iload_n 2, 1) := by decide +kernel
theorem dX8_end_49 : decode cX8_end 49 = .ok (.iaload, 1) := by decide +kernel
theorem dX8_end_50 : decode cX8_end 50 = .ok (.goto 17, 3) := by decide +kernel
theorem dX8_end_53 : decode cX8_end 53 = .ok (.aload_n 0, 1) := by decide +kernel
theorem dX8_end_54 : decode cX8_end 54 = .ok (.getfield 50, 3) := by decide +kernel
theorem dX8_end_57 : decode cX8_end 57 = .ok (.iload_n 2, 1) := by decide +kernel
theorem dX8_end_58 : decode cX8_end 58 = .ok (.baload, 1) := by decide +kernel
theorem dX8_end_59 : decode cX8_end 59 = .ok (.ifCond .eq 7, 3) := by decide +kernel
theorem dX8_end_62 : decode cX8_end 62 = .ok (.iconst 1, 1) := by decide +kernel
theorem dX8_end_63 : decode cX8_end 63 = .ok (.goto 4, 3) := by decide +kernel
theorem dX8_end_66 : decode cX8_end 66 = .ok (.iconst 0, 1) := by decide +kernel
theorem dX8_end_67 : decode cX8_end 67 = .ok (.ireturn, 1) := by decide +kernel
theorem f_m_which_rows : True := trivial
theorem dX8_which_0 : decode cX8_which 0 = .ok (.aload_n 0, 1) := by decide +kernel
theorem dX8_which_1 : decode cX8_which 1 = .ok (.iload_n 1, 1) := by decide +kernel
theorem dX8_which_2 : decode cX8_which 2 = .ok (.invokevirtual 206, 3) := by decide +kernel
theorem dX8_which_5 : decode cX8_which 5 = .ok (.ifCond .eq 11, 3) := by decide +kernel
theorem dX8_which_8 : decode cX8_which 8 = .ok (.aload_n 0, 1) := by decide +kernel
theorem dX8_which_9 : decode cX8_which 9 = .ok (.iload_n 2, 1) := by decide +kernel
theorem dX8_which_10 : decode cX8_which 10 = .ok (.invokevirtual 206, 3) := by decide +kernel
theorem dX8_which_13 : decode cX8_which 13 = .ok (.ifCond .ne 7, 3) := by decide +kernel
theorem dX8_which_16 : decode cX8_which 16 = .ok (.sipush (-1001), 3) := by decide +kernel
theorem dX8_which_19 : decode cX8_which 19 = .ok (.ireturn, 1) := by decide +kernel
theorem dX8_which_20 : decode cX8_which 20 = .ok (.aload_n 0, 1) := by decide +kernel
theorem dX8_which_21 : decode cX8_which 21 = .ok (.iload_n 1, 1) := by decide +kernel
theorem dX8_which_22 : decode cX8_which 22 = .ok (.invokevirtual 268, 3) := by decide +kernel
theorem dX8_which_25 : decode cX8_which 25 = .ok (.aload_n 0, 1) := by decide +kernel
theorem dX8_which_26 : decode cX8_which 26 = .ok (.getfield 44, 3) := by decide +kernel
theorem dX8_which_29 : decode cX8_which 29 = .ok (.iconst 0, 1) := by decide +kernel
theorem dX8_which_30 : decode cX8_which 30 = .ok (.iaload, 1) := by decide +kernel
theorem dX8_which_31 : decode cX8_which 31 = .ok (.istore_n 3, 1) := by decide +kernel
theorem dX8_which_32 : decode cX8_which 32 = .ok (.aload_n 0, 1) := by decide +kernel
theorem dX8_which_33 : decode cX8_which 33 = .ok (.iload_n 2, 1) := by decide +kernel
theorem dX8_which_34 : decode cX8_which 34 = .ok (.invokevirtual 268, 3) := by decide +kernel
theorem dX8_which_37 : decode cX8_which 37 = .ok (.aload_n 0, 1) := by decide +kernel
theorem dX8_which_38 : decode cX8_which 38 = .ok (.getfield 44, 3) := by decide +kernel
theorem dX8_which_41 : decode cX8_which 41 = .ok (.iconst 0, 1) := by decide +kernel
theorem dX8_which_42 : decode cX8_which 42 = .ok (.iaload, 1) := by decide +kernel
theorem dX8_which_43 : decode cX8_which 43 = .ok (.iload_n 3, 1) := by decide +kernel
theorem dX8_which_44 : decode cX8_which 44 = .ok (.if_icmp .ge 7, 3) := by decide +kernel
theorem dX8_which_47 : decode cX8_which 47 = .ok (.iload_n 2, 1) := by decide +kernel
theorem dX8_which_48 : decode cX8_which 48 = .ok (.goto 4, 3) := by decide +kernel
theorem dX8_which_51 : decode cX8_which 51 = .ok (.iload_n 1, 1) := by decide +kernel
theorem dX8_which_52 : decode cX8_which 52 = .ok (.ireturn, 1) := by decide +kernel
theorem f_m_clear_rows : True := trivial
theorem dX8_clear_0 : decode cX8_clear 0 = .ok (.aload_n 0, 1) := by decide +kernel
theorem dX8_clear_1 : decode cX8_clear 1 = .ok (.getfield 304, 3) := by decide +kernel
theorem dX8_clear_4 : decode cX8_clear 4 = .ok (.istore_n 1, 1) := by decide +kernel
theorem dX8_clear_5 : decode cX8_clear 5 = .ok (.aload_n 0, 1) := by decide +kernel
theorem dX8_clear_6 : decode cX8_clear 6 = .ok (.iconst 0, 1) := by decide +kernel
theorem dX8_clear_7 : decode cX8_clear 7 = .ok (.putfield 304, 3) := by decide +kernel
theorem dX8_clear_10 : decode cX8_clear 10 = .ok (.iload_n 1, 1) := by decide +kernel
theorem dX8_clear_11 : decode cX8_clear 11 = .ok (.ireturn, 1) := by decide +kernel
theorem f_m_seed_rows : True := trivial
theorem dX8_seed_0 : decode cX8_seed 0 = .ok (.iload_n 1, 1) := by decide +kernel
theorem dX8_seed_1 : decode cX8_seed 1 = .ok (.ifCond .ge 7, 3) := by decide +kernel
theorem dX8_seed_4 : decode cX8_seed 4 = .ok (.sipush (-1002), 3) := by decide +kernel
theorem dX8_seed_7 : decode cX8_seed 7 = .ok (.ireturn, 1) := by decide +kernel
theorem dX8_seed_8 : decode cX8_seed 8 = .ok (.aload_n 0, 1) := by decide +kernel
theorem dX8_seed_9 : decode cX8_seed 9 = .ok (.getfield 374, 3) := by decide +kernel
theorem dX8_seed_12 : decode cX8_seed 12 = .ok (.istore_n 2, 1) := by decide +kernel
theorem dX8_seed_13 : decode cX8_seed 13 = .ok (.aload_n 0, 1) := by decide +kernel
theorem dX8_seed_14 : decode cX8_seed 14 = .ok (.iload_n 1, 1) := by decide +kernel
theorem dX8_seed_15 : decode cX8_seed 15 = .ok (.putfield 374, 3) := by decide +kernel
theorem dX8_seed_18 : decode cX8_seed 18 = .ok (.iload_n 2, 1) := by decide +kernel
theorem dX8_seed_19 : decode cX8_seed 19 = .ok (.ireturn, 1) := by decide +kernel
theorem f_m_saw_rows : True := trivial
theorem dX8_saw_0 : decode cX8_saw 0 = .ok (.aload_n 0, 1) := by decide +kernel
theorem dX8_saw_1 : decode cX8_saw 1 = .ok (.getfield 304, 3) := by decide +kernel
theorem dX8_saw_4 : decode cX8_saw 4 = .ok (.bipush 24, 2) := by decide +kernel
theorem dX8_saw_6 : decode cX8_saw 6 = .ok (.if_icmp .ne 7, 3) := by decide +kernel
theorem dX8_saw_9 : decode cX8_saw 9 = .ok (.sipush (-1004), 3) := by decide +kernel
theorem dX8_saw_12 : decode cX8_saw 12 = .ok (.ireturn, 1) := by decide +kernel
theorem dX8_saw_13 : decode cX8_saw 13 = .ok (.aload_n 0, 1) := by decide +kernel
theorem dX8_saw_14 : decode cX8_saw 14 = .ok (.getfield 75, 3) := by decide +kernel
theorem dX8_saw_17 : decode cX8_saw 17 = .ok (.aload_n 0, 1) := by decide +kernel
theorem dX8_saw_18 : decode cX8_saw 18 = .ok (.getfield 304, 3) := by decide +kernel
theorem dX8_saw_21 : decode cX8_saw 21 = .ok (.iload_n 1, 1) := by decide +kernel
theorem dX8_saw_22 : decode cX8_saw 22 = .ok (.bastore, 1) := by decide +kernel
theorem dX8_saw_23 : decode cX8_saw 23 = .ok (.aload_n 0, 1) := by decide +kernel
theorem dX8_saw_24 : decode cX8_saw 24 = .ok (.dup, 1) := by decide +kernel
theorem dX8_saw_25 : decode cX8_saw 25 = .ok (.getfield 304, 3) := by decide +kernel
theorem dX8_saw_28 : decode cX8_saw 28 = .ok (.iconst 1, 1) := by decide +kernel
theorem dX8_saw_29 : decode cX8_saw 29 = .ok (.iadd, 1) := by decide +kernel
theorem dX8_saw_30 : decode cX8_saw 30 = .ok (.putfield 304, 3) := by decide +kernel
theorem dX8_saw_33 : decode cX8_saw 33 = .ok (.aload_n 0, 1) := by decide +kernel
theorem dX8_saw_34 : decode cX8_saw 34 = .ok (.getfield 304, 3) := by decide +kernel
theorem dX8_saw_37 : decode cX8_saw 37 = .ok (.ireturn, 1) := by decide +kernel
theorem tw_996 : Cond.fieldLink RX8 276 "LastPlaceModel" "rules" "I" ∈ LW := LWm4 (i := 198) (by decide +kernel) rfl
theorem tw_1005 : Cond.fieldLink RX8 78 "LastPlaceModel" "boys" "[I" ∈ LW := LWm4 (i := 207) (by decide +kernel) rfl
theorem tw_1006 : Cond.fieldLink RX8 81 "LastPlaceModel" "boysNext" "[I" ∈ LW := LWm4 (i := 208) (by decide +kernel) rfl
theorem tw_1007 : Cond.fieldLink RX8 315 "LastPlaceModel" "cars" "I" ∈ LW := LWm4 (i := 209) (by decide +kernel) rfl
theorem tw_1110 : Cond.constantLong RX8 111 (8) ∈ LW := LWm5 (i := 72) (by decide +kernel) rfl
theorem tw_1114 : Cond.constantLong RX8 116 (255) ∈ LW := LWm5 (i := 76) (by decide +kernel) rfl
theorem tw_1362 : Cond.constantLong RX8 307 (500000) ∈ LW := LWm6 (i := 84) (by decide +kernel) rfl
theorem tw_1363 : Cond.constantLong RX8 309 (1000000) ∈ LW := LWm6 (i := 85) (by decide +kernel) rfl
theorem tw_1368 : Cond.constantLong RX8 311 (99) ∈ LW := LWm6 (i := 90) (by decide +kernel) rfl
theorem tw_1484 : Cond.constantLong RX8 377 (1103515245) ∈ LW := LWm6 (i := 206) (by decide +kernel) rfl
theorem tw_1485 : Cond.constantLong RX8 379 (12345) ∈ LW := LWm6 (i := 207) (by decide +kernel) rfl
theorem tw_1486 : Cond.constantLong RX8 381 (2147483648) ∈ LW := LWm6 (i := 208) (by decide +kernel) rfl
theorem tw_1487 : Cond.constant RX8 383 (65536) ∈ LW := LWm6 (i := 209) (by decide +kernel) rfl
theorem f_m_draw_rows : True := trivial
theorem dX8_draw_0 : decode cX8_draw 0 = .ok (.aload_n 0, 1) := by decide +kernel
theorem dX8_draw_1 : decode cX8_draw 1 = .ok (.aload_n 0, 1) := by decide +kernel
theorem dX8_draw_2 : decode cX8_draw 2 = .ok (.getfield 374, 3) := by decide +kernel
theorem dX8_draw_5 : decode cX8_draw 5 = .ok (.i2l, 1) := by decide +kernel
theorem dX8_draw_6 : decode cX8_draw 6 = .ok (.ldc2_w 377, 3) := by decide +kernel
theorem dX8_draw_9 : decode cX8_draw 9 = .ok (.lmul, 1) := by decide +kernel
theorem dX8_draw_10 : decode cX8_draw 10 = .ok (.ldc2_w 379, 3) := by decide +kernel
theorem dX8_draw_13 : decode cX8_draw 13 = .ok (.ladd, 1) := by decide +kernel
theorem dX8_draw_14 : decode cX8_draw 14 = .ok (.ldc2_w 381, 3) := by decide +kernel
theorem dX8_draw_17 : decode cX8_draw 17 = .ok (.lrem, 1) := by decide +kernel
theorem dX8_draw_18 : decode cX8_draw 18 = .ok (.l2i, 1) := by decide +kernel
theorem dX8_draw_19 : decode cX8_draw 19 = .ok (.putfield 374, 3) := by decide +kernel
theorem dX8_draw_22 : decode cX8_draw 22 = .ok (.aload_n 0, 1) := by decide +kernel
theorem dX8_draw_23 : decode cX8_draw 23 = .ok (.getfield 374, 3) := by decide +kernel
theorem dX8_draw_26 : decode cX8_draw 26 = .ok (.ldc_w 383, 3) := by decide +kernel
theorem dX8_draw_29 : decode cX8_draw 29 = .ok (.idiv, 1) := by decide +kernel
theorem dX8_draw_30 : decode cX8_draw 30 = .ok (.bipush 100, 2) := by decide +kernel
theorem dX8_draw_32 : decode cX8_draw 32 = .ok (.irem, 1) := by decide +kernel
theorem dX8_draw_33 : decode cX8_draw 33 = .ok (.ireturn, 1) := by decide +kernel
theorem f_m_bar_rows : True := trivial
theorem dX8_bar_0 : decode cX8_bar 0 = .ok (.aload_n 0, 1) := by decide +kernel
theorem dX8_bar_1 : decode cX8_bar 1 = .ok (.iload_n 1, 1) := by decide +kernel
theorem dX8_bar_2 : decode cX8_bar 2 = .ok (.invokevirtual 206, 3) := by decide +kernel
theorem dX8_bar_5 : decode cX8_bar 5 = .ok (.ifCond .ne 7, 3) := by decide +kernel
theorem dX8_bar_8 : decode cX8_bar 8 = .ok (.sipush (-1001), 3) := by decide +kernel
theorem dX8_bar_11 : decode cX8_bar 11 = .ok (.ireturn, 1) := by decide +kernel
theorem dX8_bar_12 : decode cX8_bar 12 = .ok (.aload_n 0, 1) := by decide +kernel
theorem dX8_bar_13 : decode cX8_bar 13 = .ok (.iload_n 1, 1) := by decide +kernel
theorem dX8_bar_14 : decode cX8_bar 14 = .ok (.iload_n 2, 1) := by decide +kernel
theorem dX8_bar_15 : decode cX8_bar 15 = .ok (.invokevirtual 234, 3) := by decide +kernel
theorem dX8_bar_18 : decode cX8_bar 18 = .ok (.ifCond .ne 7, 3) := by decide +kernel
theorem dX8_bar_21 : decode cX8_bar 21 = .ok (.sipush (-1002), 3) := by decide +kernel
theorem dX8_bar_24 : decode cX8_bar 24 = .ok (.ireturn, 1) := by decide +kernel
theorem dX8_bar_25 : decode cX8_bar 25 = .ok (.aload_n 0, 1) := by decide +kernel
theorem dX8_bar_26 : decode cX8_bar 26 = .ok (.iload_n 1, 1) := by decide +kernel
theorem dX8_bar_27 : decode cX8_bar 27 = .ok (.invokevirtual 268, 3) := by decide +kernel
theorem dX8_bar_30 : decode cX8_bar 30 = .ok (.aload_n 0, 1) := by decide +kernel
theorem dX8_bar_31 : decode cX8_bar 31 = .ok (.getfield 7, 3) := by decide +kernel
theorem dX8_bar_34 : decode cX8_bar 34 = .ok (.iload_n 1, 1) := by decide +kernel
theorem dX8_bar_35 : decode cX8_bar 35 = .ok (.iaload, 1) := by decide +kernel
theorem dX8_bar_36 : decode cX8_bar 36 = .ok (.istore_n 3, 1) := by decide +kernel
theorem dX8_bar_37 : decode cX8_bar 37 = .ok (.iconst 0, 1) := by decide +kernel
theorem dX8_bar_38 : decode cX8_bar 38 = .ok (.istore 4, 2) := by decide +kernel
theorem dX8_bar_40 : decode cX8_bar 40 = .ok (.iload 4, 2) := by decide +kernel
theorem dX8_bar_42 : decode cX8_bar 42 = .ok (.iload_n 3, 1) := by decide +kernel
theorem dX8_bar_43 : decode cX8_bar 43 = .ok (.if_icmp .gt 95, 3) := by decide +kernel
theorem dX8_bar_46 : decode cX8_bar 46 = .ok (.iconst 1, 1) := by decide +kernel
theorem dX8_bar_47 : decode cX8_bar 47 = .ok (.istore 5, 2) := by decide +kernel
theorem dX8_bar_49 : decode cX8_bar 49 = .ok (.iconst 0, 1) := by decide +kernel
theorem dX8_bar_50 : decode cX8_bar 50 = .ok (.istore 6, 2) := by decide +kernel
theorem dX8_bar_52 : decode cX8_bar 52 = .ok (.iload 6, 2) := by decide +kernel
theorem dX8_bar_54 : decode cX8_bar 54 = .ok (.iload_n 3, 1) := by decide +kernel
theorem dX8_bar_55 : decode cX8_bar 55 = .ok (.if_icmp .ge 69, 3) := by decide +kernel
theorem dX8_bar_58 : decode cX8_bar 58 = .ok (.iconst 1, 1) := by decide +kernel
theorem dX8_bar_59 : decode cX8_bar 59 = .ok (.istore 7, 2) := by decide +kernel
theorem dX8_bar_61 : decode cX8_bar 61 = .ok (.iload 7, 2) := by decide +kernel
theorem dX8_bar_63 : decode cX8_bar 63 = .ok (.iconst 1, 1) := by decide +kernel
theorem dX8_bar_64 : decode cX8_bar 64 = .ok (.aload_n 0, 1) := by decide +kernel
theorem dX8_bar_65 : decode cX8_bar 65 = .ok (.iload_n 1, 1) := by decide +kernel
theorem dX8_bar_66 : decode cX8_bar 66 = .ok (.iload 6, 2) := by decide +kernel
theorem dX8_bar_68 : decode cX8_bar 68 = .ok (.invokevirtual 251, 3) := by decide +kernel
theorem dX8_bar_71 : decode cX8_bar 71 = .ok (.ishl, 1) := by decide +kernel
theorem dX8_bar_72 : decode cX8_bar 72 = .ok (.if_icmp .ge 46, 3) := by decide +kernel
theorem dX8_bar_75 : decode cX8_bar 75 = .ok (.iload 5, 2) := by decide +kernel
theorem dX8_bar_77 : decode cX8_bar 77 = .ok (.ifCond .eq 32, 3) := by decide +kernel
theorem dX8_bar_80 : decode cX8_bar 80 = .ok (.aload_n 0, 1) := by decide +kernel
theorem dX8_bar_81 : decode cX8_bar 81 = .ok (.iload_n 1, 1) := by decide +kernel
theorem dX8_bar_82 : decode cX8_bar 82 = .ok (.iload_n 2, 1) := by decide +kernel
theorem dX8_bar_83 : decode cX8_bar 83 = .ok (.iload 6, 2) := by decide +kernel
theorem dX8_bar_85 : decode cX8_bar 85 = .ok (.iload 7, 2) := by decide +kernel
theorem dX8_bar_87 : decode cX8_bar 87 = .ok (.invokevirtual 272, 3) := by decide +kernel
theorem dX8_bar_90 : decode cX8_bar 90 = .ok (.iload 6, 2) := by decide +kernel
theorem dX8_bar_92 : decode cX8_bar 92 = .ok (.iload 4, 2) := by decide +kernel
theorem dX8_bar_94 : decode cX8_bar 94 = .ok (.if_icmp .lt 7, 3) := by decide +kernel
theorem dX8_bar_97 : decode cX8_bar 97 = .ok (.iconst 1, 1) := by decide +kernel
theorem dX8_bar_98 : decode cX8_bar 98 = .ok (.goto 4, 3) := by decide +kernel
theorem dX8_bar_101 : decode cX8_bar 101 = .ok (.iconst 0, 1) := by decide +kernel
theorem dX8_bar_102 : decode cX8_bar 102 = .ok (.if_icmp .ne 7, 3) := by decide +kernel
theorem dX8_bar_105 : decode cX8_bar 105 = .ok (.iconst 1, 1) := by decide +kernel
theorem dX8_bar_106 : decode cX8_bar 106 = .ok (.goto 4, 3) := by decide +kernel
theorem dX8_bar_109 : decode cX8_bar 109 = .ok (.iconst 0, 1) := by decide +kernel
theorem dX8_bar_110 : decode cX8_bar 110 = .ok (.istore 5, 2) := by decide +kernel
theorem dX8_bar_112 : decode cX8_bar 112 = .ok (.iinc 7 2, 3) := by decide +kernel
theorem dX8_bar_115 : decode cX8_bar 115 = .ok (.goto (-54), 3) := by decide +kernel
theorem dX8_bar_118 : decode cX8_bar 118 = .ok (.iinc 6 1, 3) := by decide +kernel
theorem dX8_bar_121 : decode cX8_bar 121 = .ok (.goto (-69), 3) := by decide +kernel
theorem dX8_bar_124 : decode cX8_bar 124 = .ok (.iload 5, 2) := by decide +kernel
theorem dX8_bar_126 : decode cX8_bar 126 = .ok (.ifCond .eq 6, 3) := by decide +kernel
theorem dX8_bar_129 : decode cX8_bar 129 = .ok (.iload 4, 2) := by decide +kernel
theorem dX8_bar_131 : decode cX8_bar 131 = .ok (.ireturn, 1) := by decide +kernel
theorem dX8_bar_132 : decode cX8_bar 132 = .ok (.iinc 4 1, 3) := by decide +kernel
theorem dX8_bar_135 : decode cX8_bar 135 = .ok (.goto (-95), 3) := by decide +kernel
theorem dX8_bar_138 : decode cX8_bar 138 = .ok (.iconst (-1), 1) := by decide +kernel
theorem dX8_bar_139 : decode cX8_bar 139 = .ok (.ireturn, 1) := by decide +kernel
theorem f_m_count_rows : True := trivial
theorem dX8_count_0 : decode cX8_count 0 = .ok (.iconst 0, 1) := by decide +kernel
theorem dX8_count_1 : decode cX8_count 1 = .ok (.istore_n 2, 1) := by decide +kernel
theorem dX8_count_2 : decode cX8_count 2 = .ok (.iconst 0, 1) := by decide +kernel
theorem dX8_count_3 : decode cX8_count 3 = .ok (.istore_n 3, 1) := by decide +kernel
theorem dX8_count_4 : decode cX8_count 4 = .ok (.iload_n 3, 1) := by decide +kernel
theorem dX8_count_5 : decode cX8_count 5 = .ok (.aload_n 0, 1) := by decide +kernel
theorem dX8_count_6 : decode cX8_count 6 = .ok (.getfield 304, 3) := by decide +kernel
theorem dX8_count_9 : decode cX8_count 9 = .ok (.if_icmp .ge 26, 3) := by decide +kernel
theorem dX8_count_12 : decode cX8_count 12 = .ok (.iload_n 2, 1) := by decide +kernel
theorem dX8_count_13 : decode cX8_count 13 = .ok (.aload_n 0, 1) := by decide +kernel
theorem dX8_count_14 : decode cX8_count 14 = .ok (.getfield 75, 3) := by decide +kernel
theorem dX8_count_17 : decode cX8_count 17 = .ok (.iload_n 3, 1) := by decide +kernel
theorem dX8_count_18 : decode cX8_count 18 = .ok (.baload, 1) := by decide +kernel
theorem dX8_count_19 : decode cX8_count 19 = .ok (.ifCond .eq 7, 3) := by decide +kernel
theorem dX8_count_22 : decode cX8_count 22 = .ok (.iconst 1, 1) := by decide +kernel
theorem dX8_count_23 : decode cX8_count 23 = .ok (.goto 4, 3) := by decide +kernel
theorem dX8_count_26 : decode cX8_count 26 = .ok (.iconst 0, 1) := by decide +kernel
theorem dX8_count_27 : decode cX8_count 27 = .ok (.iadd, 1) := by decide +kernel
theorem dX8_count_28 : decode cX8_count 28 = .ok (.istore_n 2, 1) := by decide +kernel
theorem dX8_count_29 : decode cX8_count 29 = .ok (.iinc 3 1, 3) := by decide +kernel
theorem dX8_count_32 : decode cX8_count 32 = .ok (.goto (-28), 3) := by decide +kernel
theorem dX8_count_35 : decode cX8_count 35 = .ok (.iload_n 1, 1) := by decide +kernel
theorem dX8_count_36 : decode cX8_count 36 = .ok (.tableswitch 58 0 4 #[36, 41, 46, 48, 53], 36) := by decide +kernel
theorem dX8_count_72 : decode cX8_count 72 = .ok (.aload_n 0, 1) := by decide +kernel
theorem dX8_count_73 : decode cX8_count 73 = .ok (.getfield 276, 3) := by decide +kernel
theorem dX8_count_76 : decode cX8_count 76 = .ok (.ireturn, 1) := by decide +kernel
theorem dX8_count_77 : decode cX8_count 77 = .ok (.aload_n 0, 1) := by decide +kernel
theorem dX8_count_78 : decode cX8_count 78 = .ok (.getfield 304, 3) := by decide +kernel
theorem dX8_count_81 : decode cX8_count 81 = .ok (.ireturn, 1) := by decide +kernel
theorem dX8_count_82 : decode cX8_count 82 = .ok (.iload_n 2, 1) := by decide +kernel
theorem dX8_count_83 : decode cX8_count 83 = .ok (.ireturn, 1) := by decide +kernel
theorem dX8_count_84 : decode cX8_count 84 = .ok (.aload_n 0, 1) := by decide +kernel
theorem dX8_count_85 : decode cX8_count 85 = .ok (.getfield 315, 3) := by decide +kernel
theorem dX8_count_88 : decode cX8_count 88 = .ok (.ireturn, 1) := by decide +kernel
theorem dX8_count_89 : decode cX8_count 89 = .ok (.aload_n 0, 1) := by decide +kernel
theorem dX8_count_90 : decode cX8_count 90 = .ok (.getfield 113, 3) := by decide +kernel
theorem dX8_count_93 : decode cX8_count 93 = .ok (.ireturn, 1) := by decide +kernel
theorem dX8_count_94 : decode cX8_count 94 = .ok (.sipush (-1002), 3) := by decide +kernel
theorem dX8_count_97 : decode cX8_count 97 = .ok (.ireturn, 1) := by decide +kernel
theorem f_m_feed_rows : True := trivial
theorem dX8_feed_0 : decode cX8_feed 0 = .ok (.iload_n 1, 1) := by decide +kernel
theorem dX8_feed_1 : decode cX8_feed 1 = .ok (.i2l, 1) := by decide +kernel
theorem dX8_feed_2 : decode cX8_feed 2 = .ok (.lconst 1, 1) := by decide +kernel
theorem dX8_feed_3 : decode cX8_feed 3 = .ok (.ldc2_w 111, 3) := by decide +kernel
theorem dX8_feed_6 : decode cX8_feed 6 = .ok (.invokestatic 107, 3) := by decide +kernel
theorem dX8_feed_9 : decode cX8_feed 9 = .ok (.ifCond .ne 7, 3) := by decide +kernel
theorem dX8_feed_12 : decode cX8_feed 12 = .ok (.sipush (-1002), 3) := by decide +kernel
theorem dX8_feed_15 : decode cX8_feed 15 = .ok (.ireturn, 1) := by decide +kernel
theorem dX8_feed_16 : decode cX8_feed 16 = .ok (.aload_n 0, 1) := by decide +kernel
theorem dX8_feed_17 : decode cX8_feed 17 = .ok (.getfield 113, 3) := by decide +kernel
theorem dX8_feed_20 : decode cX8_feed 20 = .ok (.iload_n 1, 1) := by decide +kernel
theorem dX8_feed_21 : decode cX8_feed 21 = .ok (.iadd, 1) := by decide +kernel
theorem dX8_feed_22 : decode cX8_feed 22 = .ok (.sipush 240, 3) := by decide +kernel
theorem dX8_feed_25 : decode cX8_feed 25 = .ok (.if_icmp .le 7, 3) := by decide +kernel
theorem dX8_feed_28 : decode cX8_feed 28 = .ok (.sipush (-1004), 3) := by decide +kernel
theorem dX8_feed_31 : decode cX8_feed 31 = .ok (.ireturn, 1) := by decide +kernel
theorem dX8_feed_32 : decode cX8_feed 32 = .ok (.iload_n 1, 1) := by decide +kernel
theorem dX8_feed_33 : decode cX8_feed 33 = .ok (.iconst 1, 1) := by decide +kernel
theorem dX8_feed_34 : decode cX8_feed 34 = .ok (.isub, 1) := by decide +kernel
theorem dX8_feed_35 : decode cX8_feed 35 = .ok (.istore 4, 2) := by decide +kernel
theorem dX8_feed_37 : decode cX8_feed 37 = .ok (.iload 4, 2) := by decide +kernel
theorem dX8_feed_39 : decode cX8_feed 39 = .ok (.ifCond .lt 40, 3) := by decide +kernel
theorem dX8_feed_42 : decode cX8_feed 42 = .ok (.aload_n 0, 1) := by decide +kernel
theorem dX8_feed_43 : decode cX8_feed 43 = .ok (.getfield 22, 3) := by decide +kernel
theorem dX8_feed_46 : decode cX8_feed 46 = .ok (.aload_n 0, 1) := by decide +kernel
theorem dX8_feed_47 : decode cX8_feed 47 = .ok (.getfield 113, 3) := by decide +kernel
theorem dX8_feed_50 : decode cX8_feed 50 = .ok (.lload_n 2, 1) := by decide +kernel
theorem dX8_feed_51 : decode cX8_feed 51 = .ok (.bipush 8, 2) := by decide +kernel
theorem dX8_feed_53 : decode cX8_feed 53 = .ok (.iload 4, 2) := by decide +kernel
theorem dX8_feed_55 : decode cX8_feed 55 = .ok (.imul, 1) := by decide +kernel
theorem dX8_feed_56 : decode cX8_feed 56 = .ok (.lshr, 1) := by decide +kernel
theorem dX8_feed_57 : decode cX8_feed 57 = .ok (.ldc2_w 116, 3) := by decide +kernel
theorem dX8_feed_60 : decode cX8_feed 60 = .ok (.land, 1) := by decide +kernel
theorem dX8_feed_61 : decode cX8_feed 61 = .ok (.l2i, 1) := by decide +kernel
theorem dX8_feed_62 : decode cX8_feed 62 = .ok (.iastore, 1) := by decide +kernel
theorem dX8_feed_63 : decode cX8_feed 63 = .ok (.aload_n 0, 1) := by decide +kernel
theorem dX8_feed_64 : decode cX8_feed 64 = .ok (.dup, 1) := by decide +kernel
theorem dX8_feed_65 : decode cX8_feed 65 = .ok (.getfield 113, 3) := by decide +kernel
theorem dX8_feed_68 : decode cX8_feed 68 = .ok (.iconst 1, 1) := by decide +kernel
theorem dX8_feed_69 : decode cX8_feed 69 = .ok (.iadd, 1) := by decide +kernel
theorem dX8_feed_70 : decode cX8_feed 70 = .ok (.putfield 113, 3) := by decide +kernel
theorem dX8_feed_73 : decode cX8_feed 73 = .ok (.iinc 4 (-1), 3) := by decide +kernel
theorem dX8_feed_76 : decode cX8_feed 76 = .ok (.goto (-39), 3) := by decide +kernel
theorem dX8_feed_79 : decode cX8_feed 79 = .ok (.aload_n 0, 1) := by decide +kernel
theorem dX8_feed_80 : decode cX8_feed 80 = .ok (.getfield 113, 3) := by decide +kernel
theorem dX8_feed_83 : decode cX8_feed 83 = .ok (.ireturn, 1) := by decide +kernel
theorem f_m_judge_rows : True := trivial
theorem dX8_judge_0 : decode cX8_judge 0 = .ok (.aload_n 0, 1) := by decide +kernel
theorem dX8_judge_1 : decode cX8_judge 1 = .ok (.iload_n 1, 1) := by decide +kernel
theorem dX8_judge_2 : decode cX8_judge 2 = .ok (.invokevirtual 206, 3) := by decide +kernel
theorem dX8_judge_5 : decode cX8_judge 5 = .ok (.ifCond .ne 7, 3) := by decide +kernel
theorem dX8_judge_8 : decode cX8_judge 8 = .ok (.sipush (-1001), 3) := by decide +kernel
theorem dX8_judge_11 : decode cX8_judge 11 = .ok (.ireturn, 1) := by decide +kernel
theorem dX8_judge_12 : decode cX8_judge 12 = .ok (.aload_n 0, 1) := by decide +kernel
theorem dX8_judge_13 : decode cX8_judge 13 = .ok (.iload_n 1, 1) := by decide +kernel
theorem dX8_judge_14 : decode cX8_judge 14 = .ok (.iload_n 2, 1) := by decide +kernel
theorem dX8_judge_15 : decode cX8_judge 15 = .ok (.invokevirtual 234, 3) := by decide +kernel
theorem dX8_judge_18 : decode cX8_judge 18 = .ok (.ifCond .ne 7, 3) := by decide +kernel
theorem dX8_judge_21 : decode cX8_judge 21 = .ok (.sipush (-1002), 3) := by decide +kernel
theorem dX8_judge_24 : decode cX8_judge 24 = .ok (.ireturn, 1) := by decide +kernel
theorem dX8_judge_25 : decode cX8_judge 25 = .ok (.aload_n 0, 1) := by decide +kernel
theorem dX8_judge_26 : decode cX8_judge 26 = .ok (.getfield 304, 3) := by decide +kernel
theorem dX8_judge_29 : decode cX8_judge 29 = .ok (.ifCond .eq 34, 3) := by decide +kernel
theorem dX8_judge_32 : decode cX8_judge 32 = .ok (.aload_n 0, 1) := by decide +kernel
theorem dX8_judge_33 : decode cX8_judge 33 = .ok (.getfield 304, 3) := by decide +kernel
theorem dX8_judge_36 : decode cX8_judge 36 = .ok (.aload_n 0, 1) := by decide +kernel
theorem dX8_judge_37 : decode cX8_judge 37 = .ok (.getfield 7, 3) := by decide +kernel
theorem dX8_judge_40 : decode cX8_judge 40 = .ok (.iload_n 1, 1) := by decide +kernel
theorem dX8_judge_41 : decode cX8_judge 41 = .ok (.iaload, 1) := by decide +kernel
theorem dX8_judge_42 : decode cX8_judge 42 = .ok (.if_icmp .gt 21, 3) := by decide +kernel
theorem dX8_judge_45 : decode cX8_judge 45 = .ok (.iload_n 3, 1) := by decide +kernel
theorem dX8_judge_46 : decode cX8_judge 46 = .ok (.ifCond .eq 21, 3) := by decide +kernel
theorem dX8_judge_49 : decode cX8_judge 49 = .ok (.aload_n 0, 1) := by decide +kernel
theorem dX8_judge_50 : decode cX8_judge 50 = .ok (.getfield 75, 3) := by decide +kernel
theorem dX8_judge_53 : decode cX8_judge 53 = .ok (.aload_n 0, 1) := by decide +kernel
theorem dX8_judge_54 : decode cX8_judge 54 = .ok (.getfield 304, 3) := by decide +kernel
theorem dX8_judge_57 : decode cX8_judge 57 = .ok (.iconst 1, 1) := by decide +kernel
theorem dX8_judge_58 : decode cX8_judge 58 = .ok (.isub, 1) := by decide +kernel
theorem dX8_judge_59 : decode cX8_judge 59 = .ok (.baload, 1) := by decide +kernel
theorem dX8_judge_60 : decode cX8_judge 60 = .ok (.ifCond .ne 7, 3) := by decide +kernel
theorem dX8_judge_63 : decode cX8_judge 63 = .ok (.sipush (-1003), 3) := by decide +kernel
theorem dX8_judge_66 : decode cX8_judge 66 = .ok (.ireturn, 1) := by decide +kernel
theorem dX8_judge_67 : decode cX8_judge 67 = .ok (.aload_n 0, 1) := by decide +kernel
theorem dX8_judge_68 : decode cX8_judge 68 = .ok (.iload_n 1, 1) := by decide +kernel
theorem dX8_judge_69 : decode cX8_judge 69 = .ok (.invokevirtual 268, 3) := by decide +kernel
theorem dX8_judge_72 : decode cX8_judge 72 = .ok (.iconst 0, 1) := by decide +kernel
theorem dX8_judge_73 : decode cX8_judge 73 = .ok (.istore 4, 2) := by decide +kernel
theorem dX8_judge_75 : decode cX8_judge 75 = .ok (.iload 4, 2) := by decide +kernel
theorem dX8_judge_77 : decode cX8_judge 77 = .ok (.aload_n 0, 1) := by decide +kernel
theorem dX8_judge_78 : decode cX8_judge 78 = .ok (.getfield 304, 3) := by decide +kernel
theorem dX8_judge_81 : decode cX8_judge 81 = .ok (.if_icmp .ge 126, 3) := by decide +kernel
theorem dX8_judge_84 : decode cX8_judge 84 = .ok (.aload_n 0, 1) := by decide +kernel
theorem dX8_judge_85 : decode cX8_judge 85 = .ok (.getfield 75, 3) := by decide +kernel
theorem dX8_judge_88 : decode cX8_judge 88 = .ok (.iload 4, 2) := by decide +kernel
theorem dX8_judge_90 : decode cX8_judge 90 = .ok (.baload, 1) := by decide +kernel
theorem dX8_judge_91 : decode cX8_judge 91 = .ok (.ifCond .eq 110, 3) := by decide +kernel
theorem dX8_judge_94 : decode cX8_judge 94 = .ok (.iload 4, 2) := by decide +kernel
theorem dX8_judge_96 : decode cX8_judge 96 = .ok (.aload_n 0, 1) := by decide +kernel
theorem dX8_judge_97 : decode cX8_judge 97 = .ok (.iload_n 1, 1) := by decide +kernel
theorem dX8_judge_98 : decode cX8_judge 98 = .ok (.iload 4, 2) := by decide +kernel
theorem dX8_judge_100 : decode cX8_judge 100 = .ok (.invokevirtual 251, 3) := by decide +kernel
theorem dX8_judge_103 : decode cX8_judge 103 = .ok (.iadd, 1) := by decide +kernel
theorem dX8_judge_104 : decode cX8_judge 104 = .ok (.aload_n 0, 1) := by decide +kernel
theorem dX8_judge_105 : decode cX8_judge 105 = .ok (.getfield 304, 3) := by decide +kernel
theorem dX8_judge_108 : decode cX8_judge 108 = .ok (.if_icmp .gt 93, 3) := by decide +kernel
theorem dX8_judge_111 : decode cX8_judge 111 = .ok (.iconst 0, 1) := by decide +kernel
theorem dX8_judge_112 : decode cX8_judge 112 = .ok (.istore 5, 2) := by decide +kernel
theorem dX8_judge_114 : decode cX8_judge 114 = .ok (.iconst 0, 1) := by decide +kernel
theorem dX8_judge_115 : decode cX8_judge 115 = .ok (.istore 6, 2) := by decide +kernel
theorem dX8_judge_117 : decode cX8_judge 117 = .ok (.iload 6, 2) := by decide +kernel
theorem dX8_judge_119 : decode cX8_judge 119 = .ok (.aload_n 0, 1) := by decide +kernel
theorem dX8_judge_120 : decode cX8_judge 120 = .ok (.iload_n 1, 1) := by decide +kernel
theorem dX8_judge_121 : decode cX8_judge 121 = .ok (.iload 4, 2) := by decide +kernel
theorem dX8_judge_123 : decode cX8_judge 123 = .ok (.invokevirtual 251, 3) := by decide +kernel
theorem dX8_judge_126 : decode cX8_judge 126 = .ok (.if_icmp .ge 35, 3) := by decide +kernel
theorem dX8_judge_129 : decode cX8_judge 129 = .ok (.iload 5, 2) := by decide +kernel
theorem dX8_judge_131 : decode cX8_judge 131 = .ok (.aload_n 0, 1) := by decide +kernel
theorem dX8_judge_132 : decode cX8_judge 132 = .ok (.getfield 75, 3) := by decide +kernel
theorem dX8_judge_135 : decode cX8_judge 135 = .ok (.iload 4, 2) := by decide +kernel
theorem dX8_judge_137 : decode cX8_judge 137 = .ok (.iload 6, 2) := by decide +kernel
theorem dX8_judge_139 : decode cX8_judge 139 = .ok (.iadd, 1) := by decide +kernel
theorem dX8_judge_140 : decode cX8_judge 140 = .ok (.baload, 1) := by decide +kernel
theorem dX8_judge_141 : decode cX8_judge 141 = .ok (.ifCond .eq 10, 3) := by decide +kernel
theorem dX8_judge_144 : decode cX8_judge 144 = .ok (.iconst 1, 1) := by decide +kernel
theorem dX8_judge_145 : decode cX8_judge 145 = .ok (.iload 6, 2) := by decide +kernel
theorem dX8_judge_147 : decode cX8_judge 147 = .ok (.ishl, 1) := by decide +kernel
theorem dX8_judge_148 : decode cX8_judge 148 = .ok (.goto 4, 3) := by decide +kernel
theorem dX8_judge_151 : decode cX8_judge 151 = .ok (.iconst 0, 1) := by decide +kernel
theorem dX8_judge_152 : decode cX8_judge 152 = .ok (.ior, 1) := by decide +kernel
theorem dX8_judge_153 : decode cX8_judge 153 = .ok (.istore 5, 2) := by decide +kernel
theorem dX8_judge_155 : decode cX8_judge 155 = .ok (.iinc 6 1, 3) := by decide +kernel
theorem dX8_judge_158 : decode cX8_judge 158 = .ok (.goto (-41), 3) := by decide +kernel
theorem dX8_judge_161 : decode cX8_judge 161 = .ok (.iload_n 3, 1) := by decide +kernel
theorem dX8_judge_162 : decode cX8_judge 162 = .ok (.ifCond .eq 18, 3) := by decide +kernel
theorem dX8_judge_165 : decode cX8_judge 165 = .ok (.iload 4, 2) := by decide +kernel
theorem dX8_judge_167 : decode cX8_judge 167 = .ok (.aload_n 0, 1) := by decide +kernel
theorem dX8_judge_168 : decode cX8_judge 168 = .ok (.getfield 304, 3) := by decide +kernel
theorem dX8_judge_171 : decode cX8_judge 171 = .ok (.iconst 1, 1) := by decide +kernel
theorem dX8_judge_172 : decode cX8_judge 172 = .ok (.isub, 1) := by decide +kernel
theorem dX8_judge_173 : decode cX8_judge 173 = .ok (.if_icmp .ne 7, 3) := by decide +kernel
theorem dX8_judge_176 : decode cX8_judge 176 = .ok (.iconst 1, 1) := by decide +kernel
theorem dX8_judge_177 : decode cX8_judge 177 = .ok (.goto 4, 3) := by decide +kernel
theorem dX8_judge_180 : decode cX8_judge 180 = .ok (.iconst 0, 1) := by decide +kernel
theorem dX8_judge_181 : decode cX8_judge 181 = .ok (.istore 6, 2) := by decide +kernel
theorem dX8_judge_183 : decode cX8_judge 183 = .ok (.aload_n 0, 1) := by decide +kernel
theorem dX8_judge_184 : decode cX8_judge 184 = .ok (.iload_n 1, 1) := by decide +kernel
theorem dX8_judge_185 : decode cX8_judge 185 = .ok (.iload_n 2, 1) := by decide +kernel
theorem dX8_judge_186 : decode cX8_judge 186 = .ok (.iload 4, 2) := by decide +kernel
theorem dX8_judge_188 : decode cX8_judge 188 = .ok (.iload 5, 2) := by decide +kernel
theorem dX8_judge_190 : decode cX8_judge 190 = .ok (.invokevirtual 272, 3) := by decide +kernel
theorem dX8_judge_193 : decode cX8_judge 193 = .ok (.iload 6, 2) := by decide +kernel
theorem dX8_judge_195 : decode cX8_judge 195 = .ok (.if_icmp .eq 6, 3) := by decide +kernel
theorem dX8_judge_198 : decode cX8_judge 198 = .ok (.iload 4, 2) := by decide +kernel
theorem dX8_judge_200 : decode cX8_judge 200 = .ok (.ireturn, 1) := by decide +kernel
theorem dX8_judge_201 : decode cX8_judge 201 = .ok (.iinc 4 1, 3) := by decide +kernel
theorem dX8_judge_204 : decode cX8_judge 204 = .ok (.goto (-129), 3) := by decide +kernel
theorem dX8_judge_207 : decode cX8_judge 207 = .ok (.iconst (-1), 1) := by decide +kernel
theorem dX8_judge_208 : decode cX8_judge 208 = .ok (.ireturn, 1) := by decide +kernel
theorem f_m_thought_rows : True := trivial
theorem dX8_thought_0 : decode cX8_thought 0 = .ok (.aload_n 0, 1) := by decide +kernel
theorem dX8_thought_1 : decode cX8_thought 1 = .ok (.iload_n 1, 1) := by decide +kernel
theorem dX8_thought_2 : decode cX8_thought 2 = .ok (.invokevirtual 206, 3) := by decide +kernel
theorem dX8_thought_5 : decode cX8_thought 5 = .ok (.ifCond .eq 11, 3) := by decide +kernel
theorem dX8_thought_8 : decode cX8_thought 8 = .ok (.aload_n 0, 1) := by decide +kernel
theorem dX8_thought_9 : decode cX8_thought 9 = .ok (.iload_n 2, 1) := by decide +kernel
theorem dX8_thought_10 : decode cX8_thought 10 = .ok (.invokevirtual 206, 3) := by decide +kernel
theorem dX8_thought_13 : decode cX8_thought 13 = .ok (.ifCond .ne 7, 3) := by decide +kernel
theorem dX8_thought_16 : decode cX8_thought 16 = .ok (.sipush (-1001), 3) := by decide +kernel
theorem dX8_thought_19 : decode cX8_thought 19 = .ok (.ireturn, 1) := by decide +kernel
theorem dX8_thought_20 : decode cX8_thought 20 = .ok (.ldc2_w 307, 3) := by decide +kernel
theorem dX8_thought_23 : decode cX8_thought 23 = .ok (.lstore_n 3, 1) := by decide +kernel
theorem dX8_thought_24 : decode cX8_thought 24 = .ok (.ldc2_w 307, 3) := by decide +kernel
theorem dX8_thought_27 : decode cX8_thought 27 = .ok (.lstore 5, 2) := by decide +kernel
theorem dX8_thought_29 : decode cX8_thought 29 = .ok (.iconst 0, 1) := by decide +kernel
theorem dX8_thought_30 : decode cX8_thought 30 = .ok (.istore 7, 2) := by decide +kernel
theorem dX8_thought_32 : decode cX8_thought 32 = .ok (.iload 7, 2) := by decide +kernel
theorem dX8_thought_34 : decode cX8_thought 34 = .ok (.aload_n 0, 1) := by decide +kernel
theorem dX8_thought_35 : decode cX8_thought 35 = .ok (.getfield 304, 3) := by decide +kernel
theorem dX8_thought_38 : decode cX8_thought 38 = .ok (.if_icmp .ge 186, 3) := by decide +kernel
theorem dX8_thought_41 : decode cX8_thought 41 = .ok (.iload 7, 2) := by decide +kernel
theorem dX8_thought_43 : decode cX8_thought 43 = .ok (.aload_n 0, 1) := by decide +kernel
theorem dX8_thought_44 : decode cX8_thought 44 = .ok (.getfield 7, 3) := by decide +kernel
theorem dX8_thought_47 : decode cX8_thought 47 = .ok (.iload_n 1, 1) := by decide +kernel
theorem dX8_thought_48 : decode cX8_thought 48 = .ok (.iaload, 1) := by decide +kernel
theorem dX8_thought_49 : decode cX8_thought 49 = .ok (.if_icmp .ge 175, 3) := by decide +kernel
theorem dX8_thought_52 : decode cX8_thought 52 = .ok (.iload 7, 2) := by decide +kernel
theorem dX8_thought_54 : decode cX8_thought 54 = .ok (.aload_n 0, 1) := by decide +kernel
theorem dX8_thought_55 : decode cX8_thought 55 = .ok (.getfield 7, 3) := by decide +kernel
theorem dX8_thought_58 : decode cX8_thought 58 = .ok (.iload_n 2, 1) := by decide +kernel
theorem dX8_thought_59 : decode cX8_thought 59 = .ok (.iaload, 1) := by decide +kernel
theorem dX8_thought_60 : decode cX8_thought 60 = .ok (.if_icmp .ge 164, 3) := by decide +kernel
theorem dX8_thought_63 : decode cX8_thought 63 = .ok (.iload 7, 2) := by decide +kernel
theorem dX8_thought_65 : decode cX8_thought 65 = .ok (.ifCond .le 28, 3) := by decide +kernel
theorem dX8_thought_68 : decode cX8_thought 68 = .ok (.aload_n 0, 1) := by decide +kernel
theorem dX8_thought_69 : decode cX8_thought 69 = .ok (.getfield 75, 3) := by decide +kernel
theorem dX8_thought_72 : decode cX8_thought 72 = .ok (.iload 7, 2) := by decide +kernel
theorem dX8_thought_74 : decode cX8_thought 74 = .ok (.ifCond .le 10, 3) := by decide +kernel
theorem dX8_thought_77 : decode cX8_thought 77 = .ok (.iload 7, 2) := by decide +kernel
theorem dX8_thought_79 : decode cX8_thought 79 = .ok (.iconst 1, 1) := by decide +kernel
theorem dX8_thought_80 : decode cX8_thought 80 = .ok (.isub, 1) := by decide +kernel
theorem dX8_thought_81 : decode cX8_thought 81 = .ok (.goto 4, 3) := by decide +kernel
theorem dX8_thought_85 : decode cX8_thought 85 = .ok (.baload, 1) := by decide +kernel
theorem dX8_thought_86 : decode cX8_thought 86 = .ok (.ifCond .eq 7, 3) := by decide +kernel
theorem dX8_thought_89 : decode cX8_thought 89 = .ok (.iconst 1, 1) := by decide +kernel
theorem dX8_thought_90 : decode cX8_thought 90 = .ok (.goto 4, 3) := by decide +kernel
theorem dX8_thought_93 : decode cX8_thought 93 = .ok (.iconst 0, 1) := by decide +kernel
theorem dX8_thought_94 : decode cX8_thought 94 = .ok (.istore 8, 2) := by decide +kernel
theorem dX8_thought_96 : decode cX8_thought 96 = .ok (.aload_n 0, 1) := by decide +kernel
theorem dX8_thought_97 : decode cX8_thought 97 = .ok (.iload_n 1, 1) := by decide +kernel
theorem dX8_thought_98 : decode cX8_thought 98 = .ok (.iload 7, 2) := by decide +kernel
theorem dX8_thought_100 : decode cX8_thought 100 = .ok (.iload 8, 2) := by decide +kernel
theorem dX8_thought_102 : decode cX8_thought 102 = .ok (.invokevirtual 219, 3) := by decide +kernel
theorem dX8_thought_105 : decode cX8_thought 105 = .ok (.istore 9, 2) := by decide +kernel
theorem dX8_thought_107 : decode cX8_thought 107 = .ok (.aload_n 0, 1) := by decide +kernel
theorem dX8_thought_108 : decode cX8_thought 108 = .ok (.iload_n 2, 1) := by decide +kernel
theorem dX8_thought_109 : decode cX8_thought 109 = .ok (.iload 7, 2) := by decide +kernel
theorem dX8_thought_111 : decode cX8_thought 111 = .ok (.iload 8, 2) := by decide +kernel
theorem dX8_thought_113 : decode cX8_thought 113 = .ok (.invokevirtual 219, 3) := by decide +kernel
theorem dX8_thought_116 : decode cX8_thought 116 = .ok (.istore 10, 2) := by decide +kernel
theorem dX8_thought_118 : decode cX8_thought 118 = .ok (.lload_n 3, 1) := by decide +kernel
theorem dX8_thought_119 : decode cX8_thought 119 = .ok (.aload_n 0, 1) := by decide +kernel
theorem dX8_thought_120 : decode cX8_thought 120 = .ok (.getfield 75, 3) := by decide +kernel
theorem dX8_thought_123 : decode cX8_thought 123 = .ok (.iload 7, 2) := by decide +kernel
theorem dX8_thought_125 : decode cX8_thought 125 = .ok (.baload, 1) := by decide +kernel
theorem dX8_thought_126 : decode cX8_thought 126 = .ok (.ifCond .eq 8, 3) := by decide +kernel
theorem dX8_thought_129 : decode cX8_thought 129 = .ok (.iload 9, 2) := by decide +kernel
theorem dX8_thought_131 : decode cX8_thought 131 = .ok (.goto 8, 3) := by decide +kernel
theorem dX8_thought_134 : decode cX8_thought 134 = .ok (.bipush 100, 2) := by decide +kernel
theorem dX8_thought_136 : decode cX8_thought 136 = .ok (.iload 9, 2) := by decide +kernel
theorem dX8_thought_138 : decode cX8_thought 138 = .ok (.isub, 1) := by decide +kernel
theorem dX8_thought_139 : decode cX8_thought 139 = .ok (.i2l, 1) := by decide +kernel
theorem dX8_thought_140 : decode cX8_thought 140 = .ok (.lmul, 1) := by decide +kernel
theorem dX8_thought_141 : decode cX8_thought 141 = .ok (.ldc2_w 240, 3) := by decide +kernel
theorem dX8_thought_144 : decode cX8_thought 144 = .ok (.ldiv, 1) := by decide +kernel
theorem dX8_thought_145 : decode cX8_thought 145 = .ok (.lstore_n 3, 1) := by decide +kernel
theorem dX8_thought_146 : decode cX8_thought 146 = .ok (.lload 5, 2) := by decide +kernel
theorem dX8_thought_148 : decode cX8_thought 148 = .ok (.aload_n 0, 1) := by decide +kernel
theorem dX8_thought_149 : decode cX8_thought 149 = .ok (.getfield 75, 3) := by decide +kernel
theorem dX8_thought_152 : decode cX8_thought 152 = .ok (.iload 7, 2) := by decide +kernel
theorem dX8_thought_154 : decode cX8_thought 154 = .ok (.baload, 1) := by decide +kernel
theorem dX8_thought_155 : decode cX8_thought 155 = .ok (.ifCond .eq 8, 3) := by decide +kernel
theorem dX8_thought_158 : decode cX8_thought 158 = .ok (.iload 10, 2) := by decide +kernel
theorem dX8_thought_160 : decode cX8_thought 160 = .ok (.goto 8, 3) := by decide +kernel
theorem dX8_thought_163 : decode cX8_thought 163 = .ok (.bipush 100, 2) := by decide +kernel
theorem dX8_thought_165 : decode cX8_thought 165 = .ok (.iload 10, 2) := by decide +kernel
theorem dX8_thought_167 : decode cX8_thought 167 = .ok (.isub, 1) := by decide +kernel
theorem dX8_thought_168 : decode cX8_thought 168 = .ok (.i2l, 1) := by decide +kernel
theorem dX8_thought_169 : decode cX8_thought 169 = .ok (.lmul, 1) := by decide +kernel
theorem dX8_thought_170 : decode cX8_thought 170 = .ok (.ldc2_w 240, 3) := by decide +kernel
theorem dX8_thought_173 : decode cX8_thought 173 = .ok (.ldiv, 1) := by decide +kernel
theorem dX8_thought_174 : decode cX8_thought 174 = .ok (.lstore 5, 2) := by decide +kernel
theorem dX8_thought_176 : decode cX8_thought 176 = .ok (.lload_n 3, 1) := by decide +kernel
theorem dX8_thought_177 : decode cX8_thought 177 = .ok (.lload 5, 2) := by decide +kernel
theorem dX8_thought_179 : decode cX8_thought 179 = .ok (.lcmp, 1) := by decide +kernel
theorem dX8_thought_180 : decode cX8_thought 180 = .ok (.ifCond .le 7, 3) := by decide +kernel
theorem dX8_thought_183 : decode cX8_thought 183 = .ok (.lload_n 3, 1) := by decide +kernel
theorem dX8_thought_184 : decode cX8_thought 184 = .ok (.goto 5, 3) := by decide +kernel
theorem dX8_thought_187 : decode cX8_thought 187 = .ok (.lload 5, 2) := by decide +kernel
theorem dX8_thought_189 : decode cX8_thought 189 = .ok (.lstore 11, 2) := by decide +kernel
theorem dX8_thought_191 : decode cX8_thought 191 = .ok (.lload 11, 2) := by decide +kernel
theorem dX8_thought_193 : decode cX8_thought 193 = .ok (.lconst 0, 1) := by decide +kernel
theorem dX8_thought_194 : decode cX8_thought 194 = .ok (.lcmp, 1) := by decide +kernel
theorem dX8_thought_195 : decode cX8_thought 195 = .ok (.ifCond .le 23, 3) := by decide +kernel
theorem dX8_thought_198 : decode cX8_thought 198 = .ok (.lload_n 3, 1) := by decide +kernel
theorem dX8_thought_199 : decode cX8_thought 199 = .ok (.ldc2_w 309, 3) := by decide +kernel
theorem dX8_thought_202 : decode cX8_thought 202 = .ok (.lmul, 1) := by decide +kernel
theorem dX8_thought_203 : decode cX8_thought 203 = .ok (.lload 11, 2) := by decide +kernel
theorem dX8_thought_205 : decode cX8_thought 205 = .ok (.ldiv, 1) := by decide +kernel
theorem dX8_thought_206 : decode cX8_thought 206 = .ok (.lstore_n 3, 1) := by decide +kernel
theorem dX8_thought_207 : decode cX8_thought 207 = .ok (.lload 5, 2) := by decide +kernel
theorem dX8_thought_209 : decode cX8_thought 209 = .ok (.ldc2_w 309, 3) := by decide +kernel
theorem dX8_thought_212 : decode cX8_thought 212 = .ok (.lmul, 1) := by decide +kernel
theorem dX8_thought_213 : decode cX8_thought 213 = .ok (.lload 11, 2) := by decide +kernel
theorem dX8_thought_215 : decode cX8_thought 215 = .ok (.ldiv, 1) := by decide +kernel
theorem dX8_thought_216 : decode cX8_thought 216 = .ok (.lstore 5, 2) := by decide +kernel
theorem dX8_thought_218 : decode cX8_thought 218 = .ok (.iinc 7 1, 3) := by decide +kernel
theorem dX8_thought_221 : decode cX8_thought 221 = .ok (.goto (-189), 3) := by decide +kernel
theorem dX8_thought_224 : decode cX8_thought 224 = .ok (.lload_n 3, 1) := by decide +kernel
theorem dX8_thought_225 : decode cX8_thought 225 = .ok (.lload 5, 2) := by decide +kernel
theorem dX8_thought_227 : decode cX8_thought 227 = .ok (.ladd, 1) := by decide +kernel
theorem dX8_thought_228 : decode cX8_thought 228 = .ok (.lconst 0, 1) := by decide +kernel
theorem dX8_thought_229 : decode cX8_thought 229 = .ok (.lcmp, 1) := by decide +kernel
theorem dX8_thought_230 : decode cX8_thought 230 = .ok (.ifCond .ne 7, 3) := by decide +kernel
theorem dX8_thought_233 : decode cX8_thought 233 = .ok (.iconst 0, 1) := by decide +kernel
theorem dX8_thought_234 : decode cX8_thought 234 = .ok (.goto 14, 3) := by decide +kernel
theorem dX8_thought_237 : decode cX8_thought 237 = .ok (.lload_n 3, 1) := by decide +kernel
theorem dX8_thought_238 : decode cX8_thought 238 = .ok (.ldc2_w 309, 3) := by decide +kernel
theorem dX8_thought_241 : decode cX8_thought 241 = .ok (.lmul, 1) := by decide +kernel
theorem dX8_thought_242 : decode cX8_thought 242 = .ok (.lload_n 3, 1) := by decide +kernel
theorem dX8_thought_243 : decode cX8_thought 243 = .ok (.lload 5, 2) := by decide +kernel
theorem dX8_thought_245 : decode cX8_thought 245 = .ok (.ladd, 1) := by decide +kernel
theorem dX8_thought_246 : decode cX8_thought 246 = .ok (.ldiv, 1) := by decide +kernel
theorem dX8_thought_247 : decode cX8_thought 247 = .ok (.l2i, 1) := by decide +kernel
theorem dX8_thought_248 : decode cX8_thought 248 = .ok (.ireturn, 1) := by decide +kernel
theorem f_m_waits_rows : True := trivial
theorem dX8_waits_0 : decode cX8_waits 0 = .ok (.aload_n 0, 1) := by decide +kernel
theorem dX8_waits_1 : decode cX8_waits 1 = .ok (.iload_n 1, 1) := by decide +kernel
theorem dX8_waits_2 : decode cX8_waits 2 = .ok (.invokevirtual 206, 3) := by decide +kernel
theorem dX8_waits_5 : decode cX8_waits 5 = .ok (.ifCond .eq 12, 3) := by decide +kernel
theorem dX8_waits_8 : decode cX8_waits 8 = .ok (.aload_n 0, 1) := by decide +kernel
theorem dX8_waits_9 : decode cX8_waits 9 = .ok (.iload_n 1, 1) := by decide +kernel
theorem dX8_waits_10 : decode cX8_waits 10 = .ok (.iload_n 3, 1) := by decide +kernel
theorem dX8_waits_11 : decode cX8_waits 11 = .ok (.invokevirtual 215, 3) := by decide +kernel
theorem dX8_waits_14 : decode cX8_waits 14 = .ok (.ifCond .ne 7, 3) := by decide +kernel
theorem dX8_waits_17 : decode cX8_waits 17 = .ok (.sipush (-1001), 3) := by decide +kernel
theorem dX8_waits_20 : decode cX8_waits 20 = .ok (.ireturn, 1) := by decide +kernel
theorem dX8_waits_21 : decode cX8_waits 21 = .ok (.aload_n 0, 1) := by decide +kernel
theorem dX8_waits_22 : decode cX8_waits 22 = .ok (.iload_n 1, 1) := by decide +kernel
theorem dX8_waits_23 : decode cX8_waits 23 = .ok (.iload_n 2, 1) := by decide +kernel
theorem dX8_waits_24 : decode cX8_waits 24 = .ok (.invokevirtual 234, 3) := by decide +kernel
theorem dX8_waits_27 : decode cX8_waits 27 = .ok (.ifCond .eq 51, 3) := by decide +kernel
theorem dX8_waits_30 : decode cX8_waits 30 = .ok (.aload_n 0, 1) := by decide +kernel
theorem dX8_waits_31 : decode cX8_waits 31 = .ok (.iload_n 1, 1) := by decide +kernel
theorem dX8_waits_32 : decode cX8_waits 32 = .ok (.iload_n 3, 1) := by decide +kernel
theorem dX8_waits_33 : decode cX8_waits 33 = .ok (.iload 4, 2) := by decide +kernel
theorem dX8_waits_35 : decode cX8_waits 35 = .ok (.invokevirtual 264, 3) := by decide +kernel
theorem dX8_waits_38 : decode cX8_waits 38 = .ok (.ifCond .eq 40, 3) := by decide +kernel
theorem dX8_waits_41 : decode cX8_waits 41 = .ok (.iload 5, 2) := by decide +kernel
theorem dX8_waits_43 : decode cX8_waits 43 = .ok (.i2l, 1) := by decide +kernel
theorem dX8_waits_44 : decode cX8_waits 44 = .ok (.lconst 0, 1) := by decide +kernel
theorem dX8_waits_45 : decode cX8_waits 45 = .ok (.ldc2_w 240, 3) := by decide +kernel
theorem dX8_waits_48 : decode cX8_waits 48 = .ok (.invokestatic 107, 3) := by decide +kernel
theorem dX8_waits_51 : decode cX8_waits 51 = .ok (.ifCond .eq 27, 3) := by decide +kernel
theorem dX8_waits_54 : decode cX8_waits 54 = .ok (.iload 6, 2) := by decide +kernel
theorem dX8_waits_56 : decode cX8_waits 56 = .ok (.i2l, 1) := by decide +kernel
theorem dX8_waits_57 : decode cX8_waits 57 = .ok (.lconst 0, 1) := by decide +kernel
theorem dX8_waits_58 : decode cX8_waits 58 = .ok (.ldc2_w 311, 3) := by decide +kernel
theorem dX8_waits_61 : decode cX8_waits 61 = .ok (.invokestatic 107, 3) := by decide +kernel
theorem dX8_waits_64 : decode cX8_waits 64 = .ok (.ifCond .eq 14, 3) := by decide +kernel
theorem dX8_waits_67 : decode cX8_waits 67 = .ok (.iload 7, 2) := by decide +kernel
theorem dX8_waits_69 : decode cX8_waits 69 = .ok (.i2l, 1) := by decide +kernel
theorem dX8_waits_70 : decode cX8_waits 70 = .ok (.lconst 0, 1) := by decide +kernel
theorem dX8_waits_71 : decode cX8_waits 71 = .ok (.lconst 1, 1) := by decide +kernel
theorem dX8_waits_72 : decode cX8_waits 72 = .ok (.invokestatic 107, 3) := by decide +kernel
theorem dX8_waits_75 : decode cX8_waits 75 = .ok (.ifCond .ne 7, 3) := by decide +kernel
theorem dX8_waits_78 : decode cX8_waits 78 = .ok (.sipush (-1002), 3) := by decide +kernel
theorem dX8_waits_81 : decode cX8_waits 81 = .ok (.ireturn, 1) := by decide +kernel
theorem dX8_waits_82 : decode cX8_waits 82 = .ok (.iload 4, 2) := by decide +kernel
theorem dX8_waits_84 : decode cX8_waits 84 = .ok (.iconst 1, 1) := by decide +kernel
theorem dX8_waits_85 : decode cX8_waits 85 = .ok (.iand, 1) := by decide +kernel
theorem dX8_waits_86 : decode cX8_waits 86 = .ok (.iconst 1, 1) := by decide +kernel
theorem dX8_waits_87 : decode cX8_waits 87 = .ok (.if_icmp .ne 7, 3) := by decide +kernel
theorem dX8_waits_90 : decode cX8_waits 90 = .ok (.sipush (-1003), 3) := by decide +kernel
theorem dX8_waits_93 : decode cX8_waits 93 = .ok (.ireturn, 1) := by decide +kernel
theorem dX8_waits_94 : decode cX8_waits 94 = .ok (.aload_n 0, 1) := by decide +kernel
theorem dX8_waits_95 : decode cX8_waits 95 = .ok (.iload_n 1, 1) := by decide +kernel
theorem dX8_waits_96 : decode cX8_waits 96 = .ok (.invokevirtual 268, 3) := by decide +kernel
theorem dX8_waits_99 : decode cX8_waits 99 = .ok (.aload_n 0, 1) := by decide +kernel
theorem dX8_waits_100 : decode cX8_waits 100 = .ok (.getfield 38, 3) := by decide +kernel
theorem dX8_waits_103 : decode cX8_waits 103 = .ok (.iload_n 2, 1) := by decide +kernel
theorem dX8_waits_104 : decode cX8_waits 104 = .ok (.iload_n 3, 1) := by decide +kernel
theorem dX8_waits_105 : decode cX8_waits 105 = .ok (.iload 4, 2) := by decide +kernel
theorem dX8_waits_107 : decode cX8_waits 107 = .ok (.invokestatic 242, 3) := by decide +kernel
theorem dX8_waits_110 : decode cX8_waits 110 = .ok (.iaload, 1) := by decide +kernel
theorem dX8_waits_111 : decode cX8_waits 111 = .ok (.istore 8, 2) := by decide +kernel
theorem dX8_waits_113 : decode cX8_waits 113 = .ok (.iload 8, 2) := by decide +kernel
theorem dX8_waits_115 : decode cX8_waits 115 = .ok (.istore 9, 2) := by decide +kernel
theorem dX8_waits_117 : decode cX8_waits 117 = .ok (.iconst 0, 1) := by decide +kernel
theorem dX8_waits_118 : decode cX8_waits 118 = .ok (.istore 10, 2) := by decide +kernel
theorem dX8_waits_120 : decode cX8_waits 120 = .ok (.iconst 1, 1) := by decide +kernel
theorem dX8_waits_121 : decode cX8_waits 121 = .ok (.istore 11, 2) := by decide +kernel
theorem dX8_waits_123 : decode cX8_waits 123 = .ok (.iload 11, 2) := by decide +kernel
theorem dX8_waits_125 : decode cX8_waits 125 = .ok (.bipush 20, 2) := by decide +kernel
theorem dX8_waits_127 : decode cX8_waits 127 = .ok (.if_icmp .gt 64, 3) := by decide +kernel
theorem dX8_waits_130 : decode cX8_waits 130 = .ok (.sipush 1000, 3) := by decide +kernel
theorem dX8_waits_133 : decode cX8_waits 133 = .ok (.iload 6, 2) := by decide +kernel
theorem dX8_waits_135 : decode cX8_waits 135 = .ok (.imul, 1) := by decide +kernel
theorem dX8_waits_136 : decode cX8_waits 136 = .ok (.iload 5, 2) := by decide +kernel
theorem dX8_waits_138 : decode cX8_waits 138 = .ok (.aload_n 0, 1) := by decide +kernel
theorem dX8_waits_139 : decode cX8_waits 139 = .ok (.iload_n 1, 1) := by decide +kernel
theorem dX8_waits_140 : decode cX8_waits 140 = .ok (.iload_n 2, 1) := by decide +kernel
theorem dX8_waits_141 : decode cX8_waits 141 = .ok (.iload_n 3, 1) := by decide +kernel
theorem dX8_waits_142 : decode cX8_waits 142 = .ok (.invokevirtual 237, 3) := by decide +kernel
theorem dX8_waits_145 : decode cX8_waits 145 = .ok (.iload 8, 2) := by decide +kernel
theorem dX8_waits_147 : decode cX8_waits 147 = .ok (.invokestatic 245, 3) := by decide +kernel
theorem dX8_waits_150 : decode cX8_waits 150 = .ok (.iadd, 1) := by decide +kernel
theorem dX8_waits_151 : decode cX8_waits 151 = .ok (.istore 8, 2) := by decide +kernel
theorem dX8_waits_153 : decode cX8_waits 153 = .ok (.iload 8, 2) := by decide +kernel
theorem dX8_waits_155 : decode cX8_waits 155 = .ok (.iload 9, 2) := by decide +kernel
theorem dX8_waits_157 : decode cX8_waits 157 = .ok (.if_icmp .ge 8, 3) := by decide +kernel
theorem dX8_waits_160 : decode cX8_waits 160 = .ok (.iload 11, 2) := by decide +kernel
theorem dX8_waits_162 : decode cX8_waits 162 = .ok (.goto 5, 3) := by decide +kernel
theorem dX8_waits_165 : decode cX8_waits 165 = .ok (.iload 10, 2) := by decide +kernel
theorem dX8_waits_167 : decode cX8_waits 167 = .ok (.istore 10, 2) := by decide +kernel
theorem dX8_waits_169 : decode cX8_waits 169 = .ok (.iload 8, 2) := by decide +kernel
theorem dX8_waits_171 : decode cX8_waits 171 = .ok (.iload 9, 2) := by decide +kernel
theorem dX8_waits_173 : decode cX8_waits 173 = .ok (.if_icmp .ge 8, 3) := by decide +kernel
theorem dX8_waits_176 : decode cX8_waits 176 = .ok (.iload 8, 2) := by decide +kernel
theorem dX8_waits_178 : decode cX8_waits 178 = .ok (.goto 5, 3) := by decide +kernel
theorem dX8_waits_181 : decode cX8_waits 181 = .ok (.iload 9, 2) := by decide +kernel
theorem dX8_waits_183 : decode cX8_waits 183 = .ok (.istore 9, 2) := by decide +kernel
theorem dX8_waits_185 : decode cX8_waits 185 = .ok (.iinc 11 1, 3) := by decide +kernel
theorem dX8_waits_188 : decode cX8_waits 188 = .ok (.goto (-65), 3) := by decide +kernel
theorem dX8_waits_191 : decode cX8_waits 191 = .ok (.iload 7, 2) := by decide +kernel
theorem dX8_waits_193 : decode cX8_waits 193 = .ok (.ifCond .ne 8, 3) := by decide +kernel
theorem dX8_waits_196 : decode cX8_waits 196 = .ok (.iload 10, 2) := by decide +kernel
theorem dX8_waits_198 : decode cX8_waits 198 = .ok (.goto 5, 3) := by decide +kernel
theorem dX8_waits_201 : decode cX8_waits 201 = .ok (.iload 9, 2) := by decide +kernel
theorem dX8_waits_203 : decode cX8_waits 203 = .ok (.ireturn, 1) := by decide +kernel
theorem f_m_boy_rows : True := trivial
theorem dX8_boy_0 : decode cX8_boy 0 = .ok (.aload_n 0, 1) := by decide +kernel
theorem dX8_boy_1 : decode cX8_boy 1 = .ok (.iload_n 1, 1) := by decide +kernel
theorem dX8_boy_2 : decode cX8_boy 2 = .ok (.invokevirtual 206, 3) := by decide +kernel
theorem dX8_boy_5 : decode cX8_boy 5 = .ok (.ifCond .ne 7, 3) := by decide +kernel
theorem dX8_boy_8 : decode cX8_boy 8 = .ok (.sipush (-1001), 3) := by decide +kernel
theorem dX8_boy_11 : decode cX8_boy 11 = .ok (.ireturn, 1) := by decide +kernel
theorem dX8_boy_12 : decode cX8_boy 12 = .ok (.aload_n 0, 1) := by decide +kernel
theorem dX8_boy_13 : decode cX8_boy 13 = .ok (.iload_n 1, 1) := by decide +kernel
theorem dX8_boy_14 : decode cX8_boy 14 = .ok (.invokevirtual 268, 3) := by decide +kernel
theorem dX8_boy_17 : decode cX8_boy 17 = .ok (.aload_n 0, 1) := by decide +kernel
theorem dX8_boy_18 : decode cX8_boy 18 = .ok (.getfield 7, 3) := by decide +kernel
theorem dX8_boy_21 : decode cX8_boy 21 = .ok (.iload_n 1, 1) := by decide +kernel
theorem dX8_boy_22 : decode cX8_boy 22 = .ok (.iaload, 1) := by decide +kernel
theorem dX8_boy_23 : decode cX8_boy 23 = .ok (.istore_n 2, 1) := by decide +kernel
theorem dX8_boy_24 : decode cX8_boy 24 = .ok (.iconst 0, 1) := by decide +kernel
theorem dX8_boy_25 : decode cX8_boy 25 = .ok (.istore_n 3, 1) := by decide +kernel
theorem dX8_boy_26 : decode cX8_boy 26 = .ok (.iload_n 3, 1) := by decide +kernel
theorem dX8_boy_27 : decode cX8_boy 27 = .ok (.bipush 50, 2) := by decide +kernel
theorem dX8_boy_29 : decode cX8_boy 29 = .ok (.if_icmp .ge 82, 3) := by decide +kernel
theorem dX8_boy_32 : decode cX8_boy 32 = .ok (.iload_n 3, 1) := by decide +kernel
theorem dX8_boy_33 : decode cX8_boy 33 = .ok (.iconst 2, 1) := by decide +kernel
theorem dX8_boy_34 : decode cX8_boy 34 = .ok (.idiv, 1) := by decide +kernel
theorem dX8_boy_35 : decode cX8_boy 35 = .ok (.istore 4, 2) := by decide +kernel
theorem dX8_boy_37 : decode cX8_boy 37 = .ok (.iload 4, 2) := by decide +kernel
theorem dX8_boy_39 : decode cX8_boy 39 = .ok (.iload_n 2, 1) := by decide +kernel
theorem dX8_boy_40 : decode cX8_boy 40 = .ok (.if_icmp .ge 34, 3) := by decide +kernel
theorem dX8_boy_43 : decode cX8_boy 43 = .ok (.aload_n 0, 1) := by decide +kernel
theorem dX8_boy_44 : decode cX8_boy 44 = .ok (.iload_n 1, 1) := by decide +kernel
theorem dX8_boy_45 : decode cX8_boy 45 = .ok (.iconst 0, 1) := by decide +kernel
theorem dX8_boy_46 : decode cX8_boy 46 = .ok (.iload 4, 2) := by decide +kernel
theorem dX8_boy_48 : decode cX8_boy 48 = .ok (.iload_n 2, 1) := by decide +kernel
theorem dX8_boy_49 : decode cX8_boy 49 = .ok (.if_icmp .ge 8, 3) := by decide +kernel
theorem dX8_boy_52 : decode cX8_boy 52 = .ok (.iload 4, 2) := by decide +kernel
theorem dX8_boy_54 : decode cX8_boy 54 = .ok (.goto 4, 3) := by decide +kernel
theorem dX8_boy_58 : decode cX8_boy 58 = .ok (.invokevirtual 237, 3) := by decide +kernel
theorem dX8_boy_61 : decode cX8_boy 61 = .ok (.aload_n 0, 1) := by decide +kernel
theorem dX8_boy_62 : decode cX8_boy 62 = .ok (.getfield 47, 3) := by decide +kernel
theorem dX8_boy_65 : decode cX8_boy 65 = .ok (.iconst 0, 1) := by decide +kernel
theorem dX8_boy_66 : decode cX8_boy 66 = .ok (.iaload, 1) := by decide +kernel
theorem dX8_boy_67 : decode cX8_boy 67 = .ok (.if_icmp .ge 7, 3) := by decide +kernel
theorem dX8_boy_70 : decode cX8_boy 70 = .ok (.iconst 1, 1) := by decide +kernel
theorem dX8_boy_71 : decode cX8_boy 71 = .ok (.goto 4, 3) := by decide +kernel
theorem dX8_boy_74 : decode cX8_boy 74 = .ok (.iconst 0, 1) := by decide +kernel
theorem dX8_boy_75 : decode cX8_boy 75 = .ok (.istore 5, 2) := by decide +kernel
theorem dX8_boy_77 : decode cX8_boy 77 = .ok (.aload_n 0, 1) := by decide +kernel
theorem dX8_boy_78 : decode cX8_boy 78 = .ok (.getfield 78, 3) := by decide +kernel
theorem dX8_boy_81 : decode cX8_boy 81 = .ok (.iload_n 3, 1) := by decide +kernel
theorem dX8_boy_82 : decode cX8_boy 82 = .ok (.iload 5, 2) := by decide +kernel
theorem dX8_boy_84 : decode cX8_boy 84 = .ok (.ifCond .eq 14, 3) := by decide +kernel
theorem dX8_boy_87 : decode cX8_boy 87 = .ok (.aload_n 0, 1) := by decide +kernel
theorem dX8_boy_88 : decode cX8_boy 88 = .ok (.iload_n 1, 1) := by decide +kernel
theorem dX8_boy_89 : decode cX8_boy 89 = .ok (.iconst 0, 1) := by decide +kernel
theorem dX8_boy_90 : decode cX8_boy 90 = .ok (.iload 4, 2) := by decide +kernel
theorem dX8_boy_92 : decode cX8_boy 92 = .ok (.invokevirtual 237, 3) := by decide +kernel
theorem dX8_boy_95 : decode cX8_boy 95 = .ok (.goto 9, 3) := by decide +kernel
theorem dX8_boy_98 : decode cX8_boy 98 = .ok (.aload_n 0, 1) := by decide +kernel
theorem dX8_boy_99 : decode cX8_boy 99 = .ok (.getfield 47, 3) := by decide +kernel
theorem dX8_boy_102 : decode cX8_boy 102 = .ok (.iconst 0, 1) := by decide +kernel
theorem dX8_boy_103 : decode cX8_boy 103 = .ok (.iaload, 1) := by decide +kernel
theorem dX8_boy_104 : decode cX8_boy 104 = .ok (.iastore, 1) := by decide +kernel
theorem dX8_boy_105 : decode cX8_boy 105 = .ok (.iinc 3 1, 3) := by decide +kernel
theorem dX8_boy_108 : decode cX8_boy 108 = .ok (.goto (-82), 3) := by decide +kernel
theorem dX8_boy_111 : decode cX8_boy 111 = .ok (.iload_n 2, 1) := by decide +kernel
theorem dX8_boy_112 : decode cX8_boy 112 = .ok (.iconst 1, 1) := by decide +kernel
theorem dX8_boy_113 : decode cX8_boy 113 = .ok (.isub, 1) := by decide +kernel
theorem dX8_boy_114 : decode cX8_boy 114 = .ok (.istore_n 3, 1) := by decide +kernel
theorem dX8_boy_115 : decode cX8_boy 115 = .ok (.iload_n 3, 1) := by decide +kernel
theorem dX8_boy_116 : decode cX8_boy 116 = .ok (.ifCond .lt 154, 3) := by decide +kernel
theorem dX8_boy_119 : decode cX8_boy 119 = .ok (.iconst 0, 1) := by decide +kernel
theorem dX8_boy_120 : decode cX8_boy 120 = .ok (.istore 4, 2) := by decide +kernel
theorem dX8_boy_122 : decode cX8_boy 122 = .ok (.iload 4, 2) := by decide +kernel
theorem dX8_boy_124 : decode cX8_boy 124 = .ok (.bipush 50, 2) := by decide +kernel
theorem dX8_boy_126 : decode cX8_boy 126 = .ok (.if_icmp .ge 108, 3) := by decide +kernel
theorem dX8_boy_129 : decode cX8_boy 129 = .ok (.iload 4, 2) := by decide +kernel
theorem dX8_boy_131 : decode cX8_boy 131 = .ok (.iconst 2, 1) := by decide +kernel
theorem dX8_boy_132 : decode cX8_boy 132 = .ok (.idiv, 1) := by decide +kernel
theorem dX8_boy_133 : decode cX8_boy 133 = .ok (.istore 5, 2) := by decide +kernel
theorem dX8_boy_135 : decode cX8_boy 135 = .ok (.iload 5, 2) := by decide +kernel
theorem dX8_boy_137 : decode cX8_boy 137 = .ok (.iload_n 2, 1) := by decide +kernel
theorem dX8_boy_138 : decode cX8_boy 138 = .ok (.if_icmp .ge 21, 3) := by decide +kernel
theorem dX8_boy_141 : decode cX8_boy 141 = .ok (.aload_n 0, 1) := by decide +kernel
theorem dX8_boy_142 : decode cX8_boy 142 = .ok (.iload_n 1, 1) := by decide +kernel
theorem dX8_boy_143 : decode cX8_boy 143 = .ok (.iconst 0, 1) := by decide +kernel
theorem dX8_boy_144 : decode cX8_boy 144 = .ok (.iload_n 3, 1) := by decide +kernel
theorem dX8_boy_145 : decode cX8_boy 145 = .ok (.invokevirtual 237, 3) := by decide +kernel
theorem dX8_boy_148 : decode cX8_boy 148 = .ok (.aload_n 0, 1) := by decide +kernel
theorem dX8_boy_149 : decode cX8_boy 149 = .ok (.iload_n 1, 1) := by decide +kernel
theorem dX8_boy_150 : decode cX8_boy 150 = .ok (.iconst 0, 1) := by decide +kernel
theorem dX8_boy_151 : decode cX8_boy 151 = .ok (.iload 5, 2) := by decide +kernel
theorem dX8_boy_153 : decode cX8_boy 153 = .ok (.invokevirtual 237, 3) := by decide +kernel
theorem dX8_boy_156 : decode cX8_boy 156 = .ok (.if_icmp .ge 7, 3) := by decide +kernel
theorem dX8_boy_159 : decode cX8_boy 159 = .ok (.iconst 1, 1) := by decide +kernel
theorem dX8_boy_160 : decode cX8_boy 160 = .ok (.goto 4, 3) := by decide +kernel
theorem dX8_boy_163 : decode cX8_boy 163 = .ok (.iconst 0, 1) := by decide +kernel
theorem dX8_boy_164 : decode cX8_boy 164 = .ok (.istore 6, 2) := by decide +kernel
theorem dX8_boy_166 : decode cX8_boy 166 = .ok (.aload_n 0, 1) := by decide +kernel
theorem dX8_boy_167 : decode cX8_boy 167 = .ok (.getfield 78, 3) := by decide +kernel
theorem dX8_boy_170 : decode cX8_boy 170 = .ok (.iconst 2, 1) := by decide +kernel
theorem dX8_boy_171 : decode cX8_boy 171 = .ok (.iload 6, 2) := by decide +kernel
theorem dX8_boy_173 : decode cX8_boy 173 = .ok (.ifCond .eq 7, 3) := by decide +kernel
theorem dX8_boy_176 : decode cX8_boy 176 = .ok (.iload_n 3, 1) := by decide +kernel
theorem dX8_boy_177 : decode cX8_boy 177 = .ok (.goto 5, 3) := by decide +kernel
theorem dX8_boy_180 : decode cX8_boy 180 = .ok (.iload 5, 2) := by decide +kernel
theorem dX8_boy_182 : decode cX8_boy 182 = .ok (.imul, 1) := by decide +kernel
theorem dX8_boy_183 : decode cX8_boy 183 = .ok (.iconst 1, 1) := by decide +kernel
theorem dX8_boy_184 : decode cX8_boy 184 = .ok (.iadd, 1) := by decide +kernel
theorem dX8_boy_185 : decode cX8_boy 185 = .ok (.iaload, 1) := by decide +kernel
theorem dX8_boy_186 : decode cX8_boy 186 = .ok (.istore 7, 2) := by decide +kernel
theorem dX8_boy_188 : decode cX8_boy 188 = .ok (.aload_n 0, 1) := by decide +kernel
theorem dX8_boy_189 : decode cX8_boy 189 = .ok (.getfield 81, 3) := by decide +kernel
theorem dX8_boy_192 : decode cX8_boy 192 = .ok (.iload 4, 2) := by decide +kernel
theorem dX8_boy_194 : decode cX8_boy 194 = .ok (.aload_n 0, 1) := by decide +kernel
theorem dX8_boy_195 : decode cX8_boy 195 = .ok (.iload_n 1, 1) := by decide +kernel
theorem dX8_boy_196 : decode cX8_boy 196 = .ok (.iload_n 3, 1) := by decide +kernel
theorem dX8_boy_197 : decode cX8_boy 197 = .ok (.iload 4, 2) := by decide +kernel
theorem dX8_boy_199 : decode cX8_boy 199 = .ok (.iconst 2, 1) := by decide +kernel
theorem dX8_boy_200 : decode cX8_boy 200 = .ok (.irem, 1) := by decide +kernel
theorem dX8_boy_201 : decode cX8_boy 201 = .ok (.iconst 1, 1) := by decide +kernel
theorem dX8_boy_202 : decode cX8_boy 202 = .ok (.if_icmp .ne 7, 3) := by decide +kernel
theorem dX8_boy_205 : decode cX8_boy 205 = .ok (.iconst 1, 1) := by decide +kernel
theorem dX8_boy_206 : decode cX8_boy 206 = .ok (.goto 4, 3) := by decide +kernel
theorem dX8_boy_209 : decode cX8_boy 209 = .ok (.iconst 0, 1) := by decide +kernel
theorem dX8_boy_210 : decode cX8_boy 210 = .ok (.invokevirtual 219, 3) := by decide +kernel
theorem dX8_boy_213 : decode cX8_boy 213 = .ok (.iload 7, 2) := by decide +kernel
theorem dX8_boy_215 : decode cX8_boy 215 = .ok (.aload_n 0, 1) := by decide +kernel
theorem dX8_boy_216 : decode cX8_boy 216 = .ok (.getfield 78, 3) := by decide +kernel
theorem dX8_boy_219 : decode cX8_boy 219 = .ok (.iconst 2, 1) := by decide +kernel
theorem dX8_boy_220 : decode cX8_boy 220 = .ok (.iload 5, 2) := by decide +kernel
theorem dX8_boy_222 : decode cX8_boy 222 = .ok (.imul, 1) := by decide +kernel
theorem dX8_boy_223 : decode cX8_boy 223 = .ok (.iaload, 1) := by decide +kernel
theorem dX8_boy_224 : decode cX8_boy 224 = .ok (.invokestatic 245, 3) := by decide +kernel
theorem dX8_boy_227 : decode cX8_boy 227 = .ok (.iastore, 1) := by decide +kernel
theorem dX8_boy_228 : decode cX8_boy 228 = .ok (.iinc 4 1, 3) := by decide +kernel
theorem dX8_boy_231 : decode cX8_boy 231 = .ok (.goto (-109), 3) := by decide +kernel
theorem dX8_boy_234 : decode cX8_boy 234 = .ok (.iconst 0, 1) := by decide +kernel
theorem dX8_boy_235 : decode cX8_boy 235 = .ok (.istore 4, 2) := by decide +kernel
theorem dX8_boy_237 : decode cX8_boy 237 = .ok (.iload 4, 2) := by decide +kernel
theorem dX8_boy_239 : decode cX8_boy 239 = .ok (.bipush 50, 2) := by decide +kernel
theorem dX8_boy_241 : decode cX8_boy 241 = .ok (.if_icmp .ge 23, 3) := by decide +kernel
theorem dX8_boy_244 : decode cX8_boy 244 = .ok (.aload_n 0, 1) := by decide +kernel
theorem dX8_boy_245 : decode cX8_boy 245 = .ok (.getfield 78, 3) := by decide +kernel
theorem dX8_boy_248 : decode cX8_boy 248 = .ok (.iload 4, 2) := by decide +kernel
theorem dX8_boy_250 : decode cX8_boy 250 = .ok (.aload_n 0, 1) := by decide +kernel
theorem dX8_boy_251 : decode cX8_boy 251 = .ok (.getfield 81, 3) := by decide +kernel
theorem dX8_boy_254 : decode cX8_boy 254 = .ok (.iload 4, 2) := by decide +kernel
theorem dX8_boy_256 : decode cX8_boy 256 = .ok (.iaload, 1) := by decide +kernel
theorem dX8_boy_257 : decode cX8_boy 257 = .ok (.iastore, 1) := by decide +kernel
theorem dX8_boy_258 : decode cX8_boy 258 = .ok (.iinc 4 1, 3) := by decide +kernel
theorem dX8_boy_261 : decode cX8_boy 261 = .ok (.goto (-24), 3) := by decide +kernel
theorem dX8_boy_264 : decode cX8_boy 264 = .ok (.iinc 3 (-1), 3) := by decide +kernel
theorem dX8_boy_267 : decode cX8_boy 267 = .ok (.goto (-152), 3) := by decide +kernel
theorem dX8_boy_270 : decode cX8_boy 270 = .ok (.aload_n 0, 1) := by decide +kernel
theorem dX8_boy_271 : decode cX8_boy 271 = .ok (.getfield 78, 3) := by decide +kernel
theorem dX8_boy_274 : decode cX8_boy 274 = .ok (.bipush 48, 2) := by decide +kernel
theorem dX8_boy_276 : decode cX8_boy 276 = .ok (.iaload, 1) := by decide +kernel
theorem dX8_boy_277 : decode cX8_boy 277 = .ok (.ireturn, 1) := by decide +kernel
theorem tw_57 : Cond.selects RX8 yX8_isRule yX8_isRule ∈ LW := LWm (i := 57) (by decide +kernel) rfl
theorem tw_58 : Cond.selects RX8 yX8_meanOf yX8_meanOf ∈ LW := LWm (i := 58) (by decide +kernel) rfl
theorem tw_59 : Cond.selects RX8 yX8_isRoundBy yX8_isRoundBy ∈ LW := LWm (i := 59) (by decide +kernel) rfl
theorem tw_60 : Cond.selects RX8 yX8_byGarage yX8_byGarage ∈ LW := LWm (i := 60) (by decide +kernel) rfl
theorem tw_61 : Cond.selects RX8 yX8_isFor yX8_isFor ∈ LW := LWm (i := 61) (by decide +kernel) rfl
theorem tw_62 : Cond.selects RX8 yX8_byTaking yX8_byTaking ∈ LW := LWm (i := 62) (by decide +kernel) rfl
theorem tw_76 : Cond.selects RX8 yX8_drive yX8_drive ∈ LW := LWm (i := 76) (by decide +kernel) rfl
theorem tw_77 : Cond.selects RX8 yX8_draw yX8_draw ∈ LW := LWm (i := 77) (by decide +kernel) rfl
theorem tw_997 : Cond.fieldLink RX8 57 "LastPlaceModel" "barMany" "[I" ∈ LW := LWm4 (i := 199) (by decide +kernel) rfl
theorem tw_998 : Cond.fieldLink RX8 60 "LastPlaceModel" "barSeen" "[I" ∈ LW := LWm4 (i := 200) (by decide +kernel) rfl
theorem tw_999 : Cond.fieldLink RX8 63 "LastPlaceModel" "barFrom" "[I" ∈ LW := LWm4 (i := 201) (by decide +kernel) rfl
theorem tw_1000 : Cond.fieldLink RX8 66 "LastPlaceModel" "ruleRounds" "[I" ∈ LW := LWm4 (i := 202) (by decide +kernel) rfl
theorem tw_1001 : Cond.fieldLink RX8 69 "LastPlaceModel" "follows" "[I" ∈ LW := LWm4 (i := 203) (by decide +kernel) rfl
theorem tw_1002 : Cond.fieldLink RX8 72 "LastPlaceModel" "before" "[I" ∈ LW := LWm4 (i := 204) (by decide +kernel) rfl
theorem tw_1321 : Cond.methodLink RX8 298 yX8_isRule ∈ LW := LWm6 (i := 43) (by decide +kernel) rfl
theorem tw_1323 : Cond.instanceMethod yX8_isRule ∈ LW := LWm6 (i := 45) (by decide +kernel) rfl
set_option maxRecDepth 100000 in theorem tw_1324 : Cond.code yX8_isRule cX8_isRule 2 (some .boolean) ∈ LW := LWm6 (i := 46) rfl rfl
theorem tw_1325 : Cond.methodLink RX8 301 yX8_meanOf ∈ LW := LWm6 (i := 47) (by decide +kernel) rfl
theorem tw_1327 : Cond.instanceMethod yX8_meanOf ∈ LW := LWm6 (i := 49) (by decide +kernel) rfl
set_option maxRecDepth 100000 in theorem tw_1328 : Cond.code yX8_meanOf cX8_meanOf 14 (some .int) ∈ LW := LWm6 (i := 50) rfl rfl
theorem tw_1329 : Cond.methodLink RX8 286 yX8_isRoundBy ∈ LW := LWm6 (i := 51) (by decide +kernel) rfl
theorem tw_1331 : Cond.instanceMethod yX8_isRoundBy ∈ LW := LWm6 (i := 53) (by decide +kernel) rfl
set_option maxRecDepth 100000 in theorem tw_1332 : Cond.code yX8_isRoundBy cX8_isRoundBy 4 (some .boolean) ∈ LW := LWm6 (i := 54) rfl rfl
theorem tw_1333 : Cond.methodLink RX8 289 yX8_byGarage ∈ LW := LWm6 (i := 55) (by decide +kernel) rfl
theorem tw_1335 : Cond.instanceMethod yX8_byGarage ∈ LW := LWm6 (i := 57) (by decide +kernel) rfl
set_option maxRecDepth 100000 in theorem tw_1336 : Cond.code yX8_byGarage cX8_byGarage 5 (some .int) ∈ LW := LWm6 (i := 58) rfl rfl
theorem tw_1337 : Cond.constant RX8 285 (1000000) ∈ LW := LWm6 (i := 59) (by decide +kernel) rfl
theorem tw_1338 : Cond.methodLink RX8 292 yX8_isFor ∈ LW := LWm6 (i := 60) (by decide +kernel) rfl
theorem tw_1340 : Cond.instanceMethod yX8_isFor ∈ LW := LWm6 (i := 62) (by decide +kernel) rfl
set_option maxRecDepth 100000 in theorem tw_1341 : Cond.code yX8_isFor cX8_isFor 6 (some .boolean) ∈ LW := LWm6 (i := 63) rfl rfl
theorem tw_1342 : Cond.methodLink RX8 295 yX8_byTaking ∈ LW := LWm6 (i := 64) (by decide +kernel) rfl
theorem tw_1344 : Cond.instanceMethod yX8_byTaking ∈ LW := LWm6 (i := 66) (by decide +kernel) rfl
set_option maxRecDepth 100000 in theorem tw_1345 : Cond.code yX8_byTaking cX8_byTaking 6 (some .int) ∈ LW := LWm6 (i := 67) rfl rfl
theorem tw_1475 : Cond.constantLong RX8 387 (50) ∈ LW := LWm6 (i := 197) (by decide +kernel) rfl
theorem tw_1476 : Cond.methodLink RX8 389 yX8_drive ∈ LW := LWm6 (i := 198) (by decide +kernel) rfl
theorem tw_1478 : Cond.instanceMethod yX8_drive ∈ LW := LWm6 (i := 200) (by decide +kernel) rfl
set_option maxRecDepth 100000 in theorem tw_1479 : Cond.code yX8_drive cX8_drive 10 (some .int) ∈ LW := LWm6 (i := 201) rfl rfl
theorem tw_1480 : Cond.methodLink RX8 384 yX8_draw ∈ LW := LWm6 (i := 202) (by decide +kernel) rfl
theorem tw_1482 : Cond.instanceMethod yX8_draw ∈ LW := LWm6 (i := 204) (by decide +kernel) rfl
set_option maxRecDepth 100000 in theorem tw_1483 : Cond.code yX8_draw cX8_draw 1 (some .int) ∈ LW := LWm6 (i := 205) rfl rfl
theorem tw_1488 : Cond.constantLong RX8 392 (1000) ∈ LW := LWm6 (i := 210) (by decide +kernel) rfl
theorem f_m_isRule_rows : True := trivial
theorem dX8_isRule_0 : decode cX8_isRule 0 = .ok (.iload_n 1, 1) := by decide +kernel
theorem dX8_isRule_1 : decode cX8_isRule 1 = .ok (.i2l, 1) := by decide +kernel
theorem dX8_isRule_2 : decode cX8_isRule 2 = .ok (.lconst 0, 1) := by decide +kernel
theorem dX8_isRule_3 : decode cX8_isRule 3 = .ok (.aload_n 0, 1) := by decide +kernel
theorem dX8_isRule_4 : decode cX8_isRule 4 = .ok (.getfield 276, 3) := by decide +kernel
theorem dX8_isRule_7 : decode cX8_isRule 7 = .ok (.iconst 1, 1) := by decide +kernel
theorem dX8_isRule_8 : decode cX8_isRule 8 = .ok (.isub, 1) := by decide +kernel
theorem dX8_isRule_9 : decode cX8_isRule 9 = .ok (.i2l, 1) := by decide +kernel
theorem dX8_isRule_10 : decode cX8_isRule 10 = .ok (.invokestatic 107, 3) := by decide +kernel
theorem dX8_isRule_13 : decode cX8_isRule 13 = .ok (.ireturn, 1) := by decide +kernel
theorem dX8_isCar_0 : decode cX8_isCar 0 = .ok (.iload_n 1, 1) := by decide +kernel
theorem dX8_isCar_1 : decode cX8_isCar 1 = .ok (.i2l, 1) := by decide +kernel
theorem dX8_isCar_2 : decode cX8_isCar 2 = .ok (.lconst 0, 1) := by decide +kernel
theorem dX8_isCar_3 : decode cX8_isCar 3 = .ok (.aload_n 0, 1) := by decide +kernel
theorem dX8_isCar_4 : decode cX8_isCar 4 = .ok (.getfield 315, 3) := by decide +kernel
theorem dX8_isCar_7 : decode cX8_isCar 7 = .ok (.iconst 1, 1) := by decide +kernel
theorem dX8_isCar_8 : decode cX8_isCar 8 = .ok (.isub, 1) := by decide +kernel
theorem dX8_isCar_9 : decode cX8_isCar 9 = .ok (.i2l, 1) := by decide +kernel
theorem dX8_isCar_10 : decode cX8_isCar 10 = .ok (.invokestatic 107, 3) := by decide +kernel
theorem dX8_isCar_13 : decode cX8_isCar 13 = .ok (.ireturn, 1) := by decide +kernel
set_option maxHeartbeats 4000000 in
set_option maxRecDepth 100000 in
theorem m_isCar (l : Launch) (D : va_G) (k : Nat → ClassId) (st : Nat → Nat) (lo : Nat) (a : Nat → Nat) (tx : Nat) (t0 : Nat) (we : Nat) (rd : Nat) (ru : Nat) (rw : Nat) (ca : Nat) (fp : Int32) (wd : Int64) (nu : Int32) (na : Int32) (ts : Int32) (df : Int32) (db : Int32) (sd : Int32) (pz : Int32) (hca : ca ≤ 4) : CRi l D k st lo yX8_isCar cX8_isCar 2 (some .boolean) ({ frames := 1, cells := 0, slots := 0, locals := 25 }) [.ref (a 0), .int pz] [((a 0), .inr (8, (fX8 a (nI tx) fp (nI t0) wd (nI we) nu na (nI rd) ts (nI ru) (nI rw) (nI ca) df db sd)))] (fun r => (r = 1 ∧ ∃ j : Nat, j < ca ∧ pz = nI j ∧ True) ∨ r = 0) := by
  intro sz
  refine Met.ofW (cc := cX8_isCar) (maxL := 2) (ret := (some .boolean)) (by decide) rfl ?_
  intro p e s m args below meth c s₁ B hml hv
  obtain ⟨rfl, hsz, hlo, hP, hK, hDL, hZ⟩ := hv
  have hx := B.exec
  have hb := B.bytes
  have hr := B.returns
  have hts := WS_ts B.pre
  have hown : s.vm.findClass RX8 = some m.cls := findClass_of_methodNamed B.named
  have hlocks := B.notSynchronized
  subst hsz
  have hA : ∀ q : Nat, s.heap.size ≤ q → (fun q : Nat => s.heap.size ≤ q) q := fun _ h => h
  have hAlo : ∀ q : Nat, (fun q : Nat => s.heap.size ≤ q) q → lo ≤ q := fun q h => Nat.le_trans hlo h
  have hS : va_S (fun q : Nat => s.heap.size ≤ q) s.heap s.heap [] := va_S.rf
  have hl := lv_entry ([.ref (a 0), .int pz]) (n := 2) (Nat.le_of_ble_eq_true rfl)
  rw [lg_entry_eq]
  generalize (lg_sl ([.ref (a 0), .int pz]) ++ List.replicate (2 - (lg_sl ([.ref (a 0), .int pz])).length) Slot.unset).toArray = ls at hl ⊢
  have hl : lv_has ls 2 [(0, .ref (a 0)), (1, .int pz)] := hl
  refine lv_iload_n hx hb dX8_isCar_0 rfl (lv_at hl 1 rfl) ?_
  refine lv_i2l (v := pz.toInt64) hx hb dX8_isCar_1 rfl ?_
  refine lv_lconst (v := (0 : Int32).toInt64) hx hb dX8_isCar_2 (by decide) ?_
  refine lv_aload_n hx hb dX8_isCar_3 rfl (lv_at hl 0 rfl) ?_
  refine va_get (D := D) (ci := 8) (v := .int (nI ca)) (C := RX8) (T := TX8) (N := 44) hx hb hts inX8 hown hK hP 0 rfl rfl 34 (by decide) (hts _ tw_1007) (fun _ h9 => h9) rfl dX8_isCar_4 ?_
  refine lv_iconst (v := 1) hx hb dX8_isCar_7 (by decide) ?_
  refine lv_isub hx hb dX8_isCar_8 ?_
  refine lv_topi (fun x_1 ex_1 => ?_)
  refine lv_i2l (v := x_1.toInt64) hx hb dX8_isCar_9 rfl ?_
  refine ro_i (D := D) (va_runS (As := [.long (pz.toInt64), .long ((0 : Int32).toInt64), .long (x_1.toInt64)]) (rest := []) ⟨hx, hb, hml, hown, hts⟩ ((k_in l D k st lo pz (0 : Int32) x_1) s.heap.size) (va_cwS 3 hts (gS tw_1111 tw_1112 tw_87 tw_1113) rfl rfl rfl (by decide +kernel) ⟨Nat.le_of_ble_eq_true rfl, Nat.le_of_ble_eq_true rfl⟩) (pS hS hAlo hlo hP hK hDL hZ [] (by decide) rfl) rfl rfl hl.1 rfl (lv_room (Nat.le_of_ble_eq_true rfl)) dX8_isCar_10 ⟨Nat.le_of_ble_eq_true rfl, Nat.le_of_ble_eq_true rfl⟩) hS hA hP (fun r_2 H locs hw_2 hP hS => ?_)
  try dsimp only at hw_2
  rcases hw_2 with ⟨rfl, hw_2⟩ | ⟨rfl, hw_2⟩
  · exact W.zret (v := 1) (ty := .boolean) hx hb hr rfl (fun t ht hW => ⟨⟨1, (), rfl, .inl ⟨rfl, (by rw [ex_1] at hw_2; obtain ⟨j, hj, e⟩ := inB_of1 (by omega) hw_2; exact ⟨j, hj, e, trivial⟩)⟩, trivial⟩, hS.F ht⟩) hS.2.2 dX8_isCar_13
  · exact W.zret (v := 0) (ty := .boolean) hx hb hr rfl (fun t ht hW => ⟨⟨0, (), rfl, .inr rfl, trivial⟩, hS.F ht⟩) hS.2.2 dX8_isCar_13

theorem f_m_isFor_rows : True := trivial
theorem dX8_isFor_0 : decode cX8_isFor 0 = .ok (.aload_n 0, 1) := by decide +kernel
theorem dX8_isFor_1 : decode cX8_isFor 1 = .ok (.getfield 63, 3) := by decide +kernel
theorem dX8_isFor_4 : decode cX8_isFor 4 = .ok (.bipush 12, 2) := by decide +kernel
theorem dX8_isFor_6 : decode cX8_isFor 6 = .ok (.iload_n 1, 1) := by decide +kernel
theorem dX8_isFor_7 : decode cX8_isFor 7 = .ok (.imul, 1) := by decide +kernel
theorem dX8_isFor_8 : decode cX8_isFor 8 = .ok (.iaload, 1) := by decide +kernel
theorem dX8_isFor_9 : decode cX8_isFor 9 = .ok (.istore 4, 2) := by decide +kernel
theorem dX8_isFor_11 : decode cX8_isFor 11 = .ok (.iconst 1, 1) := by decide +kernel
theorem dX8_isFor_12 : decode cX8_isFor 12 = .ok (.istore 5, 2) := by decide +kernel
theorem dX8_isFor_14 : decode cX8_isFor 14 = .ok (.iload 5, 2) := by decide +kernel
theorem dX8_isFor_16 : decode cX8_isFor 16 = .ok (.aload_n 0, 1) := by decide +kernel
theorem dX8_isFor_17 : decode cX8_isFor 17 = .ok (.getfield 57, 3) := by decide +kernel
theorem dX8_isFor_20 : decode cX8_isFor 20 = .ok (.iload_n 1, 1) := by decide +kernel
theorem dX8_isFor_21 : decode cX8_isFor 21 = .ok (.iaload, 1) := by decide +kernel
theorem dX8_isFor_22 : decode cX8_isFor 22 = .ok (.if_icmp .ge 44, 3) := by decide +kernel
theorem dX8_isFor_25 : decode cX8_isFor 25 = .ok (.aload_n 0, 1) := by decide +kernel
theorem dX8_isFor_26 : decode cX8_isFor 26 = .ok (.getfield 60, 3) := by decide +kernel
theorem dX8_isFor_29 : decode cX8_isFor 29 = .ok (.bipush 12, 2) := by decide +kernel
theorem dX8_isFor_31 : decode cX8_isFor 31 = .ok (.iload_n 1, 1) := by decide +kernel
theorem dX8_isFor_32 : decode cX8_isFor 32 = .ok (.imul, 1) := by decide +kernel
theorem dX8_isFor_33 : decode cX8_isFor 33 = .ok (.iload 5, 2) := by decide +kernel
theorem dX8_isFor_35 : decode cX8_isFor 35 = .ok (.iadd, 1) := by decide +kernel
theorem dX8_isFor_36 : decode cX8_isFor 36 = .ok (.iaload, 1) := by decide +kernel
theorem dX8_isFor_37 : decode cX8_isFor 37 = .ok (.iload_n 3, 1) := by decide +kernel
theorem dX8_isFor_38 : decode cX8_isFor 38 = .ok (.if_icmp .gt 18, 3) := by decide +kernel
theorem dX8_isFor_41 : decode cX8_isFor 41 = .ok (.aload_n 0, 1) := by decide +kernel
theorem dX8_isFor_42 : decode cX8_isFor 42 = .ok (.getfield 63, 3) := by decide +kernel
theorem dX8_isFor_45 : decode cX8_isFor 45 = .ok (.bipush 12, 2) := by decide +kernel
theorem dX8_isFor_47 : decode cX8_isFor 47 = .ok (.iload_n 1, 1) := by decide +kernel
theorem dX8_isFor_48 : decode cX8_isFor 48 = .ok (.imul, 1) := by decide +kernel
theorem dX8_isFor_49 : decode cX8_isFor 49 = .ok (.iload 5, 2) := by decide +kernel
theorem dX8_isFor_51 : decode cX8_isFor 51 = .ok (.iadd, 1) := by decide +kernel
theorem dX8_isFor_52 : decode cX8_isFor 52 = .ok (.iaload, 1) := by decide +kernel
theorem dX8_isFor_53 : decode cX8_isFor 53 = .ok (.goto 5, 3) := by decide +kernel
theorem dX8_isFor_56 : decode cX8_isFor 56 = .ok (.iload 4, 2) := by decide +kernel
theorem dX8_isFor_58 : decode cX8_isFor 58 = .ok (.istore 4, 2) := by decide +kernel
theorem dX8_isFor_60 : decode cX8_isFor 60 = .ok (.iinc 5 1, 3) := by decide +kernel
theorem dX8_isFor_63 : decode cX8_isFor 63 = .ok (.goto (-49), 3) := by decide +kernel
theorem dX8_isFor_66 : decode cX8_isFor 66 = .ok (.iload_n 2, 1) := by decide +kernel
theorem dX8_isFor_67 : decode cX8_isFor 67 = .ok (.iload 4, 2) := by decide +kernel
theorem dX8_isFor_69 : decode cX8_isFor 69 = .ok (.if_icmp .lt 7, 3) := by decide +kernel
theorem dX8_isFor_72 : decode cX8_isFor 72 = .ok (.iconst 1, 1) := by decide +kernel
theorem dX8_isFor_73 : decode cX8_isFor 73 = .ok (.goto 4, 3) := by decide +kernel
theorem dX8_isFor_76 : decode cX8_isFor 76 = .ok (.iconst 0, 1) := by decide +kernel
theorem dX8_isFor_77 : decode cX8_isFor 77 = .ok (.ireturn, 1) := by decide +kernel
theorem f_m_isRoundBy_rows : True := trivial
theorem dX8_isRoundBy_0 : decode cX8_isRoundBy 0 = .ok (.iload_n 3, 1) := by decide +kernel
theorem dX8_isRoundBy_1 : decode cX8_isRoundBy 1 = .ok (.aload_n 0, 1) := by decide +kernel
theorem dX8_isRoundBy_2 : decode cX8_isRoundBy 2 = .ok (.getfield 66, 3) := by decide +kernel
theorem dX8_isRoundBy_5 : decode cX8_isRoundBy 5 = .ok (.iload_n 2, 1) := by decide +kernel
theorem dX8_isRoundBy_6 : decode cX8_isRoundBy 6 = .ok (.iaload, 1) := by decide +kernel
theorem dX8_isRoundBy_7 : decode cX8_isRoundBy 7 = .ok (.if_icmp .ge 18, 3) := by decide +kernel
theorem dX8_isRoundBy_10 : decode cX8_isRoundBy 10 = .ok (.iload_n 3, 1) := by decide +kernel
theorem dX8_isRoundBy_11 : decode cX8_isRoundBy 11 = .ok (.aload_n 0, 1) := by decide +kernel
theorem dX8_isRoundBy_12 : decode cX8_isRoundBy 12 = .ok (.iload_n 1, 1) := by decide +kernel
theorem dX8_isRoundBy_13 : decode cX8_isRoundBy 13 = .ok (.bipush 7, 2) := by decide +kernel
theorem dX8_isRoundBy_15 : decode cX8_isRoundBy 15 = .ok (.invokevirtual 212, 3) := by decide +kernel
theorem dX8_isRoundBy_18 : decode cX8_isRoundBy 18 = .ok (.if_icmp .ge 7, 3) := by decide +kernel
theorem dX8_isRoundBy_21 : decode cX8_isRoundBy 21 = .ok (.iconst 1, 1) := by decide +kernel
theorem dX8_isRoundBy_22 : decode cX8_isRoundBy 22 = .ok (.goto 4, 3) := by decide +kernel
theorem dX8_isRoundBy_25 : decode cX8_isRoundBy 25 = .ok (.iconst 0, 1) := by decide +kernel
theorem dX8_isRoundBy_26 : decode cX8_isRoundBy 26 = .ok (.ireturn, 1) := by decide +kernel
theorem f_m_byTaking_rows : True := trivial
theorem dX8_byTaking_0 : decode cX8_byTaking 0 = .ok (.aload_n 0, 1) := by decide +kernel
theorem dX8_byTaking_1 : decode cX8_byTaking 1 = .ok (.iload_n 1, 1) := by decide +kernel
theorem dX8_byTaking_2 : decode cX8_byTaking 2 = .ok (.aload_n 0, 1) := by decide +kernel
theorem dX8_byTaking_3 : decode cX8_byTaking 3 = .ok (.iload_n 1, 1) := by decide +kernel
theorem dX8_byTaking_4 : decode cX8_byTaking 4 = .ok (.iload_n 2, 1) := by decide +kernel
theorem dX8_byTaking_5 : decode cX8_byTaking 5 = .ok (.iload_n 3, 1) := by decide +kernel
theorem dX8_byTaking_6 : decode cX8_byTaking 6 = .ok (.invokevirtual 223, 3) := by decide +kernel
theorem dX8_byTaking_9 : decode cX8_byTaking 9 = .ok (.aload_n 0, 1) := by decide +kernel
theorem dX8_byTaking_10 : decode cX8_byTaking 10 = .ok (.getfield 7, 3) := by decide +kernel
theorem dX8_byTaking_13 : decode cX8_byTaking 13 = .ok (.iload_n 1, 1) := by decide +kernel
theorem dX8_byTaking_14 : decode cX8_byTaking 14 = .ok (.iaload, 1) := by decide +kernel
theorem dX8_byTaking_15 : decode cX8_byTaking 15 = .ok (.iadd, 1) := by decide +kernel
theorem dX8_byTaking_16 : decode cX8_byTaking 16 = .ok (.iload_n 3, 1) := by decide +kernel
theorem dX8_byTaking_17 : decode cX8_byTaking 17 = .ok (.isub, 1) := by decide +kernel
theorem dX8_byTaking_18 : decode cX8_byTaking 18 = .ok (.invokevirtual 227, 3) := by decide +kernel
theorem dX8_byTaking_21 : decode cX8_byTaking 21 = .ok (.ifCond .le 7, 3) := by decide +kernel
theorem dX8_byTaking_24 : decode cX8_byTaking 24 = .ok (.iconst 1, 1) := by decide +kernel
theorem dX8_byTaking_25 : decode cX8_byTaking 25 = .ok (.goto 4, 3) := by decide +kernel
theorem dX8_byTaking_28 : decode cX8_byTaking 28 = .ok (.iconst 0, 1) := by decide +kernel
theorem dX8_byTaking_29 : decode cX8_byTaking 29 = .ok (.istore 5, 2) := by decide +kernel
theorem dX8_byTaking_31 : decode cX8_byTaking 31 = .ok (.iload 4, 2) := by decide +kernel
theorem dX8_byTaking_33 : decode cX8_byTaking 33 = .ok (.ifCond .ne 13, 3) := by decide +kernel
theorem dX8_byTaking_36 : decode cX8_byTaking 36 = .ok (.aload_n 0, 1) := by decide +kernel
theorem dX8_byTaking_37 : decode cX8_byTaking 37 = .ok (.iload_n 1, 1) := by decide +kernel
theorem dX8_byTaking_38 : decode cX8_byTaking 38 = .ok (.iload_n 2, 1) := by decide +kernel
theorem dX8_byTaking_39 : decode cX8_byTaking 39 = .ok (.iload_n 3, 1) := by decide +kernel
theorem dX8_byTaking_40 : decode cX8_byTaking 40 = .ok (.invokevirtual 237, 3) := by decide +kernel
theorem dX8_byTaking_43 : decode cX8_byTaking 43 = .ok (.goto 21, 3) := by decide +kernel
theorem dX8_byTaking_46 : decode cX8_byTaking 46 = .ok (.iload 4, 2) := by decide +kernel
theorem dX8_byTaking_48 : decode cX8_byTaking 48 = .ok (.iconst 1, 1) := by decide +kernel
theorem dX8_byTaking_49 : decode cX8_byTaking 49 = .ok (.if_icmp .ne 14, 3) := by decide +kernel
theorem dX8_byTaking_52 : decode cX8_byTaking 52 = .ok (.iload 5, 2) := by decide +kernel
theorem dX8_byTaking_54 : decode cX8_byTaking 54 = .ok (.ifCond .eq 9, 3) := by decide +kernel
theorem dX8_byTaking_57 : decode cX8_byTaking 57 = .ok (.ldc_w 285, 3) := by decide +kernel
theorem dX8_byTaking_60 : decode cX8_byTaking 60 = .ok (.goto 4, 3) := by decide +kernel
theorem dX8_byTaking_63 : decode cX8_byTaking 63 = .ok (.iconst 0, 1) := by decide +kernel
theorem dX8_byTaking_64 : decode cX8_byTaking 64 = .ok (.ireturn, 1) := by decide +kernel
theorem f_m_byGarage_rows : True := trivial
theorem dX8_byGarage_0 : decode cX8_byGarage 0 = .ok (.aload_n 0, 1) := by decide +kernel
theorem dX8_byGarage_1 : decode cX8_byGarage 1 = .ok (.iload_n 1, 1) := by decide +kernel
theorem dX8_byGarage_2 : decode cX8_byGarage 2 = .ok (.aload_n 0, 1) := by decide +kernel
theorem dX8_byGarage_3 : decode cX8_byGarage 3 = .ok (.iload_n 1, 1) := by decide +kernel
theorem dX8_byGarage_4 : decode cX8_byGarage 4 = .ok (.iload_n 2, 1) := by decide +kernel
theorem dX8_byGarage_5 : decode cX8_byGarage 5 = .ok (.aload_n 0, 1) := by decide +kernel
theorem dX8_byGarage_6 : decode cX8_byGarage 6 = .ok (.getfield 7, 3) := by decide +kernel
theorem dX8_byGarage_9 : decode cX8_byGarage 9 = .ok (.iload_n 1, 1) := by decide +kernel
theorem dX8_byGarage_10 : decode cX8_byGarage 10 = .ok (.iaload, 1) := by decide +kernel
theorem dX8_byGarage_11 : decode cX8_byGarage 11 = .ok (.invokevirtual 223, 3) := by decide +kernel
theorem dX8_byGarage_14 : decode cX8_byGarage 14 = .ok (.invokevirtual 227, 3) := by decide +kernel
theorem dX8_byGarage_17 : decode cX8_byGarage 17 = .ok (.ifCond .le 7, 3) := by decide +kernel
theorem dX8_byGarage_20 : decode cX8_byGarage 20 = .ok (.iconst 1, 1) := by decide +kernel
theorem dX8_byGarage_21 : decode cX8_byGarage 21 = .ok (.goto 4, 3) := by decide +kernel
theorem dX8_byGarage_24 : decode cX8_byGarage 24 = .ok (.iconst 0, 1) := by decide +kernel
theorem dX8_byGarage_25 : decode cX8_byGarage 25 = .ok (.istore 4, 2) := by decide +kernel
theorem dX8_byGarage_27 : decode cX8_byGarage 27 = .ok (.iload_n 3, 1) := by decide +kernel
theorem dX8_byGarage_28 : decode cX8_byGarage 28 = .ok (.ifCond .ne 12, 3) := by decide +kernel
theorem dX8_byGarage_31 : decode cX8_byGarage 31 = .ok (.aload_n 0, 1) := by decide +kernel
theorem dX8_byGarage_32 : decode cX8_byGarage 32 = .ok (.iload_n 1, 1) := by decide +kernel
theorem dX8_byGarage_33 : decode cX8_byGarage 33 = .ok (.iload_n 2, 1) := by decide +kernel
theorem dX8_byGarage_34 : decode cX8_byGarage 34 = .ok (.invokevirtual 248, 3) := by decide +kernel
theorem dX8_byGarage_37 : decode cX8_byGarage 37 = .ok (.goto 20, 3) := by decide +kernel
theorem dX8_byGarage_40 : decode cX8_byGarage 40 = .ok (.iload_n 3, 1) := by decide +kernel
theorem dX8_byGarage_41 : decode cX8_byGarage 41 = .ok (.iconst 2, 1) := by decide +kernel
theorem dX8_byGarage_42 : decode cX8_byGarage 42 = .ok (.if_icmp .eq 8, 3) := by decide +kernel
theorem dX8_byGarage_45 : decode cX8_byGarage 45 = .ok (.iload 4, 2) := by decide +kernel
theorem dX8_byGarage_47 : decode cX8_byGarage 47 = .ok (.ifCond .eq 9, 3) := by decide +kernel
theorem dX8_byGarage_50 : decode cX8_byGarage 50 = .ok (.ldc_w 285, 3) := by decide +kernel
theorem dX8_byGarage_53 : decode cX8_byGarage 53 = .ok (.goto 4, 3) := by decide +kernel
theorem dX8_byGarage_56 : decode cX8_byGarage 56 = .ok (.iconst 0, 1) := by decide +kernel
theorem dX8_byGarage_57 : decode cX8_byGarage 57 = .ok (.ireturn, 1) := by decide +kernel
theorem f_m_meanOf_rows : True := trivial
theorem dX8_meanOf_0 : decode cX8_meanOf 0 = .ok (.aload_n 0, 1) := by decide +kernel
theorem dX8_meanOf_1 : decode cX8_meanOf 1 = .ok (.getfield 7, 3) := by decide +kernel
theorem dX8_meanOf_4 : decode cX8_meanOf 4 = .ok (.iload_n 1, 1) := by decide +kernel
theorem dX8_meanOf_5 : decode cX8_meanOf 5 = .ok (.iaload, 1) := by decide +kernel
theorem dX8_meanOf_6 : decode cX8_meanOf 6 = .ok (.istore 4, 2) := by decide +kernel
theorem dX8_meanOf_8 : decode cX8_meanOf 8 = .ok (.iload_n 3, 1) := by decide +kernel
theorem dX8_meanOf_9 : decode cX8_meanOf 9 = .ok (.ifCond .ne 16, 3) := by decide +kernel
theorem dX8_meanOf_12 : decode cX8_meanOf 12 = .ok (.aload_n 0, 1) := by decide +kernel
theorem dX8_meanOf_13 : decode cX8_meanOf 13 = .ok (.iload_n 1, 1) := by decide +kernel
theorem dX8_meanOf_14 : decode cX8_meanOf 14 = .ok (.iconst 2, 1) := by decide +kernel
theorem dX8_meanOf_15 : decode cX8_meanOf 15 = .ok (.invokevirtual 212, 3) := by decide +kernel
theorem dX8_meanOf_18 : decode cX8_meanOf 18 = .ok (.sipush 1000, 3) := by decide +kernel
theorem dX8_meanOf_21 : decode cX8_meanOf 21 = .ok (.imul, 1) := by decide +kernel
theorem dX8_meanOf_22 : decode cX8_meanOf 22 = .ok (.goto 4, 3) := by decide +kernel
theorem dX8_meanOf_25 : decode cX8_meanOf 25 = .ok (.iconst 0, 1) := by decide +kernel
theorem dX8_meanOf_26 : decode cX8_meanOf 26 = .ok (.istore 5, 2) := by decide +kernel
theorem dX8_meanOf_28 : decode cX8_meanOf 28 = .ok (.iconst 0, 1) := by decide +kernel
theorem dX8_meanOf_29 : decode cX8_meanOf 29 = .ok (.istore 6, 2) := by decide +kernel
theorem dX8_meanOf_31 : decode cX8_meanOf 31 = .ok (.iconst 3, 1) := by decide +kernel
theorem dX8_meanOf_32 : decode cX8_meanOf 32 = .ok (.istore 7, 2) := by decide +kernel
theorem dX8_meanOf_34 : decode cX8_meanOf 34 = .ok (.iload 7, 2) := by decide +kernel
theorem dX8_meanOf_36 : decode cX8_meanOf 36 = .ok (.ifCond .lt 253, 3) := by decide +kernel
theorem dX8_meanOf_39 : decode cX8_meanOf 39 = .ok (.iload_n 3, 1) := by decide +kernel
theorem dX8_meanOf_40 : decode cX8_meanOf 40 = .ok (.ifCond .ne 24, 3) := by decide +kernel
theorem dX8_meanOf_43 : decode cX8_meanOf 43 = .ok (.aload_n 0, 1) := by decide +kernel
theorem dX8_meanOf_44 : decode cX8_meanOf 44 = .ok (.iload_n 1, 1) := by decide +kernel
theorem dX8_meanOf_45 : decode cX8_meanOf 45 = .ok (.iconst 2, 1) := by decide +kernel
theorem dX8_meanOf_46 : decode cX8_meanOf 46 = .ok (.invokevirtual 212, 3) := by decide +kernel
theorem dX8_meanOf_49 : decode cX8_meanOf 49 = .ok (.aload_n 0, 1) := by decide +kernel
theorem dX8_meanOf_50 : decode cX8_meanOf 50 = .ok (.iload_n 1, 1) := by decide +kernel
theorem dX8_meanOf_51 : decode cX8_meanOf 51 = .ok (.bipush 6, 2) := by decide +kernel
theorem dX8_meanOf_53 : decode cX8_meanOf 53 = .ok (.invokevirtual 212, 3) := by decide +kernel
theorem dX8_meanOf_56 : decode cX8_meanOf 56 = .ok (.imul, 1) := by decide +kernel
theorem dX8_meanOf_57 : decode cX8_meanOf 57 = .ok (.sipush 1000, 3) := by decide +kernel
theorem dX8_meanOf_60 : decode cX8_meanOf 60 = .ok (.imul, 1) := by decide +kernel
theorem dX8_meanOf_61 : decode cX8_meanOf 61 = .ok (.goto 4, 3) := by decide +kernel
theorem dX8_meanOf_64 : decode cX8_meanOf 64 = .ok (.iconst 0, 1) := by decide +kernel
theorem dX8_meanOf_65 : decode cX8_meanOf 65 = .ok (.istore 8, 2) := by decide +kernel
theorem dX8_meanOf_67 : decode cX8_meanOf 67 = .ok (.aload_n 0, 1) := by decide +kernel
theorem dX8_meanOf_68 : decode cX8_meanOf 68 = .ok (.iload_n 1, 1) := by decide +kernel
theorem dX8_meanOf_69 : decode cX8_meanOf 69 = .ok (.iload_n 2, 1) := by decide +kernel
theorem dX8_meanOf_70 : decode cX8_meanOf 70 = .ok (.iload 7, 2) := by decide +kernel
theorem dX8_meanOf_72 : decode cX8_meanOf 72 = .ok (.invokevirtual 286, 3) := by decide +kernel
theorem dX8_meanOf_75 : decode cX8_meanOf 75 = .ok (.ifCond .eq 11, 3) := by decide +kernel
theorem dX8_meanOf_78 : decode cX8_meanOf 78 = .ok (.iload 8, 2) := by decide +kernel
theorem dX8_meanOf_80 : decode cX8_meanOf 80 = .ok (.iload 6, 2) := by decide +kernel
theorem dX8_meanOf_82 : decode cX8_meanOf 82 = .ok (.iadd, 1) := by decide +kernel
theorem dX8_meanOf_83 : decode cX8_meanOf 83 = .ok (.goto 11, 3) := by decide +kernel
theorem dX8_meanOf_86 : decode cX8_meanOf 86 = .ok (.aload_n 0, 1) := by decide +kernel
theorem dX8_meanOf_87 : decode cX8_meanOf 87 = .ok (.iload_n 1, 1) := by decide +kernel
theorem dX8_meanOf_88 : decode cX8_meanOf 88 = .ok (.iload 7, 2) := by decide +kernel
theorem dX8_meanOf_90 : decode cX8_meanOf 90 = .ok (.iload_n 3, 1) := by decide +kernel
theorem dX8_meanOf_91 : decode cX8_meanOf 91 = .ok (.invokevirtual 289, 3) := by decide +kernel
theorem dX8_meanOf_94 : decode cX8_meanOf 94 = .ok (.istore 9, 2) := by decide +kernel
theorem dX8_meanOf_96 : decode cX8_meanOf 96 = .ok (.iconst 0, 1) := by decide +kernel
theorem dX8_meanOf_97 : decode cX8_meanOf 97 = .ok (.istore 10, 2) := by decide +kernel
theorem dX8_meanOf_99 : decode cX8_meanOf 99 = .ok (.iload 10, 2) := by decide +kernel
theorem dX8_meanOf_101 : decode cX8_meanOf 101 = .ok (.bipush 52, 2) := by decide +kernel
theorem dX8_meanOf_103 : decode cX8_meanOf 103 = .ok (.if_icmp .ge 18, 3) := by decide +kernel
theorem dX8_meanOf_106 : decode cX8_meanOf 106 = .ok (.aload_n 0, 1) := by decide +kernel
theorem dX8_meanOf_107 : decode cX8_meanOf 107 = .ok (.getfield 69, 3) := by decide +kernel
theorem dX8_meanOf_110 : decode cX8_meanOf 110 = .ok (.iload 10, 2) := by decide +kernel
theorem dX8_meanOf_112 : decode cX8_meanOf 112 = .ok (.iload 9, 2) := by decide +kernel
theorem dX8_meanOf_114 : decode cX8_meanOf 114 = .ok (.iastore, 1) := by decide +kernel
theorem dX8_meanOf_115 : decode cX8_meanOf 115 = .ok (.iinc 10 1, 3) := by decide +kernel
theorem dX8_meanOf_118 : decode cX8_meanOf 118 = .ok (.goto (-19), 3) := by decide +kernel
theorem dX8_meanOf_121 : decode cX8_meanOf 121 = .ok (.iload 4, 2) := by decide +kernel
theorem dX8_meanOf_123 : decode cX8_meanOf 123 = .ok (.iconst 1, 1) := by decide +kernel
theorem dX8_meanOf_124 : decode cX8_meanOf 124 = .ok (.isub, 1) := by decide +kernel
theorem dX8_meanOf_125 : decode cX8_meanOf 125 = .ok (.istore 10, 2) := by decide +kernel
theorem dX8_meanOf_127 : decode cX8_meanOf 127 = .ok (.iload 10, 2) := by decide +kernel
theorem dX8_meanOf_129 : decode cX8_meanOf 129 = .ok (.ifCond .lt 146, 3) := by decide +kernel
theorem dX8_meanOf_132 : decode cX8_meanOf 132 = .ok (.iconst 0, 1) := by decide +kernel
theorem dX8_meanOf_133 : decode cX8_meanOf 133 = .ok (.istore 11, 2) := by decide +kernel
theorem dX8_meanOf_135 : decode cX8_meanOf 135 = .ok (.iload 11, 2) := by decide +kernel
theorem dX8_meanOf_137 : decode cX8_meanOf 137 = .ok (.bipush 50, 2) := by decide +kernel
theorem dX8_meanOf_139 : decode cX8_meanOf 139 = .ok (.if_icmp .ge 100, 3) := by decide +kernel
theorem dX8_meanOf_142 : decode cX8_meanOf 142 = .ok (.iload 11, 2) := by decide +kernel
theorem dX8_meanOf_144 : decode cX8_meanOf 144 = .ok (.iconst 2, 1) := by decide +kernel
theorem dX8_meanOf_145 : decode cX8_meanOf 145 = .ok (.idiv, 1) := by decide +kernel
theorem dX8_meanOf_146 : decode cX8_meanOf 146 = .ok (.istore 12, 2) := by decide +kernel
theorem dX8_meanOf_148 : decode cX8_meanOf 148 = .ok (.aload_n 0, 1) := by decide +kernel
theorem dX8_meanOf_149 : decode cX8_meanOf 149 = .ok (.iload_n 2, 1) := by decide +kernel
theorem dX8_meanOf_150 : decode cX8_meanOf 150 = .ok (.iload 10, 2) := by decide +kernel
theorem dX8_meanOf_152 : decode cX8_meanOf 152 = .ok (.iload 12, 2) := by decide +kernel
theorem dX8_meanOf_154 : decode cX8_meanOf 154 = .ok (.invokevirtual 292, 3) := by decide +kernel
theorem dX8_meanOf_157 : decode cX8_meanOf 157 = .ok (.ifCond .eq 16, 3) := by decide +kernel
theorem dX8_meanOf_160 : decode cX8_meanOf 160 = .ok (.aload_n 0, 1) := by decide +kernel
theorem dX8_meanOf_161 : decode cX8_meanOf 161 = .ok (.iload_n 1, 1) := by decide +kernel
theorem dX8_meanOf_162 : decode cX8_meanOf 162 = .ok (.iload 7, 2) := by decide +kernel
theorem dX8_meanOf_164 : decode cX8_meanOf 164 = .ok (.iload 10, 2) := by decide +kernel
theorem dX8_meanOf_166 : decode cX8_meanOf 166 = .ok (.iload_n 3, 1) := by decide +kernel
theorem dX8_meanOf_167 : decode cX8_meanOf 167 = .ok (.invokevirtual 295, 3) := by decide +kernel
theorem dX8_meanOf_170 : decode cX8_meanOf 170 = .ok (.goto 17, 3) := by decide +kernel
theorem dX8_meanOf_173 : decode cX8_meanOf 173 = .ok (.iload 5, 2) := by decide +kernel
theorem dX8_meanOf_175 : decode cX8_meanOf 175 = .ok (.aload_n 0, 1) := by decide +kernel
theorem dX8_meanOf_176 : decode cX8_meanOf 176 = .ok (.getfield 69, 3) := by decide +kernel
theorem dX8_meanOf_179 : decode cX8_meanOf 179 = .ok (.iconst 2, 1) := by decide +kernel
theorem dX8_meanOf_180 : decode cX8_meanOf 180 = .ok (.iload 12, 2) := by decide +kernel
theorem dX8_meanOf_182 : decode cX8_meanOf 182 = .ok (.imul, 1) := by decide +kernel
theorem dX8_meanOf_183 : decode cX8_meanOf 183 = .ok (.iconst 3, 1) := by decide +kernel
theorem dX8_meanOf_184 : decode cX8_meanOf 184 = .ok (.iadd, 1) := by decide +kernel
theorem dX8_meanOf_185 : decode cX8_meanOf 185 = .ok (.iaload, 1) := by decide +kernel
theorem dX8_meanOf_186 : decode cX8_meanOf 186 = .ok (.iadd, 1) := by decide +kernel
theorem dX8_meanOf_187 : decode cX8_meanOf 187 = .ok (.istore 13, 2) := by decide +kernel
theorem dX8_meanOf_189 : decode cX8_meanOf 189 = .ok (.aload_n 0, 1) := by decide +kernel
theorem dX8_meanOf_190 : decode cX8_meanOf 190 = .ok (.getfield 72, 3) := by decide +kernel
theorem dX8_meanOf_193 : decode cX8_meanOf 193 = .ok (.iload 11, 2) := by decide +kernel
theorem dX8_meanOf_195 : decode cX8_meanOf 195 = .ok (.aload_n 0, 1) := by decide +kernel
theorem dX8_meanOf_196 : decode cX8_meanOf 196 = .ok (.iload_n 1, 1) := by decide +kernel
theorem dX8_meanOf_197 : decode cX8_meanOf 197 = .ok (.iload 10, 2) := by decide +kernel
theorem dX8_meanOf_199 : decode cX8_meanOf 199 = .ok (.iload 11, 2) := by decide +kernel
theorem dX8_meanOf_201 : decode cX8_meanOf 201 = .ok (.iconst 2, 1) := by decide +kernel
theorem dX8_meanOf_202 : decode cX8_meanOf 202 = .ok (.irem, 1) := by decide +kernel
theorem dX8_meanOf_203 : decode cX8_meanOf 203 = .ok (.iconst 1, 1) := by decide +kernel
theorem dX8_meanOf_204 : decode cX8_meanOf 204 = .ok (.if_icmp .ne 7, 3) := by decide +kernel
theorem dX8_meanOf_207 : decode cX8_meanOf 207 = .ok (.iconst 1, 1) := by decide +kernel
theorem dX8_meanOf_208 : decode cX8_meanOf 208 = .ok (.goto 4, 3) := by decide +kernel
theorem dX8_meanOf_211 : decode cX8_meanOf 211 = .ok (.iconst 0, 1) := by decide +kernel
theorem dX8_meanOf_212 : decode cX8_meanOf 212 = .ok (.invokevirtual 219, 3) := by decide +kernel
theorem dX8_meanOf_215 : decode cX8_meanOf 215 = .ok (.iload 13, 2) := by decide +kernel
theorem dX8_meanOf_217 : decode cX8_meanOf 217 = .ok (.iload 5, 2) := by decide +kernel
theorem dX8_meanOf_219 : decode cX8_meanOf 219 = .ok (.aload_n 0, 1) := by decide +kernel
theorem dX8_meanOf_220 : decode cX8_meanOf 220 = .ok (.getfield 69, 3) := by decide +kernel
theorem dX8_meanOf_223 : decode cX8_meanOf 223 = .ok (.iconst 2, 1) := by decide +kernel
theorem dX8_meanOf_224 : decode cX8_meanOf 224 = .ok (.iload 12, 2) := by decide +kernel
theorem dX8_meanOf_226 : decode cX8_meanOf 226 = .ok (.imul, 1) := by decide +kernel
theorem dX8_meanOf_227 : decode cX8_meanOf 227 = .ok (.iaload, 1) := by decide +kernel
theorem dX8_meanOf_228 : decode cX8_meanOf 228 = .ok (.iadd, 1) := by decide +kernel
theorem dX8_meanOf_229 : decode cX8_meanOf 229 = .ok (.invokestatic 245, 3) := by decide +kernel
theorem dX8_meanOf_232 : decode cX8_meanOf 232 = .ok (.iastore, 1) := by decide +kernel
theorem dX8_meanOf_233 : decode cX8_meanOf 233 = .ok (.iinc 11 1, 3) := by decide +kernel
theorem dX8_meanOf_236 : decode cX8_meanOf 236 = .ok (.goto (-101), 3) := by decide +kernel
theorem dX8_meanOf_239 : decode cX8_meanOf 239 = .ok (.iconst 0, 1) := by decide +kernel
theorem dX8_meanOf_240 : decode cX8_meanOf 240 = .ok (.istore 11, 2) := by decide +kernel
theorem dX8_meanOf_242 : decode cX8_meanOf 242 = .ok (.iload 11, 2) := by decide +kernel
theorem dX8_meanOf_244 : decode cX8_meanOf 244 = .ok (.bipush 50, 2) := by decide +kernel
theorem dX8_meanOf_246 : decode cX8_meanOf 246 = .ok (.if_icmp .ge 23, 3) := by decide +kernel
theorem dX8_meanOf_249 : decode cX8_meanOf 249 = .ok (.aload_n 0, 1) := by decide +kernel
theorem dX8_meanOf_250 : decode cX8_meanOf 250 = .ok (.getfield 69, 3) := by decide +kernel
theorem dX8_meanOf_253 : decode cX8_meanOf 253 = .ok (.iload 11, 2) := by decide +kernel
theorem dX8_meanOf_255 : decode cX8_meanOf 255 = .ok (.aload_n 0, 1) := by decide +kernel
theorem dX8_meanOf_256 : decode cX8_meanOf 256 = .ok (.getfield 72, 3) := by decide +kernel
theorem dX8_meanOf_259 : decode cX8_meanOf 259 = .ok (.iload 11, 2) := by decide +kernel
theorem dX8_meanOf_261 : decode cX8_meanOf 261 = .ok (.iaload, 1) := by decide +kernel
theorem dX8_meanOf_262 : decode cX8_meanOf 262 = .ok (.iastore, 1) := by decide +kernel
theorem dX8_meanOf_263 : decode cX8_meanOf 263 = .ok (.iinc 11 1, 3) := by decide +kernel
theorem dX8_meanOf_266 : decode cX8_meanOf 266 = .ok (.goto (-24), 3) := by decide +kernel
theorem dX8_meanOf_269 : decode cX8_meanOf 269 = .ok (.iinc 10 (-1), 3) := by decide +kernel
theorem dX8_meanOf_272 : decode cX8_meanOf 272 = .ok (.goto (-145), 3) := by decide +kernel
theorem dX8_meanOf_275 : decode cX8_meanOf 275 = .ok (.aload_n 0, 1) := by decide +kernel
theorem dX8_meanOf_276 : decode cX8_meanOf 276 = .ok (.getfield 69, 3) := by decide +kernel
theorem dX8_meanOf_279 : decode cX8_meanOf 279 = .ok (.iconst 0, 1) := by decide +kernel
theorem dX8_meanOf_280 : decode cX8_meanOf 280 = .ok (.iaload, 1) := by decide +kernel
theorem dX8_meanOf_281 : decode cX8_meanOf 281 = .ok (.istore 6, 2) := by decide +kernel
theorem dX8_meanOf_283 : decode cX8_meanOf 283 = .ok (.iinc 7 (-1), 3) := by decide +kernel
theorem dX8_meanOf_286 : decode cX8_meanOf 286 = .ok (.goto (-252), 3) := by decide +kernel
theorem dX8_meanOf_289 : decode cX8_meanOf 289 = .ok (.iload 6, 2) := by decide +kernel
theorem dX8_meanOf_291 : decode cX8_meanOf 291 = .ok (.ireturn, 1) := by decide +kernel
theorem f_m_mean_rows : True := trivial
theorem dX8_mean_0 : decode cX8_mean 0 = .ok (.aload_n 0, 1) := by decide +kernel
theorem dX8_mean_1 : decode cX8_mean 1 = .ok (.iload_n 1, 1) := by decide +kernel
theorem dX8_mean_2 : decode cX8_mean 2 = .ok (.invokevirtual 206, 3) := by decide +kernel
theorem dX8_mean_5 : decode cX8_mean 5 = .ok (.ifCond .eq 11, 3) := by decide +kernel
theorem dX8_mean_8 : decode cX8_mean 8 = .ok (.aload_n 0, 1) := by decide +kernel
theorem dX8_mean_9 : decode cX8_mean 9 = .ok (.iload_n 2, 1) := by decide +kernel
theorem dX8_mean_10 : decode cX8_mean 10 = .ok (.invokevirtual 298, 3) := by decide +kernel
theorem dX8_mean_13 : decode cX8_mean 13 = .ok (.ifCond .ne 7, 3) := by decide +kernel
theorem dX8_mean_16 : decode cX8_mean 16 = .ok (.sipush (-1001), 3) := by decide +kernel
theorem dX8_mean_19 : decode cX8_mean 19 = .ok (.ireturn, 1) := by decide +kernel
theorem dX8_mean_20 : decode cX8_mean 20 = .ok (.iload_n 3, 1) := by decide +kernel
theorem dX8_mean_21 : decode cX8_mean 21 = .ok (.i2l, 1) := by decide +kernel
theorem dX8_mean_22 : decode cX8_mean 22 = .ok (.lconst 0, 1) := by decide +kernel
theorem dX8_mean_23 : decode cX8_mean 23 = .ok (.ldc2_w 105, 3) := by decide +kernel
theorem dX8_mean_26 : decode cX8_mean 26 = .ok (.invokestatic 107, 3) := by decide +kernel
theorem dX8_mean_29 : decode cX8_mean 29 = .ok (.ifCond .eq 13, 3) := by decide +kernel
theorem dX8_mean_32 : decode cX8_mean 32 = .ok (.aload_n 0, 1) := by decide +kernel
theorem dX8_mean_33 : decode cX8_mean 33 = .ok (.iload_n 1, 1) := by decide +kernel
theorem dX8_mean_34 : decode cX8_mean 34 = .ok (.iload_n 2, 1) := by decide +kernel
theorem dX8_mean_35 : decode cX8_mean 35 = .ok (.iload_n 3, 1) := by decide +kernel
theorem dX8_mean_36 : decode cX8_mean 36 = .ok (.invokevirtual 301, 3) := by decide +kernel
theorem dX8_mean_39 : decode cX8_mean 39 = .ok (.goto 6, 3) := by decide +kernel
theorem dX8_mean_42 : decode cX8_mean 42 = .ok (.sipush (-1002), 3) := by decide +kernel
theorem dX8_mean_45 : decode cX8_mean 45 = .ok (.ireturn, 1) := by decide +kernel
theorem f_m_drive_rows : True := trivial
theorem dX8_drive_0 : decode cX8_drive 0 = .ok (.aload_n 0, 1) := by decide +kernel
theorem dX8_drive_1 : decode cX8_drive 1 = .ok (.getfield 7, 3) := by decide +kernel
theorem dX8_drive_4 : decode cX8_drive 4 = .ok (.iload_n 1, 1) := by decide +kernel
theorem dX8_drive_5 : decode cX8_drive 5 = .ok (.iaload, 1) := by decide +kernel
theorem dX8_drive_6 : decode cX8_drive 6 = .ok (.istore_n 3, 1) := by decide +kernel
theorem dX8_drive_7 : decode cX8_drive 7 = .ok (.iconst 0, 1) := by decide +kernel
theorem dX8_drive_8 : decode cX8_drive 8 = .ok (.istore 4, 2) := by decide +kernel
theorem dX8_drive_10 : decode cX8_drive 10 = .ok (.iconst 0, 1) := by decide +kernel
theorem dX8_drive_11 : decode cX8_drive 11 = .ok (.istore 5, 2) := by decide +kernel
theorem dX8_drive_13 : decode cX8_drive 13 = .ok (.iconst 0, 1) := by decide +kernel
theorem dX8_drive_14 : decode cX8_drive 14 = .ok (.istore 6, 2) := by decide +kernel
theorem dX8_drive_16 : decode cX8_drive 16 = .ok (.iconst 0, 1) := by decide +kernel
theorem dX8_drive_17 : decode cX8_drive 17 = .ok (.istore 7, 2) := by decide +kernel
theorem dX8_drive_19 : decode cX8_drive 19 = .ok (.iconst 0, 1) := by decide +kernel
theorem dX8_drive_20 : decode cX8_drive 20 = .ok (.istore 8, 2) := by decide +kernel
theorem dX8_drive_22 : decode cX8_drive 22 = .ok (.iload 6, 2) := by decide +kernel
theorem dX8_drive_24 : decode cX8_drive 24 = .ok (.iload_n 3, 1) := by decide +kernel
theorem dX8_drive_25 : decode cX8_drive 25 = .ok (.if_icmp .ne 57, 3) := by decide +kernel
theorem dX8_drive_28 : decode cX8_drive 28 = .ok (.aload_n 0, 1) := by decide +kernel
theorem dX8_drive_29 : decode cX8_drive 29 = .ok (.iload_n 1, 1) := by decide +kernel
theorem dX8_drive_30 : decode cX8_drive 30 = .ok (.iload_n 2, 1) := by decide +kernel
theorem dX8_drive_31 : decode cX8_drive 31 = .ok (.iload 5, 2) := by decide +kernel
theorem dX8_drive_33 : decode cX8_drive 33 = .ok (.invokevirtual 286, 3) := by decide +kernel
theorem dX8_drive_36 : decode cX8_drive 36 = .ok (.ifCond .ne 14, 3) := by decide +kernel
theorem dX8_drive_39 : decode cX8_drive 39 = .ok (.iload 4, 2) := by decide +kernel
theorem dX8_drive_41 : decode cX8_drive 41 = .ok (.aload_n 0, 1) := by decide +kernel
theorem dX8_drive_42 : decode cX8_drive 42 = .ok (.iload_n 1, 1) := by decide +kernel
theorem dX8_drive_43 : decode cX8_drive 43 = .ok (.iload 5, 2) := by decide +kernel
theorem dX8_drive_45 : decode cX8_drive 45 = .ok (.invokevirtual 248, 3) := by decide +kernel
theorem dX8_drive_48 : decode cX8_drive 48 = .ok (.iadd, 1) := by decide +kernel
theorem dX8_drive_49 : decode cX8_drive 49 = .ok (.ireturn, 1) := by decide +kernel
theorem dX8_drive_50 : decode cX8_drive 50 = .ok (.iload 4, 2) := by decide +kernel
theorem dX8_drive_52 : decode cX8_drive 52 = .ok (.aload_n 0, 1) := by decide +kernel
theorem dX8_drive_53 : decode cX8_drive 53 = .ok (.iload_n 1, 1) := by decide +kernel
theorem dX8_drive_54 : decode cX8_drive 54 = .ok (.iconst 2, 1) := by decide +kernel
theorem dX8_drive_55 : decode cX8_drive 55 = .ok (.invokevirtual 212, 3) := by decide +kernel
theorem dX8_drive_58 : decode cX8_drive 58 = .ok (.aload_n 0, 1) := by decide +kernel
theorem dX8_drive_59 : decode cX8_drive 59 = .ok (.iload_n 1, 1) := by decide +kernel
theorem dX8_drive_60 : decode cX8_drive 60 = .ok (.bipush 6, 2) := by decide +kernel
theorem dX8_drive_62 : decode cX8_drive 62 = .ok (.invokevirtual 212, 3) := by decide +kernel
theorem dX8_drive_65 : decode cX8_drive 65 = .ok (.imul, 1) := by decide +kernel
theorem dX8_drive_66 : decode cX8_drive 66 = .ok (.sipush 1000, 3) := by decide +kernel
theorem dX8_drive_69 : decode cX8_drive 69 = .ok (.imul, 1) := by decide +kernel
theorem dX8_drive_70 : decode cX8_drive 70 = .ok (.iadd, 1) := by decide +kernel
theorem dX8_drive_71 : decode cX8_drive 71 = .ok (.istore 4, 2) := by decide +kernel
theorem dX8_drive_73 : decode cX8_drive 73 = .ok (.iinc 5 1, 3) := by decide +kernel
theorem dX8_drive_76 : decode cX8_drive 76 = .ok (.iconst 0, 1) := by decide +kernel
theorem dX8_drive_77 : decode cX8_drive 77 = .ok (.istore 6, 2) := by decide +kernel
theorem dX8_drive_79 : decode cX8_drive 79 = .ok (.iconst 0, 1) := by decide +kernel
theorem dX8_drive_80 : decode cX8_drive 80 = .ok (.istore 7, 2) := by decide +kernel
theorem dX8_drive_82 : decode cX8_drive 82 = .ok (.aload_n 0, 1) := by decide +kernel
theorem dX8_drive_83 : decode cX8_drive 83 = .ok (.invokevirtual 384, 3) := by decide +kernel
theorem dX8_drive_86 : decode cX8_drive 86 = .ok (.aload_n 0, 1) := by decide +kernel
theorem dX8_drive_87 : decode cX8_drive 87 = .ok (.iload_n 1, 1) := by decide +kernel
theorem dX8_drive_88 : decode cX8_drive 88 = .ok (.iload 6, 2) := by decide +kernel
theorem dX8_drive_90 : decode cX8_drive 90 = .ok (.iload 8, 2) := by decide +kernel
theorem dX8_drive_92 : decode cX8_drive 92 = .ok (.invokevirtual 219, 3) := by decide +kernel
theorem dX8_drive_95 : decode cX8_drive 95 = .ok (.if_icmp .ge 7, 3) := by decide +kernel
theorem dX8_drive_98 : decode cX8_drive 98 = .ok (.iconst 1, 1) := by decide +kernel
theorem dX8_drive_99 : decode cX8_drive 99 = .ok (.goto 4, 3) := by decide +kernel
theorem dX8_drive_102 : decode cX8_drive 102 = .ok (.iconst 0, 1) := by decide +kernel
theorem dX8_drive_103 : decode cX8_drive 103 = .ok (.istore 9, 2) := by decide +kernel
theorem dX8_drive_105 : decode cX8_drive 105 = .ok (.iload 9, 2) := by decide +kernel
theorem dX8_drive_107 : decode cX8_drive 107 = .ok (.ifCond .eq 28, 3) := by decide +kernel
theorem dX8_drive_110 : decode cX8_drive 110 = .ok (.aload_n 0, 1) := by decide +kernel
theorem dX8_drive_111 : decode cX8_drive 111 = .ok (.iload_n 2, 1) := by decide +kernel
theorem dX8_drive_112 : decode cX8_drive 112 = .ok (.iload 6, 2) := by decide +kernel
theorem dX8_drive_114 : decode cX8_drive 114 = .ok (.iload 7, 2) := by decide +kernel
theorem dX8_drive_116 : decode cX8_drive 116 = .ok (.invokevirtual 292, 3) := by decide +kernel
theorem dX8_drive_119 : decode cX8_drive 119 = .ok (.ifCond .eq 16, 3) := by decide +kernel
theorem dX8_drive_122 : decode cX8_drive 122 = .ok (.iload 4, 2) := by decide +kernel
theorem dX8_drive_124 : decode cX8_drive 124 = .ok (.aload_n 0, 1) := by decide +kernel
theorem dX8_drive_125 : decode cX8_drive 125 = .ok (.iload_n 1, 1) := by decide +kernel
theorem dX8_drive_126 : decode cX8_drive 126 = .ok (.iload 5, 2) := by decide +kernel
theorem dX8_drive_128 : decode cX8_drive 128 = .ok (.iload 6, 2) := by decide +kernel
theorem dX8_drive_130 : decode cX8_drive 130 = .ok (.invokevirtual 237, 3) := by decide +kernel
theorem dX8_drive_133 : decode cX8_drive 133 = .ok (.iadd, 1) := by decide +kernel
theorem dX8_drive_134 : decode cX8_drive 134 = .ok (.ireturn, 1) := by decide +kernel
theorem dX8_drive_135 : decode cX8_drive 135 = .ok (.iload 4, 2) := by decide +kernel
theorem dX8_drive_137 : decode cX8_drive 137 = .ok (.aload_n 0, 1) := by decide +kernel
theorem dX8_drive_138 : decode cX8_drive 138 = .ok (.iload_n 1, 1) := by decide +kernel
theorem dX8_drive_139 : decode cX8_drive 139 = .ok (.iconst 2, 1) := by decide +kernel
theorem dX8_drive_140 : decode cX8_drive 140 = .ok (.invokevirtual 212, 3) := by decide +kernel
theorem dX8_drive_143 : decode cX8_drive 143 = .ok (.sipush 1000, 3) := by decide +kernel
theorem dX8_drive_146 : decode cX8_drive 146 = .ok (.imul, 1) := by decide +kernel
theorem dX8_drive_147 : decode cX8_drive 147 = .ok (.iadd, 1) := by decide +kernel
theorem dX8_drive_148 : decode cX8_drive 148 = .ok (.istore 4, 2) := by decide +kernel
theorem dX8_drive_150 : decode cX8_drive 150 = .ok (.iload 7, 2) := by decide +kernel
theorem dX8_drive_152 : decode cX8_drive 152 = .ok (.iload 9, 2) := by decide +kernel
theorem dX8_drive_154 : decode cX8_drive 154 = .ok (.ifCond .eq 7, 3) := by decide +kernel
theorem dX8_drive_157 : decode cX8_drive 157 = .ok (.iconst 1, 1) := by decide +kernel
theorem dX8_drive_158 : decode cX8_drive 158 = .ok (.goto 4, 3) := by decide +kernel
theorem dX8_drive_161 : decode cX8_drive 161 = .ok (.iconst 0, 1) := by decide +kernel
theorem dX8_drive_162 : decode cX8_drive 162 = .ok (.iadd, 1) := by decide +kernel
theorem dX8_drive_163 : decode cX8_drive 163 = .ok (.istore 7, 2) := by decide +kernel
theorem dX8_drive_165 : decode cX8_drive 165 = .ok (.iload 9, 2) := by decide +kernel
theorem dX8_drive_167 : decode cX8_drive 167 = .ok (.istore 8, 2) := by decide +kernel
theorem dX8_drive_169 : decode cX8_drive 169 = .ok (.iinc 6 1, 3) := by decide +kernel
theorem dX8_drive_172 : decode cX8_drive 172 = .ok (.goto (-150), 3) := by decide +kernel
theorem f_m_evening_rows : True := trivial
theorem dX8_evening_0 : decode cX8_evening 0 = .ok (.aload_n 0, 1) := by decide +kernel
theorem dX8_evening_1 : decode cX8_evening 1 = .ok (.iload_n 1, 1) := by decide +kernel
theorem dX8_evening_2 : decode cX8_evening 2 = .ok (.invokevirtual 206, 3) := by decide +kernel
theorem dX8_evening_5 : decode cX8_evening 5 = .ok (.ifCond .eq 11, 3) := by decide +kernel
theorem dX8_evening_8 : decode cX8_evening 8 = .ok (.aload_n 0, 1) := by decide +kernel
theorem dX8_evening_9 : decode cX8_evening 9 = .ok (.iload_n 2, 1) := by decide +kernel
theorem dX8_evening_10 : decode cX8_evening 10 = .ok (.invokevirtual 298, 3) := by decide +kernel
theorem dX8_evening_13 : decode cX8_evening 13 = .ok (.ifCond .ne 7, 3) := by decide +kernel
theorem dX8_evening_16 : decode cX8_evening 16 = .ok (.sipush (-1001), 3) := by decide +kernel
theorem dX8_evening_19 : decode cX8_evening 19 = .ok (.ireturn, 1) := by decide +kernel
theorem dX8_evening_20 : decode cX8_evening 20 = .ok (.iload_n 3, 1) := by decide +kernel
theorem dX8_evening_21 : decode cX8_evening 21 = .ok (.i2l, 1) := by decide +kernel
theorem dX8_evening_22 : decode cX8_evening 22 = .ok (.lconst 1, 1) := by decide +kernel
theorem dX8_evening_23 : decode cX8_evening 23 = .ok (.ldc2_w 387, 3) := by decide +kernel
theorem dX8_evening_26 : decode cX8_evening 26 = .ok (.invokestatic 107, 3) := by decide +kernel
theorem dX8_evening_29 : decode cX8_evening 29 = .ok (.ifCond .ne 7, 3) := by decide +kernel
theorem dX8_evening_32 : decode cX8_evening 32 = .ok (.sipush (-1002), 3) := by decide +kernel
theorem dX8_evening_35 : decode cX8_evening 35 = .ok (.ireturn, 1) := by decide +kernel
theorem dX8_evening_36 : decode cX8_evening 36 = .ok (.lconst 0, 1) := by decide +kernel
theorem dX8_evening_37 : decode cX8_evening 37 = .ok (.lstore 4, 2) := by decide +kernel
theorem dX8_evening_39 : decode cX8_evening 39 = .ok (.iconst 0, 1) := by decide +kernel
theorem dX8_evening_40 : decode cX8_evening 40 = .ok (.istore 6, 2) := by decide +kernel
theorem dX8_evening_42 : decode cX8_evening 42 = .ok (.iload 6, 2) := by decide +kernel
theorem dX8_evening_44 : decode cX8_evening 44 = .ok (.iload_n 3, 1) := by decide +kernel
theorem dX8_evening_45 : decode cX8_evening 45 = .ok (.if_icmp .ge 21, 3) := by decide +kernel
theorem dX8_evening_48 : decode cX8_evening 48 = .ok (.lload 4, 2) := by decide +kernel
theorem dX8_evening_50 : decode cX8_evening 50 = .ok (.aload_n 0, 1) := by decide +kernel
theorem dX8_evening_51 : decode cX8_evening 51 = .ok (.iload_n 1, 1) := by decide +kernel
theorem dX8_evening_52 : decode cX8_evening 52 = .ok (.iload_n 2, 1) := by decide +kernel
theorem dX8_evening_53 : decode cX8_evening 53 = .ok (.invokevirtual 389, 3) := by decide +kernel
theorem dX8_evening_56 : decode cX8_evening 56 = .ok (.i2l, 1) := by decide +kernel
theorem dX8_evening_57 : decode cX8_evening 57 = .ok (.ladd, 1) := by decide +kernel
theorem dX8_evening_58 : decode cX8_evening 58 = .ok (.lstore 4, 2) := by decide +kernel
theorem dX8_evening_60 : decode cX8_evening 60 = .ok (.iinc 6 1, 3) := by decide +kernel
theorem dX8_evening_63 : decode cX8_evening 63 = .ok (.goto (-21), 3) := by decide +kernel
theorem dX8_evening_66 : decode cX8_evening 66 = .ok (.lload 4, 2) := by decide +kernel
theorem dX8_evening_68 : decode cX8_evening 68 = .ok (.ldc2_w 392, 3) := by decide +kernel
theorem dX8_evening_71 : decode cX8_evening 71 = .ok (.ldiv, 1) := by decide +kernel
theorem dX8_evening_72 : decode cX8_evening 72 = .ok (.l2i, 1) := by decide +kernel
theorem dX8_evening_73 : decode cX8_evening 73 = .ok (.ireturn, 1) := by decide +kernel
theorem tw_63 : Cond.selects RX8 yX8_isCar yX8_isCar ∈ LW := LWm (i := 63) (by decide +kernel) rfl
theorem tw_64 : Cond.selects RX8 yX8_isSet yX8_isSet ∈ LW := LWm (i := 64) (by decide +kernel) rfl
theorem tw_65 : Cond.selects RX8 yX8_costOf yX8_costOf ∈ LW := LWm (i := 65) (by decide +kernel) rfl
theorem tw_66 : Cond.selects RX8 yX8_parkAll yX8_parkAll ∈ LW := LWm (i := 66) (by decide +kernel) rfl
theorem tw_67 : Cond.selects RX8 yX8_costAt yX8_costAt ∈ LW := LWm (i := 67) (by decide +kernel) rfl
theorem tw_1008 : Cond.fieldLink RX8 84 "LastPlaceModel" "walks" "[I" ∈ LW := LWm4 (i := 210) (by decide +kernel) rfl
theorem tw_1009 : Cond.fieldLink RX8 87 "LastPlaceModel" "bars" "[I" ∈ LW := LWm4 (i := 211) (by decide +kernel) rfl
theorem tw_1010 : Cond.fieldLink RX8 321 "LastPlaceModel" "dearFrom" "I" ∈ LW := LWm4 (i := 212) (by decide +kernel) rfl
theorem tw_1011 : Cond.fieldLink RX8 324 "LastPlaceModel" "dearBy" "I" ∈ LW := LWm4 (i := 213) (by decide +kernel) rfl
theorem tw_1012 : Cond.fieldLink RX8 90 "LastPlaceModel" "doorsOf" "[I" ∈ LW := LWm4 (i := 214) (by decide +kernel) rfl
theorem tw_1377 : Cond.constantLong RX8 313 (24) ∈ LW := LWm6 (i := 99) (by decide +kernel) rfl
theorem tw_1382 : Cond.methodLink RX8 318 yX8_isCar ∈ LW := LWm6 (i := 104) (by decide +kernel) rfl
theorem tw_1384 : Cond.instanceMethod yX8_isCar ∈ LW := LWm6 (i := 106) (by decide +kernel) rfl
set_option maxRecDepth 100000 in theorem tw_1385 : Cond.code yX8_isCar cX8_isCar 2 (some .boolean) ∈ LW := LWm6 (i := 107) rfl rfl
theorem tw_1390 : Cond.methodLink RX8 333 yX8_isSet ∈ LW := LWm6 (i := 112) (by decide +kernel) rfl
theorem tw_1392 : Cond.instanceMethod yX8_isSet ∈ LW := LWm6 (i := 114) (by decide +kernel) rfl
set_option maxRecDepth 100000 in theorem tw_1393 : Cond.code yX8_isSet cX8_isSet 3 (some .boolean) ∈ LW := LWm6 (i := 115) rfl rfl
theorem tw_1394 : Cond.methodLink RX8 336 yX8_costOf ∈ LW := LWm6 (i := 116) (by decide +kernel) rfl
theorem tw_1396 : Cond.instanceMethod yX8_costOf ∈ LW := LWm6 (i := 118) (by decide +kernel) rfl
set_option maxRecDepth 100000 in theorem tw_1397 : Cond.code yX8_costOf cX8_costOf 4 (some .int) ∈ LW := LWm6 (i := 119) rfl rfl
theorem tw_1398 : Cond.methodLink RX8 327 yX8_parkAll ∈ LW := LWm6 (i := 120) (by decide +kernel) rfl
theorem tw_1400 : Cond.instanceMethod yX8_parkAll ∈ LW := LWm6 (i := 122) (by decide +kernel) rfl
set_option maxRecDepth 100000 in theorem tw_1401 : Cond.code yX8_parkAll cX8_parkAll 6 none ∈ LW := LWm6 (i := 123) rfl rfl
theorem tw_1402 : Cond.methodLink RX8 330 yX8_costAt ∈ LW := LWm6 (i := 124) (by decide +kernel) rfl
theorem tw_1404 : Cond.instanceMethod yX8_costAt ∈ LW := LWm6 (i := 126) (by decide +kernel) rfl
set_option maxRecDepth 100000 in theorem tw_1405 : Cond.code yX8_costAt cX8_costAt 5 (some .int) ∈ LW := LWm6 (i := 127) rfl rfl
theorem m_glue9 : True := trivial
/-- no door, or one of 24 -/
def dvOK (f : Nat → Int32) : Prop := ∀ j, f j < 0 ∨ ∃ d : Nat, d < 24 ∧ f j = nI d
theorem dvOK_upd {f : Nat → Int32} (h : dvOK f) (i : Nat) (x : Int32) (hx : x < 0 ∨ ∃ d : Nat, d < 24 ∧ x = nI d) : dvOK (upd f i x) := by
  intro j
  unfold upd
  by_cases hj : j = i
  · rw [if_pos hj]
    exact hx
  · rw [if_neg hj]
    exact h j

theorem f_m_car_rows : True := trivial
theorem dX8_car_0 : decode cX8_car 0 = .ok (.iload_n 1, 1) := by decide +kernel
theorem dX8_car_1 : decode cX8_car 1 = .ok (.i2l, 1) := by decide +kernel
theorem dX8_car_2 : decode cX8_car 2 = .ok (.lconst 0, 1) := by decide +kernel
theorem dX8_car_3 : decode cX8_car 3 = .ok (.ldc2_w 311, 3) := by decide +kernel
theorem dX8_car_6 : decode cX8_car 6 = .ok (.invokestatic 107, 3) := by decide +kernel
theorem dX8_car_9 : decode cX8_car 9 = .ok (.ifCond .eq 15, 3) := by decide +kernel
theorem dX8_car_12 : decode cX8_car 12 = .ok (.iload_n 2, 1) := by decide +kernel
theorem dX8_car_13 : decode cX8_car 13 = .ok (.i2l, 1) := by decide +kernel
theorem dX8_car_14 : decode cX8_car 14 = .ok (.lconst 0, 1) := by decide +kernel
theorem dX8_car_15 : decode cX8_car 15 = .ok (.ldc2_w 313, 3) := by decide +kernel
theorem dX8_car_18 : decode cX8_car 18 = .ok (.invokestatic 107, 3) := by decide +kernel
theorem dX8_car_21 : decode cX8_car 21 = .ok (.ifCond .ne 7, 3) := by decide +kernel
theorem dX8_car_24 : decode cX8_car 24 = .ok (.sipush (-1002), 3) := by decide +kernel
theorem dX8_car_27 : decode cX8_car 27 = .ok (.ireturn, 1) := by decide +kernel
theorem dX8_car_28 : decode cX8_car 28 = .ok (.aload_n 0, 1) := by decide +kernel
theorem dX8_car_29 : decode cX8_car 29 = .ok (.getfield 315, 3) := by decide +kernel
theorem dX8_car_32 : decode cX8_car 32 = .ok (.iconst 4, 1) := by decide +kernel
theorem dX8_car_33 : decode cX8_car 33 = .ok (.if_icmp .ne 7, 3) := by decide +kernel
theorem dX8_car_36 : decode cX8_car 36 = .ok (.sipush (-1004), 3) := by decide +kernel
theorem dX8_car_39 : decode cX8_car 39 = .ok (.ireturn, 1) := by decide +kernel
theorem dX8_car_40 : decode cX8_car 40 = .ok (.aload_n 0, 1) := by decide +kernel
theorem dX8_car_41 : decode cX8_car 41 = .ok (.getfield 84, 3) := by decide +kernel
theorem dX8_car_44 : decode cX8_car 44 = .ok (.aload_n 0, 1) := by decide +kernel
theorem dX8_car_45 : decode cX8_car 45 = .ok (.getfield 315, 3) := by decide +kernel
theorem dX8_car_48 : decode cX8_car 48 = .ok (.iload_n 1, 1) := by decide +kernel
theorem dX8_car_49 : decode cX8_car 49 = .ok (.iastore, 1) := by decide +kernel
theorem dX8_car_50 : decode cX8_car 50 = .ok (.aload_n 0, 1) := by decide +kernel
theorem dX8_car_51 : decode cX8_car 51 = .ok (.getfield 87, 3) := by decide +kernel
theorem dX8_car_54 : decode cX8_car 54 = .ok (.aload_n 0, 1) := by decide +kernel
theorem dX8_car_55 : decode cX8_car 55 = .ok (.getfield 315, 3) := by decide +kernel
theorem dX8_car_58 : decode cX8_car 58 = .ok (.iload_n 2, 1) := by decide +kernel
theorem dX8_car_59 : decode cX8_car 59 = .ok (.iastore, 1) := by decide +kernel
theorem dX8_car_60 : decode cX8_car 60 = .ok (.aload_n 0, 1) := by decide +kernel
theorem dX8_car_61 : decode cX8_car 61 = .ok (.dup, 1) := by decide +kernel
theorem dX8_car_62 : decode cX8_car 62 = .ok (.getfield 315, 3) := by decide +kernel
theorem dX8_car_65 : decode cX8_car 65 = .ok (.iconst 1, 1) := by decide +kernel
theorem dX8_car_66 : decode cX8_car 66 = .ok (.iadd, 1) := by decide +kernel
theorem dX8_car_67 : decode cX8_car 67 = .ok (.putfield 315, 3) := by decide +kernel
theorem dX8_car_70 : decode cX8_car 70 = .ok (.aload_n 0, 1) := by decide +kernel
theorem dX8_car_71 : decode cX8_car 71 = .ok (.getfield 315, 3) := by decide +kernel
theorem dX8_car_74 : decode cX8_car 74 = .ok (.iconst 1, 1) := by decide +kernel
theorem dX8_car_75 : decode cX8_car 75 = .ok (.isub, 1) := by decide +kernel
theorem dX8_car_76 : decode cX8_car 76 = .ok (.ireturn, 1) := by decide +kernel

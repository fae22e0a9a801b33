theorem dX7_isIn_0 : decode cX7_isIn 0 = .ok (.iload_n 0, 1) := by decide +kernel
theorem dX7_isIn_1 : decode cX7_isIn 1 = .ok (.iload_n 1, 1) := by decide +kernel
theorem dX7_isIn_2 : decode cX7_isIn 2 = .ok (.if_icmp .lt 12, 3) := by decide +kernel
theorem dX7_isIn_5 : decode cX7_isIn 5 = .ok (.iload_n 0, 1) := by decide +kernel
theorem dX7_isIn_6 : decode cX7_isIn 6 = .ok (.iload_n 2, 1) := by decide +kernel
theorem dX7_isIn_7 : decode cX7_isIn 7 = .ok (.if_icmp .gt 7, 3) := by decide +kernel
theorem dX7_isIn_10 : decode cX7_isIn 10 = .ok (.iconst 1, 1) := by decide +kernel
theorem dX7_isIn_11 : decode cX7_isIn 11 = .ok (.goto 4, 3) := by decide +kernel
theorem dX7_isIn_14 : decode cX7_isIn 14 = .ok (.iconst 0, 1) := by decide +kernel
theorem dX7_isIn_15 : decode cX7_isIn 15 = .ok (.ireturn, 1) := by decide +kernel
set_option maxHeartbeats 4000000 in
set_option maxRecDepth 100000 in
theorem k_isIn (l : Launch) (D : va_G) (k : Nat → ClassId) (st : Nat → Nat) (lo : Nat) (v : Int32) (l0 : Int32) (h0 : Int32)  : CRi l D k st lo yX7_isIn cX7_isIn 3 (some .boolean) ({ frames := 0, cells := 0, slots := 0, locals := 0 }) [.int v, .int l0, .int h0] [] (fun r => isB r v l0 h0) := by
  intro sz
  refine Met.ofW (cc := cX7_isIn) (maxL := 3) (ret := (some .boolean)) (by decide) rfl ?_
  intro p e s m args below meth c s₁ B hml hv
  obtain ⟨rfl, hsz, hlo, hP, hK, hDL, hZ⟩ := hv
  have hx := B.exec
  have hb := B.bytes
  have hr := B.returns
  have hts := WS_ts B.pre
  have hown : s.vm.findClass RX7 = some m.cls := findClass_of_methodNamed B.named
  have hlocks := B.notSynchronized
  subst hsz
  have hA : ∀ q : Nat, s.heap.size ≤ q → (fun q : Nat => s.heap.size ≤ q) q := fun _ h => h
  have hAlo : ∀ q : Nat, (fun q : Nat => s.heap.size ≤ q) q → lo ≤ q := fun q h => Nat.le_trans hlo h
  have hS : va_S (fun q : Nat => s.heap.size ≤ q) s.heap s.heap [] := va_S.rf
  have hl := lv_entry ([.int v, .int l0, .int h0]) (n := 3) (Nat.le_of_ble_eq_true rfl)
  rw [lg_entry_eq]
  generalize (lg_sl ([.int v, .int l0, .int h0]) ++ List.replicate (3 - (lg_sl ([.int v, .int l0, .int h0])).length) Slot.unset).toArray = ls at hl ⊢
  have hl : lv_has ls 3 [(0, .int v), (1, .int l0), (2, .int h0)] := hl
  refine lv_iload_n hx hb dX7_isIn_0 rfl (lv_at hl 0 rfl) ?_
  refine lv_iload_n hx hb dX7_isIn_1 rfl (lv_at hl 1 rfl) ?_
  refine lv_icmp_lt (tgt := 14) hx hb dX7_isIn_2 (by decide) (fun c_1 => ?_) (fun c_1 => ?_)
  · refine lv_iconst (v := 0) hx hb dX7_isIn_14 (by decide) ?_
    exact W.zret (v := 0) (ty := .boolean) hx hb hr rfl (fun t ht hW => ⟨⟨0, (), rfl, (by first | exact .inl ⟨rfl, Int32.not_lt.mp c_1, Int32.not_lt.mp c_2⟩ | exact .inr ⟨rfl, fun h => absurd c_1 (Int32.not_lt.mpr h.1)⟩ | exact .inr ⟨rfl, fun h => absurd c_2 (Int32.not_lt.mpr h.2)⟩), trivial⟩, hS.F ht⟩) hS.2.2 dX7_isIn_15
  · refine lv_iload_n hx hb dX7_isIn_5 rfl (lv_at hl 0 rfl) ?_
    refine lv_iload_n hx hb dX7_isIn_6 rfl (lv_at hl 2 rfl) ?_
    refine lv_icmp_gt (tgt := 14) hx hb dX7_isIn_7 (by decide) (fun c_2 => ?_) (fun c_2 => ?_)
    · refine lv_iconst (v := 0) hx hb dX7_isIn_14 (by decide) ?_
      exact W.zret (v := 0) (ty := .boolean) hx hb hr rfl (fun t ht hW => ⟨⟨0, (), rfl, (by first | exact .inl ⟨rfl, Int32.not_lt.mp c_1, Int32.not_lt.mp c_2⟩ | exact .inr ⟨rfl, fun h => absurd c_1 (Int32.not_lt.mpr h.1)⟩ | exact .inr ⟨rfl, fun h => absurd c_2 (Int32.not_lt.mpr h.2)⟩), trivial⟩, hS.F ht⟩) hS.2.2 dX7_isIn_15
    · refine lv_iconst (v := 1) hx hb dX7_isIn_10 (by decide) ?_
      refine lv_goto (tgt := 15) hx hb dX7_isIn_11 (by decide) ?_
      exact W.zret (v := 1) (ty := .boolean) hx hb hr rfl (fun t ht hW => ⟨⟨1, (), rfl, (by first | exact .inl ⟨rfl, Int32.not_lt.mp c_1, Int32.not_lt.mp c_2⟩ | exact .inr ⟨rfl, fun h => absurd c_1 (Int32.not_lt.mpr h.1)⟩ | exact .inr ⟨rfl, fun h => absurd c_2 (Int32.not_lt.mpr h.2)⟩), trivial⟩, hS.F ht⟩) hS.2.2 dX7_isIn_15

theorem dX8_in_0 : decode cX8_in 0 = .ok (.lload_n 0, 1) := by decide +kernel
theorem dX8_in_1 : decode cX8_in 1 = .ok (.lload_n 2, 1) := by decide +kernel
theorem dX8_in_2 : decode cX8_in 2 = .ok (.lcmp, 1) := by decide +kernel
theorem dX8_in_3 : decode cX8_in 3 = .ok (.ifCond .lt 14, 3) := by decide +kernel
theorem dX8_in_6 : decode cX8_in 6 = .ok (.lload_n 0, 1) := by decide +kernel
theorem dX8_in_7 : decode cX8_in 7 = .ok (.lload 4, 2) := by decide +kernel
theorem dX8_in_9 : decode cX8_in 9 = .ok (.lcmp, 1) := by decide +kernel
theorem dX8_in_10 : decode cX8_in 10 = .ok (.ifCond .gt 7, 3) := by decide +kernel
theorem dX8_in_13 : decode cX8_in 13 = .ok (.iconst 1, 1) := by decide +kernel
theorem dX8_in_14 : decode cX8_in 14 = .ok (.goto 4, 3) := by decide +kernel
theorem dX8_in_17 : decode cX8_in 17 = .ok (.iconst 0, 1) := by decide +kernel
theorem dX8_in_18 : decode cX8_in 18 = .ok (.ireturn, 1) := by decide +kernel
set_option maxHeartbeats 4000000 in
set_option maxRecDepth 100000 in
theorem k_in (l : Launch) (D : va_G) (k : Nat → ClassId) (st : Nat → Nat) (lo : Nat) (v : Int32) (l0 : Int32) (h0 : Int32)  : CRi l D k st lo yX8_in cX8_in 6 (some .boolean) ({ frames := 0, cells := 0, slots := 0, locals := 0 }) [.long (v.toInt64), .long (l0.toInt64), .long (h0.toInt64)] [] (fun r => isB r v l0 h0) := by
  intro sz
  refine Met.ofW (cc := cX8_in) (maxL := 6) (ret := (some .boolean)) (by decide) rfl ?_
  intro p e s m args below meth c s₁ B hml hv
  obtain ⟨rfl, hsz, hlo, hP, hK, hDL, hZ⟩ := hv
  have hx := B.exec
  have hb := B.bytes
  have hr := B.returns
  have hts := WS_ts B.pre
  have hown : s.vm.findClass RX8 = some m.cls := findClass_of_methodNamed B.named
  have hlocks := B.notSynchronized
  subst hsz
  have hA : ∀ q : Nat, s.heap.size ≤ q → (fun q : Nat => s.heap.size ≤ q) q := fun _ h => h
  have hAlo : ∀ q : Nat, (fun q : Nat => s.heap.size ≤ q) q → lo ≤ q := fun q h => Nat.le_trans hlo h
  have hS : va_S (fun q : Nat => s.heap.size ≤ q) s.heap s.heap [] := va_S.rf
  have hl := lv_entry ([.long (v.toInt64), .long (l0.toInt64), .long (h0.toInt64)]) (n := 6) (Nat.le_of_ble_eq_true rfl)
  rw [lg_entry_eq]
  generalize (lg_sl ([.long (v.toInt64), .long (l0.toInt64), .long (h0.toInt64)]) ++ List.replicate (6 - (lg_sl ([.long (v.toInt64), .long (l0.toInt64), .long (h0.toInt64)])).length) Slot.unset).toArray = ls at hl ⊢
  have hl : lv_has ls 6 [(0, .long (v.toInt64)), (2, .long (l0.toInt64)), (4, .long (h0.toInt64))] := hl
  refine lv_lload_n hx hb dX8_in_0 rfl (lv_at hl 0 rfl) ?_
  refine lv_lload_n hx hb dX8_in_1 rfl (lv_at hl 1 rfl) ?_
  refine W.lcmp hx hb dX8_in_2 ?_
  refine lv_if_lt (tgt := 17) hx hb dX8_in_3 (by decide) (fun c_1 => ?_) (fun c_1 => ?_)
  · refine lv_iconst (v := 0) hx hb dX8_in_17 (by decide) ?_
    exact W.zret (v := 0) (ty := .boolean) hx hb hr rfl (fun t ht hW => ⟨⟨0, (), rfl, (by first | exact .inl ⟨rfl, inL1 c_1, inL3 c_2⟩ | exact .inr ⟨rfl, fun h => absurd h.1 (inL2 c_1)⟩ | exact .inr ⟨rfl, fun h => absurd h.2 (inL4 c_2)⟩), trivial⟩, hS.F ht⟩) hS.2.2 dX8_in_18
  · refine lv_lload_n hx hb dX8_in_6 rfl (lv_at hl 0 rfl) ?_
    refine lv_lload hx hb dX8_in_7 (lv_at hl 2 rfl) ?_
    refine W.lcmp hx hb dX8_in_9 ?_
    refine lv_if_gt (tgt := 17) hx hb dX8_in_10 (by decide) (fun c_2 => ?_) (fun c_2 => ?_)
    · refine lv_iconst (v := 0) hx hb dX8_in_17 (by decide) ?_
      exact W.zret (v := 0) (ty := .boolean) hx hb hr rfl (fun t ht hW => ⟨⟨0, (), rfl, (by first | exact .inl ⟨rfl, inL1 c_1, inL3 c_2⟩ | exact .inr ⟨rfl, fun h => absurd h.1 (inL2 c_1)⟩ | exact .inr ⟨rfl, fun h => absurd h.2 (inL4 c_2)⟩), trivial⟩, hS.F ht⟩) hS.2.2 dX8_in_18
    · refine lv_iconst (v := 1) hx hb dX8_in_13 (by decide) ?_
      refine lv_goto (tgt := 18) hx hb dX8_in_14 (by decide) ?_
      exact W.zret (v := 1) (ty := .boolean) hx hb hr rfl (fun t ht hW => ⟨⟨1, (), rfl, (by first | exact .inl ⟨rfl, inL1 c_1, inL3 c_2⟩ | exact .inr ⟨rfl, fun h => absurd h.1 (inL2 c_1)⟩ | exact .inr ⟨rfl, fun h => absurd h.2 (inL4 c_2)⟩), trivial⟩, hS.F ht⟩) hS.2.2 dX8_in_18


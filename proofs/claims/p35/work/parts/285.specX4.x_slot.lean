theorem dX0_slot_0 : decode cX0_slot 0 = .ok (.iload_n 0, 1) := by decide +kernel
theorem dX0_slot_1 : decode cX0_slot 1 = .ok (.bipush 24, 2) := by decide +kernel
theorem dX0_slot_3 : decode cX0_slot 3 = .ok (.imul, 1) := by decide +kernel
theorem dX0_slot_4 : decode cX0_slot 4 = .ok (.iload_n 1, 1) := by decide +kernel
theorem dX0_slot_5 : decode cX0_slot 5 = .ok (.iadd, 1) := by decide +kernel
theorem dX0_slot_6 : decode cX0_slot 6 = .ok (.bipush 8, 2) := by decide +kernel
theorem dX0_slot_8 : decode cX0_slot 8 = .ok (.imul, 1) := by decide +kernel
theorem dX0_slot_9 : decode cX0_slot 9 = .ok (.iload_n 2, 1) := by decide +kernel
theorem dX0_slot_10 : decode cX0_slot 10 = .ok (.iadd, 1) := by decide +kernel
theorem dX0_slot_11 : decode cX0_slot 11 = .ok (.ireturn, 1) := by decide +kernel
set_option maxHeartbeats 4000000 in
set_option maxRecDepth 100000 in
theorem x_slot (l : Launch) (D : va_G) (k : Nat → ClassId) (st : Nat → Nat) (lo : Nat) (rn : Nat) (i : Nat) (gg : Nat)  : CRi l D k st lo yX0_slot cX0_slot 3 (some .int) ({ frames := 0, cells := 0, slots := 0, locals := 0 }) [.int (nI rn), .int (nI i), .int (nI gg)] [] (fun r => r = nI ((rn * 24 + i) * 8 + gg)) := by
  intro sz
  refine Met.ofW (cc := cX0_slot) (maxL := 3) (ret := (some .int)) (by decide) rfl ?_
  intro p e s m args below meth c s₁ B hml hv
  obtain ⟨rfl, hsz, hlo, hP, hK, hDL, hZ⟩ := hv
  have hx := B.exec
  have hb := B.bytes
  have hr := B.returns
  have hts := WS_ts B.pre
  have hown : s.vm.findClass RX0 = some m.cls := findClass_of_methodNamed B.named
  have hlocks := B.notSynchronized
  subst hsz
  have hA : ∀ q : Nat, s.heap.size ≤ q → (fun q : Nat => s.heap.size ≤ q) q := fun _ h => h
  have hAlo : ∀ q : Nat, (fun q : Nat => s.heap.size ≤ q) q → lo ≤ q := fun q h => Nat.le_trans hlo h
  have hS : va_S (fun q : Nat => s.heap.size ≤ q) s.heap s.heap [] := va_S.rf
  have hl := lv_entry ([.int (nI rn), .int (nI i), .int (nI gg)]) (n := 3) (Nat.le_of_ble_eq_true rfl)
  rw [lg_entry_eq]
  generalize (lg_sl ([.int (nI rn), .int (nI i), .int (nI gg)]) ++ List.replicate (3 - (lg_sl ([.int (nI rn), .int (nI i), .int (nI gg)])).length) Slot.unset).toArray = ls at hl ⊢
  have hl : lv_has ls 3 [(0, .int (nI rn)), (1, .int (nI i)), (2, .int (nI gg))] := hl
  refine lv_iload_n hx hb dX0_slot_0 rfl (lv_at hl 0 rfl) ?_
  refine lv_bipush (v := 24) hx hb dX0_slot_1 (by decide) ?_
  refine lv_imul hx hb dX0_slot_3 ?_
  refine lv_ti (y := (nI (rn * 24))) (pk_mul rn 24) ?_
  refine lv_iload_n hx hb dX0_slot_4 rfl (lv_at hl 1 rfl) ?_
  refine lv_iadd hx hb dX0_slot_5 ?_
  refine lv_ti (y := (nI (rn * 24 + i))) (nI_add (rn * 24) i) ?_
  refine lv_bipush (v := 8) hx hb dX0_slot_6 (by decide) ?_
  refine lv_imul hx hb dX0_slot_8 ?_
  refine lv_ti (y := (nI ((rn * 24 + i) * 8))) (pk_mul (rn * 24 + i) 8) ?_
  refine lv_iload_n hx hb dX0_slot_9 rfl (lv_at hl 2 rfl) ?_
  refine lv_iadd hx hb dX0_slot_10 ?_
  refine lv_ti (y := (nI ((rn * 24 + i) * 8 + gg))) (nI_add ((rn * 24 + i) * 8) gg) ?_
  exact W.iret (v := (nI ((rn * 24 + i) * 8 + gg))) hx hb hr (fun t ht hW => ⟨⟨(nI ((rn * 24 + i) * 8 + gg)), (), rfl, rfl, trivial⟩, hS.F ht⟩) hS.2.2 dX0_slot_11


theorem dX8_at_0 : decode cX8_at 0 = .ok (.sipush 192, 3) := by decide +kernel
theorem dX8_at_3 : decode cX8_at 3 = .ok (.iload_n 0, 1) := by decide +kernel
theorem dX8_at_4 : decode cX8_at 4 = .ok (.imul, 1) := by decide +kernel
theorem dX8_at_5 : decode cX8_at 5 = .ok (.bipush 8, 2) := by decide +kernel
theorem dX8_at_7 : decode cX8_at 7 = .ok (.iload_n 1, 1) := by decide +kernel
theorem dX8_at_8 : decode cX8_at 8 = .ok (.imul, 1) := by decide +kernel
theorem dX8_at_9 : decode cX8_at 9 = .ok (.iadd, 1) := by decide +kernel
theorem dX8_at_10 : decode cX8_at 10 = .ok (.iload_n 2, 1) := by decide +kernel
theorem dX8_at_11 : decode cX8_at 11 = .ok (.iadd, 1) := by decide +kernel
theorem dX8_at_12 : decode cX8_at 12 = .ok (.ireturn, 1) := by decide +kernel
set_option maxHeartbeats 4000000 in
set_option maxRecDepth 100000 in
theorem m_at (l : Launch) (D : va_G) (k : Nat → ClassId) (st : Nat → Nat) (lo : Nat) (r : Nat) (i : Nat) (g : Nat)  : CRi l D k st lo yX8_at cX8_at 3 (some .int) ({ frames := 0, cells := 0, slots := 0, locals := 0 }) [.int (nI r), .int (nI i), .int (nI g)] [] (fun x => x = nI (192 * r + 8 * i + g)) := by
  intro sz
  refine Met.ofW (cc := cX8_at) (maxL := 3) (ret := (some .int)) (by decide) rfl ?_
  intro p e s m args below meth c s₁ B hml hv
  obtain ⟨rfl, hsz, hlo, hP, hK, hDL, hZ⟩ := hv
  have hx := B.exec
  have hb := B.bytes
  have hr := B.returns
  have hts := WS_ts B.pre
  have hown : s.vm.findClass RX8 = some m.cls := findClass_of_methodNamed B.named
  have hlocks := B.notSynchronized
  subst hsz
  have hA : ∀ q : Nat, s.heap.size ≤ q → (fun q : Nat => s.heap.size ≤ q) q := fun _ h => h
  have hAlo : ∀ q : Nat, (fun q : Nat => s.heap.size ≤ q) q → lo ≤ q := fun q h => Nat.le_trans hlo h
  have hS : va_S (fun q : Nat => s.heap.size ≤ q) s.heap s.heap [] := va_S.rf
  have hl := lv_entry ([.int (nI r), .int (nI i), .int (nI g)]) (n := 3) (Nat.le_of_ble_eq_true rfl)
  rw [lg_entry_eq]
  generalize (lg_sl ([.int (nI r), .int (nI i), .int (nI g)]) ++ List.replicate (3 - (lg_sl ([.int (nI r), .int (nI i), .int (nI g)])).length) Slot.unset).toArray = ls at hl ⊢
  have hl : lv_has ls 3 [(0, .int (nI r)), (1, .int (nI i)), (2, .int (nI g))] := hl
  refine lv_sipush (v := 192) hx hb dX8_at_0 (by decide) ?_
  refine lv_iload_n hx hb dX8_at_3 rfl (lv_at hl 0 rfl) ?_
  refine lv_imul hx hb dX8_at_4 ?_
  refine lv_ti (y := (nI (192 * r))) (pk_mul 192 r) ?_
  refine lv_bipush (v := 8) hx hb dX8_at_5 (by decide) ?_
  refine lv_iload_n hx hb dX8_at_7 rfl (lv_at hl 1 rfl) ?_
  refine lv_imul hx hb dX8_at_8 ?_
  refine lv_ti (y := (nI (8 * i))) (pk_mul 8 i) ?_
  refine lv_iadd hx hb dX8_at_9 ?_
  refine lv_ti (y := (nI (192 * r + 8 * i))) (nI_add (192 * r) (8 * i)) ?_
  refine lv_iload_n hx hb dX8_at_10 rfl (lv_at hl 2 rfl) ?_
  refine lv_iadd hx hb dX8_at_11 ?_
  refine lv_ti (y := (nI (192 * r + 8 * i + g))) (nI_add (192 * r + 8 * i) g) ?_
  exact W.iret (v := (nI (192 * r + 8 * i + g))) hx hb hr (fun t ht hW => ⟨⟨(nI (192 * r + 8 * i + g)), (), rfl, rfl, trivial⟩, hS.F ht⟩) hS.2.2 dX8_at_12


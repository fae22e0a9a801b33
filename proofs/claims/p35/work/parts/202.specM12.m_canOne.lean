theorem dX8_canOne_0 : decode cX8_canOne 0 = .ok (.iload_n 1, 1) := by decide +kernel
theorem dX8_canOne_1 : decode cX8_canOne 1 = .ok (.ifCond .lt 12, 3) := by decide +kernel
theorem dX8_canOne_4 : decode cX8_canOne 4 = .ok (.iload_n 0, 1) := by decide +kernel
theorem dX8_canOne_5 : decode cX8_canOne 5 = .ok (.iload_n 1, 1) := by decide +kernel
theorem dX8_canOne_6 : decode cX8_canOne 6 = .ok (.ishr, 1) := by decide +kernel
theorem dX8_canOne_7 : decode cX8_canOne 7 = .ok (.iconst 1, 1) := by decide +kernel
theorem dX8_canOne_8 : decode cX8_canOne 8 = .ok (.iand, 1) := by decide +kernel
theorem dX8_canOne_9 : decode cX8_canOne 9 = .ok (.iconst 1, 1) := by decide +kernel
theorem dX8_canOne_10 : decode cX8_canOne 10 = .ok (.if_icmp .ne 7, 3) := by decide +kernel
theorem dX8_canOne_13 : decode cX8_canOne 13 = .ok (.iconst 1, 1) := by decide +kernel
theorem dX8_canOne_14 : decode cX8_canOne 14 = .ok (.goto 4, 3) := by decide +kernel
theorem dX8_canOne_17 : decode cX8_canOne 17 = .ok (.iconst 0, 1) := by decide +kernel
theorem dX8_canOne_18 : decode cX8_canOne 18 = .ok (.ireturn, 1) := by decide +kernel
set_option maxHeartbeats 4000000 in
set_option maxRecDepth 100000 in
theorem m_canOne (l : Launch) (D : va_G) (k : Nat → ClassId) (st : Nat → Nat) (lo : Nat) (p0 : Int32) (p1 : Int32)  : CRi l D k st lo yX8_canOne cX8_canOne 2 (some .boolean) ({ frames := 0, cells := 0, slots := 0, locals := 0 }) [.int p0, .int p1] [] (fun r => r = 1 ∨ r = 0) := by
  intro sz
  refine Met.ofW (cc := cX8_canOne) (maxL := 2) (ret := (some .boolean)) (by decide) rfl ?_
  intro p e s m args below meth c s₁ B hml hv
  obtain ⟨rfl, hsz, hlo, hP, hK, hDL, hZ⟩ := hv
  have hx := B.exec
  have hb := B.bytes
  have hr := B.returns
  have hts := WS_ts B.pre
  have hown : s.vm.findClass RX8 = some m.cls := findClass_of_methodNamed B.named
  have hlocks := B.notSynchronized
  subst hsz
  have hA : ∀ q : Nat, s.heap.size ≤ q → (fun q : Nat => s.heap.size ≤ q) q := fun _ h => h
  have hAlo : ∀ q : Nat, (fun q : Nat => s.heap.size ≤ q) q → lo ≤ q := fun q h => Nat.le_trans hlo h
  have hS : va_S (fun q : Nat => s.heap.size ≤ q) s.heap s.heap [] := va_S.rf
  have hl := lv_entry ([.int p0, .int p1]) (n := 2) (Nat.le_of_ble_eq_true rfl)
  rw [lg_entry_eq]
  generalize (lg_sl ([.int p0, .int p1]) ++ List.replicate (2 - (lg_sl ([.int p0, .int p1])).length) Slot.unset).toArray = ls at hl ⊢
  have hl : lv_has ls 2 [(0, .int p0), (1, .int p1)] := hl
  refine lv_iload_n hx hb dX8_canOne_0 rfl (lv_at hl 1 rfl) ?_
  refine lv_if_lt (tgt := 13) hx hb dX8_canOne_1 (by decide) (fun c_1 => ?_) (fun c_1 => ?_)
  · refine lv_iconst (v := 1) hx hb dX8_canOne_13 (by decide) ?_
    refine lv_goto (tgt := 18) hx hb dX8_canOne_14 (by decide) ?_
    exact W.zret (v := 1) (ty := .boolean) hx hb hr rfl (fun t ht hW => ⟨⟨1, (), rfl, .inl rfl, trivial⟩, hS.F ht⟩) hS.2.2 dX8_canOne_18
  · refine lv_iload_n hx hb dX8_canOne_4 rfl (lv_at hl 0 rfl) ?_
    refine lv_iload_n hx hb dX8_canOne_5 rfl (lv_at hl 1 rfl) ?_
    refine lv_ishr hx hb dX8_canOne_6 ?_
    refine lv_topi (fun x_2 ex_2 => ?_)
    refine lv_iconst (v := 1) hx hb dX8_canOne_7 (by decide) ?_
    refine lv_iand hx hb dX8_canOne_8 ?_
    refine lv_topi (fun x_3 ex_3 => ?_)
    refine lv_iconst (v := 1) hx hb dX8_canOne_9 (by decide) ?_
    refine lv_icmp_ne (tgt := 17) hx hb dX8_canOne_10 (by decide) (fun c_4 => ?_) (fun c_4 => ?_)
    · refine lv_iconst (v := 0) hx hb dX8_canOne_17 (by decide) ?_
      exact W.zret (v := 0) (ty := .boolean) hx hb hr rfl (fun t ht hW => ⟨⟨0, (), rfl, .inr rfl, trivial⟩, hS.F ht⟩) hS.2.2 dX8_canOne_18
    · refine lv_iconst (v := 1) hx hb dX8_canOne_13 (by decide) ?_
      refine lv_goto (tgt := 18) hx hb dX8_canOne_14 (by decide) ?_
      exact W.zret (v := 1) (ty := .boolean) hx hb hr rfl (fun t ht hW => ⟨⟨1, (), rfl, .inl rfl, trivial⟩, hS.F ht⟩) hS.2.2 dX8_canOne_18


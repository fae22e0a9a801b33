theorem dX8_fails_0 : decode cX8_fails 0 = .ok (.aload_n 0, 1) := by decide +kernel
theorem dX8_fails_1 : decode cX8_fails 1 = .ok (.iload_n 2, 1) := by decide +kernel
theorem dX8_fails_2 : decode cX8_fails 2 = .ok (.putfield 25, 3) := by decide +kernel
theorem dX8_fails_5 : decode cX8_fails 5 = .ok (.iload_n 1, 1) := by decide +kernel
theorem dX8_fails_6 : decode cX8_fails 6 = .ok (.ireturn, 1) := by decide +kernel
set_option maxHeartbeats 4000000 in
set_option maxRecDepth 100000 in
theorem k_m_fails (l : Launch) (D : va_G) (k : Nat → ClassId) (st : Nat → Nat) (lo : Nat) (h0 : Nat) (r0 : Nat) (r1 : Nat) (r2 : Nat) (r3 : Nat) (r4 : Nat) (r13 : Nat) (r14 : Nat) (r15 : Nat) (r17 : Nat) (r18 : Nat) (r19 : Nat) (r20 : Nat) (r21 : Nat) (r22 : Nat) (r24 : Nat) (r25 : Nat) (r26 : Nat) (r27 : Nat) (r28 : Nat) (r29 : Nat) (r31 : Nat) (r32 : Nat) (r33 : Nat) (r35 : Nat) (r36 : Nat) (r39 : Nat) (r40 : Nat) (r42 : Nat) (r43 : Nat) (p0 : Int32) (p1 : Int32)  : CWi l D k st lo yX8_fails cX8_fails 3 (some .int) ({ frames := 0, cells := 0, slots := 0, locals := 0 }) 0 0 [.ref h0, .int p0, .int p1] [(h0, .inr (8, [.ref r0, .ref r1, .ref r2, .ref r3, .ref r4, .int 0, .int (-1), .int 0, .long 0, .int 0, .int 0, .int 0, .int 0, .ref r13, .ref r14, .ref r15, .int 0, .ref r17, .ref r18, .ref r19, .ref r20, .ref r21, .ref r22, .int 0, .ref r24, .ref r25, .ref r26, .ref r27, .ref r28, .ref r29, .int 0, .ref r31, .ref r32, .ref r33, .int 0, .ref r35, .ref r36, .int 0, .int 0, .ref r39, .ref r40, .int 0, .ref r42, .ref r43]))] (fun (r : Int32) (_ : Unit) => r = p0) (fun (_ : Unit) => [(h0, .inr (8, [.ref r0, .ref r1, .ref r2, .ref r3, .ref r4, .int 0, .int p1, .int 0, .long 0, .int 0, .int 0, .int 0, .int 0, .ref r13, .ref r14, .ref r15, .int 0, .ref r17, .ref r18, .ref r19, .ref r20, .ref r21, .ref r22, .int 0, .ref r24, .ref r25, .ref r26, .ref r27, .ref r28, .ref r29, .int 0, .ref r31, .ref r32, .ref r33, .int 0, .ref r35, .ref r36, .int 0, .int 0, .ref r39, .ref r40, .int 0, .ref r42, .ref r43]))]) := by
  intro sz
  refine Met.ofW (cc := cX8_fails) (maxL := 3) (ret := (some .int)) (by decide) rfl ?_
  intro p e s m args below meth c s₁ B hml hv
  obtain ⟨rfl, hsz, hlo, hP, hK, hDL, hZ⟩ := hv
  have hx := B.exec
  have hb := B.bytes
  have hr := B.returns
  have hts := WS_ts B.pre
  have hown : s.vm.findClass RX8 = some m.cls := findClass_of_methodNamed B.named
  have hlocks := B.notSynchronized
  subst hsz
  have hD := hDL.self (sz := s.heap.size)
  have hAlo := A_lo hDL hlo
  generalize hAe : va_A [(h0, .inr (8, [.ref r0, .ref r1, .ref r2, .ref r3, .ref r4, .int 0, .int (-1), .int 0, .long 0, .int 0, .int 0, .int 0, .int 0, .ref r13, .ref r14, .ref r15, .int 0, .ref r17, .ref r18, .ref r19, .ref r20, .ref r21, .ref r22, .int 0, .ref r24, .ref r25, .ref r26, .ref r27, .ref r28, .ref r29, .int 0, .ref r31, .ref r32, .ref r33, .int 0, .ref r35, .ref r36, .int 0, .int 0, .ref r39, .ref r40, .int 0, .ref r42, .ref r43]))] s.heap.size = A at hD hAlo ⊢
  have hA : ∀ q : Nat, s.heap.size ≤ q → A q := fun q h => by rw [← hAe]; exact Or.inr h
  have hS : va_S A s.heap s.heap [] := va_S.rf
  have hl := lv_entry ([.ref h0, .int p0, .int p1]) (n := 3) (Nat.le_of_ble_eq_true rfl)
  rw [lg_entry_eq]
  generalize (lg_sl ([.ref h0, .int p0, .int p1]) ++ List.replicate (3 - (lg_sl ([.ref h0, .int p0, .int p1])).length) Slot.unset).toArray = ls at hl ⊢
  have hl : lv_has ls 3 [(0, .ref h0), (1, .int p0), (2, .int p1)] := hl
  refine lv_aload_n hx hb dX8_fails_0 rfl (lv_at hl 0 rfl) ?_
  refine lv_iload_n hx hb dX8_fails_1 rfl (lv_at hl 2 rfl) ?_
  refine va_put (D := D) (ci := 8) (v := .int p1) (ty := .int) (C := RX8) (T := TX8) (N := 44) hx hb hts inX8 tyX8 tyX8_ok nmX8 hown hK hP hD hS 0 rfl rfl 6 (by decide) (hts _ tw_979) (fun _ h9 => h9) rfl (by decide +kernel) rfl rfl (Nat.le_of_ble_eq_true rfl) dX8_fails_2 (fun H locs hP hD hS => ?_)
  have hP : va_P D classes [(h0, .inr (8, [.ref r0, .ref r1, .ref r2, .ref r3, .ref r4, .int 0, .int p1, .int 0, .long 0, .int 0, .int 0, .int 0, .int 0, .ref r13, .ref r14, .ref r15, .int 0, .ref r17, .ref r18, .ref r19, .ref r20, .ref r21, .ref r22, .int 0, .ref r24, .ref r25, .ref r26, .ref r27, .ref r28, .ref r29, .int 0, .ref r31, .ref r32, .ref r33, .int 0, .ref r35, .ref r36, .int 0, .int 0, .ref r39, .ref r40, .int 0, .ref r42, .ref r43]))] H := hP
  have hD : va_D A [(h0, .inr (8, [.ref r0, .ref r1, .ref r2, .ref r3, .ref r4, .int 0, .int p1, .int 0, .long 0, .int 0, .int 0, .int 0, .int 0, .ref r13, .ref r14, .ref r15, .int 0, .ref r17, .ref r18, .ref r19, .ref r20, .ref r21, .ref r22, .int 0, .ref r24, .ref r25, .ref r26, .ref r27, .ref r28, .ref r29, .int 0, .ref r31, .ref r32, .ref r33, .int 0, .ref r35, .ref r36, .int 0, .int 0, .ref r39, .ref r40, .int 0, .ref r42, .ref r43]))] := hD
  refine lv_iload_n hx hb dX8_fails_5 rfl (lv_at hl 1 rfl) ?_
  have hP9 := hP.sub (ws' := [(h0, .inr (8, [.ref r0, .ref r1, .ref r2, .ref r3, .ref r4, .int 0, .int p1, .int 0, .long 0, .int 0, .int 0, .int 0, .int 0, .ref r13, .ref r14, .ref r15, .int 0, .ref r17, .ref r18, .ref r19, .ref r20, .ref r21, .ref r22, .int 0, .ref r24, .ref r25, .ref r26, .ref r27, .ref r28, .ref r29, .int 0, .ref r31, .ref r32, .ref r33, .int 0, .ref r35, .ref r36, .int 0, .int 0, .ref r39, .ref r40, .int 0, .ref r42, .ref r43]))]) [0] rfl
  have hD9 := hD.sub (ws' := [(h0, .inr (8, [.ref r0, .ref r1, .ref r2, .ref r3, .ref r4, .int 0, .int p1, .int 0, .long 0, .int 0, .int 0, .int 0, .int 0, .ref r13, .ref r14, .ref r15, .int 0, .ref r17, .ref r18, .ref r19, .ref r20, .ref r21, .ref r22, .int 0, .ref r24, .ref r25, .ref r26, .ref r27, .ref r28, .ref r29, .int 0, .ref r31, .ref r32, .ref r33, .int 0, .ref r35, .ref r36, .int 0, .int 0, .ref r39, .ref r40, .int 0, .ref r42, .ref r43]))]) [0] (by decide) rfl
  exact W.iret (v := p0) hx hb hr (fun t ht hW => ⟨⟨p0, (), rfl, rfl, by rw [ht]; exact hP9, hD9⟩, hS.F ht⟩) hS.2.2 dX8_fails_6


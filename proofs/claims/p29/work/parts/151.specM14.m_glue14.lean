theorem m_glue14 : True := trivial
theorem sg_0 : sg (fun _ => 0) (fun _ => 0) (fun _ => 0) = (fun _ => 0) := by
  funext j
  unfold sg
  by_cases h5 : j % 9 = 5
  · rw [if_pos h5]; rfl
  · rw [if_neg h5]
    by_cases h7 : j % 9 = 7
    · rw [if_pos h7]; rfl
    · rw [if_neg h7]
theorem dvOK_0 : dvOK (fun _ => 0) := fun _ => .inr ⟨0, by omega, rfl⟩


set_option maxHeartbeats 4000000 in
set_option maxRecDepth 100000 in
theorem m_bare0 (l : Launch) (D : va_G) (k : Nat → ClassId) (st : Nat → Nat) (lo : Nat) (h0 : Nat) (r0 : Nat) (r1 : Nat) (r2 : Nat) (r3 : Nat) (r4 : Nat) (r13 : Nat) (r14 : Nat) (r15 : Nat) (r17 : Nat) (r18 : Nat) (r19 : Nat) (r20 : Nat) (r21 : Nat) (r22 : Nat) (r24 : Nat) (r25 : Nat) (r26 : Nat) (r27 : Nat) (r28 : Nat) (r29 : Nat) (r31 : Nat) (r32 : Nat) (r33 : Nat) (r35 : Nat) (r36 : Nat) (r39 : Nat) (r40 : Nat) (r42 : Nat) (r43 : Nat) (f : Nat → Int32)  : CWv l D k st lo yX8_bare cX8_bare 1 none ({ frames := 0, cells := 0, slots := 0, locals := 0 }) 0 0 [.ref h0] [(h0, .inr (8, [.ref r0, .ref r1, .ref r2, .ref r3, .ref r4, .int 0, .int (-1), .int 0, .long 0, .int 0, .int 0, .int 0, .int 0, .ref r13, .ref r14, .ref r15, .int 0, .ref r17, .ref r18, .ref r19, .ref r20, .ref r21, .ref r22, .int 0, .ref r24, .ref r25, .ref r26, .ref r27, .ref r28, .ref r29, .int 0, .ref r31, .ref r32, .ref r33, .int 0, .ref r35, .ref r36, .int 0, .int 0, .ref r39, .ref r40, .int 0, .ref r42, .ref r43])), (aI k r15 9 f)] (fun (_ : Nat → Int32) => True) (fun (g : Nat → Int32) => [(h0, .inr (8, [.ref r0, .ref r1, .ref r2, .ref r3, .ref r4, .int 0, .int (-1), .int 0, .long 0, .int 0, .int 0, .int 0, .int 0, .ref r13, .ref r14, .ref r15, .int 0, .ref r17, .ref r18, .ref r19, .ref r20, .ref r21, .ref r22, .int 0, .ref r24, .ref r25, .ref r26, .ref r27, .ref r28, .ref r29, .int 0, .ref r31, .ref r32, .ref r33, .int 0, .ref r35, .ref r36, .int 0, .int 0, .ref r39, .ref r40, .int 0, .ref r42, .ref r43])), (aI k r15 9 g)]) := by
  intro sz
  refine Met.ofW (cc := cX8_bare) (maxL := 1) (ret := none) (by decide) rfl ?_
  intro p e s m args below meth c s₁ B hml hv
  obtain ⟨rfl, hsz, hlo, hP, hK, hDL, hZ⟩ := hv
  have hx := B.exec
  have hb := B.bytes
  have hr := B.returns
  have hts := WS_ts B.pre
  have hown : s.vm.findClass RX8 = some m.cls := findClass_of_methodNamed B.named
  have hlocks := B.notSynchronized
  subst hsz
  have hD := hDL.self (sz := s.heap.size)
  have hAlo := A_lo hDL hlo
  generalize hAe : va_A [(h0, .inr (8, [.ref r0, .ref r1, .ref r2, .ref r3, .ref r4, .int 0, .int (-1), .int 0, .long 0, .int 0, .int 0, .int 0, .int 0, .ref r13, .ref r14, .ref r15, .int 0, .ref r17, .ref r18, .ref r19, .ref r20, .ref r21, .ref r22, .int 0, .ref r24, .ref r25, .ref r26, .ref r27, .ref r28, .ref r29, .int 0, .ref r31, .ref r32, .ref r33, .int 0, .ref r35, .ref r36, .int 0, .int 0, .ref r39, .ref r40, .int 0, .ref r42, .ref r43])), (aI k r15 9 f)] s.heap.size = A at hD hAlo ⊢
  have hA : ∀ q : Nat, s.heap.size ≤ q → A q := fun q h => by rw [← hAe]; exact Or.inr h
  have hS : va_S A s.heap s.heap [] := va_S.rf
  have hl := lv_entry ([.ref h0]) (n := 1) (Nat.le_of_ble_eq_true rfl)
  rw [lg_entry_eq]
  generalize (lg_sl ([.ref h0]) ++ List.replicate (1 - (lg_sl ([.ref h0])).length) Slot.unset).toArray = ls at hl ⊢
  have hl : lv_has ls 1 [(0, .ref h0)] := hl
  refine lv_aload_n hx hb dX8_bare_0 rfl (lv_at hl 0 rfl) ?_
  refine lv_iconst (v := 0) hx hb dX8_bare_1 (by decide) ?_
  refine va_put (D := D) (ci := 8) (v := .int 0) (ty := .int) (C := RX8) (T := TX8) (N := 44) hx hb hts inX8 tyX8 tyX8_ok nmX8 hown hK hP hD hS 0 rfl rfl 12 (by decide) (hts _ tw_985) (fun _ h9 => h9) rfl (by decide +kernel) rfl rfl (Nat.le_of_ble_eq_true rfl) dX8_bare_2 (fun H locs hP hD hS => ?_)
  replace hP : va_P D classes [(h0, .inr (8, [.ref r0, .ref r1, .ref r2, .ref r3, .ref r4, .int 0, .int (-1), .int 0, .long 0, .int 0, .int 0, .int 0, .int 0, .ref r13, .ref r14, .ref r15, .int 0, .ref r17, .ref r18, .ref r19, .ref r20, .ref r21, .ref r22, .int 0, .ref r24, .ref r25, .ref r26, .ref r27, .ref r28, .ref r29, .int 0, .ref r31, .ref r32, .ref r33, .int 0, .ref r35, .ref r36, .int 0, .int 0, .ref r39, .ref r40, .int 0, .ref r42, .ref r43])), (aI k r15 9 f)] H := hP
  replace hD : va_D A [(h0, .inr (8, [.ref r0, .ref r1, .ref r2, .ref r3, .ref r4, .int 0, .int (-1), .int 0, .long 0, .int 0, .int 0, .int 0, .int 0, .ref r13, .ref r14, .ref r15, .int 0, .ref r17, .ref r18, .ref r19, .ref r20, .ref r21, .ref r22, .int 0, .ref r24, .ref r25, .ref r26, .ref r27, .ref r28, .ref r29, .int 0, .ref r31, .ref r32, .ref r33, .int 0, .ref r35, .ref r36, .int 0, .int 0, .ref r39, .ref r40, .int 0, .ref r42, .ref r43])), (aI k r15 9 f)] := hD
  refine lv_aload_n hx hb dX8_bare_5 rfl (lv_at hl 0 rfl) ?_
  refine lv_iconst (v := 0) hx hb dX8_bare_6 (by decide) ?_
  refine va_put (D := D) (ci := 8) (v := .int 0) (ty := .int) (C := RX8) (T := TX8) (N := 44) hx hb hts inX8 tyX8 tyX8_ok nmX8 hown hK hP hD hS 0 rfl rfl 16 (by decide) (hts _ tw_989) (fun _ h9 => h9) rfl (by decide +kernel) rfl rfl (Nat.le_of_ble_eq_true rfl) dX8_bare_7 (fun H locs hP hD hS => ?_)
  replace hP : va_P D classes [(h0, .inr (8, [.ref r0, .ref r1, .ref r2, .ref r3, .ref r4, .int 0, .int (-1), .int 0, .long 0, .int 0, .int 0, .int 0, .int 0, .ref r13, .ref r14, .ref r15, .int 0, .ref r17, .ref r18, .ref r19, .ref r20, .ref r21, .ref r22, .int 0, .ref r24, .ref r25, .ref r26, .ref r27, .ref r28, .ref r29, .int 0, .ref r31, .ref r32, .ref r33, .int 0, .ref r35, .ref r36, .int 0, .int 0, .ref r39, .ref r40, .int 0, .ref r42, .ref r43])), (aI k r15 9 f)] H := hP
  replace hD : va_D A [(h0, .inr (8, [.ref r0, .ref r1, .ref r2, .ref r3, .ref r4, .int 0, .int (-1), .int 0, .long 0, .int 0, .int 0, .int 0, .int 0, .ref r13, .ref r14, .ref r15, .int 0, .ref r17, .ref r18, .ref r19, .ref r20, .ref r21, .ref r22, .int 0, .ref r24, .ref r25, .ref r26, .ref r27, .ref r28, .ref r29, .int 0, .ref r31, .ref r32, .ref r33, .int 0, .ref r35, .ref r36, .int 0, .int 0, .ref r39, .ref r40, .int 0, .ref r42, .ref r43])), (aI k r15 9 f)] := hD
  refine lv_aload_n hx hb dX8_bare_10 rfl (lv_at hl 0 rfl) ?_
  refine va_get (D := D) (ci := 8) (v := .ref r15) (C := RX8) (T := TX8) (N := 44) hx hb hts inX8 hown hK hP 0 rfl rfl 15 (by decide) (hts _ tw_988) (fun _ h9 => h9) rfl dX8_bare_11 ?_
  refine lv_iconst (v := 0) hx hb dX8_bare_14 (by decide) ?_
  refine lv_iconst (v := 0) hx hb dX8_bare_15 (by decide) ?_
  refine va_iast hx hb hK hP hD hS 1 1 rfl rfl (by unfold vp_in; decide) dX8_bare_16 (fun H locs hP hD hS => ?_)
  replace hP : va_P D classes [(h0, .inr (8, [.ref r0, .ref r1, .ref r2, .ref r3, .ref r4, .int 0, .int (-1), .int 0, .long 0, .int 0, .int 0, .int 0, .int 0, .ref r13, .ref r14, .ref r15, .int 0, .ref r17, .ref r18, .ref r19, .ref r20, .ref r21, .ref r22, .int 0, .ref r24, .ref r25, .ref r26, .ref r27, .ref r28, .ref r29, .int 0, .ref r31, .ref r32, .ref r33, .int 0, .ref r35, .ref r36, .int 0, .int 0, .ref r39, .ref r40, .int 0, .ref r42, .ref r43])), (aI k r15 9 (upd f (Int32.toNatClampNeg 0) 0))] H := hP
  replace hD : va_D A [(h0, .inr (8, [.ref r0, .ref r1, .ref r2, .ref r3, .ref r4, .int 0, .int (-1), .int 0, .long 0, .int 0, .int 0, .int 0, .int 0, .ref r13, .ref r14, .ref r15, .int 0, .ref r17, .ref r18, .ref r19, .ref r20, .ref r21, .ref r22, .int 0, .ref r24, .ref r25, .ref r26, .ref r27, .ref r28, .ref r29, .int 0, .ref r31, .ref r32, .ref r33, .int 0, .ref r35, .ref r36, .int 0, .int 0, .ref r39, .ref r40, .int 0, .ref r42, .ref r43])), (aI k r15 9 (upd f (Int32.toNatClampNeg 0) 0))] := hD
  generalize (upd f (Int32.toNatClampNeg 0) 0) = f_1 at hP hD
  refine lv_aload_n hx hb dX8_bare_17 rfl (lv_at hl 0 rfl) ?_
  refine va_get (D := D) (ci := 8) (v := .ref r15) (C := RX8) (T := TX8) (N := 44) hx hb hts inX8 hown hK hP 0 rfl rfl 15 (by decide) (hts _ tw_988) (fun _ h9 => h9) rfl dX8_bare_18 ?_
  refine lv_iconst (v := 1) hx hb dX8_bare_21 (by decide) ?_
  refine lv_iconst (v := 2) hx hb dX8_bare_22 (by decide) ?_
  refine va_iast hx hb hK hP hD hS 1 1 rfl rfl (by unfold vp_in; decide) dX8_bare_23 (fun H locs hP hD hS => ?_)
  replace hP : va_P D classes [(h0, .inr (8, [.ref r0, .ref r1, .ref r2, .ref r3, .ref r4, .int 0, .int (-1), .int 0, .long 0, .int 0, .int 0, .int 0, .int 0, .ref r13, .ref r14, .ref r15, .int 0, .ref r17, .ref r18, .ref r19, .ref r20, .ref r21, .ref r22, .int 0, .ref r24, .ref r25, .ref r26, .ref r27, .ref r28, .ref r29, .int 0, .ref r31, .ref r32, .ref r33, .int 0, .ref r35, .ref r36, .int 0, .int 0, .ref r39, .ref r40, .int 0, .ref r42, .ref r43])), (aI k r15 9 (upd f_1 (Int32.toNatClampNeg 1) 2))] H := hP
  replace hD : va_D A [(h0, .inr (8, [.ref r0, .ref r1, .ref r2, .ref r3, .ref r4, .int 0, .int (-1), .int 0, .long 0, .int 0, .int 0, .int 0, .int 0, .ref r13, .ref r14, .ref r15, .int 0, .ref r17, .ref r18, .ref r19, .ref r20, .ref r21, .ref r22, .int 0, .ref r24, .ref r25, .ref r26, .ref r27, .ref r28, .ref r29, .int 0, .ref r31, .ref r32, .ref r33, .int 0, .ref r35, .ref r36, .int 0, .int 0, .ref r39, .ref r40, .int 0, .ref r42, .ref r43])), (aI k r15 9 (upd f_1 (Int32.toNatClampNeg 1) 2))] := hD
  generalize (upd f_1 (Int32.toNatClampNeg 1) 2) = f_2 at hP hD
  refine lv_aload_n hx hb dX8_bare_24 rfl (lv_at hl 0 rfl) ?_
  refine va_get (D := D) (ci := 8) (v := .ref r15) (C := RX8) (T := TX8) (N := 44) hx hb hts inX8 hown hK hP 0 rfl rfl 15 (by decide) (hts _ tw_988) (fun _ h9 => h9) rfl dX8_bare_25 ?_
  refine lv_iconst (v := 2) hx hb dX8_bare_28 (by decide) ?_
  refine lv_iconst (v := 1) hx hb dX8_bare_29 (by decide) ?_
  refine va_iast hx hb hK hP hD hS 1 1 rfl rfl (by unfold vp_in; decide) dX8_bare_30 (fun H locs hP hD hS => ?_)
  replace hP : va_P D classes [(h0, .inr (8, [.ref r0, .ref r1, .ref r2, .ref r3, .ref r4, .int 0, .int (-1), .int 0, .long 0, .int 0, .int 0, .int 0, .int 0, .ref r13, .ref r14, .ref r15, .int 0, .ref r17, .ref r18, .ref r19, .ref r20, .ref r21, .ref r22, .int 0, .ref r24, .ref r25, .ref r26, .ref r27, .ref r28, .ref r29, .int 0, .ref r31, .ref r32, .ref r33, .int 0, .ref r35, .ref r36, .int 0, .int 0, .ref r39, .ref r40, .int 0, .ref r42, .ref r43])), (aI k r15 9 (upd f_2 (Int32.toNatClampNeg 2) 1))] H := hP
  replace hD : va_D A [(h0, .inr (8, [.ref r0, .ref r1, .ref r2, .ref r3, .ref r4, .int 0, .int (-1), .int 0, .long 0, .int 0, .int 0, .int 0, .int 0, .ref r13, .ref r14, .ref r15, .int 0, .ref r17, .ref r18, .ref r19, .ref r20, .ref r21, .ref r22, .int 0, .ref r24, .ref r25, .ref r26, .ref r27, .ref r28, .ref r29, .int 0, .ref r31, .ref r32, .ref r33, .int 0, .ref r35, .ref r36, .int 0, .int 0, .ref r39, .ref r40, .int 0, .ref r42, .ref r43])), (aI k r15 9 (upd f_2 (Int32.toNatClampNeg 2) 1))] := hD
  generalize (upd f_2 (Int32.toNatClampNeg 2) 1) = f_3 at hP hD
  refine lv_aload_n hx hb dX8_bare_31 rfl (lv_at hl 0 rfl) ?_
  refine va_get (D := D) (ci := 8) (v := .ref r15) (C := RX8) (T := TX8) (N := 44) hx hb hts inX8 hown hK hP 0 rfl rfl 15 (by decide) (hts _ tw_988) (fun _ h9 => h9) rfl dX8_bare_32 ?_
  refine lv_iconst (v := 3) hx hb dX8_bare_35 (by decide) ?_
  refine lv_iconst (v := 5) hx hb dX8_bare_36 (by decide) ?_
  refine va_iast hx hb hK hP hD hS 1 1 rfl rfl (by unfold vp_in; decide) dX8_bare_37 (fun H locs hP hD hS => ?_)
  replace hP : va_P D classes [(h0, .inr (8, [.ref r0, .ref r1, .ref r2, .ref r3, .ref r4, .int 0, .int (-1), .int 0, .long 0, .int 0, .int 0, .int 0, .int 0, .ref r13, .ref r14, .ref r15, .int 0, .ref r17, .ref r18, .ref r19, .ref r20, .ref r21, .ref r22, .int 0, .ref r24, .ref r25, .ref r26, .ref r27, .ref r28, .ref r29, .int 0, .ref r31, .ref r32, .ref r33, .int 0, .ref r35, .ref r36, .int 0, .int 0, .ref r39, .ref r40, .int 0, .ref r42, .ref r43])), (aI k r15 9 (upd f_3 (Int32.toNatClampNeg 3) 5))] H := hP
  replace hD : va_D A [(h0, .inr (8, [.ref r0, .ref r1, .ref r2, .ref r3, .ref r4, .int 0, .int (-1), .int 0, .long 0, .int 0, .int 0, .int 0, .int 0, .ref r13, .ref r14, .ref r15, .int 0, .ref r17, .ref r18, .ref r19, .ref r20, .ref r21, .ref r22, .int 0, .ref r24, .ref r25, .ref r26, .ref r27, .ref r28, .ref r29, .int 0, .ref r31, .ref r32, .ref r33, .int 0, .ref r35, .ref r36, .int 0, .int 0, .ref r39, .ref r40, .int 0, .ref r42, .ref r43])), (aI k r15 9 (upd f_3 (Int32.toNatClampNeg 3) 5))] := hD
  generalize (upd f_3 (Int32.toNatClampNeg 3) 5) = f_4 at hP hD
  refine lv_aload_n hx hb dX8_bare_38 rfl (lv_at hl 0 rfl) ?_
  refine va_get (D := D) (ci := 8) (v := .ref r15) (C := RX8) (T := TX8) (N := 44) hx hb hts inX8 hown hK hP 0 rfl rfl 15 (by decide) (hts _ tw_988) (fun _ h9 => h9) rfl dX8_bare_39 ?_
  refine lv_iconst (v := 4) hx hb dX8_bare_42 (by decide) ?_
  refine lv_bipush (v := 30) hx hb dX8_bare_43 (by decide) ?_
  refine va_iast hx hb hK hP hD hS 1 1 rfl rfl (by unfold vp_in; decide) dX8_bare_45 (fun H locs hP hD hS => ?_)
  replace hP : va_P D classes [(h0, .inr (8, [.ref r0, .ref r1, .ref r2, .ref r3, .ref r4, .int 0, .int (-1), .int 0, .long 0, .int 0, .int 0, .int 0, .int 0, .ref r13, .ref r14, .ref r15, .int 0, .ref r17, .ref r18, .ref r19, .ref r20, .ref r21, .ref r22, .int 0, .ref r24, .ref r25, .ref r26, .ref r27, .ref r28, .ref r29, .int 0, .ref r31, .ref r32, .ref r33, .int 0, .ref r35, .ref r36, .int 0, .int 0, .ref r39, .ref r40, .int 0, .ref r42, .ref r43])), (aI k r15 9 (upd f_4 (Int32.toNatClampNeg 4) 30))] H := hP
  replace hD : va_D A [(h0, .inr (8, [.ref r0, .ref r1, .ref r2, .ref r3, .ref r4, .int 0, .int (-1), .int 0, .long 0, .int 0, .int 0, .int 0, .int 0, .ref r13, .ref r14, .ref r15, .int 0, .ref r17, .ref r18, .ref r19, .ref r20, .ref r21, .ref r22, .int 0, .ref r24, .ref r25, .ref r26, .ref r27, .ref r28, .ref r29, .int 0, .ref r31, .ref r32, .ref r33, .int 0, .ref r35, .ref r36, .int 0, .int 0, .ref r39, .ref r40, .int 0, .ref r42, .ref r43])), (aI k r15 9 (upd f_4 (Int32.toNatClampNeg 4) 30))] := hD
  generalize (upd f_4 (Int32.toNatClampNeg 4) 30) = f_5 at hP hD
  refine lv_aload_n hx hb dX8_bare_46 rfl (lv_at hl 0 rfl) ?_
  refine va_get (D := D) (ci := 8) (v := .ref r15) (C := RX8) (T := TX8) (N := 44) hx hb hts inX8 hown hK hP 0 rfl rfl 15 (by decide) (hts _ tw_988) (fun _ h9 => h9) rfl dX8_bare_47 ?_
  refine lv_iconst (v := 5) hx hb dX8_bare_50 (by decide) ?_
  refine lv_iconst (v := 1) hx hb dX8_bare_51 (by decide) ?_
  refine va_iast hx hb hK hP hD hS 1 1 rfl rfl (by unfold vp_in; decide) dX8_bare_52 (fun H locs hP hD hS => ?_)
  replace hP : va_P D classes [(h0, .inr (8, [.ref r0, .ref r1, .ref r2, .ref r3, .ref r4, .int 0, .int (-1), .int 0, .long 0, .int 0, .int 0, .int 0, .int 0, .ref r13, .ref r14, .ref r15, .int 0, .ref r17, .ref r18, .ref r19, .ref r20, .ref r21, .ref r22, .int 0, .ref r24, .ref r25, .ref r26, .ref r27, .ref r28, .ref r29, .int 0, .ref r31, .ref r32, .ref r33, .int 0, .ref r35, .ref r36, .int 0, .int 0, .ref r39, .ref r40, .int 0, .ref r42, .ref r43])), (aI k r15 9 (upd f_5 (Int32.toNatClampNeg 5) 1))] H := hP
  replace hD : va_D A [(h0, .inr (8, [.ref r0, .ref r1, .ref r2, .ref r3, .ref r4, .int 0, .int (-1), .int 0, .long 0, .int 0, .int 0, .int 0, .int 0, .ref r13, .ref r14, .ref r15, .int 0, .ref r17, .ref r18, .ref r19, .ref r20, .ref r21, .ref r22, .int 0, .ref r24, .ref r25, .ref r26, .ref r27, .ref r28, .ref r29, .int 0, .ref r31, .ref r32, .ref r33, .int 0, .ref r35, .ref r36, .int 0, .int 0, .ref r39, .ref r40, .int 0, .ref r42, .ref r43])), (aI k r15 9 (upd f_5 (Int32.toNatClampNeg 5) 1))] := hD
  generalize (upd f_5 (Int32.toNatClampNeg 5) 1) = f_6 at hP hD
  refine lv_aload_n hx hb dX8_bare_53 rfl (lv_at hl 0 rfl) ?_
  refine va_get (D := D) (ci := 8) (v := .ref r15) (C := RX8) (T := TX8) (N := 44) hx hb hts inX8 hown hK hP 0 rfl rfl 15 (by decide) (hts _ tw_988) (fun _ h9 => h9) rfl dX8_bare_54 ?_
  refine lv_bipush (v := 6) hx hb dX8_bare_57 (by decide) ?_
  refine lv_bipush (v := 10) hx hb dX8_bare_59 (by decide) ?_
  refine va_iast hx hb hK hP hD hS 1 1 rfl rfl (by unfold vp_in; decide) dX8_bare_61 (fun H locs hP hD hS => ?_)
  replace hP : va_P D classes [(h0, .inr (8, [.ref r0, .ref r1, .ref r2, .ref r3, .ref r4, .int 0, .int (-1), .int 0, .long 0, .int 0, .int 0, .int 0, .int 0, .ref r13, .ref r14, .ref r15, .int 0, .ref r17, .ref r18, .ref r19, .ref r20, .ref r21, .ref r22, .int 0, .ref r24, .ref r25, .ref r26, .ref r27, .ref r28, .ref r29, .int 0, .ref r31, .ref r32, .ref r33, .int 0, .ref r35, .ref r36, .int 0, .int 0, .ref r39, .ref r40, .int 0, .ref r42, .ref r43])), (aI k r15 9 (upd f_6 (Int32.toNatClampNeg 6) 10))] H := hP
  replace hD : va_D A [(h0, .inr (8, [.ref r0, .ref r1, .ref r2, .ref r3, .ref r4, .int 0, .int (-1), .int 0, .long 0, .int 0, .int 0, .int 0, .int 0, .ref r13, .ref r14, .ref r15, .int 0, .ref r17, .ref r18, .ref r19, .ref r20, .ref r21, .ref r22, .int 0, .ref r24, .ref r25, .ref r26, .ref r27, .ref r28, .ref r29, .int 0, .ref r31, .ref r32, .ref r33, .int 0, .ref r35, .ref r36, .int 0, .int 0, .ref r39, .ref r40, .int 0, .ref r42, .ref r43])), (aI k r15 9 (upd f_6 (Int32.toNatClampNeg 6) 10))] := hD
  generalize (upd f_6 (Int32.toNatClampNeg 6) 10) = f_7 at hP hD
  refine lv_aload_n hx hb dX8_bare_62 rfl (lv_at hl 0 rfl) ?_
  refine va_get (D := D) (ci := 8) (v := .ref r15) (C := RX8) (T := TX8) (N := 44) hx hb hts inX8 hown hK hP 0 rfl rfl 15 (by decide) (hts _ tw_988) (fun _ h9 => h9) rfl dX8_bare_63 ?_
  refine lv_bipush (v := 7) hx hb dX8_bare_66 (by decide) ?_
  refine lv_iconst (v := 0) hx hb dX8_bare_68 (by decide) ?_
  refine va_iast hx hb hK hP hD hS 1 1 rfl rfl (by unfold vp_in; decide) dX8_bare_69 (fun H locs hP hD hS => ?_)
  replace hP : va_P D classes [(h0, .inr (8, [.ref r0, .ref r1, .ref r2, .ref r3, .ref r4, .int 0, .int (-1), .int 0, .long 0, .int 0, .int 0, .int 0, .int 0, .ref r13, .ref r14, .ref r15, .int 0, .ref r17, .ref r18, .ref r19, .ref r20, .ref r21, .ref r22, .int 0, .ref r24, .ref r25, .ref r26, .ref r27, .ref r28, .ref r29, .int 0, .ref r31, .ref r32, .ref r33, .int 0, .ref r35, .ref r36, .int 0, .int 0, .ref r39, .ref r40, .int 0, .ref r42, .ref r43])), (aI k r15 9 (upd f_7 (Int32.toNatClampNeg 7) 0))] H := hP
  replace hD : va_D A [(h0, .inr (8, [.ref r0, .ref r1, .ref r2, .ref r3, .ref r4, .int 0, .int (-1), .int 0, .long 0, .int 0, .int 0, .int 0, .int 0, .ref r13, .ref r14, .ref r15, .int 0, .ref r17, .ref r18, .ref r19, .ref r20, .ref r21, .ref r22, .int 0, .ref r24, .ref r25, .ref r26, .ref r27, .ref r28, .ref r29, .int 0, .ref r31, .ref r32, .ref r33, .int 0, .ref r35, .ref r36, .int 0, .int 0, .ref r39, .ref r40, .int 0, .ref r42, .ref r43])), (aI k r15 9 (upd f_7 (Int32.toNatClampNeg 7) 0))] := hD
  generalize (upd f_7 (Int32.toNatClampNeg 7) 0) = f_8 at hP hD
  refine lv_aload_n hx hb dX8_bare_70 rfl (lv_at hl 0 rfl) ?_
  refine va_get (D := D) (ci := 8) (v := .ref r15) (C := RX8) (T := TX8) (N := 44) hx hb hts inX8 hown hK hP 0 rfl rfl 15 (by decide) (hts _ tw_988) (fun _ h9 => h9) rfl dX8_bare_71 ?_
  refine lv_bipush (v := 8) hx hb dX8_bare_74 (by decide) ?_
  refine lv_sipush (v := 200) hx hb dX8_bare_76 (by decide) ?_
  refine va_iast hx hb hK hP hD hS 1 1 rfl rfl (by unfold vp_in; decide) dX8_bare_79 (fun H locs hP hD hS => ?_)
  replace hP : va_P D classes [(h0, .inr (8, [.ref r0, .ref r1, .ref r2, .ref r3, .ref r4, .int 0, .int (-1), .int 0, .long 0, .int 0, .int 0, .int 0, .int 0, .ref r13, .ref r14, .ref r15, .int 0, .ref r17, .ref r18, .ref r19, .ref r20, .ref r21, .ref r22, .int 0, .ref r24, .ref r25, .ref r26, .ref r27, .ref r28, .ref r29, .int 0, .ref r31, .ref r32, .ref r33, .int 0, .ref r35, .ref r36, .int 0, .int 0, .ref r39, .ref r40, .int 0, .ref r42, .ref r43])), (aI k r15 9 (upd f_8 (Int32.toNatClampNeg 8) 200))] H := hP
  replace hD : va_D A [(h0, .inr (8, [.ref r0, .ref r1, .ref r2, .ref r3, .ref r4, .int 0, .int (-1), .int 0, .long 0, .int 0, .int 0, .int 0, .int 0, .ref r13, .ref r14, .ref r15, .int 0, .ref r17, .ref r18, .ref r19, .ref r20, .ref r21, .ref r22, .int 0, .ref r24, .ref r25, .ref r26, .ref r27, .ref r28, .ref r29, .int 0, .ref r31, .ref r32, .ref r33, .int 0, .ref r35, .ref r36, .int 0, .int 0, .ref r39, .ref r40, .int 0, .ref r42, .ref r43])), (aI k r15 9 (upd f_8 (Int32.toNatClampNeg 8) 200))] := hD
  generalize (upd f_8 (Int32.toNatClampNeg 8) 200) = f_9 at hP hD
  have hP9 := hP.sub (ws' := [(h0, .inr (8, [.ref r0, .ref r1, .ref r2, .ref r3, .ref r4, .int 0, .int (-1), .int 0, .long 0, .int 0, .int 0, .int 0, .int 0, .ref r13, .ref r14, .ref r15, .int 0, .ref r17, .ref r18, .ref r19, .ref r20, .ref r21, .ref r22, .int 0, .ref r24, .ref r25, .ref r26, .ref r27, .ref r28, .ref r29, .int 0, .ref r31, .ref r32, .ref r33, .int 0, .ref r35, .ref r36, .int 0, .int 0, .ref r39, .ref r40, .int 0, .ref r42, .ref r43])), (aI k r15 9 f_9)]) [0, 1] rfl
  have hD9 := hD.sub (ws' := [(h0, .inr (8, [.ref r0, .ref r1, .ref r2, .ref r3, .ref r4, .int 0, .int (-1), .int 0, .long 0, .int 0, .int 0, .int 0, .int 0, .ref r13, .ref r14, .ref r15, .int 0, .ref r17, .ref r18, .ref r19, .ref r20, .ref r21, .ref r22, .int 0, .ref r24, .ref r25, .ref r26, .ref r27, .ref r28, .ref r29, .int 0, .ref r31, .ref r32, .ref r33, .int 0, .ref r35, .ref r36, .int 0, .int 0, .ref r39, .ref r40, .int 0, .ref r42, .ref r43])), (aI k r15 9 f_9)]) [0, 1] (by decide) rfl
  exact W.vret hx hb hr (fun t ht hW => ⟨⟨f_9, rfl, trivial, by rw [ht]; exact hP9, hD9⟩, hS.F ht⟩) hS.2.2 dX8_bare_80


theorem x_glue9 : True := trivial
theorem vv_0 : vv 0 0 0 (fun _ => 0) = (fun _ => 0) := by
  funext j
  unfold vv
  by_cases h0 : j = 0
  · rw [if_pos h0]; rfl
  · rw [if_neg h0]
    by_cases h6 : j = 6
    · rw [if_pos h6]; rfl
    · rw [if_neg h6]
      by_cases h8 : j = 8
      · rw [if_pos h8]; rfl
      · rw [if_neg h8]

theorem dX6_init_0 : decode cX6_init 0 = .ok (.aload_n 0, 1) := by decide +kernel
theorem dX6_init_1 : decode cX6_init 1 = .ok (.invokespecial 3, 3) := by decide +kernel
theorem dX6_init_4 : decode cX6_init 4 = .ok (.aload_n 0, 1) := by decide +kernel
theorem dX6_init_5 : decode cX6_init 5 = .ok (.sipush 240, 3) := by decide +kernel
theorem dX6_init_8 : decode cX6_init 8 = .ok (.newarray .byte, 2) := by decide +kernel
theorem dX6_init_10 : decode cX6_init 10 = .ok (.putfield 9, 3) := by decide +kernel
theorem dX6_init_13 : decode cX6_init 13 = .ok (.aload_n 0, 1) := by decide +kernel
theorem dX6_init_14 : decode cX6_init 14 = .ok (.iconst 0, 1) := by decide +kernel
theorem dX6_init_15 : decode cX6_init 15 = .ok (.putfield 15, 3) := by decide +kernel
theorem dX6_init_18 : decode cX6_init 18 = .ok (.aload_n 0, 1) := by decide +kernel
theorem dX6_init_19 : decode cX6_init 19 = .ok (.iconst 0, 1) := by decide +kernel
theorem dX6_init_20 : decode cX6_init 20 = .ok (.putfield 19, 3) := by decide +kernel
theorem dX6_init_23 : decode cX6_init 23 = .ok (.aload_n 0, 1) := by decide +kernel
theorem dX6_init_24 : decode cX6_init 24 = .ok (.iconst 0, 1) := by decide +kernel
theorem dX6_init_25 : decode cX6_init 25 = .ok (.putfield 22, 3) := by decide +kernel
theorem dX6_init_28 : decode cX6_init 28 = .ok (.aload_n 0, 1) := by decide +kernel
theorem dX6_init_29 : decode cX6_init 29 = .ok (.iconst 0, 1) := by decide +kernel
theorem dX6_init_30 : decode cX6_init 30 = .ok (.putfield 25, 3) := by decide +kernel
theorem dX6_init_33 : decode cX6_init 33 = .ok (.aload_n 0, 1) := by decide +kernel
theorem dX6_init_34 : decode cX6_init 34 = .ok (.iconst 0, 1) := by decide +kernel
theorem dX6_init_35 : decode cX6_init 35 = .ok (.putfield 28, 3) := by decide +kernel
theorem dX6_init_38 : decode cX6_init 38 = .ok (.return_, 1) := by decide +kernel
set_option maxHeartbeats 4000000 in
set_option maxRecDepth 100000 in
theorem x_Text_init (l : Launch) (D : va_G) (k : Nat → ClassId) (st : Nat → Nat) (lo : Nat) (h0 : Nat)  : CWv l D k st lo yX6_init cX6_init 1 none ({ frames := 1, cells := 1, slots := 240, locals := 12 }) 1 240 [.ref h0] [(h0, .inr (6, [.null, .int 0, .int 0, .int 0, .int 0, .int 0]))] (fun (_ : Nat) => True) (fun (q0 : Nat) => [(h0, .inr (6, (fX6 q0 0 0 0 0 0))), (aB k q0 240 (fun _ => 0))]) := by
  intro sz
  refine Met.ofW (cc := cX6_init) (maxL := 1) (ret := none) (by decide) rfl ?_
  intro p e s m args below meth c s₁ B hml hv
  obtain ⟨rfl, hsz, hlo, hP, hK, hDL, hZ⟩ := hv
  have hx := B.exec
  have hb := B.bytes
  have hr := B.returns
  have hts := WS_ts B.pre
  have hown : s.vm.findClass RX6 = some m.cls := findClass_of_methodNamed B.named
  have hlocks := B.notSynchronized
  have hin : meth.name = "<init>" := (name_of_methodNamed B.named B.method).1
  subst hsz
  have hD := hDL.self (sz := s.heap.size)
  have hAlo := A_lo hDL hlo
  generalize hAe : va_A [(h0, .inr (6, [.null, .int 0, .int 0, .int 0, .int 0, .int 0]))] s.heap.size = A at hD hAlo ⊢
  have hA : ∀ q : Nat, s.heap.size ≤ q → A q := fun q h => by rw [← hAe]; exact Or.inr h
  have hS : va_S A s.heap s.heap [] := va_S.rf
  have hl := lv_entry ([.ref h0]) (n := 1) (Nat.le_of_ble_eq_true rfl)
  rw [lg_entry_eq]
  generalize (lg_sl ([.ref h0]) ++ List.replicate (1 - (lg_sl ([.ref h0])).length) Slot.unset).toArray = ls at hl ⊢
  have hl : lv_has ls 1 [(0, .ref h0)] := hl
  refine lv_aload_n hx hb dX6_init_0 rfl (lv_at hl 0 rfl) ?_
  refine W.objInit hx hb hown (hts _ tw_108) (hts _ tw_101) (hts _ tw_102) rfl (by rw [hml]; exact hl.1) rfl dX6_init_1 (Nat.le_of_ble_eq_true rfl) (Nat.le_of_ble_eq_true rfl) ?_
  refine W.eq (g2 := F0 m 4 ls []) rfl ?_
  refine lv_aload_n hx hb dX6_init_4 rfl (lv_at hl 0 rfl) ?_
  refine lv_sipush (v := 240) hx hb dX6_init_5 (by decide) ?_
  refine nwa (atype := .byte) (t0 := 0) (a0 := (240, .inl (fun _ => 0))) hx hb (hts _ tw_136) rfl rfl hK hP hD hS hA (fun _ => rfl) (by decide) (N' := 240) (by decide) (by decide) (Nat.le_of_ble_eq_true rfl) (Nat.le_of_ble_eq_true rfl) dX6_init_8 (fun q_1 H hP hD hS => ?_)
  refine W.widen (k := 1) (n := 240) (by decide) (by decide) ?_
  replace hP : va_P D classes [(h0, .inr (6, [.null, .int 0, .int 0, .int 0, .int 0, .int 0])), (aB k q_1 240 (fun _ => 0))] H := hP
  replace hD : va_D A [(h0, .inr (6, [.null, .int 0, .int 0, .int 0, .int 0, .int 0])), (aB k q_1 240 (fun _ => 0))] := hD
  refine va_putF (D := D) (ci := 6) (v := .ref q_1) (ty := (.array .byte)) (C := RX6) (T := TX6) (N := 6) hx hb hts inX6 tyX6 tyX6_ok nmX6 hown hK hP hD hS 0 rfl rfl 0 (by decide) (hts _ tw_109) (fun _ h9 => h9) rfl hin rfl (by decide +kernel) rfl rfl (Nat.le_of_ble_eq_true rfl) dX6_init_10 (fun H locs hP hD hS => ?_)
  replace hP : va_P D classes [(h0, .inr (6, (fX6 q_1 0 0 0 0 0))), (aB k q_1 240 (fun _ => 0))] H := hP
  replace hD : va_D A [(h0, .inr (6, (fX6 q_1 0 0 0 0 0))), (aB k q_1 240 (fun _ => 0))] := hD
  refine lv_aload_n hx hb dX6_init_13 rfl (lv_at hl 0 rfl) ?_
  refine lv_iconst (v := 0) hx hb dX6_init_14 (by decide) ?_
  refine va_put (D := D) (ci := 6) (v := .int 0) (ty := .int) (C := RX6) (T := TX6) (N := 6) hx hb hts inX6 tyX6 tyX6_ok nmX6 hown hK hP hD hS 0 rfl rfl 1 (by decide) (hts _ tw_110) (fun _ h9 => h9) rfl (by decide +kernel) rfl rfl (Nat.le_of_ble_eq_true rfl) dX6_init_15 (fun H locs hP hD hS => ?_)
  replace hP : va_P D classes [(h0, .inr (6, (fX6 q_1 0 0 0 0 0))), (aB k q_1 240 (fun _ => 0))] H := hP
  replace hD : va_D A [(h0, .inr (6, (fX6 q_1 0 0 0 0 0))), (aB k q_1 240 (fun _ => 0))] := hD
  refine lv_aload_n hx hb dX6_init_18 rfl (lv_at hl 0 rfl) ?_
  refine lv_iconst (v := 0) hx hb dX6_init_19 (by decide) ?_
  refine va_put (D := D) (ci := 6) (v := .int 0) (ty := .int) (C := RX6) (T := TX6) (N := 6) hx hb hts inX6 tyX6 tyX6_ok nmX6 hown hK hP hD hS 0 rfl rfl 2 (by decide) (hts _ tw_113) (fun _ h9 => h9) rfl (by decide +kernel) rfl rfl (Nat.le_of_ble_eq_true rfl) dX6_init_20 (fun H locs hP hD hS => ?_)
  replace hP : va_P D classes [(h0, .inr (6, (fX6 q_1 0 0 0 0 0))), (aB k q_1 240 (fun _ => 0))] H := hP
  replace hD : va_D A [(h0, .inr (6, (fX6 q_1 0 0 0 0 0))), (aB k q_1 240 (fun _ => 0))] := hD
  refine lv_aload_n hx hb dX6_init_23 rfl (lv_at hl 0 rfl) ?_
  refine lv_iconst (v := 0) hx hb dX6_init_24 (by decide) ?_
  refine va_put (D := D) (ci := 6) (v := .int 0) (ty := .int) (C := RX6) (T := TX6) (N := 6) hx hb hts inX6 tyX6 tyX6_ok nmX6 hown hK hP hD hS 0 rfl rfl 3 (by decide) (hts _ tw_116) (fun _ h9 => h9) rfl (by decide +kernel) rfl rfl (Nat.le_of_ble_eq_true rfl) dX6_init_25 (fun H locs hP hD hS => ?_)
  replace hP : va_P D classes [(h0, .inr (6, (fX6 q_1 0 0 0 0 0))), (aB k q_1 240 (fun _ => 0))] H := hP
  replace hD : va_D A [(h0, .inr (6, (fX6 q_1 0 0 0 0 0))), (aB k q_1 240 (fun _ => 0))] := hD
  refine lv_aload_n hx hb dX6_init_28 rfl (lv_at hl 0 rfl) ?_
  refine lv_iconst (v := 0) hx hb dX6_init_29 (by decide) ?_
  refine va_put (D := D) (ci := 6) (v := .int 0) (ty := .int) (C := RX6) (T := TX6) (N := 6) hx hb hts inX6 tyX6 tyX6_ok nmX6 hown hK hP hD hS 0 rfl rfl 4 (by decide) (hts _ tw_119) (fun _ h9 => h9) rfl (by decide +kernel) rfl rfl (Nat.le_of_ble_eq_true rfl) dX6_init_30 (fun H locs hP hD hS => ?_)
  replace hP : va_P D classes [(h0, .inr (6, (fX6 q_1 0 0 0 0 0))), (aB k q_1 240 (fun _ => 0))] H := hP
  replace hD : va_D A [(h0, .inr (6, (fX6 q_1 0 0 0 0 0))), (aB k q_1 240 (fun _ => 0))] := hD
  refine lv_aload_n hx hb dX6_init_33 rfl (lv_at hl 0 rfl) ?_
  refine lv_iconst (v := 0) hx hb dX6_init_34 (by decide) ?_
  refine va_put (D := D) (ci := 6) (v := .int 0) (ty := .int) (C := RX6) (T := TX6) (N := 6) hx hb hts inX6 tyX6 tyX6_ok nmX6 hown hK hP hD hS 0 rfl rfl 5 (by decide) (hts _ tw_121) (fun _ h9 => h9) rfl (by decide +kernel) rfl rfl (Nat.le_of_ble_eq_true rfl) dX6_init_35 (fun H locs hP hD hS => ?_)
  replace hP : va_P D classes [(h0, .inr (6, (fX6 q_1 0 0 0 0 0))), (aB k q_1 240 (fun _ => 0))] H := hP
  replace hD : va_D A [(h0, .inr (6, (fX6 q_1 0 0 0 0 0))), (aB k q_1 240 (fun _ => 0))] := hD
  have hP9 := hP.sub (ws' := [(h0, .inr (6, (fX6 q_1 0 0 0 0 0))), (aB k q_1 240 (fun _ => 0))]) [0, 1] rfl
  have hD9 := hD.sub (ws' := [(h0, .inr (6, (fX6 q_1 0 0 0 0 0))), (aB k q_1 240 (fun _ => 0))]) [0, 1] (by decide) rfl
  refine W.widen (k := 1) (n := 240) (by decide) (by decide) ?_
  exact W.vret hx hb hr (fun t ht hW => ⟨⟨q_1, rfl, trivial, by rw [ht]; exact hP9, hD9⟩, hS.F ht⟩) hS.2.2 dX6_init_38

theorem dX5_init_0 : decode cX5_init 0 = .ok (.aload_n 0, 1) := by decide +kernel
theorem dX5_init_1 : decode cX5_init 1 = .ok (.invokespecial 3, 3) := by decide +kernel
theorem dX5_init_4 : decode cX5_init 4 = .ok (.aload_n 0, 1) := by decide +kernel
theorem dX5_init_5 : decode cX5_init 5 = .ok (.bipush 10, 2) := by decide +kernel
theorem dX5_init_7 : decode cX5_init 7 = .ok (.newarray .int, 2) := by decide +kernel
theorem dX5_init_9 : decode cX5_init 9 = .ok (.putfield 9, 3) := by decide +kernel
theorem dX5_init_12 : decode cX5_init 12 = .ok (.aload_n 0, 1) := by decide +kernel
theorem dX5_init_13 : decode cX5_init 13 = .ok (.bipush 24, 2) := by decide +kernel
theorem dX5_init_15 : decode cX5_init 15 = .ok (.newarray .int, 2) := by decide +kernel
theorem dX5_init_17 : decode cX5_init 17 = .ok (.putfield 15, 3) := by decide +kernel
theorem dX5_init_20 : decode cX5_init 20 = .ok (.aload_n 0, 1) := by decide +kernel
theorem dX5_init_21 : decode cX5_init 21 = .ok (.bipush 24, 2) := by decide +kernel
theorem dX5_init_23 : decode cX5_init 23 = .ok (.newarray .int, 2) := by decide +kernel
theorem dX5_init_25 : decode cX5_init 25 = .ok (.putfield 18, 3) := by decide +kernel
theorem dX5_init_28 : decode cX5_init 28 = .ok (.aload_n 0, 1) := by decide +kernel
theorem dX5_init_29 : decode cX5_init 29 = .ok (.iconst 4, 1) := by decide +kernel
theorem dX5_init_30 : decode cX5_init 30 = .ok (.newarray .int, 2) := by decide +kernel
theorem dX5_init_32 : decode cX5_init 32 = .ok (.putfield 21, 3) := by decide +kernel
theorem dX5_init_35 : decode cX5_init 35 = .ok (.return_, 1) := by decide +kernel
set_option maxHeartbeats 4000000 in
set_option maxRecDepth 100000 in
theorem x_Street_init (l : Launch) (D : va_G) (k : Nat → ClassId) (st : Nat → Nat) (lo : Nat) (h0 : Nat)  : CWv l D k st lo yX5_init cX5_init 1 none ({ frames := 1, cells := 4, slots := 62, locals := 12 }) 4 62 [.ref h0] [(h0, .inr (5, [.null, .null, .null, .null]))] (fun (_ : Nat × Nat × Nat × Nat) => True) (fun (u : Nat × Nat × Nat × Nat) => match u with | (q0, q1, q2, q3) => [(h0, .inr (5, (fX5 q0 q1 q2 q3))), (aI k q0 10 (vv 0 0 0 (fun _ => 0))), (aI k q1 24 (fun _ => 0)), (aI k q2 24 (fun _ => 0)), (aI k q3 4 (fun _ => 0))]) := by
  intro sz
  refine Met.ofW (cc := cX5_init) (maxL := 1) (ret := none) (by decide) rfl ?_
  intro p e s m args below meth c s₁ B hml hv
  obtain ⟨rfl, hsz, hlo, hP, hK, hDL, hZ⟩ := hv
  have hx := B.exec
  have hb := B.bytes
  have hr := B.returns
  have hts := WS_ts B.pre
  have hown : s.vm.findClass RX5 = some m.cls := findClass_of_methodNamed B.named
  have hlocks := B.notSynchronized
  have hin : meth.name = "<init>" := (name_of_methodNamed B.named B.method).1
  subst hsz
  have hD := hDL.self (sz := s.heap.size)
  have hAlo := A_lo hDL hlo
  generalize hAe : va_A [(h0, .inr (5, [.null, .null, .null, .null]))] s.heap.size = A at hD hAlo ⊢
  have hA : ∀ q : Nat, s.heap.size ≤ q → A q := fun q h => by rw [← hAe]; exact Or.inr h
  have hS : va_S A s.heap s.heap [] := va_S.rf
  have hl := lv_entry ([.ref h0]) (n := 1) (Nat.le_of_ble_eq_true rfl)
  rw [lg_entry_eq]
  generalize (lg_sl ([.ref h0]) ++ List.replicate (1 - (lg_sl ([.ref h0])).length) Slot.unset).toArray = ls at hl ⊢
  have hl : lv_has ls 1 [(0, .ref h0)] := hl
  refine lv_aload_n hx hb dX5_init_0 rfl (lv_at hl 0 rfl) ?_
  refine W.objInit hx hb hown (hts _ tw_145) (hts _ tw_101) (hts _ tw_102) rfl (by rw [hml]; exact hl.1) rfl dX5_init_1 (Nat.le_of_ble_eq_true rfl) (Nat.le_of_ble_eq_true rfl) ?_
  refine W.eq (g2 := F0 m 4 ls []) rfl ?_
  refine lv_aload_n hx hb dX5_init_4 rfl (lv_at hl 0 rfl) ?_
  refine lv_bipush (v := 10) hx hb dX5_init_5 (by decide) ?_
  refine nwa (atype := .int) (t0 := 1) (a0 := (10, .inl (fun _ => 0))) hx hb (hts _ tw_164) rfl rfl hK hP hD hS hA (fun _ => rfl) (by decide) (N' := 10) (by decide) (by decide) (Nat.le_of_ble_eq_true rfl) (Nat.le_of_ble_eq_true rfl) dX5_init_7 (fun q_1 H hP hD hS => ?_)
  refine W.widen (k := 1) (n := 10) (by decide) (by decide) ?_
  replace hP : va_P D classes [(h0, .inr (5, [.null, .null, .null, .null])), (aI k q_1 10 (fun _ => 0))] H := hP
  replace hD : va_D A [(h0, .inr (5, [.null, .null, .null, .null])), (aI k q_1 10 (fun _ => 0))] := hD
  refine va_putF (D := D) (ci := 5) (v := .ref q_1) (ty := (.array .int)) (C := RX5) (T := TX5) (N := 4) hx hb hts inX5 tyX5 tyX5_ok nmX5 hown hK hP hD hS 0 rfl rfl 0 (by decide) (hts _ tw_146) (fun _ h9 => h9) rfl hin rfl (by decide +kernel) rfl rfl (Nat.le_of_ble_eq_true rfl) dX5_init_9 (fun H locs hP hD hS => ?_)
  replace hP : va_P D classes [(h0, .inr (5, [.ref q_1, .null, .null, .null])), (aI k q_1 10 (fun _ => 0))] H := hP
  replace hD : va_D A [(h0, .inr (5, [.ref q_1, .null, .null, .null])), (aI k q_1 10 (fun _ => 0))] := hD
  refine lv_aload_n hx hb dX5_init_12 rfl (lv_at hl 0 rfl) ?_
  refine lv_bipush (v := 24) hx hb dX5_init_13 (by decide) ?_
  refine nwa (atype := .int) (t0 := 1) (a0 := (24, .inl (fun _ => 0))) hx hb (hts _ tw_164) rfl rfl hK hP hD hS hA (fun _ => rfl) (by decide) (N' := 24) (by decide) (by decide) (Nat.le_of_ble_eq_true rfl) (Nat.le_of_ble_eq_true rfl) dX5_init_15 (fun q_2 H hP hD hS => ?_)
  refine W.widen (k := 2) (n := 34) (by decide) (by decide) ?_
  replace hP : va_P D classes [(h0, .inr (5, [.ref q_1, .null, .null, .null])), (aI k q_1 10 (fun _ => 0)), (aI k q_2 24 (fun _ => 0))] H := hP
  replace hD : va_D A [(h0, .inr (5, [.ref q_1, .null, .null, .null])), (aI k q_1 10 (fun _ => 0)), (aI k q_2 24 (fun _ => 0))] := hD
  refine va_putF (D := D) (ci := 5) (v := .ref q_2) (ty := (.array .int)) (C := RX5) (T := TX5) (N := 4) hx hb hts inX5 tyX5 tyX5_ok nmX5 hown hK hP hD hS 0 rfl rfl 1 (by decide) (hts _ tw_150) (fun _ h9 => h9) rfl hin rfl (by decide +kernel) rfl rfl (Nat.le_of_ble_eq_true rfl) dX5_init_17 (fun H locs hP hD hS => ?_)
  replace hP : va_P D classes [(h0, .inr (5, [.ref q_1, .ref q_2, .null, .null])), (aI k q_1 10 (fun _ => 0)), (aI k q_2 24 (fun _ => 0))] H := hP
  replace hD : va_D A [(h0, .inr (5, [.ref q_1, .ref q_2, .null, .null])), (aI k q_1 10 (fun _ => 0)), (aI k q_2 24 (fun _ => 0))] := hD
  refine lv_aload_n hx hb dX5_init_20 rfl (lv_at hl 0 rfl) ?_
  refine lv_bipush (v := 24) hx hb dX5_init_21 (by decide) ?_
  refine nwa (atype := .int) (t0 := 1) (a0 := (24, .inl (fun _ => 0))) hx hb (hts _ tw_164) rfl rfl hK hP hD hS hA (fun _ => rfl) (by decide) (N' := 24) (by decide) (by decide) (Nat.le_of_ble_eq_true rfl) (Nat.le_of_ble_eq_true rfl) dX5_init_23 (fun q_3 H hP hD hS => ?_)
  refine W.widen (k := 3) (n := 58) (by decide) (by decide) ?_
  replace hP : va_P D classes [(h0, .inr (5, [.ref q_1, .ref q_2, .null, .null])), (aI k q_1 10 (fun _ => 0)), (aI k q_2 24 (fun _ => 0)), (aI k q_3 24 (fun _ => 0))] H := hP
  replace hD : va_D A [(h0, .inr (5, [.ref q_1, .ref q_2, .null, .null])), (aI k q_1 10 (fun _ => 0)), (aI k q_2 24 (fun _ => 0)), (aI k q_3 24 (fun _ => 0))] := hD
  refine va_putF (D := D) (ci := 5) (v := .ref q_3) (ty := (.array .int)) (C := RX5) (T := TX5) (N := 4) hx hb hts inX5 tyX5 tyX5_ok nmX5 hown hK hP hD hS 0 rfl rfl 2 (by decide) (hts _ tw_152) (fun _ h9 => h9) rfl hin rfl (by decide +kernel) rfl rfl (Nat.le_of_ble_eq_true rfl) dX5_init_25 (fun H locs hP hD hS => ?_)
  replace hP : va_P D classes [(h0, .inr (5, [.ref q_1, .ref q_2, .ref q_3, .null])), (aI k q_1 10 (fun _ => 0)), (aI k q_2 24 (fun _ => 0)), (aI k q_3 24 (fun _ => 0))] H := hP
  replace hD : va_D A [(h0, .inr (5, [.ref q_1, .ref q_2, .ref q_3, .null])), (aI k q_1 10 (fun _ => 0)), (aI k q_2 24 (fun _ => 0)), (aI k q_3 24 (fun _ => 0))] := hD
  refine lv_aload_n hx hb dX5_init_28 rfl (lv_at hl 0 rfl) ?_
  refine lv_iconst (v := 4) hx hb dX5_init_29 (by decide) ?_
  refine nwa (atype := .int) (t0 := 1) (a0 := (4, .inl (fun _ => 0))) hx hb (hts _ tw_164) rfl rfl hK hP hD hS hA (fun _ => rfl) (by decide) (N' := 4) (by decide) (by decide) (Nat.le_of_ble_eq_true rfl) (Nat.le_of_ble_eq_true rfl) dX5_init_30 (fun q_4 H hP hD hS => ?_)
  refine W.widen (k := 4) (n := 62) (by decide) (by decide) ?_
  replace hP : va_P D classes [(h0, .inr (5, [.ref q_1, .ref q_2, .ref q_3, .null])), (aI k q_1 10 (fun _ => 0)), (aI k q_2 24 (fun _ => 0)), (aI k q_3 24 (fun _ => 0)), (aI k q_4 4 (fun _ => 0))] H := hP
  replace hD : va_D A [(h0, .inr (5, [.ref q_1, .ref q_2, .ref q_3, .null])), (aI k q_1 10 (fun _ => 0)), (aI k q_2 24 (fun _ => 0)), (aI k q_3 24 (fun _ => 0)), (aI k q_4 4 (fun _ => 0))] := hD
  refine va_putF (D := D) (ci := 5) (v := .ref q_4) (ty := (.array .int)) (C := RX5) (T := TX5) (N := 4) hx hb hts inX5 tyX5 tyX5_ok nmX5 hown hK hP hD hS 0 rfl rfl 3 (by decide) (hts _ tw_154) (fun _ h9 => h9) rfl hin rfl (by decide +kernel) rfl rfl (Nat.le_of_ble_eq_true rfl) dX5_init_32 (fun H locs hP hD hS => ?_)
  replace hP : va_P D classes [(h0, .inr (5, (fX5 q_1 q_2 q_3 q_4))), (aI k q_1 10 (fun _ => 0)), (aI k q_2 24 (fun _ => 0)), (aI k q_3 24 (fun _ => 0)), (aI k q_4 4 (fun _ => 0))] H := hP
  replace hD : va_D A [(h0, .inr (5, (fX5 q_1 q_2 q_3 q_4))), (aI k q_1 10 (fun _ => 0)), (aI k q_2 24 (fun _ => 0)), (aI k q_3 24 (fun _ => 0)), (aI k q_4 4 (fun _ => 0))] := hD
  replace hP : va_P D classes [(h0, .inr (5, (fX5 q_1 q_2 q_3 q_4))), (aI k q_1 10 (vv 0 0 0 (fun _ => 0))), (aI k q_2 24 (fun _ => 0)), (aI k q_3 24 (fun _ => 0)), (aI k q_4 4 (fun _ => 0))] H := by rw [vv_0]; exact hP
  replace hD : va_D A [(h0, .inr (5, (fX5 q_1 q_2 q_3 q_4))), (aI k q_1 10 (vv 0 0 0 (fun _ => 0))), (aI k q_2 24 (fun _ => 0)), (aI k q_3 24 (fun _ => 0)), (aI k q_4 4 (fun _ => 0))] := by rw [vv_0]; exact hD
  have hP9 := hP.sub (ws' := [(h0, .inr (5, (fX5 q_1 q_2 q_3 q_4))), (aI k q_1 10 (vv 0 0 0 (fun _ => 0))), (aI k q_2 24 (fun _ => 0)), (aI k q_3 24 (fun _ => 0)), (aI k q_4 4 (fun _ => 0))]) [0, 1, 2, 3, 4] rfl
  have hD9 := hD.sub (ws' := [(h0, .inr (5, (fX5 q_1 q_2 q_3 q_4))), (aI k q_1 10 (vv 0 0 0 (fun _ => 0))), (aI k q_2 24 (fun _ => 0)), (aI k q_3 24 (fun _ => 0)), (aI k q_4 4 (fun _ => 0))]) [0, 1, 2, 3, 4] (by decide) rfl
  refine W.widen (k := 4) (n := 62) (by decide) (by decide) ?_
  exact W.vret hx hb hr (fun t ht hW => ⟨⟨(q_1, q_2, q_3, q_4), rfl, trivial, by rw [ht]; exact hP9, hD9⟩, hS.F ht⟩) hS.2.2 dX5_init_35

theorem dX3_init_0 : decode cX3_init 0 = .ok (.aload_n 0, 1) := by decide +kernel
theorem dX3_init_1 : decode cX3_init 1 = .ok (.invokespecial 3, 3) := by decide +kernel
theorem dX3_init_4 : decode cX3_init 4 = .ok (.aload_n 0, 1) := by decide +kernel
theorem dX3_init_5 : decode cX3_init 5 = .ok (.bipush 24, 2) := by decide +kernel
theorem dX3_init_7 : decode cX3_init 7 = .ok (.newarray .int, 2) := by decide +kernel
theorem dX3_init_9 : decode cX3_init 9 = .ok (.putfield 9, 3) := by decide +kernel
theorem dX3_init_12 : decode cX3_init 12 = .ok (.aload_n 0, 1) := by decide +kernel
theorem dX3_init_13 : decode cX3_init 13 = .ok (.bipush 24, 2) := by decide +kernel
theorem dX3_init_15 : decode cX3_init 15 = .ok (.newarray .int, 2) := by decide +kernel
theorem dX3_init_17 : decode cX3_init 17 = .ok (.putfield 15, 3) := by decide +kernel
theorem dX3_init_20 : decode cX3_init 20 = .ok (.aload_n 0, 1) := by decide +kernel
theorem dX3_init_21 : decode cX3_init 21 = .ok (.iconst 0, 1) := by decide +kernel
theorem dX3_init_22 : decode cX3_init 22 = .ok (.putfield 18, 3) := by decide +kernel
theorem dX3_init_25 : decode cX3_init 25 = .ok (.aload_n 0, 1) := by decide +kernel
theorem dX3_init_26 : decode cX3_init 26 = .ok (.iconst 0, 1) := by decide +kernel
theorem dX3_init_27 : decode cX3_init 27 = .ok (.putfield 22, 3) := by decide +kernel
theorem dX3_init_30 : decode cX3_init 30 = .ok (.aload_n 0, 1) := by decide +kernel
theorem dX3_init_31 : decode cX3_init 31 = .ok (.iconst 0, 1) := by decide +kernel
theorem dX3_init_32 : decode cX3_init 32 = .ok (.putfield 25, 3) := by decide +kernel
theorem dX3_init_35 : decode cX3_init 35 = .ok (.return_, 1) := by decide +kernel
set_option maxHeartbeats 4000000 in
set_option maxRecDepth 100000 in
theorem x_Rule_init (l : Launch) (D : va_G) (k : Nat → ClassId) (st : Nat → Nat) (lo : Nat) (h0 : Nat)  : CWv l D k st lo yX3_init cX3_init 1 none ({ frames := 1, cells := 2, slots := 48, locals := 12 }) 2 48 [.ref h0] [(h0, .inr (3, [.null, .null, .int 0, .int 0, .int 0]))] (fun (_ : Nat × Nat) => True) (fun (u : Nat × Nat) => match u with | (q0, q1) => [(h0, .inr (3, (fX3 q0 q1 0 0 0))), (aI k q0 24 (fun _ => 0)), (aI k q1 24 (fun _ => 0))]) := by
  intro sz
  refine Met.ofW (cc := cX3_init) (maxL := 1) (ret := none) (by decide) rfl ?_
  intro p e s m args below meth c s₁ B hml hv
  obtain ⟨rfl, hsz, hlo, hP, hK, hDL, hZ⟩ := hv
  have hx := B.exec
  have hb := B.bytes
  have hr := B.returns
  have hts := WS_ts B.pre
  have hown : s.vm.findClass RX3 = some m.cls := findClass_of_methodNamed B.named
  have hlocks := B.notSynchronized
  have hin : meth.name = "<init>" := (name_of_methodNamed B.named B.method).1
  subst hsz
  have hD := hDL.self (sz := s.heap.size)
  have hAlo := A_lo hDL hlo
  generalize hAe : va_A [(h0, .inr (3, [.null, .null, .int 0, .int 0, .int 0]))] s.heap.size = A at hD hAlo ⊢
  have hA : ∀ q : Nat, s.heap.size ≤ q → A q := fun q h => by rw [← hAe]; exact Or.inr h
  have hS : va_S A s.heap s.heap [] := va_S.rf
  have hl := lv_entry ([.ref h0]) (n := 1) (Nat.le_of_ble_eq_true rfl)
  rw [lg_entry_eq]
  generalize (lg_sl ([.ref h0]) ++ List.replicate (1 - (lg_sl ([.ref h0])).length) Slot.unset).toArray = ls at hl ⊢
  have hl : lv_has ls 1 [(0, .ref h0)] := hl
  refine lv_aload_n hx hb dX3_init_0 rfl (lv_at hl 0 rfl) ?_
  refine W.objInit hx hb hown (hts _ tw_288) (hts _ tw_101) (hts _ tw_102) rfl (by rw [hml]; exact hl.1) rfl dX3_init_1 (Nat.le_of_ble_eq_true rfl) (Nat.le_of_ble_eq_true rfl) ?_
  refine W.eq (g2 := F0 m 4 ls []) rfl ?_
  refine lv_aload_n hx hb dX3_init_4 rfl (lv_at hl 0 rfl) ?_
  refine lv_bipush (v := 24) hx hb dX3_init_5 (by decide) ?_
  refine nwa (atype := .int) (t0 := 1) (a0 := (24, .inl (fun _ => 0))) hx hb (hts _ tw_164) rfl rfl hK hP hD hS hA (fun _ => rfl) (by decide) (N' := 24) (by decide) (by decide) (Nat.le_of_ble_eq_true rfl) (Nat.le_of_ble_eq_true rfl) dX3_init_7 (fun q_1 H hP hD hS => ?_)
  refine W.widen (k := 1) (n := 24) (by decide) (by decide) ?_
  replace hP : va_P D classes [(h0, .inr (3, [.null, .null, .int 0, .int 0, .int 0])), (aI k q_1 24 (fun _ => 0))] H := hP
  replace hD : va_D A [(h0, .inr (3, [.null, .null, .int 0, .int 0, .int 0])), (aI k q_1 24 (fun _ => 0))] := hD
  refine va_putF (D := D) (ci := 3) (v := .ref q_1) (ty := (.array .int)) (C := RX3) (T := TX3) (N := 5) hx hb hts inX3 tyX3 tyX3_ok nmX3 hown hK hP hD hS 0 rfl rfl 0 (by decide) (hts _ tw_289) (fun _ h9 => h9) rfl hin rfl (by decide +kernel) rfl rfl (Nat.le_of_ble_eq_true rfl) dX3_init_9 (fun H locs hP hD hS => ?_)
  replace hP : va_P D classes [(h0, .inr (3, [.ref q_1, .null, .int 0, .int 0, .int 0])), (aI k q_1 24 (fun _ => 0))] H := hP
  replace hD : va_D A [(h0, .inr (3, [.ref q_1, .null, .int 0, .int 0, .int 0])), (aI k q_1 24 (fun _ => 0))] := hD
  refine lv_aload_n hx hb dX3_init_12 rfl (lv_at hl 0 rfl) ?_
  refine lv_bipush (v := 24) hx hb dX3_init_13 (by decide) ?_
  refine nwa (atype := .int) (t0 := 1) (a0 := (24, .inl (fun _ => 0))) hx hb (hts _ tw_164) rfl rfl hK hP hD hS hA (fun _ => rfl) (by decide) (N' := 24) (by decide) (by decide) (Nat.le_of_ble_eq_true rfl) (Nat.le_of_ble_eq_true rfl) dX3_init_15 (fun q_2 H hP hD hS => ?_)
  refine W.widen (k := 2) (n := 48) (by decide) (by decide) ?_
  replace hP : va_P D classes [(h0, .inr (3, [.ref q_1, .null, .int 0, .int 0, .int 0])), (aI k q_1 24 (fun _ => 0)), (aI k q_2 24 (fun _ => 0))] H := hP
  replace hD : va_D A [(h0, .inr (3, [.ref q_1, .null, .int 0, .int 0, .int 0])), (aI k q_1 24 (fun _ => 0)), (aI k q_2 24 (fun _ => 0))] := hD
  refine va_putF (D := D) (ci := 3) (v := .ref q_2) (ty := (.array .int)) (C := RX3) (T := TX3) (N := 5) hx hb hts inX3 tyX3 tyX3_ok nmX3 hown hK hP hD hS 0 rfl rfl 1 (by decide) (hts _ tw_290) (fun _ h9 => h9) rfl hin rfl (by decide +kernel) rfl rfl (Nat.le_of_ble_eq_true rfl) dX3_init_17 (fun H locs hP hD hS => ?_)
  replace hP : va_P D classes [(h0, .inr (3, (fX3 q_1 q_2 0 0 0))), (aI k q_1 24 (fun _ => 0)), (aI k q_2 24 (fun _ => 0))] H := hP
  replace hD : va_D A [(h0, .inr (3, (fX3 q_1 q_2 0 0 0))), (aI k q_1 24 (fun _ => 0)), (aI k q_2 24 (fun _ => 0))] := hD
  refine lv_aload_n hx hb dX3_init_20 rfl (lv_at hl 0 rfl) ?_
  refine lv_iconst (v := 0) hx hb dX3_init_21 (by decide) ?_
  refine va_put (D := D) (ci := 3) (v := .int 0) (ty := .int) (C := RX3) (T := TX3) (N := 5) hx hb hts inX3 tyX3 tyX3_ok nmX3 hown hK hP hD hS 0 rfl rfl 2 (by decide) (hts _ tw_291) (fun _ h9 => h9) rfl (by decide +kernel) rfl rfl (Nat.le_of_ble_eq_true rfl) dX3_init_22 (fun H locs hP hD hS => ?_)
  replace hP : va_P D classes [(h0, .inr (3, (fX3 q_1 q_2 0 0 0))), (aI k q_1 24 (fun _ => 0)), (aI k q_2 24 (fun _ => 0))] H := hP
  replace hD : va_D A [(h0, .inr (3, (fX3 q_1 q_2 0 0 0))), (aI k q_1 24 (fun _ => 0)), (aI k q_2 24 (fun _ => 0))] := hD
  refine lv_aload_n hx hb dX3_init_25 rfl (lv_at hl 0 rfl) ?_
  refine lv_iconst (v := 0) hx hb dX3_init_26 (by decide) ?_
  refine va_put (D := D) (ci := 3) (v := .int 0) (ty := .int) (C := RX3) (T := TX3) (N := 5) hx hb hts inX3 tyX3 tyX3_ok nmX3 hown hK hP hD hS 0 rfl rfl 3 (by decide) (hts _ tw_292) (fun _ h9 => h9) rfl (by decide +kernel) rfl rfl (Nat.le_of_ble_eq_true rfl) dX3_init_27 (fun H locs hP hD hS => ?_)
  replace hP : va_P D classes [(h0, .inr (3, (fX3 q_1 q_2 0 0 0))), (aI k q_1 24 (fun _ => 0)), (aI k q_2 24 (fun _ => 0))] H := hP
  replace hD : va_D A [(h0, .inr (3, (fX3 q_1 q_2 0 0 0))), (aI k q_1 24 (fun _ => 0)), (aI k q_2 24 (fun _ => 0))] := hD
  refine lv_aload_n hx hb dX3_init_30 rfl (lv_at hl 0 rfl) ?_
  refine lv_iconst (v := 0) hx hb dX3_init_31 (by decide) ?_
  refine va_put (D := D) (ci := 3) (v := .int 0) (ty := .int) (C := RX3) (T := TX3) (N := 5) hx hb hts inX3 tyX3 tyX3_ok nmX3 hown hK hP hD hS 0 rfl rfl 4 (by decide) (hts _ tw_293) (fun _ h9 => h9) rfl (by decide +kernel) rfl rfl (Nat.le_of_ble_eq_true rfl) dX3_init_32 (fun H locs hP hD hS => ?_)
  replace hP : va_P D classes [(h0, .inr (3, (fX3 q_1 q_2 0 0 0))), (aI k q_1 24 (fun _ => 0)), (aI k q_2 24 (fun _ => 0))] H := hP
  replace hD : va_D A [(h0, .inr (3, (fX3 q_1 q_2 0 0 0))), (aI k q_1 24 (fun _ => 0)), (aI k q_2 24 (fun _ => 0))] := hD
  have hP9 := hP.sub (ws' := [(h0, .inr (3, (fX3 q_1 q_2 0 0 0))), (aI k q_1 24 (fun _ => 0)), (aI k q_2 24 (fun _ => 0))]) [0, 1, 2] rfl
  have hD9 := hD.sub (ws' := [(h0, .inr (3, (fX3 q_1 q_2 0 0 0))), (aI k q_1 24 (fun _ => 0)), (aI k q_2 24 (fun _ => 0))]) [0, 1, 2] (by decide) rfl
  refine W.widen (k := 2) (n := 48) (by decide) (by decide) ?_
  exact W.vret hx hb hr (fun t ht hW => ⟨⟨(q_1, q_2), rfl, trivial, by rw [ht]; exact hP9, hD9⟩, hS.F ht⟩) hS.2.2 dX3_init_35

theorem dX4_init_0 : decode cX4_init 0 = .ok (.aload_n 0, 1) := by decide +kernel
theorem dX4_init_1 : decode cX4_init 1 = .ok (.invokespecial 3, 3) := by decide +kernel
theorem dX4_init_4 : decode cX4_init 4 = .ok (.aload_n 0, 1) := by decide +kernel
theorem dX4_init_5 : decode cX4_init 5 = .ok (.iconst 4, 1) := by decide +kernel
theorem dX4_init_6 : decode cX4_init 6 = .ok (.newarray .int, 2) := by decide +kernel
theorem dX4_init_8 : decode cX4_init 8 = .ok (.putfield 9, 3) := by decide +kernel
theorem dX4_init_11 : decode cX4_init 11 = .ok (.aload_n 0, 1) := by decide +kernel
theorem dX4_init_12 : decode cX4_init 12 = .ok (.iconst 4, 1) := by decide +kernel
theorem dX4_init_13 : decode cX4_init 13 = .ok (.newarray .int, 2) := by decide +kernel
theorem dX4_init_15 : decode cX4_init 15 = .ok (.putfield 15, 3) := by decide +kernel
theorem dX4_init_18 : decode cX4_init 18 = .ok (.aload_n 0, 1) := by decide +kernel
theorem dX4_init_19 : decode cX4_init 19 = .ok (.iconst 0, 1) := by decide +kernel
theorem dX4_init_20 : decode cX4_init 20 = .ok (.putfield 18, 3) := by decide +kernel
theorem dX4_init_23 : decode cX4_init 23 = .ok (.aload_n 0, 1) := by decide +kernel
theorem dX4_init_24 : decode cX4_init 24 = .ok (.iconst 0, 1) := by decide +kernel
theorem dX4_init_25 : decode cX4_init 25 = .ok (.putfield 22, 3) := by decide +kernel
theorem dX4_init_28 : decode cX4_init 28 = .ok (.aload_n 0, 1) := by decide +kernel
theorem dX4_init_29 : decode cX4_init 29 = .ok (.iconst 0, 1) := by decide +kernel
theorem dX4_init_30 : decode cX4_init 30 = .ok (.putfield 25, 3) := by decide +kernel
theorem dX4_init_33 : decode cX4_init 33 = .ok (.aload_n 0, 1) := by decide +kernel
theorem dX4_init_34 : decode cX4_init 34 = .ok (.iconst 0, 1) := by decide +kernel
theorem dX4_init_35 : decode cX4_init 35 = .ok (.putfield 28, 3) := by decide +kernel
theorem dX4_init_38 : decode cX4_init 38 = .ok (.return_, 1) := by decide +kernel
set_option maxHeartbeats 4000000 in
set_option maxRecDepth 100000 in
theorem x_Scene_init (l : Launch) (D : va_G) (k : Nat → ClassId) (st : Nat → Nat) (lo : Nat) (h0 : Nat)  : CWv l D k st lo yX4_init cX4_init 1 none ({ frames := 1, cells := 2, slots := 8, locals := 12 }) 2 8 [.ref h0] [(h0, .inr (4, [.null, .null, .int 0, .int 0, .int 0, .int 0]))] (fun (_ : Nat × Nat) => True) (fun (u : Nat × Nat) => match u with | (q0, q1) => [(h0, .inr (4, (fX4 q0 q1 0 0 0 0))), (aI k q0 4 (fun _ => 0)), (aI k q1 4 (fun _ => 0))]) := by
  intro sz
  refine Met.ofW (cc := cX4_init) (maxL := 1) (ret := none) (by decide) rfl ?_
  intro p e s m args below meth c s₁ B hml hv
  obtain ⟨rfl, hsz, hlo, hP, hK, hDL, hZ⟩ := hv
  have hx := B.exec
  have hb := B.bytes
  have hr := B.returns
  have hts := WS_ts B.pre
  have hown : s.vm.findClass RX4 = some m.cls := findClass_of_methodNamed B.named
  have hlocks := B.notSynchronized
  have hin : meth.name = "<init>" := (name_of_methodNamed B.named B.method).1
  subst hsz
  have hD := hDL.self (sz := s.heap.size)
  have hAlo := A_lo hDL hlo
  generalize hAe : va_A [(h0, .inr (4, [.null, .null, .int 0, .int 0, .int 0, .int 0]))] s.heap.size = A at hD hAlo ⊢
  have hA : ∀ q : Nat, s.heap.size ≤ q → A q := fun q h => by rw [← hAe]; exact Or.inr h
  have hS : va_S A s.heap s.heap [] := va_S.rf
  have hl := lv_entry ([.ref h0]) (n := 1) (Nat.le_of_ble_eq_true rfl)
  rw [lg_entry_eq]
  generalize (lg_sl ([.ref h0]) ++ List.replicate (1 - (lg_sl ([.ref h0])).length) Slot.unset).toArray = ls at hl ⊢
  have hl : lv_has ls 1 [(0, .ref h0)] := hl
  refine lv_aload_n hx hb dX4_init_0 rfl (lv_at hl 0 rfl) ?_
  refine W.objInit hx hb hown (hts _ tw_172) (hts _ tw_101) (hts _ tw_102) rfl (by rw [hml]; exact hl.1) rfl dX4_init_1 (Nat.le_of_ble_eq_true rfl) (Nat.le_of_ble_eq_true rfl) ?_
  refine W.eq (g2 := F0 m 4 ls []) rfl ?_
  refine lv_aload_n hx hb dX4_init_4 rfl (lv_at hl 0 rfl) ?_
  refine lv_iconst (v := 4) hx hb dX4_init_5 (by decide) ?_
  refine nwa (atype := .int) (t0 := 1) (a0 := (4, .inl (fun _ => 0))) hx hb (hts _ tw_164) rfl rfl hK hP hD hS hA (fun _ => rfl) (by decide) (N' := 4) (by decide) (by decide) (Nat.le_of_ble_eq_true rfl) (Nat.le_of_ble_eq_true rfl) dX4_init_6 (fun q_1 H hP hD hS => ?_)
  refine W.widen (k := 1) (n := 4) (by decide) (by decide) ?_
  replace hP : va_P D classes [(h0, .inr (4, [.null, .null, .int 0, .int 0, .int 0, .int 0])), (aI k q_1 4 (fun _ => 0))] H := hP
  replace hD : va_D A [(h0, .inr (4, [.null, .null, .int 0, .int 0, .int 0, .int 0])), (aI k q_1 4 (fun _ => 0))] := hD
  refine va_putF (D := D) (ci := 4) (v := .ref q_1) (ty := (.array .int)) (C := RX4) (T := TX4) (N := 6) hx hb hts inX4 tyX4 tyX4_ok nmX4 hown hK hP hD hS 0 rfl rfl 0 (by decide) (hts _ tw_173) (fun _ h9 => h9) rfl hin rfl (by decide +kernel) rfl rfl (Nat.le_of_ble_eq_true rfl) dX4_init_8 (fun H locs hP hD hS => ?_)
  replace hP : va_P D classes [(h0, .inr (4, [.ref q_1, .null, .int 0, .int 0, .int 0, .int 0])), (aI k q_1 4 (fun _ => 0))] H := hP
  replace hD : va_D A [(h0, .inr (4, [.ref q_1, .null, .int 0, .int 0, .int 0, .int 0])), (aI k q_1 4 (fun _ => 0))] := hD
  refine lv_aload_n hx hb dX4_init_11 rfl (lv_at hl 0 rfl) ?_
  refine lv_iconst (v := 4) hx hb dX4_init_12 (by decide) ?_
  refine nwa (atype := .int) (t0 := 1) (a0 := (4, .inl (fun _ => 0))) hx hb (hts _ tw_164) rfl rfl hK hP hD hS hA (fun _ => rfl) (by decide) (N' := 4) (by decide) (by decide) (Nat.le_of_ble_eq_true rfl) (Nat.le_of_ble_eq_true rfl) dX4_init_13 (fun q_2 H hP hD hS => ?_)
  refine W.widen (k := 2) (n := 8) (by decide) (by decide) ?_
  replace hP : va_P D classes [(h0, .inr (4, [.ref q_1, .null, .int 0, .int 0, .int 0, .int 0])), (aI k q_1 4 (fun _ => 0)), (aI k q_2 4 (fun _ => 0))] H := hP
  replace hD : va_D A [(h0, .inr (4, [.ref q_1, .null, .int 0, .int 0, .int 0, .int 0])), (aI k q_1 4 (fun _ => 0)), (aI k q_2 4 (fun _ => 0))] := hD
  refine va_putF (D := D) (ci := 4) (v := .ref q_2) (ty := (.array .int)) (C := RX4) (T := TX4) (N := 6) hx hb hts inX4 tyX4 tyX4_ok nmX4 hown hK hP hD hS 0 rfl rfl 1 (by decide) (hts _ tw_175) (fun _ h9 => h9) rfl hin rfl (by decide +kernel) rfl rfl (Nat.le_of_ble_eq_true rfl) dX4_init_15 (fun H locs hP hD hS => ?_)
  replace hP : va_P D classes [(h0, .inr (4, (fX4 q_1 q_2 0 0 0 0))), (aI k q_1 4 (fun _ => 0)), (aI k q_2 4 (fun _ => 0))] H := hP
  replace hD : va_D A [(h0, .inr (4, (fX4 q_1 q_2 0 0 0 0))), (aI k q_1 4 (fun _ => 0)), (aI k q_2 4 (fun _ => 0))] := hD
  refine lv_aload_n hx hb dX4_init_18 rfl (lv_at hl 0 rfl) ?_
  refine lv_iconst (v := 0) hx hb dX4_init_19 (by decide) ?_
  refine va_put (D := D) (ci := 4) (v := .int 0) (ty := .int) (C := RX4) (T := TX4) (N := 6) hx hb hts inX4 tyX4 tyX4_ok nmX4 hown hK hP hD hS 0 rfl rfl 2 (by decide) (hts _ tw_178) (fun _ h9 => h9) rfl (by decide +kernel) rfl rfl (Nat.le_of_ble_eq_true rfl) dX4_init_20 (fun H locs hP hD hS => ?_)
  replace hP : va_P D classes [(h0, .inr (4, (fX4 q_1 q_2 0 0 0 0))), (aI k q_1 4 (fun _ => 0)), (aI k q_2 4 (fun _ => 0))] H := hP
  replace hD : va_D A [(h0, .inr (4, (fX4 q_1 q_2 0 0 0 0))), (aI k q_1 4 (fun _ => 0)), (aI k q_2 4 (fun _ => 0))] := hD
  refine lv_aload_n hx hb dX4_init_23 rfl (lv_at hl 0 rfl) ?_
  refine lv_iconst (v := 0) hx hb dX4_init_24 (by decide) ?_
  refine va_put (D := D) (ci := 4) (v := .int 0) (ty := .int) (C := RX4) (T := TX4) (N := 6) hx hb hts inX4 tyX4 tyX4_ok nmX4 hown hK hP hD hS 0 rfl rfl 3 (by decide) (hts _ tw_181) (fun _ h9 => h9) rfl (by decide +kernel) rfl rfl (Nat.le_of_ble_eq_true rfl) dX4_init_25 (fun H locs hP hD hS => ?_)
  replace hP : va_P D classes [(h0, .inr (4, (fX4 q_1 q_2 0 0 0 0))), (aI k q_1 4 (fun _ => 0)), (aI k q_2 4 (fun _ => 0))] H := hP
  replace hD : va_D A [(h0, .inr (4, (fX4 q_1 q_2 0 0 0 0))), (aI k q_1 4 (fun _ => 0)), (aI k q_2 4 (fun _ => 0))] := hD
  refine lv_aload_n hx hb dX4_init_28 rfl (lv_at hl 0 rfl) ?_
  refine lv_iconst (v := 0) hx hb dX4_init_29 (by decide) ?_
  refine va_put (D := D) (ci := 4) (v := .int 0) (ty := .int) (C := RX4) (T := TX4) (N := 6) hx hb hts inX4 tyX4 tyX4_ok nmX4 hown hK hP hD hS 0 rfl rfl 4 (by decide) (hts _ tw_185) (fun _ h9 => h9) rfl (by decide +kernel) rfl rfl (Nat.le_of_ble_eq_true rfl) dX4_init_30 (fun H locs hP hD hS => ?_)
  replace hP : va_P D classes [(h0, .inr (4, (fX4 q_1 q_2 0 0 0 0))), (aI k q_1 4 (fun _ => 0)), (aI k q_2 4 (fun _ => 0))] H := hP
  replace hD : va_D A [(h0, .inr (4, (fX4 q_1 q_2 0 0 0 0))), (aI k q_1 4 (fun _ => 0)), (aI k q_2 4 (fun _ => 0))] := hD
  refine lv_aload_n hx hb dX4_init_33 rfl (lv_at hl 0 rfl) ?_
  refine lv_iconst (v := 0) hx hb dX4_init_34 (by decide) ?_
  refine va_put (D := D) (ci := 4) (v := .int 0) (ty := .int) (C := RX4) (T := TX4) (N := 6) hx hb hts inX4 tyX4 tyX4_ok nmX4 hown hK hP hD hS 0 rfl rfl 5 (by decide) (hts _ tw_188) (fun _ h9 => h9) rfl (by decide +kernel) rfl rfl (Nat.le_of_ble_eq_true rfl) dX4_init_35 (fun H locs hP hD hS => ?_)
  replace hP : va_P D classes [(h0, .inr (4, (fX4 q_1 q_2 0 0 0 0))), (aI k q_1 4 (fun _ => 0)), (aI k q_2 4 (fun _ => 0))] H := hP
  replace hD : va_D A [(h0, .inr (4, (fX4 q_1 q_2 0 0 0 0))), (aI k q_1 4 (fun _ => 0)), (aI k q_2 4 (fun _ => 0))] := hD
  have hP9 := hP.sub (ws' := [(h0, .inr (4, (fX4 q_1 q_2 0 0 0 0))), (aI k q_1 4 (fun _ => 0)), (aI k q_2 4 (fun _ => 0))]) [0, 1, 2] rfl
  have hD9 := hD.sub (ws' := [(h0, .inr (4, (fX4 q_1 q_2 0 0 0 0))), (aI k q_1 4 (fun _ => 0)), (aI k q_2 4 (fun _ => 0))]) [0, 1, 2] (by decide) rfl
  refine W.widen (k := 2) (n := 8) (by decide) (by decide) ?_
  exact W.vret hx hb hr (fun t ht hW => ⟨⟨(q_1, q_2), rfl, trivial, by rw [ht]; exact hP9, hD9⟩, hS.F ht⟩) hS.2.2 dX4_init_38

theorem dX2_init_0 : decode cX2_init 0 = .ok (.aload_n 0, 1) := by decide +kernel
theorem dX2_init_1 : decode cX2_init 1 = .ok (.invokespecial 3, 3) := by decide +kernel
theorem dX2_init_4 : decode cX2_init 4 = .ok (.aload_n 0, 1) := by decide +kernel
theorem dX2_init_5 : decode cX2_init 5 = .ok (.bipush 25, 2) := by decide +kernel
theorem dX2_init_7 : decode cX2_init 7 = .ok (.newarray .int, 2) := by decide +kernel
theorem dX2_init_9 : decode cX2_init 9 = .ok (.putfield 9, 3) := by decide +kernel
theorem dX2_init_12 : decode cX2_init 12 = .ok (.aload_n 0, 1) := by decide +kernel
theorem dX2_init_13 : decode cX2_init 13 = .ok (.bipush 25, 2) := by decide +kernel
theorem dX2_init_15 : decode cX2_init 15 = .ok (.newarray .int, 2) := by decide +kernel
theorem dX2_init_17 : decode cX2_init 17 = .ok (.putfield 15, 3) := by decide +kernel
theorem dX2_init_20 : decode cX2_init 20 = .ok (.aload_n 0, 1) := by decide +kernel
theorem dX2_init_21 : decode cX2_init 21 = .ok (.bipush 25, 2) := by decide +kernel
theorem dX2_init_23 : decode cX2_init 23 = .ok (.newarray .int, 2) := by decide +kernel
theorem dX2_init_25 : decode cX2_init 25 = .ok (.putfield 18, 3) := by decide +kernel
theorem dX2_init_28 : decode cX2_init 28 = .ok (.aload_n 0, 1) := by decide +kernel
theorem dX2_init_29 : decode cX2_init 29 = .ok (.iconst 0, 1) := by decide +kernel
theorem dX2_init_30 : decode cX2_init 30 = .ok (.putfield 21, 3) := by decide +kernel
theorem dX2_init_33 : decode cX2_init 33 = .ok (.aload_n 0, 1) := by decide +kernel
theorem dX2_init_34 : decode cX2_init 34 = .ok (.iconst 0, 1) := by decide +kernel
theorem dX2_init_35 : decode cX2_init 35 = .ok (.putfield 25, 3) := by decide +kernel
theorem dX2_init_38 : decode cX2_init 38 = .ok (.return_, 1) := by decide +kernel
set_option maxHeartbeats 4000000 in
set_option maxRecDepth 100000 in
theorem x_Reckoner_init (l : Launch) (D : va_G) (k : Nat → ClassId) (st : Nat → Nat) (lo : Nat) (h0 : Nat)  : CWv l D k st lo yX2_init cX2_init 1 none ({ frames := 1, cells := 3, slots := 75, locals := 12 }) 3 75 [.ref h0] [(h0, .inr (2, [.null, .null, .null, .int 0, .int 0]))] (fun (_ : Nat × Nat × Nat) => True) (fun (u : Nat × Nat × Nat) => match u with | (q0, q1, q2) => [(h0, .inr (2, (fX2 q0 q1 q2 0 0))), (aI k q0 25 (fun _ => 0)), (aI k q1 25 (fun _ => 0)), (aI k q2 25 (fun _ => 0))]) := by
  intro sz
  refine Met.ofW (cc := cX2_init) (maxL := 1) (ret := none) (by decide) rfl ?_
  intro p e s m args below meth c s₁ B hml hv
  obtain ⟨rfl, hsz, hlo, hP, hK, hDL, hZ⟩ := hv
  have hx := B.exec
  have hb := B.bytes
  have hr := B.returns
  have hts := WS_ts B.pre
  have hown : s.vm.findClass RX2 = some m.cls := findClass_of_methodNamed B.named
  have hlocks := B.notSynchronized
  have hin : meth.name = "<init>" := (name_of_methodNamed B.named B.method).1
  subst hsz
  have hD := hDL.self (sz := s.heap.size)
  have hAlo := A_lo hDL hlo
  generalize hAe : va_A [(h0, .inr (2, [.null, .null, .null, .int 0, .int 0]))] s.heap.size = A at hD hAlo ⊢
  have hA : ∀ q : Nat, s.heap.size ≤ q → A q := fun q h => by rw [← hAe]; exact Or.inr h
  have hS : va_S A s.heap s.heap [] := va_S.rf
  have hl := lv_entry ([.ref h0]) (n := 1) (Nat.le_of_ble_eq_true rfl)
  rw [lg_entry_eq]
  generalize (lg_sl ([.ref h0]) ++ List.replicate (1 - (lg_sl ([.ref h0])).length) Slot.unset).toArray = ls at hl ⊢
  have hl : lv_has ls 1 [(0, .ref h0)] := hl
  refine lv_aload_n hx hb dX2_init_0 rfl (lv_at hl 0 rfl) ?_
  refine W.objInit hx hb hown (hts _ tw_209) (hts _ tw_101) (hts _ tw_102) rfl (by rw [hml]; exact hl.1) rfl dX2_init_1 (Nat.le_of_ble_eq_true rfl) (Nat.le_of_ble_eq_true rfl) ?_
  refine W.eq (g2 := F0 m 4 ls []) rfl ?_
  refine lv_aload_n hx hb dX2_init_4 rfl (lv_at hl 0 rfl) ?_
  refine lv_bipush (v := 25) hx hb dX2_init_5 (by decide) ?_
  refine nwa (atype := .int) (t0 := 1) (a0 := (25, .inl (fun _ => 0))) hx hb (hts _ tw_164) rfl rfl hK hP hD hS hA (fun _ => rfl) (by decide) (N' := 25) (by decide) (by decide) (Nat.le_of_ble_eq_true rfl) (Nat.le_of_ble_eq_true rfl) dX2_init_7 (fun q_1 H hP hD hS => ?_)
  refine W.widen (k := 1) (n := 25) (by decide) (by decide) ?_
  replace hP : va_P D classes [(h0, .inr (2, [.null, .null, .null, .int 0, .int 0])), (aI k q_1 25 (fun _ => 0))] H := hP
  replace hD : va_D A [(h0, .inr (2, [.null, .null, .null, .int 0, .int 0])), (aI k q_1 25 (fun _ => 0))] := hD
  refine va_putF (D := D) (ci := 2) (v := .ref q_1) (ty := (.array .int)) (C := RX2) (T := TX2) (N := 5) hx hb hts inX2 tyX2 tyX2_ok nmX2 hown hK hP hD hS 0 rfl rfl 0 (by decide) (hts _ tw_210) (fun _ h9 => h9) rfl hin rfl (by decide +kernel) rfl rfl (Nat.le_of_ble_eq_true rfl) dX2_init_9 (fun H locs hP hD hS => ?_)
  replace hP : va_P D classes [(h0, .inr (2, [.ref q_1, .null, .null, .int 0, .int 0])), (aI k q_1 25 (fun _ => 0))] H := hP
  replace hD : va_D A [(h0, .inr (2, [.ref q_1, .null, .null, .int 0, .int 0])), (aI k q_1 25 (fun _ => 0))] := hD
  refine lv_aload_n hx hb dX2_init_12 rfl (lv_at hl 0 rfl) ?_
  refine lv_bipush (v := 25) hx hb dX2_init_13 (by decide) ?_
  refine nwa (atype := .int) (t0 := 1) (a0 := (25, .inl (fun _ => 0))) hx hb (hts _ tw_164) rfl rfl hK hP hD hS hA (fun _ => rfl) (by decide) (N' := 25) (by decide) (by decide) (Nat.le_of_ble_eq_true rfl) (Nat.le_of_ble_eq_true rfl) dX2_init_15 (fun q_2 H hP hD hS => ?_)
  refine W.widen (k := 2) (n := 50) (by decide) (by decide) ?_
  replace hP : va_P D classes [(h0, .inr (2, [.ref q_1, .null, .null, .int 0, .int 0])), (aI k q_1 25 (fun _ => 0)), (aI k q_2 25 (fun _ => 0))] H := hP
  replace hD : va_D A [(h0, .inr (2, [.ref q_1, .null, .null, .int 0, .int 0])), (aI k q_1 25 (fun _ => 0)), (aI k q_2 25 (fun _ => 0))] := hD
  refine va_putF (D := D) (ci := 2) (v := .ref q_2) (ty := (.array .int)) (C := RX2) (T := TX2) (N := 5) hx hb hts inX2 tyX2 tyX2_ok nmX2 hown hK hP hD hS 0 rfl rfl 1 (by decide) (hts _ tw_211) (fun _ h9 => h9) rfl hin rfl (by decide +kernel) rfl rfl (Nat.le_of_ble_eq_true rfl) dX2_init_17 (fun H locs hP hD hS => ?_)
  replace hP : va_P D classes [(h0, .inr (2, [.ref q_1, .ref q_2, .null, .int 0, .int 0])), (aI k q_1 25 (fun _ => 0)), (aI k q_2 25 (fun _ => 0))] H := hP
  replace hD : va_D A [(h0, .inr (2, [.ref q_1, .ref q_2, .null, .int 0, .int 0])), (aI k q_1 25 (fun _ => 0)), (aI k q_2 25 (fun _ => 0))] := hD
  refine lv_aload_n hx hb dX2_init_20 rfl (lv_at hl 0 rfl) ?_
  refine lv_bipush (v := 25) hx hb dX2_init_21 (by decide) ?_
  refine nwa (atype := .int) (t0 := 1) (a0 := (25, .inl (fun _ => 0))) hx hb (hts _ tw_164) rfl rfl hK hP hD hS hA (fun _ => rfl) (by decide) (N' := 25) (by decide) (by decide) (Nat.le_of_ble_eq_true rfl) (Nat.le_of_ble_eq_true rfl) dX2_init_23 (fun q_3 H hP hD hS => ?_)
  refine W.widen (k := 3) (n := 75) (by decide) (by decide) ?_
  replace hP : va_P D classes [(h0, .inr (2, [.ref q_1, .ref q_2, .null, .int 0, .int 0])), (aI k q_1 25 (fun _ => 0)), (aI k q_2 25 (fun _ => 0)), (aI k q_3 25 (fun _ => 0))] H := hP
  replace hD : va_D A [(h0, .inr (2, [.ref q_1, .ref q_2, .null, .int 0, .int 0])), (aI k q_1 25 (fun _ => 0)), (aI k q_2 25 (fun _ => 0)), (aI k q_3 25 (fun _ => 0))] := hD
  refine va_putF (D := D) (ci := 2) (v := .ref q_3) (ty := (.array .int)) (C := RX2) (T := TX2) (N := 5) hx hb hts inX2 tyX2 tyX2_ok nmX2 hown hK hP hD hS 0 rfl rfl 2 (by decide) (hts _ tw_212) (fun _ h9 => h9) rfl hin rfl (by decide +kernel) rfl rfl (Nat.le_of_ble_eq_true rfl) dX2_init_25 (fun H locs hP hD hS => ?_)
  replace hP : va_P D classes [(h0, .inr (2, (fX2 q_1 q_2 q_3 0 0))), (aI k q_1 25 (fun _ => 0)), (aI k q_2 25 (fun _ => 0)), (aI k q_3 25 (fun _ => 0))] H := hP
  replace hD : va_D A [(h0, .inr (2, (fX2 q_1 q_2 q_3 0 0))), (aI k q_1 25 (fun _ => 0)), (aI k q_2 25 (fun _ => 0)), (aI k q_3 25 (fun _ => 0))] := hD
  refine lv_aload_n hx hb dX2_init_28 rfl (lv_at hl 0 rfl) ?_
  refine lv_iconst (v := 0) hx hb dX2_init_29 (by decide) ?_
  refine va_put (D := D) (ci := 2) (v := .int 0) (ty := .int) (C := RX2) (T := TX2) (N := 5) hx hb hts inX2 tyX2 tyX2_ok nmX2 hown hK hP hD hS 0 rfl rfl 3 (by decide) (hts _ tw_213) (fun _ h9 => h9) rfl (by decide +kernel) rfl rfl (Nat.le_of_ble_eq_true rfl) dX2_init_30 (fun H locs hP hD hS => ?_)
  replace hP : va_P D classes [(h0, .inr (2, (fX2 q_1 q_2 q_3 0 0))), (aI k q_1 25 (fun _ => 0)), (aI k q_2 25 (fun _ => 0)), (aI k q_3 25 (fun _ => 0))] H := hP
  replace hD : va_D A [(h0, .inr (2, (fX2 q_1 q_2 q_3 0 0))), (aI k q_1 25 (fun _ => 0)), (aI k q_2 25 (fun _ => 0)), (aI k q_3 25 (fun _ => 0))] := hD
  refine lv_aload_n hx hb dX2_init_33 rfl (lv_at hl 0 rfl) ?_
  refine lv_iconst (v := 0) hx hb dX2_init_34 (by decide) ?_
  refine va_put (D := D) (ci := 2) (v := .int 0) (ty := .int) (C := RX2) (T := TX2) (N := 5) hx hb hts inX2 tyX2 tyX2_ok nmX2 hown hK hP hD hS 0 rfl rfl 4 (by decide) (hts _ tw_215) (fun _ h9 => h9) rfl (by decide +kernel) rfl rfl (Nat.le_of_ble_eq_true rfl) dX2_init_35 (fun H locs hP hD hS => ?_)
  replace hP : va_P D classes [(h0, .inr (2, (fX2 q_1 q_2 q_3 0 0))), (aI k q_1 25 (fun _ => 0)), (aI k q_2 25 (fun _ => 0)), (aI k q_3 25 (fun _ => 0))] H := hP
  replace hD : va_D A [(h0, .inr (2, (fX2 q_1 q_2 q_3 0 0))), (aI k q_1 25 (fun _ => 0)), (aI k q_2 25 (fun _ => 0)), (aI k q_3 25 (fun _ => 0))] := hD
  have hP9 := hP.sub (ws' := [(h0, .inr (2, (fX2 q_1 q_2 q_3 0 0))), (aI k q_1 25 (fun _ => 0)), (aI k q_2 25 (fun _ => 0)), (aI k q_3 25 (fun _ => 0))]) [0, 1, 2, 3] rfl
  have hD9 := hD.sub (ws' := [(h0, .inr (2, (fX2 q_1 q_2 q_3 0 0))), (aI k q_1 25 (fun _ => 0)), (aI k q_2 25 (fun _ => 0)), (aI k q_3 25 (fun _ => 0))]) [0, 1, 2, 3] (by decide) rfl
  refine W.widen (k := 3) (n := 75) (by decide) (by decide) ?_
  exact W.vret hx hb hr (fun t ht hW => ⟨⟨(q_1, q_2, q_3), rfl, trivial, by rw [ht]; exact hP9, hD9⟩, hS.F ht⟩) hS.2.2 dX2_init_38

theorem dX1_init_0 : decode cX1_init 0 = .ok (.aload_n 0, 1) := by decide +kernel
theorem dX1_init_1 : decode cX1_init 1 = .ok (.invokespecial 3, 3) := by decide +kernel
theorem dX1_init_4 : decode cX1_init 4 = .ok (.aload_n 0, 1) := by decide +kernel
theorem dX1_init_5 : decode cX1_init 5 = .ok (.iconst 4, 1) := by decide +kernel
theorem dX1_init_6 : decode cX1_init 6 = .ok (.newarray .int, 2) := by decide +kernel
theorem dX1_init_8 : decode cX1_init 8 = .ok (.putfield 9, 3) := by decide +kernel
theorem dX1_init_11 : decode cX1_init 11 = .ok (.aload_n 0, 1) := by decide +kernel
theorem dX1_init_12 : decode cX1_init 12 = .ok (.bipush 100, 2) := by decide +kernel
theorem dX1_init_14 : decode cX1_init 14 = .ok (.newarray .int, 2) := by decide +kernel
theorem dX1_init_16 : decode cX1_init 16 = .ok (.putfield 15, 3) := by decide +kernel
theorem dX1_init_19 : decode cX1_init 19 = .ok (.aload_n 0, 1) := by decide +kernel
theorem dX1_init_20 : decode cX1_init 20 = .ok (.bipush 16, 2) := by decide +kernel
theorem dX1_init_22 : decode cX1_init 22 = .ok (.newarray .int, 2) := by decide +kernel
theorem dX1_init_24 : decode cX1_init 24 = .ok (.putfield 18, 3) := by decide +kernel
theorem dX1_init_27 : decode cX1_init 27 = .ok (.aload_n 0, 1) := by decide +kernel
theorem dX1_init_28 : decode cX1_init 28 = .ok (.iconst 0, 1) := by decide +kernel
theorem dX1_init_29 : decode cX1_init 29 = .ok (.putfield 21, 3) := by decide +kernel
theorem dX1_init_32 : decode cX1_init 32 = .ok (.aload_n 0, 1) := by decide +kernel
theorem dX1_init_33 : decode cX1_init 33 = .ok (.iconst 0, 1) := by decide +kernel
theorem dX1_init_34 : decode cX1_init 34 = .ok (.putfield 25, 3) := by decide +kernel
theorem dX1_init_37 : decode cX1_init 37 = .ok (.aload_n 0, 1) := by decide +kernel
theorem dX1_init_38 : decode cX1_init 38 = .ok (.iconst 0, 1) := by decide +kernel
theorem dX1_init_39 : decode cX1_init 39 = .ok (.putfield 28, 3) := by decide +kernel
theorem dX1_init_42 : decode cX1_init 42 = .ok (.aload_n 0, 1) := by decide +kernel
theorem dX1_init_43 : decode cX1_init 43 = .ok (.iconst 0, 1) := by decide +kernel
theorem dX1_init_44 : decode cX1_init 44 = .ok (.putfield 31, 3) := by decide +kernel
theorem dX1_init_47 : decode cX1_init 47 = .ok (.aload_n 0, 1) := by decide +kernel
theorem dX1_init_48 : decode cX1_init 48 = .ok (.aload_n 1, 1) := by decide +kernel
theorem dX1_init_49 : decode cX1_init 49 = .ok (.putfield 34, 3) := by decide +kernel
theorem dX1_init_52 : decode cX1_init 52 = .ok (.return_, 1) := by decide +kernel
set_option maxHeartbeats 4000000 in
set_option maxRecDepth 100000 in
theorem x_Parking_init (l : Launch) (D : va_G) (k : Nat → ClassId) (st : Nat → Nat) (lo : Nat) (h0 : Nat) (s0 : Nat)  : CWv l D k st lo yX1_init cX1_init 2 none ({ frames := 1, cells := 3, slots := 120, locals := 12 }) 3 120 [.ref h0, .ref s0] [(h0, .inr (1, [.null, .null, .null, .null, .int 0, .int 0, .int 0, .int 0]))] (fun (_ : Nat × Nat × Nat) => True) (fun (u : Nat × Nat × Nat) => match u with | (q0, q1, q2) => [(h0, .inr (1, (fX1 s0 q0 q1 q2 0 0 0 0))), (aI k q0 4 (fun _ => 0)), (aI k q1 100 (fun _ => 0)), (aI k q2 16 (fun _ => 0))]) := by
  intro sz
  refine Met.ofW (cc := cX1_init) (maxL := 2) (ret := none) (by decide) rfl ?_
  intro p e s m args below meth c s₁ B hml hv
  obtain ⟨rfl, hsz, hlo, hP, hK, hDL, hZ⟩ := hv
  have hx := B.exec
  have hb := B.bytes
  have hr := B.returns
  have hts := WS_ts B.pre
  have hown : s.vm.findClass RX1 = some m.cls := findClass_of_methodNamed B.named
  have hlocks := B.notSynchronized
  have hin : meth.name = "<init>" := (name_of_methodNamed B.named B.method).1
  subst hsz
  have hD := hDL.self (sz := s.heap.size)
  have hAlo := A_lo hDL hlo
  generalize hAe : va_A [(h0, .inr (1, [.null, .null, .null, .null, .int 0, .int 0, .int 0, .int 0]))] s.heap.size = A at hD hAlo ⊢
  have hA : ∀ q : Nat, s.heap.size ≤ q → A q := fun q h => by rw [← hAe]; exact Or.inr h
  have hS : va_S A s.heap s.heap [] := va_S.rf
  have hl := lv_entry ([.ref h0, .ref s0]) (n := 2) (Nat.le_of_ble_eq_true rfl)
  rw [lg_entry_eq]
  generalize (lg_sl ([.ref h0, .ref s0]) ++ List.replicate (2 - (lg_sl ([.ref h0, .ref s0])).length) Slot.unset).toArray = ls at hl ⊢
  have hl : lv_has ls 2 [(0, .ref h0), (1, .ref s0)] := hl
  refine lv_aload_n hx hb dX1_init_0 rfl (lv_at hl 0 rfl) ?_
  refine W.objInit hx hb hown (hts _ tw_234) (hts _ tw_101) (hts _ tw_102) rfl (by rw [hml]; exact hl.1) rfl dX1_init_1 (Nat.le_of_ble_eq_true rfl) (Nat.le_of_ble_eq_true rfl) ?_
  refine W.eq (g2 := F0 m 4 ls []) rfl ?_
  refine lv_aload_n hx hb dX1_init_4 rfl (lv_at hl 0 rfl) ?_
  refine lv_iconst (v := 4) hx hb dX1_init_5 (by decide) ?_
  refine nwa (atype := .int) (t0 := 1) (a0 := (4, .inl (fun _ => 0))) hx hb (hts _ tw_164) rfl rfl hK hP hD hS hA (fun _ => rfl) (by decide) (N' := 4) (by decide) (by decide) (Nat.le_of_ble_eq_true rfl) (Nat.le_of_ble_eq_true rfl) dX1_init_6 (fun q_1 H hP hD hS => ?_)
  refine W.widen (k := 1) (n := 4) (by decide) (by decide) ?_
  replace hP : va_P D classes [(h0, .inr (1, [.null, .null, .null, .null, .int 0, .int 0, .int 0, .int 0])), (aI k q_1 4 (fun _ => 0))] H := hP
  replace hD : va_D A [(h0, .inr (1, [.null, .null, .null, .null, .int 0, .int 0, .int 0, .int 0])), (aI k q_1 4 (fun _ => 0))] := hD
  refine va_putF (D := D) (ci := 1) (v := .ref q_1) (ty := (.array .int)) (C := RX1) (T := TX1) (N := 8) hx hb hts inX1 tyX1 tyX1_ok nmX1 hown hK hP hD hS 0 rfl rfl 1 (by decide) (hts _ tw_236) (fun _ h9 => h9) rfl hin rfl (by decide +kernel) rfl rfl (Nat.le_of_ble_eq_true rfl) dX1_init_8 (fun H locs hP hD hS => ?_)
  replace hP : va_P D classes [(h0, .inr (1, [.null, .ref q_1, .null, .null, .int 0, .int 0, .int 0, .int 0])), (aI k q_1 4 (fun _ => 0))] H := hP
  replace hD : va_D A [(h0, .inr (1, [.null, .ref q_1, .null, .null, .int 0, .int 0, .int 0, .int 0])), (aI k q_1 4 (fun _ => 0))] := hD
  refine lv_aload_n hx hb dX1_init_11 rfl (lv_at hl 0 rfl) ?_
  refine lv_bipush (v := 100) hx hb dX1_init_12 (by decide) ?_
  refine nwa (atype := .int) (t0 := 1) (a0 := (100, .inl (fun _ => 0))) hx hb (hts _ tw_164) rfl rfl hK hP hD hS hA (fun _ => rfl) (by decide) (N' := 100) (by decide) (by decide) (Nat.le_of_ble_eq_true rfl) (Nat.le_of_ble_eq_true rfl) dX1_init_14 (fun q_2 H hP hD hS => ?_)
  refine W.widen (k := 2) (n := 104) (by decide) (by decide) ?_
  replace hP : va_P D classes [(h0, .inr (1, [.null, .ref q_1, .null, .null, .int 0, .int 0, .int 0, .int 0])), (aI k q_1 4 (fun _ => 0)), (aI k q_2 100 (fun _ => 0))] H := hP
  replace hD : va_D A [(h0, .inr (1, [.null, .ref q_1, .null, .null, .int 0, .int 0, .int 0, .int 0])), (aI k q_1 4 (fun _ => 0)), (aI k q_2 100 (fun _ => 0))] := hD
  refine va_putF (D := D) (ci := 1) (v := .ref q_2) (ty := (.array .int)) (C := RX1) (T := TX1) (N := 8) hx hb hts inX1 tyX1 tyX1_ok nmX1 hown hK hP hD hS 0 rfl rfl 2 (by decide) (hts _ tw_238) (fun _ h9 => h9) rfl hin rfl (by decide +kernel) rfl rfl (Nat.le_of_ble_eq_true rfl) dX1_init_16 (fun H locs hP hD hS => ?_)
  replace hP : va_P D classes [(h0, .inr (1, [.null, .ref q_1, .ref q_2, .null, .int 0, .int 0, .int 0, .int 0])), (aI k q_1 4 (fun _ => 0)), (aI k q_2 100 (fun _ => 0))] H := hP
  replace hD : va_D A [(h0, .inr (1, [.null, .ref q_1, .ref q_2, .null, .int 0, .int 0, .int 0, .int 0])), (aI k q_1 4 (fun _ => 0)), (aI k q_2 100 (fun _ => 0))] := hD
  refine lv_aload_n hx hb dX1_init_19 rfl (lv_at hl 0 rfl) ?_
  refine lv_bipush (v := 16) hx hb dX1_init_20 (by decide) ?_
  refine nwa (atype := .int) (t0 := 1) (a0 := (16, .inl (fun _ => 0))) hx hb (hts _ tw_164) rfl rfl hK hP hD hS hA (fun _ => rfl) (by decide) (N' := 16) (by decide) (by decide) (Nat.le_of_ble_eq_true rfl) (Nat.le_of_ble_eq_true rfl) dX1_init_22 (fun q_3 H hP hD hS => ?_)
  refine W.widen (k := 3) (n := 120) (by decide) (by decide) ?_
  replace hP : va_P D classes [(h0, .inr (1, [.null, .ref q_1, .ref q_2, .null, .int 0, .int 0, .int 0, .int 0])), (aI k q_1 4 (fun _ => 0)), (aI k q_2 100 (fun _ => 0)), (aI k q_3 16 (fun _ => 0))] H := hP
  replace hD : va_D A [(h0, .inr (1, [.null, .ref q_1, .ref q_2, .null, .int 0, .int 0, .int 0, .int 0])), (aI k q_1 4 (fun _ => 0)), (aI k q_2 100 (fun _ => 0)), (aI k q_3 16 (fun _ => 0))] := hD
  refine va_putF (D := D) (ci := 1) (v := .ref q_3) (ty := (.array .int)) (C := RX1) (T := TX1) (N := 8) hx hb hts inX1 tyX1 tyX1_ok nmX1 hown hK hP hD hS 0 rfl rfl 3 (by decide) (hts _ tw_239) (fun _ h9 => h9) rfl hin rfl (by decide +kernel) rfl rfl (Nat.le_of_ble_eq_true rfl) dX1_init_24 (fun H locs hP hD hS => ?_)
  replace hP : va_P D classes [(h0, .inr (1, [.null, .ref q_1, .ref q_2, .ref q_3, .int 0, .int 0, .int 0, .int 0])), (aI k q_1 4 (fun _ => 0)), (aI k q_2 100 (fun _ => 0)), (aI k q_3 16 (fun _ => 0))] H := hP
  replace hD : va_D A [(h0, .inr (1, [.null, .ref q_1, .ref q_2, .ref q_3, .int 0, .int 0, .int 0, .int 0])), (aI k q_1 4 (fun _ => 0)), (aI k q_2 100 (fun _ => 0)), (aI k q_3 16 (fun _ => 0))] := hD
  refine lv_aload_n hx hb dX1_init_27 rfl (lv_at hl 0 rfl) ?_
  refine lv_iconst (v := 0) hx hb dX1_init_28 (by decide) ?_
  refine va_put (D := D) (ci := 1) (v := .int 0) (ty := .int) (C := RX1) (T := TX1) (N := 8) hx hb hts inX1 tyX1 tyX1_ok nmX1 hown hK hP hD hS 0 rfl rfl 4 (by decide) (hts _ tw_240) (fun _ h9 => h9) rfl (by decide +kernel) rfl rfl (Nat.le_of_ble_eq_true rfl) dX1_init_29 (fun H locs hP hD hS => ?_)
  replace hP : va_P D classes [(h0, .inr (1, [.null, .ref q_1, .ref q_2, .ref q_3, .int 0, .int 0, .int 0, .int 0])), (aI k q_1 4 (fun _ => 0)), (aI k q_2 100 (fun _ => 0)), (aI k q_3 16 (fun _ => 0))] H := hP
  replace hD : va_D A [(h0, .inr (1, [.null, .ref q_1, .ref q_2, .ref q_3, .int 0, .int 0, .int 0, .int 0])), (aI k q_1 4 (fun _ => 0)), (aI k q_2 100 (fun _ => 0)), (aI k q_3 16 (fun _ => 0))] := hD
  refine lv_aload_n hx hb dX1_init_32 rfl (lv_at hl 0 rfl) ?_
  refine lv_iconst (v := 0) hx hb dX1_init_33 (by decide) ?_
  refine va_put (D := D) (ci := 1) (v := .int 0) (ty := .int) (C := RX1) (T := TX1) (N := 8) hx hb hts inX1 tyX1 tyX1_ok nmX1 hown hK hP hD hS 0 rfl rfl 5 (by decide) (hts _ tw_241) (fun _ h9 => h9) rfl (by decide +kernel) rfl rfl (Nat.le_of_ble_eq_true rfl) dX1_init_34 (fun H locs hP hD hS => ?_)
  replace hP : va_P D classes [(h0, .inr (1, [.null, .ref q_1, .ref q_2, .ref q_3, .int 0, .int 0, .int 0, .int 0])), (aI k q_1 4 (fun _ => 0)), (aI k q_2 100 (fun _ => 0)), (aI k q_3 16 (fun _ => 0))] H := hP
  replace hD : va_D A [(h0, .inr (1, [.null, .ref q_1, .ref q_2, .ref q_3, .int 0, .int 0, .int 0, .int 0])), (aI k q_1 4 (fun _ => 0)), (aI k q_2 100 (fun _ => 0)), (aI k q_3 16 (fun _ => 0))] := hD
  refine lv_aload_n hx hb dX1_init_37 rfl (lv_at hl 0 rfl) ?_
  refine lv_iconst (v := 0) hx hb dX1_init_38 (by decide) ?_
  refine va_put (D := D) (ci := 1) (v := .int 0) (ty := .int) (C := RX1) (T := TX1) (N := 8) hx hb hts inX1 tyX1 tyX1_ok nmX1 hown hK hP hD hS 0 rfl rfl 6 (by decide) (hts _ tw_242) (fun _ h9 => h9) rfl (by decide +kernel) rfl rfl (Nat.le_of_ble_eq_true rfl) dX1_init_39 (fun H locs hP hD hS => ?_)
  replace hP : va_P D classes [(h0, .inr (1, [.null, .ref q_1, .ref q_2, .ref q_3, .int 0, .int 0, .int 0, .int 0])), (aI k q_1 4 (fun _ => 0)), (aI k q_2 100 (fun _ => 0)), (aI k q_3 16 (fun _ => 0))] H := hP
  replace hD : va_D A [(h0, .inr (1, [.null, .ref q_1, .ref q_2, .ref q_3, .int 0, .int 0, .int 0, .int 0])), (aI k q_1 4 (fun _ => 0)), (aI k q_2 100 (fun _ => 0)), (aI k q_3 16 (fun _ => 0))] := hD
  refine lv_aload_n hx hb dX1_init_42 rfl (lv_at hl 0 rfl) ?_
  refine lv_iconst (v := 0) hx hb dX1_init_43 (by decide) ?_
  refine va_put (D := D) (ci := 1) (v := .int 0) (ty := .int) (C := RX1) (T := TX1) (N := 8) hx hb hts inX1 tyX1 tyX1_ok nmX1 hown hK hP hD hS 0 rfl rfl 7 (by decide) (hts _ tw_243) (fun _ h9 => h9) rfl (by decide +kernel) rfl rfl (Nat.le_of_ble_eq_true rfl) dX1_init_44 (fun H locs hP hD hS => ?_)
  replace hP : va_P D classes [(h0, .inr (1, [.null, .ref q_1, .ref q_2, .ref q_3, .int 0, .int 0, .int 0, .int 0])), (aI k q_1 4 (fun _ => 0)), (aI k q_2 100 (fun _ => 0)), (aI k q_3 16 (fun _ => 0))] H := hP
  replace hD : va_D A [(h0, .inr (1, [.null, .ref q_1, .ref q_2, .ref q_3, .int 0, .int 0, .int 0, .int 0])), (aI k q_1 4 (fun _ => 0)), (aI k q_2 100 (fun _ => 0)), (aI k q_3 16 (fun _ => 0))] := hD
  refine lv_aload_n hx hb dX1_init_47 rfl (lv_at hl 0 rfl) ?_
  refine lv_aload_n hx hb dX1_init_48 rfl (lv_at hl 1 rfl) ?_
  refine va_putF (D := D) (ci := 1) (v := .ref s0) (ty := (.object "LastPlace$Scene")) (C := RX1) (T := TX1) (N := 8) hx hb hts inX1 tyX1 tyX1_ok nmX1 hown hK hP hD hS 0 rfl rfl 0 (by decide) (hts _ tw_235) (fun _ h9 => h9) rfl hin rfl (by decide +kernel) rfl rfl (Nat.le_of_ble_eq_true rfl) dX1_init_49 (fun H locs hP hD hS => ?_)
  replace hP : va_P D classes [(h0, .inr (1, (fX1 s0 q_1 q_2 q_3 0 0 0 0))), (aI k q_1 4 (fun _ => 0)), (aI k q_2 100 (fun _ => 0)), (aI k q_3 16 (fun _ => 0))] H := hP
  replace hD : va_D A [(h0, .inr (1, (fX1 s0 q_1 q_2 q_3 0 0 0 0))), (aI k q_1 4 (fun _ => 0)), (aI k q_2 100 (fun _ => 0)), (aI k q_3 16 (fun _ => 0))] := hD
  have hP9 := hP.sub (ws' := [(h0, .inr (1, (fX1 s0 q_1 q_2 q_3 0 0 0 0))), (aI k q_1 4 (fun _ => 0)), (aI k q_2 100 (fun _ => 0)), (aI k q_3 16 (fun _ => 0))]) [0, 1, 2, 3] rfl
  have hD9 := hD.sub (ws' := [(h0, .inr (1, (fX1 s0 q_1 q_2 q_3 0 0 0 0))), (aI k q_1 4 (fun _ => 0)), (aI k q_2 100 (fun _ => 0)), (aI k q_3 16 (fun _ => 0))]) [0, 1, 2, 3] (by decide) rfl
  refine W.widen (k := 3) (n := 120) (by decide) (by decide) ?_
  exact W.vret hx hb hr (fun t ht hW => ⟨⟨(q_1, q_2, q_3), rfl, trivial, by rw [ht]; exact hP9, hD9⟩, hS.F ht⟩) hS.2.2 dX1_init_52

theorem dX0_init_0 : decode cX0_init 0 = .ok (.aload_n 0, 1) := by decide +kernel
theorem dX0_init_1 : decode cX0_init 1 = .ok (.invokespecial 3, 3) := by decide +kernel
theorem dX0_init_4 : decode cX0_init 4 = .ok (.aload_n 0, 1) := by decide +kernel
theorem dX0_init_5 : decode cX0_init 5 = .ok (.sipush 768, 3) := by decide +kernel
theorem dX0_init_8 : decode cX0_init 8 = .ok (.newarray .int, 2) := by decide +kernel
theorem dX0_init_10 : decode cX0_init 10 = .ok (.putfield 9, 3) := by decide +kernel
theorem dX0_init_13 : decode cX0_init 13 = .ok (.aload_n 0, 1) := by decide +kernel
theorem dX0_init_14 : decode cX0_init 14 = .ok (.iconst 4, 1) := by decide +kernel
theorem dX0_init_15 : decode cX0_init 15 = .ok (.newarray .int, 2) := by decide +kernel
theorem dX0_init_17 : decode cX0_init 17 = .ok (.putfield 15, 3) := by decide +kernel
theorem dX0_init_20 : decode cX0_init 20 = .ok (.aload_n 0, 1) := by decide +kernel
theorem dX0_init_21 : decode cX0_init 21 = .ok (.iconst 4, 1) := by decide +kernel
theorem dX0_init_22 : decode cX0_init 22 = .ok (.newarray .int, 2) := by decide +kernel
theorem dX0_init_24 : decode cX0_init 24 = .ok (.putfield 18, 3) := by decide +kernel
theorem dX0_init_27 : decode cX0_init 27 = .ok (.aload_n 0, 1) := by decide +kernel
theorem dX0_init_28 : decode cX0_init 28 = .ok (.bipush 8, 2) := by decide +kernel
theorem dX0_init_30 : decode cX0_init 30 = .ok (.newarray .int, 2) := by decide +kernel
theorem dX0_init_32 : decode cX0_init 32 = .ok (.putfield 21, 3) := by decide +kernel
theorem dX0_init_35 : decode cX0_init 35 = .ok (.aload_n 0, 1) := by decide +kernel
theorem dX0_init_36 : decode cX0_init 36 = .ok (.aload_n 1, 1) := by decide +kernel
theorem dX0_init_37 : decode cX0_init 37 = .ok (.putfield 24, 3) := by decide +kernel
theorem dX0_init_40 : decode cX0_init 40 = .ok (.return_, 1) := by decide +kernel
set_option maxHeartbeats 4000000 in
set_option maxRecDepth 100000 in
theorem x_BestWay_init (l : Launch) (D : va_G) (k : Nat → ClassId) (st : Nat → Nat) (lo : Nat) (h0 : Nat) (s0 : Nat)  : CWv l D k st lo yX0_init cX0_init 2 none ({ frames := 1, cells := 4, slots := 784, locals := 12 }) 4 784 [.ref h0, .ref s0] [(h0, .inr (0, [.null, .null, .null, .null, .null]))] (fun (_ : Nat × Nat × Nat × Nat) => True) (fun (u : Nat × Nat × Nat × Nat) => match u with | (q0, q1, q2, q3) => [(h0, .inr (0, (fX0 s0 q0 q1 q2 q3))), (aI k q0 768 (fun _ => 0)), (aI k q1 4 (fun _ => 0)), (aI k q2 4 (fun _ => 0)), (aI k q3 8 (fun _ => 0))]) := by
  intro sz
  refine Met.ofW (cc := cX0_init) (maxL := 2) (ret := none) (by decide) rfl ?_
  intro p e s m args below meth c s₁ B hml hv
  obtain ⟨rfl, hsz, hlo, hP, hK, hDL, hZ⟩ := hv
  have hx := B.exec
  have hb := B.bytes
  have hr := B.returns
  have hts := WS_ts B.pre
  have hown : s.vm.findClass RX0 = some m.cls := findClass_of_methodNamed B.named
  have hlocks := B.notSynchronized
  have hin : meth.name = "<init>" := (name_of_methodNamed B.named B.method).1
  subst hsz
  have hD := hDL.self (sz := s.heap.size)
  have hAlo := A_lo hDL hlo
  generalize hAe : va_A [(h0, .inr (0, [.null, .null, .null, .null, .null]))] s.heap.size = A at hD hAlo ⊢
  have hA : ∀ q : Nat, s.heap.size ≤ q → A q := fun q h => by rw [← hAe]; exact Or.inr h
  have hS : va_S A s.heap s.heap [] := va_S.rf
  have hl := lv_entry ([.ref h0, .ref s0]) (n := 2) (Nat.le_of_ble_eq_true rfl)
  rw [lg_entry_eq]
  generalize (lg_sl ([.ref h0, .ref s0]) ++ List.replicate (2 - (lg_sl ([.ref h0, .ref s0])).length) Slot.unset).toArray = ls at hl ⊢
  have hl : lv_has ls 2 [(0, .ref h0), (1, .ref s0)] := hl
  refine lv_aload_n hx hb dX0_init_0 rfl (lv_at hl 0 rfl) ?_
  refine W.objInit hx hb hown (hts _ tw_265) (hts _ tw_101) (hts _ tw_102) rfl (by rw [hml]; exact hl.1) rfl dX0_init_1 (Nat.le_of_ble_eq_true rfl) (Nat.le_of_ble_eq_true rfl) ?_
  refine W.eq (g2 := F0 m 4 ls []) rfl ?_
  refine lv_aload_n hx hb dX0_init_4 rfl (lv_at hl 0 rfl) ?_
  refine lv_sipush (v := 768) hx hb dX0_init_5 (by decide) ?_
  refine nwa (atype := .int) (t0 := 1) (a0 := (768, .inl (fun _ => 0))) hx hb (hts _ tw_164) rfl rfl hK hP hD hS hA (fun _ => rfl) (by decide) (N' := 768) (by decide) (by decide) (Nat.le_of_ble_eq_true rfl) (Nat.le_of_ble_eq_true rfl) dX0_init_8 (fun q_1 H hP hD hS => ?_)
  refine W.widen (k := 1) (n := 768) (by decide) (by decide) ?_
  replace hP : va_P D classes [(h0, .inr (0, [.null, .null, .null, .null, .null])), (aI k q_1 768 (fun _ => 0))] H := hP
  replace hD : va_D A [(h0, .inr (0, [.null, .null, .null, .null, .null])), (aI k q_1 768 (fun _ => 0))] := hD
  refine va_putF (D := D) (ci := 0) (v := .ref q_1) (ty := (.array .int)) (C := RX0) (T := TX0) (N := 5) hx hb hts inX0 tyX0 tyX0_ok nmX0 hown hK hP hD hS 0 rfl rfl 1 (by decide) (hts _ tw_267) (fun _ h9 => h9) rfl hin rfl (by decide +kernel) rfl rfl (Nat.le_of_ble_eq_true rfl) dX0_init_10 (fun H locs hP hD hS => ?_)
  replace hP : va_P D classes [(h0, .inr (0, [.null, .ref q_1, .null, .null, .null])), (aI k q_1 768 (fun _ => 0))] H := hP
  replace hD : va_D A [(h0, .inr (0, [.null, .ref q_1, .null, .null, .null])), (aI k q_1 768 (fun _ => 0))] := hD
  refine lv_aload_n hx hb dX0_init_13 rfl (lv_at hl 0 rfl) ?_
  refine lv_iconst (v := 4) hx hb dX0_init_14 (by decide) ?_
  refine nwa (atype := .int) (t0 := 1) (a0 := (4, .inl (fun _ => 0))) hx hb (hts _ tw_164) rfl rfl hK hP hD hS hA (fun _ => rfl) (by decide) (N' := 4) (by decide) (by decide) (Nat.le_of_ble_eq_true rfl) (Nat.le_of_ble_eq_true rfl) dX0_init_15 (fun q_2 H hP hD hS => ?_)
  refine W.widen (k := 2) (n := 772) (by decide) (by decide) ?_
  replace hP : va_P D classes [(h0, .inr (0, [.null, .ref q_1, .null, .null, .null])), (aI k q_1 768 (fun _ => 0)), (aI k q_2 4 (fun _ => 0))] H := hP
  replace hD : va_D A [(h0, .inr (0, [.null, .ref q_1, .null, .null, .null])), (aI k q_1 768 (fun _ => 0)), (aI k q_2 4 (fun _ => 0))] := hD
  refine va_putF (D := D) (ci := 0) (v := .ref q_2) (ty := (.array .int)) (C := RX0) (T := TX0) (N := 5) hx hb hts inX0 tyX0 tyX0_ok nmX0 hown hK hP hD hS 0 rfl rfl 2 (by decide) (hts _ tw_268) (fun _ h9 => h9) rfl hin rfl (by decide +kernel) rfl rfl (Nat.le_of_ble_eq_true rfl) dX0_init_17 (fun H locs hP hD hS => ?_)
  replace hP : va_P D classes [(h0, .inr (0, [.null, .ref q_1, .ref q_2, .null, .null])), (aI k q_1 768 (fun _ => 0)), (aI k q_2 4 (fun _ => 0))] H := hP
  replace hD : va_D A [(h0, .inr (0, [.null, .ref q_1, .ref q_2, .null, .null])), (aI k q_1 768 (fun _ => 0)), (aI k q_2 4 (fun _ => 0))] := hD
  refine lv_aload_n hx hb dX0_init_20 rfl (lv_at hl 0 rfl) ?_
  refine lv_iconst (v := 4) hx hb dX0_init_21 (by decide) ?_
  refine nwa (atype := .int) (t0 := 1) (a0 := (4, .inl (fun _ => 0))) hx hb (hts _ tw_164) rfl rfl hK hP hD hS hA (fun _ => rfl) (by decide) (N' := 4) (by decide) (by decide) (Nat.le_of_ble_eq_true rfl) (Nat.le_of_ble_eq_true rfl) dX0_init_22 (fun q_3 H hP hD hS => ?_)
  refine W.widen (k := 3) (n := 776) (by decide) (by decide) ?_
  replace hP : va_P D classes [(h0, .inr (0, [.null, .ref q_1, .ref q_2, .null, .null])), (aI k q_1 768 (fun _ => 0)), (aI k q_2 4 (fun _ => 0)), (aI k q_3 4 (fun _ => 0))] H := hP
  replace hD : va_D A [(h0, .inr (0, [.null, .ref q_1, .ref q_2, .null, .null])), (aI k q_1 768 (fun _ => 0)), (aI k q_2 4 (fun _ => 0)), (aI k q_3 4 (fun _ => 0))] := hD
  refine va_putF (D := D) (ci := 0) (v := .ref q_3) (ty := (.array .int)) (C := RX0) (T := TX0) (N := 5) hx hb hts inX0 tyX0 tyX0_ok nmX0 hown hK hP hD hS 0 rfl rfl 3 (by decide) (hts _ tw_270) (fun _ h9 => h9) rfl hin rfl (by decide +kernel) rfl rfl (Nat.le_of_ble_eq_true rfl) dX0_init_24 (fun H locs hP hD hS => ?_)
  replace hP : va_P D classes [(h0, .inr (0, [.null, .ref q_1, .ref q_2, .ref q_3, .null])), (aI k q_1 768 (fun _ => 0)), (aI k q_2 4 (fun _ => 0)), (aI k q_3 4 (fun _ => 0))] H := hP
  replace hD : va_D A [(h0, .inr (0, [.null, .ref q_1, .ref q_2, .ref q_3, .null])), (aI k q_1 768 (fun _ => 0)), (aI k q_2 4 (fun _ => 0)), (aI k q_3 4 (fun _ => 0))] := hD
  refine lv_aload_n hx hb dX0_init_27 rfl (lv_at hl 0 rfl) ?_
  refine lv_bipush (v := 8) hx hb dX0_init_28 (by decide) ?_
  refine nwa (atype := .int) (t0 := 1) (a0 := (8, .inl (fun _ => 0))) hx hb (hts _ tw_164) rfl rfl hK hP hD hS hA (fun _ => rfl) (by decide) (N' := 8) (by decide) (by decide) (Nat.le_of_ble_eq_true rfl) (Nat.le_of_ble_eq_true rfl) dX0_init_30 (fun q_4 H hP hD hS => ?_)
  refine W.widen (k := 4) (n := 784) (by decide) (by decide) ?_
  replace hP : va_P D classes [(h0, .inr (0, [.null, .ref q_1, .ref q_2, .ref q_3, .null])), (aI k q_1 768 (fun _ => 0)), (aI k q_2 4 (fun _ => 0)), (aI k q_3 4 (fun _ => 0)), (aI k q_4 8 (fun _ => 0))] H := hP
  replace hD : va_D A [(h0, .inr (0, [.null, .ref q_1, .ref q_2, .ref q_3, .null])), (aI k q_1 768 (fun _ => 0)), (aI k q_2 4 (fun _ => 0)), (aI k q_3 4 (fun _ => 0)), (aI k q_4 8 (fun _ => 0))] := hD
  refine va_putF (D := D) (ci := 0) (v := .ref q_4) (ty := (.array .int)) (C := RX0) (T := TX0) (N := 5) hx hb hts inX0 tyX0 tyX0_ok nmX0 hown hK hP hD hS 0 rfl rfl 4 (by decide) (hts _ tw_272) (fun _ h9 => h9) rfl hin rfl (by decide +kernel) rfl rfl (Nat.le_of_ble_eq_true rfl) dX0_init_32 (fun H locs hP hD hS => ?_)
  replace hP : va_P D classes [(h0, .inr (0, [.null, .ref q_1, .ref q_2, .ref q_3, .ref q_4])), (aI k q_1 768 (fun _ => 0)), (aI k q_2 4 (fun _ => 0)), (aI k q_3 4 (fun _ => 0)), (aI k q_4 8 (fun _ => 0))] H := hP
  replace hD : va_D A [(h0, .inr (0, [.null, .ref q_1, .ref q_2, .ref q_3, .ref q_4])), (aI k q_1 768 (fun _ => 0)), (aI k q_2 4 (fun _ => 0)), (aI k q_3 4 (fun _ => 0)), (aI k q_4 8 (fun _ => 0))] := hD
  refine lv_aload_n hx hb dX0_init_35 rfl (lv_at hl 0 rfl) ?_
  refine lv_aload_n hx hb dX0_init_36 rfl (lv_at hl 1 rfl) ?_
  refine va_putF (D := D) (ci := 0) (v := .ref s0) (ty := (.object "LastPlace$Street")) (C := RX0) (T := TX0) (N := 5) hx hb hts inX0 tyX0 tyX0_ok nmX0 hown hK hP hD hS 0 rfl rfl 0 (by decide) (hts _ tw_266) (fun _ h9 => h9) rfl hin rfl (by decide +kernel) rfl rfl (Nat.le_of_ble_eq_true rfl) dX0_init_37 (fun H locs hP hD hS => ?_)
  replace hP : va_P D classes [(h0, .inr (0, (fX0 s0 q_1 q_2 q_3 q_4))), (aI k q_1 768 (fun _ => 0)), (aI k q_2 4 (fun _ => 0)), (aI k q_3 4 (fun _ => 0)), (aI k q_4 8 (fun _ => 0))] H := hP
  replace hD : va_D A [(h0, .inr (0, (fX0 s0 q_1 q_2 q_3 q_4))), (aI k q_1 768 (fun _ => 0)), (aI k q_2 4 (fun _ => 0)), (aI k q_3 4 (fun _ => 0)), (aI k q_4 8 (fun _ => 0))] := hD
  have hP9 := hP.sub (ws' := [(h0, .inr (0, (fX0 s0 q_1 q_2 q_3 q_4))), (aI k q_1 768 (fun _ => 0)), (aI k q_2 4 (fun _ => 0)), (aI k q_3 4 (fun _ => 0)), (aI k q_4 8 (fun _ => 0))]) [0, 1, 2, 3, 4] rfl
  have hD9 := hD.sub (ws' := [(h0, .inr (0, (fX0 s0 q_1 q_2 q_3 q_4))), (aI k q_1 768 (fun _ => 0)), (aI k q_2 4 (fun _ => 0)), (aI k q_3 4 (fun _ => 0)), (aI k q_4 8 (fun _ => 0))]) [0, 1, 2, 3, 4] (by decide) rfl
  refine W.widen (k := 4) (n := 784) (by decide) (by decide) ?_
  exact W.vret hx hb hr (fun t ht hW => ⟨⟨(q_1, q_2, q_3, q_4), rfl, trivial, by rw [ht]; exact hP9, hD9⟩, hS.F ht⟩) hS.2.2 dX0_init_40


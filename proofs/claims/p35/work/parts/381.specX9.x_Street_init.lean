theorem dX5_init_0 : decode cX5_init 0 = .ok (.aload_n 0, 1) := by decide +kernel
theorem dX5_init_1 : decode cX5_init 1 = .ok (.invokespecial 3, 3) := by decide +kernel
theorem dX5_init_4 : decode cX5_init 4 = .ok (.aload_n 0, 1) := by decide +kernel
theorem dX5_init_5 : decode cX5_init 5 = .ok (.bipush 10, 2) := by decide +kernel
theorem dX5_init_7 : decode cX5_init 7 = .ok (.newarray .int, 2) := by decide +kernel
theorem dX5_init_9 : decode cX5_init 9 = .ok (.putfield 9, 3) := by decide +kernel
theorem dX5_init_12 : decode cX5_init 12 = .ok (.aload_n 0, 1) := by decide +kernel
theorem dX5_init_13 : decode cX5_init 13 = .ok (.bipush 24, 2) := by decide +kernel
theorem dX5_init_15 : decode cX5_init 15 = .ok (.newarray .int, 2) := by decide +kernel
theorem dX5_init_17 : decode cX5_init 17 = .ok (.putfield 15, 3) := by decide +kernel
theorem dX5_init_20 : decode cX5_init 20 = .ok (.aload_n 0, 1) := by decide +kernel
theorem dX5_init_21 : decode cX5_init 21 = .ok (.bipush 24, 2) := by decide +kernel
theorem dX5_init_23 : decode cX5_init 23 = .ok (.newarray .int, 2) := by decide +kernel
theorem dX5_init_25 : decode cX5_init 25 = .ok (.putfield 18, 3) := by decide +kernel
theorem dX5_init_28 : decode cX5_init 28 = .ok (.aload_n 0, 1) := by decide +kernel
theorem dX5_init_29 : decode cX5_init 29 = .ok (.iconst 4, 1) := by decide +kernel
theorem dX5_init_30 : decode cX5_init 30 = .ok (.newarray .int, 2) := by decide +kernel
theorem dX5_init_32 : decode cX5_init 32 = .ok (.putfield 21, 3) := by decide +kernel
theorem dX5_init_35 : decode cX5_init 35 = .ok (.return_, 1) := by decide +kernel
set_option maxHeartbeats 4000000 in
set_option maxRecDepth 100000 in
theorem x_Street_init (l : Launch) (D : va_G) (k : Nat → ClassId) (st : Nat → Nat) (lo : Nat) (h0 : Nat)  : CWv l D k st lo yX5_init cX5_init 1 none ({ frames := 1, cells := 4, slots := 62, locals := 12 }) 4 62 [.ref h0] [(h0, .inr (5, [.null, .null, .null, .null]))] (fun (_ : Nat × Nat × Nat × Nat) => True) (fun (u : Nat × Nat × Nat × Nat) => match u with | (q0, q1, q2, q3) => [(h0, .inr (5, [.ref q0, .ref q1, .ref q2, .ref q3])), (q0, .inl (k 1, 10, .inl (vv 0 0 0 (fun _ => 0)))), (q1, .inl (k 1, 24, .inl (fun _ => 0))), (q2, .inl (k 1, 24, .inl (fun _ => 0))), (q3, .inl (k 1, 4, .inl (fun _ => 0)))]) := by
  intro sz
  refine Met.ofW (cc := cX5_init) (maxL := 1) (ret := none) (by decide) rfl ?_
  intro p e s m args below meth c s₁ B hml hv
  obtain ⟨rfl, hsz, hlo, hP, hK, hDL, hZ⟩ := hv
  have hx := B.exec
  have hb := B.bytes
  have hr := B.returns
  have hts := WS_ts B.pre
  have hown : s.vm.findClass RX5 = some m.cls := findClass_of_methodNamed B.named
  have hlocks := B.notSynchronized
  have hin : meth.name = "<init>" := (name_of_methodNamed B.named B.method).1
  subst hsz
  have hD := hDL.self (sz := s.heap.size)
  have hAlo := A_lo hDL hlo
  generalize hAe : va_A [(h0, .inr (5, [.null, .null, .null, .null]))] s.heap.size = A at hD hAlo ⊢
  have hA : ∀ q : Nat, s.heap.size ≤ q → A q := fun q h => by rw [← hAe]; exact Or.inr h
  have hS : va_S A s.heap s.heap [] := va_S.rf
  have hl := lv_entry ([.ref h0]) (n := 1) (Nat.le_of_ble_eq_true rfl)
  rw [lg_entry_eq]
  generalize (lg_sl ([.ref h0]) ++ List.replicate (1 - (lg_sl ([.ref h0])).length) Slot.unset).toArray = ls at hl ⊢
  have hl : lv_has ls 1 [(0, .ref h0)] := hl
  refine lv_aload_n hx hb dX5_init_0 rfl (lv_at hl 0 rfl) ?_
  refine W.objInit hx hb hown (hts _ tw_145) (hts _ tw_101) (hts _ tw_102) rfl (by rw [hml]; exact hl.1) rfl dX5_init_1 (Nat.le_of_ble_eq_true rfl) (Nat.le_of_ble_eq_true rfl) ?_
  refine W.eq (g2 := F0 m 4 ls []) rfl ?_
  refine lv_aload_n hx hb dX5_init_4 rfl (lv_at hl 0 rfl) ?_
  refine lv_bipush (v := 10) hx hb dX5_init_5 (by decide) ?_
  refine nwa (atype := .int) (t0 := 1) (a0 := (10, .inl (fun _ => 0))) hx hb (hts _ tw_164) rfl rfl hK hP hD hS hA (fun _ => rfl) (by decide) (N' := 10) (by decide) (by decide) (Nat.le_of_ble_eq_true rfl) (Nat.le_of_ble_eq_true rfl) dX5_init_7 (fun q_1 H hP hD hS => ?_)
  refine W.widen (k := 1) (n := 10) (by decide) (by decide) ?_
  replace hP : va_P D classes [(h0, .inr (5, [.null, .null, .null, .null])), (q_1, .inl (k 1, 10, .inl (fun _ => 0)))] H := hP
  replace hD : va_D A [(h0, .inr (5, [.null, .null, .null, .null])), (q_1, .inl (k 1, 10, .inl (fun _ => 0)))] := hD
  refine va_putF (D := D) (ci := 5) (v := .ref q_1) (ty := (.array .int)) (C := RX5) (T := TX5) (N := 4) hx hb hts inX5 tyX5 tyX5_ok nmX5 hown hK hP hD hS 0 rfl rfl 0 (by decide) (hts _ tw_146) (fun _ h9 => h9) rfl hin rfl (by decide +kernel) rfl rfl (Nat.le_of_ble_eq_true rfl) dX5_init_9 (fun H locs hP hD hS => ?_)
  replace hP : va_P D classes [(h0, .inr (5, [.ref q_1, .null, .null, .null])), (q_1, .inl (k 1, 10, .inl (fun _ => 0)))] H := hP
  replace hD : va_D A [(h0, .inr (5, [.ref q_1, .null, .null, .null])), (q_1, .inl (k 1, 10, .inl (fun _ => 0)))] := hD
  refine lv_aload_n hx hb dX5_init_12 rfl (lv_at hl 0 rfl) ?_
  refine lv_bipush (v := 24) hx hb dX5_init_13 (by decide) ?_
  refine nwa (atype := .int) (t0 := 1) (a0 := (24, .inl (fun _ => 0))) hx hb (hts _ tw_164) rfl rfl hK hP hD hS hA (fun _ => rfl) (by decide) (N' := 24) (by decide) (by decide) (Nat.le_of_ble_eq_true rfl) (Nat.le_of_ble_eq_true rfl) dX5_init_15 (fun q_2 H hP hD hS => ?_)
  refine W.widen (k := 2) (n := 34) (by decide) (by decide) ?_
  replace hP : va_P D classes [(h0, .inr (5, [.ref q_1, .null, .null, .null])), (q_1, .inl (k 1, 10, .inl (fun _ => 0))), (q_2, .inl (k 1, 24, .inl (fun _ => 0)))] H := hP
  replace hD : va_D A [(h0, .inr (5, [.ref q_1, .null, .null, .null])), (q_1, .inl (k 1, 10, .inl (fun _ => 0))), (q_2, .inl (k 1, 24, .inl (fun _ => 0)))] := hD
  refine va_putF (D := D) (ci := 5) (v := .ref q_2) (ty := (.array .int)) (C := RX5) (T := TX5) (N := 4) hx hb hts inX5 tyX5 tyX5_ok nmX5 hown hK hP hD hS 0 rfl rfl 1 (by decide) (hts _ tw_150) (fun _ h9 => h9) rfl hin rfl (by decide +kernel) rfl rfl (Nat.le_of_ble_eq_true rfl) dX5_init_17 (fun H locs hP hD hS => ?_)
  replace hP : va_P D classes [(h0, .inr (5, [.ref q_1, .ref q_2, .null, .null])), (q_1, .inl (k 1, 10, .inl (fun _ => 0))), (q_2, .inl (k 1, 24, .inl (fun _ => 0)))] H := hP
  replace hD : va_D A [(h0, .inr (5, [.ref q_1, .ref q_2, .null, .null])), (q_1, .inl (k 1, 10, .inl (fun _ => 0))), (q_2, .inl (k 1, 24, .inl (fun _ => 0)))] := hD
  refine lv_aload_n hx hb dX5_init_20 rfl (lv_at hl 0 rfl) ?_
  refine lv_bipush (v := 24) hx hb dX5_init_21 (by decide) ?_
  refine nwa (atype := .int) (t0 := 1) (a0 := (24, .inl (fun _ => 0))) hx hb (hts _ tw_164) rfl rfl hK hP hD hS hA (fun _ => rfl) (by decide) (N' := 24) (by decide) (by decide) (Nat.le_of_ble_eq_true rfl) (Nat.le_of_ble_eq_true rfl) dX5_init_23 (fun q_3 H hP hD hS => ?_)
  refine W.widen (k := 3) (n := 58) (by decide) (by decide) ?_
  replace hP : va_P D classes [(h0, .inr (5, [.ref q_1, .ref q_2, .null, .null])), (q_1, .inl (k 1, 10, .inl (fun _ => 0))), (q_2, .inl (k 1, 24, .inl (fun _ => 0))), (q_3, .inl (k 1, 24, .inl (fun _ => 0)))] H := hP
  replace hD : va_D A [(h0, .inr (5, [.ref q_1, .ref q_2, .null, .null])), (q_1, .inl (k 1, 10, .inl (fun _ => 0))), (q_2, .inl (k 1, 24, .inl (fun _ => 0))), (q_3, .inl (k 1, 24, .inl (fun _ => 0)))] := hD
  refine va_putF (D := D) (ci := 5) (v := .ref q_3) (ty := (.array .int)) (C := RX5) (T := TX5) (N := 4) hx hb hts inX5 tyX5 tyX5_ok nmX5 hown hK hP hD hS 0 rfl rfl 2 (by decide) (hts _ tw_152) (fun _ h9 => h9) rfl hin rfl (by decide +kernel) rfl rfl (Nat.le_of_ble_eq_true rfl) dX5_init_25 (fun H locs hP hD hS => ?_)
  replace hP : va_P D classes [(h0, .inr (5, [.ref q_1, .ref q_2, .ref q_3, .null])), (q_1, .inl (k 1, 10, .inl (fun _ => 0))), (q_2, .inl (k 1, 24, .inl (fun _ => 0))), (q_3, .inl (k 1, 24, .inl (fun _ => 0)))] H := hP
  replace hD : va_D A [(h0, .inr (5, [.ref q_1, .ref q_2, .ref q_3, .null])), (q_1, .inl (k 1, 10, .inl (fun _ => 0))), (q_2, .inl (k 1, 24, .inl (fun _ => 0))), (q_3, .inl (k 1, 24, .inl (fun _ => 0)))] := hD
  refine lv_aload_n hx hb dX5_init_28 rfl (lv_at hl 0 rfl) ?_
  refine lv_iconst (v := 4) hx hb dX5_init_29 (by decide) ?_
  refine nwa (atype := .int) (t0 := 1) (a0 := (4, .inl (fun _ => 0))) hx hb (hts _ tw_164) rfl rfl hK hP hD hS hA (fun _ => rfl) (by decide) (N' := 4) (by decide) (by decide) (Nat.le_of_ble_eq_true rfl) (Nat.le_of_ble_eq_true rfl) dX5_init_30 (fun q_4 H hP hD hS => ?_)
  refine W.widen (k := 4) (n := 62) (by decide) (by decide) ?_
  replace hP : va_P D classes [(h0, .inr (5, [.ref q_1, .ref q_2, .ref q_3, .null])), (q_1, .inl (k 1, 10, .inl (fun _ => 0))), (q_2, .inl (k 1, 24, .inl (fun _ => 0))), (q_3, .inl (k 1, 24, .inl (fun _ => 0))), (q_4, .inl (k 1, 4, .inl (fun _ => 0)))] H := hP
  replace hD : va_D A [(h0, .inr (5, [.ref q_1, .ref q_2, .ref q_3, .null])), (q_1, .inl (k 1, 10, .inl (fun _ => 0))), (q_2, .inl (k 1, 24, .inl (fun _ => 0))), (q_3, .inl (k 1, 24, .inl (fun _ => 0))), (q_4, .inl (k 1, 4, .inl (fun _ => 0)))] := hD
  refine va_putF (D := D) (ci := 5) (v := .ref q_4) (ty := (.array .int)) (C := RX5) (T := TX5) (N := 4) hx hb hts inX5 tyX5 tyX5_ok nmX5 hown hK hP hD hS 0 rfl rfl 3 (by decide) (hts _ tw_154) (fun _ h9 => h9) rfl hin rfl (by decide +kernel) rfl rfl (Nat.le_of_ble_eq_true rfl) dX5_init_32 (fun H locs hP hD hS => ?_)
  replace hP : va_P D classes [(h0, .inr (5, [.ref q_1, .ref q_2, .ref q_3, .ref q_4])), (q_1, .inl (k 1, 10, .inl (fun _ => 0))), (q_2, .inl (k 1, 24, .inl (fun _ => 0))), (q_3, .inl (k 1, 24, .inl (fun _ => 0))), (q_4, .inl (k 1, 4, .inl (fun _ => 0)))] H := hP
  replace hD : va_D A [(h0, .inr (5, [.ref q_1, .ref q_2, .ref q_3, .ref q_4])), (q_1, .inl (k 1, 10, .inl (fun _ => 0))), (q_2, .inl (k 1, 24, .inl (fun _ => 0))), (q_3, .inl (k 1, 24, .inl (fun _ => 0))), (q_4, .inl (k 1, 4, .inl (fun _ => 0)))] := hD
  replace hP : va_P D classes [(h0, .inr (5, [.ref q_1, .ref q_2, .ref q_3, .ref q_4])), (q_1, .inl (k 1, 10, .inl (vv 0 0 0 (fun _ => 0)))), (q_2, .inl (k 1, 24, .inl (fun _ => 0))), (q_3, .inl (k 1, 24, .inl (fun _ => 0))), (q_4, .inl (k 1, 4, .inl (fun _ => 0)))] H := by rw [vv_0]; exact hP
  replace hD : va_D A [(h0, .inr (5, [.ref q_1, .ref q_2, .ref q_3, .ref q_4])), (q_1, .inl (k 1, 10, .inl (vv 0 0 0 (fun _ => 0)))), (q_2, .inl (k 1, 24, .inl (fun _ => 0))), (q_3, .inl (k 1, 24, .inl (fun _ => 0))), (q_4, .inl (k 1, 4, .inl (fun _ => 0)))] := by rw [vv_0]; exact hD
  have hP9 := hP.sub (ws' := [(h0, .inr (5, [.ref q_1, .ref q_2, .ref q_3, .ref q_4])), (q_1, .inl (k 1, 10, .inl (vv 0 0 0 (fun _ => 0)))), (q_2, .inl (k 1, 24, .inl (fun _ => 0))), (q_3, .inl (k 1, 24, .inl (fun _ => 0))), (q_4, .inl (k 1, 4, .inl (fun _ => 0)))]) [0, 1, 2, 3, 4] rfl
  have hD9 := hD.sub (ws' := [(h0, .inr (5, [.ref q_1, .ref q_2, .ref q_3, .ref q_4])), (q_1, .inl (k 1, 10, .inl (vv 0 0 0 (fun _ => 0)))), (q_2, .inl (k 1, 24, .inl (fun _ => 0))), (q_3, .inl (k 1, 24, .inl (fun _ => 0))), (q_4, .inl (k 1, 4, .inl (fun _ => 0)))]) [0, 1, 2, 3, 4] (by decide) rfl
  refine W.widen (k := 4) (n := 62) (by decide) (by decide) ?_
  exact W.vret hx hb hr (fun t ht hW => ⟨⟨(q_1, q_2, q_3, q_4), rfl, trivial, by rw [ht]; exact hP9, hD9⟩, hS.F ht⟩) hS.2.2 dX5_init_35


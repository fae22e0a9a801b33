theorem dX8_rule_0 : decode cX8_rule 0 = .ok (.aload_n 0, 1) := by decide +kernel
theorem dX8_rule_1 : decode cX8_rule 1 = .ok (.getfield 113, 3) := by decide +kernel
theorem dX8_rule_4 : decode cX8_rule 4 = .ok (.bipush 80, 2) := by decide +kernel
theorem dX8_rule_6 : decode cX8_rule 6 = .ok (.if_icmp .le 7, 3) := by decide +kernel
theorem dX8_rule_13 : decode cX8_rule 13 = .ok (.aload_n 0, 1) := by decide +kernel
theorem dX8_rule_14 : decode cX8_rule 14 = .ok (.getfield 276, 3) := by decide +kernel
theorem dX8_rule_17 : decode cX8_rule 17 = .ok (.iconst 4, 1) := by decide +kernel
theorem dX8_rule_18 : decode cX8_rule 18 = .ok (.if_icmp .ne 7, 3) := by decide +kernel
theorem dX8_rule_25 : decode cX8_rule 25 = .ok (.aload_n 0, 1) := by decide +kernel
theorem dX8_rule_26 : decode cX8_rule 26 = .ok (.iconst (-1), 1) := by decide +kernel
theorem dX8_rule_27 : decode cX8_rule 27 = .ok (.putfield 25, 3) := by decide +kernel
theorem dX8_rule_30 : decode cX8_rule 30 = .ok (.aload_n 0, 1) := by decide +kernel
theorem dX8_rule_31 : decode cX8_rule 31 = .ok (.iconst 0, 1) := by decide +kernel
theorem dX8_rule_32 : decode cX8_rule 32 = .ok (.putfield 118, 3) := by decide +kernel
theorem dX8_rule_35 : decode cX8_rule 35 = .ok (.aload_n 0, 1) := by decide +kernel
theorem dX8_rule_36 : decode cX8_rule 36 = .ok (.invokevirtual 282, 3) := by decide +kernel
theorem dX8_rule_39 : decode cX8_rule 39 = .ok (.istore_n 1, 1) := by decide +kernel
theorem dX8_rule_40 : decode cX8_rule 40 = .ok (.aload_n 0, 1) := by decide +kernel
theorem dX8_rule_41 : decode cX8_rule 41 = .ok (.iconst 0, 1) := by decide +kernel
theorem dX8_rule_42 : decode cX8_rule 42 = .ok (.putfield 113, 3) := by decide +kernel
theorem dX8_rule_45 : decode cX8_rule 45 = .ok (.iload_n 1, 1) := by decide +kernel
theorem dX8_rule_46 : decode cX8_rule 46 = .ok (.ifCond .le 8, 3) := by decide +kernel
theorem dX8_rule_49 : decode cX8_rule 49 = .ok (.bipush (-10), 2) := by decide +kernel
theorem dX8_rule_51 : decode cX8_rule 51 = .ok (.iload_n 1, 1) := by decide +kernel
theorem dX8_rule_52 : decode cX8_rule 52 = .ok (.isub, 1) := by decide +kernel
theorem dX8_rule_53 : decode cX8_rule 53 = .ok (.ireturn, 1) := by decide +kernel
set_option maxHeartbeats 4000000 in
set_option maxRecDepth 100000 in
theorem k_m_rule (l : Launch) (D : va_G) (k : Nat → ClassId) (st : Nat → Nat) (lo : Nat) (a : Nat → Nat)  : CWi l D k st lo yX8_rule cX8_rule 2 (some .int) ({ frames := 4, cells := 0, slots := 0, locals := 87 }) 0 0 [.ref (a 0)] [((a 0), .inr (8, [.ref (a 1), .ref (a 2), .ref (a 3), .ref (a 4), .ref (a 5), .int 0, .int (-1), .int 0, .long 0, .int 0, .int 0, .int 0, .int 0, .ref (a 14), .ref (a 15), .ref (a 16), .int 0, .ref (a 18), .ref (a 19), .ref (a 20), .ref (a 21), .ref (a 22), .ref (a 23), .int 0, .ref (a 25), .ref (a 26), .ref (a 27), .ref (a 28), .ref (a 29), .ref (a 30), .int 0, .ref (a 32), .ref (a 33), .ref (a 34), .int 0, .ref (a 36), .ref (a 37), .int 0, .int 0, .ref (a 40), .ref (a 41), .int 0, .ref (a 43), .ref (a 44)])), ((a 26), .inl (k 1, 48, .inl (fun _ => 0))), ((a 27), .inl (k 1, 48, .inl (fun _ => 0))), ((a 25), .inl (k 1, 4, .inl (fun _ => 0))), ((a 28), .inl (k 1, 4, .inl (fun _ => 0)))] (fun (r : Int32) (_ : Unit) => r = -11) (fun (_ : Unit) => []) := by
  intro sz
  refine Met.ofW (cc := cX8_rule) (maxL := 2) (ret := (some .int)) (by decide) rfl ?_
  intro p e s m args below meth c s₁ B hml hv
  obtain ⟨rfl, hsz, hlo, hP, hK, hDL, hZ⟩ := hv
  have hx := B.exec
  have hb := B.bytes
  have hr := B.returns
  have hts := WS_ts B.pre
  have hown : s.vm.findClass RX8 = some m.cls := findClass_of_methodNamed B.named
  have hlocks := B.notSynchronized
  subst hsz
  have hD := hDL.self (sz := s.heap.size)
  have hAlo := A_lo hDL hlo
  generalize hAe : va_A [((a 0), .inr (8, [.ref (a 1), .ref (a 2), .ref (a 3), .ref (a 4), .ref (a 5), .int 0, .int (-1), .int 0, .long 0, .int 0, .int 0, .int 0, .int 0, .ref (a 14), .ref (a 15), .ref (a 16), .int 0, .ref (a 18), .ref (a 19), .ref (a 20), .ref (a 21), .ref (a 22), .ref (a 23), .int 0, .ref (a 25), .ref (a 26), .ref (a 27), .ref (a 28), .ref (a 29), .ref (a 30), .int 0, .ref (a 32), .ref (a 33), .ref (a 34), .int 0, .ref (a 36), .ref (a 37), .int 0, .int 0, .ref (a 40), .ref (a 41), .int 0, .ref (a 43), .ref (a 44)])), ((a 26), .inl (k 1, 48, .inl (fun _ => 0))), ((a 27), .inl (k 1, 48, .inl (fun _ => 0))), ((a 25), .inl (k 1, 4, .inl (fun _ => 0))), ((a 28), .inl (k 1, 4, .inl (fun _ => 0)))] s.heap.size = A at hD hAlo ⊢
  have hA : ∀ q : Nat, s.heap.size ≤ q → A q := fun q h => by rw [← hAe]; exact Or.inr h
  have hS : va_S A s.heap s.heap [] := va_S.rf
  have hl := lv_entry ([.ref (a 0)]) (n := 2) (Nat.le_of_ble_eq_true rfl)
  rw [lg_entry_eq]
  generalize (lg_sl ([.ref (a 0)]) ++ List.replicate (2 - (lg_sl ([.ref (a 0)])).length) Slot.unset).toArray = ls at hl ⊢
  have hl : lv_has ls 2 [(0, .ref (a 0))] := hl
  refine lv_aload_n hx hb dX8_rule_0 rfl (lv_at hl 0 rfl) ?_
  refine va_get (D := D) (ci := 8) (v := .int 0) (C := RX8) (T := TX8) (N := 44) hx hb hts inX8 hown hK hP 0 rfl rfl 5 (by decide) (hts _ tw_978) (fun _ h9 => h9) rfl dX8_rule_1 ?_
  refine lv_bipush (v := 80) hx hb dX8_rule_4 (by decide) ?_
  refine lv_icmp_le (tgt := 13) hx hb dX8_rule_6 (by decide) (fun _ => ?_) (fun h => absurd (by decide) h)
  refine lv_aload_n hx hb dX8_rule_13 rfl (lv_at hl 0 rfl) ?_
  refine va_get (D := D) (ci := 8) (v := .int 0) (C := RX8) (T := TX8) (N := 44) hx hb hts inX8 hown hK hP 0 rfl rfl 23 (by decide) (hts _ tw_996) (fun _ h9 => h9) rfl dX8_rule_14 ?_
  refine lv_iconst (v := 4) hx hb dX8_rule_17 (by decide) ?_
  refine lv_icmp_ne (tgt := 25) hx hb dX8_rule_18 (by decide) (fun _ => ?_) (fun h => absurd h (by decide))
  refine lv_aload_n hx hb dX8_rule_25 rfl (lv_at hl 0 rfl) ?_
  refine lv_iconst (v := (-1)) hx hb dX8_rule_26 (by decide) ?_
  refine va_put (D := D) (ci := 8) (v := .int (-1)) (ty := .int) (C := RX8) (T := TX8) (N := 44) hx hb hts inX8 tyX8 tyX8_ok nmX8 hown hK hP hD hS 0 rfl rfl 6 (by decide) (hts _ tw_979) (fun _ h9 => h9) rfl (by decide +kernel) rfl rfl (Nat.le_of_ble_eq_true rfl) dX8_rule_27 (fun H locs hP hD hS => ?_)
  have hP : va_P D classes [((a 0), .inr (8, [.ref (a 1), .ref (a 2), .ref (a 3), .ref (a 4), .ref (a 5), .int 0, .int (-1), .int 0, .long 0, .int 0, .int 0, .int 0, .int 0, .ref (a 14), .ref (a 15), .ref (a 16), .int 0, .ref (a 18), .ref (a 19), .ref (a 20), .ref (a 21), .ref (a 22), .ref (a 23), .int 0, .ref (a 25), .ref (a 26), .ref (a 27), .ref (a 28), .ref (a 29), .ref (a 30), .int 0, .ref (a 32), .ref (a 33), .ref (a 34), .int 0, .ref (a 36), .ref (a 37), .int 0, .int 0, .ref (a 40), .ref (a 41), .int 0, .ref (a 43), .ref (a 44)])), ((a 26), .inl (k 1, 48, .inl (fun _ => 0))), ((a 27), .inl (k 1, 48, .inl (fun _ => 0))), ((a 25), .inl (k 1, 4, .inl (fun _ => 0))), ((a 28), .inl (k 1, 4, .inl (fun _ => 0)))] H := hP
  have hD : va_D A [((a 0), .inr (8, [.ref (a 1), .ref (a 2), .ref (a 3), .ref (a 4), .ref (a 5), .int 0, .int (-1), .int 0, .long 0, .int 0, .int 0, .int 0, .int 0, .ref (a 14), .ref (a 15), .ref (a 16), .int 0, .ref (a 18), .ref (a 19), .ref (a 20), .ref (a 21), .ref (a 22), .ref (a 23), .int 0, .ref (a 25), .ref (a 26), .ref (a 27), .ref (a 28), .ref (a 29), .ref (a 30), .int 0, .ref (a 32), .ref (a 33), .ref (a 34), .int 0, .ref (a 36), .ref (a 37), .int 0, .int 0, .ref (a 40), .ref (a 41), .int 0, .ref (a 43), .ref (a 44)])), ((a 26), .inl (k 1, 48, .inl (fun _ => 0))), ((a 27), .inl (k 1, 48, .inl (fun _ => 0))), ((a 25), .inl (k 1, 4, .inl (fun _ => 0))), ((a 28), .inl (k 1, 4, .inl (fun _ => 0)))] := hD
  refine lv_aload_n hx hb dX8_rule_30 rfl (lv_at hl 0 rfl) ?_
  refine lv_iconst (v := 0) hx hb dX8_rule_31 (by decide) ?_
  refine va_put (D := D) (ci := 8) (v := .int 0) (ty := .int) (C := RX8) (T := TX8) (N := 44) hx hb hts inX8 tyX8 tyX8_ok nmX8 hown hK hP hD hS 0 rfl rfl 7 (by decide) (hts _ tw_980) (fun _ h9 => h9) rfl (by decide +kernel) rfl rfl (Nat.le_of_ble_eq_true rfl) dX8_rule_32 (fun H locs hP hD hS => ?_)
  have hP : va_P D classes [((a 0), .inr (8, [.ref (a 1), .ref (a 2), .ref (a 3), .ref (a 4), .ref (a 5), .int 0, .int (-1), .int 0, .long 0, .int 0, .int 0, .int 0, .int 0, .ref (a 14), .ref (a 15), .ref (a 16), .int 0, .ref (a 18), .ref (a 19), .ref (a 20), .ref (a 21), .ref (a 22), .ref (a 23), .int 0, .ref (a 25), .ref (a 26), .ref (a 27), .ref (a 28), .ref (a 29), .ref (a 30), .int 0, .ref (a 32), .ref (a 33), .ref (a 34), .int 0, .ref (a 36), .ref (a 37), .int 0, .int 0, .ref (a 40), .ref (a 41), .int 0, .ref (a 43), .ref (a 44)])), ((a 26), .inl (k 1, 48, .inl (fun _ => 0))), ((a 27), .inl (k 1, 48, .inl (fun _ => 0))), ((a 25), .inl (k 1, 4, .inl (fun _ => 0))), ((a 28), .inl (k 1, 4, .inl (fun _ => 0)))] H := hP
  have hD : va_D A [((a 0), .inr (8, [.ref (a 1), .ref (a 2), .ref (a 3), .ref (a 4), .ref (a 5), .int 0, .int (-1), .int 0, .long 0, .int 0, .int 0, .int 0, .int 0, .ref (a 14), .ref (a 15), .ref (a 16), .int 0, .ref (a 18), .ref (a 19), .ref (a 20), .ref (a 21), .ref (a 22), .ref (a 23), .int 0, .ref (a 25), .ref (a 26), .ref (a 27), .ref (a 28), .ref (a 29), .ref (a 30), .int 0, .ref (a 32), .ref (a 33), .ref (a 34), .int 0, .ref (a 36), .ref (a 37), .int 0, .int 0, .ref (a 40), .ref (a 41), .int 0, .ref (a 43), .ref (a 44)])), ((a 26), .inl (k 1, 48, .inl (fun _ => 0))), ((a 27), .inl (k 1, 48, .inl (fun _ => 0))), ((a 25), .inl (k 1, 4, .inl (fun _ => 0))), ((a 28), .inl (k 1, 4, .inl (fun _ => 0)))] := hD
  refine lv_aload_n hx hb dX8_rule_35 rfl (lv_at hl 0 rfl) ?_
  refine rw_i (D := D) (wr := []) (va_runV (As := []) (rest := []) ⟨hx, hb, hml, hown, hts⟩ ((k_m_takeRule l D k st lo a) H.size) (cwV 0 hts (gV tw_1309 tw_1311 tw_55 tw_87 tw_1312) rfl rfl rfl (by decide +kernel) ⟨Nat.le_of_ble_eq_true rfl, Nat.le_of_ble_eq_true rfl⟩) (pV hS hAlo hlo hP hK (va_Dlo hD hAlo) hZ [0, 1, 2, 3, 4] (by decide) rfl (ci := 8) (q0 := 0) rfl rfl) rfl rfl hl.1 rfl (lv_room (Nat.le_of_ble_eq_true rfl)) dX8_rule_36 ⟨Nat.le_of_ble_eq_true rfl, Nat.le_of_ble_eq_true rfl⟩) hS hA hP hD [0, 1, 2, 3, 4] [] rfl rfl (by decide) (by decide) (fun r_1 u H locs hw_1 hP hD hS => ?_)
  have hP : va_P D classes [((a 0), .inr (8, [.ref (a 1), .ref (a 2), .ref (a 3), .ref (a 4), .ref (a 5), .int 0, .int 0, .int 0, .long 0, .int 0, .int 0, .int 0, .int 0, .ref (a 14), .ref (a 15), .ref (a 16), .int 0, .ref (a 18), .ref (a 19), .ref (a 20), .ref (a 21), .ref (a 22), .ref (a 23), .int 0, .ref (a 25), .ref (a 26), .ref (a 27), .ref (a 28), .ref (a 29), .ref (a 30), .int 0, .ref (a 32), .ref (a 33), .ref (a 34), .int 0, .ref (a 36), .ref (a 37), .int 0, .int 0, .ref (a 40), .ref (a 41), .int 0, .ref (a 43), .ref (a 44)]))] H := hP
  have hD : va_D A [((a 0), .inr (8, [.ref (a 1), .ref (a 2), .ref (a 3), .ref (a 4), .ref (a 5), .int 0, .int 0, .int 0, .long 0, .int 0, .int 0, .int 0, .int 0, .ref (a 14), .ref (a 15), .ref (a 16), .int 0, .ref (a 18), .ref (a 19), .ref (a 20), .ref (a 21), .ref (a 22), .ref (a 23), .int 0, .ref (a 25), .ref (a 26), .ref (a 27), .ref (a 28), .ref (a 29), .ref (a 30), .int 0, .ref (a 32), .ref (a 33), .ref (a 34), .int 0, .ref (a 36), .ref (a 37), .int 0, .int 0, .ref (a 40), .ref (a 41), .int 0, .ref (a 43), .ref (a 44)]))] := hD
  try dsimp only at hw_1
  subst hw_1
  refine lv_istore_n (lv' := [(1, .int 1), (0, .ref (a 0))]) hx hb dX8_rule_39 rfl hl (by decide) rfl (fun ls hl => ?_)
  refine lv_aload_n hx hb dX8_rule_40 rfl (lv_at hl 1 rfl) ?_
  refine lv_iconst (v := 0) hx hb dX8_rule_41 (by decide) ?_
  refine va_put (D := D) (ci := 8) (v := .int 0) (ty := .int) (C := RX8) (T := TX8) (N := 44) hx hb hts inX8 tyX8 tyX8_ok nmX8 hown hK hP hD hS 0 rfl rfl 5 (by decide) (hts _ tw_978) (fun _ h9 => h9) rfl (by decide +kernel) rfl rfl (Nat.le_of_ble_eq_true rfl) dX8_rule_42 (fun H locs hP hD hS => ?_)
  have hP : va_P D classes [((a 0), .inr (8, [.ref (a 1), .ref (a 2), .ref (a 3), .ref (a 4), .ref (a 5), .int 0, .int 0, .int 0, .long 0, .int 0, .int 0, .int 0, .int 0, .ref (a 14), .ref (a 15), .ref (a 16), .int 0, .ref (a 18), .ref (a 19), .ref (a 20), .ref (a 21), .ref (a 22), .ref (a 23), .int 0, .ref (a 25), .ref (a 26), .ref (a 27), .ref (a 28), .ref (a 29), .ref (a 30), .int 0, .ref (a 32), .ref (a 33), .ref (a 34), .int 0, .ref (a 36), .ref (a 37), .int 0, .int 0, .ref (a 40), .ref (a 41), .int 0, .ref (a 43), .ref (a 44)]))] H := hP
  have hD : va_D A [((a 0), .inr (8, [.ref (a 1), .ref (a 2), .ref (a 3), .ref (a 4), .ref (a 5), .int 0, .int 0, .int 0, .long 0, .int 0, .int 0, .int 0, .int 0, .ref (a 14), .ref (a 15), .ref (a 16), .int 0, .ref (a 18), .ref (a 19), .ref (a 20), .ref (a 21), .ref (a 22), .ref (a 23), .int 0, .ref (a 25), .ref (a 26), .ref (a 27), .ref (a 28), .ref (a 29), .ref (a 30), .int 0, .ref (a 32), .ref (a 33), .ref (a 34), .int 0, .ref (a 36), .ref (a 37), .int 0, .int 0, .ref (a 40), .ref (a 41), .int 0, .ref (a 43), .ref (a 44)]))] := hD
  refine lv_iload_n hx hb dX8_rule_45 rfl (lv_at hl 0 rfl) ?_
  refine lv_if_le (tgt := 54) hx hb dX8_rule_46 (by decide) (fun h => absurd h (by decide)) (fun _ => ?_)
  refine lv_bipush (v := (-10)) hx hb dX8_rule_49 (by decide) ?_
  refine lv_iload_n hx hb dX8_rule_51 rfl (lv_at hl 0 rfl) ?_
  refine lv_isub hx hb dX8_rule_52 ?_
  refine lv_ti (y := (-11)) (by decide) ?_
  have hP9 := hP.sub (ws' := []) [] rfl
  have hD9 := hD.sub (ws' := []) [] (by decide) rfl
  exact W.iret (v := (-11)) hx hb hr (fun t ht hW => ⟨⟨(-11), (), rfl, rfl, by rw [ht]; exact hP9, hD9⟩, hS.F ht⟩) hS.2.2 dX8_rule_53


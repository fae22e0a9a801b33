theorem dX7_rule_0 : decode cX7_rule 0 = .ok (.aload_n 0, 1) := by decide +kernel
theorem dX7_rule_1 : decode cX7_rule 1 = .ok (.getfield 12, 3) := by decide +kernel
theorem dX7_rule_4 : decode cX7_rule 4 = .ok (.getfield 81, 3) := by decide +kernel
theorem dX7_rule_7 : decode cX7_rule 7 = .ok (.bipush 80, 2) := by decide +kernel
theorem dX7_rule_9 : decode cX7_rule 9 = .ok (.if_icmp .le 7, 3) := by decide +kernel
theorem dX7_rule_16 : decode cX7_rule 16 = .ok (.aload_n 0, 1) := by decide +kernel
theorem dX7_rule_17 : decode cX7_rule 17 = .ok (.getfield 39, 3) := by decide +kernel
theorem dX7_rule_20 : decode cX7_rule 20 = .ok (.iconst 4, 1) := by decide +kernel
theorem dX7_rule_21 : decode cX7_rule 21 = .ok (.if_icmp .lt 7, 3) := by decide +kernel
theorem dX7_rule_28 : decode cX7_rule 28 = .ok (.aload_n 0, 1) := by decide +kernel
theorem dX7_rule_29 : decode cX7_rule 29 = .ok (.getfield 12, 3) := by decide +kernel
theorem dX7_rule_32 : decode cX7_rule 32 = .ok (.invokevirtual 88, 3) := by decide +kernel
theorem dX7_rule_35 : decode cX7_rule 35 = .ok (.aload_n 0, 1) := by decide +kernel
theorem dX7_rule_36 : decode cX7_rule 36 = .ok (.getfield 35, 3) := by decide +kernel
theorem dX7_rule_39 : decode cX7_rule 39 = .ok (.aload_n 0, 1) := by decide +kernel
theorem dX7_rule_40 : decode cX7_rule 40 = .ok (.getfield 39, 3) := by decide +kernel
theorem dX7_rule_43 : decode cX7_rule 43 = .ok (.aaload, 1) := by decide +kernel
theorem dX7_rule_44 : decode cX7_rule 44 = .ok (.aload_n 0, 1) := by decide +kernel
theorem dX7_rule_45 : decode cX7_rule 45 = .ok (.getfield 12, 3) := by decide +kernel
theorem dX7_rule_48 : decode cX7_rule 48 = .ok (.invokevirtual 168, 3) := by decide +kernel
theorem dX7_rule_51 : decode cX7_rule 51 = .ok (.aload_n 0, 1) := by decide +kernel
theorem dX7_rule_52 : decode cX7_rule 52 = .ok (.invokevirtual 95, 3) := by decide +kernel
theorem dX7_rule_55 : decode cX7_rule 55 = .ok (.istore_n 1, 1) := by decide +kernel
theorem dX7_rule_56 : decode cX7_rule 56 = .ok (.iload_n 1, 1) := by decide +kernel
theorem dX7_rule_57 : decode cX7_rule 57 = .ok (.ifCond .ge 5, 3) := by decide +kernel
theorem dX7_rule_60 : decode cX7_rule 60 = .ok (.iload_n 1, 1) := by decide +kernel
theorem dX7_rule_61 : decode cX7_rule 61 = .ok (.ireturn, 1) := by decide +kernel
set_option maxHeartbeats 4000000 in
set_option maxRecDepth 100000 in
theorem k_rule (l : Launch) (D : va_G) (k : Nat → ClassId) (st : Nat → Nat) (lo : Nat) (a : Nat → Nat)  : CWi l D k st lo yX7_rule cX7_rule 2 (some .int) ({ frames := 7, cells := 0, slots := 0, locals := 151 }) 0 0 [.ref (a 0)] [((a 0), .inr (7, [.ref (a 1), .ref (a 3), .ref (a 19), .ref (a 20), .ref (a 25), .int 0, .int (-1), .ref (a 32), .ref (a 35), .ref (a 42), .ref (a 43), .ref (a 44)])), ((a 1), .inr (6, [.ref (a 2), .int 0, .int 0, .int 0, .int 0, .int 0])), ((a 25), .inl (k 5, 4, .inr (.inr (.inr (.inr (a4 (a 26) (a 27) (a 28) (a 29))))))), ((a 26), .inr (3, [.ref (a 30), .ref (a 31), .int 0, .int 0, .int 0]))] (fun (r : Int32) (_ : Unit) => r = -11) (fun (_ : Unit) => []) := by
  intro sz
  refine Met.ofW (cc := cX7_rule) (maxL := 2) (ret := (some .int)) (by decide) rfl ?_
  intro p e s m args below meth c s₁ B hml hv
  obtain ⟨rfl, hsz, hlo, hP, hK, hDL, hZ⟩ := hv
  have hx := B.exec
  have hb := B.bytes
  have hr := B.returns
  have hts := WS_ts B.pre
  have hown : s.vm.findClass RX7 = some m.cls := findClass_of_methodNamed B.named
  have hlocks := B.notSynchronized
  subst hsz
  have hD := hDL.self (sz := s.heap.size)
  have hAlo := A_lo hDL hlo
  generalize hAe : va_A [((a 0), .inr (7, [.ref (a 1), .ref (a 3), .ref (a 19), .ref (a 20), .ref (a 25), .int 0, .int (-1), .ref (a 32), .ref (a 35), .ref (a 42), .ref (a 43), .ref (a 44)])), ((a 1), .inr (6, [.ref (a 2), .int 0, .int 0, .int 0, .int 0, .int 0])), ((a 25), .inl (k 5, 4, .inr (.inr (.inr (.inr (a4 (a 26) (a 27) (a 28) (a 29))))))), ((a 26), .inr (3, [.ref (a 30), .ref (a 31), .int 0, .int 0, .int 0]))] s.heap.size = A at hD hAlo ⊢
  have hA : ∀ q : Nat, s.heap.size ≤ q → A q := fun q h => by rw [← hAe]; exact Or.inr h
  have hS : va_S A s.heap s.heap [] := va_S.rf
  have hl := lv_entry ([.ref (a 0)]) (n := 2) (Nat.le_of_ble_eq_true rfl)
  rw [lg_entry_eq]
  generalize (lg_sl ([.ref (a 0)]) ++ List.replicate (2 - (lg_sl ([.ref (a 0)])).length) Slot.unset).toArray = ls at hl ⊢
  have hl : lv_has ls 2 [(0, .ref (a 0))] := hl
  refine lv_aload_n hx hb dX7_rule_0 rfl (lv_at hl 0 rfl) ?_
  refine va_get (D := D) (ci := 7) (v := .ref (a 1)) (C := RX7) (T := TX7) (N := 12) hx hb hts inX7 hown hK hP 0 rfl rfl 0 (by decide) (hts _ tw_305) (fun _ h9 => h9) rfl dX7_rule_1 ?_
  refine va_get (D := D) (ci := 6) (v := .int 0) (C := RX6) (T := TX6) (N := 6) hx hb hts inX6 hown hK hP 1 rfl rfl 1 (by decide) (hts _ tw_111) (fun _ h9 => h9) rfl dX7_rule_4 ?_
  refine lv_bipush (v := 80) hx hb dX7_rule_7 (by decide) ?_
  refine lv_icmp_le (tgt := 16) hx hb dX7_rule_9 (by decide) (fun _ => ?_) (fun h => absurd (by decide) h)
  refine lv_aload_n hx hb dX7_rule_16 rfl (lv_at hl 0 rfl) ?_
  refine va_get (D := D) (ci := 7) (v := .int 0) (C := RX7) (T := TX7) (N := 12) hx hb hts inX7 hown hK hP 0 rfl rfl 5 (by decide) (hts _ tw_310) (fun _ h9 => h9) rfl dX7_rule_17 ?_
  refine lv_iconst (v := 4) hx hb dX7_rule_20 (by decide) ?_
  refine lv_icmp_lt (tgt := 28) hx hb dX7_rule_21 (by decide) (fun _ => ?_) (fun h => absurd (by decide) h)
  refine lv_aload_n hx hb dX7_rule_28 rfl (lv_at hl 0 rfl) ?_
  refine va_get (D := D) (ci := 7) (v := .ref (a 1)) (C := RX7) (T := TX7) (N := 12) hx hb hts inX7 hown hK hP 0 rfl rfl 0 (by decide) (hts _ tw_305) (fun _ h9 => h9) rfl dX7_rule_29 ?_
  refine rw_v (D := D) (wr := [((a 0), .inr (7, [.ref (a 1), .ref (a 3), .ref (a 19), .ref (a 20), .ref (a 25), .int 0, .int (-1), .ref (a 32), .ref (a 35), .ref (a 42), .ref (a 43), .ref (a 44)])), ((a 25), .inl (k 5, 4, .inr (.inr (.inr (.inr (a4 (a 26) (a 27) (a 28) (a 29))))))), ((a 26), .inr (3, [.ref (a 30), .ref (a 31), .int 0, .int 0, .int 0]))]) (va_runV (As := []) (rest := []) ⟨hx, hb, hml, hown, hts⟩ ((k_rewind l D k st lo (a 1) (a 2)) s.heap.size) (cwV 0 hts (gV tw_354 tw_355 tw_356 tw_80 tw_357) rfl rfl rfl (by decide +kernel) ⟨Nat.le_of_ble_eq_true rfl, Nat.le_of_ble_eq_true rfl⟩) (pV hS hAlo hlo hP hK (va_Dlo hD hAlo) hZ [1] (by decide) rfl (ci := 6) (q0 := 0) rfl rfl) rfl rfl hl.1 rfl (lv_room (Nat.le_of_ble_eq_true rfl)) dX7_rule_32 ⟨Nat.le_of_ble_eq_true rfl, Nat.le_of_ble_eq_true rfl⟩) hS hA hP hD [1] [0, 2, 3] rfl rfl (by decide) (by decide) (fun u H locs hw_1 hP hD hS => ?_)
  have hP : va_P D classes [((a 0), .inr (7, [.ref (a 1), .ref (a 3), .ref (a 19), .ref (a 20), .ref (a 25), .int 0, .int (-1), .ref (a 32), .ref (a 35), .ref (a 42), .ref (a 43), .ref (a 44)])), ((a 25), .inl (k 5, 4, .inr (.inr (.inr (.inr (a4 (a 26) (a 27) (a 28) (a 29))))))), ((a 26), .inr (3, [.ref (a 30), .ref (a 31), .int 0, .int 0, .int 0])), ((a 1), .inr (6, [.ref (a 2), .int 0, .int 0, .int 0, .int 0, .int 0]))] H := hP
  have hD : va_D A [((a 0), .inr (7, [.ref (a 1), .ref (a 3), .ref (a 19), .ref (a 20), .ref (a 25), .int 0, .int (-1), .ref (a 32), .ref (a 35), .ref (a 42), .ref (a 43), .ref (a 44)])), ((a 25), .inl (k 5, 4, .inr (.inr (.inr (.inr (a4 (a 26) (a 27) (a 28) (a 29))))))), ((a 26), .inr (3, [.ref (a 30), .ref (a 31), .int 0, .int 0, .int 0])), ((a 1), .inr (6, [.ref (a 2), .int 0, .int 0, .int 0, .int 0, .int 0]))] := hD
  try dsimp only at hw_1
  refine lv_aload_n hx hb dX7_rule_35 rfl (lv_at hl 0 rfl) ?_
  refine va_get (D := D) (ci := 7) (v := .ref (a 25)) (C := RX7) (T := TX7) (N := 12) hx hb hts inX7 hown hK hP 0 rfl rfl 4 (by decide) (hts _ tw_309) (fun _ h9 => h9) rfl dX7_rule_36 ?_
  refine lv_aload_n hx hb dX7_rule_39 rfl (lv_at hl 0 rfl) ?_
  refine va_get (D := D) (ci := 7) (v := .int 0) (C := RX7) (T := TX7) (N := 12) hx hb hts inX7 hown hK hP 0 rfl rfl 5 (by decide) (hts _ tw_310) (fun _ h9 => h9) rfl dX7_rule_40 ?_
  refine va_aldq hx hb hK hP 1 5 rfl rfl (by unfold vp_in; decide) dX7_rule_43 ?_
  refine lv_tr (y := .ref (a 26)) rfl ?_
  refine lv_aload_n hx hb dX7_rule_44 rfl (lv_at hl 0 rfl) ?_
  refine va_get (D := D) (ci := 7) (v := .ref (a 1)) (C := RX7) (T := TX7) (N := 12) hx hb hts inX7 hown hK hP 0 rfl rfl 0 (by decide) (hts _ tw_305) (fun _ h9 => h9) rfl dX7_rule_45 ?_
  refine rw_v (D := D) (wr := [((a 0), .inr (7, [.ref (a 1), .ref (a 3), .ref (a 19), .ref (a 20), .ref (a 25), .int 0, .int (-1), .ref (a 32), .ref (a 35), .ref (a 42), .ref (a 43), .ref (a 44)])), ((a 25), .inl (k 5, 4, .inr (.inr (.inr (.inr (a4 (a 26) (a 27) (a 28) (a 29)))))))]) (va_runV (As := [.ref (a 1)]) (rest := []) ⟨hx, hb, hml, hown, hts⟩ ((k_Rule_readFrom l D k st lo (a 26) (a 30) (a 31) (a 1) (a 2)) H.size) (cwV 1 hts (gV tw_675 tw_676 tw_677 tw_86 tw_678) rfl rfl rfl (by decide +kernel) ⟨Nat.le_of_ble_eq_true rfl, Nat.le_of_ble_eq_true rfl⟩) (pV hS hAlo hlo hP hK (va_Dlo hD hAlo) hZ [2, 3] (by decide) rfl (ci := 3) (q0 := 0) rfl rfl) rfl rfl hl.1 rfl (lv_room (Nat.le_of_ble_eq_true rfl)) dX7_rule_48 ⟨Nat.le_of_ble_eq_true rfl, Nat.le_of_ble_eq_true rfl⟩) hS hA hP hD [2, 3] [0, 1] rfl rfl (by decide) (by decide) (fun u H locs hw_2 hP hD hS => ?_)
  have hP : va_P D classes [((a 0), .inr (7, [.ref (a 1), .ref (a 3), .ref (a 19), .ref (a 20), .ref (a 25), .int 0, .int (-1), .ref (a 32), .ref (a 35), .ref (a 42), .ref (a 43), .ref (a 44)])), ((a 25), .inl (k 5, 4, .inr (.inr (.inr (.inr (a4 (a 26) (a 27) (a 28) (a 29))))))), ((a 1), .inr (6, [.ref (a 2), .int 0, .int 0, .int 0, .int 1, .int 0]))] H := hP
  have hD : va_D A [((a 0), .inr (7, [.ref (a 1), .ref (a 3), .ref (a 19), .ref (a 20), .ref (a 25), .int 0, .int (-1), .ref (a 32), .ref (a 35), .ref (a 42), .ref (a 43), .ref (a 44)])), ((a 25), .inl (k 5, 4, .inr (.inr (.inr (.inr (a4 (a 26) (a 27) (a 28) (a 29))))))), ((a 1), .inr (6, [.ref (a 2), .int 0, .int 0, .int 0, .int 1, .int 0]))] := hD
  try dsimp only at hw_2
  refine lv_aload_n hx hb dX7_rule_51 rfl (lv_at hl 0 rfl) ?_
  refine rw_i (D := D) (wr := [((a 25), .inl (k 5, 4, .inr (.inr (.inr (.inr (a4 (a 26) (a 27) (a 28) (a 29)))))))]) (va_runV (As := []) (rest := []) ⟨hx, hb, hml, hown, hts⟩ ((k_closeText l D k st lo a) H.size) (cwV 0 hts (gV tw_496 tw_498 tw_2 tw_79 tw_499) rfl rfl rfl (by decide +kernel) ⟨Nat.le_of_ble_eq_true rfl, Nat.le_of_ble_eq_true rfl⟩) (pV hS hAlo hlo hP hK (va_Dlo hD hAlo) hZ [0, 2] (by decide) rfl (ci := 7) (q0 := 0) rfl rfl) rfl rfl hl.1 rfl (lv_room (Nat.le_of_ble_eq_true rfl)) dX7_rule_52 ⟨Nat.le_of_ble_eq_true rfl, Nat.le_of_ble_eq_true rfl⟩) hS hA hP hD [0, 2] [1] rfl rfl (by decide) (by decide) (fun r_3 u H locs hw_3 hP hD hS => ?_)
  have hP : va_P D classes [((a 25), .inl (k 5, 4, .inr (.inr (.inr (.inr (a4 (a 26) (a 27) (a 28) (a 29)))))))] H := hP
  have hD : va_D A [((a 25), .inl (k 5, 4, .inr (.inr (.inr (.inr (a4 (a 26) (a 27) (a 28) (a 29)))))))] := hD
  try dsimp only at hw_3
  subst hw_3
  refine lv_istore_n (lv' := [(1, .int (-11)), (0, .ref (a 0))]) hx hb dX7_rule_55 rfl hl (by decide) rfl (fun ls hl => ?_)
  refine lv_iload_n hx hb dX7_rule_56 rfl (lv_at hl 0 rfl) ?_
  refine lv_if_ge (tgt := 62) hx hb dX7_rule_57 (by decide) (fun h => absurd h (by decide)) (fun _ => ?_)
  refine lv_iload_n hx hb dX7_rule_60 rfl (lv_at hl 0 rfl) ?_
  have hP9 := hP.sub (ws' := []) [] rfl
  have hD9 := hD.sub (ws' := []) [] (by decide) rfl
  exact W.iret (v := (-11)) hx hb hr (fun t ht hW => ⟨⟨(-11), (), rfl, rfl, by rw [ht]; exact hP9, hD9⟩, hS.F ht⟩) hS.2.2 dX7_rule_61


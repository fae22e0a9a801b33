theorem dX3_readFrom_0 : decode cX3_readFrom 0 = .ok (.aload_n 0, 1) := by decide +kernel
theorem dX3_readFrom_1 : decode cX3_readFrom 1 = .ok (.iconst 0, 1) := by decide +kernel
theorem dX3_readFrom_2 : decode cX3_readFrom 2 = .ok (.putfield 22, 3) := by decide +kernel
theorem dX3_readFrom_5 : decode cX3_readFrom 5 = .ok (.aload_n 0, 1) := by decide +kernel
theorem dX3_readFrom_6 : decode cX3_readFrom 6 = .ok (.iconst 0, 1) := by decide +kernel
theorem dX3_readFrom_7 : decode cX3_readFrom 7 = .ok (.putfield 25, 3) := by decide +kernel
theorem dX3_readFrom_10 : decode cX3_readFrom 10 = .ok (.aload_n 1, 1) := by decide +kernel
theorem dX3_readFrom_11 : decode cX3_readFrom 11 = .ok (.ldc 28, 2) := by decide +kernel
theorem dX3_readFrom_13 : decode cX3_readFrom 13 = .ok (.invokevirtual 29, 3) := by decide +kernel
theorem dX3_readFrom_16 : decode cX3_readFrom 16 = .ok (.aload_n 0, 1) := by decide +kernel
theorem dX3_readFrom_17 : decode cX3_readFrom 17 = .ok (.aload_n 1, 1) := by decide +kernel
theorem dX3_readFrom_18 : decode cX3_readFrom 18 = .ok (.iconst 0, 1) := by decide +kernel
theorem dX3_readFrom_19 : decode cX3_readFrom 19 = .ok (.bipush 24, 2) := by decide +kernel
theorem dX3_readFrom_21 : decode cX3_readFrom 21 = .ok (.invokevirtual 35, 3) := by decide +kernel
theorem dX3_readFrom_24 : decode cX3_readFrom 24 = .ok (.putfield 18, 3) := by decide +kernel
theorem dX3_readFrom_27 : decode cX3_readFrom 27 = .ok (.iconst 0, 1) := by decide +kernel
theorem dX3_readFrom_28 : decode cX3_readFrom 28 = .ok (.istore_n 2, 1) := by decide +kernel
theorem dX3_readFrom_29 : decode cX3_readFrom 29 = .ok (.iload_n 2, 1) := by decide +kernel
theorem dX3_readFrom_30 : decode cX3_readFrom 30 = .ok (.bipush 24, 2) := by decide +kernel
theorem dX3_readFrom_32 : decode cX3_readFrom 32 = .ok (.if_icmp .ge 30, 3) := by decide +kernel
theorem dX3_readFrom_35 : decode cX3_readFrom 35 = .ok (.aload_n 1, 1) := by decide +kernel
theorem dX3_readFrom_36 : decode cX3_readFrom 36 = .ok (.invokevirtual 39, 3) := by decide +kernel
theorem dX3_readFrom_39 : decode cX3_readFrom 39 = .ok (.ifCond .ne 23, 3) := by decide +kernel
theorem dX3_readFrom_62 : decode cX3_readFrom 62 = .ok (.aload_n 1, 1) := by decide +kernel
theorem dX3_readFrom_63 : decode cX3_readFrom 63 = .ok (.invokevirtual 39, 3) := by decide +kernel
theorem dX3_readFrom_66 : decode cX3_readFrom 66 = .ok (.ifCond .ne 27, 3) := by decide +kernel
theorem dX3_readFrom_93 : decode cX3_readFrom 93 = .ok (.aload_n 1, 1) := by decide +kernel
theorem dX3_readFrom_94 : decode cX3_readFrom 94 = .ok (.invokevirtual 39, 3) := by decide +kernel
theorem dX3_readFrom_97 : decode cX3_readFrom 97 = .ok (.ifCond .ne 19, 3) := by decide +kernel
theorem dX3_readFrom_116 : decode cX3_readFrom 116 = .ok (.return_, 1) := by decide +kernel
set_option maxHeartbeats 4000000 in
set_option maxRecDepth 100000 in
theorem k_Rule_readFrom (l : Launch) (D : va_G) (k : Nat → ClassId) (st : Nat → Nat) (lo : Nat) (h0 : Nat) (h1 : Nat) (h2 : Nat) (t0 : Nat) (t1 : Nat)  : CWv l D k st lo yX3_readFrom cX3_readFrom 3 none ({ frames := 6, cells := 0, slots := 0, locals := 129 }) 0 0 [.ref h0, .ref t0] [(h0, .inr (3, [.ref h1, .ref h2, .int 0, .int 0, .int 0])), (t0, .inr (6, [.ref t1, .int 0, .int 0, .int 0, .int 0, .int 0]))] (fun (_ : Unit) => True) (fun (_ : Unit) => [(t0, .inr (6, [.ref t1, .int 0, .int 0, .int 0, .int 1, .int 0]))]) := by
  intro sz
  refine Met.ofW (cc := cX3_readFrom) (maxL := 3) (ret := none) (by decide) rfl ?_
  intro p e s m args below meth c s₁ B hml hv
  obtain ⟨rfl, hsz, hlo, hP, hK, hDL, hZ⟩ := hv
  have hx := B.exec
  have hb := B.bytes
  have hr := B.returns
  have hts := WS_ts B.pre
  have hown : s.vm.findClass RX3 = some m.cls := findClass_of_methodNamed B.named
  have hlocks := B.notSynchronized
  subst hsz
  have hD := hDL.self (sz := s.heap.size)
  have hAlo := A_lo hDL hlo
  generalize hAe : va_A [(h0, .inr (3, [.ref h1, .ref h2, .int 0, .int 0, .int 0])), (t0, .inr (6, [.ref t1, .int 0, .int 0, .int 0, .int 0, .int 0]))] s.heap.size = A at hD hAlo ⊢
  have hA : ∀ q : Nat, s.heap.size ≤ q → A q := fun q h => by rw [← hAe]; exact Or.inr h
  have hS : va_S A s.heap s.heap [] := va_S.rf
  have hl := lv_entry ([.ref h0, .ref t0]) (n := 3) (Nat.le_of_ble_eq_true rfl)
  rw [lg_entry_eq]
  generalize (lg_sl ([.ref h0, .ref t0]) ++ List.replicate (3 - (lg_sl ([.ref h0, .ref t0])).length) Slot.unset).toArray = ls at hl ⊢
  have hl : lv_has ls 3 [(0, .ref h0), (1, .ref t0)] := hl
  refine lv_aload_n hx hb dX3_readFrom_0 rfl (lv_at hl 0 rfl) ?_
  refine lv_iconst (v := 0) hx hb dX3_readFrom_1 (by decide) ?_
  refine va_put (D := D) (ci := 3) (v := .int 0) (ty := .int) (C := RX3) (T := TX3) (N := 5) hx hb hts inX3 tyX3 tyX3_ok nmX3 hown hK hP hD hS 0 rfl rfl 3 (by decide) (hts _ tw_292) (fun _ h9 => h9) rfl (by decide +kernel) rfl rfl (Nat.le_of_ble_eq_true rfl) dX3_readFrom_2 (fun H locs hP hD hS => ?_)
  have hP : va_P D classes [(h0, .inr (3, [.ref h1, .ref h2, .int 0, .int 0, .int 0])), (t0, .inr (6, [.ref t1, .int 0, .int 0, .int 0, .int 0, .int 0]))] H := hP
  have hD : va_D A [(h0, .inr (3, [.ref h1, .ref h2, .int 0, .int 0, .int 0])), (t0, .inr (6, [.ref t1, .int 0, .int 0, .int 0, .int 0, .int 0]))] := hD
  refine lv_aload_n hx hb dX3_readFrom_5 rfl (lv_at hl 0 rfl) ?_
  refine lv_iconst (v := 0) hx hb dX3_readFrom_6 (by decide) ?_
  refine va_put (D := D) (ci := 3) (v := .int 0) (ty := .int) (C := RX3) (T := TX3) (N := 5) hx hb hts inX3 tyX3 tyX3_ok nmX3 hown hK hP hD hS 0 rfl rfl 4 (by decide) (hts _ tw_293) (fun _ h9 => h9) rfl (by decide +kernel) rfl rfl (Nat.le_of_ble_eq_true rfl) dX3_readFrom_7 (fun H locs hP hD hS => ?_)
  have hP : va_P D classes [(h0, .inr (3, [.ref h1, .ref h2, .int 0, .int 0, .int 0])), (t0, .inr (6, [.ref t1, .int 0, .int 0, .int 0, .int 0, .int 0]))] H := hP
  have hD : va_D A [(h0, .inr (3, [.ref h1, .ref h2, .int 0, .int 0, .int 0])), (t0, .inr (6, [.ref t1, .int 0, .int 0, .int 0, .int 0, .int 0]))] := hD
  refine lv_aload_n hx hb dX3_readFrom_10 rfl (lv_at hl 1 rfl) ?_
  refine va_ldcS hx hb hown hZ.2.2.2.2.2.1 dX3_readFrom_11 ?_
  refine rw_v (D := D) (wr := [(h0, .inr (3, [.ref h1, .ref h2, .int 0, .int 0, .int 0]))]) (va_runV (As := [.ref (st 2)]) (rest := []) ⟨hx, hb, hml, hown, hts⟩ ((k_needWord l D k st lo t0 t1 0 0) H.size) (cwV 1 hts (gV tw_680 tw_483 tw_484 tw_80 tw_485) rfl rfl rfl (by decide +kernel) ⟨Nat.le_of_ble_eq_true rfl, Nat.le_of_ble_eq_true rfl⟩) (pV hS hAlo hlo hP hK (va_Dlo hD hAlo) hZ [1] (by decide) rfl (ci := 6) (q0 := 0) rfl rfl) rfl rfl hl.1 rfl (lv_room (Nat.le_of_ble_eq_true rfl)) dX3_readFrom_13 ⟨Nat.le_of_ble_eq_true rfl, Nat.le_of_ble_eq_true rfl⟩) hS hA hP hD [1] [0] rfl rfl (by decide) (by decide) (fun u H locs hw_1 hP hD hS => ?_)
  have hP : va_P D classes [(h0, .inr (3, [.ref h1, .ref h2, .int 0, .int 0, .int 0])), (t0, .inr (6, [.ref t1, .int 0, .int 0, .int 0, .int 1, .int 0]))] H := hP
  have hD : va_D A [(h0, .inr (3, [.ref h1, .ref h2, .int 0, .int 0, .int 0])), (t0, .inr (6, [.ref t1, .int 0, .int 0, .int 0, .int 1, .int 0]))] := hD
  try dsimp only at hw_1
  refine lv_aload_n hx hb dX3_readFrom_16 rfl (lv_at hl 0 rfl) ?_
  refine lv_aload_n hx hb dX3_readFrom_17 rfl (lv_at hl 1 rfl) ?_
  refine lv_iconst (v := 0) hx hb dX3_readFrom_18 (by decide) ?_
  refine lv_bipush (v := 24) hx hb dX3_readFrom_19 (by decide) ?_
  refine ro_i (D := D) (va_runV (As := [.int 0, .int 24]) (rest := [.ref h0]) ⟨hx, hb, hml, hown, hts⟩ ((k_needNumber l D k st lo t0 t1 0 0 0 0 0 24) H.size) (cwV 2 hts (gV tw_681 tw_468 tw_469 tw_80 tw_470) rfl rfl rfl (by decide +kernel) ⟨Nat.le_of_ble_eq_true rfl, Nat.le_of_ble_eq_true rfl⟩) (pV hS hAlo hlo hP hK (va_Dlo hD hAlo) hZ [1] (by decide) rfl (ci := 6) (q0 := 0) rfl rfl) rfl rfl hl.1 rfl (lv_room (Nat.le_of_ble_eq_true rfl)) dX3_readFrom_21 ⟨Nat.le_of_ble_eq_true rfl, Nat.le_of_ble_eq_true rfl⟩) hS hA hP (fun r_2 H locs hw_2 hP hS => ?_)
  try dsimp only at hw_2
  subst hw_2
  refine va_put (D := D) (ci := 3) (v := .int 0) (ty := .int) (C := RX3) (T := TX3) (N := 5) hx hb hts inX3 tyX3 tyX3_ok nmX3 hown hK hP hD hS 0 rfl rfl 2 (by decide) (hts _ tw_291) (fun _ h9 => h9) rfl (by decide +kernel) rfl rfl (Nat.le_of_ble_eq_true rfl) dX3_readFrom_24 (fun H locs hP hD hS => ?_)
  have hP : va_P D classes [(h0, .inr (3, [.ref h1, .ref h2, .int 0, .int 0, .int 0])), (t0, .inr (6, [.ref t1, .int 0, .int 0, .int 0, .int 1, .int 0]))] H := hP
  have hD : va_D A [(h0, .inr (3, [.ref h1, .ref h2, .int 0, .int 0, .int 0])), (t0, .inr (6, [.ref t1, .int 0, .int 0, .int 0, .int 1, .int 0]))] := hD
  refine lv_iconst (v := 0) hx hb dX3_readFrom_27 (by decide) ?_
  refine lv_istore_n (lv' := [(2, .int 0), (0, .ref h0), (1, .ref t0)]) hx hb dX3_readFrom_28 rfl hl (by decide) rfl (fun ls hl => ?_)
  refine lv_iload_n hx hb dX3_readFrom_29 rfl (lv_at hl 0 rfl) ?_
  refine lv_bipush (v := 24) hx hb dX3_readFrom_30 (by decide) ?_
  refine lv_icmp_ge (tgt := 62) hx hb dX3_readFrom_32 (by decide) (fun h => absurd h (by decide)) (fun _ => ?_)
  refine lv_aload_n hx hb dX3_readFrom_35 rfl (lv_at hl 2 rfl) ?_
  refine ro_i (D := D) (va_runV (As := []) (rest := []) ⟨hx, hb, hml, hown, hts⟩ ((k_failed l D k st lo t0 t1 0 0 0 1 0) H.size) (cwV 0 hts (gV tw_682 tw_368 tw_369 tw_80 tw_370) rfl rfl rfl (by decide +kernel) ⟨Nat.le_of_ble_eq_true rfl, Nat.le_of_ble_eq_true rfl⟩) (pV hS hAlo hlo hP hK (va_Dlo hD hAlo) hZ [1] (by decide) rfl (ci := 6) (q0 := 0) rfl rfl) rfl rfl hl.1 rfl (lv_room (Nat.le_of_ble_eq_true rfl)) dX3_readFrom_36 ⟨Nat.le_of_ble_eq_true rfl, Nat.le_of_ble_eq_true rfl⟩) hS hA hP (fun r_3 H locs hw_3 hP hS => ?_)
  try dsimp only at hw_3
  rcases hw_3 with ⟨rfl, hw_3⟩ | ⟨rfl, hw_3⟩
  · refine lv_if_ne (tgt := 62) hx hb dX3_readFrom_39 (by decide) (fun _ => ?_) (fun h => absurd h (by decide))
    refine lv_aload_n hx hb dX3_readFrom_62 rfl (lv_at hl 2 rfl) ?_
    refine ro_i (D := D) (va_runV (As := []) (rest := []) ⟨hx, hb, hml, hown, hts⟩ ((k_failed l D k st lo t0 t1 0 0 0 1 0) H.size) (cwV 0 hts (gV tw_682 tw_368 tw_369 tw_80 tw_370) rfl rfl rfl (by decide +kernel) ⟨Nat.le_of_ble_eq_true rfl, Nat.le_of_ble_eq_true rfl⟩) (pV hS hAlo hlo hP hK (va_Dlo hD hAlo) hZ [1] (by decide) rfl (ci := 6) (q0 := 0) rfl rfl) rfl rfl hl.1 rfl (lv_room (Nat.le_of_ble_eq_true rfl)) dX3_readFrom_63 ⟨Nat.le_of_ble_eq_true rfl, Nat.le_of_ble_eq_true rfl⟩) hS hA hP (fun r_4 H locs hw_4 hP hS => ?_)
    try dsimp only at hw_4
    rcases hw_4 with ⟨rfl, hw_4⟩ | ⟨rfl, hw_4⟩
    · refine lv_if_ne (tgt := 93) hx hb dX3_readFrom_66 (by decide) (fun _ => ?_) (fun h => absurd h (by decide))
      refine lv_aload_n hx hb dX3_readFrom_93 rfl (lv_at hl 2 rfl) ?_
      refine ro_i (D := D) (va_runV (As := []) (rest := []) ⟨hx, hb, hml, hown, hts⟩ ((k_failed l D k st lo t0 t1 0 0 0 1 0) H.size) (cwV 0 hts (gV tw_682 tw_368 tw_369 tw_80 tw_370) rfl rfl rfl (by decide +kernel) ⟨Nat.le_of_ble_eq_true rfl, Nat.le_of_ble_eq_true rfl⟩) (pV hS hAlo hlo hP hK (va_Dlo hD hAlo) hZ [1] (by decide) rfl (ci := 6) (q0 := 0) rfl rfl) rfl rfl hl.1 rfl (lv_room (Nat.le_of_ble_eq_true rfl)) dX3_readFrom_94 ⟨Nat.le_of_ble_eq_true rfl, Nat.le_of_ble_eq_true rfl⟩) hS hA hP (fun r_5 H locs hw_5 hP hS => ?_)
      try dsimp only at hw_5
      rcases hw_5 with ⟨rfl, hw_5⟩ | ⟨rfl, hw_5⟩
      · refine lv_if_ne (tgt := 116) hx hb dX3_readFrom_97 (by decide) (fun _ => ?_) (fun h => absurd h (by decide))
        have hP9 := hP.sub (ws' := [(t0, .inr (6, [.ref t1, .int 0, .int 0, .int 0, .int 1, .int 0]))]) [1] rfl
        have hD9 := hD.sub (ws' := [(t0, .inr (6, [.ref t1, .int 0, .int 0, .int 0, .int 1, .int 0]))]) [1] (by decide) rfl
        exact W.vret hx hb hr (fun t ht hW => ⟨⟨(), rfl, trivial, by rw [ht]; exact hP9, hD9⟩, hS.F ht⟩) hS.2.2 dX3_readFrom_116
      · exact absurd hw_5 (by decide)
    · exact absurd hw_4 (by decide)
  · exact absurd hw_3 (by decide)


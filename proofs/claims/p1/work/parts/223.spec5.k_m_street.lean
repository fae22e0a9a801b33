theorem dX8_street_0 : decode cX8_street 0 = .ok (.iload_n 1, 1) := by decide +kernel
theorem dX8_street_1 : decode cX8_street 1 = .ok (.i2l, 1) := by decide +kernel
theorem dX8_street_2 : decode cX8_street 2 = .ok (.lconst 0, 1) := by decide +kernel
theorem dX8_street_3 : decode cX8_street 3 = .ok (.ldc2_w 105, 3) := by decide +kernel
theorem dX8_street_6 : decode cX8_street 6 = .ok (.invokestatic 107, 3) := by decide +kernel
theorem dX8_street_9 : decode cX8_street 9 = .ok (.ifCond .ne 7, 3) := by decide +kernel
theorem dX8_street_12 : decode cX8_street 12 = .ok (.sipush (-1001), 3) := by decide +kernel
theorem dX8_street_15 : decode cX8_street 15 = .ok (.ireturn, 1) := by decide +kernel
theorem dX8_street_16 : decode cX8_street 16 = .ok (.aload_n 0, 1) := by decide +kernel
theorem dX8_street_17 : decode cX8_street 17 = .ok (.iconst (-1), 1) := by decide +kernel
theorem dX8_street_18 : decode cX8_street 18 = .ok (.putfield 25, 3) := by decide +kernel
theorem dX8_street_21 : decode cX8_street 21 = .ok (.aload_n 0, 1) := by decide +kernel
theorem dX8_street_22 : decode cX8_street 22 = .ok (.iconst 0, 1) := by decide +kernel
theorem dX8_street_23 : decode cX8_street 23 = .ok (.putfield 118, 3) := by decide +kernel
theorem dX8_street_26 : decode cX8_street 26 = .ok (.aload_n 0, 1) := by decide +kernel
theorem dX8_street_27 : decode cX8_street 27 = .ok (.invokevirtual 102, 3) := by decide +kernel
theorem dX8_street_30 : decode cX8_street 30 = .ok (.iconst 0, 1) := by decide +kernel
theorem dX8_street_31 : decode cX8_street 31 = .ok (.istore_n 2, 1) := by decide +kernel
theorem dX8_street_32 : decode cX8_street 32 = .ok (.iload_n 2, 1) := by decide +kernel
theorem dX8_street_33 : decode cX8_street 33 = .ok (.ifCond .ne 18, 3) := by decide +kernel
theorem dX8_street_36 : decode cX8_street 36 = .ok (.aload_n 0, 1) := by decide +kernel
theorem dX8_street_37 : decode cX8_street 37 = .ok (.invokevirtual 121, 3) := by decide +kernel
theorem dX8_street_40 : decode cX8_street 40 = .ok (.ifCond .lt 11, 3) := by decide +kernel
theorem dX8_street_51 : decode cX8_street 51 = .ok (.iload_n 2, 1) := by decide +kernel
theorem dX8_street_52 : decode cX8_street 52 = .ok (.ifCond .ne 22, 3) := by decide +kernel
theorem dX8_street_55 : decode cX8_street 55 = .ok (.aload_n 0, 1) := by decide +kernel
theorem dX8_street_56 : decode cX8_street 56 = .ok (.getfield 177, 3) := by decide +kernel
theorem dX8_street_59 : decode cX8_street 59 = .ok (.ifCond .ne 15, 3) := by decide +kernel
theorem dX8_street_62 : decode cX8_street 62 = .ok (.aload_n 0, 1) := by decide +kernel
theorem dX8_street_63 : decode cX8_street 63 = .ok (.iconst 1, 1) := by decide +kernel
theorem dX8_street_64 : decode cX8_street 64 = .ok (.aload_n 0, 1) := by decide +kernel
theorem dX8_street_65 : decode cX8_street 65 = .ok (.getfield 113, 3) := by decide +kernel
theorem dX8_street_68 : decode cX8_street 68 = .ok (.invokevirtual 159, 3) := by decide +kernel
theorem dX8_street_71 : decode cX8_street 71 = .ok (.goto 4, 3) := by decide +kernel
theorem dX8_street_75 : decode cX8_street 75 = .ok (.istore_n 2, 1) := by decide +kernel
theorem dX8_street_76 : decode cX8_street 76 = .ok (.aload_n 0, 1) := by decide +kernel
theorem dX8_street_77 : decode cX8_street 77 = .ok (.iconst 0, 1) := by decide +kernel
theorem dX8_street_78 : decode cX8_street 78 = .ok (.putfield 113, 3) := by decide +kernel
theorem dX8_street_81 : decode cX8_street 81 = .ok (.iload_n 2, 1) := by decide +kernel
theorem dX8_street_82 : decode cX8_street 82 = .ok (.ifCond .le 8, 3) := by decide +kernel
theorem dX8_street_85 : decode cX8_street 85 = .ok (.bipush (-10), 2) := by decide +kernel
theorem dX8_street_87 : decode cX8_street 87 = .ok (.iload_n 2, 1) := by decide +kernel
theorem dX8_street_88 : decode cX8_street 88 = .ok (.isub, 1) := by decide +kernel
theorem dX8_street_89 : decode cX8_street 89 = .ok (.ireturn, 1) := by decide +kernel
set_option maxHeartbeats 4000000 in
set_option maxRecDepth 100000 in
theorem k_m_street (l : Launch) (D : va_G) (k : Nat → ClassId) (st : Nat → Nat) (lo : Nat) (a : Nat → Nat) (p0 : Int32) (f : Nat → Int32)  : CWi l D k st lo yX8_street cX8_street 4 (some .int) ({ frames := 1, cells := 0, slots := 0, locals := 25 }) 0 0 [.ref (a 0), .int p0] [((a 0), .inr (8, [.ref (a 1), .ref (a 2), .ref (a 3), .ref (a 4), .ref (a 5), .int 0, .int (-1), .int 0, .long 0, .int 0, .int 0, .int 0, .int 0, .ref (a 14), .ref (a 15), .ref (a 16), .int 0, .ref (a 18), .ref (a 19), .ref (a 20), .ref (a 21), .ref (a 22), .ref (a 23), .int 0, .ref (a 25), .ref (a 26), .ref (a 27), .ref (a 28), .ref (a 29), .ref (a 30), .int 0, .ref (a 32), .ref (a 33), .ref (a 34), .int 0, .ref (a 36), .ref (a 37), .int 0, .int 0, .ref (a 40), .ref (a 41), .int 0, .ref (a 43), .ref (a 44)])), ((a 16), .inl (k 1, 9, .inl f))] (fun (r : Int32) (_ : Unit) => (inB p0 0 2 → r = -11) ∧ (¬ (inB p0 0 2) → r = -1001)) (fun (_ : Unit) => []) := by
  intro sz
  refine Met.ofW (cc := cX8_street) (maxL := 4) (ret := (some .int)) (by decide) rfl ?_
  intro p e s m args below meth c s₁ B hml hv
  obtain ⟨rfl, hsz, hlo, hP, hK, hDL, hZ⟩ := hv
  have hx := B.exec
  have hb := B.bytes
  have hr := B.returns
  have hts := WS_ts B.pre
  have hown : s.vm.findClass RX8 = some m.cls := findClass_of_methodNamed B.named
  have hlocks := B.notSynchronized
  subst hsz
  have hD := hDL.self (sz := s.heap.size)
  have hAlo := A_lo hDL hlo
  generalize hAe : va_A [((a 0), .inr (8, [.ref (a 1), .ref (a 2), .ref (a 3), .ref (a 4), .ref (a 5), .int 0, .int (-1), .int 0, .long 0, .int 0, .int 0, .int 0, .int 0, .ref (a 14), .ref (a 15), .ref (a 16), .int 0, .ref (a 18), .ref (a 19), .ref (a 20), .ref (a 21), .ref (a 22), .ref (a 23), .int 0, .ref (a 25), .ref (a 26), .ref (a 27), .ref (a 28), .ref (a 29), .ref (a 30), .int 0, .ref (a 32), .ref (a 33), .ref (a 34), .int 0, .ref (a 36), .ref (a 37), .int 0, .int 0, .ref (a 40), .ref (a 41), .int 0, .ref (a 43), .ref (a 44)])), ((a 16), .inl (k 1, 9, .inl f))] s.heap.size = A at hD hAlo ⊢
  have hA : ∀ q : Nat, s.heap.size ≤ q → A q := fun q h => by rw [← hAe]; exact Or.inr h
  have hS : va_S A s.heap s.heap [] := va_S.rf
  have hl := lv_entry ([.ref (a 0), .int p0]) (n := 4) (Nat.le_of_ble_eq_true rfl)
  rw [lg_entry_eq]
  generalize (lg_sl ([.ref (a 0), .int p0]) ++ List.replicate (4 - (lg_sl ([.ref (a 0), .int p0])).length) Slot.unset).toArray = ls at hl ⊢
  have hl : lv_has ls 4 [(0, .ref (a 0)), (1, .int p0)] := hl
  refine lv_iload_n hx hb dX8_street_0 rfl (lv_at hl 1 rfl) ?_
  refine lv_i2l (v := p0.toInt64) hx hb dX8_street_1 rfl ?_
  refine lv_lconst (v := (0 : Int32).toInt64) hx hb dX8_street_2 (by decide) ?_
  refine lv_ldc2 hx hb hown (hts _ tw_1119) dX8_street_3 ?_
  refine lv_tl (y := ((2 : Int32).toInt64)) (by decide) ?_
  refine ro_i (D := D) (va_runS (As := [.long (p0.toInt64), .long ((0 : Int32).toInt64), .long ((2 : Int32).toInt64)]) (rest := []) ⟨hx, hb, hml, hown, hts⟩ ((k_in l D k st lo p0 (0 : Int32) (2 : Int32)) s.heap.size) (va_cwS 3 hts (gS tw_1111 tw_1112 tw_87 tw_1113) rfl rfl rfl (by decide +kernel) ⟨Nat.le_of_ble_eq_true rfl, Nat.le_of_ble_eq_true rfl⟩) (pS hS hAlo hlo hP hK (va_Dlo hD hAlo) hZ [] (by decide) rfl) rfl rfl hl.1 rfl (lv_room (Nat.le_of_ble_eq_true rfl)) dX8_street_6 ⟨Nat.le_of_ble_eq_true rfl, Nat.le_of_ble_eq_true rfl⟩) hS hA hP (fun r_1 H locs hw_1 hP hS => ?_)
  try dsimp only at hw_1
  rcases hw_1 with ⟨rfl, hw_1⟩ | ⟨rfl, hw_1⟩
  · refine lv_if_ne (tgt := 16) hx hb dX8_street_9 (by decide) (fun _ => ?_) (fun h => absurd h (by decide))
    refine lv_aload_n hx hb dX8_street_16 rfl (lv_at hl 0 rfl) ?_
    refine lv_iconst (v := (-1)) hx hb dX8_street_17 (by decide) ?_
    refine va_put (D := D) (ci := 8) (v := .int (-1)) (ty := .int) (C := RX8) (T := TX8) (N := 44) hx hb hts inX8 tyX8 tyX8_ok nmX8 hown hK hP hD hS 0 rfl rfl 6 (by decide) (hts _ tw_979) (fun _ h9 => h9) rfl (by decide +kernel) rfl rfl (Nat.le_of_ble_eq_true rfl) dX8_street_18 (fun H locs hP hD hS => ?_)
    have hP : va_P D classes [((a 0), .inr (8, [.ref (a 1), .ref (a 2), .ref (a 3), .ref (a 4), .ref (a 5), .int 0, .int (-1), .int 0, .long 0, .int 0, .int 0, .int 0, .int 0, .ref (a 14), .ref (a 15), .ref (a 16), .int 0, .ref (a 18), .ref (a 19), .ref (a 20), .ref (a 21), .ref (a 22), .ref (a 23), .int 0, .ref (a 25), .ref (a 26), .ref (a 27), .ref (a 28), .ref (a 29), .ref (a 30), .int 0, .ref (a 32), .ref (a 33), .ref (a 34), .int 0, .ref (a 36), .ref (a 37), .int 0, .int 0, .ref (a 40), .ref (a 41), .int 0, .ref (a 43), .ref (a 44)])), ((a 16), .inl (k 1, 9, .inl f))] H := hP
    have hD : va_D A [((a 0), .inr (8, [.ref (a 1), .ref (a 2), .ref (a 3), .ref (a 4), .ref (a 5), .int 0, .int (-1), .int 0, .long 0, .int 0, .int 0, .int 0, .int 0, .ref (a 14), .ref (a 15), .ref (a 16), .int 0, .ref (a 18), .ref (a 19), .ref (a 20), .ref (a 21), .ref (a 22), .ref (a 23), .int 0, .ref (a 25), .ref (a 26), .ref (a 27), .ref (a 28), .ref (a 29), .ref (a 30), .int 0, .ref (a 32), .ref (a 33), .ref (a 34), .int 0, .ref (a 36), .ref (a 37), .int 0, .int 0, .ref (a 40), .ref (a 41), .int 0, .ref (a 43), .ref (a 44)])), ((a 16), .inl (k 1, 9, .inl f))] := hD
    refine lv_aload_n hx hb dX8_street_21 rfl (lv_at hl 0 rfl) ?_
    refine lv_iconst (v := 0) hx hb dX8_street_22 (by decide) ?_
    refine va_put (D := D) (ci := 8) (v := .int 0) (ty := .int) (C := RX8) (T := TX8) (N := 44) hx hb hts inX8 tyX8 tyX8_ok nmX8 hown hK hP hD hS 0 rfl rfl 7 (by decide) (hts _ tw_980) (fun _ h9 => h9) rfl (by decide +kernel) rfl rfl (Nat.le_of_ble_eq_true rfl) dX8_street_23 (fun H locs hP hD hS => ?_)
    have hP : va_P D classes [((a 0), .inr (8, [.ref (a 1), .ref (a 2), .ref (a 3), .ref (a 4), .ref (a 5), .int 0, .int (-1), .int 0, .long 0, .int 0, .int 0, .int 0, .int 0, .ref (a 14), .ref (a 15), .ref (a 16), .int 0, .ref (a 18), .ref (a 19), .ref (a 20), .ref (a 21), .ref (a 22), .ref (a 23), .int 0, .ref (a 25), .ref (a 26), .ref (a 27), .ref (a 28), .ref (a 29), .ref (a 30), .int 0, .ref (a 32), .ref (a 33), .ref (a 34), .int 0, .ref (a 36), .ref (a 37), .int 0, .int 0, .ref (a 40), .ref (a 41), .int 0, .ref (a 43), .ref (a 44)])), ((a 16), .inl (k 1, 9, .inl f))] H := hP
    have hD : va_D A [((a 0), .inr (8, [.ref (a 1), .ref (a 2), .ref (a 3), .ref (a 4), .ref (a 5), .int 0, .int (-1), .int 0, .long 0, .int 0, .int 0, .int 0, .int 0, .ref (a 14), .ref (a 15), .ref (a 16), .int 0, .ref (a 18), .ref (a 19), .ref (a 20), .ref (a 21), .ref (a 22), .ref (a 23), .int 0, .ref (a 25), .ref (a 26), .ref (a 27), .ref (a 28), .ref (a 29), .ref (a 30), .int 0, .ref (a 32), .ref (a 33), .ref (a 34), .int 0, .ref (a 36), .ref (a 37), .int 0, .int 0, .ref (a 40), .ref (a 41), .int 0, .ref (a 43), .ref (a 44)])), ((a 16), .inl (k 1, 9, .inl f))] := hD
    refine lv_aload_n hx hb dX8_street_26 rfl (lv_at hl 0 rfl) ?_
    refine rw_v (D := D) (wr := []) (va_runV (As := []) (rest := []) ⟨hx, hb, hml, hown, hts⟩ ((k_m_bare l D k st lo (a 0) (a 1) (a 2) (a 3) (a 4) (a 5) (a 14) (a 15) (a 16) (a 18) (a 19) (a 20) (a 21) (a 22) (a 23) (a 25) (a 26) (a 27) (a 28) (a 29) (a 30) (a 32) (a 33) (a 34) (a 36) (a 37) (a 40) (a 41) (a 43) (a 44) f) H.size) (cwV 0 hts (gV tw_969 tw_971 tw_26 tw_87 tw_972) rfl rfl rfl (by decide +kernel) ⟨Nat.le_of_ble_eq_true rfl, Nat.le_of_ble_eq_true rfl⟩) (pV hS hAlo hlo hP hK (va_Dlo hD hAlo) hZ [0, 1] (by decide) rfl (ci := 8) (q0 := 0) rfl rfl) rfl rfl hl.1 rfl (lv_room (Nat.le_of_ble_eq_true rfl)) dX8_street_27 ⟨Nat.le_of_ble_eq_true rfl, Nat.le_of_ble_eq_true rfl⟩) hS hA hP hD [0, 1] [] rfl rfl (by decide) (by decide) (fun u H locs hw_2 hP hD hS => ?_)
    obtain ⟨g_2, rfl⟩ : ∃ z, z = u := ⟨_, rfl⟩
    have hP : va_P D classes [((a 0), .inr (8, [.ref (a 1), .ref (a 2), .ref (a 3), .ref (a 4), .ref (a 5), .int 0, .int (-1), .int 0, .long 0, .int 0, .int 0, .int 0, .int 0, .ref (a 14), .ref (a 15), .ref (a 16), .int 0, .ref (a 18), .ref (a 19), .ref (a 20), .ref (a 21), .ref (a 22), .ref (a 23), .int 0, .ref (a 25), .ref (a 26), .ref (a 27), .ref (a 28), .ref (a 29), .ref (a 30), .int 0, .ref (a 32), .ref (a 33), .ref (a 34), .int 0, .ref (a 36), .ref (a 37), .int 0, .int 0, .ref (a 40), .ref (a 41), .int 0, .ref (a 43), .ref (a 44)])), ((a 16), .inl (k 1, 9, .inl g_2))] H := hP
    have hD : va_D A [((a 0), .inr (8, [.ref (a 1), .ref (a 2), .ref (a 3), .ref (a 4), .ref (a 5), .int 0, .int (-1), .int 0, .long 0, .int 0, .int 0, .int 0, .int 0, .ref (a 14), .ref (a 15), .ref (a 16), .int 0, .ref (a 18), .ref (a 19), .ref (a 20), .ref (a 21), .ref (a 22), .ref (a 23), .int 0, .ref (a 25), .ref (a 26), .ref (a 27), .ref (a 28), .ref (a 29), .ref (a 30), .int 0, .ref (a 32), .ref (a 33), .ref (a 34), .int 0, .ref (a 36), .ref (a 37), .int 0, .int 0, .ref (a 40), .ref (a 41), .int 0, .ref (a 43), .ref (a 44)])), ((a 16), .inl (k 1, 9, .inl g_2))] := hD
    try dsimp only at hw_2
    refine lv_iconst (v := 0) hx hb dX8_street_30 (by decide) ?_
    refine lv_istore_n (lv' := [(2, .int 0), (0, .ref (a 0)), (1, .int p0)]) hx hb dX8_street_31 rfl hl (by decide) rfl (fun ls hl => ?_)
    refine lv_iload_n hx hb dX8_street_32 rfl (lv_at hl 0 rfl) ?_
    refine lv_if_ne (tgt := 51) hx hb dX8_street_33 (by decide) (fun h => absurd (by decide) h) (fun _ => ?_)
    refine lv_aload_n hx hb dX8_street_36 rfl (lv_at hl 1 rfl) ?_
    refine ro_i (D := D) (va_runV (As := []) (rest := []) ⟨hx, hb, hml, hown, hts⟩ ((k_m_here l D k st lo a) H.size) (cwV 0 hts (gV tw_1120 tw_1122 tw_27 tw_87 tw_1123) rfl rfl rfl (by decide +kernel) ⟨Nat.le_of_ble_eq_true rfl, Nat.le_of_ble_eq_true rfl⟩) (pV hS hAlo hlo hP hK (va_Dlo hD hAlo) hZ [0] (by decide) rfl (ci := 8) (q0 := 0) rfl rfl) rfl rfl hl.1 rfl (lv_room (Nat.le_of_ble_eq_true rfl)) dX8_street_37 ⟨Nat.le_of_ble_eq_true rfl, Nat.le_of_ble_eq_true rfl⟩) hS hA hP (fun r_3 H locs hw_3 hP hS => ?_)
    try dsimp only at hw_3
    subst hw_3
    refine lv_if_lt (tgt := 51) hx hb dX8_street_40 (by decide) (fun _ => ?_) (fun h => absurd (by decide) h)
    refine lv_iload_n hx hb dX8_street_51 rfl (lv_at hl 0 rfl) ?_
    refine lv_if_ne (tgt := 74) hx hb dX8_street_52 (by decide) (fun h => absurd (by decide) h) (fun _ => ?_)
    refine lv_aload_n hx hb dX8_street_55 rfl (lv_at hl 1 rfl) ?_
    refine va_get (D := D) (ci := 8) (v := .int 0) (C := RX8) (T := TX8) (N := 44) hx hb hts inX8 hown hK hP 0 rfl rfl 12 (by decide) (hts _ tw_985) (fun _ h9 => h9) rfl dX8_street_56 ?_
    refine lv_if_ne (tgt := 74) hx hb dX8_street_59 (by decide) (fun h => absurd (by decide) h) (fun _ => ?_)
    refine lv_aload_n hx hb dX8_street_62 rfl (lv_at hl 1 rfl) ?_
    refine lv_iconst (v := 1) hx hb dX8_street_63 (by decide) ?_
    refine lv_aload_n hx hb dX8_street_64 rfl (lv_at hl 1 rfl) ?_
    refine va_get (D := D) (ci := 8) (v := .int 0) (C := RX8) (T := TX8) (N := 44) hx hb hts inX8 hown hK hP 0 rfl rfl 5 (by decide) (hts _ tw_978) (fun _ h9 => h9) rfl dX8_street_65 ?_
    refine rw_i (D := D) (wr := [((a 16), .inl (k 1, 9, .inl g_2))]) (va_runV (As := [.int 1, .int 0]) (rest := []) ⟨hx, hb, hml, hown, hts⟩ ((k_m_fails l D k st lo (a 0) (a 1) (a 2) (a 3) (a 4) (a 5) (a 14) (a 15) (a 16) (a 18) (a 19) (a 20) (a 21) (a 22) (a 23) (a 25) (a 26) (a 27) (a 28) (a 29) (a 30) (a 32) (a 33) (a 34) (a 36) (a 37) (a 40) (a 41) (a 43) (a 44) 1 0) H.size) (cwV 2 hts (gV tw_1151 tw_1153 tw_31 tw_87 tw_1154) rfl rfl rfl (by decide +kernel) ⟨Nat.le_of_ble_eq_true rfl, Nat.le_of_ble_eq_true rfl⟩) (pV hS hAlo hlo hP hK (va_Dlo hD hAlo) hZ [0] (by decide) rfl (ci := 8) (q0 := 0) rfl rfl) rfl rfl hl.1 rfl (lv_room (Nat.le_of_ble_eq_true rfl)) dX8_street_68 ⟨Nat.le_of_ble_eq_true rfl, Nat.le_of_ble_eq_true rfl⟩) hS hA hP hD [0] [1] rfl rfl (by decide) (by decide) (fun r_4 u H locs hw_4 hP hD hS => ?_)
    have hP : va_P D classes [((a 16), .inl (k 1, 9, .inl g_2)), ((a 0), .inr (8, [.ref (a 1), .ref (a 2), .ref (a 3), .ref (a 4), .ref (a 5), .int 0, .int 0, .int 0, .long 0, .int 0, .int 0, .int 0, .int 0, .ref (a 14), .ref (a 15), .ref (a 16), .int 0, .ref (a 18), .ref (a 19), .ref (a 20), .ref (a 21), .ref (a 22), .ref (a 23), .int 0, .ref (a 25), .ref (a 26), .ref (a 27), .ref (a 28), .ref (a 29), .ref (a 30), .int 0, .ref (a 32), .ref (a 33), .ref (a 34), .int 0, .ref (a 36), .ref (a 37), .int 0, .int 0, .ref (a 40), .ref (a 41), .int 0, .ref (a 43), .ref (a 44)]))] H := hP
    have hD : va_D A [((a 16), .inl (k 1, 9, .inl g_2)), ((a 0), .inr (8, [.ref (a 1), .ref (a 2), .ref (a 3), .ref (a 4), .ref (a 5), .int 0, .int 0, .int 0, .long 0, .int 0, .int 0, .int 0, .int 0, .ref (a 14), .ref (a 15), .ref (a 16), .int 0, .ref (a 18), .ref (a 19), .ref (a 20), .ref (a 21), .ref (a 22), .ref (a 23), .int 0, .ref (a 25), .ref (a 26), .ref (a 27), .ref (a 28), .ref (a 29), .ref (a 30), .int 0, .ref (a 32), .ref (a 33), .ref (a 34), .int 0, .ref (a 36), .ref (a 37), .int 0, .int 0, .ref (a 40), .ref (a 41), .int 0, .ref (a 43), .ref (a 44)]))] := hD
    try dsimp only at hw_4
    subst hw_4
    refine lv_goto (tgt := 75) hx hb dX8_street_71 (by decide) ?_
    refine lv_istore_n (lv' := [(2, .int 1), (0, .ref (a 0)), (1, .int p0)]) hx hb dX8_street_75 rfl hl (by decide) rfl (fun ls hl => ?_)
    refine lv_aload_n hx hb dX8_street_76 rfl (lv_at hl 1 rfl) ?_
    refine lv_iconst (v := 0) hx hb dX8_street_77 (by decide) ?_
    refine va_put (D := D) (ci := 8) (v := .int 0) (ty := .int) (C := RX8) (T := TX8) (N := 44) hx hb hts inX8 tyX8 tyX8_ok nmX8 hown hK hP hD hS 1 rfl rfl 5 (by decide) (hts _ tw_978) (fun _ h9 => h9) rfl (by decide +kernel) rfl rfl (Nat.le_of_ble_eq_true rfl) dX8_street_78 (fun H locs hP hD hS => ?_)
    have hP : va_P D classes [((a 16), .inl (k 1, 9, .inl g_2)), ((a 0), .inr (8, [.ref (a 1), .ref (a 2), .ref (a 3), .ref (a 4), .ref (a 5), .int 0, .int 0, .int 0, .long 0, .int 0, .int 0, .int 0, .int 0, .ref (a 14), .ref (a 15), .ref (a 16), .int 0, .ref (a 18), .ref (a 19), .ref (a 20), .ref (a 21), .ref (a 22), .ref (a 23), .int 0, .ref (a 25), .ref (a 26), .ref (a 27), .ref (a 28), .ref (a 29), .ref (a 30), .int 0, .ref (a 32), .ref (a 33), .ref (a 34), .int 0, .ref (a 36), .ref (a 37), .int 0, .int 0, .ref (a 40), .ref (a 41), .int 0, .ref (a 43), .ref (a 44)]))] H := hP
    have hD : va_D A [((a 16), .inl (k 1, 9, .inl g_2)), ((a 0), .inr (8, [.ref (a 1), .ref (a 2), .ref (a 3), .ref (a 4), .ref (a 5), .int 0, .int 0, .int 0, .long 0, .int 0, .int 0, .int 0, .int 0, .ref (a 14), .ref (a 15), .ref (a 16), .int 0, .ref (a 18), .ref (a 19), .ref (a 20), .ref (a 21), .ref (a 22), .ref (a 23), .int 0, .ref (a 25), .ref (a 26), .ref (a 27), .ref (a 28), .ref (a 29), .ref (a 30), .int 0, .ref (a 32), .ref (a 33), .ref (a 34), .int 0, .ref (a 36), .ref (a 37), .int 0, .int 0, .ref (a 40), .ref (a 41), .int 0, .ref (a 43), .ref (a 44)]))] := hD
    refine lv_iload_n hx hb dX8_street_81 rfl (lv_at hl 0 rfl) ?_
    refine lv_if_le (tgt := 90) hx hb dX8_street_82 (by decide) (fun h => absurd h (by decide)) (fun _ => ?_)
    refine lv_bipush (v := (-10)) hx hb dX8_street_85 (by decide) ?_
    refine lv_iload_n hx hb dX8_street_87 rfl (lv_at hl 0 rfl) ?_
    refine lv_isub hx hb dX8_street_88 ?_
    refine lv_ti (y := (-11)) (by decide) ?_
    have hP9 := hP.sub (ws' := []) [] rfl
    have hD9 := hD.sub (ws' := []) [] (by decide) rfl
    exact W.iret (v := (-11)) hx hb hr (fun t ht hW => ⟨⟨(-11), (), rfl, ⟨fun _ => rfl, fun h => absurd hw_1 h⟩, by rw [ht]; exact hP9, hD9⟩, hS.F ht⟩) hS.2.2 dX8_street_89
  · refine lv_if_ne (tgt := 16) hx hb dX8_street_9 (by decide) (fun h => absurd (by decide) h) (fun _ => ?_)
    refine lv_sipush (v := (-1001)) hx hb dX8_street_12 (by decide) ?_
    have hP9 := hP.sub (ws' := []) [] rfl
    have hD9 := hD.sub (ws' := []) [] (by decide) rfl
    exact W.iret (v := (-1001)) hx hb hr (fun t ht hW => ⟨⟨(-1001), (), rfl, ⟨fun h => absurd h hw_1, fun _ => rfl⟩, by rw [ht]; exact hP9, hD9⟩, hS.F ht⟩) hS.2.2 dX8_street_15


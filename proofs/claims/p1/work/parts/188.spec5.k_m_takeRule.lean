theorem dX8_takeRule_0 : decode cX8_takeRule 0 = .ok (.bipush 102, 2) := by decide +kernel
theorem dX8_takeRule_2 : decode cX8_takeRule 2 = .ok (.bipush 114, 2) := by decide +kernel
theorem dX8_takeRule_4 : decode cX8_takeRule 4 = .ok (.bipush 111, 2) := by decide +kernel
theorem dX8_takeRule_6 : decode cX8_takeRule 6 = .ok (.invokestatic 148, 3) := by decide +kernel
theorem dX8_takeRule_9 : decode cX8_takeRule 9 = .ok (.bipush 109, 2) := by decide +kernel
theorem dX8_takeRule_11 : decode cX8_takeRule 11 = .ok (.invokestatic 144, 3) := by decide +kernel
theorem dX8_takeRule_14 : decode cX8_takeRule 14 = .ok (.lstore_n 1, 1) := by decide +kernel
theorem dX8_takeRule_15 : decode cX8_takeRule 15 = .ok (.aload_n 0, 1) := by decide +kernel
theorem dX8_takeRule_16 : decode cX8_takeRule 16 = .ok (.lload_n 1, 1) := by decide +kernel
theorem dX8_takeRule_17 : decode cX8_takeRule 17 = .ok (.invokevirtual 186, 3) := by decide +kernel
theorem dX8_takeRule_20 : decode cX8_takeRule 20 = .ok (.istore_n 3, 1) := by decide +kernel
theorem dX8_takeRule_21 : decode cX8_takeRule 21 = .ok (.iload_n 3, 1) := by decide +kernel
theorem dX8_takeRule_22 : decode cX8_takeRule 22 = .ok (.ifCond .le 7, 3) := by decide +kernel
theorem dX8_takeRule_25 : decode cX8_takeRule 25 = .ok (.iload_n 3, 1) := by decide +kernel
theorem dX8_takeRule_26 : decode cX8_takeRule 26 = .ok (.goto 10, 3) := by decide +kernel
theorem dX8_takeRule_36 : decode cX8_takeRule 36 = .ok (.istore_n 3, 1) := by decide +kernel
theorem dX8_takeRule_37 : decode cX8_takeRule 37 = .ok (.aload_n 0, 1) := by decide +kernel
theorem dX8_takeRule_38 : decode cX8_takeRule 38 = .ok (.getfield 60, 3) := by decide +kernel
theorem dX8_takeRule_41 : decode cX8_takeRule 41 = .ok (.bipush 12, 2) := by decide +kernel
theorem dX8_takeRule_43 : decode cX8_takeRule 43 = .ok (.aload_n 0, 1) := by decide +kernel
theorem dX8_takeRule_44 : decode cX8_takeRule 44 = .ok (.getfield 276, 3) := by decide +kernel
theorem dX8_takeRule_47 : decode cX8_takeRule 47 = .ok (.imul, 1) := by decide +kernel
theorem dX8_takeRule_48 : decode cX8_takeRule 48 = .ok (.iconst 0, 1) := by decide +kernel
theorem dX8_takeRule_49 : decode cX8_takeRule 49 = .ok (.iastore, 1) := by decide +kernel
theorem dX8_takeRule_50 : decode cX8_takeRule 50 = .ok (.aload_n 0, 1) := by decide +kernel
theorem dX8_takeRule_51 : decode cX8_takeRule 51 = .ok (.getfield 63, 3) := by decide +kernel
theorem dX8_takeRule_54 : decode cX8_takeRule 54 = .ok (.bipush 12, 2) := by decide +kernel
theorem dX8_takeRule_56 : decode cX8_takeRule 56 = .ok (.aload_n 0, 1) := by decide +kernel
theorem dX8_takeRule_57 : decode cX8_takeRule 57 = .ok (.getfield 276, 3) := by decide +kernel
theorem dX8_takeRule_60 : decode cX8_takeRule 60 = .ok (.imul, 1) := by decide +kernel
theorem dX8_takeRule_61 : decode cX8_takeRule 61 = .ok (.aload_n 0, 1) := by decide +kernel
theorem dX8_takeRule_62 : decode cX8_takeRule 62 = .ok (.getfield 163, 3) := by decide +kernel
theorem dX8_takeRule_65 : decode cX8_takeRule 65 = .ok (.iastore, 1) := by decide +kernel
theorem dX8_takeRule_66 : decode cX8_takeRule 66 = .ok (.aload_n 0, 1) := by decide +kernel
theorem dX8_takeRule_67 : decode cX8_takeRule 67 = .ok (.getfield 57, 3) := by decide +kernel
theorem dX8_takeRule_70 : decode cX8_takeRule 70 = .ok (.aload_n 0, 1) := by decide +kernel
theorem dX8_takeRule_71 : decode cX8_takeRule 71 = .ok (.getfield 276, 3) := by decide +kernel
theorem dX8_takeRule_74 : decode cX8_takeRule 74 = .ok (.iconst 1, 1) := by decide +kernel
theorem dX8_takeRule_75 : decode cX8_takeRule 75 = .ok (.iastore, 1) := by decide +kernel
theorem dX8_takeRule_76 : decode cX8_takeRule 76 = .ok (.aload_n 0, 1) := by decide +kernel
theorem dX8_takeRule_77 : decode cX8_takeRule 77 = .ok (.getfield 66, 3) := by decide +kernel
theorem dX8_takeRule_80 : decode cX8_takeRule 80 = .ok (.aload_n 0, 1) := by decide +kernel
theorem dX8_takeRule_81 : decode cX8_takeRule 81 = .ok (.getfield 276, 3) := by decide +kernel
theorem dX8_takeRule_84 : decode cX8_takeRule 84 = .ok (.iconst 0, 1) := by decide +kernel
theorem dX8_takeRule_85 : decode cX8_takeRule 85 = .ok (.iastore, 1) := by decide +kernel
theorem dX8_takeRule_86 : decode cX8_takeRule 86 = .ok (.iload_n 3, 1) := by decide +kernel
theorem dX8_takeRule_87 : decode cX8_takeRule 87 = .ok (.ifCond .ne 14, 3) := by decide +kernel
theorem dX8_takeRule_101 : decode cX8_takeRule 101 = .ok (.iconst 0, 1) := by decide +kernel
theorem dX8_takeRule_102 : decode cX8_takeRule 102 = .ok (.istore 4, 2) := by decide +kernel
theorem dX8_takeRule_104 : decode cX8_takeRule 104 = .ok (.iload 4, 2) := by decide +kernel
theorem dX8_takeRule_106 : decode cX8_takeRule 106 = .ok (.ifCond .eq 92, 3) := by decide +kernel
theorem dX8_takeRule_198 : decode cX8_takeRule 198 = .ok (.iload_n 3, 1) := by decide +kernel
theorem dX8_takeRule_199 : decode cX8_takeRule 199 = .ok (.ifCond .le 7, 3) := by decide +kernel
theorem dX8_takeRule_202 : decode cX8_takeRule 202 = .ok (.iload_n 3, 1) := by decide +kernel
theorem dX8_takeRule_203 : decode cX8_takeRule 203 = .ok (.goto 23, 3) := by decide +kernel
theorem dX8_takeRule_226 : decode cX8_takeRule 226 = .ok (.ireturn, 1) := by decide +kernel
set_option maxHeartbeats 4000000 in
set_option maxRecDepth 100000 in
theorem k_m_takeRule (l : Launch) (D : va_G) (k : Nat → ClassId) (st : Nat → Nat) (lo : Nat) (a : Nat → Nat)  : CWi l D k st lo yX8_takeRule cX8_takeRule 5 (some .int) ({ frames := 3, cells := 0, slots := 0, locals := 63 }) 0 0 [.ref (a 0)] [((a 0), .inr (8, [.ref (a 1), .ref (a 2), .ref (a 3), .ref (a 4), .ref (a 5), .int 0, .int (-1), .int 0, .long 0, .int 0, .int 0, .int 0, .int 0, .ref (a 14), .ref (a 15), .ref (a 16), .int 0, .ref (a 18), .ref (a 19), .ref (a 20), .ref (a 21), .ref (a 22), .ref (a 23), .int 0, .ref (a 25), .ref (a 26), .ref (a 27), .ref (a 28), .ref (a 29), .ref (a 30), .int 0, .ref (a 32), .ref (a 33), .ref (a 34), .int 0, .ref (a 36), .ref (a 37), .int 0, .int 0, .ref (a 40), .ref (a 41), .int 0, .ref (a 43), .ref (a 44)])), ((a 26), .inl (k 1, 48, .inl (fun _ => 0))), ((a 27), .inl (k 1, 48, .inl (fun _ => 0))), ((a 25), .inl (k 1, 4, .inl (fun _ => 0))), ((a 28), .inl (k 1, 4, .inl (fun _ => 0)))] (fun (r : Int32) (_ : Unit) => r = 1) (fun (_ : Unit) => [((a 0), .inr (8, [.ref (a 1), .ref (a 2), .ref (a 3), .ref (a 4), .ref (a 5), .int 0, .int 0, .int 0, .long 0, .int 0, .int 0, .int 0, .int 0, .ref (a 14), .ref (a 15), .ref (a 16), .int 0, .ref (a 18), .ref (a 19), .ref (a 20), .ref (a 21), .ref (a 22), .ref (a 23), .int 0, .ref (a 25), .ref (a 26), .ref (a 27), .ref (a 28), .ref (a 29), .ref (a 30), .int 0, .ref (a 32), .ref (a 33), .ref (a 34), .int 0, .ref (a 36), .ref (a 37), .int 0, .int 0, .ref (a 40), .ref (a 41), .int 0, .ref (a 43), .ref (a 44)]))]) := by
  intro sz
  refine Met.ofW (cc := cX8_takeRule) (maxL := 5) (ret := (some .int)) (by decide) rfl ?_
  intro p e s m args below meth c s₁ B hml hv
  obtain ⟨rfl, hsz, hlo, hP, hK, hDL, hZ⟩ := hv
  have hx := B.exec
  have hb := B.bytes
  have hr := B.returns
  have hts := WS_ts B.pre
  have hown : s.vm.findClass RX8 = some m.cls := findClass_of_methodNamed B.named
  have hlocks := B.notSynchronized
  subst hsz
  have hD := hDL.self (sz := s.heap.size)
  have hAlo := A_lo hDL hlo
  generalize hAe : va_A [((a 0), .inr (8, [.ref (a 1), .ref (a 2), .ref (a 3), .ref (a 4), .ref (a 5), .int 0, .int (-1), .int 0, .long 0, .int 0, .int 0, .int 0, .int 0, .ref (a 14), .ref (a 15), .ref (a 16), .int 0, .ref (a 18), .ref (a 19), .ref (a 20), .ref (a 21), .ref (a 22), .ref (a 23), .int 0, .ref (a 25), .ref (a 26), .ref (a 27), .ref (a 28), .ref (a 29), .ref (a 30), .int 0, .ref (a 32), .ref (a 33), .ref (a 34), .int 0, .ref (a 36), .ref (a 37), .int 0, .int 0, .ref (a 40), .ref (a 41), .int 0, .ref (a 43), .ref (a 44)])), ((a 26), .inl (k 1, 48, .inl (fun _ => 0))), ((a 27), .inl (k 1, 48, .inl (fun _ => 0))), ((a 25), .inl (k 1, 4, .inl (fun _ => 0))), ((a 28), .inl (k 1, 4, .inl (fun _ => 0)))] s.heap.size = A at hD hAlo ⊢
  have hA : ∀ q : Nat, s.heap.size ≤ q → A q := fun q h => by rw [← hAe]; exact Or.inr h
  have hS : va_S A s.heap s.heap [] := va_S.rf
  have hl := lv_entry ([.ref (a 0)]) (n := 5) (Nat.le_of_ble_eq_true rfl)
  rw [lg_entry_eq]
  generalize (lg_sl ([.ref (a 0)]) ++ List.replicate (5 - (lg_sl ([.ref (a 0)])).length) Slot.unset).toArray = ls at hl ⊢
  have hl : lv_has ls 5 [(0, .ref (a 0))] := hl
  refine lv_bipush (v := 102) hx hb dX8_takeRule_0 (by decide) ?_
  refine lv_bipush (v := 114) hx hb dX8_takeRule_2 (by decide) ?_
  refine lv_bipush (v := 111) hx hb dX8_takeRule_4 (by decide) ?_
  refine ro_l (D := D) (va_runS (As := [.int 102, .int 114, .int 111]) (rest := []) ⟨hx, hb, hml, hown, hts⟩ ((k_m_code l D k st lo ) s.heap.size) (va_cwS 3 hts (gS tw_1142 tw_1143 tw_87 tw_1144) rfl rfl rfl (by decide +kernel) ⟨Nat.le_of_ble_eq_true rfl, Nat.le_of_ble_eq_true rfl⟩) (pS hS hAlo hlo hP hK (va_Dlo hD hAlo) hZ [] (by decide) rfl) rfl rfl hl.1 rfl (lv_room (Nat.le_of_ble_eq_true rfl)) dX8_takeRule_6 ⟨Nat.le_of_ble_eq_true rfl, Nat.le_of_ble_eq_true rfl⟩) hS hA hP (fun r_1 H locs hw_1 hP hS => ?_)
  try dsimp only at hw_1
  subst hw_1
  refine lv_bipush (v := 109) hx hb dX8_takeRule_9 (by decide) ?_
  refine ro_l (D := D) (va_runS (As := [.long 4875, .int 109]) (rest := []) ⟨hx, hb, hml, hown, hts⟩ ((k_m_longer l D k st lo ) H.size) (va_cwS 2 hts (gS tw_1148 tw_1149 tw_87 tw_1150) rfl rfl rfl (by decide +kernel) ⟨Nat.le_of_ble_eq_true rfl, Nat.le_of_ble_eq_true rfl⟩) (pS hS hAlo hlo hP hK (va_Dlo hD hAlo) hZ [] (by decide) rfl) rfl rfl hl.1 rfl (lv_room (Nat.le_of_ble_eq_true rfl)) dX8_takeRule_11 ⟨Nat.le_of_ble_eq_true rfl, Nat.le_of_ble_eq_true rfl⟩) hS hA hP (fun r_2 H locs hw_2 hP hS => ?_)
  try dsimp only at hw_2
  subst hw_2
  refine lv_lstore_n (lv' := [(1, .long 131638), (0, .ref (a 0))]) hx hb dX8_takeRule_14 rfl hl (by decide) rfl (fun ls hl => ?_)
  refine lv_aload_n hx hb dX8_takeRule_15 rfl (lv_at hl 1 rfl) ?_
  refine lv_lload_n hx hb dX8_takeRule_16 rfl (lv_at hl 0 rfl) ?_
  refine rw_i (D := D) (wr := [((a 26), .inl (k 1, 48, .inl (fun _ => 0))), ((a 27), .inl (k 1, 48, .inl (fun _ => 0))), ((a 25), .inl (k 1, 4, .inl (fun _ => 0))), ((a 28), .inl (k 1, 4, .inl (fun _ => 0)))]) (va_runV (As := [.long 131638]) (rest := []) ⟨hx, hb, hml, hown, hts⟩ ((k_m_needs l D k st lo a) H.size) (cwV 1 hts (gV tw_1169 tw_1171 tw_35 tw_87 tw_1172) rfl rfl rfl (by decide +kernel) ⟨Nat.le_of_ble_eq_true rfl, Nat.le_of_ble_eq_true rfl⟩) (pV hS hAlo hlo hP hK (va_Dlo hD hAlo) hZ [0] (by decide) rfl (ci := 8) (q0 := 0) rfl rfl) rfl rfl hl.1 rfl (lv_room (Nat.le_of_ble_eq_true rfl)) dX8_takeRule_17 ⟨Nat.le_of_ble_eq_true rfl, Nat.le_of_ble_eq_true rfl⟩) hS hA hP hD [0] [1, 2, 3, 4] rfl rfl (by decide) (by decide) (fun r_3 u H locs hw_3 hP hD hS => ?_)
  have hP : va_P D classes [((a 26), .inl (k 1, 48, .inl (fun _ => 0))), ((a 27), .inl (k 1, 48, .inl (fun _ => 0))), ((a 25), .inl (k 1, 4, .inl (fun _ => 0))), ((a 28), .inl (k 1, 4, .inl (fun _ => 0))), ((a 0), .inr (8, [.ref (a 1), .ref (a 2), .ref (a 3), .ref (a 4), .ref (a 5), .int 0, .int 0, .int 0, .long 0, .int 0, .int 0, .int 0, .int 0, .ref (a 14), .ref (a 15), .ref (a 16), .int 0, .ref (a 18), .ref (a 19), .ref (a 20), .ref (a 21), .ref (a 22), .ref (a 23), .int 0, .ref (a 25), .ref (a 26), .ref (a 27), .ref (a 28), .ref (a 29), .ref (a 30), .int 0, .ref (a 32), .ref (a 33), .ref (a 34), .int 0, .ref (a 36), .ref (a 37), .int 0, .int 0, .ref (a 40), .ref (a 41), .int 0, .ref (a 43), .ref (a 44)]))] H := hP
  have hD : va_D A [((a 26), .inl (k 1, 48, .inl (fun _ => 0))), ((a 27), .inl (k 1, 48, .inl (fun _ => 0))), ((a 25), .inl (k 1, 4, .inl (fun _ => 0))), ((a 28), .inl (k 1, 4, .inl (fun _ => 0))), ((a 0), .inr (8, [.ref (a 1), .ref (a 2), .ref (a 3), .ref (a 4), .ref (a 5), .int 0, .int 0, .int 0, .long 0, .int 0, .int 0, .int 0, .int 0, .ref (a 14), .ref (a 15), .ref (a 16), .int 0, .ref (a 18), .ref (a 19), .ref (a 20), .ref (a 21), .ref (a 22), .ref (a 23), .int 0, .ref (a 25), .ref (a 26), .ref (a 27), .ref (a 28), .ref (a 29), .ref (a 30), .int 0, .ref (a 32), .ref (a 33), .ref (a 34), .int 0, .ref (a 36), .ref (a 37), .int 0, .int 0, .ref (a 40), .ref (a 41), .int 0, .ref (a 43), .ref (a 44)]))] := hD
  try dsimp only at hw_3
  subst hw_3
  refine lv_istore_n (lv' := [(3, .int 1), (1, .long 131638), (0, .ref (a 0))]) hx hb dX8_takeRule_20 rfl hl (by decide) rfl (fun ls hl => ?_)
  refine lv_iload_n hx hb dX8_takeRule_21 rfl (lv_at hl 0 rfl) ?_
  refine lv_if_le (tgt := 29) hx hb dX8_takeRule_22 (by decide) (fun h => absurd h (by decide)) (fun _ => ?_)
  refine lv_iload_n hx hb dX8_takeRule_25 rfl (lv_at hl 0 rfl) ?_
  refine lv_goto (tgt := 36) hx hb dX8_takeRule_26 (by decide) ?_
  refine lv_istore_n (lv' := [(3, .int 1), (1, .long 131638), (0, .ref (a 0))]) hx hb dX8_takeRule_36 rfl hl (by decide) rfl (fun ls hl => ?_)
  refine lv_aload_n hx hb dX8_takeRule_37 rfl (lv_at hl 2 rfl) ?_
  refine va_get (D := D) (ci := 8) (v := .ref (a 26)) (C := RX8) (T := TX8) (N := 44) hx hb hts inX8 hown hK hP 4 rfl rfl 25 (by decide) (hts _ tw_998) (fun _ h9 => h9) rfl dX8_takeRule_38 ?_
  refine lv_bipush (v := 12) hx hb dX8_takeRule_41 (by decide) ?_
  refine lv_aload_n hx hb dX8_takeRule_43 rfl (lv_at hl 2 rfl) ?_
  refine va_get (D := D) (ci := 8) (v := .int 0) (C := RX8) (T := TX8) (N := 44) hx hb hts inX8 hown hK hP 4 rfl rfl 23 (by decide) (hts _ tw_996) (fun _ h9 => h9) rfl dX8_takeRule_44 ?_
  refine lv_imul hx hb dX8_takeRule_47 ?_
  refine lv_ti (y := 0) (by decide) ?_
  refine lv_iconst (v := 0) hx hb dX8_takeRule_48 (by decide) ?_
  refine va_iast hx hb hK hP hD hS 0 1 rfl rfl (by unfold vp_in; decide) dX8_takeRule_49 (fun H locs hP hD hS => ?_)
  have hP : va_P D classes [((a 26), .inl (k 1, 48, .inl (upd (fun _ => 0) (Int32.toNatClampNeg 0) 0))), ((a 27), .inl (k 1, 48, .inl (fun _ => 0))), ((a 25), .inl (k 1, 4, .inl (fun _ => 0))), ((a 28), .inl (k 1, 4, .inl (fun _ => 0))), ((a 0), .inr (8, [.ref (a 1), .ref (a 2), .ref (a 3), .ref (a 4), .ref (a 5), .int 0, .int 0, .int 0, .long 0, .int 0, .int 0, .int 0, .int 0, .ref (a 14), .ref (a 15), .ref (a 16), .int 0, .ref (a 18), .ref (a 19), .ref (a 20), .ref (a 21), .ref (a 22), .ref (a 23), .int 0, .ref (a 25), .ref (a 26), .ref (a 27), .ref (a 28), .ref (a 29), .ref (a 30), .int 0, .ref (a 32), .ref (a 33), .ref (a 34), .int 0, .ref (a 36), .ref (a 37), .int 0, .int 0, .ref (a 40), .ref (a 41), .int 0, .ref (a 43), .ref (a 44)]))] H := hP
  have hD : va_D A [((a 26), .inl (k 1, 48, .inl (upd (fun _ => 0) (Int32.toNatClampNeg 0) 0))), ((a 27), .inl (k 1, 48, .inl (fun _ => 0))), ((a 25), .inl (k 1, 4, .inl (fun _ => 0))), ((a 28), .inl (k 1, 4, .inl (fun _ => 0))), ((a 0), .inr (8, [.ref (a 1), .ref (a 2), .ref (a 3), .ref (a 4), .ref (a 5), .int 0, .int 0, .int 0, .long 0, .int 0, .int 0, .int 0, .int 0, .ref (a 14), .ref (a 15), .ref (a 16), .int 0, .ref (a 18), .ref (a 19), .ref (a 20), .ref (a 21), .ref (a 22), .ref (a 23), .int 0, .ref (a 25), .ref (a 26), .ref (a 27), .ref (a 28), .ref (a 29), .ref (a 30), .int 0, .ref (a 32), .ref (a 33), .ref (a 34), .int 0, .ref (a 36), .ref (a 37), .int 0, .int 0, .ref (a 40), .ref (a 41), .int 0, .ref (a 43), .ref (a 44)]))] := hD
  generalize (upd (fun _ => 0) (Int32.toNatClampNeg 0) 0) = f_4 at hP hD
  refine lv_aload_n hx hb dX8_takeRule_50 rfl (lv_at hl 2 rfl) ?_
  refine va_get (D := D) (ci := 8) (v := .ref (a 27)) (C := RX8) (T := TX8) (N := 44) hx hb hts inX8 hown hK hP 4 rfl rfl 26 (by decide) (hts _ tw_999) (fun _ h9 => h9) rfl dX8_takeRule_51 ?_
  refine lv_bipush (v := 12) hx hb dX8_takeRule_54 (by decide) ?_
  refine lv_aload_n hx hb dX8_takeRule_56 rfl (lv_at hl 2 rfl) ?_
  refine va_get (D := D) (ci := 8) (v := .int 0) (C := RX8) (T := TX8) (N := 44) hx hb hts inX8 hown hK hP 4 rfl rfl 23 (by decide) (hts _ tw_996) (fun _ h9 => h9) rfl dX8_takeRule_57 ?_
  refine lv_imul hx hb dX8_takeRule_60 ?_
  refine lv_ti (y := 0) (by decide) ?_
  refine lv_aload_n hx hb dX8_takeRule_61 rfl (lv_at hl 2 rfl) ?_
  refine va_get (D := D) (ci := 8) (v := .int 0) (C := RX8) (T := TX8) (N := 44) hx hb hts inX8 hown hK hP 4 rfl rfl 10 (by decide) (hts _ tw_983) (fun _ h9 => h9) rfl dX8_takeRule_62 ?_
  refine va_iast hx hb hK hP hD hS 1 1 rfl rfl (by unfold vp_in; decide) dX8_takeRule_65 (fun H locs hP hD hS => ?_)
  have hP : va_P D classes [((a 26), .inl (k 1, 48, .inl f_4)), ((a 27), .inl (k 1, 48, .inl (upd (fun _ => 0) (Int32.toNatClampNeg 0) 0))), ((a 25), .inl (k 1, 4, .inl (fun _ => 0))), ((a 28), .inl (k 1, 4, .inl (fun _ => 0))), ((a 0), .inr (8, [.ref (a 1), .ref (a 2), .ref (a 3), .ref (a 4), .ref (a 5), .int 0, .int 0, .int 0, .long 0, .int 0, .int 0, .int 0, .int 0, .ref (a 14), .ref (a 15), .ref (a 16), .int 0, .ref (a 18), .ref (a 19), .ref (a 20), .ref (a 21), .ref (a 22), .ref (a 23), .int 0, .ref (a 25), .ref (a 26), .ref (a 27), .ref (a 28), .ref (a 29), .ref (a 30), .int 0, .ref (a 32), .ref (a 33), .ref (a 34), .int 0, .ref (a 36), .ref (a 37), .int 0, .int 0, .ref (a 40), .ref (a 41), .int 0, .ref (a 43), .ref (a 44)]))] H := hP
  have hD : va_D A [((a 26), .inl (k 1, 48, .inl f_4)), ((a 27), .inl (k 1, 48, .inl (upd (fun _ => 0) (Int32.toNatClampNeg 0) 0))), ((a 25), .inl (k 1, 4, .inl (fun _ => 0))), ((a 28), .inl (k 1, 4, .inl (fun _ => 0))), ((a 0), .inr (8, [.ref (a 1), .ref (a 2), .ref (a 3), .ref (a 4), .ref (a 5), .int 0, .int 0, .int 0, .long 0, .int 0, .int 0, .int 0, .int 0, .ref (a 14), .ref (a 15), .ref (a 16), .int 0, .ref (a 18), .ref (a 19), .ref (a 20), .ref (a 21), .ref (a 22), .ref (a 23), .int 0, .ref (a 25), .ref (a 26), .ref (a 27), .ref (a 28), .ref (a 29), .ref (a 30), .int 0, .ref (a 32), .ref (a 33), .ref (a 34), .int 0, .ref (a 36), .ref (a 37), .int 0, .int 0, .ref (a 40), .ref (a 41), .int 0, .ref (a 43), .ref (a 44)]))] := hD
  generalize (upd (fun _ => 0) (Int32.toNatClampNeg 0) 0) = f_5 at hP hD
  refine lv_aload_n hx hb dX8_takeRule_66 rfl (lv_at hl 2 rfl) ?_
  refine va_get (D := D) (ci := 8) (v := .ref (a 25)) (C := RX8) (T := TX8) (N := 44) hx hb hts inX8 hown hK hP 4 rfl rfl 24 (by decide) (hts _ tw_997) (fun _ h9 => h9) rfl dX8_takeRule_67 ?_
  refine lv_aload_n hx hb dX8_takeRule_70 rfl (lv_at hl 2 rfl) ?_
  refine va_get (D := D) (ci := 8) (v := .int 0) (C := RX8) (T := TX8) (N := 44) hx hb hts inX8 hown hK hP 4 rfl rfl 23 (by decide) (hts _ tw_996) (fun _ h9 => h9) rfl dX8_takeRule_71 ?_
  refine lv_iconst (v := 1) hx hb dX8_takeRule_74 (by decide) ?_
  refine va_iast hx hb hK hP hD hS 2 1 rfl rfl (by unfold vp_in; decide) dX8_takeRule_75 (fun H locs hP hD hS => ?_)
  have hP : va_P D classes [((a 26), .inl (k 1, 48, .inl f_4)), ((a 27), .inl (k 1, 48, .inl f_5)), ((a 25), .inl (k 1, 4, .inl (upd (fun _ => 0) (Int32.toNatClampNeg 0) 1))), ((a 28), .inl (k 1, 4, .inl (fun _ => 0))), ((a 0), .inr (8, [.ref (a 1), .ref (a 2), .ref (a 3), .ref (a 4), .ref (a 5), .int 0, .int 0, .int 0, .long 0, .int 0, .int 0, .int 0, .int 0, .ref (a 14), .ref (a 15), .ref (a 16), .int 0, .ref (a 18), .ref (a 19), .ref (a 20), .ref (a 21), .ref (a 22), .ref (a 23), .int 0, .ref (a 25), .ref (a 26), .ref (a 27), .ref (a 28), .ref (a 29), .ref (a 30), .int 0, .ref (a 32), .ref (a 33), .ref (a 34), .int 0, .ref (a 36), .ref (a 37), .int 0, .int 0, .ref (a 40), .ref (a 41), .int 0, .ref (a 43), .ref (a 44)]))] H := hP
  have hD : va_D A [((a 26), .inl (k 1, 48, .inl f_4)), ((a 27), .inl (k 1, 48, .inl f_5)), ((a 25), .inl (k 1, 4, .inl (upd (fun _ => 0) (Int32.toNatClampNeg 0) 1))), ((a 28), .inl (k 1, 4, .inl (fun _ => 0))), ((a 0), .inr (8, [.ref (a 1), .ref (a 2), .ref (a 3), .ref (a 4), .ref (a 5), .int 0, .int 0, .int 0, .long 0, .int 0, .int 0, .int 0, .int 0, .ref (a 14), .ref (a 15), .ref (a 16), .int 0, .ref (a 18), .ref (a 19), .ref (a 20), .ref (a 21), .ref (a 22), .ref (a 23), .int 0, .ref (a 25), .ref (a 26), .ref (a 27), .ref (a 28), .ref (a 29), .ref (a 30), .int 0, .ref (a 32), .ref (a 33), .ref (a 34), .int 0, .ref (a 36), .ref (a 37), .int 0, .int 0, .ref (a 40), .ref (a 41), .int 0, .ref (a 43), .ref (a 44)]))] := hD
  generalize (upd (fun _ => 0) (Int32.toNatClampNeg 0) 1) = f_6 at hP hD
  refine lv_aload_n hx hb dX8_takeRule_76 rfl (lv_at hl 2 rfl) ?_
  refine va_get (D := D) (ci := 8) (v := .ref (a 28)) (C := RX8) (T := TX8) (N := 44) hx hb hts inX8 hown hK hP 4 rfl rfl 27 (by decide) (hts _ tw_1000) (fun _ h9 => h9) rfl dX8_takeRule_77 ?_
  refine lv_aload_n hx hb dX8_takeRule_80 rfl (lv_at hl 2 rfl) ?_
  refine va_get (D := D) (ci := 8) (v := .int 0) (C := RX8) (T := TX8) (N := 44) hx hb hts inX8 hown hK hP 4 rfl rfl 23 (by decide) (hts _ tw_996) (fun _ h9 => h9) rfl dX8_takeRule_81 ?_
  refine lv_iconst (v := 0) hx hb dX8_takeRule_84 (by decide) ?_
  refine va_iast hx hb hK hP hD hS 3 1 rfl rfl (by unfold vp_in; decide) dX8_takeRule_85 (fun H locs hP hD hS => ?_)
  have hP : va_P D classes [((a 26), .inl (k 1, 48, .inl f_4)), ((a 27), .inl (k 1, 48, .inl f_5)), ((a 25), .inl (k 1, 4, .inl f_6)), ((a 28), .inl (k 1, 4, .inl (upd (fun _ => 0) (Int32.toNatClampNeg 0) 0))), ((a 0), .inr (8, [.ref (a 1), .ref (a 2), .ref (a 3), .ref (a 4), .ref (a 5), .int 0, .int 0, .int 0, .long 0, .int 0, .int 0, .int 0, .int 0, .ref (a 14), .ref (a 15), .ref (a 16), .int 0, .ref (a 18), .ref (a 19), .ref (a 20), .ref (a 21), .ref (a 22), .ref (a 23), .int 0, .ref (a 25), .ref (a 26), .ref (a 27), .ref (a 28), .ref (a 29), .ref (a 30), .int 0, .ref (a 32), .ref (a 33), .ref (a 34), .int 0, .ref (a 36), .ref (a 37), .int 0, .int 0, .ref (a 40), .ref (a 41), .int 0, .ref (a 43), .ref (a 44)]))] H := hP
  have hD : va_D A [((a 26), .inl (k 1, 48, .inl f_4)), ((a 27), .inl (k 1, 48, .inl f_5)), ((a 25), .inl (k 1, 4, .inl f_6)), ((a 28), .inl (k 1, 4, .inl (upd (fun _ => 0) (Int32.toNatClampNeg 0) 0))), ((a 0), .inr (8, [.ref (a 1), .ref (a 2), .ref (a 3), .ref (a 4), .ref (a 5), .int 0, .int 0, .int 0, .long 0, .int 0, .int 0, .int 0, .int 0, .ref (a 14), .ref (a 15), .ref (a 16), .int 0, .ref (a 18), .ref (a 19), .ref (a 20), .ref (a 21), .ref (a 22), .ref (a 23), .int 0, .ref (a 25), .ref (a 26), .ref (a 27), .ref (a 28), .ref (a 29), .ref (a 30), .int 0, .ref (a 32), .ref (a 33), .ref (a 34), .int 0, .ref (a 36), .ref (a 37), .int 0, .int 0, .ref (a 40), .ref (a 41), .int 0, .ref (a 43), .ref (a 44)]))] := hD
  generalize (upd (fun _ => 0) (Int32.toNatClampNeg 0) 0) = f_7 at hP hD
  refine lv_iload_n hx hb dX8_takeRule_86 rfl (lv_at hl 0 rfl) ?_
  refine lv_if_ne (tgt := 101) hx hb dX8_takeRule_87 (by decide) (fun _ => ?_) (fun h => absurd h (by decide))
  refine lv_iconst (v := 0) hx hb dX8_takeRule_101 (by decide) ?_
  refine lv_istore (lv' := [(4, .int 0), (3, .int 1), (1, .long 131638), (0, .ref (a 0))]) hx hb dX8_takeRule_102 hl (by decide) rfl (fun ls hl => ?_)
  refine lv_iload hx hb dX8_takeRule_104 (lv_at hl 0 rfl) ?_
  refine lv_if_eq (tgt := 198) hx hb dX8_takeRule_106 (by decide) (fun _ => ?_) (fun h => absurd (by decide) h)
  refine lv_iload_n hx hb dX8_takeRule_198 rfl (lv_at hl 1 rfl) ?_
  refine lv_if_le (tgt := 206) hx hb dX8_takeRule_199 (by decide) (fun h => absurd h (by decide)) (fun _ => ?_)
  refine lv_iload_n hx hb dX8_takeRule_202 rfl (lv_at hl 1 rfl) ?_
  refine lv_goto (tgt := 226) hx hb dX8_takeRule_203 (by decide) ?_
  have hP9 := hP.sub (ws' := [((a 0), .inr (8, [.ref (a 1), .ref (a 2), .ref (a 3), .ref (a 4), .ref (a 5), .int 0, .int 0, .int 0, .long 0, .int 0, .int 0, .int 0, .int 0, .ref (a 14), .ref (a 15), .ref (a 16), .int 0, .ref (a 18), .ref (a 19), .ref (a 20), .ref (a 21), .ref (a 22), .ref (a 23), .int 0, .ref (a 25), .ref (a 26), .ref (a 27), .ref (a 28), .ref (a 29), .ref (a 30), .int 0, .ref (a 32), .ref (a 33), .ref (a 34), .int 0, .ref (a 36), .ref (a 37), .int 0, .int 0, .ref (a 40), .ref (a 41), .int 0, .ref (a 43), .ref (a 44)]))]) [4] rfl
  have hD9 := hD.sub (ws' := [((a 0), .inr (8, [.ref (a 1), .ref (a 2), .ref (a 3), .ref (a 4), .ref (a 5), .int 0, .int 0, .int 0, .long 0, .int 0, .int 0, .int 0, .int 0, .ref (a 14), .ref (a 15), .ref (a 16), .int 0, .ref (a 18), .ref (a 19), .ref (a 20), .ref (a 21), .ref (a 22), .ref (a 23), .int 0, .ref (a 25), .ref (a 26), .ref (a 27), .ref (a 28), .ref (a 29), .ref (a 30), .int 0, .ref (a 32), .ref (a 33), .ref (a 34), .int 0, .ref (a 36), .ref (a 37), .int 0, .int 0, .ref (a 40), .ref (a 41), .int 0, .ref (a 43), .ref (a 44)]))]) [4] (by decide) rfl
  exact W.iret (v := 1) hx hb hr (fun t ht hW => ⟨⟨1, (), rfl, rfl, by rw [ht]; exact hP9, hD9⟩, hS.F ht⟩) hS.2.2 dX8_takeRule_226


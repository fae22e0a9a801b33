theorem dX8_keep_0 : decode cX8_keep 0 = .ok (.iload_n 1, 1) := by decide +kernel
theorem dX8_keep_1 : decode cX8_keep 1 = .ok (.i2l, 1) := by decide +kernel
theorem dX8_keep_2 : decode cX8_keep 2 = .ok (.lconst 0, 1) := by decide +kernel
theorem dX8_keep_3 : decode cX8_keep 3 = .ok (.lconst 1, 1) := by decide +kernel
theorem dX8_keep_4 : decode cX8_keep 4 = .ok (.invokestatic 107, 3) := by decide +kernel
theorem dX8_keep_7 : decode cX8_keep 7 = .ok (.ifCond .ne 7, 3) := by decide +kernel
theorem dX8_keep_10 : decode cX8_keep 10 = .ok (.sipush (-1001), 3) := by decide +kernel
theorem dX8_keep_13 : decode cX8_keep 13 = .ok (.ireturn, 1) := by decide +kernel
theorem dX8_keep_14 : decode cX8_keep 14 = .ok (.bipush 35, 2) := by decide +kernel
theorem dX8_keep_16 : decode cX8_keep 16 = .ok (.iload_n 1, 1) := by decide +kernel
theorem dX8_keep_17 : decode cX8_keep 17 = .ok (.imul, 1) := by decide +kernel
theorem dX8_keep_18 : decode cX8_keep 18 = .ok (.istore_n 2, 1) := by decide +kernel
theorem dX8_keep_19 : decode cX8_keep 19 = .ok (.aload_n 0, 1) := by decide +kernel
theorem dX8_keep_20 : decode cX8_keep 20 = .ok (.getfield 99, 3) := by decide +kernel
theorem dX8_keep_23 : decode cX8_keep 23 = .ok (.iload_n 2, 1) := by decide +kernel
theorem dX8_keep_24 : decode cX8_keep 24 = .ok (.aload_n 0, 1) := by decide +kernel
theorem dX8_keep_25 : decode cX8_keep 25 = .ok (.getfield 304, 3) := by decide +kernel
theorem dX8_keep_28 : decode cX8_keep 28 = .ok (.iastore, 1) := by decide +kernel
theorem dX8_keep_29 : decode cX8_keep 29 = .ok (.aload_n 0, 1) := by decide +kernel
theorem dX8_keep_30 : decode cX8_keep 30 = .ok (.getfield 99, 3) := by decide +kernel
theorem dX8_keep_33 : decode cX8_keep 33 = .ok (.iload_n 2, 1) := by decide +kernel
theorem dX8_keep_34 : decode cX8_keep 34 = .ok (.iconst 1, 1) := by decide +kernel
theorem dX8_keep_35 : decode cX8_keep 35 = .ok (.iadd, 1) := by decide +kernel
theorem dX8_keep_36 : decode cX8_keep 36 = .ok (.aload_n 0, 1) := by decide +kernel
theorem dX8_keep_37 : decode cX8_keep 37 = .ok (.getfield 315, 3) := by decide +kernel
theorem dX8_keep_40 : decode cX8_keep 40 = .ok (.iastore, 1) := by decide +kernel
theorem dX8_keep_41 : decode cX8_keep 41 = .ok (.aload_n 0, 1) := by decide +kernel
theorem dX8_keep_42 : decode cX8_keep 42 = .ok (.getfield 99, 3) := by decide +kernel
theorem dX8_keep_45 : decode cX8_keep 45 = .ok (.iload_n 2, 1) := by decide +kernel
theorem dX8_keep_46 : decode cX8_keep 46 = .ok (.iconst 2, 1) := by decide +kernel
theorem dX8_keep_47 : decode cX8_keep 47 = .ok (.iadd, 1) := by decide +kernel
theorem dX8_keep_48 : decode cX8_keep 48 = .ok (.aload_n 0, 1) := by decide +kernel
theorem dX8_keep_49 : decode cX8_keep 49 = .ok (.getfield 374, 3) := by decide +kernel
theorem dX8_keep_52 : decode cX8_keep 52 = .ok (.iastore, 1) := by decide +kernel
theorem dX8_keep_53 : decode cX8_keep 53 = .ok (.iconst 0, 1) := by decide +kernel
theorem dX8_keep_54 : decode cX8_keep 54 = .ok (.istore_n 3, 1) := by decide +kernel
theorem dX8_keep_55 : decode cX8_keep 55 = .ok (.iload_n 3, 1) := by decide +kernel
theorem dX8_keep_56 : decode cX8_keep 56 = .ok (.bipush 24, 2) := by decide +kernel
theorem dX8_keep_58 : decode cX8_keep 58 = .ok (.if_icmp .ge 33, 3) := by decide +kernel
theorem dX8_keep_61 : decode cX8_keep 61 = .ok (.aload_n 0, 1) := by decide +kernel
theorem dX8_keep_62 : decode cX8_keep 62 = .ok (.getfield 99, 3) := by decide +kernel
theorem dX8_keep_65 : decode cX8_keep 65 = .ok (.iload_n 2, 1) := by decide +kernel
theorem dX8_keep_66 : decode cX8_keep 66 = .ok (.iconst 3, 1) := by decide +kernel
theorem dX8_keep_67 : decode cX8_keep 67 = .ok (.iadd, 1) := by decide +kernel
theorem dX8_keep_68 : decode cX8_keep 68 = .ok (.iload_n 3, 1) := by decide +kernel
theorem dX8_keep_69 : decode cX8_keep 69 = .ok (.iadd, 1) := by decide +kernel
theorem dX8_keep_70 : decode cX8_keep 70 = .ok (.aload_n 0, 1) := by decide +kernel
theorem dX8_keep_71 : decode cX8_keep 71 = .ok (.getfield 75, 3) := by decide +kernel
theorem dX8_keep_74 : decode cX8_keep 74 = .ok (.iload_n 3, 1) := by decide +kernel
theorem dX8_keep_75 : decode cX8_keep 75 = .ok (.baload, 1) := by decide +kernel
theorem dX8_keep_76 : decode cX8_keep 76 = .ok (.ifCond .eq 7, 3) := by decide +kernel
theorem dX8_keep_83 : decode cX8_keep 83 = .ok (.iconst 0, 1) := by decide +kernel
theorem dX8_keep_84 : decode cX8_keep 84 = .ok (.iastore, 1) := by decide +kernel
theorem dX8_keep_85 : decode cX8_keep 85 = .ok (.iinc 3 1, 3) := by decide +kernel
theorem dX8_keep_88 : decode cX8_keep 88 = .ok (.goto (-33), 3) := by decide +kernel
theorem dX8_keep_91 : decode cX8_keep 91 = .ok (.iconst 0, 1) := by decide +kernel
theorem dX8_keep_92 : decode cX8_keep 92 = .ok (.istore_n 3, 1) := by decide +kernel
theorem dX8_keep_93 : decode cX8_keep 93 = .ok (.iload_n 3, 1) := by decide +kernel
theorem dX8_keep_94 : decode cX8_keep 94 = .ok (.iconst 4, 1) := by decide +kernel
theorem dX8_keep_95 : decode cX8_keep 95 = .ok (.if_icmp .ge 43, 3) := by decide +kernel
theorem dX8_keep_98 : decode cX8_keep 98 = .ok (.aload_n 0, 1) := by decide +kernel
theorem dX8_keep_99 : decode cX8_keep 99 = .ok (.getfield 99, 3) := by decide +kernel
theorem dX8_keep_102 : decode cX8_keep 102 = .ok (.iload_n 2, 1) := by decide +kernel
theorem dX8_keep_103 : decode cX8_keep 103 = .ok (.bipush 27, 2) := by decide +kernel
theorem dX8_keep_105 : decode cX8_keep 105 = .ok (.iadd, 1) := by decide +kernel
theorem dX8_keep_106 : decode cX8_keep 106 = .ok (.iload_n 3, 1) := by decide +kernel
theorem dX8_keep_107 : decode cX8_keep 107 = .ok (.iadd, 1) := by decide +kernel
theorem dX8_keep_108 : decode cX8_keep 108 = .ok (.aload_n 0, 1) := by decide +kernel
theorem dX8_keep_109 : decode cX8_keep 109 = .ok (.getfield 84, 3) := by decide +kernel
theorem dX8_keep_112 : decode cX8_keep 112 = .ok (.iload_n 3, 1) := by decide +kernel
theorem dX8_keep_113 : decode cX8_keep 113 = .ok (.iaload, 1) := by decide +kernel
theorem dX8_keep_114 : decode cX8_keep 114 = .ok (.iastore, 1) := by decide +kernel
theorem dX8_keep_115 : decode cX8_keep 115 = .ok (.aload_n 0, 1) := by decide +kernel
theorem dX8_keep_116 : decode cX8_keep 116 = .ok (.getfield 99, 3) := by decide +kernel
theorem dX8_keep_119 : decode cX8_keep 119 = .ok (.iload_n 2, 1) := by decide +kernel
theorem dX8_keep_120 : decode cX8_keep 120 = .ok (.bipush 31, 2) := by decide +kernel
theorem dX8_keep_122 : decode cX8_keep 122 = .ok (.iadd, 1) := by decide +kernel
theorem dX8_keep_123 : decode cX8_keep 123 = .ok (.iload_n 3, 1) := by decide +kernel
theorem dX8_keep_124 : decode cX8_keep 124 = .ok (.iadd, 1) := by decide +kernel
theorem dX8_keep_125 : decode cX8_keep 125 = .ok (.aload_n 0, 1) := by decide +kernel
theorem dX8_keep_126 : decode cX8_keep 126 = .ok (.getfield 87, 3) := by decide +kernel
theorem dX8_keep_129 : decode cX8_keep 129 = .ok (.iload_n 3, 1) := by decide +kernel
theorem dX8_keep_130 : decode cX8_keep 130 = .ok (.iaload, 1) := by decide +kernel
theorem dX8_keep_131 : decode cX8_keep 131 = .ok (.iastore, 1) := by decide +kernel
theorem dX8_keep_132 : decode cX8_keep 132 = .ok (.iinc 3 1, 3) := by decide +kernel
theorem dX8_keep_135 : decode cX8_keep 135 = .ok (.goto (-42), 3) := by decide +kernel
theorem dX8_keep_138 : decode cX8_keep 138 = .ok (.aload_n 0, 1) := by decide +kernel
theorem dX8_keep_139 : decode cX8_keep 139 = .ok (.getfield 96, 3) := by decide +kernel
theorem dX8_keep_142 : decode cX8_keep 142 = .ok (.iload_n 1, 1) := by decide +kernel
theorem dX8_keep_143 : decode cX8_keep 143 = .ok (.iconst 1, 1) := by decide +kernel
theorem dX8_keep_144 : decode cX8_keep 144 = .ok (.bastore, 1) := by decide +kernel
theorem dX8_keep_145 : decode cX8_keep 145 = .ok (.iconst 1, 1) := by decide +kernel
theorem dX8_keep_146 : decode cX8_keep 146 = .ok (.ireturn, 1) := by decide +kernel
set_option maxHeartbeats 4000000 in
set_option maxRecDepth 100000 in
theorem k_m_keep (l : Launch) (D : va_G) (k : Nat → ClassId) (st : Nat → Nat) (lo : Nat) (a : Nat → Nat) (p0 : Int32)  : CWi l D k st lo yX8_keep cX8_keep 4 (some .int) ({ frames := 1, cells := 0, slots := 0, locals := 25 }) 0 0 [.ref (a 0), .int p0] [((a 0), .inr (8, [.ref (a 1), .ref (a 2), .ref (a 3), .ref (a 4), .ref (a 5), .int 0, .int (-1), .int 0, .long 0, .int 0, .int 0, .int 0, .int 0, .ref (a 14), .ref (a 15), .ref (a 16), .int 0, .ref (a 18), .ref (a 19), .ref (a 20), .ref (a 21), .ref (a 22), .ref (a 23), .int 0, .ref (a 25), .ref (a 26), .ref (a 27), .ref (a 28), .ref (a 29), .ref (a 30), .int 0, .ref (a 32), .ref (a 33), .ref (a 34), .int 0, .ref (a 36), .ref (a 37), .int 0, .int 0, .ref (a 40), .ref (a 41), .int 0, .ref (a 43), .ref (a 44)])), ((a 32), .inl (k 2, 24, .inl (fun _ => 0))), ((a 36), .inl (k 1, 4, .inl (fun _ => 0))), ((a 37), .inl (k 1, 4, .inl (fun _ => 0))), ((a 43), .inl (k 2, 2, .inl (fun _ => 0))), ((a 44), .inl (k 1, 70, .inl (fun _ => 0)))] (fun (r : Int32) (_ : Unit) => (inB p0 0 1 → r = 1) ∧ (¬ (inB p0 0 1) → r = -1001)) (fun (_ : Unit) => []) := by
  intro sz
  refine Met.ofW (cc := cX8_keep) (maxL := 4) (ret := (some .int)) (by decide) rfl ?_
  intro p e s m args below meth c s₁ B hml hv
  obtain ⟨rfl, hsz, hlo, hP, hK, hDL, hZ⟩ := hv
  have hx := B.exec
  have hb := B.bytes
  have hr := B.returns
  have hts := WS_ts B.pre
  have hown : s.vm.findClass RX8 = some m.cls := findClass_of_methodNamed B.named
  have hlocks := B.notSynchronized
  subst hsz
  have hD := hDL.self (sz := s.heap.size)
  have hAlo := A_lo hDL hlo
  generalize hAe : va_A [((a 0), .inr (8, [.ref (a 1), .ref (a 2), .ref (a 3), .ref (a 4), .ref (a 5), .int 0, .int (-1), .int 0, .long 0, .int 0, .int 0, .int 0, .int 0, .ref (a 14), .ref (a 15), .ref (a 16), .int 0, .ref (a 18), .ref (a 19), .ref (a 20), .ref (a 21), .ref (a 22), .ref (a 23), .int 0, .ref (a 25), .ref (a 26), .ref (a 27), .ref (a 28), .ref (a 29), .ref (a 30), .int 0, .ref (a 32), .ref (a 33), .ref (a 34), .int 0, .ref (a 36), .ref (a 37), .int 0, .int 0, .ref (a 40), .ref (a 41), .int 0, .ref (a 43), .ref (a 44)])), ((a 32), .inl (k 2, 24, .inl (fun _ => 0))), ((a 36), .inl (k 1, 4, .inl (fun _ => 0))), ((a 37), .inl (k 1, 4, .inl (fun _ => 0))), ((a 43), .inl (k 2, 2, .inl (fun _ => 0))), ((a 44), .inl (k 1, 70, .inl (fun _ => 0)))] s.heap.size = A at hD hAlo ⊢
  have hA : ∀ q : Nat, s.heap.size ≤ q → A q := fun q h => by rw [← hAe]; exact Or.inr h
  have hS : va_S A s.heap s.heap [] := va_S.rf
  have hl := lv_entry ([.ref (a 0), .int p0]) (n := 4) (Nat.le_of_ble_eq_true rfl)
  rw [lg_entry_eq]
  generalize (lg_sl ([.ref (a 0), .int p0]) ++ List.replicate (4 - (lg_sl ([.ref (a 0), .int p0])).length) Slot.unset).toArray = ls at hl ⊢
  have hl : lv_has ls 4 [(0, .ref (a 0)), (1, .int p0)] := hl
  refine lv_iload_n hx hb dX8_keep_0 rfl (lv_at hl 1 rfl) ?_
  refine lv_i2l (v := p0.toInt64) hx hb dX8_keep_1 rfl ?_
  refine lv_lconst (v := (0 : Int32).toInt64) hx hb dX8_keep_2 (by decide) ?_
  refine lv_lconst (v := (1 : Int32).toInt64) hx hb dX8_keep_3 (by decide) ?_
  refine ro_i (D := D) (va_runS (As := [.long (p0.toInt64), .long ((0 : Int32).toInt64), .long ((1 : Int32).toInt64)]) (rest := []) ⟨hx, hb, hml, hown, hts⟩ ((k_in l D k st lo p0 (0 : Int32) (1 : Int32)) s.heap.size) (va_cwS 3 hts (gS tw_1111 tw_1112 tw_87 tw_1113) rfl rfl rfl (by decide +kernel) ⟨Nat.le_of_ble_eq_true rfl, Nat.le_of_ble_eq_true rfl⟩) (pS hS hAlo hlo hP hK (va_Dlo hD hAlo) hZ [] (by decide) rfl) rfl rfl hl.1 rfl (lv_room (Nat.le_of_ble_eq_true rfl)) dX8_keep_4 ⟨Nat.le_of_ble_eq_true rfl, Nat.le_of_ble_eq_true rfl⟩) hS hA hP (fun r_1 H locs hw_1 hP hS => ?_)
  try dsimp only at hw_1
  rcases hw_1 with ⟨rfl, hw_1⟩ | ⟨rfl, hw_1⟩
  · refine lv_if_ne (tgt := 14) hx hb dX8_keep_7 (by decide) (fun _ => ?_) (fun h => absurd h (by decide))
    rcases spl2 hw_1 with rfl | rfl
    · refine lv_bipush (v := 35) hx hb dX8_keep_14 (by decide) ?_
      refine lv_iload_n hx hb dX8_keep_16 rfl (lv_at hl 1 rfl) ?_
      refine lv_imul hx hb dX8_keep_17 ?_
      refine lv_ti (y := 0) (by decide) ?_
      refine lv_istore_n (lv' := [(2, .int 0), (0, .ref (a 0)), (1, .int 0)]) hx hb dX8_keep_18 rfl hl (by decide) rfl (fun ls hl => ?_)
      refine lv_aload_n hx hb dX8_keep_19 rfl (lv_at hl 1 rfl) ?_
      refine va_get (D := D) (ci := 8) (v := .ref (a 44)) (C := RX8) (T := TX8) (N := 44) hx hb hts inX8 hown hK hP 0 rfl rfl 43 (by decide) (hts _ tw_1016) (fun _ h9 => h9) rfl dX8_keep_20 ?_
      refine lv_iload_n hx hb dX8_keep_23 rfl (lv_at hl 0 rfl) ?_
      refine lv_aload_n hx hb dX8_keep_24 rfl (lv_at hl 1 rfl) ?_
      refine va_get (D := D) (ci := 8) (v := .int 0) (C := RX8) (T := TX8) (N := 44) hx hb hts inX8 hown hK hP 0 rfl rfl 30 (by decide) (hts _ tw_1003) (fun _ h9 => h9) rfl dX8_keep_25 ?_
      refine va_iast hx hb hK hP hD hS 5 1 rfl rfl (by unfold vp_in; decide) dX8_keep_28 (fun H locs hP hD hS => ?_)
      have hP : va_P D classes [((a 0), .inr (8, [.ref (a 1), .ref (a 2), .ref (a 3), .ref (a 4), .ref (a 5), .int 0, .int (-1), .int 0, .long 0, .int 0, .int 0, .int 0, .int 0, .ref (a 14), .ref (a 15), .ref (a 16), .int 0, .ref (a 18), .ref (a 19), .ref (a 20), .ref (a 21), .ref (a 22), .ref (a 23), .int 0, .ref (a 25), .ref (a 26), .ref (a 27), .ref (a 28), .ref (a 29), .ref (a 30), .int 0, .ref (a 32), .ref (a 33), .ref (a 34), .int 0, .ref (a 36), .ref (a 37), .int 0, .int 0, .ref (a 40), .ref (a 41), .int 0, .ref (a 43), .ref (a 44)])), ((a 32), .inl (k 2, 24, .inl (fun _ => 0))), ((a 36), .inl (k 1, 4, .inl (fun _ => 0))), ((a 37), .inl (k 1, 4, .inl (fun _ => 0))), ((a 43), .inl (k 2, 2, .inl (fun _ => 0))), ((a 44), .inl (k 1, 70, .inl (upd (fun _ => 0) (Int32.toNatClampNeg 0) 0)))] H := hP
      have hD : va_D A [((a 0), .inr (8, [.ref (a 1), .ref (a 2), .ref (a 3), .ref (a 4), .ref (a 5), .int 0, .int (-1), .int 0, .long 0, .int 0, .int 0, .int 0, .int 0, .ref (a 14), .ref (a 15), .ref (a 16), .int 0, .ref (a 18), .ref (a 19), .ref (a 20), .ref (a 21), .ref (a 22), .ref (a 23), .int 0, .ref (a 25), .ref (a 26), .ref (a 27), .ref (a 28), .ref (a 29), .ref (a 30), .int 0, .ref (a 32), .ref (a 33), .ref (a 34), .int 0, .ref (a 36), .ref (a 37), .int 0, .int 0, .ref (a 40), .ref (a 41), .int 0, .ref (a 43), .ref (a 44)])), ((a 32), .inl (k 2, 24, .inl (fun _ => 0))), ((a 36), .inl (k 1, 4, .inl (fun _ => 0))), ((a 37), .inl (k 1, 4, .inl (fun _ => 0))), ((a 43), .inl (k 2, 2, .inl (fun _ => 0))), ((a 44), .inl (k 1, 70, .inl (upd (fun _ => 0) (Int32.toNatClampNeg 0) 0)))] := hD
      generalize (upd (fun _ => 0) (Int32.toNatClampNeg 0) 0) = f_2 at hP hD
      refine lv_aload_n hx hb dX8_keep_29 rfl (lv_at hl 1 rfl) ?_
      refine va_get (D := D) (ci := 8) (v := .ref (a 44)) (C := RX8) (T := TX8) (N := 44) hx hb hts inX8 hown hK hP 0 rfl rfl 43 (by decide) (hts _ tw_1016) (fun _ h9 => h9) rfl dX8_keep_30 ?_
      refine lv_iload_n hx hb dX8_keep_33 rfl (lv_at hl 0 rfl) ?_
      refine lv_iconst (v := 1) hx hb dX8_keep_34 (by decide) ?_
      refine lv_iadd hx hb dX8_keep_35 ?_
      refine lv_ti (y := 1) (by decide) ?_
      refine lv_aload_n hx hb dX8_keep_36 rfl (lv_at hl 1 rfl) ?_
      refine va_get (D := D) (ci := 8) (v := .int 0) (C := RX8) (T := TX8) (N := 44) hx hb hts inX8 hown hK hP 0 rfl rfl 34 (by decide) (hts _ tw_1007) (fun _ h9 => h9) rfl dX8_keep_37 ?_
      refine va_iast hx hb hK hP hD hS 5 1 rfl rfl (by unfold vp_in; decide) dX8_keep_40 (fun H locs hP hD hS => ?_)
      have hP : va_P D classes [((a 0), .inr (8, [.ref (a 1), .ref (a 2), .ref (a 3), .ref (a 4), .ref (a 5), .int 0, .int (-1), .int 0, .long 0, .int 0, .int 0, .int 0, .int 0, .ref (a 14), .ref (a 15), .ref (a 16), .int 0, .ref (a 18), .ref (a 19), .ref (a 20), .ref (a 21), .ref (a 22), .ref (a 23), .int 0, .ref (a 25), .ref (a 26), .ref (a 27), .ref (a 28), .ref (a 29), .ref (a 30), .int 0, .ref (a 32), .ref (a 33), .ref (a 34), .int 0, .ref (a 36), .ref (a 37), .int 0, .int 0, .ref (a 40), .ref (a 41), .int 0, .ref (a 43), .ref (a 44)])), ((a 32), .inl (k 2, 24, .inl (fun _ => 0))), ((a 36), .inl (k 1, 4, .inl (fun _ => 0))), ((a 37), .inl (k 1, 4, .inl (fun _ => 0))), ((a 43), .inl (k 2, 2, .inl (fun _ => 0))), ((a 44), .inl (k 1, 70, .inl (upd f_2 (Int32.toNatClampNeg 1) 0)))] H := hP
      have hD : va_D A [((a 0), .inr (8, [.ref (a 1), .ref (a 2), .ref (a 3), .ref (a 4), .ref (a 5), .int 0, .int (-1), .int 0, .long 0, .int 0, .int 0, .int 0, .int 0, .ref (a 14), .ref (a 15), .ref (a 16), .int 0, .ref (a 18), .ref (a 19), .ref (a 20), .ref (a 21), .ref (a 22), .ref (a 23), .int 0, .ref (a 25), .ref (a 26), .ref (a 27), .ref (a 28), .ref (a 29), .ref (a 30), .int 0, .ref (a 32), .ref (a 33), .ref (a 34), .int 0, .ref (a 36), .ref (a 37), .int 0, .int 0, .ref (a 40), .ref (a 41), .int 0, .ref (a 43), .ref (a 44)])), ((a 32), .inl (k 2, 24, .inl (fun _ => 0))), ((a 36), .inl (k 1, 4, .inl (fun _ => 0))), ((a 37), .inl (k 1, 4, .inl (fun _ => 0))), ((a 43), .inl (k 2, 2, .inl (fun _ => 0))), ((a 44), .inl (k 1, 70, .inl (upd f_2 (Int32.toNatClampNeg 1) 0)))] := hD
      generalize (upd f_2 (Int32.toNatClampNeg 1) 0) = f_3 at hP hD
      refine lv_aload_n hx hb dX8_keep_41 rfl (lv_at hl 1 rfl) ?_
      refine va_get (D := D) (ci := 8) (v := .ref (a 44)) (C := RX8) (T := TX8) (N := 44) hx hb hts inX8 hown hK hP 0 rfl rfl 43 (by decide) (hts _ tw_1016) (fun _ h9 => h9) rfl dX8_keep_42 ?_
      refine lv_iload_n hx hb dX8_keep_45 rfl (lv_at hl 0 rfl) ?_
      refine lv_iconst (v := 2) hx hb dX8_keep_46 (by decide) ?_
      refine lv_iadd hx hb dX8_keep_47 ?_
      refine lv_ti (y := 2) (by decide) ?_
      refine lv_aload_n hx hb dX8_keep_48 rfl (lv_at hl 1 rfl) ?_
      refine va_get (D := D) (ci := 8) (v := .int 0) (C := RX8) (T := TX8) (N := 44) hx hb hts inX8 hown hK hP 0 rfl rfl 41 (by decide) (hts _ tw_1014) (fun _ h9 => h9) rfl dX8_keep_49 ?_
      refine va_iast hx hb hK hP hD hS 5 1 rfl rfl (by unfold vp_in; decide) dX8_keep_52 (fun H locs hP hD hS => ?_)
      have hP : va_P D classes [((a 0), .inr (8, [.ref (a 1), .ref (a 2), .ref (a 3), .ref (a 4), .ref (a 5), .int 0, .int (-1), .int 0, .long 0, .int 0, .int 0, .int 0, .int 0, .ref (a 14), .ref (a 15), .ref (a 16), .int 0, .ref (a 18), .ref (a 19), .ref (a 20), .ref (a 21), .ref (a 22), .ref (a 23), .int 0, .ref (a 25), .ref (a 26), .ref (a 27), .ref (a 28), .ref (a 29), .ref (a 30), .int 0, .ref (a 32), .ref (a 33), .ref (a 34), .int 0, .ref (a 36), .ref (a 37), .int 0, .int 0, .ref (a 40), .ref (a 41), .int 0, .ref (a 43), .ref (a 44)])), ((a 32), .inl (k 2, 24, .inl (fun _ => 0))), ((a 36), .inl (k 1, 4, .inl (fun _ => 0))), ((a 37), .inl (k 1, 4, .inl (fun _ => 0))), ((a 43), .inl (k 2, 2, .inl (fun _ => 0))), ((a 44), .inl (k 1, 70, .inl (upd f_3 (Int32.toNatClampNeg 2) 0)))] H := hP
      have hD : va_D A [((a 0), .inr (8, [.ref (a 1), .ref (a 2), .ref (a 3), .ref (a 4), .ref (a 5), .int 0, .int (-1), .int 0, .long 0, .int 0, .int 0, .int 0, .int 0, .ref (a 14), .ref (a 15), .ref (a 16), .int 0, .ref (a 18), .ref (a 19), .ref (a 20), .ref (a 21), .ref (a 22), .ref (a 23), .int 0, .ref (a 25), .ref (a 26), .ref (a 27), .ref (a 28), .ref (a 29), .ref (a 30), .int 0, .ref (a 32), .ref (a 33), .ref (a 34), .int 0, .ref (a 36), .ref (a 37), .int 0, .int 0, .ref (a 40), .ref (a 41), .int 0, .ref (a 43), .ref (a 44)])), ((a 32), .inl (k 2, 24, .inl (fun _ => 0))), ((a 36), .inl (k 1, 4, .inl (fun _ => 0))), ((a 37), .inl (k 1, 4, .inl (fun _ => 0))), ((a 43), .inl (k 2, 2, .inl (fun _ => 0))), ((a 44), .inl (k 1, 70, .inl (upd f_3 (Int32.toNatClampNeg 2) 0)))] := hD
      generalize (upd f_3 (Int32.toNatClampNeg 2) 0) = f_4 at hP hD
      refine lv_iconst (v := 0) hx hb dX8_keep_53 (by decide) ?_
      refine lv_istore_n (lv' := [(3, .int 0), (2, .int 0), (0, .ref (a 0)), (1, .int 0)]) hx hb dX8_keep_54 rfl hl (by decide) rfl (fun ls hl => ?_)
      refine lv_iload_n hx hb dX8_keep_55 rfl (lv_at hl 0 rfl) ?_
      refine lv_bipush (v := 24) hx hb dX8_keep_56 (by decide) ?_
      refine lv_icmp_ge (tgt := 91) hx hb dX8_keep_58 (by decide) (fun h => absurd h (by decide)) (fun _ => ?_)
      refine lv_aload_n hx hb dX8_keep_61 rfl (lv_at hl 2 rfl) ?_
      refine va_get (D := D) (ci := 8) (v := .ref (a 44)) (C := RX8) (T := TX8) (N := 44) hx hb hts inX8 hown hK hP 0 rfl rfl 43 (by decide) (hts _ tw_1016) (fun _ h9 => h9) rfl dX8_keep_62 ?_
      refine lv_iload_n hx hb dX8_keep_65 rfl (lv_at hl 1 rfl) ?_
      refine lv_iconst (v := 3) hx hb dX8_keep_66 (by decide) ?_
      refine lv_iadd hx hb dX8_keep_67 ?_
      refine lv_ti (y := 3) (by decide) ?_
      refine lv_iload_n hx hb dX8_keep_68 rfl (lv_at hl 0 rfl) ?_
      refine lv_iadd hx hb dX8_keep_69 ?_
      refine lv_ti (y := 3) (by decide) ?_
      refine lv_aload_n hx hb dX8_keep_70 rfl (lv_at hl 2 rfl) ?_
      refine va_get (D := D) (ci := 8) (v := .ref (a 32)) (C := RX8) (T := TX8) (N := 44) hx hb hts inX8 hown hK hP 0 rfl rfl 31 (by decide) (hts _ tw_1004) (fun _ h9 => h9) rfl dX8_keep_71 ?_
      refine lv_iload_n hx hb dX8_keep_74 rfl (lv_at hl 0 rfl) ?_
      refine va_zald hx hb hK hP 1 2 rfl rfl (by unfold vp_in; decide) dX8_keep_75 ?_
      refine lv_ti (y := 0) (by rfl) ?_
      refine lv_if_eq (tgt := 83) hx hb dX8_keep_76 (by decide) (fun _ => ?_) (fun h => absurd (by decide) h)
      refine lv_iconst (v := 0) hx hb dX8_keep_83 (by decide) ?_
      refine va_iast hx hb hK hP hD hS 5 1 rfl rfl (by unfold vp_in; decide) dX8_keep_84 (fun H locs hP hD hS => ?_)
      have hP : va_P D classes [((a 0), .inr (8, [.ref (a 1), .ref (a 2), .ref (a 3), .ref (a 4), .ref (a 5), .int 0, .int (-1), .int 0, .long 0, .int 0, .int 0, .int 0, .int 0, .ref (a 14), .ref (a 15), .ref (a 16), .int 0, .ref (a 18), .ref (a 19), .ref (a 20), .ref (a 21), .ref (a 22), .ref (a 23), .int 0, .ref (a 25), .ref (a 26), .ref (a 27), .ref (a 28), .ref (a 29), .ref (a 30), .int 0, .ref (a 32), .ref (a 33), .ref (a 34), .int 0, .ref (a 36), .ref (a 37), .int 0, .int 0, .ref (a 40), .ref (a 41), .int 0, .ref (a 43), .ref (a 44)])), ((a 32), .inl (k 2, 24, .inl (fun _ => 0))), ((a 36), .inl (k 1, 4, .inl (fun _ => 0))), ((a 37), .inl (k 1, 4, .inl (fun _ => 0))), ((a 43), .inl (k 2, 2, .inl (fun _ => 0))), ((a 44), .inl (k 1, 70, .inl (upd f_4 (Int32.toNatClampNeg 3) 0)))] H := hP
      have hD : va_D A [((a 0), .inr (8, [.ref (a 1), .ref (a 2), .ref (a 3), .ref (a 4), .ref (a 5), .int 0, .int (-1), .int 0, .long 0, .int 0, .int 0, .int 0, .int 0, .ref (a 14), .ref (a 15), .ref (a 16), .int 0, .ref (a 18), .ref (a 19), .ref (a 20), .ref (a 21), .ref (a 22), .ref (a 23), .int 0, .ref (a 25), .ref (a 26), .ref (a 27), .ref (a 28), .ref (a 29), .ref (a 30), .int 0, .ref (a 32), .ref (a 33), .ref (a 34), .int 0, .ref (a 36), .ref (a 37), .int 0, .int 0, .ref (a 40), .ref (a 41), .int 0, .ref (a 43), .ref (a 44)])), ((a 32), .inl (k 2, 24, .inl (fun _ => 0))), ((a 36), .inl (k 1, 4, .inl (fun _ => 0))), ((a 37), .inl (k 1, 4, .inl (fun _ => 0))), ((a 43), .inl (k 2, 2, .inl (fun _ => 0))), ((a 44), .inl (k 1, 70, .inl (upd f_4 (Int32.toNatClampNeg 3) 0)))] := hD
      generalize (upd f_4 (Int32.toNatClampNeg 3) 0) = f_5 at hP hD
      refine lv_iinc (v := 1) (lv' := [(3, .int 1), (2, .int 0), (0, .ref (a 0)), (1, .int 0)]) hx hb dX8_keep_85 hl (k := 0) rfl (by decide) (by decide) rfl (fun ls hl => ?_)
      refine lv_goto (tgt := 55) hx hb dX8_keep_88 (by decide) ?_
      refine lv_iload_n hx hb dX8_keep_55 rfl (lv_at hl 0 rfl) ?_
      refine lv_bipush (v := 24) hx hb dX8_keep_56 (by decide) ?_
      refine lv_icmp_ge (tgt := 91) hx hb dX8_keep_58 (by decide) (fun h => absurd h (by decide)) (fun _ => ?_)
      refine lv_aload_n hx hb dX8_keep_61 rfl (lv_at hl 2 rfl) ?_
      refine va_get (D := D) (ci := 8) (v := .ref (a 44)) (C := RX8) (T := TX8) (N := 44) hx hb hts inX8 hown hK hP 0 rfl rfl 43 (by decide) (hts _ tw_1016) (fun _ h9 => h9) rfl dX8_keep_62 ?_
      refine lv_iload_n hx hb dX8_keep_65 rfl (lv_at hl 1 rfl) ?_
      refine lv_iconst (v := 3) hx hb dX8_keep_66 (by decide) ?_
      refine lv_iadd hx hb dX8_keep_67 ?_
      refine lv_ti (y := 3) (by decide) ?_
      refine lv_iload_n hx hb dX8_keep_68 rfl (lv_at hl 0 rfl) ?_
      refine lv_iadd hx hb dX8_keep_69 ?_
      refine lv_ti (y := 4) (by decide) ?_
      refine lv_aload_n hx hb dX8_keep_70 rfl (lv_at hl 2 rfl) ?_
      refine va_get (D := D) (ci := 8) (v := .ref (a 32)) (C := RX8) (T := TX8) (N := 44) hx hb hts inX8 hown hK hP 0 rfl rfl 31 (by decide) (hts _ tw_1004) (fun _ h9 => h9) rfl dX8_keep_71 ?_
      refine lv_iload_n hx hb dX8_keep_74 rfl (lv_at hl 0 rfl) ?_
      refine va_zald hx hb hK hP 1 2 rfl rfl (by unfold vp_in; decide) dX8_keep_75 ?_
      refine lv_ti (y := 0) (by rfl) ?_
      refine lv_if_eq (tgt := 83) hx hb dX8_keep_76 (by decide) (fun _ => ?_) (fun h => absurd (by decide) h)
      refine lv_iconst (v := 0) hx hb dX8_keep_83 (by decide) ?_
      refine va_iast hx hb hK hP hD hS 5 1 rfl rfl (by unfold vp_in; decide) dX8_keep_84 (fun H locs hP hD hS => ?_)
      have hP : va_P D classes [((a 0), .inr (8, [.ref (a 1), .ref (a 2), .ref (a 3), .ref (a 4), .ref (a 5), .int 0, .int (-1), .int 0, .long 0, .int 0, .int 0, .int 0, .int 0, .ref (a 14), .ref (a 15), .ref (a 16), .int 0, .ref (a 18), .ref (a 19), .ref (a 20), .ref (a 21), .ref (a 22), .ref (a 23), .int 0, .ref (a 25), .ref (a 26), .ref (a 27), .ref (a 28), .ref (a 29), .ref (a 30), .int 0, .ref (a 32), .ref (a 33), .ref (a 34), .int 0, .ref (a 36), .ref (a 37), .int 0, .int 0, .ref (a 40), .ref (a 41), .int 0, .ref (a 43), .ref (a 44)])), ((a 32), .inl (k 2, 24, .inl (fun _ => 0))), ((a 36), .inl (k 1, 4, .inl (fun _ => 0))), ((a 37), .inl (k 1, 4, .inl (fun _ => 0))), ((a 43), .inl (k 2, 2, .inl (fun _ => 0))), ((a 44), .inl (k 1, 70, .inl (upd f_5 (Int32.toNatClampNeg 4) 0)))] H := hP
      have hD : va_D A [((a 0), .inr (8, [.ref (a 1), .ref (a 2), .ref (a 3), .ref (a 4), .ref (a 5), .int 0, .int (-1), .int 0, .long 0, .int 0, .int 0, .int 0, .int 0, .ref (a 14), .ref (a 15), .ref (a 16), .int 0, .ref (a 18), .ref (a 19), .ref (a 20), .ref (a 21), .ref (a 22), .ref (a 23), .int 0, .ref (a 25), .ref (a 26), .ref (a 27), .ref (a 28), .ref (a 29), .ref (a 30), .int 0, .ref (a 32), .ref (a 33), .ref (a 34), .int 0, .ref (a 36), .ref (a 37), .int 0, .int 0, .ref (a 40), .ref (a 41), .int 0, .ref (a 43), .ref (a 44)])), ((a 32), .inl (k 2, 24, .inl (fun _ => 0))), ((a 36), .inl (k 1, 4, .inl (fun _ => 0))), ((a 37), .inl (k 1, 4, .inl (fun _ => 0))), ((a 43), .inl (k 2, 2, .inl (fun _ => 0))), ((a 44), .inl (k 1, 70, .inl (upd f_5 (Int32.toNatClampNeg 4) 0)))] := hD
      generalize (upd f_5 (Int32.toNatClampNeg 4) 0) = f_6 at hP hD
      refine lv_iinc (v := 2) (lv' := [(3, .int 2), (2, .int 0), (0, .ref (a 0)), (1, .int 0)]) hx hb dX8_keep_85 hl (k := 0) rfl (by decide) (by decide) rfl (fun ls hl => ?_)
      refine lv_goto (tgt := 55) hx hb dX8_keep_88 (by decide) ?_
      refine lv_iload_n hx hb dX8_keep_55 rfl (lv_at hl 0 rfl) ?_
      refine lv_bipush (v := 24) hx hb dX8_keep_56 (by decide) ?_
      refine lv_icmp_ge (tgt := 91) hx hb dX8_keep_58 (by decide) (fun h => absurd h (by decide)) (fun _ => ?_)
      refine lv_aload_n hx hb dX8_keep_61 rfl (lv_at hl 2 rfl) ?_
      refine va_get (D := D) (ci := 8) (v := .ref (a 44)) (C := RX8) (T := TX8) (N := 44) hx hb hts inX8 hown hK hP 0 rfl rfl 43 (by decide) (hts _ tw_1016) (fun _ h9 => h9) rfl dX8_keep_62 ?_
      refine lv_iload_n hx hb dX8_keep_65 rfl (lv_at hl 1 rfl) ?_
      refine lv_iconst (v := 3) hx hb dX8_keep_66 (by decide) ?_
      refine lv_iadd hx hb dX8_keep_67 ?_
      refine lv_ti (y := 3) (by decide) ?_
      refine lv_iload_n hx hb dX8_keep_68 rfl (lv_at hl 0 rfl) ?_
      refine lv_iadd hx hb dX8_keep_69 ?_
      refine lv_ti (y := 5) (by decide) ?_
      refine lv_aload_n hx hb dX8_keep_70 rfl (lv_at hl 2 rfl) ?_
      refine va_get (D := D) (ci := 8) (v := .ref (a 32)) (C := RX8) (T := TX8) (N := 44) hx hb hts inX8 hown hK hP 0 rfl rfl 31 (by decide) (hts _ tw_1004) (fun _ h9 => h9) rfl dX8_keep_71 ?_
      refine lv_iload_n hx hb dX8_keep_74 rfl (lv_at hl 0 rfl) ?_
      refine va_zald hx hb hK hP 1 2 rfl rfl (by unfold vp_in; decide) dX8_keep_75 ?_
      refine lv_ti (y := 0) (by rfl) ?_
      refine lv_if_eq (tgt := 83) hx hb dX8_keep_76 (by decide) (fun _ => ?_) (fun h => absurd (by decide) h)
      refine lv_iconst (v := 0) hx hb dX8_keep_83 (by decide) ?_
      refine va_iast hx hb hK hP hD hS 5 1 rfl rfl (by unfold vp_in; decide) dX8_keep_84 (fun H locs hP hD hS => ?_)
      have hP : va_P D classes [((a 0), .inr (8, [.ref (a 1), .ref (a 2), .ref (a 3), .ref (a 4), .ref (a 5), .int 0, .int (-1), .int 0, .long 0, .int 0, .int 0, .int 0, .int 0, .ref (a 14), .ref (a 15), .ref (a 16), .int 0, .ref (a 18), .ref (a 19), .ref (a 20), .ref (a 21), .ref (a 22), .ref (a 23), .int 0, .ref (a 25), .ref (a 26), .ref (a 27), .ref (a 28), .ref (a 29), .ref (a 30), .int 0, .ref (a 32), .ref (a 33), .ref (a 34), .int 0, .ref (a 36), .ref (a 37), .int 0, .int 0, .ref (a 40), .ref (a 41), .int 0, .ref (a 43), .ref (a 44)])), ((a 32), .inl (k 2, 24, .inl (fun _ => 0))), ((a 36), .inl (k 1, 4, .inl (fun _ => 0))), ((a 37), .inl (k 1, 4, .inl (fun _ => 0))), ((a 43), .inl (k 2, 2, .inl (fun _ => 0))), ((a 44), .inl (k 1, 70, .inl (upd f_6 (Int32.toNatClampNeg 5) 0)))] H := hP
      have hD : va_D A [((a 0), .inr (8, [.ref (a 1), .ref (a 2), .ref (a 3), .ref (a 4), .ref (a 5), .int 0, .int (-1), .int 0, .long 0, .int 0, .int 0, .int 0, .int 0, .ref (a 14), .ref (a 15), .ref (a 16), .int 0, .ref (a 18), .ref (a 19), .ref (a 20), .ref (a 21), .ref (a 22), .ref (a 23), .int 0, .ref (a 25), .ref (a 26), .ref (a 27), .ref (a 28), .ref (a 29), .ref (a 30), .int 0, .ref (a 32), .ref (a 33), .ref (a 34), .int 0, .ref (a 36), .ref (a 37), .int 0, .int 0, .ref (a 40), .ref (a 41), .int 0, .ref (a 43), .ref (a 44)])), ((a 32), .inl (k 2, 24, .inl (fun _ => 0))), ((a 36), .inl (k 1, 4, .inl (fun _ => 0))), ((a 37), .inl (k 1, 4, .inl (fun _ => 0))), ((a 43), .inl (k 2, 2, .inl (fun _ => 0))), ((a 44), .inl (k 1, 70, .inl (upd f_6 (Int32.toNatClampNeg 5) 0)))] := hD
      generalize (upd f_6 (Int32.toNatClampNeg 5) 0) = f_7 at hP hD
      refine lv_iinc (v := 3) (lv' := [(3, .int 3), (2, .int 0), (0, .ref (a 0)), (1, .int 0)]) hx hb dX8_keep_85 hl (k := 0) rfl (by decide) (by decide) rfl (fun ls hl => ?_)
      refine lv_goto (tgt := 55) hx hb dX8_keep_88 (by decide) ?_
      refine lv_iload_n hx hb dX8_keep_55 rfl (lv_at hl 0 rfl) ?_
      refine lv_bipush (v := 24) hx hb dX8_keep_56 (by decide) ?_
      refine lv_icmp_ge (tgt := 91) hx hb dX8_keep_58 (by decide) (fun h => absurd h (by decide)) (fun _ => ?_)
      refine lv_aload_n hx hb dX8_keep_61 rfl (lv_at hl 2 rfl) ?_
      refine va_get (D := D) (ci := 8) (v := .ref (a 44)) (C := RX8) (T := TX8) (N := 44) hx hb hts inX8 hown hK hP 0 rfl rfl 43 (by decide) (hts _ tw_1016) (fun _ h9 => h9) rfl dX8_keep_62 ?_
      refine lv_iload_n hx hb dX8_keep_65 rfl (lv_at hl 1 rfl) ?_
      refine lv_iconst (v := 3) hx hb dX8_keep_66 (by decide) ?_
      refine lv_iadd hx hb dX8_keep_67 ?_
      refine lv_ti (y := 3) (by decide) ?_
      refine lv_iload_n hx hb dX8_keep_68 rfl (lv_at hl 0 rfl) ?_
      refine lv_iadd hx hb dX8_keep_69 ?_
      refine lv_ti (y := 6) (by decide) ?_
      refine lv_aload_n hx hb dX8_keep_70 rfl (lv_at hl 2 rfl) ?_
      refine va_get (D := D) (ci := 8) (v := .ref (a 32)) (C := RX8) (T := TX8) (N := 44) hx hb hts inX8 hown hK hP 0 rfl rfl 31 (by decide) (hts _ tw_1004) (fun _ h9 => h9) rfl dX8_keep_71 ?_
      refine lv_iload_n hx hb dX8_keep_74 rfl (lv_at hl 0 rfl) ?_
      refine va_zald hx hb hK hP 1 2 rfl rfl (by unfold vp_in; decide) dX8_keep_75 ?_
      refine lv_ti (y := 0) (by rfl) ?_
      refine lv_if_eq (tgt := 83) hx hb dX8_keep_76 (by decide) (fun _ => ?_) (fun h => absurd (by decide) h)
      refine lv_iconst (v := 0) hx hb dX8_keep_83 (by decide) ?_
      refine va_iast hx hb hK hP hD hS 5 1 rfl rfl (by unfold vp_in; decide) dX8_keep_84 (fun H locs hP hD hS => ?_)
      have hP : va_P D classes [((a 0), .inr (8, [.ref (a 1), .ref (a 2), .ref (a 3), .ref (a 4), .ref (a 5), .int 0, .int (-1), .int 0, .long 0, .int 0, .int 0, .int 0, .int 0, .ref (a 14), .ref (a 15), .ref (a 16), .int 0, .ref (a 18), .ref (a 19), .ref (a 20), .ref (a 21), .ref (a 22), .ref (a 23), .int 0, .ref (a 25), .ref (a 26), .ref (a 27), .ref (a 28), .ref (a 29), .ref (a 30), .int 0, .ref (a 32), .ref (a 33), .ref (a 34), .int 0, .ref (a 36), .ref (a 37), .int 0, .int 0, .ref (a 40), .ref (a 41), .int 0, .ref (a 43), .ref (a 44)])), ((a 32), .inl (k 2, 24, .inl (fun _ => 0))), ((a 36), .inl (k 1, 4, .inl (fun _ => 0))), ((a 37), .inl (k 1, 4, .inl (fun _ => 0))), ((a 43), .inl (k 2, 2, .inl (fun _ => 0))), ((a 44), .inl (k 1, 70, .inl (upd f_7 (Int32.toNatClampNeg 6) 0)))] H := hP
      have hD : va_D A [((a 0), .inr (8, [.ref (a 1), .ref (a 2), .ref (a 3), .ref (a 4), .ref (a 5), .int 0, .int (-1), .int 0, .long 0, .int 0, .int 0, .int 0, .int 0, .ref (a 14), .ref (a 15), .ref (a 16), .int 0, .ref (a 18), .ref (a 19), .ref (a 20), .ref (a 21), .ref (a 22), .ref (a 23), .int 0, .ref (a 25), .ref (a 26), .ref (a 27), .ref (a 28), .ref (a 29), .ref (a 30), .int 0, .ref (a 32), .ref (a 33), .ref (a 34), .int 0, .ref (a 36), .ref (a 37), .int 0, .int 0, .ref (a 40), .ref (a 41), .int 0, .ref (a 43), .ref (a 44)])), ((a 32), .inl (k 2, 24, .inl (fun _ => 0))), ((a 36), .inl (k 1, 4, .inl (fun _ => 0))), ((a 37), .inl (k 1, 4, .inl (fun _ => 0))), ((a 43), .inl (k 2, 2, .inl (fun _ => 0))), ((a 44), .inl (k 1, 70, .inl (upd f_7 (Int32.toNatClampNeg 6) 0)))] := hD
      generalize (upd f_7 (Int32.toNatClampNeg 6) 0) = f_8 at hP hD
      refine lv_iinc (v := 4) (lv' := [(3, .int 4), (2, .int 0), (0, .ref (a 0)), (1, .int 0)]) hx hb dX8_keep_85 hl (k := 0) rfl (by decide) (by decide) rfl (fun ls hl => ?_)
      refine lv_goto (tgt := 55) hx hb dX8_keep_88 (by decide) ?_
      refine lv_iload_n hx hb dX8_keep_55 rfl (lv_at hl 0 rfl) ?_
      refine lv_bipush (v := 24) hx hb dX8_keep_56 (by decide) ?_
      refine lv_icmp_ge (tgt := 91) hx hb dX8_keep_58 (by decide) (fun h => absurd h (by decide)) (fun _ => ?_)
      refine lv_aload_n hx hb dX8_keep_61 rfl (lv_at hl 2 rfl) ?_
      refine va_get (D := D) (ci := 8) (v := .ref (a 44)) (C := RX8) (T := TX8) (N := 44) hx hb hts inX8 hown hK hP 0 rfl rfl 43 (by decide) (hts _ tw_1016) (fun _ h9 => h9) rfl dX8_keep_62 ?_
      refine lv_iload_n hx hb dX8_keep_65 rfl (lv_at hl 1 rfl) ?_
      refine lv_iconst (v := 3) hx hb dX8_keep_66 (by decide) ?_
      refine lv_iadd hx hb dX8_keep_67 ?_
      refine lv_ti (y := 3) (by decide) ?_
      refine lv_iload_n hx hb dX8_keep_68 rfl (lv_at hl 0 rfl) ?_
      refine lv_iadd hx hb dX8_keep_69 ?_
      refine lv_ti (y := 7) (by decide) ?_
      refine lv_aload_n hx hb dX8_keep_70 rfl (lv_at hl 2 rfl) ?_
      refine va_get (D := D) (ci := 8) (v := .ref (a 32)) (C := RX8) (T := TX8) (N := 44) hx hb hts inX8 hown hK hP 0 rfl rfl 31 (by decide) (hts _ tw_1004) (fun _ h9 => h9) rfl dX8_keep_71 ?_
      refine lv_iload_n hx hb dX8_keep_74 rfl (lv_at hl 0 rfl) ?_
      refine va_zald hx hb hK hP 1 2 rfl rfl (by unfold vp_in; decide) dX8_keep_75 ?_
      refine lv_ti (y := 0) (by rfl) ?_
      refine lv_if_eq (tgt := 83) hx hb dX8_keep_76 (by decide) (fun _ => ?_) (fun h => absurd (by decide) h)
      refine lv_iconst (v := 0) hx hb dX8_keep_83 (by decide) ?_
      refine va_iast hx hb hK hP hD hS 5 1 rfl rfl (by unfold vp_in; decide) dX8_keep_84 (fun H locs hP hD hS => ?_)
      have hP : va_P D classes [((a 0), .inr (8, [.ref (a 1), .ref (a 2), .ref (a 3), .ref (a 4), .ref (a 5), .int 0, .int (-1), .int 0, .long 0, .int 0, .int 0, .int 0, .int 0, .ref (a 14), .ref (a 15), .ref (a 16), .int 0, .ref (a 18), .ref (a 19), .ref (a 20), .ref (a 21), .ref (a 22), .ref (a 23), .int 0, .ref (a 25), .ref (a 26), .ref (a 27), .ref (a 28), .ref (a 29), .ref (a 30), .int 0, .ref (a 32), .ref (a 33), .ref (a 34), .int 0, .ref (a 36), .ref (a 37), .int 0, .int 0, .ref (a 40), .ref (a 41), .int 0, .ref (a 43), .ref (a 44)])), ((a 32), .inl (k 2, 24, .inl (fun _ => 0))), ((a 36), .inl (k 1, 4, .inl (fun _ => 0))), ((a 37), .inl (k 1, 4, .inl (fun _ => 0))), ((a 43), .inl (k 2, 2, .inl (fun _ => 0))), ((a 44), .inl (k 1, 70, .inl (upd f_8 (Int32.toNatClampNeg 7) 0)))] H := hP
      have hD : va_D A [((a 0), .inr (8, [.ref (a 1), .ref (a 2), .ref (a 3), .ref (a 4), .ref (a 5), .int 0, .int (-1), .int 0, .long 0, .int 0, .int 0, .int 0, .int 0, .ref (a 14), .ref (a 15), .ref (a 16), .int 0, .ref (a 18), .ref (a 19), .ref (a 20), .ref (a 21), .ref (a 22), .ref (a 23), .int 0, .ref (a 25), .ref (a 26), .ref (a 27), .ref (a 28), .ref (a 29), .ref (a 30), .int 0, .ref (a 32), .ref (a 33), .ref (a 34), .int 0, .ref (a 36), .ref (a 37), .int 0, .int 0, .ref (a 40), .ref (a 41), .int 0, .ref (a 43), .ref (a 44)])), ((a 32), .inl (k 2, 24, .inl (fun _ => 0))), ((a 36), .inl (k 1, 4, .inl (fun _ => 0))), ((a 37), .inl (k 1, 4, .inl (fun _ => 0))), ((a 43), .inl (k 2, 2, .inl (fun _ => 0))), ((a 44), .inl (k 1, 70, .inl (upd f_8 (Int32.toNatClampNeg 7) 0)))] := hD
      generalize (upd f_8 (Int32.toNatClampNeg 7) 0) = f_9 at hP hD
      refine lv_iinc (v := 5) (lv' := [(3, .int 5), (2, .int 0), (0, .ref (a 0)), (1, .int 0)]) hx hb dX8_keep_85 hl (k := 0) rfl (by decide) (by decide) rfl (fun ls hl => ?_)
      refine lv_goto (tgt := 55) hx hb dX8_keep_88 (by decide) ?_
      refine lv_iload_n hx hb dX8_keep_55 rfl (lv_at hl 0 rfl) ?_
      refine lv_bipush (v := 24) hx hb dX8_keep_56 (by decide) ?_
      refine lv_icmp_ge (tgt := 91) hx hb dX8_keep_58 (by decide) (fun h => absurd h (by decide)) (fun _ => ?_)
      refine lv_aload_n hx hb dX8_keep_61 rfl (lv_at hl 2 rfl) ?_
      refine va_get (D := D) (ci := 8) (v := .ref (a 44)) (C := RX8) (T := TX8) (N := 44) hx hb hts inX8 hown hK hP 0 rfl rfl 43 (by decide) (hts _ tw_1016) (fun _ h9 => h9) rfl dX8_keep_62 ?_
      refine lv_iload_n hx hb dX8_keep_65 rfl (lv_at hl 1 rfl) ?_
      refine lv_iconst (v := 3) hx hb dX8_keep_66 (by decide) ?_
      refine lv_iadd hx hb dX8_keep_67 ?_
      refine lv_ti (y := 3) (by decide) ?_
      refine lv_iload_n hx hb dX8_keep_68 rfl (lv_at hl 0 rfl) ?_
      refine lv_iadd hx hb dX8_keep_69 ?_
      refine lv_ti (y := 8) (by decide) ?_
      refine lv_aload_n hx hb dX8_keep_70 rfl (lv_at hl 2 rfl) ?_
      refine va_get (D := D) (ci := 8) (v := .ref (a 32)) (C := RX8) (T := TX8) (N := 44) hx hb hts inX8 hown hK hP 0 rfl rfl 31 (by decide) (hts _ tw_1004) (fun _ h9 => h9) rfl dX8_keep_71 ?_
      refine lv_iload_n hx hb dX8_keep_74 rfl (lv_at hl 0 rfl) ?_
      refine va_zald hx hb hK hP 1 2 rfl rfl (by unfold vp_in; decide) dX8_keep_75 ?_
      refine lv_ti (y := 0) (by rfl) ?_
      refine lv_if_eq (tgt := 83) hx hb dX8_keep_76 (by decide) (fun _ => ?_) (fun h => absurd (by decide) h)
      refine lv_iconst (v := 0) hx hb dX8_keep_83 (by decide) ?_
      refine va_iast hx hb hK hP hD hS 5 1 rfl rfl (by unfold vp_in; decide) dX8_keep_84 (fun H locs hP hD hS => ?_)
      have hP : va_P D classes [((a 0), .inr (8, [.ref (a 1), .ref (a 2), .ref (a 3), .ref (a 4), .ref (a 5), .int 0, .int (-1), .int 0, .long 0, .int 0, .int 0, .int 0, .int 0, .ref (a 14), .ref (a 15), .ref (a 16), .int 0, .ref (a 18), .ref (a 19), .ref (a 20), .ref (a 21), .ref (a 22), .ref (a 23), .int 0, .ref (a 25), .ref (a 26), .ref (a 27), .ref (a 28), .ref (a 29), .ref (a 30), .int 0, .ref (a 32), .ref (a 33), .ref (a 34), .int 0, .ref (a 36), .ref (a 37), .int 0, .int 0, .ref (a 40), .ref (a 41), .int 0, .ref (a 43), .ref (a 44)])), ((a 32), .inl (k 2, 24, .inl (fun _ => 0))), ((a 36), .inl (k 1, 4, .inl (fun _ => 0))), ((a 37), .inl (k 1, 4, .inl (fun _ => 0))), ((a 43), .inl (k 2, 2, .inl (fun _ => 0))), ((a 44), .inl (k 1, 70, .inl (upd f_9 (Int32.toNatClampNeg 8) 0)))] H := hP
      have hD : va_D A [((a 0), .inr (8, [.ref (a 1), .ref (a 2), .ref (a 3), .ref (a 4), .ref (a 5), .int 0, .int (-1), .int 0, .long 0, .int 0, .int 0, .int 0, .int 0, .ref (a 14), .ref (a 15), .ref (a 16), .int 0, .ref (a 18), .ref (a 19), .ref (a 20), .ref (a 21), .ref (a 22), .ref (a 23), .int 0, .ref (a 25), .ref (a 26), .ref (a 27), .ref (a 28), .ref (a 29), .ref (a 30), .int 0, .ref (a 32), .ref (a 33), .ref (a 34), .int 0, .ref (a 36), .ref (a 37), .int 0, .int 0, .ref (a 40), .ref (a 41), .int 0, .ref (a 43), .ref (a 44)])), ((a 32), .inl (k 2, 24, .inl (fun _ => 0))), ((a 36), .inl (k 1, 4, .inl (fun _ => 0))), ((a 37), .inl (k 1, 4, .inl (fun _ => 0))), ((a 43), .inl (k 2, 2, .inl (fun _ => 0))), ((a 44), .inl (k 1, 70, .inl (upd f_9 (Int32.toNatClampNeg 8) 0)))] := hD
      generalize (upd f_9 (Int32.toNatClampNeg 8) 0) = f_10 at hP hD
      refine lv_iinc (v := 6) (lv' := [(3, .int 6), (2, .int 0), (0, .ref (a 0)), (1, .int 0)]) hx hb dX8_keep_85 hl (k := 0) rfl (by decide) (by decide) rfl (fun ls hl => ?_)
      refine lv_goto (tgt := 55) hx hb dX8_keep_88 (by decide) ?_
      refine lv_iload_n hx hb dX8_keep_55 rfl (lv_at hl 0 rfl) ?_
      refine lv_bipush (v := 24) hx hb dX8_keep_56 (by decide) ?_
      refine lv_icmp_ge (tgt := 91) hx hb dX8_keep_58 (by decide) (fun h => absurd h (by decide)) (fun _ => ?_)
      refine lv_aload_n hx hb dX8_keep_61 rfl (lv_at hl 2 rfl) ?_
      refine va_get (D := D) (ci := 8) (v := .ref (a 44)) (C := RX8) (T := TX8) (N := 44) hx hb hts inX8 hown hK hP 0 rfl rfl 43 (by decide) (hts _ tw_1016) (fun _ h9 => h9) rfl dX8_keep_62 ?_
      refine lv_iload_n hx hb dX8_keep_65 rfl (lv_at hl 1 rfl) ?_
      refine lv_iconst (v := 3) hx hb dX8_keep_66 (by decide) ?_
      refine lv_iadd hx hb dX8_keep_67 ?_
      refine lv_ti (y := 3) (by decide) ?_
      refine lv_iload_n hx hb dX8_keep_68 rfl (lv_at hl 0 rfl) ?_
      refine lv_iadd hx hb dX8_keep_69 ?_
      refine lv_ti (y := 9) (by decide) ?_
      refine lv_aload_n hx hb dX8_keep_70 rfl (lv_at hl 2 rfl) ?_
      refine va_get (D := D) (ci := 8) (v := .ref (a 32)) (C := RX8) (T := TX8) (N := 44) hx hb hts inX8 hown hK hP 0 rfl rfl 31 (by decide) (hts _ tw_1004) (fun _ h9 => h9) rfl dX8_keep_71 ?_
      refine lv_iload_n hx hb dX8_keep_74 rfl (lv_at hl 0 rfl) ?_
      refine va_zald hx hb hK hP 1 2 rfl rfl (by unfold vp_in; decide) dX8_keep_75 ?_
      refine lv_ti (y := 0) (by rfl) ?_
      refine lv_if_eq (tgt := 83) hx hb dX8_keep_76 (by decide) (fun _ => ?_) (fun h => absurd (by decide) h)
      refine lv_iconst (v := 0) hx hb dX8_keep_83 (by decide) ?_
      refine va_iast hx hb hK hP hD hS 5 1 rfl rfl (by unfold vp_in; decide) dX8_keep_84 (fun H locs hP hD hS => ?_)
      have hP : va_P D classes [((a 0), .inr (8, [.ref (a 1), .ref (a 2), .ref (a 3), .ref (a 4), .ref (a 5), .int 0, .int (-1), .int 0, .long 0, .int 0, .int 0, .int 0, .int 0, .ref (a 14), .ref (a 15), .ref (a 16), .int 0, .ref (a 18), .ref (a 19), .ref (a 20), .ref (a 21), .ref (a 22), .ref (a 23), .int 0, .ref (a 25), .ref (a 26), .ref (a 27), .ref (a 28), .ref (a 29), .ref (a 30), .int 0, .ref (a 32), .ref (a 33), .ref (a 34), .int 0, .ref (a 36), .ref (a 37), .int 0, .int 0, .ref (a 40), .ref (a 41), .int 0, .ref (a 43), .ref (a 44)])), ((a 32), .inl (k 2, 24, .inl (fun _ => 0))), ((a 36), .inl (k 1, 4, .inl (fun _ => 0))), ((a 37), .inl (k 1, 4, .inl (fun _ => 0))), ((a 43), .inl (k 2, 2, .inl (fun _ => 0))), ((a 44), .inl (k 1, 70, .inl (upd f_10 (Int32.toNatClampNeg 9) 0)))] H := hP
      have hD : va_D A [((a 0), .inr (8, [.ref (a 1), .ref (a 2), .ref (a 3), .ref (a 4), .ref (a 5), .int 0, .int (-1), .int 0, .long 0, .int 0, .int 0, .int 0, .int 0, .ref (a 14), .ref (a 15), .ref (a 16), .int 0, .ref (a 18), .ref (a 19), .ref (a 20), .ref (a 21), .ref (a 22), .ref (a 23), .int 0, .ref (a 25), .ref (a 26), .ref (a 27), .ref (a 28), .ref (a 29), .ref (a 30), .int 0, .ref (a 32), .ref (a 33), .ref (a 34), .int 0, .ref (a 36), .ref (a 37), .int 0, .int 0, .ref (a 40), .ref (a 41), .int 0, .ref (a 43), .ref (a 44)])), ((a 32), .inl (k 2, 24, .inl (fun _ => 0))), ((a 36), .inl (k 1, 4, .inl (fun _ => 0))), ((a 37), .inl (k 1, 4, .inl (fun _ => 0))), ((a 43), .inl (k 2, 2, .inl (fun _ => 0))), ((a 44), .inl (k 1, 70, .inl (upd f_10 (Int32.toNatClampNeg 9) 0)))] := hD
      generalize (upd f_10 (Int32.toNatClampNeg 9) 0) = f_11 at hP hD
      refine lv_iinc (v := 7) (lv' := [(3, .int 7), (2, .int 0), (0, .ref (a 0)), (1, .int 0)]) hx hb dX8_keep_85 hl (k := 0) rfl (by decide) (by decide) rfl (fun ls hl => ?_)
      refine lv_goto (tgt := 55) hx hb dX8_keep_88 (by decide) ?_
      refine lv_iload_n hx hb dX8_keep_55 rfl (lv_at hl 0 rfl) ?_
      refine lv_bipush (v := 24) hx hb dX8_keep_56 (by decide) ?_
      refine lv_icmp_ge (tgt := 91) hx hb dX8_keep_58 (by decide) (fun h => absurd h (by decide)) (fun _ => ?_)
      refine lv_aload_n hx hb dX8_keep_61 rfl (lv_at hl 2 rfl) ?_
      refine va_get (D := D) (ci := 8) (v := .ref (a 44)) (C := RX8) (T := TX8) (N := 44) hx hb hts inX8 hown hK hP 0 rfl rfl 43 (by decide) (hts _ tw_1016) (fun _ h9 => h9) rfl dX8_keep_62 ?_
      refine lv_iload_n hx hb dX8_keep_65 rfl (lv_at hl 1 rfl) ?_
      refine lv_iconst (v := 3) hx hb dX8_keep_66 (by decide) ?_
      refine lv_iadd hx hb dX8_keep_67 ?_
      refine lv_ti (y := 3) (by decide) ?_
      refine lv_iload_n hx hb dX8_keep_68 rfl (lv_at hl 0 rfl) ?_
      refine lv_iadd hx hb dX8_keep_69 ?_
      refine lv_ti (y := 10) (by decide) ?_
      refine lv_aload_n hx hb dX8_keep_70 rfl (lv_at hl 2 rfl) ?_
      refine va_get (D := D) (ci := 8) (v := .ref (a 32)) (C := RX8) (T := TX8) (N := 44) hx hb hts inX8 hown hK hP 0 rfl rfl 31 (by decide) (hts _ tw_1004) (fun _ h9 => h9) rfl dX8_keep_71 ?_
      refine lv_iload_n hx hb dX8_keep_74 rfl (lv_at hl 0 rfl) ?_
      refine va_zald hx hb hK hP 1 2 rfl rfl (by unfold vp_in; decide) dX8_keep_75 ?_
      refine lv_ti (y := 0) (by rfl) ?_
      refine lv_if_eq (tgt := 83) hx hb dX8_keep_76 (by decide) (fun _ => ?_) (fun h => absurd (by decide) h)
      refine lv_iconst (v := 0) hx hb dX8_keep_83 (by decide) ?_
      refine va_iast hx hb hK hP hD hS 5 1 rfl rfl (by unfold vp_in; decide) dX8_keep_84 (fun H locs hP hD hS => ?_)
      have hP : va_P D classes [((a 0), .inr (8, [.ref (a 1), .ref (a 2), .ref (a 3), .ref (a 4), .ref (a 5), .int 0, .int (-1), .int 0, .long 0, .int 0, .int 0, .int 0, .int 0, .ref (a 14), .ref (a 15), .ref (a 16), .int 0, .ref (a 18), .ref (a 19), .ref (a 20), .ref (a 21), .ref (a 22), .ref (a 23), .int 0, .ref (a 25), .ref (a 26), .ref (a 27), .ref (a 28), .ref (a 29), .ref (a 30), .int 0, .ref (a 32), .ref (a 33), .ref (a 34), .int 0, .ref (a 36), .ref (a 37), .int 0, .int 0, .ref (a 40), .ref (a 41), .int 0, .ref (a 43), .ref (a 44)])), ((a 32), .inl (k 2, 24, .inl (fun _ => 0))), ((a 36), .inl (k 1, 4, .inl (fun _ => 0))), ((a 37), .inl (k 1, 4, .inl (fun _ => 0))), ((a 43), .inl (k 2, 2, .inl (fun _ => 0))), ((a 44), .inl (k 1, 70, .inl (upd f_11 (Int32.toNatClampNeg 10) 0)))] H := hP
      have hD : va_D A [((a 0), .inr (8, [.ref (a 1), .ref (a 2), .ref (a 3), .ref (a 4), .ref (a 5), .int 0, .int (-1), .int 0, .long 0, .int 0, .int 0, .int 0, .int 0, .ref (a 14), .ref (a 15), .ref (a 16), .int 0, .ref (a 18), .ref (a 19), .ref (a 20), .ref (a 21), .ref (a 22), .ref (a 23), .int 0, .ref (a 25), .ref (a 26), .ref (a 27), .ref (a 28), .ref (a 29), .ref (a 30), .int 0, .ref (a 32), .ref (a 33), .ref (a 34), .int 0, .ref (a 36), .ref (a 37), .int 0, .int 0, .ref (a 40), .ref (a 41), .int 0, .ref (a 43), .ref (a 44)])), ((a 32), .inl (k 2, 24, .inl (fun _ => 0))), ((a 36), .inl (k 1, 4, .inl (fun _ => 0))), ((a 37), .inl (k 1, 4, .inl (fun _ => 0))), ((a 43), .inl (k 2, 2, .inl (fun _ => 0))), ((a 44), .inl (k 1, 70, .inl (upd f_11 (Int32.toNatClampNeg 10) 0)))] := hD
      generalize (upd f_11 (Int32.toNatClampNeg 10) 0) = f_12 at hP hD
      refine lv_iinc (v := 8) (lv' := [(3, .int 8), (2, .int 0), (0, .ref (a 0)), (1, .int 0)]) hx hb dX8_keep_85 hl (k := 0) rfl (by decide) (by decide) rfl (fun ls hl => ?_)
      refine lv_goto (tgt := 55) hx hb dX8_keep_88 (by decide) ?_
      refine lv_iload_n hx hb dX8_keep_55 rfl (lv_at hl 0 rfl) ?_
      refine lv_bipush (v := 24) hx hb dX8_keep_56 (by decide) ?_
      refine lv_icmp_ge (tgt := 91) hx hb dX8_keep_58 (by decide) (fun h => absurd h (by decide)) (fun _ => ?_)
      refine lv_aload_n hx hb dX8_keep_61 rfl (lv_at hl 2 rfl) ?_
      refine va_get (D := D) (ci := 8) (v := .ref (a 44)) (C := RX8) (T := TX8) (N := 44) hx hb hts inX8 hown hK hP 0 rfl rfl 43 (by decide) (hts _ tw_1016) (fun _ h9 => h9) rfl dX8_keep_62 ?_
      refine lv_iload_n hx hb dX8_keep_65 rfl (lv_at hl 1 rfl) ?_
      refine lv_iconst (v := 3) hx hb dX8_keep_66 (by decide) ?_
      refine lv_iadd hx hb dX8_keep_67 ?_
      refine lv_ti (y := 3) (by decide) ?_
      refine lv_iload_n hx hb dX8_keep_68 rfl (lv_at hl 0 rfl) ?_
      refine lv_iadd hx hb dX8_keep_69 ?_
      refine lv_ti (y := 11) (by decide) ?_
      refine lv_aload_n hx hb dX8_keep_70 rfl (lv_at hl 2 rfl) ?_
      refine va_get (D := D) (ci := 8) (v := .ref (a 32)) (C := RX8) (T := TX8) (N := 44) hx hb hts inX8 hown hK hP 0 rfl rfl 31 (by decide) (hts _ tw_1004) (fun _ h9 => h9) rfl dX8_keep_71 ?_
      refine lv_iload_n hx hb dX8_keep_74 rfl (lv_at hl 0 rfl) ?_
      refine va_zald hx hb hK hP 1 2 rfl rfl (by unfold vp_in; decide) dX8_keep_75 ?_
      refine lv_ti (y := 0) (by rfl) ?_
      refine lv_if_eq (tgt := 83) hx hb dX8_keep_76 (by decide) (fun _ => ?_) (fun h => absurd (by decide) h)
      refine lv_iconst (v := 0) hx hb dX8_keep_83 (by decide) ?_
      refine va_iast hx hb hK hP hD hS 5 1 rfl rfl (by unfold vp_in; decide) dX8_keep_84 (fun H locs hP hD hS => ?_)
      have hP : va_P D classes [((a 0), .inr (8, [.ref (a 1), .ref (a 2), .ref (a 3), .ref (a 4), .ref (a 5), .int 0, .int (-1), .int 0, .long 0, .int 0, .int 0, .int 0, .int 0, .ref (a 14), .ref (a 15), .ref (a 16), .int 0, .ref (a 18), .ref (a 19), .ref (a 20), .ref (a 21), .ref (a 22), .ref (a 23), .int 0, .ref (a 25), .ref (a 26), .ref (a 27), .ref (a 28), .ref (a 29), .ref (a 30), .int 0, .ref (a 32), .ref (a 33), .ref (a 34), .int 0, .ref (a 36), .ref (a 37), .int 0, .int 0, .ref (a 40), .ref (a 41), .int 0, .ref (a 43), .ref (a 44)])), ((a 32), .inl (k 2, 24, .inl (fun _ => 0))), ((a 36), .inl (k 1, 4, .inl (fun _ => 0))), ((a 37), .inl (k 1, 4, .inl (fun _ => 0))), ((a 43), .inl (k 2, 2, .inl (fun _ => 0))), ((a 44), .inl (k 1, 70, .inl (upd f_12 (Int32.toNatClampNeg 11) 0)))] H := hP
      have hD : va_D A [((a 0), .inr (8, [.ref (a 1), .ref (a 2), .ref (a 3), .ref (a 4), .ref (a 5), .int 0, .int (-1), .int 0, .long 0, .int 0, .int 0, .int 0, .int 0, .ref (a 14), .ref (a 15), .ref (a 16), .int 0, .ref (a 18), .ref (a 19), .ref (a 20), .ref (a 21), .ref (a 22), .ref (a 23), .int 0, .ref (a 25), .ref (a 26), .ref (a 27), .ref (a 28), .ref (a 29), .ref (a 30), .int 0, .ref (a 32), .ref (a 33), .ref (a 34), .int 0, .ref (a 36), .ref (a 37), .int 0, .int 0, .ref (a 40), .ref (a 41), .int 0, .ref (a 43), .ref (a 44)])), ((a 32), .inl (k 2, 24, .inl (fun _ => 0))), ((a 36), .inl (k 1, 4, .inl (fun _ => 0))), ((a 37), .inl (k 1, 4, .inl (fun _ => 0))), ((a 43), .inl (k 2, 2, .inl (fun _ => 0))), ((a 44), .inl (k 1, 70, .inl (upd f_12 (Int32.toNatClampNeg 11) 0)))] := hD
      generalize (upd f_12 (Int32.toNatClampNeg 11) 0) = f_13 at hP hD
      refine lv_iinc (v := 9) (lv' := [(3, .int 9), (2, .int 0), (0, .ref (a 0)), (1, .int 0)]) hx hb dX8_keep_85 hl (k := 0) rfl (by decide) (by decide) rfl (fun ls hl => ?_)
      refine lv_goto (tgt := 55) hx hb dX8_keep_88 (by decide) ?_
      refine lv_iload_n hx hb dX8_keep_55 rfl (lv_at hl 0 rfl) ?_
      refine lv_bipush (v := 24) hx hb dX8_keep_56 (by decide) ?_
      refine lv_icmp_ge (tgt := 91) hx hb dX8_keep_58 (by decide) (fun h => absurd h (by decide)) (fun _ => ?_)
      refine lv_aload_n hx hb dX8_keep_61 rfl (lv_at hl 2 rfl) ?_
      refine va_get (D := D) (ci := 8) (v := .ref (a 44)) (C := RX8) (T := TX8) (N := 44) hx hb hts inX8 hown hK hP 0 rfl rfl 43 (by decide) (hts _ tw_1016) (fun _ h9 => h9) rfl dX8_keep_62 ?_
      refine lv_iload_n hx hb dX8_keep_65 rfl (lv_at hl 1 rfl) ?_
      refine lv_iconst (v := 3) hx hb dX8_keep_66 (by decide) ?_
      refine lv_iadd hx hb dX8_keep_67 ?_
      refine lv_ti (y := 3) (by decide) ?_
      refine lv_iload_n hx hb dX8_keep_68 rfl (lv_at hl 0 rfl) ?_
      refine lv_iadd hx hb dX8_keep_69 ?_
      refine lv_ti (y := 12) (by decide) ?_
      refine lv_aload_n hx hb dX8_keep_70 rfl (lv_at hl 2 rfl) ?_
      refine va_get (D := D) (ci := 8) (v := .ref (a 32)) (C := RX8) (T := TX8) (N := 44) hx hb hts inX8 hown hK hP 0 rfl rfl 31 (by decide) (hts _ tw_1004) (fun _ h9 => h9) rfl dX8_keep_71 ?_
      refine lv_iload_n hx hb dX8_keep_74 rfl (lv_at hl 0 rfl) ?_
      refine va_zald hx hb hK hP 1 2 rfl rfl (by unfold vp_in; decide) dX8_keep_75 ?_
      refine lv_ti (y := 0) (by rfl) ?_
      refine lv_if_eq (tgt := 83) hx hb dX8_keep_76 (by decide) (fun _ => ?_) (fun h => absurd (by decide) h)
      refine lv_iconst (v := 0) hx hb dX8_keep_83 (by decide) ?_
      refine va_iast hx hb hK hP hD hS 5 1 rfl rfl (by unfold vp_in; decide) dX8_keep_84 (fun H locs hP hD hS => ?_)
      have hP : va_P D classes [((a 0), .inr (8, [.ref (a 1), .ref (a 2), .ref (a 3), .ref (a 4), .ref (a 5), .int 0, .int (-1), .int 0, .long 0, .int 0, .int 0, .int 0, .int 0, .ref (a 14), .ref (a 15), .ref (a 16), .int 0, .ref (a 18), .ref (a 19), .ref (a 20), .ref (a 21), .ref (a 22), .ref (a 23), .int 0, .ref (a 25), .ref (a 26), .ref (a 27), .ref (a 28), .ref (a 29), .ref (a 30), .int 0, .ref (a 32), .ref (a 33), .ref (a 34), .int 0, .ref (a 36), .ref (a 37), .int 0, .int 0, .ref (a 40), .ref (a 41), .int 0, .ref (a 43), .ref (a 44)])), ((a 32), .inl (k 2, 24, .inl (fun _ => 0))), ((a 36), .inl (k 1, 4, .inl (fun _ => 0))), ((a 37), .inl (k 1, 4, .inl (fun _ => 0))), ((a 43), .inl (k 2, 2, .inl (fun _ => 0))), ((a 44), .inl (k 1, 70, .inl (upd f_13 (Int32.toNatClampNeg 12) 0)))] H := hP
      have hD : va_D A [((a 0), .inr (8, [.ref (a 1), .ref (a 2), .ref (a 3), .ref (a 4), .ref (a 5), .int 0, .int (-1), .int 0, .long 0, .int 0, .int 0, .int 0, .int 0, .ref (a 14), .ref (a 15), .ref (a 16), .int 0, .ref (a 18), .ref (a 19), .ref (a 20), .ref (a 21), .ref (a 22), .ref (a 23), .int 0, .ref (a 25), .ref (a 26), .ref (a 27), .ref (a 28), .ref (a 29), .ref (a 30), .int 0, .ref (a 32), .ref (a 33), .ref (a 34), .int 0, .ref (a 36), .ref (a 37), .int 0, .int 0, .ref (a 40), .ref (a 41), .int 0, .ref (a 43), .ref (a 44)])), ((a 32), .inl (k 2, 24, .inl (fun _ => 0))), ((a 36), .inl (k 1, 4, .inl (fun _ => 0))), ((a 37), .inl (k 1, 4, .inl (fun _ => 0))), ((a 43), .inl (k 2, 2, .inl (fun _ => 0))), ((a 44), .inl (k 1, 70, .inl (upd f_13 (Int32.toNatClampNeg 12) 0)))] := hD
      generalize (upd f_13 (Int32.toNatClampNeg 12) 0) = f_14 at hP hD
      refine lv_iinc (v := 10) (lv' := [(3, .int 10), (2, .int 0), (0, .ref (a 0)), (1, .int 0)]) hx hb dX8_keep_85 hl (k := 0) rfl (by decide) (by decide) rfl (fun ls hl => ?_)
      refine lv_goto (tgt := 55) hx hb dX8_keep_88 (by decide) ?_
      refine lv_iload_n hx hb dX8_keep_55 rfl (lv_at hl 0 rfl) ?_
      refine lv_bipush (v := 24) hx hb dX8_keep_56 (by decide) ?_
      refine lv_icmp_ge (tgt := 91) hx hb dX8_keep_58 (by decide) (fun h => absurd h (by decide)) (fun _ => ?_)
      refine lv_aload_n hx hb dX8_keep_61 rfl (lv_at hl 2 rfl) ?_
      refine va_get (D := D) (ci := 8) (v := .ref (a 44)) (C := RX8) (T := TX8) (N := 44) hx hb hts inX8 hown hK hP 0 rfl rfl 43 (by decide) (hts _ tw_1016) (fun _ h9 => h9) rfl dX8_keep_62 ?_
      refine lv_iload_n hx hb dX8_keep_65 rfl (lv_at hl 1 rfl) ?_
      refine lv_iconst (v := 3) hx hb dX8_keep_66 (by decide) ?_
      refine lv_iadd hx hb dX8_keep_67 ?_
      refine lv_ti (y := 3) (by decide) ?_
      refine lv_iload_n hx hb dX8_keep_68 rfl (lv_at hl 0 rfl) ?_
      refine lv_iadd hx hb dX8_keep_69 ?_
      refine lv_ti (y := 13) (by decide) ?_
      refine lv_aload_n hx hb dX8_keep_70 rfl (lv_at hl 2 rfl) ?_
      refine va_get (D := D) (ci := 8) (v := .ref (a 32)) (C := RX8) (T := TX8) (N := 44) hx hb hts inX8 hown hK hP 0 rfl rfl 31 (by decide) (hts _ tw_1004) (fun _ h9 => h9) rfl dX8_keep_71 ?_
      refine lv_iload_n hx hb dX8_keep_74 rfl (lv_at hl 0 rfl) ?_
      refine va_zald hx hb hK hP 1 2 rfl rfl (by unfold vp_in; decide) dX8_keep_75 ?_
      refine lv_ti (y := 0) (by rfl) ?_
      refine lv_if_eq (tgt := 83) hx hb dX8_keep_76 (by decide) (fun _ => ?_) (fun h => absurd (by decide) h)
      refine lv_iconst (v := 0) hx hb dX8_keep_83 (by decide) ?_
      refine va_iast hx hb hK hP hD hS 5 1 rfl rfl (by unfold vp_in; decide) dX8_keep_84 (fun H locs hP hD hS => ?_)
      have hP : va_P D classes [((a 0), .inr (8, [.ref (a 1), .ref (a 2), .ref (a 3), .ref (a 4), .ref (a 5), .int 0, .int (-1), .int 0, .long 0, .int 0, .int 0, .int 0, .int 0, .ref (a 14), .ref (a 15), .ref (a 16), .int 0, .ref (a 18), .ref (a 19), .ref (a 20), .ref (a 21), .ref (a 22), .ref (a 23), .int 0, .ref (a 25), .ref (a 26), .ref (a 27), .ref (a 28), .ref (a 29), .ref (a 30), .int 0, .ref (a 32), .ref (a 33), .ref (a 34), .int 0, .ref (a 36), .ref (a 37), .int 0, .int 0, .ref (a 40), .ref (a 41), .int 0, .ref (a 43), .ref (a 44)])), ((a 32), .inl (k 2, 24, .inl (fun _ => 0))), ((a 36), .inl (k 1, 4, .inl (fun _ => 0))), ((a 37), .inl (k 1, 4, .inl (fun _ => 0))), ((a 43), .inl (k 2, 2, .inl (fun _ => 0))), ((a 44), .inl (k 1, 70, .inl (upd f_14 (Int32.toNatClampNeg 13) 0)))] H := hP
      have hD : va_D A [((a 0), .inr (8, [.ref (a 1), .ref (a 2), .ref (a 3), .ref (a 4), .ref (a 5), .int 0, .int (-1), .int 0, .long 0, .int 0, .int 0, .int 0, .int 0, .ref (a 14), .ref (a 15), .ref (a 16), .int 0, .ref (a 18), .ref (a 19), .ref (a 20), .ref (a 21), .ref (a 22), .ref (a 23), .int 0, .ref (a 25), .ref (a 26), .ref (a 27), .ref (a 28), .ref (a 29), .ref (a 30), .int 0, .ref (a 32), .ref (a 33), .ref (a 34), .int 0, .ref (a 36), .ref (a 37), .int 0, .int 0, .ref (a 40), .ref (a 41), .int 0, .ref (a 43), .ref (a 44)])), ((a 32), .inl (k 2, 24, .inl (fun _ => 0))), ((a 36), .inl (k 1, 4, .inl (fun _ => 0))), ((a 37), .inl (k 1, 4, .inl (fun _ => 0))), ((a 43), .inl (k 2, 2, .inl (fun _ => 0))), ((a 44), .inl (k 1, 70, .inl (upd f_14 (Int32.toNatClampNeg 13) 0)))] := hD
      generalize (upd f_14 (Int32.toNatClampNeg 13) 0) = f_15 at hP hD
      refine lv_iinc (v := 11) (lv' := [(3, .int 11), (2, .int 0), (0, .ref (a 0)), (1, .int 0)]) hx hb dX8_keep_85 hl (k := 0) rfl (by decide) (by decide) rfl (fun ls hl => ?_)
      refine lv_goto (tgt := 55) hx hb dX8_keep_88 (by decide) ?_
      refine lv_iload_n hx hb dX8_keep_55 rfl (lv_at hl 0 rfl) ?_
      refine lv_bipush (v := 24) hx hb dX8_keep_56 (by decide) ?_
      refine lv_icmp_ge (tgt := 91) hx hb dX8_keep_58 (by decide) (fun h => absurd h (by decide)) (fun _ => ?_)
      refine lv_aload_n hx hb dX8_keep_61 rfl (lv_at hl 2 rfl) ?_
      refine va_get (D := D) (ci := 8) (v := .ref (a 44)) (C := RX8) (T := TX8) (N := 44) hx hb hts inX8 hown hK hP 0 rfl rfl 43 (by decide) (hts _ tw_1016) (fun _ h9 => h9) rfl dX8_keep_62 ?_
      refine lv_iload_n hx hb dX8_keep_65 rfl (lv_at hl 1 rfl) ?_
      refine lv_iconst (v := 3) hx hb dX8_keep_66 (by decide) ?_
      refine lv_iadd hx hb dX8_keep_67 ?_
      refine lv_ti (y := 3) (by decide) ?_
      refine lv_iload_n hx hb dX8_keep_68 rfl (lv_at hl 0 rfl) ?_
      refine lv_iadd hx hb dX8_keep_69 ?_
      refine lv_ti (y := 14) (by decide) ?_
      refine lv_aload_n hx hb dX8_keep_70 rfl (lv_at hl 2 rfl) ?_
      refine va_get (D := D) (ci := 8) (v := .ref (a 32)) (C := RX8) (T := TX8) (N := 44) hx hb hts inX8 hown hK hP 0 rfl rfl 31 (by decide) (hts _ tw_1004) (fun _ h9 => h9) rfl dX8_keep_71 ?_
      refine lv_iload_n hx hb dX8_keep_74 rfl (lv_at hl 0 rfl) ?_
      refine va_zald hx hb hK hP 1 2 rfl rfl (by unfold vp_in; decide) dX8_keep_75 ?_
      refine lv_ti (y := 0) (by rfl) ?_
      refine lv_if_eq (tgt := 83) hx hb dX8_keep_76 (by decide) (fun _ => ?_) (fun h => absurd (by decide) h)
      refine lv_iconst (v := 0) hx hb dX8_keep_83 (by decide) ?_
      refine va_iast hx hb hK hP hD hS 5 1 rfl rfl (by unfold vp_in; decide) dX8_keep_84 (fun H locs hP hD hS => ?_)
      have hP : va_P D classes [((a 0), .inr (8, [.ref (a 1), .ref (a 2), .ref (a 3), .ref (a 4), .ref (a 5), .int 0, .int (-1), .int 0, .long 0, .int 0, .int 0, .int 0, .int 0, .ref (a 14), .ref (a 15), .ref (a 16), .int 0, .ref (a 18), .ref (a 19), .ref (a 20), .ref (a 21), .ref (a 22), .ref (a 23), .int 0, .ref (a 25), .ref (a 26), .ref (a 27), .ref (a 28), .ref (a 29), .ref (a 30), .int 0, .ref (a 32), .ref (a 33), .ref (a 34), .int 0, .ref (a 36), .ref (a 37), .int 0, .int 0, .ref (a 40), .ref (a 41), .int 0, .ref (a 43), .ref (a 44)])), ((a 32), .inl (k 2, 24, .inl (fun _ => 0))), ((a 36), .inl (k 1, 4, .inl (fun _ => 0))), ((a 37), .inl (k 1, 4, .inl (fun _ => 0))), ((a 43), .inl (k 2, 2, .inl (fun _ => 0))), ((a 44), .inl (k 1, 70, .inl (upd f_15 (Int32.toNatClampNeg 14) 0)))] H := hP
      have hD : va_D A [((a 0), .inr (8, [.ref (a 1), .ref (a 2), .ref (a 3), .ref (a 4), .ref (a 5), .int 0, .int (-1), .int 0, .long 0, .int 0, .int 0, .int 0, .int 0, .ref (a 14), .ref (a 15), .ref (a 16), .int 0, .ref (a 18), .ref (a 19), .ref (a 20), .ref (a 21), .ref (a 22), .ref (a 23), .int 0, .ref (a 25), .ref (a 26), .ref (a 27), .ref (a 28), .ref (a 29), .ref (a 30), .int 0, .ref (a 32), .ref (a 33), .ref (a 34), .int 0, .ref (a 36), .ref (a 37), .int 0, .int 0, .ref (a 40), .ref (a 41), .int 0, .ref (a 43), .ref (a 44)])), ((a 32), .inl (k 2, 24, .inl (fun _ => 0))), ((a 36), .inl (k 1, 4, .inl (fun _ => 0))), ((a 37), .inl (k 1, 4, .inl (fun _ => 0))), ((a 43), .inl (k 2, 2, .inl (fun _ => 0))), ((a 44), .inl (k 1, 70, .inl (upd f_15 (Int32.toNatClampNeg 14) 0)))] := hD
      generalize (upd f_15 (Int32.toNatClampNeg 14) 0) = f_16 at hP hD
      refine lv_iinc (v := 12) (lv' := [(3, .int 12), (2, .int 0), (0, .ref (a 0)), (1, .int 0)]) hx hb dX8_keep_85 hl (k := 0) rfl (by decide) (by decide) rfl (fun ls hl => ?_)
      refine lv_goto (tgt := 55) hx hb dX8_keep_88 (by decide) ?_
      refine lv_iload_n hx hb dX8_keep_55 rfl (lv_at hl 0 rfl) ?_
      refine lv_bipush (v := 24) hx hb dX8_keep_56 (by decide) ?_
      refine lv_icmp_ge (tgt := 91) hx hb dX8_keep_58 (by decide) (fun h => absurd h (by decide)) (fun _ => ?_)
      refine lv_aload_n hx hb dX8_keep_61 rfl (lv_at hl 2 rfl) ?_
      refine va_get (D := D) (ci := 8) (v := .ref (a 44)) (C := RX8) (T := TX8) (N := 44) hx hb hts inX8 hown hK hP 0 rfl rfl 43 (by decide) (hts _ tw_1016) (fun _ h9 => h9) rfl dX8_keep_62 ?_
      refine lv_iload_n hx hb dX8_keep_65 rfl (lv_at hl 1 rfl) ?_
      refine lv_iconst (v := 3) hx hb dX8_keep_66 (by decide) ?_
      refine lv_iadd hx hb dX8_keep_67 ?_
      refine lv_ti (y := 3) (by decide) ?_
      refine lv_iload_n hx hb dX8_keep_68 rfl (lv_at hl 0 rfl) ?_
      refine lv_iadd hx hb dX8_keep_69 ?_
      refine lv_ti (y := 15) (by decide) ?_
      refine lv_aload_n hx hb dX8_keep_70 rfl (lv_at hl 2 rfl) ?_
      refine va_get (D := D) (ci := 8) (v := .ref (a 32)) (C := RX8) (T := TX8) (N := 44) hx hb hts inX8 hown hK hP 0 rfl rfl 31 (by decide) (hts _ tw_1004) (fun _ h9 => h9) rfl dX8_keep_71 ?_
      refine lv_iload_n hx hb dX8_keep_74 rfl (lv_at hl 0 rfl) ?_
      refine va_zald hx hb hK hP 1 2 rfl rfl (by unfold vp_in; decide) dX8_keep_75 ?_
      refine lv_ti (y := 0) (by rfl) ?_
      refine lv_if_eq (tgt := 83) hx hb dX8_keep_76 (by decide) (fun _ => ?_) (fun h => absurd (by decide) h)
      refine lv_iconst (v := 0) hx hb dX8_keep_83 (by decide) ?_
      refine va_iast hx hb hK hP hD hS 5 1 rfl rfl (by unfold vp_in; decide) dX8_keep_84 (fun H locs hP hD hS => ?_)
      have hP : va_P D classes [((a 0), .inr (8, [.ref (a 1), .ref (a 2), .ref (a 3), .ref (a 4), .ref (a 5), .int 0, .int (-1), .int 0, .long 0, .int 0, .int 0, .int 0, .int 0, .ref (a 14), .ref (a 15), .ref (a 16), .int 0, .ref (a 18), .ref (a 19), .ref (a 20), .ref (a 21), .ref (a 22), .ref (a 23), .int 0, .ref (a 25), .ref (a 26), .ref (a 27), .ref (a 28), .ref (a 29), .ref (a 30), .int 0, .ref (a 32), .ref (a 33), .ref (a 34), .int 0, .ref (a 36), .ref (a 37), .int 0, .int 0, .ref (a 40), .ref (a 41), .int 0, .ref (a 43), .ref (a 44)])), ((a 32), .inl (k 2, 24, .inl (fun _ => 0))), ((a 36), .inl (k 1, 4, .inl (fun _ => 0))), ((a 37), .inl (k 1, 4, .inl (fun _ => 0))), ((a 43), .inl (k 2, 2, .inl (fun _ => 0))), ((a 44), .inl (k 1, 70, .inl (upd f_16 (Int32.toNatClampNeg 15) 0)))] H := hP
      have hD : va_D A [((a 0), .inr (8, [.ref (a 1), .ref (a 2), .ref (a 3), .ref (a 4), .ref (a 5), .int 0, .int (-1), .int 0, .long 0, .int 0, .int 0, .int 0, .int 0, .ref (a 14), .ref (a 15), .ref (a 16), .int 0, .ref (a 18), .ref (a 19), .ref (a 20), .ref (a 21), .ref (a 22), .ref (a 23), .int 0, .ref (a 25), .ref (a 26), .ref (a 27), .ref (a 28), .ref (a 29), .ref (a 30), .int 0, .ref (a 32), .ref (a 33), .ref (a 34), .int 0, .ref (a 36), .ref (a 37), .int 0, .int 0, .ref (a 40), .ref (a 41), .int 0, .ref (a 43), .ref (a 44)])), ((a 32), .inl (k 2, 24, .inl (fun _ => 0))), ((a 36), .inl (k 1, 4, .inl (fun _ => 0))), ((a 37), .inl (k 1, 4, .inl (fun _ => 0))), ((a 43), .inl (k 2, 2, .inl (fun _ => 0))), ((a 44), .inl (k 1, 70, .inl (upd f_16 (Int32.toNatClampNeg 15) 0)))] := hD
      generalize (upd f_16 (Int32.toNatClampNeg 15) 0) = f_17 at hP hD
      refine lv_iinc (v := 13) (lv' := [(3, .int 13), (2, .int 0), (0, .ref (a 0)), (1, .int 0)]) hx hb dX8_keep_85 hl (k := 0) rfl (by decide) (by decide) rfl (fun ls hl => ?_)
      refine lv_goto (tgt := 55) hx hb dX8_keep_88 (by decide) ?_
      refine lv_iload_n hx hb dX8_keep_55 rfl (lv_at hl 0 rfl) ?_
      refine lv_bipush (v := 24) hx hb dX8_keep_56 (by decide) ?_
      refine lv_icmp_ge (tgt := 91) hx hb dX8_keep_58 (by decide) (fun h => absurd h (by decide)) (fun _ => ?_)
      refine lv_aload_n hx hb dX8_keep_61 rfl (lv_at hl 2 rfl) ?_
      refine va_get (D := D) (ci := 8) (v := .ref (a 44)) (C := RX8) (T := TX8) (N := 44) hx hb hts inX8 hown hK hP 0 rfl rfl 43 (by decide) (hts _ tw_1016) (fun _ h9 => h9) rfl dX8_keep_62 ?_
      refine lv_iload_n hx hb dX8_keep_65 rfl (lv_at hl 1 rfl) ?_
      refine lv_iconst (v := 3) hx hb dX8_keep_66 (by decide) ?_
      refine lv_iadd hx hb dX8_keep_67 ?_
      refine lv_ti (y := 3) (by decide) ?_
      refine lv_iload_n hx hb dX8_keep_68 rfl (lv_at hl 0 rfl) ?_
      refine lv_iadd hx hb dX8_keep_69 ?_
      refine lv_ti (y := 16) (by decide) ?_
      refine lv_aload_n hx hb dX8_keep_70 rfl (lv_at hl 2 rfl) ?_
      refine va_get (D := D) (ci := 8) (v := .ref (a 32)) (C := RX8) (T := TX8) (N := 44) hx hb hts inX8 hown hK hP 0 rfl rfl 31 (by decide) (hts _ tw_1004) (fun _ h9 => h9) rfl dX8_keep_71 ?_
      refine lv_iload_n hx hb dX8_keep_74 rfl (lv_at hl 0 rfl) ?_
      refine va_zald hx hb hK hP 1 2 rfl rfl (by unfold vp_in; decide) dX8_keep_75 ?_
      refine lv_ti (y := 0) (by rfl) ?_
      refine lv_if_eq (tgt := 83) hx hb dX8_keep_76 (by decide) (fun _ => ?_) (fun h => absurd (by decide) h)
      refine lv_iconst (v := 0) hx hb dX8_keep_83 (by decide) ?_
      refine va_iast hx hb hK hP hD hS 5 1 rfl rfl (by unfold vp_in; decide) dX8_keep_84 (fun H locs hP hD hS => ?_)
      have hP : va_P D classes [((a 0), .inr (8, [.ref (a 1), .ref (a 2), .ref (a 3), .ref (a 4), .ref (a 5), .int 0, .int (-1), .int 0, .long 0, .int 0, .int 0, .int 0, .int 0, .ref (a 14), .ref (a 15), .ref (a 16), .int 0, .ref (a 18), .ref (a 19), .ref (a 20), .ref (a 21), .ref (a 22), .ref (a 23), .int 0, .ref (a 25), .ref (a 26), .ref (a 27), .ref (a 28), .ref (a 29), .ref (a 30), .int 0, .ref (a 32), .ref (a 33), .ref (a 34), .int 0, .ref (a 36), .ref (a 37), .int 0, .int 0, .ref (a 40), .ref (a 41), .int 0, .ref (a 43), .ref (a 44)])), ((a 32), .inl (k 2, 24, .inl (fun _ => 0))), ((a 36), .inl (k 1, 4, .inl (fun _ => 0))), ((a 37), .inl (k 1, 4, .inl (fun _ => 0))), ((a 43), .inl (k 2, 2, .inl (fun _ => 0))), ((a 44), .inl (k 1, 70, .inl (upd f_17 (Int32.toNatClampNeg 16) 0)))] H := hP
      have hD : va_D A [((a 0), .inr (8, [.ref (a 1), .ref (a 2), .ref (a 3), .ref (a 4), .ref (a 5), .int 0, .int (-1), .int 0, .long 0, .int 0, .int 0, .int 0, .int 0, .ref (a 14), .ref (a 15), .ref (a 16), .int 0, .ref (a 18), .ref (a 19), .ref (a 20), .ref (a 21), .ref (a 22), .ref (a 23), .int 0, .ref (a 25), .ref (a 26), .ref (a 27), .ref (a 28), .ref (a 29), .ref (a 30), .int 0, .ref (a 32), .ref (a 33), .ref (a 34), .int 0, .ref (a 36), .ref (a 37), .int 0, .int 0, .ref (a 40), .ref (a 41), .int 0, .ref (a 43), .ref (a 44)])), ((a 32), .inl (k 2, 24, .inl (fun _ => 0))), ((a 36), .inl (k 1, 4, .inl (fun _ => 0))), ((a 37), .inl (k 1, 4, .inl (fun _ => 0))), ((a 43), .inl (k 2, 2, .inl (fun _ => 0))), ((a 44), .inl (k 1, 70, .inl (upd f_17 (Int32.toNatClampNeg 16) 0)))] := hD
      generalize (upd f_17 (Int32.toNatClampNeg 16) 0) = f_18 at hP hD
      refine lv_iinc (v := 14) (lv' := [(3, .int 14), (2, .int 0), (0, .ref (a 0)), (1, .int 0)]) hx hb dX8_keep_85 hl (k := 0) rfl (by decide) (by decide) rfl (fun ls hl => ?_)
      refine lv_goto (tgt := 55) hx hb dX8_keep_88 (by decide) ?_
      refine lv_iload_n hx hb dX8_keep_55 rfl (lv_at hl 0 rfl) ?_
      refine lv_bipush (v := 24) hx hb dX8_keep_56 (by decide) ?_
      refine lv_icmp_ge (tgt := 91) hx hb dX8_keep_58 (by decide) (fun h => absurd h (by decide)) (fun _ => ?_)
      refine lv_aload_n hx hb dX8_keep_61 rfl (lv_at hl 2 rfl) ?_
      refine va_get (D := D) (ci := 8) (v := .ref (a 44)) (C := RX8) (T := TX8) (N := 44) hx hb hts inX8 hown hK hP 0 rfl rfl 43 (by decide) (hts _ tw_1016) (fun _ h9 => h9) rfl dX8_keep_62 ?_
      refine lv_iload_n hx hb dX8_keep_65 rfl (lv_at hl 1 rfl) ?_
      refine lv_iconst (v := 3) hx hb dX8_keep_66 (by decide) ?_
      refine lv_iadd hx hb dX8_keep_67 ?_
      refine lv_ti (y := 3) (by decide) ?_
      refine lv_iload_n hx hb dX8_keep_68 rfl (lv_at hl 0 rfl) ?_
      refine lv_iadd hx hb dX8_keep_69 ?_
      refine lv_ti (y := 17) (by decide) ?_
      refine lv_aload_n hx hb dX8_keep_70 rfl (lv_at hl 2 rfl) ?_
      refine va_get (D := D) (ci := 8) (v := .ref (a 32)) (C := RX8) (T := TX8) (N := 44) hx hb hts inX8 hown hK hP 0 rfl rfl 31 (by decide) (hts _ tw_1004) (fun _ h9 => h9) rfl dX8_keep_71 ?_
      refine lv_iload_n hx hb dX8_keep_74 rfl (lv_at hl 0 rfl) ?_
      refine va_zald hx hb hK hP 1 2 rfl rfl (by unfold vp_in; decide) dX8_keep_75 ?_
      refine lv_ti (y := 0) (by rfl) ?_
      refine lv_if_eq (tgt := 83) hx hb dX8_keep_76 (by decide) (fun _ => ?_) (fun h => absurd (by decide) h)
      refine lv_iconst (v := 0) hx hb dX8_keep_83 (by decide) ?_
      refine va_iast hx hb hK hP hD hS 5 1 rfl rfl (by unfold vp_in; decide) dX8_keep_84 (fun H locs hP hD hS => ?_)
      have hP : va_P D classes [((a 0), .inr (8, [.ref (a 1), .ref (a 2), .ref (a 3), .ref (a 4), .ref (a 5), .int 0, .int (-1), .int 0, .long 0, .int 0, .int 0, .int 0, .int 0, .ref (a 14), .ref (a 15), .ref (a 16), .int 0, .ref (a 18), .ref (a 19), .ref (a 20), .ref (a 21), .ref (a 22), .ref (a 23), .int 0, .ref (a 25), .ref (a 26), .ref (a 27), .ref (a 28), .ref (a 29), .ref (a 30), .int 0, .ref (a 32), .ref (a 33), .ref (a 34), .int 0, .ref (a 36), .ref (a 37), .int 0, .int 0, .ref (a 40), .ref (a 41), .int 0, .ref (a 43), .ref (a 44)])), ((a 32), .inl (k 2, 24, .inl (fun _ => 0))), ((a 36), .inl (k 1, 4, .inl (fun _ => 0))), ((a 37), .inl (k 1, 4, .inl (fun _ => 0))), ((a 43), .inl (k 2, 2, .inl (fun _ => 0))), ((a 44), .inl (k 1, 70, .inl (upd f_18 (Int32.toNatClampNeg 17) 0)))] H := hP
      have hD : va_D A [((a 0), .inr (8, [.ref (a 1), .ref (a 2), .ref (a 3), .ref (a 4), .ref (a 5), .int 0, .int (-1), .int 0, .long 0, .int 0, .int 0, .int 0, .int 0, .ref (a 14), .ref (a 15), .ref (a 16), .int 0, .ref (a 18), .ref (a 19), .ref (a 20), .ref (a 21), .ref (a 22), .ref (a 23), .int 0, .ref (a 25), .ref (a 26), .ref (a 27), .ref (a 28), .ref (a 29), .ref (a 30), .int 0, .ref (a 32), .ref (a 33), .ref (a 34), .int 0, .ref (a 36), .ref (a 37), .int 0, .int 0, .ref (a 40), .ref (a 41), .int 0, .ref (a 43), .ref (a 44)])), ((a 32), .inl (k 2, 24, .inl (fun _ => 0))), ((a 36), .inl (k 1, 4, .inl (fun _ => 0))), ((a 37), .inl (k 1, 4, .inl (fun _ => 0))), ((a 43), .inl (k 2, 2, .inl (fun _ => 0))), ((a 44), .inl (k 1, 70, .inl (upd f_18 (Int32.toNatClampNeg 17) 0)))] := hD
      generalize (upd f_18 (Int32.toNatClampNeg 17) 0) = f_19 at hP hD
      refine lv_iinc (v := 15) (lv' := [(3, .int 15), (2, .int 0), (0, .ref (a 0)), (1, .int 0)]) hx hb dX8_keep_85 hl (k := 0) rfl (by decide) (by decide) rfl (fun ls hl => ?_)
      refine lv_goto (tgt := 55) hx hb dX8_keep_88 (by decide) ?_
      refine lv_iload_n hx hb dX8_keep_55 rfl (lv_at hl 0 rfl) ?_
      refine lv_bipush (v := 24) hx hb dX8_keep_56 (by decide) ?_
      refine lv_icmp_ge (tgt := 91) hx hb dX8_keep_58 (by decide) (fun h => absurd h (by decide)) (fun _ => ?_)
      refine lv_aload_n hx hb dX8_keep_61 rfl (lv_at hl 2 rfl) ?_
      refine va_get (D := D) (ci := 8) (v := .ref (a 44)) (C := RX8) (T := TX8) (N := 44) hx hb hts inX8 hown hK hP 0 rfl rfl 43 (by decide) (hts _ tw_1016) (fun _ h9 => h9) rfl dX8_keep_62 ?_
      refine lv_iload_n hx hb dX8_keep_65 rfl (lv_at hl 1 rfl) ?_
      refine lv_iconst (v := 3) hx hb dX8_keep_66 (by decide) ?_
      refine lv_iadd hx hb dX8_keep_67 ?_
      refine lv_ti (y := 3) (by decide) ?_
      refine lv_iload_n hx hb dX8_keep_68 rfl (lv_at hl 0 rfl) ?_
      refine lv_iadd hx hb dX8_keep_69 ?_
      refine lv_ti (y := 18) (by decide) ?_
      refine lv_aload_n hx hb dX8_keep_70 rfl (lv_at hl 2 rfl) ?_
      refine va_get (D := D) (ci := 8) (v := .ref (a 32)) (C := RX8) (T := TX8) (N := 44) hx hb hts inX8 hown hK hP 0 rfl rfl 31 (by decide) (hts _ tw_1004) (fun _ h9 => h9) rfl dX8_keep_71 ?_
      refine lv_iload_n hx hb dX8_keep_74 rfl (lv_at hl 0 rfl) ?_
      refine va_zald hx hb hK hP 1 2 rfl rfl (by unfold vp_in; decide) dX8_keep_75 ?_
      refine lv_ti (y := 0) (by rfl) ?_
      refine lv_if_eq (tgt := 83) hx hb dX8_keep_76 (by decide) (fun _ => ?_) (fun h => absurd (by decide) h)
      refine lv_iconst (v := 0) hx hb dX8_keep_83 (by decide) ?_
      refine va_iast hx hb hK hP hD hS 5 1 rfl rfl (by unfold vp_in; decide) dX8_keep_84 (fun H locs hP hD hS => ?_)
      have hP : va_P D classes [((a 0), .inr (8, [.ref (a 1), .ref (a 2), .ref (a 3), .ref (a 4), .ref (a 5), .int 0, .int (-1), .int 0, .long 0, .int 0, .int 0, .int 0, .int 0, .ref (a 14), .ref (a 15), .ref (a 16), .int 0, .ref (a 18), .ref (a 19), .ref (a 20), .ref (a 21), .ref (a 22), .ref (a 23), .int 0, .ref (a 25), .ref (a 26), .ref (a 27), .ref (a 28), .ref (a 29), .ref (a 30), .int 0, .ref (a 32), .ref (a 33), .ref (a 34), .int 0, .ref (a 36), .ref (a 37), .int 0, .int 0, .ref (a 40), .ref (a 41), .int 0, .ref (a 43), .ref (a 44)])), ((a 32), .inl (k 2, 24, .inl (fun _ => 0))), ((a 36), .inl (k 1, 4, .inl (fun _ => 0))), ((a 37), .inl (k 1, 4, .inl (fun _ => 0))), ((a 43), .inl (k 2, 2, .inl (fun _ => 0))), ((a 44), .inl (k 1, 70, .inl (upd f_19 (Int32.toNatClampNeg 18) 0)))] H := hP
      have hD : va_D A [((a 0), .inr (8, [.ref (a 1), .ref (a 2), .ref (a 3), .ref (a 4), .ref (a 5), .int 0, .int (-1), .int 0, .long 0, .int 0, .int 0, .int 0, .int 0, .ref (a 14), .ref (a 15), .ref (a 16), .int 0, .ref (a 18), .ref (a 19), .ref (a 20), .ref (a 21), .ref (a 22), .ref (a 23), .int 0, .ref (a 25), .ref (a 26), .ref (a 27), .ref (a 28), .ref (a 29), .ref (a 30), .int 0, .ref (a 32), .ref (a 33), .ref (a 34), .int 0, .ref (a 36), .ref (a 37), .int 0, .int 0, .ref (a 40), .ref (a 41), .int 0, .ref (a 43), .ref (a 44)])), ((a 32), .inl (k 2, 24, .inl (fun _ => 0))), ((a 36), .inl (k 1, 4, .inl (fun _ => 0))), ((a 37), .inl (k 1, 4, .inl (fun _ => 0))), ((a 43), .inl (k 2, 2, .inl (fun _ => 0))), ((a 44), .inl (k 1, 70, .inl (upd f_19 (Int32.toNatClampNeg 18) 0)))] := hD
      generalize (upd f_19 (Int32.toNatClampNeg 18) 0) = f_20 at hP hD
      refine lv_iinc (v := 16) (lv' := [(3, .int 16), (2, .int 0), (0, .ref (a 0)), (1, .int 0)]) hx hb dX8_keep_85 hl (k := 0) rfl (by decide) (by decide) rfl (fun ls hl => ?_)
      refine lv_goto (tgt := 55) hx hb dX8_keep_88 (by decide) ?_
      refine lv_iload_n hx hb dX8_keep_55 rfl (lv_at hl 0 rfl) ?_
      refine lv_bipush (v := 24) hx hb dX8_keep_56 (by decide) ?_
      refine lv_icmp_ge (tgt := 91) hx hb dX8_keep_58 (by decide) (fun h => absurd h (by decide)) (fun _ => ?_)
      refine lv_aload_n hx hb dX8_keep_61 rfl (lv_at hl 2 rfl) ?_
      refine va_get (D := D) (ci := 8) (v := .ref (a 44)) (C := RX8) (T := TX8) (N := 44) hx hb hts inX8 hown hK hP 0 rfl rfl 43 (by decide) (hts _ tw_1016) (fun _ h9 => h9) rfl dX8_keep_62 ?_
      refine lv_iload_n hx hb dX8_keep_65 rfl (lv_at hl 1 rfl) ?_
      refine lv_iconst (v := 3) hx hb dX8_keep_66 (by decide) ?_
      refine lv_iadd hx hb dX8_keep_67 ?_
      refine lv_ti (y := 3) (by decide) ?_
      refine lv_iload_n hx hb dX8_keep_68 rfl (lv_at hl 0 rfl) ?_
      refine lv_iadd hx hb dX8_keep_69 ?_
      refine lv_ti (y := 19) (by decide) ?_
      refine lv_aload_n hx hb dX8_keep_70 rfl (lv_at hl 2 rfl) ?_
      refine va_get (D := D) (ci := 8) (v := .ref (a 32)) (C := RX8) (T := TX8) (N := 44) hx hb hts inX8 hown hK hP 0 rfl rfl 31 (by decide) (hts _ tw_1004) (fun _ h9 => h9) rfl dX8_keep_71 ?_
      refine lv_iload_n hx hb dX8_keep_74 rfl (lv_at hl 0 rfl) ?_
      refine va_zald hx hb hK hP 1 2 rfl rfl (by unfold vp_in; decide) dX8_keep_75 ?_
      refine lv_ti (y := 0) (by rfl) ?_
      refine lv_if_eq (tgt := 83) hx hb dX8_keep_76 (by decide) (fun _ => ?_) (fun h => absurd (by decide) h)
      refine lv_iconst (v := 0) hx hb dX8_keep_83 (by decide) ?_
      refine va_iast hx hb hK hP hD hS 5 1 rfl rfl (by unfold vp_in; decide) dX8_keep_84 (fun H locs hP hD hS => ?_)
      have hP : va_P D classes [((a 0), .inr (8, [.ref (a 1), .ref (a 2), .ref (a 3), .ref (a 4), .ref (a 5), .int 0, .int (-1), .int 0, .long 0, .int 0, .int 0, .int 0, .int 0, .ref (a 14), .ref (a 15), .ref (a 16), .int 0, .ref (a 18), .ref (a 19), .ref (a 20), .ref (a 21), .ref (a 22), .ref (a 23), .int 0, .ref (a 25), .ref (a 26), .ref (a 27), .ref (a 28), .ref (a 29), .ref (a 30), .int 0, .ref (a 32), .ref (a 33), .ref (a 34), .int 0, .ref (a 36), .ref (a 37), .int 0, .int 0, .ref (a 40), .ref (a 41), .int 0, .ref (a 43), .ref (a 44)])), ((a 32), .inl (k 2, 24, .inl (fun _ => 0))), ((a 36), .inl (k 1, 4, .inl (fun _ => 0))), ((a 37), .inl (k 1, 4, .inl (fun _ => 0))), ((a 43), .inl (k 2, 2, .inl (fun _ => 0))), ((a 44), .inl (k 1, 70, .inl (upd f_20 (Int32.toNatClampNeg 19) 0)))] H := hP
      have hD : va_D A [((a 0), .inr (8, [.ref (a 1), .ref (a 2), .ref (a 3), .ref (a 4), .ref (a 5), .int 0, .int (-1), .int 0, .long 0, .int 0, .int 0, .int 0, .int 0, .ref (a 14), .ref (a 15), .ref (a 16), .int 0, .ref (a 18), .ref (a 19), .ref (a 20), .ref (a 21), .ref (a 22), .ref (a 23), .int 0, .ref (a 25), .ref (a 26), .ref (a 27), .ref (a 28), .ref (a 29), .ref (a 30), .int 0, .ref (a 32), .ref (a 33), .ref (a 34), .int 0, .ref (a 36), .ref (a 37), .int 0, .int 0, .ref (a 40), .ref (a 41), .int 0, .ref (a 43), .ref (a 44)])), ((a 32), .inl (k 2, 24, .inl (fun _ => 0))), ((a 36), .inl (k 1, 4, .inl (fun _ => 0))), ((a 37), .inl (k 1, 4, .inl (fun _ => 0))), ((a 43), .inl (k 2, 2, .inl (fun _ => 0))), ((a 44), .inl (k 1, 70, .inl (upd f_20 (Int32.toNatClampNeg 19) 0)))] := hD
      generalize (upd f_20 (Int32.toNatClampNeg 19) 0) = f_21 at hP hD
      refine lv_iinc (v := 17) (lv' := [(3, .int 17), (2, .int 0), (0, .ref (a 0)), (1, .int 0)]) hx hb dX8_keep_85 hl (k := 0) rfl (by decide) (by decide) rfl (fun ls hl => ?_)
      refine lv_goto (tgt := 55) hx hb dX8_keep_88 (by decide) ?_
      refine lv_iload_n hx hb dX8_keep_55 rfl (lv_at hl 0 rfl) ?_
      refine lv_bipush (v := 24) hx hb dX8_keep_56 (by decide) ?_
      refine lv_icmp_ge (tgt := 91) hx hb dX8_keep_58 (by decide) (fun h => absurd h (by decide)) (fun _ => ?_)
      refine lv_aload_n hx hb dX8_keep_61 rfl (lv_at hl 2 rfl) ?_
      refine va_get (D := D) (ci := 8) (v := .ref (a 44)) (C := RX8) (T := TX8) (N := 44) hx hb hts inX8 hown hK hP 0 rfl rfl 43 (by decide) (hts _ tw_1016) (fun _ h9 => h9) rfl dX8_keep_62 ?_
      refine lv_iload_n hx hb dX8_keep_65 rfl (lv_at hl 1 rfl) ?_
      refine lv_iconst (v := 3) hx hb dX8_keep_66 (by decide) ?_
      refine lv_iadd hx hb dX8_keep_67 ?_
      refine lv_ti (y := 3) (by decide) ?_
      refine lv_iload_n hx hb dX8_keep_68 rfl (lv_at hl 0 rfl) ?_
      refine lv_iadd hx hb dX8_keep_69 ?_
      refine lv_ti (y := 20) (by decide) ?_
      refine lv_aload_n hx hb dX8_keep_70 rfl (lv_at hl 2 rfl) ?_
      refine va_get (D := D) (ci := 8) (v := .ref (a 32)) (C := RX8) (T := TX8) (N := 44) hx hb hts inX8 hown hK hP 0 rfl rfl 31 (by decide) (hts _ tw_1004) (fun _ h9 => h9) rfl dX8_keep_71 ?_
      refine lv_iload_n hx hb dX8_keep_74 rfl (lv_at hl 0 rfl) ?_
      refine va_zald hx hb hK hP 1 2 rfl rfl (by unfold vp_in; decide) dX8_keep_75 ?_
      refine lv_ti (y := 0) (by rfl) ?_
      refine lv_if_eq (tgt := 83) hx hb dX8_keep_76 (by decide) (fun _ => ?_) (fun h => absurd (by decide) h)
      refine lv_iconst (v := 0) hx hb dX8_keep_83 (by decide) ?_
      refine va_iast hx hb hK hP hD hS 5 1 rfl rfl (by unfold vp_in; decide) dX8_keep_84 (fun H locs hP hD hS => ?_)
      have hP : va_P D classes [((a 0), .inr (8, [.ref (a 1), .ref (a 2), .ref (a 3), .ref (a 4), .ref (a 5), .int 0, .int (-1), .int 0, .long 0, .int 0, .int 0, .int 0, .int 0, .ref (a 14), .ref (a 15), .ref (a 16), .int 0, .ref (a 18), .ref (a 19), .ref (a 20), .ref (a 21), .ref (a 22), .ref (a 23), .int 0, .ref (a 25), .ref (a 26), .ref (a 27), .ref (a 28), .ref (a 29), .ref (a 30), .int 0, .ref (a 32), .ref (a 33), .ref (a 34), .int 0, .ref (a 36), .ref (a 37), .int 0, .int 0, .ref (a 40), .ref (a 41), .int 0, .ref (a 43), .ref (a 44)])), ((a 32), .inl (k 2, 24, .inl (fun _ => 0))), ((a 36), .inl (k 1, 4, .inl (fun _ => 0))), ((a 37), .inl (k 1, 4, .inl (fun _ => 0))), ((a 43), .inl (k 2, 2, .inl (fun _ => 0))), ((a 44), .inl (k 1, 70, .inl (upd f_21 (Int32.toNatClampNeg 20) 0)))] H := hP
      have hD : va_D A [((a 0), .inr (8, [.ref (a 1), .ref (a 2), .ref (a 3), .ref (a 4), .ref (a 5), .int 0, .int (-1), .int 0, .long 0, .int 0, .int 0, .int 0, .int 0, .ref (a 14), .ref (a 15), .ref (a 16), .int 0, .ref (a 18), .ref (a 19), .ref (a 20), .ref (a 21), .ref (a 22), .ref (a 23), .int 0, .ref (a 25), .ref (a 26), .ref (a 27), .ref (a 28), .ref (a 29), .ref (a 30), .int 0, .ref (a 32), .ref (a 33), .ref (a 34), .int 0, .ref (a 36), .ref (a 37), .int 0, .int 0, .ref (a 40), .ref (a 41), .int 0, .ref (a 43), .ref (a 44)])), ((a 32), .inl (k 2, 24, .inl (fun _ => 0))), ((a 36), .inl (k 1, 4, .inl (fun _ => 0))), ((a 37), .inl (k 1, 4, .inl (fun _ => 0))), ((a 43), .inl (k 2, 2, .inl (fun _ => 0))), ((a 44), .inl (k 1, 70, .inl (upd f_21 (Int32.toNatClampNeg 20) 0)))] := hD
      generalize (upd f_21 (Int32.toNatClampNeg 20) 0) = f_22 at hP hD
      refine lv_iinc (v := 18) (lv' := [(3, .int 18), (2, .int 0), (0, .ref (a 0)), (1, .int 0)]) hx hb dX8_keep_85 hl (k := 0) rfl (by decide) (by decide) rfl (fun ls hl => ?_)
      refine lv_goto (tgt := 55) hx hb dX8_keep_88 (by decide) ?_
      refine lv_iload_n hx hb dX8_keep_55 rfl (lv_at hl 0 rfl) ?_
      refine lv_bipush (v := 24) hx hb dX8_keep_56 (by decide) ?_
      refine lv_icmp_ge (tgt := 91) hx hb dX8_keep_58 (by decide) (fun h => absurd h (by decide)) (fun _ => ?_)
      refine lv_aload_n hx hb dX8_keep_61 rfl (lv_at hl 2 rfl) ?_
      refine va_get (D := D) (ci := 8) (v := .ref (a 44)) (C := RX8) (T := TX8) (N := 44) hx hb hts inX8 hown hK hP 0 rfl rfl 43 (by decide) (hts _ tw_1016) (fun _ h9 => h9) rfl dX8_keep_62 ?_
      refine lv_iload_n hx hb dX8_keep_65 rfl (lv_at hl 1 rfl) ?_
      refine lv_iconst (v := 3) hx hb dX8_keep_66 (by decide) ?_
      refine lv_iadd hx hb dX8_keep_67 ?_
      refine lv_ti (y := 3) (by decide) ?_
      refine lv_iload_n hx hb dX8_keep_68 rfl (lv_at hl 0 rfl) ?_
      refine lv_iadd hx hb dX8_keep_69 ?_
      refine lv_ti (y := 21) (by decide) ?_
      refine lv_aload_n hx hb dX8_keep_70 rfl (lv_at hl 2 rfl) ?_
      refine va_get (D := D) (ci := 8) (v := .ref (a 32)) (C := RX8) (T := TX8) (N := 44) hx hb hts inX8 hown hK hP 0 rfl rfl 31 (by decide) (hts _ tw_1004) (fun _ h9 => h9) rfl dX8_keep_71 ?_
      refine lv_iload_n hx hb dX8_keep_74 rfl (lv_at hl 0 rfl) ?_
      refine va_zald hx hb hK hP 1 2 rfl rfl (by unfold vp_in; decide) dX8_keep_75 ?_
      refine lv_ti (y := 0) (by rfl) ?_
      refine lv_if_eq (tgt := 83) hx hb dX8_keep_76 (by decide) (fun _ => ?_) (fun h => absurd (by decide) h)
      refine lv_iconst (v := 0) hx hb dX8_keep_83 (by decide) ?_
      refine va_iast hx hb hK hP hD hS 5 1 rfl rfl (by unfold vp_in; decide) dX8_keep_84 (fun H locs hP hD hS => ?_)
      have hP : va_P D classes [((a 0), .inr (8, [.ref (a 1), .ref (a 2), .ref (a 3), .ref (a 4), .ref (a 5), .int 0, .int (-1), .int 0, .long 0, .int 0, .int 0, .int 0, .int 0, .ref (a 14), .ref (a 15), .ref (a 16), .int 0, .ref (a 18), .ref (a 19), .ref (a 20), .ref (a 21), .ref (a 22), .ref (a 23), .int 0, .ref (a 25), .ref (a 26), .ref (a 27), .ref (a 28), .ref (a 29), .ref (a 30), .int 0, .ref (a 32), .ref (a 33), .ref (a 34), .int 0, .ref (a 36), .ref (a 37), .int 0, .int 0, .ref (a 40), .ref (a 41), .int 0, .ref (a 43), .ref (a 44)])), ((a 32), .inl (k 2, 24, .inl (fun _ => 0))), ((a 36), .inl (k 1, 4, .inl (fun _ => 0))), ((a 37), .inl (k 1, 4, .inl (fun _ => 0))), ((a 43), .inl (k 2, 2, .inl (fun _ => 0))), ((a 44), .inl (k 1, 70, .inl (upd f_22 (Int32.toNatClampNeg 21) 0)))] H := hP
      have hD : va_D A [((a 0), .inr (8, [.ref (a 1), .ref (a 2), .ref (a 3), .ref (a 4), .ref (a 5), .int 0, .int (-1), .int 0, .long 0, .int 0, .int 0, .int 0, .int 0, .ref (a 14), .ref (a 15), .ref (a 16), .int 0, .ref (a 18), .ref (a 19), .ref (a 20), .ref (a 21), .ref (a 22), .ref (a 23), .int 0, .ref (a 25), .ref (a 26), .ref (a 27), .ref (a 28), .ref (a 29), .ref (a 30), .int 0, .ref (a 32), .ref (a 33), .ref (a 34), .int 0, .ref (a 36), .ref (a 37), .int 0, .int 0, .ref (a 40), .ref (a 41), .int 0, .ref (a 43), .ref (a 44)])), ((a 32), .inl (k 2, 24, .inl (fun _ => 0))), ((a 36), .inl (k 1, 4, .inl (fun _ => 0))), ((a 37), .inl (k 1, 4, .inl (fun _ => 0))), ((a 43), .inl (k 2, 2, .inl (fun _ => 0))), ((a 44), .inl (k 1, 70, .inl (upd f_22 (Int32.toNatClampNeg 21) 0)))] := hD
      generalize (upd f_22 (Int32.toNatClampNeg 21) 0) = f_23 at hP hD
      refine lv_iinc (v := 19) (lv' := [(3, .int 19), (2, .int 0), (0, .ref (a 0)), (1, .int 0)]) hx hb dX8_keep_85 hl (k := 0) rfl (by decide) (by decide) rfl (fun ls hl => ?_)
      refine lv_goto (tgt := 55) hx hb dX8_keep_88 (by decide) ?_
      refine lv_iload_n hx hb dX8_keep_55 rfl (lv_at hl 0 rfl) ?_
      refine lv_bipush (v := 24) hx hb dX8_keep_56 (by decide) ?_
      refine lv_icmp_ge (tgt := 91) hx hb dX8_keep_58 (by decide) (fun h => absurd h (by decide)) (fun _ => ?_)
      refine lv_aload_n hx hb dX8_keep_61 rfl (lv_at hl 2 rfl) ?_
      refine va_get (D := D) (ci := 8) (v := .ref (a 44)) (C := RX8) (T := TX8) (N := 44) hx hb hts inX8 hown hK hP 0 rfl rfl 43 (by decide) (hts _ tw_1016) (fun _ h9 => h9) rfl dX8_keep_62 ?_
      refine lv_iload_n hx hb dX8_keep_65 rfl (lv_at hl 1 rfl) ?_
      refine lv_iconst (v := 3) hx hb dX8_keep_66 (by decide) ?_
      refine lv_iadd hx hb dX8_keep_67 ?_
      refine lv_ti (y := 3) (by decide) ?_
      refine lv_iload_n hx hb dX8_keep_68 rfl (lv_at hl 0 rfl) ?_
      refine lv_iadd hx hb dX8_keep_69 ?_
      refine lv_ti (y := 22) (by decide) ?_
      refine lv_aload_n hx hb dX8_keep_70 rfl (lv_at hl 2 rfl) ?_
      refine va_get (D := D) (ci := 8) (v := .ref (a 32)) (C := RX8) (T := TX8) (N := 44) hx hb hts inX8 hown hK hP 0 rfl rfl 31 (by decide) (hts _ tw_1004) (fun _ h9 => h9) rfl dX8_keep_71 ?_
      refine lv_iload_n hx hb dX8_keep_74 rfl (lv_at hl 0 rfl) ?_
      refine va_zald hx hb hK hP 1 2 rfl rfl (by unfold vp_in; decide) dX8_keep_75 ?_
      refine lv_ti (y := 0) (by rfl) ?_
      refine lv_if_eq (tgt := 83) hx hb dX8_keep_76 (by decide) (fun _ => ?_) (fun h => absurd (by decide) h)
      refine lv_iconst (v := 0) hx hb dX8_keep_83 (by decide) ?_
      refine va_iast hx hb hK hP hD hS 5 1 rfl rfl (by unfold vp_in; decide) dX8_keep_84 (fun H locs hP hD hS => ?_)
      have hP : va_P D classes [((a 0), .inr (8, [.ref (a 1), .ref (a 2), .ref (a 3), .ref (a 4), .ref (a 5), .int 0, .int (-1), .int 0, .long 0, .int 0, .int 0, .int 0, .int 0, .ref (a 14), .ref (a 15), .ref (a 16), .int 0, .ref (a 18), .ref (a 19), .ref (a 20), .ref (a 21), .ref (a 22), .ref (a 23), .int 0, .ref (a 25), .ref (a 26), .ref (a 27), .ref (a 28), .ref (a 29), .ref (a 30), .int 0, .ref (a 32), .ref (a 33), .ref (a 34), .int 0, .ref (a 36), .ref (a 37), .int 0, .int 0, .ref (a 40), .ref (a 41), .int 0, .ref (a 43), .ref (a 44)])), ((a 32), .inl (k 2, 24, .inl (fun _ => 0))), ((a 36), .inl (k 1, 4, .inl (fun _ => 0))), ((a 37), .inl (k 1, 4, .inl (fun _ => 0))), ((a 43), .inl (k 2, 2, .inl (fun _ => 0))), ((a 44), .inl (k 1, 70, .inl (upd f_23 (Int32.toNatClampNeg 22) 0)))] H := hP
      have hD : va_D A [((a 0), .inr (8, [.ref (a 1), .ref (a 2), .ref (a 3), .ref (a 4), .ref (a 5), .int 0, .int (-1), .int 0, .long 0, .int 0, .int 0, .int 0, .int 0, .ref (a 14), .ref (a 15), .ref (a 16), .int 0, .ref (a 18), .ref (a 19), .ref (a 20), .ref (a 21), .ref (a 22), .ref (a 23), .int 0, .ref (a 25), .ref (a 26), .ref (a 27), .ref (a 28), .ref (a 29), .ref (a 30), .int 0, .ref (a 32), .ref (a 33), .ref (a 34), .int 0, .ref (a 36), .ref (a 37), .int 0, .int 0, .ref (a 40), .ref (a 41), .int 0, .ref (a 43), .ref (a 44)])), ((a 32), .inl (k 2, 24, .inl (fun _ => 0))), ((a 36), .inl (k 1, 4, .inl (fun _ => 0))), ((a 37), .inl (k 1, 4, .inl (fun _ => 0))), ((a 43), .inl (k 2, 2, .inl (fun _ => 0))), ((a 44), .inl (k 1, 70, .inl (upd f_23 (Int32.toNatClampNeg 22) 0)))] := hD
      generalize (upd f_23 (Int32.toNatClampNeg 22) 0) = f_24 at hP hD
      refine lv_iinc (v := 20) (lv' := [(3, .int 20), (2, .int 0), (0, .ref (a 0)), (1, .int 0)]) hx hb dX8_keep_85 hl (k := 0) rfl (by decide) (by decide) rfl (fun ls hl => ?_)
      refine lv_goto (tgt := 55) hx hb dX8_keep_88 (by decide) ?_
      refine lv_iload_n hx hb dX8_keep_55 rfl (lv_at hl 0 rfl) ?_
      refine lv_bipush (v := 24) hx hb dX8_keep_56 (by decide) ?_
      refine lv_icmp_ge (tgt := 91) hx hb dX8_keep_58 (by decide) (fun h => absurd h (by decide)) (fun _ => ?_)
      refine lv_aload_n hx hb dX8_keep_61 rfl (lv_at hl 2 rfl) ?_
      refine va_get (D := D) (ci := 8) (v := .ref (a 44)) (C := RX8) (T := TX8) (N := 44) hx hb hts inX8 hown hK hP 0 rfl rfl 43 (by decide) (hts _ tw_1016) (fun _ h9 => h9) rfl dX8_keep_62 ?_
      refine lv_iload_n hx hb dX8_keep_65 rfl (lv_at hl 1 rfl) ?_
      refine lv_iconst (v := 3) hx hb dX8_keep_66 (by decide) ?_
      refine lv_iadd hx hb dX8_keep_67 ?_
      refine lv_ti (y := 3) (by decide) ?_
      refine lv_iload_n hx hb dX8_keep_68 rfl (lv_at hl 0 rfl) ?_
      refine lv_iadd hx hb dX8_keep_69 ?_
      refine lv_ti (y := 23) (by decide) ?_
      refine lv_aload_n hx hb dX8_keep_70 rfl (lv_at hl 2 rfl) ?_
      refine va_get (D := D) (ci := 8) (v := .ref (a 32)) (C := RX8) (T := TX8) (N := 44) hx hb hts inX8 hown hK hP 0 rfl rfl 31 (by decide) (hts _ tw_1004) (fun _ h9 => h9) rfl dX8_keep_71 ?_
      refine lv_iload_n hx hb dX8_keep_74 rfl (lv_at hl 0 rfl) ?_
      refine va_zald hx hb hK hP 1 2 rfl rfl (by unfold vp_in; decide) dX8_keep_75 ?_
      refine lv_ti (y := 0) (by rfl) ?_
      refine lv_if_eq (tgt := 83) hx hb dX8_keep_76 (by decide) (fun _ => ?_) (fun h => absurd (by decide) h)
      refine lv_iconst (v := 0) hx hb dX8_keep_83 (by decide) ?_
      refine va_iast hx hb hK hP hD hS 5 1 rfl rfl (by unfold vp_in; decide) dX8_keep_84 (fun H locs hP hD hS => ?_)
      have hP : va_P D classes [((a 0), .inr (8, [.ref (a 1), .ref (a 2), .ref (a 3), .ref (a 4), .ref (a 5), .int 0, .int (-1), .int 0, .long 0, .int 0, .int 0, .int 0, .int 0, .ref (a 14), .ref (a 15), .ref (a 16), .int 0, .ref (a 18), .ref (a 19), .ref (a 20), .ref (a 21), .ref (a 22), .ref (a 23), .int 0, .ref (a 25), .ref (a 26), .ref (a 27), .ref (a 28), .ref (a 29), .ref (a 30), .int 0, .ref (a 32), .ref (a 33), .ref (a 34), .int 0, .ref (a 36), .ref (a 37), .int 0, .int 0, .ref (a 40), .ref (a 41), .int 0, .ref (a 43), .ref (a 44)])), ((a 32), .inl (k 2, 24, .inl (fun _ => 0))), ((a 36), .inl (k 1, 4, .inl (fun _ => 0))), ((a 37), .inl (k 1, 4, .inl (fun _ => 0))), ((a 43), .inl (k 2, 2, .inl (fun _ => 0))), ((a 44), .inl (k 1, 70, .inl (upd f_24 (Int32.toNatClampNeg 23) 0)))] H := hP
      have hD : va_D A [((a 0), .inr (8, [.ref (a 1), .ref (a 2), .ref (a 3), .ref (a 4), .ref (a 5), .int 0, .int (-1), .int 0, .long 0, .int 0, .int 0, .int 0, .int 0, .ref (a 14), .ref (a 15), .ref (a 16), .int 0, .ref (a 18), .ref (a 19), .ref (a 20), .ref (a 21), .ref (a 22), .ref (a 23), .int 0, .ref (a 25), .ref (a 26), .ref (a 27), .ref (a 28), .ref (a 29), .ref (a 30), .int 0, .ref (a 32), .ref (a 33), .ref (a 34), .int 0, .ref (a 36), .ref (a 37), .int 0, .int 0, .ref (a 40), .ref (a 41), .int 0, .ref (a 43), .ref (a 44)])), ((a 32), .inl (k 2, 24, .inl (fun _ => 0))), ((a 36), .inl (k 1, 4, .inl (fun _ => 0))), ((a 37), .inl (k 1, 4, .inl (fun _ => 0))), ((a 43), .inl (k 2, 2, .inl (fun _ => 0))), ((a 44), .inl (k 1, 70, .inl (upd f_24 (Int32.toNatClampNeg 23) 0)))] := hD
      generalize (upd f_24 (Int32.toNatClampNeg 23) 0) = f_25 at hP hD
      refine lv_iinc (v := 21) (lv' := [(3, .int 21), (2, .int 0), (0, .ref (a 0)), (1, .int 0)]) hx hb dX8_keep_85 hl (k := 0) rfl (by decide) (by decide) rfl (fun ls hl => ?_)
      refine lv_goto (tgt := 55) hx hb dX8_keep_88 (by decide) ?_
      refine lv_iload_n hx hb dX8_keep_55 rfl (lv_at hl 0 rfl) ?_
      refine lv_bipush (v := 24) hx hb dX8_keep_56 (by decide) ?_
      refine lv_icmp_ge (tgt := 91) hx hb dX8_keep_58 (by decide) (fun h => absurd h (by decide)) (fun _ => ?_)
      refine lv_aload_n hx hb dX8_keep_61 rfl (lv_at hl 2 rfl) ?_
      refine va_get (D := D) (ci := 8) (v := .ref (a 44)) (C := RX8) (T := TX8) (N := 44) hx hb hts inX8 hown hK hP 0 rfl rfl 43 (by decide) (hts _ tw_1016) (fun _ h9 => h9) rfl dX8_keep_62 ?_
      refine lv_iload_n hx hb dX8_keep_65 rfl (lv_at hl 1 rfl) ?_
      refine lv_iconst (v := 3) hx hb dX8_keep_66 (by decide) ?_
      refine lv_iadd hx hb dX8_keep_67 ?_
      refine lv_ti (y := 3) (by decide) ?_
      refine lv_iload_n hx hb dX8_keep_68 rfl (lv_at hl 0 rfl) ?_
      refine lv_iadd hx hb dX8_keep_69 ?_
      refine lv_ti (y := 24) (by decide) ?_
      refine lv_aload_n hx hb dX8_keep_70 rfl (lv_at hl 2 rfl) ?_
      refine va_get (D := D) (ci := 8) (v := .ref (a 32)) (C := RX8) (T := TX8) (N := 44) hx hb hts inX8 hown hK hP 0 rfl rfl 31 (by decide) (hts _ tw_1004) (fun _ h9 => h9) rfl dX8_keep_71 ?_
      refine lv_iload_n hx hb dX8_keep_74 rfl (lv_at hl 0 rfl) ?_
      refine va_zald hx hb hK hP 1 2 rfl rfl (by unfold vp_in; decide) dX8_keep_75 ?_
      refine lv_ti (y := 0) (by rfl) ?_
      refine lv_if_eq (tgt := 83) hx hb dX8_keep_76 (by decide) (fun _ => ?_) (fun h => absurd (by decide) h)
      refine lv_iconst (v := 0) hx hb dX8_keep_83 (by decide) ?_
      refine va_iast hx hb hK hP hD hS 5 1 rfl rfl (by unfold vp_in; decide) dX8_keep_84 (fun H locs hP hD hS => ?_)
      have hP : va_P D classes [((a 0), .inr (8, [.ref (a 1), .ref (a 2), .ref (a 3), .ref (a 4), .ref (a 5), .int 0, .int (-1), .int 0, .long 0, .int 0, .int 0, .int 0, .int 0, .ref (a 14), .ref (a 15), .ref (a 16), .int 0, .ref (a 18), .ref (a 19), .ref (a 20), .ref (a 21), .ref (a 22), .ref (a 23), .int 0, .ref (a 25), .ref (a 26), .ref (a 27), .ref (a 28), .ref (a 29), .ref (a 30), .int 0, .ref (a 32), .ref (a 33), .ref (a 34), .int 0, .ref (a 36), .ref (a 37), .int 0, .int 0, .ref (a 40), .ref (a 41), .int 0, .ref (a 43), .ref (a 44)])), ((a 32), .inl (k 2, 24, .inl (fun _ => 0))), ((a 36), .inl (k 1, 4, .inl (fun _ => 0))), ((a 37), .inl (k 1, 4, .inl (fun _ => 0))), ((a 43), .inl (k 2, 2, .inl (fun _ => 0))), ((a 44), .inl (k 1, 70, .inl (upd f_25 (Int32.toNatClampNeg 24) 0)))] H := hP
      have hD : va_D A [((a 0), .inr (8, [.ref (a 1), .ref (a 2), .ref (a 3), .ref (a 4), .ref (a 5), .int 0, .int (-1), .int 0, .long 0, .int 0, .int 0, .int 0, .int 0, .ref (a 14), .ref (a 15), .ref (a 16), .int 0, .ref (a 18), .ref (a 19), .ref (a 20), .ref (a 21), .ref (a 22), .ref (a 23), .int 0, .ref (a 25), .ref (a 26), .ref (a 27), .ref (a 28), .ref (a 29), .ref (a 30), .int 0, .ref (a 32), .ref (a 33), .ref (a 34), .int 0, .ref (a 36), .ref (a 37), .int 0, .int 0, .ref (a 40), .ref (a 41), .int 0, .ref (a 43), .ref (a 44)])), ((a 32), .inl (k 2, 24, .inl (fun _ => 0))), ((a 36), .inl (k 1, 4, .inl (fun _ => 0))), ((a 37), .inl (k 1, 4, .inl (fun _ => 0))), ((a 43), .inl (k 2, 2, .inl (fun _ => 0))), ((a 44), .inl (k 1, 70, .inl (upd f_25 (Int32.toNatClampNeg 24) 0)))] := hD
      generalize (upd f_25 (Int32.toNatClampNeg 24) 0) = f_26 at hP hD
      refine lv_iinc (v := 22) (lv' := [(3, .int 22), (2, .int 0), (0, .ref (a 0)), (1, .int 0)]) hx hb dX8_keep_85 hl (k := 0) rfl (by decide) (by decide) rfl (fun ls hl => ?_)
      refine lv_goto (tgt := 55) hx hb dX8_keep_88 (by decide) ?_
      refine lv_iload_n hx hb dX8_keep_55 rfl (lv_at hl 0 rfl) ?_
      refine lv_bipush (v := 24) hx hb dX8_keep_56 (by decide) ?_
      refine lv_icmp_ge (tgt := 91) hx hb dX8_keep_58 (by decide) (fun h => absurd h (by decide)) (fun _ => ?_)
      refine lv_aload_n hx hb dX8_keep_61 rfl (lv_at hl 2 rfl) ?_
      refine va_get (D := D) (ci := 8) (v := .ref (a 44)) (C := RX8) (T := TX8) (N := 44) hx hb hts inX8 hown hK hP 0 rfl rfl 43 (by decide) (hts _ tw_1016) (fun _ h9 => h9) rfl dX8_keep_62 ?_
      refine lv_iload_n hx hb dX8_keep_65 rfl (lv_at hl 1 rfl) ?_
      refine lv_iconst (v := 3) hx hb dX8_keep_66 (by decide) ?_
      refine lv_iadd hx hb dX8_keep_67 ?_
      refine lv_ti (y := 3) (by decide) ?_
      refine lv_iload_n hx hb dX8_keep_68 rfl (lv_at hl 0 rfl) ?_
      refine lv_iadd hx hb dX8_keep_69 ?_
      refine lv_ti (y := 25) (by decide) ?_
      refine lv_aload_n hx hb dX8_keep_70 rfl (lv_at hl 2 rfl) ?_
      refine va_get (D := D) (ci := 8) (v := .ref (a 32)) (C := RX8) (T := TX8) (N := 44) hx hb hts inX8 hown hK hP 0 rfl rfl 31 (by decide) (hts _ tw_1004) (fun _ h9 => h9) rfl dX8_keep_71 ?_
      refine lv_iload_n hx hb dX8_keep_74 rfl (lv_at hl 0 rfl) ?_
      refine va_zald hx hb hK hP 1 2 rfl rfl (by unfold vp_in; decide) dX8_keep_75 ?_
      refine lv_ti (y := 0) (by rfl) ?_
      refine lv_if_eq (tgt := 83) hx hb dX8_keep_76 (by decide) (fun _ => ?_) (fun h => absurd (by decide) h)
      refine lv_iconst (v := 0) hx hb dX8_keep_83 (by decide) ?_
      refine va_iast hx hb hK hP hD hS 5 1 rfl rfl (by unfold vp_in; decide) dX8_keep_84 (fun H locs hP hD hS => ?_)
      have hP : va_P D classes [((a 0), .inr (8, [.ref (a 1), .ref (a 2), .ref (a 3), .ref (a 4), .ref (a 5), .int 0, .int (-1), .int 0, .long 0, .int 0, .int 0, .int 0, .int 0, .ref (a 14), .ref (a 15), .ref (a 16), .int 0, .ref (a 18), .ref (a 19), .ref (a 20), .ref (a 21), .ref (a 22), .ref (a 23), .int 0, .ref (a 25), .ref (a 26), .ref (a 27), .ref (a 28), .ref (a 29), .ref (a 30), .int 0, .ref (a 32), .ref (a 33), .ref (a 34), .int 0, .ref (a 36), .ref (a 37), .int 0, .int 0, .ref (a 40), .ref (a 41), .int 0, .ref (a 43), .ref (a 44)])), ((a 32), .inl (k 2, 24, .inl (fun _ => 0))), ((a 36), .inl (k 1, 4, .inl (fun _ => 0))), ((a 37), .inl (k 1, 4, .inl (fun _ => 0))), ((a 43), .inl (k 2, 2, .inl (fun _ => 0))), ((a 44), .inl (k 1, 70, .inl (upd f_26 (Int32.toNatClampNeg 25) 0)))] H := hP
      have hD : va_D A [((a 0), .inr (8, [.ref (a 1), .ref (a 2), .ref (a 3), .ref (a 4), .ref (a 5), .int 0, .int (-1), .int 0, .long 0, .int 0, .int 0, .int 0, .int 0, .ref (a 14), .ref (a 15), .ref (a 16), .int 0, .ref (a 18), .ref (a 19), .ref (a 20), .ref (a 21), .ref (a 22), .ref (a 23), .int 0, .ref (a 25), .ref (a 26), .ref (a 27), .ref (a 28), .ref (a 29), .ref (a 30), .int 0, .ref (a 32), .ref (a 33), .ref (a 34), .int 0, .ref (a 36), .ref (a 37), .int 0, .int 0, .ref (a 40), .ref (a 41), .int 0, .ref (a 43), .ref (a 44)])), ((a 32), .inl (k 2, 24, .inl (fun _ => 0))), ((a 36), .inl (k 1, 4, .inl (fun _ => 0))), ((a 37), .inl (k 1, 4, .inl (fun _ => 0))), ((a 43), .inl (k 2, 2, .inl (fun _ => 0))), ((a 44), .inl (k 1, 70, .inl (upd f_26 (Int32.toNatClampNeg 25) 0)))] := hD
      generalize (upd f_26 (Int32.toNatClampNeg 25) 0) = f_27 at hP hD
      refine lv_iinc (v := 23) (lv' := [(3, .int 23), (2, .int 0), (0, .ref (a 0)), (1, .int 0)]) hx hb dX8_keep_85 hl (k := 0) rfl (by decide) (by decide) rfl (fun ls hl => ?_)
      refine lv_goto (tgt := 55) hx hb dX8_keep_88 (by decide) ?_
      refine lv_iload_n hx hb dX8_keep_55 rfl (lv_at hl 0 rfl) ?_
      refine lv_bipush (v := 24) hx hb dX8_keep_56 (by decide) ?_
      refine lv_icmp_ge (tgt := 91) hx hb dX8_keep_58 (by decide) (fun h => absurd h (by decide)) (fun _ => ?_)
      refine lv_aload_n hx hb dX8_keep_61 rfl (lv_at hl 2 rfl) ?_
      refine va_get (D := D) (ci := 8) (v := .ref (a 44)) (C := RX8) (T := TX8) (N := 44) hx hb hts inX8 hown hK hP 0 rfl rfl 43 (by decide) (hts _ tw_1016) (fun _ h9 => h9) rfl dX8_keep_62 ?_
      refine lv_iload_n hx hb dX8_keep_65 rfl (lv_at hl 1 rfl) ?_
      refine lv_iconst (v := 3) hx hb dX8_keep_66 (by decide) ?_
      refine lv_iadd hx hb dX8_keep_67 ?_
      refine lv_ti (y := 3) (by decide) ?_
      refine lv_iload_n hx hb dX8_keep_68 rfl (lv_at hl 0 rfl) ?_
      refine lv_iadd hx hb dX8_keep_69 ?_
      refine lv_ti (y := 26) (by decide) ?_
      refine lv_aload_n hx hb dX8_keep_70 rfl (lv_at hl 2 rfl) ?_
      refine va_get (D := D) (ci := 8) (v := .ref (a 32)) (C := RX8) (T := TX8) (N := 44) hx hb hts inX8 hown hK hP 0 rfl rfl 31 (by decide) (hts _ tw_1004) (fun _ h9 => h9) rfl dX8_keep_71 ?_
      refine lv_iload_n hx hb dX8_keep_74 rfl (lv_at hl 0 rfl) ?_
      refine va_zald hx hb hK hP 1 2 rfl rfl (by unfold vp_in; decide) dX8_keep_75 ?_
      refine lv_ti (y := 0) (by rfl) ?_
      refine lv_if_eq (tgt := 83) hx hb dX8_keep_76 (by decide) (fun _ => ?_) (fun h => absurd (by decide) h)
      refine lv_iconst (v := 0) hx hb dX8_keep_83 (by decide) ?_
      refine va_iast hx hb hK hP hD hS 5 1 rfl rfl (by unfold vp_in; decide) dX8_keep_84 (fun H locs hP hD hS => ?_)
      have hP : va_P D classes [((a 0), .inr (8, [.ref (a 1), .ref (a 2), .ref (a 3), .ref (a 4), .ref (a 5), .int 0, .int (-1), .int 0, .long 0, .int 0, .int 0, .int 0, .int 0, .ref (a 14), .ref (a 15), .ref (a 16), .int 0, .ref (a 18), .ref (a 19), .ref (a 20), .ref (a 21), .ref (a 22), .ref (a 23), .int 0, .ref (a 25), .ref (a 26), .ref (a 27), .ref (a 28), .ref (a 29), .ref (a 30), .int 0, .ref (a 32), .ref (a 33), .ref (a 34), .int 0, .ref (a 36), .ref (a 37), .int 0, .int 0, .ref (a 40), .ref (a 41), .int 0, .ref (a 43), .ref (a 44)])), ((a 32), .inl (k 2, 24, .inl (fun _ => 0))), ((a 36), .inl (k 1, 4, .inl (fun _ => 0))), ((a 37), .inl (k 1, 4, .inl (fun _ => 0))), ((a 43), .inl (k 2, 2, .inl (fun _ => 0))), ((a 44), .inl (k 1, 70, .inl (upd f_27 (Int32.toNatClampNeg 26) 0)))] H := hP
      have hD : va_D A [((a 0), .inr (8, [.ref (a 1), .ref (a 2), .ref (a 3), .ref (a 4), .ref (a 5), .int 0, .int (-1), .int 0, .long 0, .int 0, .int 0, .int 0, .int 0, .ref (a 14), .ref (a 15), .ref (a 16), .int 0, .ref (a 18), .ref (a 19), .ref (a 20), .ref (a 21), .ref (a 22), .ref (a 23), .int 0, .ref (a 25), .ref (a 26), .ref (a 27), .ref (a 28), .ref (a 29), .ref (a 30), .int 0, .ref (a 32), .ref (a 33), .ref (a 34), .int 0, .ref (a 36), .ref (a 37), .int 0, .int 0, .ref (a 40), .ref (a 41), .int 0, .ref (a 43), .ref (a 44)])), ((a 32), .inl (k 2, 24, .inl (fun _ => 0))), ((a 36), .inl (k 1, 4, .inl (fun _ => 0))), ((a 37), .inl (k 1, 4, .inl (fun _ => 0))), ((a 43), .inl (k 2, 2, .inl (fun _ => 0))), ((a 44), .inl (k 1, 70, .inl (upd f_27 (Int32.toNatClampNeg 26) 0)))] := hD
      generalize (upd f_27 (Int32.toNatClampNeg 26) 0) = f_28 at hP hD
      refine lv_iinc (v := 24) (lv' := [(3, .int 24), (2, .int 0), (0, .ref (a 0)), (1, .int 0)]) hx hb dX8_keep_85 hl (k := 0) rfl (by decide) (by decide) rfl (fun ls hl => ?_)
      refine lv_goto (tgt := 55) hx hb dX8_keep_88 (by decide) ?_
      refine lv_iload_n hx hb dX8_keep_55 rfl (lv_at hl 0 rfl) ?_
      refine lv_bipush (v := 24) hx hb dX8_keep_56 (by decide) ?_
      refine lv_icmp_ge (tgt := 91) hx hb dX8_keep_58 (by decide) (fun _ => ?_) (fun h => absurd (by decide) h)
      refine lv_iconst (v := 0) hx hb dX8_keep_91 (by decide) ?_
      refine lv_istore_n (lv' := [(3, .int 0), (2, .int 0), (0, .ref (a 0)), (1, .int 0)]) hx hb dX8_keep_92 rfl hl (by decide) rfl (fun ls hl => ?_)
      refine lv_iload_n hx hb dX8_keep_93 rfl (lv_at hl 0 rfl) ?_
      refine lv_iconst (v := 4) hx hb dX8_keep_94 (by decide) ?_
      refine lv_icmp_ge (tgt := 138) hx hb dX8_keep_95 (by decide) (fun h => absurd h (by decide)) (fun _ => ?_)
      refine lv_aload_n hx hb dX8_keep_98 rfl (lv_at hl 2 rfl) ?_
      refine va_get (D := D) (ci := 8) (v := .ref (a 44)) (C := RX8) (T := TX8) (N := 44) hx hb hts inX8 hown hK hP 0 rfl rfl 43 (by decide) (hts _ tw_1016) (fun _ h9 => h9) rfl dX8_keep_99 ?_
      refine lv_iload_n hx hb dX8_keep_102 rfl (lv_at hl 1 rfl) ?_
      refine lv_bipush (v := 27) hx hb dX8_keep_103 (by decide) ?_
      refine lv_iadd hx hb dX8_keep_105 ?_
      refine lv_ti (y := 27) (by decide) ?_
      refine lv_iload_n hx hb dX8_keep_106 rfl (lv_at hl 0 rfl) ?_
      refine lv_iadd hx hb dX8_keep_107 ?_
      refine lv_ti (y := 27) (by decide) ?_
      refine lv_aload_n hx hb dX8_keep_108 rfl (lv_at hl 2 rfl) ?_
      refine va_get (D := D) (ci := 8) (v := .ref (a 36)) (C := RX8) (T := TX8) (N := 44) hx hb hts inX8 hown hK hP 0 rfl rfl 35 (by decide) (hts _ tw_1008) (fun _ h9 => h9) rfl dX8_keep_109 ?_
      refine lv_iload_n hx hb dX8_keep_112 rfl (lv_at hl 0 rfl) ?_
      refine va_iald hx hb hK hP 2 1 rfl rfl (by unfold vp_in; decide) dX8_keep_113 ?_
      refine lv_ti (y := 0) (by rfl) ?_
      refine va_iast hx hb hK hP hD hS 5 1 rfl rfl (by unfold vp_in; decide) dX8_keep_114 (fun H locs hP hD hS => ?_)
      have hP : va_P D classes [((a 0), .inr (8, [.ref (a 1), .ref (a 2), .ref (a 3), .ref (a 4), .ref (a 5), .int 0, .int (-1), .int 0, .long 0, .int 0, .int 0, .int 0, .int 0, .ref (a 14), .ref (a 15), .ref (a 16), .int 0, .ref (a 18), .ref (a 19), .ref (a 20), .ref (a 21), .ref (a 22), .ref (a 23), .int 0, .ref (a 25), .ref (a 26), .ref (a 27), .ref (a 28), .ref (a 29), .ref (a 30), .int 0, .ref (a 32), .ref (a 33), .ref (a 34), .int 0, .ref (a 36), .ref (a 37), .int 0, .int 0, .ref (a 40), .ref (a 41), .int 0, .ref (a 43), .ref (a 44)])), ((a 32), .inl (k 2, 24, .inl (fun _ => 0))), ((a 36), .inl (k 1, 4, .inl (fun _ => 0))), ((a 37), .inl (k 1, 4, .inl (fun _ => 0))), ((a 43), .inl (k 2, 2, .inl (fun _ => 0))), ((a 44), .inl (k 1, 70, .inl (upd f_28 (Int32.toNatClampNeg 27) 0)))] H := hP
      have hD : va_D A [((a 0), .inr (8, [.ref (a 1), .ref (a 2), .ref (a 3), .ref (a 4), .ref (a 5), .int 0, .int (-1), .int 0, .long 0, .int 0, .int 0, .int 0, .int 0, .ref (a 14), .ref (a 15), .ref (a 16), .int 0, .ref (a 18), .ref (a 19), .ref (a 20), .ref (a 21), .ref (a 22), .ref (a 23), .int 0, .ref (a 25), .ref (a 26), .ref (a 27), .ref (a 28), .ref (a 29), .ref (a 30), .int 0, .ref (a 32), .ref (a 33), .ref (a 34), .int 0, .ref (a 36), .ref (a 37), .int 0, .int 0, .ref (a 40), .ref (a 41), .int 0, .ref (a 43), .ref (a 44)])), ((a 32), .inl (k 2, 24, .inl (fun _ => 0))), ((a 36), .inl (k 1, 4, .inl (fun _ => 0))), ((a 37), .inl (k 1, 4, .inl (fun _ => 0))), ((a 43), .inl (k 2, 2, .inl (fun _ => 0))), ((a 44), .inl (k 1, 70, .inl (upd f_28 (Int32.toNatClampNeg 27) 0)))] := hD
      generalize (upd f_28 (Int32.toNatClampNeg 27) 0) = f_29 at hP hD
      refine lv_aload_n hx hb dX8_keep_115 rfl (lv_at hl 2 rfl) ?_
      refine va_get (D := D) (ci := 8) (v := .ref (a 44)) (C := RX8) (T := TX8) (N := 44) hx hb hts inX8 hown hK hP 0 rfl rfl 43 (by decide) (hts _ tw_1016) (fun _ h9 => h9) rfl dX8_keep_116 ?_
      refine lv_iload_n hx hb dX8_keep_119 rfl (lv_at hl 1 rfl) ?_
      refine lv_bipush (v := 31) hx hb dX8_keep_120 (by decide) ?_
      refine lv_iadd hx hb dX8_keep_122 ?_
      refine lv_ti (y := 31) (by decide) ?_
      refine lv_iload_n hx hb dX8_keep_123 rfl (lv_at hl 0 rfl) ?_
      refine lv_iadd hx hb dX8_keep_124 ?_
      refine lv_ti (y := 31) (by decide) ?_
      refine lv_aload_n hx hb dX8_keep_125 rfl (lv_at hl 2 rfl) ?_
      refine va_get (D := D) (ci := 8) (v := .ref (a 37)) (C := RX8) (T := TX8) (N := 44) hx hb hts inX8 hown hK hP 0 rfl rfl 36 (by decide) (hts _ tw_1009) (fun _ h9 => h9) rfl dX8_keep_126 ?_
      refine lv_iload_n hx hb dX8_keep_129 rfl (lv_at hl 0 rfl) ?_
      refine va_iald hx hb hK hP 3 1 rfl rfl (by unfold vp_in; decide) dX8_keep_130 ?_
      refine lv_ti (y := 0) (by rfl) ?_
      refine va_iast hx hb hK hP hD hS 5 1 rfl rfl (by unfold vp_in; decide) dX8_keep_131 (fun H locs hP hD hS => ?_)
      have hP : va_P D classes [((a 0), .inr (8, [.ref (a 1), .ref (a 2), .ref (a 3), .ref (a 4), .ref (a 5), .int 0, .int (-1), .int 0, .long 0, .int 0, .int 0, .int 0, .int 0, .ref (a 14), .ref (a 15), .ref (a 16), .int 0, .ref (a 18), .ref (a 19), .ref (a 20), .ref (a 21), .ref (a 22), .ref (a 23), .int 0, .ref (a 25), .ref (a 26), .ref (a 27), .ref (a 28), .ref (a 29), .ref (a 30), .int 0, .ref (a 32), .ref (a 33), .ref (a 34), .int 0, .ref (a 36), .ref (a 37), .int 0, .int 0, .ref (a 40), .ref (a 41), .int 0, .ref (a 43), .ref (a 44)])), ((a 32), .inl (k 2, 24, .inl (fun _ => 0))), ((a 36), .inl (k 1, 4, .inl (fun _ => 0))), ((a 37), .inl (k 1, 4, .inl (fun _ => 0))), ((a 43), .inl (k 2, 2, .inl (fun _ => 0))), ((a 44), .inl (k 1, 70, .inl (upd f_29 (Int32.toNatClampNeg 31) 0)))] H := hP
      have hD : va_D A [((a 0), .inr (8, [.ref (a 1), .ref (a 2), .ref (a 3), .ref (a 4), .ref (a 5), .int 0, .int (-1), .int 0, .long 0, .int 0, .int 0, .int 0, .int 0, .ref (a 14), .ref (a 15), .ref (a 16), .int 0, .ref (a 18), .ref (a 19), .ref (a 20), .ref (a 21), .ref (a 22), .ref (a 23), .int 0, .ref (a 25), .ref (a 26), .ref (a 27), .ref (a 28), .ref (a 29), .ref (a 30), .int 0, .ref (a 32), .ref (a 33), .ref (a 34), .int 0, .ref (a 36), .ref (a 37), .int 0, .int 0, .ref (a 40), .ref (a 41), .int 0, .ref (a 43), .ref (a 44)])), ((a 32), .inl (k 2, 24, .inl (fun _ => 0))), ((a 36), .inl (k 1, 4, .inl (fun _ => 0))), ((a 37), .inl (k 1, 4, .inl (fun _ => 0))), ((a 43), .inl (k 2, 2, .inl (fun _ => 0))), ((a 44), .inl (k 1, 70, .inl (upd f_29 (Int32.toNatClampNeg 31) 0)))] := hD
      generalize (upd f_29 (Int32.toNatClampNeg 31) 0) = f_30 at hP hD
      refine lv_iinc (v := 1) (lv' := [(3, .int 1), (2, .int 0), (0, .ref (a 0)), (1, .int 0)]) hx hb dX8_keep_132 hl (k := 0) rfl (by decide) (by decide) rfl (fun ls hl => ?_)
      refine lv_goto (tgt := 93) hx hb dX8_keep_135 (by decide) ?_
      refine lv_iload_n hx hb dX8_keep_93 rfl (lv_at hl 0 rfl) ?_
      refine lv_iconst (v := 4) hx hb dX8_keep_94 (by decide) ?_
      refine lv_icmp_ge (tgt := 138) hx hb dX8_keep_95 (by decide) (fun h => absurd h (by decide)) (fun _ => ?_)
      refine lv_aload_n hx hb dX8_keep_98 rfl (lv_at hl 2 rfl) ?_
      refine va_get (D := D) (ci := 8) (v := .ref (a 44)) (C := RX8) (T := TX8) (N := 44) hx hb hts inX8 hown hK hP 0 rfl rfl 43 (by decide) (hts _ tw_1016) (fun _ h9 => h9) rfl dX8_keep_99 ?_
      refine lv_iload_n hx hb dX8_keep_102 rfl (lv_at hl 1 rfl) ?_
      refine lv_bipush (v := 27) hx hb dX8_keep_103 (by decide) ?_
      refine lv_iadd hx hb dX8_keep_105 ?_
      refine lv_ti (y := 27) (by decide) ?_
      refine lv_iload_n hx hb dX8_keep_106 rfl (lv_at hl 0 rfl) ?_
      refine lv_iadd hx hb dX8_keep_107 ?_
      refine lv_ti (y := 28) (by decide) ?_
      refine lv_aload_n hx hb dX8_keep_108 rfl (lv_at hl 2 rfl) ?_
      refine va_get (D := D) (ci := 8) (v := .ref (a 36)) (C := RX8) (T := TX8) (N := 44) hx hb hts inX8 hown hK hP 0 rfl rfl 35 (by decide) (hts _ tw_1008) (fun _ h9 => h9) rfl dX8_keep_109 ?_
      refine lv_iload_n hx hb dX8_keep_112 rfl (lv_at hl 0 rfl) ?_
      refine va_iald hx hb hK hP 2 1 rfl rfl (by unfold vp_in; decide) dX8_keep_113 ?_
      refine lv_ti (y := 0) (by rfl) ?_
      refine va_iast hx hb hK hP hD hS 5 1 rfl rfl (by unfold vp_in; decide) dX8_keep_114 (fun H locs hP hD hS => ?_)
      have hP : va_P D classes [((a 0), .inr (8, [.ref (a 1), .ref (a 2), .ref (a 3), .ref (a 4), .ref (a 5), .int 0, .int (-1), .int 0, .long 0, .int 0, .int 0, .int 0, .int 0, .ref (a 14), .ref (a 15), .ref (a 16), .int 0, .ref (a 18), .ref (a 19), .ref (a 20), .ref (a 21), .ref (a 22), .ref (a 23), .int 0, .ref (a 25), .ref (a 26), .ref (a 27), .ref (a 28), .ref (a 29), .ref (a 30), .int 0, .ref (a 32), .ref (a 33), .ref (a 34), .int 0, .ref (a 36), .ref (a 37), .int 0, .int 0, .ref (a 40), .ref (a 41), .int 0, .ref (a 43), .ref (a 44)])), ((a 32), .inl (k 2, 24, .inl (fun _ => 0))), ((a 36), .inl (k 1, 4, .inl (fun _ => 0))), ((a 37), .inl (k 1, 4, .inl (fun _ => 0))), ((a 43), .inl (k 2, 2, .inl (fun _ => 0))), ((a 44), .inl (k 1, 70, .inl (upd f_30 (Int32.toNatClampNeg 28) 0)))] H := hP
      have hD : va_D A [((a 0), .inr (8, [.ref (a 1), .ref (a 2), .ref (a 3), .ref (a 4), .ref (a 5), .int 0, .int (-1), .int 0, .long 0, .int 0, .int 0, .int 0, .int 0, .ref (a 14), .ref (a 15), .ref (a 16), .int 0, .ref (a 18), .ref (a 19), .ref (a 20), .ref (a 21), .ref (a 22), .ref (a 23), .int 0, .ref (a 25), .ref (a 26), .ref (a 27), .ref (a 28), .ref (a 29), .ref (a 30), .int 0, .ref (a 32), .ref (a 33), .ref (a 34), .int 0, .ref (a 36), .ref (a 37), .int 0, .int 0, .ref (a 40), .ref (a 41), .int 0, .ref (a 43), .ref (a 44)])), ((a 32), .inl (k 2, 24, .inl (fun _ => 0))), ((a 36), .inl (k 1, 4, .inl (fun _ => 0))), ((a 37), .inl (k 1, 4, .inl (fun _ => 0))), ((a 43), .inl (k 2, 2, .inl (fun _ => 0))), ((a 44), .inl (k 1, 70, .inl (upd f_30 (Int32.toNatClampNeg 28) 0)))] := hD
      generalize (upd f_30 (Int32.toNatClampNeg 28) 0) = f_31 at hP hD
      refine lv_aload_n hx hb dX8_keep_115 rfl (lv_at hl 2 rfl) ?_
      refine va_get (D := D) (ci := 8) (v := .ref (a 44)) (C := RX8) (T := TX8) (N := 44) hx hb hts inX8 hown hK hP 0 rfl rfl 43 (by decide) (hts _ tw_1016) (fun _ h9 => h9) rfl dX8_keep_116 ?_
      refine lv_iload_n hx hb dX8_keep_119 rfl (lv_at hl 1 rfl) ?_
      refine lv_bipush (v := 31) hx hb dX8_keep_120 (by decide) ?_
      refine lv_iadd hx hb dX8_keep_122 ?_
      refine lv_ti (y := 31) (by decide) ?_
      refine lv_iload_n hx hb dX8_keep_123 rfl (lv_at hl 0 rfl) ?_
      refine lv_iadd hx hb dX8_keep_124 ?_
      refine lv_ti (y := 32) (by decide) ?_
      refine lv_aload_n hx hb dX8_keep_125 rfl (lv_at hl 2 rfl) ?_
      refine va_get (D := D) (ci := 8) (v := .ref (a 37)) (C := RX8) (T := TX8) (N := 44) hx hb hts inX8 hown hK hP 0 rfl rfl 36 (by decide) (hts _ tw_1009) (fun _ h9 => h9) rfl dX8_keep_126 ?_
      refine lv_iload_n hx hb dX8_keep_129 rfl (lv_at hl 0 rfl) ?_
      refine va_iald hx hb hK hP 3 1 rfl rfl (by unfold vp_in; decide) dX8_keep_130 ?_
      refine lv_ti (y := 0) (by rfl) ?_
      refine va_iast hx hb hK hP hD hS 5 1 rfl rfl (by unfold vp_in; decide) dX8_keep_131 (fun H locs hP hD hS => ?_)
      have hP : va_P D classes [((a 0), .inr (8, [.ref (a 1), .ref (a 2), .ref (a 3), .ref (a 4), .ref (a 5), .int 0, .int (-1), .int 0, .long 0, .int 0, .int 0, .int 0, .int 0, .ref (a 14), .ref (a 15), .ref (a 16), .int 0, .ref (a 18), .ref (a 19), .ref (a 20), .ref (a 21), .ref (a 22), .ref (a 23), .int 0, .ref (a 25), .ref (a 26), .ref (a 27), .ref (a 28), .ref (a 29), .ref (a 30), .int 0, .ref (a 32), .ref (a 33), .ref (a 34), .int 0, .ref (a 36), .ref (a 37), .int 0, .int 0, .ref (a 40), .ref (a 41), .int 0, .ref (a 43), .ref (a 44)])), ((a 32), .inl (k 2, 24, .inl (fun _ => 0))), ((a 36), .inl (k 1, 4, .inl (fun _ => 0))), ((a 37), .inl (k 1, 4, .inl (fun _ => 0))), ((a 43), .inl (k 2, 2, .inl (fun _ => 0))), ((a 44), .inl (k 1, 70, .inl (upd f_31 (Int32.toNatClampNeg 32) 0)))] H := hP
      have hD : va_D A [((a 0), .inr (8, [.ref (a 1), .ref (a 2), .ref (a 3), .ref (a 4), .ref (a 5), .int 0, .int (-1), .int 0, .long 0, .int 0, .int 0, .int 0, .int 0, .ref (a 14), .ref (a 15), .ref (a 16), .int 0, .ref (a 18), .ref (a 19), .ref (a 20), .ref (a 21), .ref (a 22), .ref (a 23), .int 0, .ref (a 25), .ref (a 26), .ref (a 27), .ref (a 28), .ref (a 29), .ref (a 30), .int 0, .ref (a 32), .ref (a 33), .ref (a 34), .int 0, .ref (a 36), .ref (a 37), .int 0, .int 0, .ref (a 40), .ref (a 41), .int 0, .ref (a 43), .ref (a 44)])), ((a 32), .inl (k 2, 24, .inl (fun _ => 0))), ((a 36), .inl (k 1, 4, .inl (fun _ => 0))), ((a 37), .inl (k 1, 4, .inl (fun _ => 0))), ((a 43), .inl (k 2, 2, .inl (fun _ => 0))), ((a 44), .inl (k 1, 70, .inl (upd f_31 (Int32.toNatClampNeg 32) 0)))] := hD
      generalize (upd f_31 (Int32.toNatClampNeg 32) 0) = f_32 at hP hD
      refine lv_iinc (v := 2) (lv' := [(3, .int 2), (2, .int 0), (0, .ref (a 0)), (1, .int 0)]) hx hb dX8_keep_132 hl (k := 0) rfl (by decide) (by decide) rfl (fun ls hl => ?_)
      refine lv_goto (tgt := 93) hx hb dX8_keep_135 (by decide) ?_
      refine lv_iload_n hx hb dX8_keep_93 rfl (lv_at hl 0 rfl) ?_
      refine lv_iconst (v := 4) hx hb dX8_keep_94 (by decide) ?_
      refine lv_icmp_ge (tgt := 138) hx hb dX8_keep_95 (by decide) (fun h => absurd h (by decide)) (fun _ => ?_)
      refine lv_aload_n hx hb dX8_keep_98 rfl (lv_at hl 2 rfl) ?_
      refine va_get (D := D) (ci := 8) (v := .ref (a 44)) (C := RX8) (T := TX8) (N := 44) hx hb hts inX8 hown hK hP 0 rfl rfl 43 (by decide) (hts _ tw_1016) (fun _ h9 => h9) rfl dX8_keep_99 ?_
      refine lv_iload_n hx hb dX8_keep_102 rfl (lv_at hl 1 rfl) ?_
      refine lv_bipush (v := 27) hx hb dX8_keep_103 (by decide) ?_
      refine lv_iadd hx hb dX8_keep_105 ?_
      refine lv_ti (y := 27) (by decide) ?_
      refine lv_iload_n hx hb dX8_keep_106 rfl (lv_at hl 0 rfl) ?_
      refine lv_iadd hx hb dX8_keep_107 ?_
      refine lv_ti (y := 29) (by decide) ?_
      refine lv_aload_n hx hb dX8_keep_108 rfl (lv_at hl 2 rfl) ?_
      refine va_get (D := D) (ci := 8) (v := .ref (a 36)) (C := RX8) (T := TX8) (N := 44) hx hb hts inX8 hown hK hP 0 rfl rfl 35 (by decide) (hts _ tw_1008) (fun _ h9 => h9) rfl dX8_keep_109 ?_
      refine lv_iload_n hx hb dX8_keep_112 rfl (lv_at hl 0 rfl) ?_
      refine va_iald hx hb hK hP 2 1 rfl rfl (by unfold vp_in; decide) dX8_keep_113 ?_
      refine lv_ti (y := 0) (by rfl) ?_
      refine va_iast hx hb hK hP hD hS 5 1 rfl rfl (by unfold vp_in; decide) dX8_keep_114 (fun H locs hP hD hS => ?_)
      have hP : va_P D classes [((a 0), .inr (8, [.ref (a 1), .ref (a 2), .ref (a 3), .ref (a 4), .ref (a 5), .int 0, .int (-1), .int 0, .long 0, .int 0, .int 0, .int 0, .int 0, .ref (a 14), .ref (a 15), .ref (a 16), .int 0, .ref (a 18), .ref (a 19), .ref (a 20), .ref (a 21), .ref (a 22), .ref (a 23), .int 0, .ref (a 25), .ref (a 26), .ref (a 27), .ref (a 28), .ref (a 29), .ref (a 30), .int 0, .ref (a 32), .ref (a 33), .ref (a 34), .int 0, .ref (a 36), .ref (a 37), .int 0, .int 0, .ref (a 40), .ref (a 41), .int 0, .ref (a 43), .ref (a 44)])), ((a 32), .inl (k 2, 24, .inl (fun _ => 0))), ((a 36), .inl (k 1, 4, .inl (fun _ => 0))), ((a 37), .inl (k 1, 4, .inl (fun _ => 0))), ((a 43), .inl (k 2, 2, .inl (fun _ => 0))), ((a 44), .inl (k 1, 70, .inl (upd f_32 (Int32.toNatClampNeg 29) 0)))] H := hP
      have hD : va_D A [((a 0), .inr (8, [.ref (a 1), .ref (a 2), .ref (a 3), .ref (a 4), .ref (a 5), .int 0, .int (-1), .int 0, .long 0, .int 0, .int 0, .int 0, .int 0, .ref (a 14), .ref (a 15), .ref (a 16), .int 0, .ref (a 18), .ref (a 19), .ref (a 20), .ref (a 21), .ref (a 22), .ref (a 23), .int 0, .ref (a 25), .ref (a 26), .ref (a 27), .ref (a 28), .ref (a 29), .ref (a 30), .int 0, .ref (a 32), .ref (a 33), .ref (a 34), .int 0, .ref (a 36), .ref (a 37), .int 0, .int 0, .ref (a 40), .ref (a 41), .int 0, .ref (a 43), .ref (a 44)])), ((a 32), .inl (k 2, 24, .inl (fun _ => 0))), ((a 36), .inl (k 1, 4, .inl (fun _ => 0))), ((a 37), .inl (k 1, 4, .inl (fun _ => 0))), ((a 43), .inl (k 2, 2, .inl (fun _ => 0))), ((a 44), .inl (k 1, 70, .inl (upd f_32 (Int32.toNatClampNeg 29) 0)))] := hD
      generalize (upd f_32 (Int32.toNatClampNeg 29) 0) = f_33 at hP hD
      refine lv_aload_n hx hb dX8_keep_115 rfl (lv_at hl 2 rfl) ?_
      refine va_get (D := D) (ci := 8) (v := .ref (a 44)) (C := RX8) (T := TX8) (N := 44) hx hb hts inX8 hown hK hP 0 rfl rfl 43 (by decide) (hts _ tw_1016) (fun _ h9 => h9) rfl dX8_keep_116 ?_
      refine lv_iload_n hx hb dX8_keep_119 rfl (lv_at hl 1 rfl) ?_
      refine lv_bipush (v := 31) hx hb dX8_keep_120 (by decide) ?_
      refine lv_iadd hx hb dX8_keep_122 ?_
      refine lv_ti (y := 31) (by decide) ?_
      refine lv_iload_n hx hb dX8_keep_123 rfl (lv_at hl 0 rfl) ?_
      refine lv_iadd hx hb dX8_keep_124 ?_
      refine lv_ti (y := 33) (by decide) ?_
      refine lv_aload_n hx hb dX8_keep_125 rfl (lv_at hl 2 rfl) ?_
      refine va_get (D := D) (ci := 8) (v := .ref (a 37)) (C := RX8) (T := TX8) (N := 44) hx hb hts inX8 hown hK hP 0 rfl rfl 36 (by decide) (hts _ tw_1009) (fun _ h9 => h9) rfl dX8_keep_126 ?_
      refine lv_iload_n hx hb dX8_keep_129 rfl (lv_at hl 0 rfl) ?_
      refine va_iald hx hb hK hP 3 1 rfl rfl (by unfold vp_in; decide) dX8_keep_130 ?_
      refine lv_ti (y := 0) (by rfl) ?_
      refine va_iast hx hb hK hP hD hS 5 1 rfl rfl (by unfold vp_in; decide) dX8_keep_131 (fun H locs hP hD hS => ?_)
      have hP : va_P D classes [((a 0), .inr (8, [.ref (a 1), .ref (a 2), .ref (a 3), .ref (a 4), .ref (a 5), .int 0, .int (-1), .int 0, .long 0, .int 0, .int 0, .int 0, .int 0, .ref (a 14), .ref (a 15), .ref (a 16), .int 0, .ref (a 18), .ref (a 19), .ref (a 20), .ref (a 21), .ref (a 22), .ref (a 23), .int 0, .ref (a 25), .ref (a 26), .ref (a 27), .ref (a 28), .ref (a 29), .ref (a 30), .int 0, .ref (a 32), .ref (a 33), .ref (a 34), .int 0, .ref (a 36), .ref (a 37), .int 0, .int 0, .ref (a 40), .ref (a 41), .int 0, .ref (a 43), .ref (a 44)])), ((a 32), .inl (k 2, 24, .inl (fun _ => 0))), ((a 36), .inl (k 1, 4, .inl (fun _ => 0))), ((a 37), .inl (k 1, 4, .inl (fun _ => 0))), ((a 43), .inl (k 2, 2, .inl (fun _ => 0))), ((a 44), .inl (k 1, 70, .inl (upd f_33 (Int32.toNatClampNeg 33) 0)))] H := hP
      have hD : va_D A [((a 0), .inr (8, [.ref (a 1), .ref (a 2), .ref (a 3), .ref (a 4), .ref (a 5), .int 0, .int (-1), .int 0, .long 0, .int 0, .int 0, .int 0, .int 0, .ref (a 14), .ref (a 15), .ref (a 16), .int 0, .ref (a 18), .ref (a 19), .ref (a 20), .ref (a 21), .ref (a 22), .ref (a 23), .int 0, .ref (a 25), .ref (a 26), .ref (a 27), .ref (a 28), .ref (a 29), .ref (a 30), .int 0, .ref (a 32), .ref (a 33), .ref (a 34), .int 0, .ref (a 36), .ref (a 37), .int 0, .int 0, .ref (a 40), .ref (a 41), .int 0, .ref (a 43), .ref (a 44)])), ((a 32), .inl (k 2, 24, .inl (fun _ => 0))), ((a 36), .inl (k 1, 4, .inl (fun _ => 0))), ((a 37), .inl (k 1, 4, .inl (fun _ => 0))), ((a 43), .inl (k 2, 2, .inl (fun _ => 0))), ((a 44), .inl (k 1, 70, .inl (upd f_33 (Int32.toNatClampNeg 33) 0)))] := hD
      generalize (upd f_33 (Int32.toNatClampNeg 33) 0) = f_34 at hP hD
      refine lv_iinc (v := 3) (lv' := [(3, .int 3), (2, .int 0), (0, .ref (a 0)), (1, .int 0)]) hx hb dX8_keep_132 hl (k := 0) rfl (by decide) (by decide) rfl (fun ls hl => ?_)
      refine lv_goto (tgt := 93) hx hb dX8_keep_135 (by decide) ?_
      refine lv_iload_n hx hb dX8_keep_93 rfl (lv_at hl 0 rfl) ?_
      refine lv_iconst (v := 4) hx hb dX8_keep_94 (by decide) ?_
      refine lv_icmp_ge (tgt := 138) hx hb dX8_keep_95 (by decide) (fun h => absurd h (by decide)) (fun _ => ?_)
      refine lv_aload_n hx hb dX8_keep_98 rfl (lv_at hl 2 rfl) ?_
      refine va_get (D := D) (ci := 8) (v := .ref (a 44)) (C := RX8) (T := TX8) (N := 44) hx hb hts inX8 hown hK hP 0 rfl rfl 43 (by decide) (hts _ tw_1016) (fun _ h9 => h9) rfl dX8_keep_99 ?_
      refine lv_iload_n hx hb dX8_keep_102 rfl (lv_at hl 1 rfl) ?_
      refine lv_bipush (v := 27) hx hb dX8_keep_103 (by decide) ?_
      refine lv_iadd hx hb dX8_keep_105 ?_
      refine lv_ti (y := 27) (by decide) ?_
      refine lv_iload_n hx hb dX8_keep_106 rfl (lv_at hl 0 rfl) ?_
      refine lv_iadd hx hb dX8_keep_107 ?_
      refine lv_ti (y := 30) (by decide) ?_
      refine lv_aload_n hx hb dX8_keep_108 rfl (lv_at hl 2 rfl) ?_
      refine va_get (D := D) (ci := 8) (v := .ref (a 36)) (C := RX8) (T := TX8) (N := 44) hx hb hts inX8 hown hK hP 0 rfl rfl 35 (by decide) (hts _ tw_1008) (fun _ h9 => h9) rfl dX8_keep_109 ?_
      refine lv_iload_n hx hb dX8_keep_112 rfl (lv_at hl 0 rfl) ?_
      refine va_iald hx hb hK hP 2 1 rfl rfl (by unfold vp_in; decide) dX8_keep_113 ?_
      refine lv_ti (y := 0) (by rfl) ?_
      refine va_iast hx hb hK hP hD hS 5 1 rfl rfl (by unfold vp_in; decide) dX8_keep_114 (fun H locs hP hD hS => ?_)
      have hP : va_P D classes [((a 0), .inr (8, [.ref (a 1), .ref (a 2), .ref (a 3), .ref (a 4), .ref (a 5), .int 0, .int (-1), .int 0, .long 0, .int 0, .int 0, .int 0, .int 0, .ref (a 14), .ref (a 15), .ref (a 16), .int 0, .ref (a 18), .ref (a 19), .ref (a 20), .ref (a 21), .ref (a 22), .ref (a 23), .int 0, .ref (a 25), .ref (a 26), .ref (a 27), .ref (a 28), .ref (a 29), .ref (a 30), .int 0, .ref (a 32), .ref (a 33), .ref (a 34), .int 0, .ref (a 36), .ref (a 37), .int 0, .int 0, .ref (a 40), .ref (a 41), .int 0, .ref (a 43), .ref (a 44)])), ((a 32), .inl (k 2, 24, .inl (fun _ => 0))), ((a 36), .inl (k 1, 4, .inl (fun _ => 0))), ((a 37), .inl (k 1, 4, .inl (fun _ => 0))), ((a 43), .inl (k 2, 2, .inl (fun _ => 0))), ((a 44), .inl (k 1, 70, .inl (upd f_34 (Int32.toNatClampNeg 30) 0)))] H := hP
      have hD : va_D A [((a 0), .inr (8, [.ref (a 1), .ref (a 2), .ref (a 3), .ref (a 4), .ref (a 5), .int 0, .int (-1), .int 0, .long 0, .int 0, .int 0, .int 0, .int 0, .ref (a 14), .ref (a 15), .ref (a 16), .int 0, .ref (a 18), .ref (a 19), .ref (a 20), .ref (a 21), .ref (a 22), .ref (a 23), .int 0, .ref (a 25), .ref (a 26), .ref (a 27), .ref (a 28), .ref (a 29), .ref (a 30), .int 0, .ref (a 32), .ref (a 33), .ref (a 34), .int 0, .ref (a 36), .ref (a 37), .int 0, .int 0, .ref (a 40), .ref (a 41), .int 0, .ref (a 43), .ref (a 44)])), ((a 32), .inl (k 2, 24, .inl (fun _ => 0))), ((a 36), .inl (k 1, 4, .inl (fun _ => 0))), ((a 37), .inl (k 1, 4, .inl (fun _ => 0))), ((a 43), .inl (k 2, 2, .inl (fun _ => 0))), ((a 44), .inl (k 1, 70, .inl (upd f_34 (Int32.toNatClampNeg 30) 0)))] := hD
      generalize (upd f_34 (Int32.toNatClampNeg 30) 0) = f_35 at hP hD
      refine lv_aload_n hx hb dX8_keep_115 rfl (lv_at hl 2 rfl) ?_
      refine va_get (D := D) (ci := 8) (v := .ref (a 44)) (C := RX8) (T := TX8) (N := 44) hx hb hts inX8 hown hK hP 0 rfl rfl 43 (by decide) (hts _ tw_1016) (fun _ h9 => h9) rfl dX8_keep_116 ?_
      refine lv_iload_n hx hb dX8_keep_119 rfl (lv_at hl 1 rfl) ?_
      refine lv_bipush (v := 31) hx hb dX8_keep_120 (by decide) ?_
      refine lv_iadd hx hb dX8_keep_122 ?_
      refine lv_ti (y := 31) (by decide) ?_
      refine lv_iload_n hx hb dX8_keep_123 rfl (lv_at hl 0 rfl) ?_
      refine lv_iadd hx hb dX8_keep_124 ?_
      refine lv_ti (y := 34) (by decide) ?_
      refine lv_aload_n hx hb dX8_keep_125 rfl (lv_at hl 2 rfl) ?_
      refine va_get (D := D) (ci := 8) (v := .ref (a 37)) (C := RX8) (T := TX8) (N := 44) hx hb hts inX8 hown hK hP 0 rfl rfl 36 (by decide) (hts _ tw_1009) (fun _ h9 => h9) rfl dX8_keep_126 ?_
      refine lv_iload_n hx hb dX8_keep_129 rfl (lv_at hl 0 rfl) ?_
      refine va_iald hx hb hK hP 3 1 rfl rfl (by unfold vp_in; decide) dX8_keep_130 ?_
      refine lv_ti (y := 0) (by rfl) ?_
      refine va_iast hx hb hK hP hD hS 5 1 rfl rfl (by unfold vp_in; decide) dX8_keep_131 (fun H locs hP hD hS => ?_)
      have hP : va_P D classes [((a 0), .inr (8, [.ref (a 1), .ref (a 2), .ref (a 3), .ref (a 4), .ref (a 5), .int 0, .int (-1), .int 0, .long 0, .int 0, .int 0, .int 0, .int 0, .ref (a 14), .ref (a 15), .ref (a 16), .int 0, .ref (a 18), .ref (a 19), .ref (a 20), .ref (a 21), .ref (a 22), .ref (a 23), .int 0, .ref (a 25), .ref (a 26), .ref (a 27), .ref (a 28), .ref (a 29), .ref (a 30), .int 0, .ref (a 32), .ref (a 33), .ref (a 34), .int 0, .ref (a 36), .ref (a 37), .int 0, .int 0, .ref (a 40), .ref (a 41), .int 0, .ref (a 43), .ref (a 44)])), ((a 32), .inl (k 2, 24, .inl (fun _ => 0))), ((a 36), .inl (k 1, 4, .inl (fun _ => 0))), ((a 37), .inl (k 1, 4, .inl (fun _ => 0))), ((a 43), .inl (k 2, 2, .inl (fun _ => 0))), ((a 44), .inl (k 1, 70, .inl (upd f_35 (Int32.toNatClampNeg 34) 0)))] H := hP
      have hD : va_D A [((a 0), .inr (8, [.ref (a 1), .ref (a 2), .ref (a 3), .ref (a 4), .ref (a 5), .int 0, .int (-1), .int 0, .long 0, .int 0, .int 0, .int 0, .int 0, .ref (a 14), .ref (a 15), .ref (a 16), .int 0, .ref (a 18), .ref (a 19), .ref (a 20), .ref (a 21), .ref (a 22), .ref (a 23), .int 0, .ref (a 25), .ref (a 26), .ref (a 27), .ref (a 28), .ref (a 29), .ref (a 30), .int 0, .ref (a 32), .ref (a 33), .ref (a 34), .int 0, .ref (a 36), .ref (a 37), .int 0, .int 0, .ref (a 40), .ref (a 41), .int 0, .ref (a 43), .ref (a 44)])), ((a 32), .inl (k 2, 24, .inl (fun _ => 0))), ((a 36), .inl (k 1, 4, .inl (fun _ => 0))), ((a 37), .inl (k 1, 4, .inl (fun _ => 0))), ((a 43), .inl (k 2, 2, .inl (fun _ => 0))), ((a 44), .inl (k 1, 70, .inl (upd f_35 (Int32.toNatClampNeg 34) 0)))] := hD
      generalize (upd f_35 (Int32.toNatClampNeg 34) 0) = f_36 at hP hD
      refine lv_iinc (v := 4) (lv' := [(3, .int 4), (2, .int 0), (0, .ref (a 0)), (1, .int 0)]) hx hb dX8_keep_132 hl (k := 0) rfl (by decide) (by decide) rfl (fun ls hl => ?_)
      refine lv_goto (tgt := 93) hx hb dX8_keep_135 (by decide) ?_
      refine lv_iload_n hx hb dX8_keep_93 rfl (lv_at hl 0 rfl) ?_
      refine lv_iconst (v := 4) hx hb dX8_keep_94 (by decide) ?_
      refine lv_icmp_ge (tgt := 138) hx hb dX8_keep_95 (by decide) (fun _ => ?_) (fun h => absurd (by decide) h)
      refine lv_aload_n hx hb dX8_keep_138 rfl (lv_at hl 2 rfl) ?_
      refine va_get (D := D) (ci := 8) (v := .ref (a 43)) (C := RX8) (T := TX8) (N := 44) hx hb hts inX8 hown hK hP 0 rfl rfl 42 (by decide) (hts _ tw_1015) (fun _ h9 => h9) rfl dX8_keep_139 ?_
      refine lv_iload_n hx hb dX8_keep_142 rfl (lv_at hl 3 rfl) ?_
      refine lv_iconst (v := 1) hx hb dX8_keep_143 (by decide) ?_
      refine va_zast hx hb hK hP hD hS 4 2 rfl rfl (by unfold vp_in; decide) dX8_keep_144 (fun H locs hP hD hS => ?_)
      have hP : va_P D classes [((a 0), .inr (8, [.ref (a 1), .ref (a 2), .ref (a 3), .ref (a 4), .ref (a 5), .int 0, .int (-1), .int 0, .long 0, .int 0, .int 0, .int 0, .int 0, .ref (a 14), .ref (a 15), .ref (a 16), .int 0, .ref (a 18), .ref (a 19), .ref (a 20), .ref (a 21), .ref (a 22), .ref (a 23), .int 0, .ref (a 25), .ref (a 26), .ref (a 27), .ref (a 28), .ref (a 29), .ref (a 30), .int 0, .ref (a 32), .ref (a 33), .ref (a 34), .int 0, .ref (a 36), .ref (a 37), .int 0, .int 0, .ref (a 40), .ref (a 41), .int 0, .ref (a 43), .ref (a 44)])), ((a 32), .inl (k 2, 24, .inl (fun _ => 0))), ((a 36), .inl (k 1, 4, .inl (fun _ => 0))), ((a 37), .inl (k 1, 4, .inl (fun _ => 0))), ((a 43), .inl (k 2, 2, .inl (upd (fun _ => 0) (Int32.toNatClampNeg 0) (vp_nar .boolean 1)))), ((a 44), .inl (k 1, 70, .inl f_36))] H := hP
      have hD : va_D A [((a 0), .inr (8, [.ref (a 1), .ref (a 2), .ref (a 3), .ref (a 4), .ref (a 5), .int 0, .int (-1), .int 0, .long 0, .int 0, .int 0, .int 0, .int 0, .ref (a 14), .ref (a 15), .ref (a 16), .int 0, .ref (a 18), .ref (a 19), .ref (a 20), .ref (a 21), .ref (a 22), .ref (a 23), .int 0, .ref (a 25), .ref (a 26), .ref (a 27), .ref (a 28), .ref (a 29), .ref (a 30), .int 0, .ref (a 32), .ref (a 33), .ref (a 34), .int 0, .ref (a 36), .ref (a 37), .int 0, .int 0, .ref (a 40), .ref (a 41), .int 0, .ref (a 43), .ref (a 44)])), ((a 32), .inl (k 2, 24, .inl (fun _ => 0))), ((a 36), .inl (k 1, 4, .inl (fun _ => 0))), ((a 37), .inl (k 1, 4, .inl (fun _ => 0))), ((a 43), .inl (k 2, 2, .inl (upd (fun _ => 0) (Int32.toNatClampNeg 0) (vp_nar .boolean 1)))), ((a 44), .inl (k 1, 70, .inl f_36))] := hD
      generalize (upd (fun _ => 0) (Int32.toNatClampNeg 0) (vp_nar .boolean 1)) = f_37 at hP hD
      refine lv_iconst (v := 1) hx hb dX8_keep_145 (by decide) ?_
      have hP9 := hP.sub (ws' := []) [] rfl
      have hD9 := hD.sub (ws' := []) [] (by decide) rfl
      exact W.iret (v := 1) hx hb hr (fun t ht hW => ⟨⟨1, (), rfl, ⟨fun _ => rfl, fun h => absurd ⟨by decide, by decide⟩ h⟩, by rw [ht]; exact hP9, hD9⟩, hS.F ht⟩) hS.2.2 dX8_keep_146
    · refine lv_bipush (v := 35) hx hb dX8_keep_14 (by decide) ?_
      refine lv_iload_n hx hb dX8_keep_16 rfl (lv_at hl 1 rfl) ?_
      refine lv_imul hx hb dX8_keep_17 ?_
      refine lv_ti (y := 35) (by decide) ?_
      refine lv_istore_n (lv' := [(2, .int 35), (0, .ref (a 0)), (1, .int 1)]) hx hb dX8_keep_18 rfl hl (by decide) rfl (fun ls hl => ?_)
      refine lv_aload_n hx hb dX8_keep_19 rfl (lv_at hl 1 rfl) ?_
      refine va_get (D := D) (ci := 8) (v := .ref (a 44)) (C := RX8) (T := TX8) (N := 44) hx hb hts inX8 hown hK hP 0 rfl rfl 43 (by decide) (hts _ tw_1016) (fun _ h9 => h9) rfl dX8_keep_20 ?_
      refine lv_iload_n hx hb dX8_keep_23 rfl (lv_at hl 0 rfl) ?_
      refine lv_aload_n hx hb dX8_keep_24 rfl (lv_at hl 1 rfl) ?_
      refine va_get (D := D) (ci := 8) (v := .int 0) (C := RX8) (T := TX8) (N := 44) hx hb hts inX8 hown hK hP 0 rfl rfl 30 (by decide) (hts _ tw_1003) (fun _ h9 => h9) rfl dX8_keep_25 ?_
      refine va_iast hx hb hK hP hD hS 5 1 rfl rfl (by unfold vp_in; decide) dX8_keep_28 (fun H locs hP hD hS => ?_)
      have hP : va_P D classes [((a 0), .inr (8, [.ref (a 1), .ref (a 2), .ref (a 3), .ref (a 4), .ref (a 5), .int 0, .int (-1), .int 0, .long 0, .int 0, .int 0, .int 0, .int 0, .ref (a 14), .ref (a 15), .ref (a 16), .int 0, .ref (a 18), .ref (a 19), .ref (a 20), .ref (a 21), .ref (a 22), .ref (a 23), .int 0, .ref (a 25), .ref (a 26), .ref (a 27), .ref (a 28), .ref (a 29), .ref (a 30), .int 0, .ref (a 32), .ref (a 33), .ref (a 34), .int 0, .ref (a 36), .ref (a 37), .int 0, .int 0, .ref (a 40), .ref (a 41), .int 0, .ref (a 43), .ref (a 44)])), ((a 32), .inl (k 2, 24, .inl (fun _ => 0))), ((a 36), .inl (k 1, 4, .inl (fun _ => 0))), ((a 37), .inl (k 1, 4, .inl (fun _ => 0))), ((a 43), .inl (k 2, 2, .inl (fun _ => 0))), ((a 44), .inl (k 1, 70, .inl (upd (fun _ => 0) (Int32.toNatClampNeg 35) 0)))] H := hP
      have hD : va_D A [((a 0), .inr (8, [.ref (a 1), .ref (a 2), .ref (a 3), .ref (a 4), .ref (a 5), .int 0, .int (-1), .int 0, .long 0, .int 0, .int 0, .int 0, .int 0, .ref (a 14), .ref (a 15), .ref (a 16), .int 0, .ref (a 18), .ref (a 19), .ref (a 20), .ref (a 21), .ref (a 22), .ref (a 23), .int 0, .ref (a 25), .ref (a 26), .ref (a 27), .ref (a 28), .ref (a 29), .ref (a 30), .int 0, .ref (a 32), .ref (a 33), .ref (a 34), .int 0, .ref (a 36), .ref (a 37), .int 0, .int 0, .ref (a 40), .ref (a 41), .int 0, .ref (a 43), .ref (a 44)])), ((a 32), .inl (k 2, 24, .inl (fun _ => 0))), ((a 36), .inl (k 1, 4, .inl (fun _ => 0))), ((a 37), .inl (k 1, 4, .inl (fun _ => 0))), ((a 43), .inl (k 2, 2, .inl (fun _ => 0))), ((a 44), .inl (k 1, 70, .inl (upd (fun _ => 0) (Int32.toNatClampNeg 35) 0)))] := hD
      generalize (upd (fun _ => 0) (Int32.toNatClampNeg 35) 0) = f_38 at hP hD
      refine lv_aload_n hx hb dX8_keep_29 rfl (lv_at hl 1 rfl) ?_
      refine va_get (D := D) (ci := 8) (v := .ref (a 44)) (C := RX8) (T := TX8) (N := 44) hx hb hts inX8 hown hK hP 0 rfl rfl 43 (by decide) (hts _ tw_1016) (fun _ h9 => h9) rfl dX8_keep_30 ?_
      refine lv_iload_n hx hb dX8_keep_33 rfl (lv_at hl 0 rfl) ?_
      refine lv_iconst (v := 1) hx hb dX8_keep_34 (by decide) ?_
      refine lv_iadd hx hb dX8_keep_35 ?_
      refine lv_ti (y := 36) (by decide) ?_
      refine lv_aload_n hx hb dX8_keep_36 rfl (lv_at hl 1 rfl) ?_
      refine va_get (D := D) (ci := 8) (v := .int 0) (C := RX8) (T := TX8) (N := 44) hx hb hts inX8 hown hK hP 0 rfl rfl 34 (by decide) (hts _ tw_1007) (fun _ h9 => h9) rfl dX8_keep_37 ?_
      refine va_iast hx hb hK hP hD hS 5 1 rfl rfl (by unfold vp_in; decide) dX8_keep_40 (fun H locs hP hD hS => ?_)
      have hP : va_P D classes [((a 0), .inr (8, [.ref (a 1), .ref (a 2), .ref (a 3), .ref (a 4), .ref (a 5), .int 0, .int (-1), .int 0, .long 0, .int 0, .int 0, .int 0, .int 0, .ref (a 14), .ref (a 15), .ref (a 16), .int 0, .ref (a 18), .ref (a 19), .ref (a 20), .ref (a 21), .ref (a 22), .ref (a 23), .int 0, .ref (a 25), .ref (a 26), .ref (a 27), .ref (a 28), .ref (a 29), .ref (a 30), .int 0, .ref (a 32), .ref (a 33), .ref (a 34), .int 0, .ref (a 36), .ref (a 37), .int 0, .int 0, .ref (a 40), .ref (a 41), .int 0, .ref (a 43), .ref (a 44)])), ((a 32), .inl (k 2, 24, .inl (fun _ => 0))), ((a 36), .inl (k 1, 4, .inl (fun _ => 0))), ((a 37), .inl (k 1, 4, .inl (fun _ => 0))), ((a 43), .inl (k 2, 2, .inl (fun _ => 0))), ((a 44), .inl (k 1, 70, .inl (upd f_38 (Int32.toNatClampNeg 36) 0)))] H := hP
      have hD : va_D A [((a 0), .inr (8, [.ref (a 1), .ref (a 2), .ref (a 3), .ref (a 4), .ref (a 5), .int 0, .int (-1), .int 0, .long 0, .int 0, .int 0, .int 0, .int 0, .ref (a 14), .ref (a 15), .ref (a 16), .int 0, .ref (a 18), .ref (a 19), .ref (a 20), .ref (a 21), .ref (a 22), .ref (a 23), .int 0, .ref (a 25), .ref (a 26), .ref (a 27), .ref (a 28), .ref (a 29), .ref (a 30), .int 0, .ref (a 32), .ref (a 33), .ref (a 34), .int 0, .ref (a 36), .ref (a 37), .int 0, .int 0, .ref (a 40), .ref (a 41), .int 0, .ref (a 43), .ref (a 44)])), ((a 32), .inl (k 2, 24, .inl (fun _ => 0))), ((a 36), .inl (k 1, 4, .inl (fun _ => 0))), ((a 37), .inl (k 1, 4, .inl (fun _ => 0))), ((a 43), .inl (k 2, 2, .inl (fun _ => 0))), ((a 44), .inl (k 1, 70, .inl (upd f_38 (Int32.toNatClampNeg 36) 0)))] := hD
      generalize (upd f_38 (Int32.toNatClampNeg 36) 0) = f_39 at hP hD
      refine lv_aload_n hx hb dX8_keep_41 rfl (lv_at hl 1 rfl) ?_
      refine va_get (D := D) (ci := 8) (v := .ref (a 44)) (C := RX8) (T := TX8) (N := 44) hx hb hts inX8 hown hK hP 0 rfl rfl 43 (by decide) (hts _ tw_1016) (fun _ h9 => h9) rfl dX8_keep_42 ?_
      refine lv_iload_n hx hb dX8_keep_45 rfl (lv_at hl 0 rfl) ?_
      refine lv_iconst (v := 2) hx hb dX8_keep_46 (by decide) ?_
      refine lv_iadd hx hb dX8_keep_47 ?_
      refine lv_ti (y := 37) (by decide) ?_
      refine lv_aload_n hx hb dX8_keep_48 rfl (lv_at hl 1 rfl) ?_
      refine va_get (D := D) (ci := 8) (v := .int 0) (C := RX8) (T := TX8) (N := 44) hx hb hts inX8 hown hK hP 0 rfl rfl 41 (by decide) (hts _ tw_1014) (fun _ h9 => h9) rfl dX8_keep_49 ?_
      refine va_iast hx hb hK hP hD hS 5 1 rfl rfl (by unfold vp_in; decide) dX8_keep_52 (fun H locs hP hD hS => ?_)
      have hP : va_P D classes [((a 0), .inr (8, [.ref (a 1), .ref (a 2), .ref (a 3), .ref (a 4), .ref (a 5), .int 0, .int (-1), .int 0, .long 0, .int 0, .int 0, .int 0, .int 0, .ref (a 14), .ref (a 15), .ref (a 16), .int 0, .ref (a 18), .ref (a 19), .ref (a 20), .ref (a 21), .ref (a 22), .ref (a 23), .int 0, .ref (a 25), .ref (a 26), .ref (a 27), .ref (a 28), .ref (a 29), .ref (a 30), .int 0, .ref (a 32), .ref (a 33), .ref (a 34), .int 0, .ref (a 36), .ref (a 37), .int 0, .int 0, .ref (a 40), .ref (a 41), .int 0, .ref (a 43), .ref (a 44)])), ((a 32), .inl (k 2, 24, .inl (fun _ => 0))), ((a 36), .inl (k 1, 4, .inl (fun _ => 0))), ((a 37), .inl (k 1, 4, .inl (fun _ => 0))), ((a 43), .inl (k 2, 2, .inl (fun _ => 0))), ((a 44), .inl (k 1, 70, .inl (upd f_39 (Int32.toNatClampNeg 37) 0)))] H := hP
      have hD : va_D A [((a 0), .inr (8, [.ref (a 1), .ref (a 2), .ref (a 3), .ref (a 4), .ref (a 5), .int 0, .int (-1), .int 0, .long 0, .int 0, .int 0, .int 0, .int 0, .ref (a 14), .ref (a 15), .ref (a 16), .int 0, .ref (a 18), .ref (a 19), .ref (a 20), .ref (a 21), .ref (a 22), .ref (a 23), .int 0, .ref (a 25), .ref (a 26), .ref (a 27), .ref (a 28), .ref (a 29), .ref (a 30), .int 0, .ref (a 32), .ref (a 33), .ref (a 34), .int 0, .ref (a 36), .ref (a 37), .int 0, .int 0, .ref (a 40), .ref (a 41), .int 0, .ref (a 43), .ref (a 44)])), ((a 32), .inl (k 2, 24, .inl (fun _ => 0))), ((a 36), .inl (k 1, 4, .inl (fun _ => 0))), ((a 37), .inl (k 1, 4, .inl (fun _ => 0))), ((a 43), .inl (k 2, 2, .inl (fun _ => 0))), ((a 44), .inl (k 1, 70, .inl (upd f_39 (Int32.toNatClampNeg 37) 0)))] := hD
      generalize (upd f_39 (Int32.toNatClampNeg 37) 0) = f_40 at hP hD
      refine lv_iconst (v := 0) hx hb dX8_keep_53 (by decide) ?_
      refine lv_istore_n (lv' := [(3, .int 0), (2, .int 35), (0, .ref (a 0)), (1, .int 1)]) hx hb dX8_keep_54 rfl hl (by decide) rfl (fun ls hl => ?_)
      refine lv_iload_n hx hb dX8_keep_55 rfl (lv_at hl 0 rfl) ?_
      refine lv_bipush (v := 24) hx hb dX8_keep_56 (by decide) ?_
      refine lv_icmp_ge (tgt := 91) hx hb dX8_keep_58 (by decide) (fun h => absurd h (by decide)) (fun _ => ?_)
      refine lv_aload_n hx hb dX8_keep_61 rfl (lv_at hl 2 rfl) ?_
      refine va_get (D := D) (ci := 8) (v := .ref (a 44)) (C := RX8) (T := TX8) (N := 44) hx hb hts inX8 hown hK hP 0 rfl rfl 43 (by decide) (hts _ tw_1016) (fun _ h9 => h9) rfl dX8_keep_62 ?_
      refine lv_iload_n hx hb dX8_keep_65 rfl (lv_at hl 1 rfl) ?_
      refine lv_iconst (v := 3) hx hb dX8_keep_66 (by decide) ?_
      refine lv_iadd hx hb dX8_keep_67 ?_
      refine lv_ti (y := 38) (by decide) ?_
      refine lv_iload_n hx hb dX8_keep_68 rfl (lv_at hl 0 rfl) ?_
      refine lv_iadd hx hb dX8_keep_69 ?_
      refine lv_ti (y := 38) (by decide) ?_
      refine lv_aload_n hx hb dX8_keep_70 rfl (lv_at hl 2 rfl) ?_
      refine va_get (D := D) (ci := 8) (v := .ref (a 32)) (C := RX8) (T := TX8) (N := 44) hx hb hts inX8 hown hK hP 0 rfl rfl 31 (by decide) (hts _ tw_1004) (fun _ h9 => h9) rfl dX8_keep_71 ?_
      refine lv_iload_n hx hb dX8_keep_74 rfl (lv_at hl 0 rfl) ?_
      refine va_zald hx hb hK hP 1 2 rfl rfl (by unfold vp_in; decide) dX8_keep_75 ?_
      refine lv_ti (y := 0) (by rfl) ?_
      refine lv_if_eq (tgt := 83) hx hb dX8_keep_76 (by decide) (fun _ => ?_) (fun h => absurd (by decide) h)
      refine lv_iconst (v := 0) hx hb dX8_keep_83 (by decide) ?_
      refine va_iast hx hb hK hP hD hS 5 1 rfl rfl (by unfold vp_in; decide) dX8_keep_84 (fun H locs hP hD hS => ?_)
      have hP : va_P D classes [((a 0), .inr (8, [.ref (a 1), .ref (a 2), .ref (a 3), .ref (a 4), .ref (a 5), .int 0, .int (-1), .int 0, .long 0, .int 0, .int 0, .int 0, .int 0, .ref (a 14), .ref (a 15), .ref (a 16), .int 0, .ref (a 18), .ref (a 19), .ref (a 20), .ref (a 21), .ref (a 22), .ref (a 23), .int 0, .ref (a 25), .ref (a 26), .ref (a 27), .ref (a 28), .ref (a 29), .ref (a 30), .int 0, .ref (a 32), .ref (a 33), .ref (a 34), .int 0, .ref (a 36), .ref (a 37), .int 0, .int 0, .ref (a 40), .ref (a 41), .int 0, .ref (a 43), .ref (a 44)])), ((a 32), .inl (k 2, 24, .inl (fun _ => 0))), ((a 36), .inl (k 1, 4, .inl (fun _ => 0))), ((a 37), .inl (k 1, 4, .inl (fun _ => 0))), ((a 43), .inl (k 2, 2, .inl (fun _ => 0))), ((a 44), .inl (k 1, 70, .inl (upd f_40 (Int32.toNatClampNeg 38) 0)))] H := hP
      have hD : va_D A [((a 0), .inr (8, [.ref (a 1), .ref (a 2), .ref (a 3), .ref (a 4), .ref (a 5), .int 0, .int (-1), .int 0, .long 0, .int 0, .int 0, .int 0, .int 0, .ref (a 14), .ref (a 15), .ref (a 16), .int 0, .ref (a 18), .ref (a 19), .ref (a 20), .ref (a 21), .ref (a 22), .ref (a 23), .int 0, .ref (a 25), .ref (a 26), .ref (a 27), .ref (a 28), .ref (a 29), .ref (a 30), .int 0, .ref (a 32), .ref (a 33), .ref (a 34), .int 0, .ref (a 36), .ref (a 37), .int 0, .int 0, .ref (a 40), .ref (a 41), .int 0, .ref (a 43), .ref (a 44)])), ((a 32), .inl (k 2, 24, .inl (fun _ => 0))), ((a 36), .inl (k 1, 4, .inl (fun _ => 0))), ((a 37), .inl (k 1, 4, .inl (fun _ => 0))), ((a 43), .inl (k 2, 2, .inl (fun _ => 0))), ((a 44), .inl (k 1, 70, .inl (upd f_40 (Int32.toNatClampNeg 38) 0)))] := hD
      generalize (upd f_40 (Int32.toNatClampNeg 38) 0) = f_41 at hP hD
      refine lv_iinc (v := 1) (lv' := [(3, .int 1), (2, .int 35), (0, .ref (a 0)), (1, .int 1)]) hx hb dX8_keep_85 hl (k := 0) rfl (by decide) (by decide) rfl (fun ls hl => ?_)
      refine lv_goto (tgt := 55) hx hb dX8_keep_88 (by decide) ?_
      refine lv_iload_n hx hb dX8_keep_55 rfl (lv_at hl 0 rfl) ?_
      refine lv_bipush (v := 24) hx hb dX8_keep_56 (by decide) ?_
      refine lv_icmp_ge (tgt := 91) hx hb dX8_keep_58 (by decide) (fun h => absurd h (by decide)) (fun _ => ?_)
      refine lv_aload_n hx hb dX8_keep_61 rfl (lv_at hl 2 rfl) ?_
      refine va_get (D := D) (ci := 8) (v := .ref (a 44)) (C := RX8) (T := TX8) (N := 44) hx hb hts inX8 hown hK hP 0 rfl rfl 43 (by decide) (hts _ tw_1016) (fun _ h9 => h9) rfl dX8_keep_62 ?_
      refine lv_iload_n hx hb dX8_keep_65 rfl (lv_at hl 1 rfl) ?_
      refine lv_iconst (v := 3) hx hb dX8_keep_66 (by decide) ?_
      refine lv_iadd hx hb dX8_keep_67 ?_
      refine lv_ti (y := 38) (by decide) ?_
      refine lv_iload_n hx hb dX8_keep_68 rfl (lv_at hl 0 rfl) ?_
      refine lv_iadd hx hb dX8_keep_69 ?_
      refine lv_ti (y := 39) (by decide) ?_
      refine lv_aload_n hx hb dX8_keep_70 rfl (lv_at hl 2 rfl) ?_
      refine va_get (D := D) (ci := 8) (v := .ref (a 32)) (C := RX8) (T := TX8) (N := 44) hx hb hts inX8 hown hK hP 0 rfl rfl 31 (by decide) (hts _ tw_1004) (fun _ h9 => h9) rfl dX8_keep_71 ?_
      refine lv_iload_n hx hb dX8_keep_74 rfl (lv_at hl 0 rfl) ?_
      refine va_zald hx hb hK hP 1 2 rfl rfl (by unfold vp_in; decide) dX8_keep_75 ?_
      refine lv_ti (y := 0) (by rfl) ?_
      refine lv_if_eq (tgt := 83) hx hb dX8_keep_76 (by decide) (fun _ => ?_) (fun h => absurd (by decide) h)
      refine lv_iconst (v := 0) hx hb dX8_keep_83 (by decide) ?_
      refine va_iast hx hb hK hP hD hS 5 1 rfl rfl (by unfold vp_in; decide) dX8_keep_84 (fun H locs hP hD hS => ?_)
      have hP : va_P D classes [((a 0), .inr (8, [.ref (a 1), .ref (a 2), .ref (a 3), .ref (a 4), .ref (a 5), .int 0, .int (-1), .int 0, .long 0, .int 0, .int 0, .int 0, .int 0, .ref (a 14), .ref (a 15), .ref (a 16), .int 0, .ref (a 18), .ref (a 19), .ref (a 20), .ref (a 21), .ref (a 22), .ref (a 23), .int 0, .ref (a 25), .ref (a 26), .ref (a 27), .ref (a 28), .ref (a 29), .ref (a 30), .int 0, .ref (a 32), .ref (a 33), .ref (a 34), .int 0, .ref (a 36), .ref (a 37), .int 0, .int 0, .ref (a 40), .ref (a 41), .int 0, .ref (a 43), .ref (a 44)])), ((a 32), .inl (k 2, 24, .inl (fun _ => 0))), ((a 36), .inl (k 1, 4, .inl (fun _ => 0))), ((a 37), .inl (k 1, 4, .inl (fun _ => 0))), ((a 43), .inl (k 2, 2, .inl (fun _ => 0))), ((a 44), .inl (k 1, 70, .inl (upd f_41 (Int32.toNatClampNeg 39) 0)))] H := hP
      have hD : va_D A [((a 0), .inr (8, [.ref (a 1), .ref (a 2), .ref (a 3), .ref (a 4), .ref (a 5), .int 0, .int (-1), .int 0, .long 0, .int 0, .int 0, .int 0, .int 0, .ref (a 14), .ref (a 15), .ref (a 16), .int 0, .ref (a 18), .ref (a 19), .ref (a 20), .ref (a 21), .ref (a 22), .ref (a 23), .int 0, .ref (a 25), .ref (a 26), .ref (a 27), .ref (a 28), .ref (a 29), .ref (a 30), .int 0, .ref (a 32), .ref (a 33), .ref (a 34), .int 0, .ref (a 36), .ref (a 37), .int 0, .int 0, .ref (a 40), .ref (a 41), .int 0, .ref (a 43), .ref (a 44)])), ((a 32), .inl (k 2, 24, .inl (fun _ => 0))), ((a 36), .inl (k 1, 4, .inl (fun _ => 0))), ((a 37), .inl (k 1, 4, .inl (fun _ => 0))), ((a 43), .inl (k 2, 2, .inl (fun _ => 0))), ((a 44), .inl (k 1, 70, .inl (upd f_41 (Int32.toNatClampNeg 39) 0)))] := hD
      generalize (upd f_41 (Int32.toNatClampNeg 39) 0) = f_42 at hP hD
      refine lv_iinc (v := 2) (lv' := [(3, .int 2), (2, .int 35), (0, .ref (a 0)), (1, .int 1)]) hx hb dX8_keep_85 hl (k := 0) rfl (by decide) (by decide) rfl (fun ls hl => ?_)
      refine lv_goto (tgt := 55) hx hb dX8_keep_88 (by decide) ?_
      refine lv_iload_n hx hb dX8_keep_55 rfl (lv_at hl 0 rfl) ?_
      refine lv_bipush (v := 24) hx hb dX8_keep_56 (by decide) ?_
      refine lv_icmp_ge (tgt := 91) hx hb dX8_keep_58 (by decide) (fun h => absurd h (by decide)) (fun _ => ?_)
      refine lv_aload_n hx hb dX8_keep_61 rfl (lv_at hl 2 rfl) ?_
      refine va_get (D := D) (ci := 8) (v := .ref (a 44)) (C := RX8) (T := TX8) (N := 44) hx hb hts inX8 hown hK hP 0 rfl rfl 43 (by decide) (hts _ tw_1016) (fun _ h9 => h9) rfl dX8_keep_62 ?_
      refine lv_iload_n hx hb dX8_keep_65 rfl (lv_at hl 1 rfl) ?_
      refine lv_iconst (v := 3) hx hb dX8_keep_66 (by decide) ?_
      refine lv_iadd hx hb dX8_keep_67 ?_
      refine lv_ti (y := 38) (by decide) ?_
      refine lv_iload_n hx hb dX8_keep_68 rfl (lv_at hl 0 rfl) ?_
      refine lv_iadd hx hb dX8_keep_69 ?_
      refine lv_ti (y := 40) (by decide) ?_
      refine lv_aload_n hx hb dX8_keep_70 rfl (lv_at hl 2 rfl) ?_
      refine va_get (D := D) (ci := 8) (v := .ref (a 32)) (C := RX8) (T := TX8) (N := 44) hx hb hts inX8 hown hK hP 0 rfl rfl 31 (by decide) (hts _ tw_1004) (fun _ h9 => h9) rfl dX8_keep_71 ?_
      refine lv_iload_n hx hb dX8_keep_74 rfl (lv_at hl 0 rfl) ?_
      refine va_zald hx hb hK hP 1 2 rfl rfl (by unfold vp_in; decide) dX8_keep_75 ?_
      refine lv_ti (y := 0) (by rfl) ?_
      refine lv_if_eq (tgt := 83) hx hb dX8_keep_76 (by decide) (fun _ => ?_) (fun h => absurd (by decide) h)
      refine lv_iconst (v := 0) hx hb dX8_keep_83 (by decide) ?_
      refine va_iast hx hb hK hP hD hS 5 1 rfl rfl (by unfold vp_in; decide) dX8_keep_84 (fun H locs hP hD hS => ?_)
      have hP : va_P D classes [((a 0), .inr (8, [.ref (a 1), .ref (a 2), .ref (a 3), .ref (a 4), .ref (a 5), .int 0, .int (-1), .int 0, .long 0, .int 0, .int 0, .int 0, .int 0, .ref (a 14), .ref (a 15), .ref (a 16), .int 0, .ref (a 18), .ref (a 19), .ref (a 20), .ref (a 21), .ref (a 22), .ref (a 23), .int 0, .ref (a 25), .ref (a 26), .ref (a 27), .ref (a 28), .ref (a 29), .ref (a 30), .int 0, .ref (a 32), .ref (a 33), .ref (a 34), .int 0, .ref (a 36), .ref (a 37), .int 0, .int 0, .ref (a 40), .ref (a 41), .int 0, .ref (a 43), .ref (a 44)])), ((a 32), .inl (k 2, 24, .inl (fun _ => 0))), ((a 36), .inl (k 1, 4, .inl (fun _ => 0))), ((a 37), .inl (k 1, 4, .inl (fun _ => 0))), ((a 43), .inl (k 2, 2, .inl (fun _ => 0))), ((a 44), .inl (k 1, 70, .inl (upd f_42 (Int32.toNatClampNeg 40) 0)))] H := hP
      have hD : va_D A [((a 0), .inr (8, [.ref (a 1), .ref (a 2), .ref (a 3), .ref (a 4), .ref (a 5), .int 0, .int (-1), .int 0, .long 0, .int 0, .int 0, .int 0, .int 0, .ref (a 14), .ref (a 15), .ref (a 16), .int 0, .ref (a 18), .ref (a 19), .ref (a 20), .ref (a 21), .ref (a 22), .ref (a 23), .int 0, .ref (a 25), .ref (a 26), .ref (a 27), .ref (a 28), .ref (a 29), .ref (a 30), .int 0, .ref (a 32), .ref (a 33), .ref (a 34), .int 0, .ref (a 36), .ref (a 37), .int 0, .int 0, .ref (a 40), .ref (a 41), .int 0, .ref (a 43), .ref (a 44)])), ((a 32), .inl (k 2, 24, .inl (fun _ => 0))), ((a 36), .inl (k 1, 4, .inl (fun _ => 0))), ((a 37), .inl (k 1, 4, .inl (fun _ => 0))), ((a 43), .inl (k 2, 2, .inl (fun _ => 0))), ((a 44), .inl (k 1, 70, .inl (upd f_42 (Int32.toNatClampNeg 40) 0)))] := hD
      generalize (upd f_42 (Int32.toNatClampNeg 40) 0) = f_43 at hP hD
      refine lv_iinc (v := 3) (lv' := [(3, .int 3), (2, .int 35), (0, .ref (a 0)), (1, .int 1)]) hx hb dX8_keep_85 hl (k := 0) rfl (by decide) (by decide) rfl (fun ls hl => ?_)
      refine lv_goto (tgt := 55) hx hb dX8_keep_88 (by decide) ?_
      refine lv_iload_n hx hb dX8_keep_55 rfl (lv_at hl 0 rfl) ?_
      refine lv_bipush (v := 24) hx hb dX8_keep_56 (by decide) ?_
      refine lv_icmp_ge (tgt := 91) hx hb dX8_keep_58 (by decide) (fun h => absurd h (by decide)) (fun _ => ?_)
      refine lv_aload_n hx hb dX8_keep_61 rfl (lv_at hl 2 rfl) ?_
      refine va_get (D := D) (ci := 8) (v := .ref (a 44)) (C := RX8) (T := TX8) (N := 44) hx hb hts inX8 hown hK hP 0 rfl rfl 43 (by decide) (hts _ tw_1016) (fun _ h9 => h9) rfl dX8_keep_62 ?_
      refine lv_iload_n hx hb dX8_keep_65 rfl (lv_at hl 1 rfl) ?_
      refine lv_iconst (v := 3) hx hb dX8_keep_66 (by decide) ?_
      refine lv_iadd hx hb dX8_keep_67 ?_
      refine lv_ti (y := 38) (by decide) ?_
      refine lv_iload_n hx hb dX8_keep_68 rfl (lv_at hl 0 rfl) ?_
      refine lv_iadd hx hb dX8_keep_69 ?_
      refine lv_ti (y := 41) (by decide) ?_
      refine lv_aload_n hx hb dX8_keep_70 rfl (lv_at hl 2 rfl) ?_
      refine va_get (D := D) (ci := 8) (v := .ref (a 32)) (C := RX8) (T := TX8) (N := 44) hx hb hts inX8 hown hK hP 0 rfl rfl 31 (by decide) (hts _ tw_1004) (fun _ h9 => h9) rfl dX8_keep_71 ?_
      refine lv_iload_n hx hb dX8_keep_74 rfl (lv_at hl 0 rfl) ?_
      refine va_zald hx hb hK hP 1 2 rfl rfl (by unfold vp_in; decide) dX8_keep_75 ?_
      refine lv_ti (y := 0) (by rfl) ?_
      refine lv_if_eq (tgt := 83) hx hb dX8_keep_76 (by decide) (fun _ => ?_) (fun h => absurd (by decide) h)
      refine lv_iconst (v := 0) hx hb dX8_keep_83 (by decide) ?_
      refine va_iast hx hb hK hP hD hS 5 1 rfl rfl (by unfold vp_in; decide) dX8_keep_84 (fun H locs hP hD hS => ?_)
      have hP : va_P D classes [((a 0), .inr (8, [.ref (a 1), .ref (a 2), .ref (a 3), .ref (a 4), .ref (a 5), .int 0, .int (-1), .int 0, .long 0, .int 0, .int 0, .int 0, .int 0, .ref (a 14), .ref (a 15), .ref (a 16), .int 0, .ref (a 18), .ref (a 19), .ref (a 20), .ref (a 21), .ref (a 22), .ref (a 23), .int 0, .ref (a 25), .ref (a 26), .ref (a 27), .ref (a 28), .ref (a 29), .ref (a 30), .int 0, .ref (a 32), .ref (a 33), .ref (a 34), .int 0, .ref (a 36), .ref (a 37), .int 0, .int 0, .ref (a 40), .ref (a 41), .int 0, .ref (a 43), .ref (a 44)])), ((a 32), .inl (k 2, 24, .inl (fun _ => 0))), ((a 36), .inl (k 1, 4, .inl (fun _ => 0))), ((a 37), .inl (k 1, 4, .inl (fun _ => 0))), ((a 43), .inl (k 2, 2, .inl (fun _ => 0))), ((a 44), .inl (k 1, 70, .inl (upd f_43 (Int32.toNatClampNeg 41) 0)))] H := hP
      have hD : va_D A [((a 0), .inr (8, [.ref (a 1), .ref (a 2), .ref (a 3), .ref (a 4), .ref (a 5), .int 0, .int (-1), .int 0, .long 0, .int 0, .int 0, .int 0, .int 0, .ref (a 14), .ref (a 15), .ref (a 16), .int 0, .ref (a 18), .ref (a 19), .ref (a 20), .ref (a 21), .ref (a 22), .ref (a 23), .int 0, .ref (a 25), .ref (a 26), .ref (a 27), .ref (a 28), .ref (a 29), .ref (a 30), .int 0, .ref (a 32), .ref (a 33), .ref (a 34), .int 0, .ref (a 36), .ref (a 37), .int 0, .int 0, .ref (a 40), .ref (a 41), .int 0, .ref (a 43), .ref (a 44)])), ((a 32), .inl (k 2, 24, .inl (fun _ => 0))), ((a 36), .inl (k 1, 4, .inl (fun _ => 0))), ((a 37), .inl (k 1, 4, .inl (fun _ => 0))), ((a 43), .inl (k 2, 2, .inl (fun _ => 0))), ((a 44), .inl (k 1, 70, .inl (upd f_43 (Int32.toNatClampNeg 41) 0)))] := hD
      generalize (upd f_43 (Int32.toNatClampNeg 41) 0) = f_44 at hP hD
      refine lv_iinc (v := 4) (lv' := [(3, .int 4), (2, .int 35), (0, .ref (a 0)), (1, .int 1)]) hx hb dX8_keep_85 hl (k := 0) rfl (by decide) (by decide) rfl (fun ls hl => ?_)
      refine lv_goto (tgt := 55) hx hb dX8_keep_88 (by decide) ?_
      refine lv_iload_n hx hb dX8_keep_55 rfl (lv_at hl 0 rfl) ?_
      refine lv_bipush (v := 24) hx hb dX8_keep_56 (by decide) ?_
      refine lv_icmp_ge (tgt := 91) hx hb dX8_keep_58 (by decide) (fun h => absurd h (by decide)) (fun _ => ?_)
      refine lv_aload_n hx hb dX8_keep_61 rfl (lv_at hl 2 rfl) ?_
      refine va_get (D := D) (ci := 8) (v := .ref (a 44)) (C := RX8) (T := TX8) (N := 44) hx hb hts inX8 hown hK hP 0 rfl rfl 43 (by decide) (hts _ tw_1016) (fun _ h9 => h9) rfl dX8_keep_62 ?_
      refine lv_iload_n hx hb dX8_keep_65 rfl (lv_at hl 1 rfl) ?_
      refine lv_iconst (v := 3) hx hb dX8_keep_66 (by decide) ?_
      refine lv_iadd hx hb dX8_keep_67 ?_
      refine lv_ti (y := 38) (by decide) ?_
      refine lv_iload_n hx hb dX8_keep_68 rfl (lv_at hl 0 rfl) ?_
      refine lv_iadd hx hb dX8_keep_69 ?_
      refine lv_ti (y := 42) (by decide) ?_
      refine lv_aload_n hx hb dX8_keep_70 rfl (lv_at hl 2 rfl) ?_
      refine va_get (D := D) (ci := 8) (v := .ref (a 32)) (C := RX8) (T := TX8) (N := 44) hx hb hts inX8 hown hK hP 0 rfl rfl 31 (by decide) (hts _ tw_1004) (fun _ h9 => h9) rfl dX8_keep_71 ?_
      refine lv_iload_n hx hb dX8_keep_74 rfl (lv_at hl 0 rfl) ?_
      refine va_zald hx hb hK hP 1 2 rfl rfl (by unfold vp_in; decide) dX8_keep_75 ?_
      refine lv_ti (y := 0) (by rfl) ?_
      refine lv_if_eq (tgt := 83) hx hb dX8_keep_76 (by decide) (fun _ => ?_) (fun h => absurd (by decide) h)
      refine lv_iconst (v := 0) hx hb dX8_keep_83 (by decide) ?_
      refine va_iast hx hb hK hP hD hS 5 1 rfl rfl (by unfold vp_in; decide) dX8_keep_84 (fun H locs hP hD hS => ?_)
      have hP : va_P D classes [((a 0), .inr (8, [.ref (a 1), .ref (a 2), .ref (a 3), .ref (a 4), .ref (a 5), .int 0, .int (-1), .int 0, .long 0, .int 0, .int 0, .int 0, .int 0, .ref (a 14), .ref (a 15), .ref (a 16), .int 0, .ref (a 18), .ref (a 19), .ref (a 20), .ref (a 21), .ref (a 22), .ref (a 23), .int 0, .ref (a 25), .ref (a 26), .ref (a 27), .ref (a 28), .ref (a 29), .ref (a 30), .int 0, .ref (a 32), .ref (a 33), .ref (a 34), .int 0, .ref (a 36), .ref (a 37), .int 0, .int 0, .ref (a 40), .ref (a 41), .int 0, .ref (a 43), .ref (a 44)])), ((a 32), .inl (k 2, 24, .inl (fun _ => 0))), ((a 36), .inl (k 1, 4, .inl (fun _ => 0))), ((a 37), .inl (k 1, 4, .inl (fun _ => 0))), ((a 43), .inl (k 2, 2, .inl (fun _ => 0))), ((a 44), .inl (k 1, 70, .inl (upd f_44 (Int32.toNatClampNeg 42) 0)))] H := hP
      have hD : va_D A [((a 0), .inr (8, [.ref (a 1), .ref (a 2), .ref (a 3), .ref (a 4), .ref (a 5), .int 0, .int (-1), .int 0, .long 0, .int 0, .int 0, .int 0, .int 0, .ref (a 14), .ref (a 15), .ref (a 16), .int 0, .ref (a 18), .ref (a 19), .ref (a 20), .ref (a 21), .ref (a 22), .ref (a 23), .int 0, .ref (a 25), .ref (a 26), .ref (a 27), .ref (a 28), .ref (a 29), .ref (a 30), .int 0, .ref (a 32), .ref (a 33), .ref (a 34), .int 0, .ref (a 36), .ref (a 37), .int 0, .int 0, .ref (a 40), .ref (a 41), .int 0, .ref (a 43), .ref (a 44)])), ((a 32), .inl (k 2, 24, .inl (fun _ => 0))), ((a 36), .inl (k 1, 4, .inl (fun _ => 0))), ((a 37), .inl (k 1, 4, .inl (fun _ => 0))), ((a 43), .inl (k 2, 2, .inl (fun _ => 0))), ((a 44), .inl (k 1, 70, .inl (upd f_44 (Int32.toNatClampNeg 42) 0)))] := hD
      generalize (upd f_44 (Int32.toNatClampNeg 42) 0) = f_45 at hP hD
      refine lv_iinc (v := 5) (lv' := [(3, .int 5), (2, .int 35), (0, .ref (a 0)), (1, .int 1)]) hx hb dX8_keep_85 hl (k := 0) rfl (by decide) (by decide) rfl (fun ls hl => ?_)
      refine lv_goto (tgt := 55) hx hb dX8_keep_88 (by decide) ?_
      refine lv_iload_n hx hb dX8_keep_55 rfl (lv_at hl 0 rfl) ?_
      refine lv_bipush (v := 24) hx hb dX8_keep_56 (by decide) ?_
      refine lv_icmp_ge (tgt := 91) hx hb dX8_keep_58 (by decide) (fun h => absurd h (by decide)) (fun _ => ?_)
      refine lv_aload_n hx hb dX8_keep_61 rfl (lv_at hl 2 rfl) ?_
      refine va_get (D := D) (ci := 8) (v := .ref (a 44)) (C := RX8) (T := TX8) (N := 44) hx hb hts inX8 hown hK hP 0 rfl rfl 43 (by decide) (hts _ tw_1016) (fun _ h9 => h9) rfl dX8_keep_62 ?_
      refine lv_iload_n hx hb dX8_keep_65 rfl (lv_at hl 1 rfl) ?_
      refine lv_iconst (v := 3) hx hb dX8_keep_66 (by decide) ?_
      refine lv_iadd hx hb dX8_keep_67 ?_
      refine lv_ti (y := 38) (by decide) ?_
      refine lv_iload_n hx hb dX8_keep_68 rfl (lv_at hl 0 rfl) ?_
      refine lv_iadd hx hb dX8_keep_69 ?_
      refine lv_ti (y := 43) (by decide) ?_
      refine lv_aload_n hx hb dX8_keep_70 rfl (lv_at hl 2 rfl) ?_
      refine va_get (D := D) (ci := 8) (v := .ref (a 32)) (C := RX8) (T := TX8) (N := 44) hx hb hts inX8 hown hK hP 0 rfl rfl 31 (by decide) (hts _ tw_1004) (fun _ h9 => h9) rfl dX8_keep_71 ?_
      refine lv_iload_n hx hb dX8_keep_74 rfl (lv_at hl 0 rfl) ?_
      refine va_zald hx hb hK hP 1 2 rfl rfl (by unfold vp_in; decide) dX8_keep_75 ?_
      refine lv_ti (y := 0) (by rfl) ?_
      refine lv_if_eq (tgt := 83) hx hb dX8_keep_76 (by decide) (fun _ => ?_) (fun h => absurd (by decide) h)
      refine lv_iconst (v := 0) hx hb dX8_keep_83 (by decide) ?_
      refine va_iast hx hb hK hP hD hS 5 1 rfl rfl (by unfold vp_in; decide) dX8_keep_84 (fun H locs hP hD hS => ?_)
      have hP : va_P D classes [((a 0), .inr (8, [.ref (a 1), .ref (a 2), .ref (a 3), .ref (a 4), .ref (a 5), .int 0, .int (-1), .int 0, .long 0, .int 0, .int 0, .int 0, .int 0, .ref (a 14), .ref (a 15), .ref (a 16), .int 0, .ref (a 18), .ref (a 19), .ref (a 20), .ref (a 21), .ref (a 22), .ref (a 23), .int 0, .ref (a 25), .ref (a 26), .ref (a 27), .ref (a 28), .ref (a 29), .ref (a 30), .int 0, .ref (a 32), .ref (a 33), .ref (a 34), .int 0, .ref (a 36), .ref (a 37), .int 0, .int 0, .ref (a 40), .ref (a 41), .int 0, .ref (a 43), .ref (a 44)])), ((a 32), .inl (k 2, 24, .inl (fun _ => 0))), ((a 36), .inl (k 1, 4, .inl (fun _ => 0))), ((a 37), .inl (k 1, 4, .inl (fun _ => 0))), ((a 43), .inl (k 2, 2, .inl (fun _ => 0))), ((a 44), .inl (k 1, 70, .inl (upd f_45 (Int32.toNatClampNeg 43) 0)))] H := hP
      have hD : va_D A [((a 0), .inr (8, [.ref (a 1), .ref (a 2), .ref (a 3), .ref (a 4), .ref (a 5), .int 0, .int (-1), .int 0, .long 0, .int 0, .int 0, .int 0, .int 0, .ref (a 14), .ref (a 15), .ref (a 16), .int 0, .ref (a 18), .ref (a 19), .ref (a 20), .ref (a 21), .ref (a 22), .ref (a 23), .int 0, .ref (a 25), .ref (a 26), .ref (a 27), .ref (a 28), .ref (a 29), .ref (a 30), .int 0, .ref (a 32), .ref (a 33), .ref (a 34), .int 0, .ref (a 36), .ref (a 37), .int 0, .int 0, .ref (a 40), .ref (a 41), .int 0, .ref (a 43), .ref (a 44)])), ((a 32), .inl (k 2, 24, .inl (fun _ => 0))), ((a 36), .inl (k 1, 4, .inl (fun _ => 0))), ((a 37), .inl (k 1, 4, .inl (fun _ => 0))), ((a 43), .inl (k 2, 2, .inl (fun _ => 0))), ((a 44), .inl (k 1, 70, .inl (upd f_45 (Int32.toNatClampNeg 43) 0)))] := hD
      generalize (upd f_45 (Int32.toNatClampNeg 43) 0) = f_46 at hP hD
      refine lv_iinc (v := 6) (lv' := [(3, .int 6), (2, .int 35), (0, .ref (a 0)), (1, .int 1)]) hx hb dX8_keep_85 hl (k := 0) rfl (by decide) (by decide) rfl (fun ls hl => ?_)
      refine lv_goto (tgt := 55) hx hb dX8_keep_88 (by decide) ?_
      refine lv_iload_n hx hb dX8_keep_55 rfl (lv_at hl 0 rfl) ?_
      refine lv_bipush (v := 24) hx hb dX8_keep_56 (by decide) ?_
      refine lv_icmp_ge (tgt := 91) hx hb dX8_keep_58 (by decide) (fun h => absurd h (by decide)) (fun _ => ?_)
      refine lv_aload_n hx hb dX8_keep_61 rfl (lv_at hl 2 rfl) ?_
      refine va_get (D := D) (ci := 8) (v := .ref (a 44)) (C := RX8) (T := TX8) (N := 44) hx hb hts inX8 hown hK hP 0 rfl rfl 43 (by decide) (hts _ tw_1016) (fun _ h9 => h9) rfl dX8_keep_62 ?_
      refine lv_iload_n hx hb dX8_keep_65 rfl (lv_at hl 1 rfl) ?_
      refine lv_iconst (v := 3) hx hb dX8_keep_66 (by decide) ?_
      refine lv_iadd hx hb dX8_keep_67 ?_
      refine lv_ti (y := 38) (by decide) ?_
      refine lv_iload_n hx hb dX8_keep_68 rfl (lv_at hl 0 rfl) ?_
      refine lv_iadd hx hb dX8_keep_69 ?_
      refine lv_ti (y := 44) (by decide) ?_
      refine lv_aload_n hx hb dX8_keep_70 rfl (lv_at hl 2 rfl) ?_
      refine va_get (D := D) (ci := 8) (v := .ref (a 32)) (C := RX8) (T := TX8) (N := 44) hx hb hts inX8 hown hK hP 0 rfl rfl 31 (by decide) (hts _ tw_1004) (fun _ h9 => h9) rfl dX8_keep_71 ?_
      refine lv_iload_n hx hb dX8_keep_74 rfl (lv_at hl 0 rfl) ?_
      refine va_zald hx hb hK hP 1 2 rfl rfl (by unfold vp_in; decide) dX8_keep_75 ?_
      refine lv_ti (y := 0) (by rfl) ?_
      refine lv_if_eq (tgt := 83) hx hb dX8_keep_76 (by decide) (fun _ => ?_) (fun h => absurd (by decide) h)
      refine lv_iconst (v := 0) hx hb dX8_keep_83 (by decide) ?_
      refine va_iast hx hb hK hP hD hS 5 1 rfl rfl (by unfold vp_in; decide) dX8_keep_84 (fun H locs hP hD hS => ?_)
      have hP : va_P D classes [((a 0), .inr (8, [.ref (a 1), .ref (a 2), .ref (a 3), .ref (a 4), .ref (a 5), .int 0, .int (-1), .int 0, .long 0, .int 0, .int 0, .int 0, .int 0, .ref (a 14), .ref (a 15), .ref (a 16), .int 0, .ref (a 18), .ref (a 19), .ref (a 20), .ref (a 21), .ref (a 22), .ref (a 23), .int 0, .ref (a 25), .ref (a 26), .ref (a 27), .ref (a 28), .ref (a 29), .ref (a 30), .int 0, .ref (a 32), .ref (a 33), .ref (a 34), .int 0, .ref (a 36), .ref (a 37), .int 0, .int 0, .ref (a 40), .ref (a 41), .int 0, .ref (a 43), .ref (a 44)])), ((a 32), .inl (k 2, 24, .inl (fun _ => 0))), ((a 36), .inl (k 1, 4, .inl (fun _ => 0))), ((a 37), .inl (k 1, 4, .inl (fun _ => 0))), ((a 43), .inl (k 2, 2, .inl (fun _ => 0))), ((a 44), .inl (k 1, 70, .inl (upd f_46 (Int32.toNatClampNeg 44) 0)))] H := hP
      have hD : va_D A [((a 0), .inr (8, [.ref (a 1), .ref (a 2), .ref (a 3), .ref (a 4), .ref (a 5), .int 0, .int (-1), .int 0, .long 0, .int 0, .int 0, .int 0, .int 0, .ref (a 14), .ref (a 15), .ref (a 16), .int 0, .ref (a 18), .ref (a 19), .ref (a 20), .ref (a 21), .ref (a 22), .ref (a 23), .int 0, .ref (a 25), .ref (a 26), .ref (a 27), .ref (a 28), .ref (a 29), .ref (a 30), .int 0, .ref (a 32), .ref (a 33), .ref (a 34), .int 0, .ref (a 36), .ref (a 37), .int 0, .int 0, .ref (a 40), .ref (a 41), .int 0, .ref (a 43), .ref (a 44)])), ((a 32), .inl (k 2, 24, .inl (fun _ => 0))), ((a 36), .inl (k 1, 4, .inl (fun _ => 0))), ((a 37), .inl (k 1, 4, .inl (fun _ => 0))), ((a 43), .inl (k 2, 2, .inl (fun _ => 0))), ((a 44), .inl (k 1, 70, .inl (upd f_46 (Int32.toNatClampNeg 44) 0)))] := hD
      generalize (upd f_46 (Int32.toNatClampNeg 44) 0) = f_47 at hP hD
      refine lv_iinc (v := 7) (lv' := [(3, .int 7), (2, .int 35), (0, .ref (a 0)), (1, .int 1)]) hx hb dX8_keep_85 hl (k := 0) rfl (by decide) (by decide) rfl (fun ls hl => ?_)
      refine lv_goto (tgt := 55) hx hb dX8_keep_88 (by decide) ?_
      refine lv_iload_n hx hb dX8_keep_55 rfl (lv_at hl 0 rfl) ?_
      refine lv_bipush (v := 24) hx hb dX8_keep_56 (by decide) ?_
      refine lv_icmp_ge (tgt := 91) hx hb dX8_keep_58 (by decide) (fun h => absurd h (by decide)) (fun _ => ?_)
      refine lv_aload_n hx hb dX8_keep_61 rfl (lv_at hl 2 rfl) ?_
      refine va_get (D := D) (ci := 8) (v := .ref (a 44)) (C := RX8) (T := TX8) (N := 44) hx hb hts inX8 hown hK hP 0 rfl rfl 43 (by decide) (hts _ tw_1016) (fun _ h9 => h9) rfl dX8_keep_62 ?_
      refine lv_iload_n hx hb dX8_keep_65 rfl (lv_at hl 1 rfl) ?_
      refine lv_iconst (v := 3) hx hb dX8_keep_66 (by decide) ?_
      refine lv_iadd hx hb dX8_keep_67 ?_
      refine lv_ti (y := 38) (by decide) ?_
      refine lv_iload_n hx hb dX8_keep_68 rfl (lv_at hl 0 rfl) ?_
      refine lv_iadd hx hb dX8_keep_69 ?_
      refine lv_ti (y := 45) (by decide) ?_
      refine lv_aload_n hx hb dX8_keep_70 rfl (lv_at hl 2 rfl) ?_
      refine va_get (D := D) (ci := 8) (v := .ref (a 32)) (C := RX8) (T := TX8) (N := 44) hx hb hts inX8 hown hK hP 0 rfl rfl 31 (by decide) (hts _ tw_1004) (fun _ h9 => h9) rfl dX8_keep_71 ?_
      refine lv_iload_n hx hb dX8_keep_74 rfl (lv_at hl 0 rfl) ?_
      refine va_zald hx hb hK hP 1 2 rfl rfl (by unfold vp_in; decide) dX8_keep_75 ?_
      refine lv_ti (y := 0) (by rfl) ?_
      refine lv_if_eq (tgt := 83) hx hb dX8_keep_76 (by decide) (fun _ => ?_) (fun h => absurd (by decide) h)
      refine lv_iconst (v := 0) hx hb dX8_keep_83 (by decide) ?_
      refine va_iast hx hb hK hP hD hS 5 1 rfl rfl (by unfold vp_in; decide) dX8_keep_84 (fun H locs hP hD hS => ?_)
      have hP : va_P D classes [((a 0), .inr (8, [.ref (a 1), .ref (a 2), .ref (a 3), .ref (a 4), .ref (a 5), .int 0, .int (-1), .int 0, .long 0, .int 0, .int 0, .int 0, .int 0, .ref (a 14), .ref (a 15), .ref (a 16), .int 0, .ref (a 18), .ref (a 19), .ref (a 20), .ref (a 21), .ref (a 22), .ref (a 23), .int 0, .ref (a 25), .ref (a 26), .ref (a 27), .ref (a 28), .ref (a 29), .ref (a 30), .int 0, .ref (a 32), .ref (a 33), .ref (a 34), .int 0, .ref (a 36), .ref (a 37), .int 0, .int 0, .ref (a 40), .ref (a 41), .int 0, .ref (a 43), .ref (a 44)])), ((a 32), .inl (k 2, 24, .inl (fun _ => 0))), ((a 36), .inl (k 1, 4, .inl (fun _ => 0))), ((a 37), .inl (k 1, 4, .inl (fun _ => 0))), ((a 43), .inl (k 2, 2, .inl (fun _ => 0))), ((a 44), .inl (k 1, 70, .inl (upd f_47 (Int32.toNatClampNeg 45) 0)))] H := hP
      have hD : va_D A [((a 0), .inr (8, [.ref (a 1), .ref (a 2), .ref (a 3), .ref (a 4), .ref (a 5), .int 0, .int (-1), .int 0, .long 0, .int 0, .int 0, .int 0, .int 0, .ref (a 14), .ref (a 15), .ref (a 16), .int 0, .ref (a 18), .ref (a 19), .ref (a 20), .ref (a 21), .ref (a 22), .ref (a 23), .int 0, .ref (a 25), .ref (a 26), .ref (a 27), .ref (a 28), .ref (a 29), .ref (a 30), .int 0, .ref (a 32), .ref (a 33), .ref (a 34), .int 0, .ref (a 36), .ref (a 37), .int 0, .int 0, .ref (a 40), .ref (a 41), .int 0, .ref (a 43), .ref (a 44)])), ((a 32), .inl (k 2, 24, .inl (fun _ => 0))), ((a 36), .inl (k 1, 4, .inl (fun _ => 0))), ((a 37), .inl (k 1, 4, .inl (fun _ => 0))), ((a 43), .inl (k 2, 2, .inl (fun _ => 0))), ((a 44), .inl (k 1, 70, .inl (upd f_47 (Int32.toNatClampNeg 45) 0)))] := hD
      generalize (upd f_47 (Int32.toNatClampNeg 45) 0) = f_48 at hP hD
      refine lv_iinc (v := 8) (lv' := [(3, .int 8), (2, .int 35), (0, .ref (a 0)), (1, .int 1)]) hx hb dX8_keep_85 hl (k := 0) rfl (by decide) (by decide) rfl (fun ls hl => ?_)
      refine lv_goto (tgt := 55) hx hb dX8_keep_88 (by decide) ?_
      refine lv_iload_n hx hb dX8_keep_55 rfl (lv_at hl 0 rfl) ?_
      refine lv_bipush (v := 24) hx hb dX8_keep_56 (by decide) ?_
      refine lv_icmp_ge (tgt := 91) hx hb dX8_keep_58 (by decide) (fun h => absurd h (by decide)) (fun _ => ?_)
      refine lv_aload_n hx hb dX8_keep_61 rfl (lv_at hl 2 rfl) ?_
      refine va_get (D := D) (ci := 8) (v := .ref (a 44)) (C := RX8) (T := TX8) (N := 44) hx hb hts inX8 hown hK hP 0 rfl rfl 43 (by decide) (hts _ tw_1016) (fun _ h9 => h9) rfl dX8_keep_62 ?_
      refine lv_iload_n hx hb dX8_keep_65 rfl (lv_at hl 1 rfl) ?_
      refine lv_iconst (v := 3) hx hb dX8_keep_66 (by decide) ?_
      refine lv_iadd hx hb dX8_keep_67 ?_
      refine lv_ti (y := 38) (by decide) ?_
      refine lv_iload_n hx hb dX8_keep_68 rfl (lv_at hl 0 rfl) ?_
      refine lv_iadd hx hb dX8_keep_69 ?_
      refine lv_ti (y := 46) (by decide) ?_
      refine lv_aload_n hx hb dX8_keep_70 rfl (lv_at hl 2 rfl) ?_
      refine va_get (D := D) (ci := 8) (v := .ref (a 32)) (C := RX8) (T := TX8) (N := 44) hx hb hts inX8 hown hK hP 0 rfl rfl 31 (by decide) (hts _ tw_1004) (fun _ h9 => h9) rfl dX8_keep_71 ?_
      refine lv_iload_n hx hb dX8_keep_74 rfl (lv_at hl 0 rfl) ?_
      refine va_zald hx hb hK hP 1 2 rfl rfl (by unfold vp_in; decide) dX8_keep_75 ?_
      refine lv_ti (y := 0) (by rfl) ?_
      refine lv_if_eq (tgt := 83) hx hb dX8_keep_76 (by decide) (fun _ => ?_) (fun h => absurd (by decide) h)
      refine lv_iconst (v := 0) hx hb dX8_keep_83 (by decide) ?_
      refine va_iast hx hb hK hP hD hS 5 1 rfl rfl (by unfold vp_in; decide) dX8_keep_84 (fun H locs hP hD hS => ?_)
      have hP : va_P D classes [((a 0), .inr (8, [.ref (a 1), .ref (a 2), .ref (a 3), .ref (a 4), .ref (a 5), .int 0, .int (-1), .int 0, .long 0, .int 0, .int 0, .int 0, .int 0, .ref (a 14), .ref (a 15), .ref (a 16), .int 0, .ref (a 18), .ref (a 19), .ref (a 20), .ref (a 21), .ref (a 22), .ref (a 23), .int 0, .ref (a 25), .ref (a 26), .ref (a 27), .ref (a 28), .ref (a 29), .ref (a 30), .int 0, .ref (a 32), .ref (a 33), .ref (a 34), .int 0, .ref (a 36), .ref (a 37), .int 0, .int 0, .ref (a 40), .ref (a 41), .int 0, .ref (a 43), .ref (a 44)])), ((a 32), .inl (k 2, 24, .inl (fun _ => 0))), ((a 36), .inl (k 1, 4, .inl (fun _ => 0))), ((a 37), .inl (k 1, 4, .inl (fun _ => 0))), ((a 43), .inl (k 2, 2, .inl (fun _ => 0))), ((a 44), .inl (k 1, 70, .inl (upd f_48 (Int32.toNatClampNeg 46) 0)))] H := hP
      have hD : va_D A [((a 0), .inr (8, [.ref (a 1), .ref (a 2), .ref (a 3), .ref (a 4), .ref (a 5), .int 0, .int (-1), .int 0, .long 0, .int 0, .int 0, .int 0, .int 0, .ref (a 14), .ref (a 15), .ref (a 16), .int 0, .ref (a 18), .ref (a 19), .ref (a 20), .ref (a 21), .ref (a 22), .ref (a 23), .int 0, .ref (a 25), .ref (a 26), .ref (a 27), .ref (a 28), .ref (a 29), .ref (a 30), .int 0, .ref (a 32), .ref (a 33), .ref (a 34), .int 0, .ref (a 36), .ref (a 37), .int 0, .int 0, .ref (a 40), .ref (a 41), .int 0, .ref (a 43), .ref (a 44)])), ((a 32), .inl (k 2, 24, .inl (fun _ => 0))), ((a 36), .inl (k 1, 4, .inl (fun _ => 0))), ((a 37), .inl (k 1, 4, .inl (fun _ => 0))), ((a 43), .inl (k 2, 2, .inl (fun _ => 0))), ((a 44), .inl (k 1, 70, .inl (upd f_48 (Int32.toNatClampNeg 46) 0)))] := hD
      generalize (upd f_48 (Int32.toNatClampNeg 46) 0) = f_49 at hP hD
      refine lv_iinc (v := 9) (lv' := [(3, .int 9), (2, .int 35), (0, .ref (a 0)), (1, .int 1)]) hx hb dX8_keep_85 hl (k := 0) rfl (by decide) (by decide) rfl (fun ls hl => ?_)
      refine lv_goto (tgt := 55) hx hb dX8_keep_88 (by decide) ?_
      refine lv_iload_n hx hb dX8_keep_55 rfl (lv_at hl 0 rfl) ?_
      refine lv_bipush (v := 24) hx hb dX8_keep_56 (by decide) ?_
      refine lv_icmp_ge (tgt := 91) hx hb dX8_keep_58 (by decide) (fun h => absurd h (by decide)) (fun _ => ?_)
      refine lv_aload_n hx hb dX8_keep_61 rfl (lv_at hl 2 rfl) ?_
      refine va_get (D := D) (ci := 8) (v := .ref (a 44)) (C := RX8) (T := TX8) (N := 44) hx hb hts inX8 hown hK hP 0 rfl rfl 43 (by decide) (hts _ tw_1016) (fun _ h9 => h9) rfl dX8_keep_62 ?_
      refine lv_iload_n hx hb dX8_keep_65 rfl (lv_at hl 1 rfl) ?_
      refine lv_iconst (v := 3) hx hb dX8_keep_66 (by decide) ?_
      refine lv_iadd hx hb dX8_keep_67 ?_
      refine lv_ti (y := 38) (by decide) ?_
      refine lv_iload_n hx hb dX8_keep_68 rfl (lv_at hl 0 rfl) ?_
      refine lv_iadd hx hb dX8_keep_69 ?_
      refine lv_ti (y := 47) (by decide) ?_
      refine lv_aload_n hx hb dX8_keep_70 rfl (lv_at hl 2 rfl) ?_
      refine va_get (D := D) (ci := 8) (v := .ref (a 32)) (C := RX8) (T := TX8) (N := 44) hx hb hts inX8 hown hK hP 0 rfl rfl 31 (by decide) (hts _ tw_1004) (fun _ h9 => h9) rfl dX8_keep_71 ?_
      refine lv_iload_n hx hb dX8_keep_74 rfl (lv_at hl 0 rfl) ?_
      refine va_zald hx hb hK hP 1 2 rfl rfl (by unfold vp_in; decide) dX8_keep_75 ?_
      refine lv_ti (y := 0) (by rfl) ?_
      refine lv_if_eq (tgt := 83) hx hb dX8_keep_76 (by decide) (fun _ => ?_) (fun h => absurd (by decide) h)
      refine lv_iconst (v := 0) hx hb dX8_keep_83 (by decide) ?_
      refine va_iast hx hb hK hP hD hS 5 1 rfl rfl (by unfold vp_in; decide) dX8_keep_84 (fun H locs hP hD hS => ?_)
      have hP : va_P D classes [((a 0), .inr (8, [.ref (a 1), .ref (a 2), .ref (a 3), .ref (a 4), .ref (a 5), .int 0, .int (-1), .int 0, .long 0, .int 0, .int 0, .int 0, .int 0, .ref (a 14), .ref (a 15), .ref (a 16), .int 0, .ref (a 18), .ref (a 19), .ref (a 20), .ref (a 21), .ref (a 22), .ref (a 23), .int 0, .ref (a 25), .ref (a 26), .ref (a 27), .ref (a 28), .ref (a 29), .ref (a 30), .int 0, .ref (a 32), .ref (a 33), .ref (a 34), .int 0, .ref (a 36), .ref (a 37), .int 0, .int 0, .ref (a 40), .ref (a 41), .int 0, .ref (a 43), .ref (a 44)])), ((a 32), .inl (k 2, 24, .inl (fun _ => 0))), ((a 36), .inl (k 1, 4, .inl (fun _ => 0))), ((a 37), .inl (k 1, 4, .inl (fun _ => 0))), ((a 43), .inl (k 2, 2, .inl (fun _ => 0))), ((a 44), .inl (k 1, 70, .inl (upd f_49 (Int32.toNatClampNeg 47) 0)))] H := hP
      have hD : va_D A [((a 0), .inr (8, [.ref (a 1), .ref (a 2), .ref (a 3), .ref (a 4), .ref (a 5), .int 0, .int (-1), .int 0, .long 0, .int 0, .int 0, .int 0, .int 0, .ref (a 14), .ref (a 15), .ref (a 16), .int 0, .ref (a 18), .ref (a 19), .ref (a 20), .ref (a 21), .ref (a 22), .ref (a 23), .int 0, .ref (a 25), .ref (a 26), .ref (a 27), .ref (a 28), .ref (a 29), .ref (a 30), .int 0, .ref (a 32), .ref (a 33), .ref (a 34), .int 0, .ref (a 36), .ref (a 37), .int 0, .int 0, .ref (a 40), .ref (a 41), .int 0, .ref (a 43), .ref (a 44)])), ((a 32), .inl (k 2, 24, .inl (fun _ => 0))), ((a 36), .inl (k 1, 4, .inl (fun _ => 0))), ((a 37), .inl (k 1, 4, .inl (fun _ => 0))), ((a 43), .inl (k 2, 2, .inl (fun _ => 0))), ((a 44), .inl (k 1, 70, .inl (upd f_49 (Int32.toNatClampNeg 47) 0)))] := hD
      generalize (upd f_49 (Int32.toNatClampNeg 47) 0) = f_50 at hP hD
      refine lv_iinc (v := 10) (lv' := [(3, .int 10), (2, .int 35), (0, .ref (a 0)), (1, .int 1)]) hx hb dX8_keep_85 hl (k := 0) rfl (by decide) (by decide) rfl (fun ls hl => ?_)
      refine lv_goto (tgt := 55) hx hb dX8_keep_88 (by decide) ?_
      refine lv_iload_n hx hb dX8_keep_55 rfl (lv_at hl 0 rfl) ?_
      refine lv_bipush (v := 24) hx hb dX8_keep_56 (by decide) ?_
      refine lv_icmp_ge (tgt := 91) hx hb dX8_keep_58 (by decide) (fun h => absurd h (by decide)) (fun _ => ?_)
      refine lv_aload_n hx hb dX8_keep_61 rfl (lv_at hl 2 rfl) ?_
      refine va_get (D := D) (ci := 8) (v := .ref (a 44)) (C := RX8) (T := TX8) (N := 44) hx hb hts inX8 hown hK hP 0 rfl rfl 43 (by decide) (hts _ tw_1016) (fun _ h9 => h9) rfl dX8_keep_62 ?_
      refine lv_iload_n hx hb dX8_keep_65 rfl (lv_at hl 1 rfl) ?_
      refine lv_iconst (v := 3) hx hb dX8_keep_66 (by decide) ?_
      refine lv_iadd hx hb dX8_keep_67 ?_
      refine lv_ti (y := 38) (by decide) ?_
      refine lv_iload_n hx hb dX8_keep_68 rfl (lv_at hl 0 rfl) ?_
      refine lv_iadd hx hb dX8_keep_69 ?_
      refine lv_ti (y := 48) (by decide) ?_
      refine lv_aload_n hx hb dX8_keep_70 rfl (lv_at hl 2 rfl) ?_
      refine va_get (D := D) (ci := 8) (v := .ref (a 32)) (C := RX8) (T := TX8) (N := 44) hx hb hts inX8 hown hK hP 0 rfl rfl 31 (by decide) (hts _ tw_1004) (fun _ h9 => h9) rfl dX8_keep_71 ?_
      refine lv_iload_n hx hb dX8_keep_74 rfl (lv_at hl 0 rfl) ?_
      refine va_zald hx hb hK hP 1 2 rfl rfl (by unfold vp_in; decide) dX8_keep_75 ?_
      refine lv_ti (y := 0) (by rfl) ?_
      refine lv_if_eq (tgt := 83) hx hb dX8_keep_76 (by decide) (fun _ => ?_) (fun h => absurd (by decide) h)
      refine lv_iconst (v := 0) hx hb dX8_keep_83 (by decide) ?_
      refine va_iast hx hb hK hP hD hS 5 1 rfl rfl (by unfold vp_in; decide) dX8_keep_84 (fun H locs hP hD hS => ?_)
      have hP : va_P D classes [((a 0), .inr (8, [.ref (a 1), .ref (a 2), .ref (a 3), .ref (a 4), .ref (a 5), .int 0, .int (-1), .int 0, .long 0, .int 0, .int 0, .int 0, .int 0, .ref (a 14), .ref (a 15), .ref (a 16), .int 0, .ref (a 18), .ref (a 19), .ref (a 20), .ref (a 21), .ref (a 22), .ref (a 23), .int 0, .ref (a 25), .ref (a 26), .ref (a 27), .ref (a 28), .ref (a 29), .ref (a 30), .int 0, .ref (a 32), .ref (a 33), .ref (a 34), .int 0, .ref (a 36), .ref (a 37), .int 0, .int 0, .ref (a 40), .ref (a 41), .int 0, .ref (a 43), .ref (a 44)])), ((a 32), .inl (k 2, 24, .inl (fun _ => 0))), ((a 36), .inl (k 1, 4, .inl (fun _ => 0))), ((a 37), .inl (k 1, 4, .inl (fun _ => 0))), ((a 43), .inl (k 2, 2, .inl (fun _ => 0))), ((a 44), .inl (k 1, 70, .inl (upd f_50 (Int32.toNatClampNeg 48) 0)))] H := hP
      have hD : va_D A [((a 0), .inr (8, [.ref (a 1), .ref (a 2), .ref (a 3), .ref (a 4), .ref (a 5), .int 0, .int (-1), .int 0, .long 0, .int 0, .int 0, .int 0, .int 0, .ref (a 14), .ref (a 15), .ref (a 16), .int 0, .ref (a 18), .ref (a 19), .ref (a 20), .ref (a 21), .ref (a 22), .ref (a 23), .int 0, .ref (a 25), .ref (a 26), .ref (a 27), .ref (a 28), .ref (a 29), .ref (a 30), .int 0, .ref (a 32), .ref (a 33), .ref (a 34), .int 0, .ref (a 36), .ref (a 37), .int 0, .int 0, .ref (a 40), .ref (a 41), .int 0, .ref (a 43), .ref (a 44)])), ((a 32), .inl (k 2, 24, .inl (fun _ => 0))), ((a 36), .inl (k 1, 4, .inl (fun _ => 0))), ((a 37), .inl (k 1, 4, .inl (fun _ => 0))), ((a 43), .inl (k 2, 2, .inl (fun _ => 0))), ((a 44), .inl (k 1, 70, .inl (upd f_50 (Int32.toNatClampNeg 48) 0)))] := hD
      generalize (upd f_50 (Int32.toNatClampNeg 48) 0) = f_51 at hP hD
      refine lv_iinc (v := 11) (lv' := [(3, .int 11), (2, .int 35), (0, .ref (a 0)), (1, .int 1)]) hx hb dX8_keep_85 hl (k := 0) rfl (by decide) (by decide) rfl (fun ls hl => ?_)
      refine lv_goto (tgt := 55) hx hb dX8_keep_88 (by decide) ?_
      refine lv_iload_n hx hb dX8_keep_55 rfl (lv_at hl 0 rfl) ?_
      refine lv_bipush (v := 24) hx hb dX8_keep_56 (by decide) ?_
      refine lv_icmp_ge (tgt := 91) hx hb dX8_keep_58 (by decide) (fun h => absurd h (by decide)) (fun _ => ?_)
      refine lv_aload_n hx hb dX8_keep_61 rfl (lv_at hl 2 rfl) ?_
      refine va_get (D := D) (ci := 8) (v := .ref (a 44)) (C := RX8) (T := TX8) (N := 44) hx hb hts inX8 hown hK hP 0 rfl rfl 43 (by decide) (hts _ tw_1016) (fun _ h9 => h9) rfl dX8_keep_62 ?_
      refine lv_iload_n hx hb dX8_keep_65 rfl (lv_at hl 1 rfl) ?_
      refine lv_iconst (v := 3) hx hb dX8_keep_66 (by decide) ?_
      refine lv_iadd hx hb dX8_keep_67 ?_
      refine lv_ti (y := 38) (by decide) ?_
      refine lv_iload_n hx hb dX8_keep_68 rfl (lv_at hl 0 rfl) ?_
      refine lv_iadd hx hb dX8_keep_69 ?_
      refine lv_ti (y := 49) (by decide) ?_
      refine lv_aload_n hx hb dX8_keep_70 rfl (lv_at hl 2 rfl) ?_
      refine va_get (D := D) (ci := 8) (v := .ref (a 32)) (C := RX8) (T := TX8) (N := 44) hx hb hts inX8 hown hK hP 0 rfl rfl 31 (by decide) (hts _ tw_1004) (fun _ h9 => h9) rfl dX8_keep_71 ?_
      refine lv_iload_n hx hb dX8_keep_74 rfl (lv_at hl 0 rfl) ?_
      refine va_zald hx hb hK hP 1 2 rfl rfl (by unfold vp_in; decide) dX8_keep_75 ?_
      refine lv_ti (y := 0) (by rfl) ?_
      refine lv_if_eq (tgt := 83) hx hb dX8_keep_76 (by decide) (fun _ => ?_) (fun h => absurd (by decide) h)
      refine lv_iconst (v := 0) hx hb dX8_keep_83 (by decide) ?_
      refine va_iast hx hb hK hP hD hS 5 1 rfl rfl (by unfold vp_in; decide) dX8_keep_84 (fun H locs hP hD hS => ?_)
      have hP : va_P D classes [((a 0), .inr (8, [.ref (a 1), .ref (a 2), .ref (a 3), .ref (a 4), .ref (a 5), .int 0, .int (-1), .int 0, .long 0, .int 0, .int 0, .int 0, .int 0, .ref (a 14), .ref (a 15), .ref (a 16), .int 0, .ref (a 18), .ref (a 19), .ref (a 20), .ref (a 21), .ref (a 22), .ref (a 23), .int 0, .ref (a 25), .ref (a 26), .ref (a 27), .ref (a 28), .ref (a 29), .ref (a 30), .int 0, .ref (a 32), .ref (a 33), .ref (a 34), .int 0, .ref (a 36), .ref (a 37), .int 0, .int 0, .ref (a 40), .ref (a 41), .int 0, .ref (a 43), .ref (a 44)])), ((a 32), .inl (k 2, 24, .inl (fun _ => 0))), ((a 36), .inl (k 1, 4, .inl (fun _ => 0))), ((a 37), .inl (k 1, 4, .inl (fun _ => 0))), ((a 43), .inl (k 2, 2, .inl (fun _ => 0))), ((a 44), .inl (k 1, 70, .inl (upd f_51 (Int32.toNatClampNeg 49) 0)))] H := hP
      have hD : va_D A [((a 0), .inr (8, [.ref (a 1), .ref (a 2), .ref (a 3), .ref (a 4), .ref (a 5), .int 0, .int (-1), .int 0, .long 0, .int 0, .int 0, .int 0, .int 0, .ref (a 14), .ref (a 15), .ref (a 16), .int 0, .ref (a 18), .ref (a 19), .ref (a 20), .ref (a 21), .ref (a 22), .ref (a 23), .int 0, .ref (a 25), .ref (a 26), .ref (a 27), .ref (a 28), .ref (a 29), .ref (a 30), .int 0, .ref (a 32), .ref (a 33), .ref (a 34), .int 0, .ref (a 36), .ref (a 37), .int 0, .int 0, .ref (a 40), .ref (a 41), .int 0, .ref (a 43), .ref (a 44)])), ((a 32), .inl (k 2, 24, .inl (fun _ => 0))), ((a 36), .inl (k 1, 4, .inl (fun _ => 0))), ((a 37), .inl (k 1, 4, .inl (fun _ => 0))), ((a 43), .inl (k 2, 2, .inl (fun _ => 0))), ((a 44), .inl (k 1, 70, .inl (upd f_51 (Int32.toNatClampNeg 49) 0)))] := hD
      generalize (upd f_51 (Int32.toNatClampNeg 49) 0) = f_52 at hP hD
      refine lv_iinc (v := 12) (lv' := [(3, .int 12), (2, .int 35), (0, .ref (a 0)), (1, .int 1)]) hx hb dX8_keep_85 hl (k := 0) rfl (by decide) (by decide) rfl (fun ls hl => ?_)
      refine lv_goto (tgt := 55) hx hb dX8_keep_88 (by decide) ?_
      refine lv_iload_n hx hb dX8_keep_55 rfl (lv_at hl 0 rfl) ?_
      refine lv_bipush (v := 24) hx hb dX8_keep_56 (by decide) ?_
      refine lv_icmp_ge (tgt := 91) hx hb dX8_keep_58 (by decide) (fun h => absurd h (by decide)) (fun _ => ?_)
      refine lv_aload_n hx hb dX8_keep_61 rfl (lv_at hl 2 rfl) ?_
      refine va_get (D := D) (ci := 8) (v := .ref (a 44)) (C := RX8) (T := TX8) (N := 44) hx hb hts inX8 hown hK hP 0 rfl rfl 43 (by decide) (hts _ tw_1016) (fun _ h9 => h9) rfl dX8_keep_62 ?_
      refine lv_iload_n hx hb dX8_keep_65 rfl (lv_at hl 1 rfl) ?_
      refine lv_iconst (v := 3) hx hb dX8_keep_66 (by decide) ?_
      refine lv_iadd hx hb dX8_keep_67 ?_
      refine lv_ti (y := 38) (by decide) ?_
      refine lv_iload_n hx hb dX8_keep_68 rfl (lv_at hl 0 rfl) ?_
      refine lv_iadd hx hb dX8_keep_69 ?_
      refine lv_ti (y := 50) (by decide) ?_
      refine lv_aload_n hx hb dX8_keep_70 rfl (lv_at hl 2 rfl) ?_
      refine va_get (D := D) (ci := 8) (v := .ref (a 32)) (C := RX8) (T := TX8) (N := 44) hx hb hts inX8 hown hK hP 0 rfl rfl 31 (by decide) (hts _ tw_1004) (fun _ h9 => h9) rfl dX8_keep_71 ?_
      refine lv_iload_n hx hb dX8_keep_74 rfl (lv_at hl 0 rfl) ?_
      refine va_zald hx hb hK hP 1 2 rfl rfl (by unfold vp_in; decide) dX8_keep_75 ?_
      refine lv_ti (y := 0) (by rfl) ?_
      refine lv_if_eq (tgt := 83) hx hb dX8_keep_76 (by decide) (fun _ => ?_) (fun h => absurd (by decide) h)
      refine lv_iconst (v := 0) hx hb dX8_keep_83 (by decide) ?_
      refine va_iast hx hb hK hP hD hS 5 1 rfl rfl (by unfold vp_in; decide) dX8_keep_84 (fun H locs hP hD hS => ?_)
      have hP : va_P D classes [((a 0), .inr (8, [.ref (a 1), .ref (a 2), .ref (a 3), .ref (a 4), .ref (a 5), .int 0, .int (-1), .int 0, .long 0, .int 0, .int 0, .int 0, .int 0, .ref (a 14), .ref (a 15), .ref (a 16), .int 0, .ref (a 18), .ref (a 19), .ref (a 20), .ref (a 21), .ref (a 22), .ref (a 23), .int 0, .ref (a 25), .ref (a 26), .ref (a 27), .ref (a 28), .ref (a 29), .ref (a 30), .int 0, .ref (a 32), .ref (a 33), .ref (a 34), .int 0, .ref (a 36), .ref (a 37), .int 0, .int 0, .ref (a 40), .ref (a 41), .int 0, .ref (a 43), .ref (a 44)])), ((a 32), .inl (k 2, 24, .inl (fun _ => 0))), ((a 36), .inl (k 1, 4, .inl (fun _ => 0))), ((a 37), .inl (k 1, 4, .inl (fun _ => 0))), ((a 43), .inl (k 2, 2, .inl (fun _ => 0))), ((a 44), .inl (k 1, 70, .inl (upd f_52 (Int32.toNatClampNeg 50) 0)))] H := hP
      have hD : va_D A [((a 0), .inr (8, [.ref (a 1), .ref (a 2), .ref (a 3), .ref (a 4), .ref (a 5), .int 0, .int (-1), .int 0, .long 0, .int 0, .int 0, .int 0, .int 0, .ref (a 14), .ref (a 15), .ref (a 16), .int 0, .ref (a 18), .ref (a 19), .ref (a 20), .ref (a 21), .ref (a 22), .ref (a 23), .int 0, .ref (a 25), .ref (a 26), .ref (a 27), .ref (a 28), .ref (a 29), .ref (a 30), .int 0, .ref (a 32), .ref (a 33), .ref (a 34), .int 0, .ref (a 36), .ref (a 37), .int 0, .int 0, .ref (a 40), .ref (a 41), .int 0, .ref (a 43), .ref (a 44)])), ((a 32), .inl (k 2, 24, .inl (fun _ => 0))), ((a 36), .inl (k 1, 4, .inl (fun _ => 0))), ((a 37), .inl (k 1, 4, .inl (fun _ => 0))), ((a 43), .inl (k 2, 2, .inl (fun _ => 0))), ((a 44), .inl (k 1, 70, .inl (upd f_52 (Int32.toNatClampNeg 50) 0)))] := hD
      generalize (upd f_52 (Int32.toNatClampNeg 50) 0) = f_53 at hP hD
      refine lv_iinc (v := 13) (lv' := [(3, .int 13), (2, .int 35), (0, .ref (a 0)), (1, .int 1)]) hx hb dX8_keep_85 hl (k := 0) rfl (by decide) (by decide) rfl (fun ls hl => ?_)
      refine lv_goto (tgt := 55) hx hb dX8_keep_88 (by decide) ?_
      refine lv_iload_n hx hb dX8_keep_55 rfl (lv_at hl 0 rfl) ?_
      refine lv_bipush (v := 24) hx hb dX8_keep_56 (by decide) ?_
      refine lv_icmp_ge (tgt := 91) hx hb dX8_keep_58 (by decide) (fun h => absurd h (by decide)) (fun _ => ?_)
      refine lv_aload_n hx hb dX8_keep_61 rfl (lv_at hl 2 rfl) ?_
      refine va_get (D := D) (ci := 8) (v := .ref (a 44)) (C := RX8) (T := TX8) (N := 44) hx hb hts inX8 hown hK hP 0 rfl rfl 43 (by decide) (hts _ tw_1016) (fun _ h9 => h9) rfl dX8_keep_62 ?_
      refine lv_iload_n hx hb dX8_keep_65 rfl (lv_at hl 1 rfl) ?_
      refine lv_iconst (v := 3) hx hb dX8_keep_66 (by decide) ?_
      refine lv_iadd hx hb dX8_keep_67 ?_
      refine lv_ti (y := 38) (by decide) ?_
      refine lv_iload_n hx hb dX8_keep_68 rfl (lv_at hl 0 rfl) ?_
      refine lv_iadd hx hb dX8_keep_69 ?_
      refine lv_ti (y := 51) (by decide) ?_
      refine lv_aload_n hx hb dX8_keep_70 rfl (lv_at hl 2 rfl) ?_
      refine va_get (D := D) (ci := 8) (v := .ref (a 32)) (C := RX8) (T := TX8) (N := 44) hx hb hts inX8 hown hK hP 0 rfl rfl 31 (by decide) (hts _ tw_1004) (fun _ h9 => h9) rfl dX8_keep_71 ?_
      refine lv_iload_n hx hb dX8_keep_74 rfl (lv_at hl 0 rfl) ?_
      refine va_zald hx hb hK hP 1 2 rfl rfl (by unfold vp_in; decide) dX8_keep_75 ?_
      refine lv_ti (y := 0) (by rfl) ?_
      refine lv_if_eq (tgt := 83) hx hb dX8_keep_76 (by decide) (fun _ => ?_) (fun h => absurd (by decide) h)
      refine lv_iconst (v := 0) hx hb dX8_keep_83 (by decide) ?_
      refine va_iast hx hb hK hP hD hS 5 1 rfl rfl (by unfold vp_in; decide) dX8_keep_84 (fun H locs hP hD hS => ?_)
      have hP : va_P D classes [((a 0), .inr (8, [.ref (a 1), .ref (a 2), .ref (a 3), .ref (a 4), .ref (a 5), .int 0, .int (-1), .int 0, .long 0, .int 0, .int 0, .int 0, .int 0, .ref (a 14), .ref (a 15), .ref (a 16), .int 0, .ref (a 18), .ref (a 19), .ref (a 20), .ref (a 21), .ref (a 22), .ref (a 23), .int 0, .ref (a 25), .ref (a 26), .ref (a 27), .ref (a 28), .ref (a 29), .ref (a 30), .int 0, .ref (a 32), .ref (a 33), .ref (a 34), .int 0, .ref (a 36), .ref (a 37), .int 0, .int 0, .ref (a 40), .ref (a 41), .int 0, .ref (a 43), .ref (a 44)])), ((a 32), .inl (k 2, 24, .inl (fun _ => 0))), ((a 36), .inl (k 1, 4, .inl (fun _ => 0))), ((a 37), .inl (k 1, 4, .inl (fun _ => 0))), ((a 43), .inl (k 2, 2, .inl (fun _ => 0))), ((a 44), .inl (k 1, 70, .inl (upd f_53 (Int32.toNatClampNeg 51) 0)))] H := hP
      have hD : va_D A [((a 0), .inr (8, [.ref (a 1), .ref (a 2), .ref (a 3), .ref (a 4), .ref (a 5), .int 0, .int (-1), .int 0, .long 0, .int 0, .int 0, .int 0, .int 0, .ref (a 14), .ref (a 15), .ref (a 16), .int 0, .ref (a 18), .ref (a 19), .ref (a 20), .ref (a 21), .ref (a 22), .ref (a 23), .int 0, .ref (a 25), .ref (a 26), .ref (a 27), .ref (a 28), .ref (a 29), .ref (a 30), .int 0, .ref (a 32), .ref (a 33), .ref (a 34), .int 0, .ref (a 36), .ref (a 37), .int 0, .int 0, .ref (a 40), .ref (a 41), .int 0, .ref (a 43), .ref (a 44)])), ((a 32), .inl (k 2, 24, .inl (fun _ => 0))), ((a 36), .inl (k 1, 4, .inl (fun _ => 0))), ((a 37), .inl (k 1, 4, .inl (fun _ => 0))), ((a 43), .inl (k 2, 2, .inl (fun _ => 0))), ((a 44), .inl (k 1, 70, .inl (upd f_53 (Int32.toNatClampNeg 51) 0)))] := hD
      generalize (upd f_53 (Int32.toNatClampNeg 51) 0) = f_54 at hP hD
      refine lv_iinc (v := 14) (lv' := [(3, .int 14), (2, .int 35), (0, .ref (a 0)), (1, .int 1)]) hx hb dX8_keep_85 hl (k := 0) rfl (by decide) (by decide) rfl (fun ls hl => ?_)
      refine lv_goto (tgt := 55) hx hb dX8_keep_88 (by decide) ?_
      refine lv_iload_n hx hb dX8_keep_55 rfl (lv_at hl 0 rfl) ?_
      refine lv_bipush (v := 24) hx hb dX8_keep_56 (by decide) ?_
      refine lv_icmp_ge (tgt := 91) hx hb dX8_keep_58 (by decide) (fun h => absurd h (by decide)) (fun _ => ?_)
      refine lv_aload_n hx hb dX8_keep_61 rfl (lv_at hl 2 rfl) ?_
      refine va_get (D := D) (ci := 8) (v := .ref (a 44)) (C := RX8) (T := TX8) (N := 44) hx hb hts inX8 hown hK hP 0 rfl rfl 43 (by decide) (hts _ tw_1016) (fun _ h9 => h9) rfl dX8_keep_62 ?_
      refine lv_iload_n hx hb dX8_keep_65 rfl (lv_at hl 1 rfl) ?_
      refine lv_iconst (v := 3) hx hb dX8_keep_66 (by decide) ?_
      refine lv_iadd hx hb dX8_keep_67 ?_
      refine lv_ti (y := 38) (by decide) ?_
      refine lv_iload_n hx hb dX8_keep_68 rfl (lv_at hl 0 rfl) ?_
      refine lv_iadd hx hb dX8_keep_69 ?_
      refine lv_ti (y := 52) (by decide) ?_
      refine lv_aload_n hx hb dX8_keep_70 rfl (lv_at hl 2 rfl) ?_
      refine va_get (D := D) (ci := 8) (v := .ref (a 32)) (C := RX8) (T := TX8) (N := 44) hx hb hts inX8 hown hK hP 0 rfl rfl 31 (by decide) (hts _ tw_1004) (fun _ h9 => h9) rfl dX8_keep_71 ?_
      refine lv_iload_n hx hb dX8_keep_74 rfl (lv_at hl 0 rfl) ?_
      refine va_zald hx hb hK hP 1 2 rfl rfl (by unfold vp_in; decide) dX8_keep_75 ?_
      refine lv_ti (y := 0) (by rfl) ?_
      refine lv_if_eq (tgt := 83) hx hb dX8_keep_76 (by decide) (fun _ => ?_) (fun h => absurd (by decide) h)
      refine lv_iconst (v := 0) hx hb dX8_keep_83 (by decide) ?_
      refine va_iast hx hb hK hP hD hS 5 1 rfl rfl (by unfold vp_in; decide) dX8_keep_84 (fun H locs hP hD hS => ?_)
      have hP : va_P D classes [((a 0), .inr (8, [.ref (a 1), .ref (a 2), .ref (a 3), .ref (a 4), .ref (a 5), .int 0, .int (-1), .int 0, .long 0, .int 0, .int 0, .int 0, .int 0, .ref (a 14), .ref (a 15), .ref (a 16), .int 0, .ref (a 18), .ref (a 19), .ref (a 20), .ref (a 21), .ref (a 22), .ref (a 23), .int 0, .ref (a 25), .ref (a 26), .ref (a 27), .ref (a 28), .ref (a 29), .ref (a 30), .int 0, .ref (a 32), .ref (a 33), .ref (a 34), .int 0, .ref (a 36), .ref (a 37), .int 0, .int 0, .ref (a 40), .ref (a 41), .int 0, .ref (a 43), .ref (a 44)])), ((a 32), .inl (k 2, 24, .inl (fun _ => 0))), ((a 36), .inl (k 1, 4, .inl (fun _ => 0))), ((a 37), .inl (k 1, 4, .inl (fun _ => 0))), ((a 43), .inl (k 2, 2, .inl (fun _ => 0))), ((a 44), .inl (k 1, 70, .inl (upd f_54 (Int32.toNatClampNeg 52) 0)))] H := hP
      have hD : va_D A [((a 0), .inr (8, [.ref (a 1), .ref (a 2), .ref (a 3), .ref (a 4), .ref (a 5), .int 0, .int (-1), .int 0, .long 0, .int 0, .int 0, .int 0, .int 0, .ref (a 14), .ref (a 15), .ref (a 16), .int 0, .ref (a 18), .ref (a 19), .ref (a 20), .ref (a 21), .ref (a 22), .ref (a 23), .int 0, .ref (a 25), .ref (a 26), .ref (a 27), .ref (a 28), .ref (a 29), .ref (a 30), .int 0, .ref (a 32), .ref (a 33), .ref (a 34), .int 0, .ref (a 36), .ref (a 37), .int 0, .int 0, .ref (a 40), .ref (a 41), .int 0, .ref (a 43), .ref (a 44)])), ((a 32), .inl (k 2, 24, .inl (fun _ => 0))), ((a 36), .inl (k 1, 4, .inl (fun _ => 0))), ((a 37), .inl (k 1, 4, .inl (fun _ => 0))), ((a 43), .inl (k 2, 2, .inl (fun _ => 0))), ((a 44), .inl (k 1, 70, .inl (upd f_54 (Int32.toNatClampNeg 52) 0)))] := hD
      generalize (upd f_54 (Int32.toNatClampNeg 52) 0) = f_55 at hP hD
      refine lv_iinc (v := 15) (lv' := [(3, .int 15), (2, .int 35), (0, .ref (a 0)), (1, .int 1)]) hx hb dX8_keep_85 hl (k := 0) rfl (by decide) (by decide) rfl (fun ls hl => ?_)
      refine lv_goto (tgt := 55) hx hb dX8_keep_88 (by decide) ?_
      refine lv_iload_n hx hb dX8_keep_55 rfl (lv_at hl 0 rfl) ?_
      refine lv_bipush (v := 24) hx hb dX8_keep_56 (by decide) ?_
      refine lv_icmp_ge (tgt := 91) hx hb dX8_keep_58 (by decide) (fun h => absurd h (by decide)) (fun _ => ?_)
      refine lv_aload_n hx hb dX8_keep_61 rfl (lv_at hl 2 rfl) ?_
      refine va_get (D := D) (ci := 8) (v := .ref (a 44)) (C := RX8) (T := TX8) (N := 44) hx hb hts inX8 hown hK hP 0 rfl rfl 43 (by decide) (hts _ tw_1016) (fun _ h9 => h9) rfl dX8_keep_62 ?_
      refine lv_iload_n hx hb dX8_keep_65 rfl (lv_at hl 1 rfl) ?_
      refine lv_iconst (v := 3) hx hb dX8_keep_66 (by decide) ?_
      refine lv_iadd hx hb dX8_keep_67 ?_
      refine lv_ti (y := 38) (by decide) ?_
      refine lv_iload_n hx hb dX8_keep_68 rfl (lv_at hl 0 rfl) ?_
      refine lv_iadd hx hb dX8_keep_69 ?_
      refine lv_ti (y := 53) (by decide) ?_
      refine lv_aload_n hx hb dX8_keep_70 rfl (lv_at hl 2 rfl) ?_
      refine va_get (D := D) (ci := 8) (v := .ref (a 32)) (C := RX8) (T := TX8) (N := 44) hx hb hts inX8 hown hK hP 0 rfl rfl 31 (by decide) (hts _ tw_1004) (fun _ h9 => h9) rfl dX8_keep_71 ?_
      refine lv_iload_n hx hb dX8_keep_74 rfl (lv_at hl 0 rfl) ?_
      refine va_zald hx hb hK hP 1 2 rfl rfl (by unfold vp_in; decide) dX8_keep_75 ?_
      refine lv_ti (y := 0) (by rfl) ?_
      refine lv_if_eq (tgt := 83) hx hb dX8_keep_76 (by decide) (fun _ => ?_) (fun h => absurd (by decide) h)
      refine lv_iconst (v := 0) hx hb dX8_keep_83 (by decide) ?_
      refine va_iast hx hb hK hP hD hS 5 1 rfl rfl (by unfold vp_in; decide) dX8_keep_84 (fun H locs hP hD hS => ?_)
      have hP : va_P D classes [((a 0), .inr (8, [.ref (a 1), .ref (a 2), .ref (a 3), .ref (a 4), .ref (a 5), .int 0, .int (-1), .int 0, .long 0, .int 0, .int 0, .int 0, .int 0, .ref (a 14), .ref (a 15), .ref (a 16), .int 0, .ref (a 18), .ref (a 19), .ref (a 20), .ref (a 21), .ref (a 22), .ref (a 23), .int 0, .ref (a 25), .ref (a 26), .ref (a 27), .ref (a 28), .ref (a 29), .ref (a 30), .int 0, .ref (a 32), .ref (a 33), .ref (a 34), .int 0, .ref (a 36), .ref (a 37), .int 0, .int 0, .ref (a 40), .ref (a 41), .int 0, .ref (a 43), .ref (a 44)])), ((a 32), .inl (k 2, 24, .inl (fun _ => 0))), ((a 36), .inl (k 1, 4, .inl (fun _ => 0))), ((a 37), .inl (k 1, 4, .inl (fun _ => 0))), ((a 43), .inl (k 2, 2, .inl (fun _ => 0))), ((a 44), .inl (k 1, 70, .inl (upd f_55 (Int32.toNatClampNeg 53) 0)))] H := hP
      have hD : va_D A [((a 0), .inr (8, [.ref (a 1), .ref (a 2), .ref (a 3), .ref (a 4), .ref (a 5), .int 0, .int (-1), .int 0, .long 0, .int 0, .int 0, .int 0, .int 0, .ref (a 14), .ref (a 15), .ref (a 16), .int 0, .ref (a 18), .ref (a 19), .ref (a 20), .ref (a 21), .ref (a 22), .ref (a 23), .int 0, .ref (a 25), .ref (a 26), .ref (a 27), .ref (a 28), .ref (a 29), .ref (a 30), .int 0, .ref (a 32), .ref (a 33), .ref (a 34), .int 0, .ref (a 36), .ref (a 37), .int 0, .int 0, .ref (a 40), .ref (a 41), .int 0, .ref (a 43), .ref (a 44)])), ((a 32), .inl (k 2, 24, .inl (fun _ => 0))), ((a 36), .inl (k 1, 4, .inl (fun _ => 0))), ((a 37), .inl (k 1, 4, .inl (fun _ => 0))), ((a 43), .inl (k 2, 2, .inl (fun _ => 0))), ((a 44), .inl (k 1, 70, .inl (upd f_55 (Int32.toNatClampNeg 53) 0)))] := hD
      generalize (upd f_55 (Int32.toNatClampNeg 53) 0) = f_56 at hP hD
      refine lv_iinc (v := 16) (lv' := [(3, .int 16), (2, .int 35), (0, .ref (a 0)), (1, .int 1)]) hx hb dX8_keep_85 hl (k := 0) rfl (by decide) (by decide) rfl (fun ls hl => ?_)
      refine lv_goto (tgt := 55) hx hb dX8_keep_88 (by decide) ?_
      refine lv_iload_n hx hb dX8_keep_55 rfl (lv_at hl 0 rfl) ?_
      refine lv_bipush (v := 24) hx hb dX8_keep_56 (by decide) ?_
      refine lv_icmp_ge (tgt := 91) hx hb dX8_keep_58 (by decide) (fun h => absurd h (by decide)) (fun _ => ?_)
      refine lv_aload_n hx hb dX8_keep_61 rfl (lv_at hl 2 rfl) ?_
      refine va_get (D := D) (ci := 8) (v := .ref (a 44)) (C := RX8) (T := TX8) (N := 44) hx hb hts inX8 hown hK hP 0 rfl rfl 43 (by decide) (hts _ tw_1016) (fun _ h9 => h9) rfl dX8_keep_62 ?_
      refine lv_iload_n hx hb dX8_keep_65 rfl (lv_at hl 1 rfl) ?_
      refine lv_iconst (v := 3) hx hb dX8_keep_66 (by decide) ?_
      refine lv_iadd hx hb dX8_keep_67 ?_
      refine lv_ti (y := 38) (by decide) ?_
      refine lv_iload_n hx hb dX8_keep_68 rfl (lv_at hl 0 rfl) ?_
      refine lv_iadd hx hb dX8_keep_69 ?_
      refine lv_ti (y := 54) (by decide) ?_
      refine lv_aload_n hx hb dX8_keep_70 rfl (lv_at hl 2 rfl) ?_
      refine va_get (D := D) (ci := 8) (v := .ref (a 32)) (C := RX8) (T := TX8) (N := 44) hx hb hts inX8 hown hK hP 0 rfl rfl 31 (by decide) (hts _ tw_1004) (fun _ h9 => h9) rfl dX8_keep_71 ?_
      refine lv_iload_n hx hb dX8_keep_74 rfl (lv_at hl 0 rfl) ?_
      refine va_zald hx hb hK hP 1 2 rfl rfl (by unfold vp_in; decide) dX8_keep_75 ?_
      refine lv_ti (y := 0) (by rfl) ?_
      refine lv_if_eq (tgt := 83) hx hb dX8_keep_76 (by decide) (fun _ => ?_) (fun h => absurd (by decide) h)
      refine lv_iconst (v := 0) hx hb dX8_keep_83 (by decide) ?_
      refine va_iast hx hb hK hP hD hS 5 1 rfl rfl (by unfold vp_in; decide) dX8_keep_84 (fun H locs hP hD hS => ?_)
      have hP : va_P D classes [((a 0), .inr (8, [.ref (a 1), .ref (a 2), .ref (a 3), .ref (a 4), .ref (a 5), .int 0, .int (-1), .int 0, .long 0, .int 0, .int 0, .int 0, .int 0, .ref (a 14), .ref (a 15), .ref (a 16), .int 0, .ref (a 18), .ref (a 19), .ref (a 20), .ref (a 21), .ref (a 22), .ref (a 23), .int 0, .ref (a 25), .ref (a 26), .ref (a 27), .ref (a 28), .ref (a 29), .ref (a 30), .int 0, .ref (a 32), .ref (a 33), .ref (a 34), .int 0, .ref (a 36), .ref (a 37), .int 0, .int 0, .ref (a 40), .ref (a 41), .int 0, .ref (a 43), .ref (a 44)])), ((a 32), .inl (k 2, 24, .inl (fun _ => 0))), ((a 36), .inl (k 1, 4, .inl (fun _ => 0))), ((a 37), .inl (k 1, 4, .inl (fun _ => 0))), ((a 43), .inl (k 2, 2, .inl (fun _ => 0))), ((a 44), .inl (k 1, 70, .inl (upd f_56 (Int32.toNatClampNeg 54) 0)))] H := hP
      have hD : va_D A [((a 0), .inr (8, [.ref (a 1), .ref (a 2), .ref (a 3), .ref (a 4), .ref (a 5), .int 0, .int (-1), .int 0, .long 0, .int 0, .int 0, .int 0, .int 0, .ref (a 14), .ref (a 15), .ref (a 16), .int 0, .ref (a 18), .ref (a 19), .ref (a 20), .ref (a 21), .ref (a 22), .ref (a 23), .int 0, .ref (a 25), .ref (a 26), .ref (a 27), .ref (a 28), .ref (a 29), .ref (a 30), .int 0, .ref (a 32), .ref (a 33), .ref (a 34), .int 0, .ref (a 36), .ref (a 37), .int 0, .int 0, .ref (a 40), .ref (a 41), .int 0, .ref (a 43), .ref (a 44)])), ((a 32), .inl (k 2, 24, .inl (fun _ => 0))), ((a 36), .inl (k 1, 4, .inl (fun _ => 0))), ((a 37), .inl (k 1, 4, .inl (fun _ => 0))), ((a 43), .inl (k 2, 2, .inl (fun _ => 0))), ((a 44), .inl (k 1, 70, .inl (upd f_56 (Int32.toNatClampNeg 54) 0)))] := hD
      generalize (upd f_56 (Int32.toNatClampNeg 54) 0) = f_57 at hP hD
      refine lv_iinc (v := 17) (lv' := [(3, .int 17), (2, .int 35), (0, .ref (a 0)), (1, .int 1)]) hx hb dX8_keep_85 hl (k := 0) rfl (by decide) (by decide) rfl (fun ls hl => ?_)
      refine lv_goto (tgt := 55) hx hb dX8_keep_88 (by decide) ?_
      refine lv_iload_n hx hb dX8_keep_55 rfl (lv_at hl 0 rfl) ?_
      refine lv_bipush (v := 24) hx hb dX8_keep_56 (by decide) ?_
      refine lv_icmp_ge (tgt := 91) hx hb dX8_keep_58 (by decide) (fun h => absurd h (by decide)) (fun _ => ?_)
      refine lv_aload_n hx hb dX8_keep_61 rfl (lv_at hl 2 rfl) ?_
      refine va_get (D := D) (ci := 8) (v := .ref (a 44)) (C := RX8) (T := TX8) (N := 44) hx hb hts inX8 hown hK hP 0 rfl rfl 43 (by decide) (hts _ tw_1016) (fun _ h9 => h9) rfl dX8_keep_62 ?_
      refine lv_iload_n hx hb dX8_keep_65 rfl (lv_at hl 1 rfl) ?_
      refine lv_iconst (v := 3) hx hb dX8_keep_66 (by decide) ?_
      refine lv_iadd hx hb dX8_keep_67 ?_
      refine lv_ti (y := 38) (by decide) ?_
      refine lv_iload_n hx hb dX8_keep_68 rfl (lv_at hl 0 rfl) ?_
      refine lv_iadd hx hb dX8_keep_69 ?_
      refine lv_ti (y := 55) (by decide) ?_
      refine lv_aload_n hx hb dX8_keep_70 rfl (lv_at hl 2 rfl) ?_
      refine va_get (D := D) (ci := 8) (v := .ref (a 32)) (C := RX8) (T := TX8) (N := 44) hx hb hts inX8 hown hK hP 0 rfl rfl 31 (by decide) (hts _ tw_1004) (fun _ h9 => h9) rfl dX8_keep_71 ?_
      refine lv_iload_n hx hb dX8_keep_74 rfl (lv_at hl 0 rfl) ?_
      refine va_zald hx hb hK hP 1 2 rfl rfl (by unfold vp_in; decide) dX8_keep_75 ?_
      refine lv_ti (y := 0) (by rfl) ?_
      refine lv_if_eq (tgt := 83) hx hb dX8_keep_76 (by decide) (fun _ => ?_) (fun h => absurd (by decide) h)
      refine lv_iconst (v := 0) hx hb dX8_keep_83 (by decide) ?_
      refine va_iast hx hb hK hP hD hS 5 1 rfl rfl (by unfold vp_in; decide) dX8_keep_84 (fun H locs hP hD hS => ?_)
      have hP : va_P D classes [((a 0), .inr (8, [.ref (a 1), .ref (a 2), .ref (a 3), .ref (a 4), .ref (a 5), .int 0, .int (-1), .int 0, .long 0, .int 0, .int 0, .int 0, .int 0, .ref (a 14), .ref (a 15), .ref (a 16), .int 0, .ref (a 18), .ref (a 19), .ref (a 20), .ref (a 21), .ref (a 22), .ref (a 23), .int 0, .ref (a 25), .ref (a 26), .ref (a 27), .ref (a 28), .ref (a 29), .ref (a 30), .int 0, .ref (a 32), .ref (a 33), .ref (a 34), .int 0, .ref (a 36), .ref (a 37), .int 0, .int 0, .ref (a 40), .ref (a 41), .int 0, .ref (a 43), .ref (a 44)])), ((a 32), .inl (k 2, 24, .inl (fun _ => 0))), ((a 36), .inl (k 1, 4, .inl (fun _ => 0))), ((a 37), .inl (k 1, 4, .inl (fun _ => 0))), ((a 43), .inl (k 2, 2, .inl (fun _ => 0))), ((a 44), .inl (k 1, 70, .inl (upd f_57 (Int32.toNatClampNeg 55) 0)))] H := hP
      have hD : va_D A [((a 0), .inr (8, [.ref (a 1), .ref (a 2), .ref (a 3), .ref (a 4), .ref (a 5), .int 0, .int (-1), .int 0, .long 0, .int 0, .int 0, .int 0, .int 0, .ref (a 14), .ref (a 15), .ref (a 16), .int 0, .ref (a 18), .ref (a 19), .ref (a 20), .ref (a 21), .ref (a 22), .ref (a 23), .int 0, .ref (a 25), .ref (a 26), .ref (a 27), .ref (a 28), .ref (a 29), .ref (a 30), .int 0, .ref (a 32), .ref (a 33), .ref (a 34), .int 0, .ref (a 36), .ref (a 37), .int 0, .int 0, .ref (a 40), .ref (a 41), .int 0, .ref (a 43), .ref (a 44)])), ((a 32), .inl (k 2, 24, .inl (fun _ => 0))), ((a 36), .inl (k 1, 4, .inl (fun _ => 0))), ((a 37), .inl (k 1, 4, .inl (fun _ => 0))), ((a 43), .inl (k 2, 2, .inl (fun _ => 0))), ((a 44), .inl (k 1, 70, .inl (upd f_57 (Int32.toNatClampNeg 55) 0)))] := hD
      generalize (upd f_57 (Int32.toNatClampNeg 55) 0) = f_58 at hP hD
      refine lv_iinc (v := 18) (lv' := [(3, .int 18), (2, .int 35), (0, .ref (a 0)), (1, .int 1)]) hx hb dX8_keep_85 hl (k := 0) rfl (by decide) (by decide) rfl (fun ls hl => ?_)
      refine lv_goto (tgt := 55) hx hb dX8_keep_88 (by decide) ?_
      refine lv_iload_n hx hb dX8_keep_55 rfl (lv_at hl 0 rfl) ?_
      refine lv_bipush (v := 24) hx hb dX8_keep_56 (by decide) ?_
      refine lv_icmp_ge (tgt := 91) hx hb dX8_keep_58 (by decide) (fun h => absurd h (by decide)) (fun _ => ?_)
      refine lv_aload_n hx hb dX8_keep_61 rfl (lv_at hl 2 rfl) ?_
      refine va_get (D := D) (ci := 8) (v := .ref (a 44)) (C := RX8) (T := TX8) (N := 44) hx hb hts inX8 hown hK hP 0 rfl rfl 43 (by decide) (hts _ tw_1016) (fun _ h9 => h9) rfl dX8_keep_62 ?_
      refine lv_iload_n hx hb dX8_keep_65 rfl (lv_at hl 1 rfl) ?_
      refine lv_iconst (v := 3) hx hb dX8_keep_66 (by decide) ?_
      refine lv_iadd hx hb dX8_keep_67 ?_
      refine lv_ti (y := 38) (by decide) ?_
      refine lv_iload_n hx hb dX8_keep_68 rfl (lv_at hl 0 rfl) ?_
      refine lv_iadd hx hb dX8_keep_69 ?_
      refine lv_ti (y := 56) (by decide) ?_
      refine lv_aload_n hx hb dX8_keep_70 rfl (lv_at hl 2 rfl) ?_
      refine va_get (D := D) (ci := 8) (v := .ref (a 32)) (C := RX8) (T := TX8) (N := 44) hx hb hts inX8 hown hK hP 0 rfl rfl 31 (by decide) (hts _ tw_1004) (fun _ h9 => h9) rfl dX8_keep_71 ?_
      refine lv_iload_n hx hb dX8_keep_74 rfl (lv_at hl 0 rfl) ?_
      refine va_zald hx hb hK hP 1 2 rfl rfl (by unfold vp_in; decide) dX8_keep_75 ?_
      refine lv_ti (y := 0) (by rfl) ?_
      refine lv_if_eq (tgt := 83) hx hb dX8_keep_76 (by decide) (fun _ => ?_) (fun h => absurd (by decide) h)
      refine lv_iconst (v := 0) hx hb dX8_keep_83 (by decide) ?_
      refine va_iast hx hb hK hP hD hS 5 1 rfl rfl (by unfold vp_in; decide) dX8_keep_84 (fun H locs hP hD hS => ?_)
      have hP : va_P D classes [((a 0), .inr (8, [.ref (a 1), .ref (a 2), .ref (a 3), .ref (a 4), .ref (a 5), .int 0, .int (-1), .int 0, .long 0, .int 0, .int 0, .int 0, .int 0, .ref (a 14), .ref (a 15), .ref (a 16), .int 0, .ref (a 18), .ref (a 19), .ref (a 20), .ref (a 21), .ref (a 22), .ref (a 23), .int 0, .ref (a 25), .ref (a 26), .ref (a 27), .ref (a 28), .ref (a 29), .ref (a 30), .int 0, .ref (a 32), .ref (a 33), .ref (a 34), .int 0, .ref (a 36), .ref (a 37), .int 0, .int 0, .ref (a 40), .ref (a 41), .int 0, .ref (a 43), .ref (a 44)])), ((a 32), .inl (k 2, 24, .inl (fun _ => 0))), ((a 36), .inl (k 1, 4, .inl (fun _ => 0))), ((a 37), .inl (k 1, 4, .inl (fun _ => 0))), ((a 43), .inl (k 2, 2, .inl (fun _ => 0))), ((a 44), .inl (k 1, 70, .inl (upd f_58 (Int32.toNatClampNeg 56) 0)))] H := hP
      have hD : va_D A [((a 0), .inr (8, [.ref (a 1), .ref (a 2), .ref (a 3), .ref (a 4), .ref (a 5), .int 0, .int (-1), .int 0, .long 0, .int 0, .int 0, .int 0, .int 0, .ref (a 14), .ref (a 15), .ref (a 16), .int 0, .ref (a 18), .ref (a 19), .ref (a 20), .ref (a 21), .ref (a 22), .ref (a 23), .int 0, .ref (a 25), .ref (a 26), .ref (a 27), .ref (a 28), .ref (a 29), .ref (a 30), .int 0, .ref (a 32), .ref (a 33), .ref (a 34), .int 0, .ref (a 36), .ref (a 37), .int 0, .int 0, .ref (a 40), .ref (a 41), .int 0, .ref (a 43), .ref (a 44)])), ((a 32), .inl (k 2, 24, .inl (fun _ => 0))), ((a 36), .inl (k 1, 4, .inl (fun _ => 0))), ((a 37), .inl (k 1, 4, .inl (fun _ => 0))), ((a 43), .inl (k 2, 2, .inl (fun _ => 0))), ((a 44), .inl (k 1, 70, .inl (upd f_58 (Int32.toNatClampNeg 56) 0)))] := hD
      generalize (upd f_58 (Int32.toNatClampNeg 56) 0) = f_59 at hP hD
      refine lv_iinc (v := 19) (lv' := [(3, .int 19), (2, .int 35), (0, .ref (a 0)), (1, .int 1)]) hx hb dX8_keep_85 hl (k := 0) rfl (by decide) (by decide) rfl (fun ls hl => ?_)
      refine lv_goto (tgt := 55) hx hb dX8_keep_88 (by decide) ?_
      refine lv_iload_n hx hb dX8_keep_55 rfl (lv_at hl 0 rfl) ?_
      refine lv_bipush (v := 24) hx hb dX8_keep_56 (by decide) ?_
      refine lv_icmp_ge (tgt := 91) hx hb dX8_keep_58 (by decide) (fun h => absurd h (by decide)) (fun _ => ?_)
      refine lv_aload_n hx hb dX8_keep_61 rfl (lv_at hl 2 rfl) ?_
      refine va_get (D := D) (ci := 8) (v := .ref (a 44)) (C := RX8) (T := TX8) (N := 44) hx hb hts inX8 hown hK hP 0 rfl rfl 43 (by decide) (hts _ tw_1016) (fun _ h9 => h9) rfl dX8_keep_62 ?_
      refine lv_iload_n hx hb dX8_keep_65 rfl (lv_at hl 1 rfl) ?_
      refine lv_iconst (v := 3) hx hb dX8_keep_66 (by decide) ?_
      refine lv_iadd hx hb dX8_keep_67 ?_
      refine lv_ti (y := 38) (by decide) ?_
      refine lv_iload_n hx hb dX8_keep_68 rfl (lv_at hl 0 rfl) ?_
      refine lv_iadd hx hb dX8_keep_69 ?_
      refine lv_ti (y := 57) (by decide) ?_
      refine lv_aload_n hx hb dX8_keep_70 rfl (lv_at hl 2 rfl) ?_
      refine va_get (D := D) (ci := 8) (v := .ref (a 32)) (C := RX8) (T := TX8) (N := 44) hx hb hts inX8 hown hK hP 0 rfl rfl 31 (by decide) (hts _ tw_1004) (fun _ h9 => h9) rfl dX8_keep_71 ?_
      refine lv_iload_n hx hb dX8_keep_74 rfl (lv_at hl 0 rfl) ?_
      refine va_zald hx hb hK hP 1 2 rfl rfl (by unfold vp_in; decide) dX8_keep_75 ?_
      refine lv_ti (y := 0) (by rfl) ?_
      refine lv_if_eq (tgt := 83) hx hb dX8_keep_76 (by decide) (fun _ => ?_) (fun h => absurd (by decide) h)
      refine lv_iconst (v := 0) hx hb dX8_keep_83 (by decide) ?_
      refine va_iast hx hb hK hP hD hS 5 1 rfl rfl (by unfold vp_in; decide) dX8_keep_84 (fun H locs hP hD hS => ?_)
      have hP : va_P D classes [((a 0), .inr (8, [.ref (a 1), .ref (a 2), .ref (a 3), .ref (a 4), .ref (a 5), .int 0, .int (-1), .int 0, .long 0, .int 0, .int 0, .int 0, .int 0, .ref (a 14), .ref (a 15), .ref (a 16), .int 0, .ref (a 18), .ref (a 19), .ref (a 20), .ref (a 21), .ref (a 22), .ref (a 23), .int 0, .ref (a 25), .ref (a 26), .ref (a 27), .ref (a 28), .ref (a 29), .ref (a 30), .int 0, .ref (a 32), .ref (a 33), .ref (a 34), .int 0, .ref (a 36), .ref (a 37), .int 0, .int 0, .ref (a 40), .ref (a 41), .int 0, .ref (a 43), .ref (a 44)])), ((a 32), .inl (k 2, 24, .inl (fun _ => 0))), ((a 36), .inl (k 1, 4, .inl (fun _ => 0))), ((a 37), .inl (k 1, 4, .inl (fun _ => 0))), ((a 43), .inl (k 2, 2, .inl (fun _ => 0))), ((a 44), .inl (k 1, 70, .inl (upd f_59 (Int32.toNatClampNeg 57) 0)))] H := hP
      have hD : va_D A [((a 0), .inr (8, [.ref (a 1), .ref (a 2), .ref (a 3), .ref (a 4), .ref (a 5), .int 0, .int (-1), .int 0, .long 0, .int 0, .int 0, .int 0, .int 0, .ref (a 14), .ref (a 15), .ref (a 16), .int 0, .ref (a 18), .ref (a 19), .ref (a 20), .ref (a 21), .ref (a 22), .ref (a 23), .int 0, .ref (a 25), .ref (a 26), .ref (a 27), .ref (a 28), .ref (a 29), .ref (a 30), .int 0, .ref (a 32), .ref (a 33), .ref (a 34), .int 0, .ref (a 36), .ref (a 37), .int 0, .int 0, .ref (a 40), .ref (a 41), .int 0, .ref (a 43), .ref (a 44)])), ((a 32), .inl (k 2, 24, .inl (fun _ => 0))), ((a 36), .inl (k 1, 4, .inl (fun _ => 0))), ((a 37), .inl (k 1, 4, .inl (fun _ => 0))), ((a 43), .inl (k 2, 2, .inl (fun _ => 0))), ((a 44), .inl (k 1, 70, .inl (upd f_59 (Int32.toNatClampNeg 57) 0)))] := hD
      generalize (upd f_59 (Int32.toNatClampNeg 57) 0) = f_60 at hP hD
      refine lv_iinc (v := 20) (lv' := [(3, .int 20), (2, .int 35), (0, .ref (a 0)), (1, .int 1)]) hx hb dX8_keep_85 hl (k := 0) rfl (by decide) (by decide) rfl (fun ls hl => ?_)
      refine lv_goto (tgt := 55) hx hb dX8_keep_88 (by decide) ?_
      refine lv_iload_n hx hb dX8_keep_55 rfl (lv_at hl 0 rfl) ?_
      refine lv_bipush (v := 24) hx hb dX8_keep_56 (by decide) ?_
      refine lv_icmp_ge (tgt := 91) hx hb dX8_keep_58 (by decide) (fun h => absurd h (by decide)) (fun _ => ?_)
      refine lv_aload_n hx hb dX8_keep_61 rfl (lv_at hl 2 rfl) ?_
      refine va_get (D := D) (ci := 8) (v := .ref (a 44)) (C := RX8) (T := TX8) (N := 44) hx hb hts inX8 hown hK hP 0 rfl rfl 43 (by decide) (hts _ tw_1016) (fun _ h9 => h9) rfl dX8_keep_62 ?_
      refine lv_iload_n hx hb dX8_keep_65 rfl (lv_at hl 1 rfl) ?_
      refine lv_iconst (v := 3) hx hb dX8_keep_66 (by decide) ?_
      refine lv_iadd hx hb dX8_keep_67 ?_
      refine lv_ti (y := 38) (by decide) ?_
      refine lv_iload_n hx hb dX8_keep_68 rfl (lv_at hl 0 rfl) ?_
      refine lv_iadd hx hb dX8_keep_69 ?_
      refine lv_ti (y := 58) (by decide) ?_
      refine lv_aload_n hx hb dX8_keep_70 rfl (lv_at hl 2 rfl) ?_
      refine va_get (D := D) (ci := 8) (v := .ref (a 32)) (C := RX8) (T := TX8) (N := 44) hx hb hts inX8 hown hK hP 0 rfl rfl 31 (by decide) (hts _ tw_1004) (fun _ h9 => h9) rfl dX8_keep_71 ?_
      refine lv_iload_n hx hb dX8_keep_74 rfl (lv_at hl 0 rfl) ?_
      refine va_zald hx hb hK hP 1 2 rfl rfl (by unfold vp_in; decide) dX8_keep_75 ?_
      refine lv_ti (y := 0) (by rfl) ?_
      refine lv_if_eq (tgt := 83) hx hb dX8_keep_76 (by decide) (fun _ => ?_) (fun h => absurd (by decide) h)
      refine lv_iconst (v := 0) hx hb dX8_keep_83 (by decide) ?_
      refine va_iast hx hb hK hP hD hS 5 1 rfl rfl (by unfold vp_in; decide) dX8_keep_84 (fun H locs hP hD hS => ?_)
      have hP : va_P D classes [((a 0), .inr (8, [.ref (a 1), .ref (a 2), .ref (a 3), .ref (a 4), .ref (a 5), .int 0, .int (-1), .int 0, .long 0, .int 0, .int 0, .int 0, .int 0, .ref (a 14), .ref (a 15), .ref (a 16), .int 0, .ref (a 18), .ref (a 19), .ref (a 20), .ref (a 21), .ref (a 22), .ref (a 23), .int 0, .ref (a 25), .ref (a 26), .ref (a 27), .ref (a 28), .ref (a 29), .ref (a 30), .int 0, .ref (a 32), .ref (a 33), .ref (a 34), .int 0, .ref (a 36), .ref (a 37), .int 0, .int 0, .ref (a 40), .ref (a 41), .int 0, .ref (a 43), .ref (a 44)])), ((a 32), .inl (k 2, 24, .inl (fun _ => 0))), ((a 36), .inl (k 1, 4, .inl (fun _ => 0))), ((a 37), .inl (k 1, 4, .inl (fun _ => 0))), ((a 43), .inl (k 2, 2, .inl (fun _ => 0))), ((a 44), .inl (k 1, 70, .inl (upd f_60 (Int32.toNatClampNeg 58) 0)))] H := hP
      have hD : va_D A [((a 0), .inr (8, [.ref (a 1), .ref (a 2), .ref (a 3), .ref (a 4), .ref (a 5), .int 0, .int (-1), .int 0, .long 0, .int 0, .int 0, .int 0, .int 0, .ref (a 14), .ref (a 15), .ref (a 16), .int 0, .ref (a 18), .ref (a 19), .ref (a 20), .ref (a 21), .ref (a 22), .ref (a 23), .int 0, .ref (a 25), .ref (a 26), .ref (a 27), .ref (a 28), .ref (a 29), .ref (a 30), .int 0, .ref (a 32), .ref (a 33), .ref (a 34), .int 0, .ref (a 36), .ref (a 37), .int 0, .int 0, .ref (a 40), .ref (a 41), .int 0, .ref (a 43), .ref (a 44)])), ((a 32), .inl (k 2, 24, .inl (fun _ => 0))), ((a 36), .inl (k 1, 4, .inl (fun _ => 0))), ((a 37), .inl (k 1, 4, .inl (fun _ => 0))), ((a 43), .inl (k 2, 2, .inl (fun _ => 0))), ((a 44), .inl (k 1, 70, .inl (upd f_60 (Int32.toNatClampNeg 58) 0)))] := hD
      generalize (upd f_60 (Int32.toNatClampNeg 58) 0) = f_61 at hP hD
      refine lv_iinc (v := 21) (lv' := [(3, .int 21), (2, .int 35), (0, .ref (a 0)), (1, .int 1)]) hx hb dX8_keep_85 hl (k := 0) rfl (by decide) (by decide) rfl (fun ls hl => ?_)
      refine lv_goto (tgt := 55) hx hb dX8_keep_88 (by decide) ?_
      refine lv_iload_n hx hb dX8_keep_55 rfl (lv_at hl 0 rfl) ?_
      refine lv_bipush (v := 24) hx hb dX8_keep_56 (by decide) ?_
      refine lv_icmp_ge (tgt := 91) hx hb dX8_keep_58 (by decide) (fun h => absurd h (by decide)) (fun _ => ?_)
      refine lv_aload_n hx hb dX8_keep_61 rfl (lv_at hl 2 rfl) ?_
      refine va_get (D := D) (ci := 8) (v := .ref (a 44)) (C := RX8) (T := TX8) (N := 44) hx hb hts inX8 hown hK hP 0 rfl rfl 43 (by decide) (hts _ tw_1016) (fun _ h9 => h9) rfl dX8_keep_62 ?_
      refine lv_iload_n hx hb dX8_keep_65 rfl (lv_at hl 1 rfl) ?_
      refine lv_iconst (v := 3) hx hb dX8_keep_66 (by decide) ?_
      refine lv_iadd hx hb dX8_keep_67 ?_
      refine lv_ti (y := 38) (by decide) ?_
      refine lv_iload_n hx hb dX8_keep_68 rfl (lv_at hl 0 rfl) ?_
      refine lv_iadd hx hb dX8_keep_69 ?_
      refine lv_ti (y := 59) (by decide) ?_
      refine lv_aload_n hx hb dX8_keep_70 rfl (lv_at hl 2 rfl) ?_
      refine va_get (D := D) (ci := 8) (v := .ref (a 32)) (C := RX8) (T := TX8) (N := 44) hx hb hts inX8 hown hK hP 0 rfl rfl 31 (by decide) (hts _ tw_1004) (fun _ h9 => h9) rfl dX8_keep_71 ?_
      refine lv_iload_n hx hb dX8_keep_74 rfl (lv_at hl 0 rfl) ?_
      refine va_zald hx hb hK hP 1 2 rfl rfl (by unfold vp_in; decide) dX8_keep_75 ?_
      refine lv_ti (y := 0) (by rfl) ?_
      refine lv_if_eq (tgt := 83) hx hb dX8_keep_76 (by decide) (fun _ => ?_) (fun h => absurd (by decide) h)
      refine lv_iconst (v := 0) hx hb dX8_keep_83 (by decide) ?_
      refine va_iast hx hb hK hP hD hS 5 1 rfl rfl (by unfold vp_in; decide) dX8_keep_84 (fun H locs hP hD hS => ?_)
      have hP : va_P D classes [((a 0), .inr (8, [.ref (a 1), .ref (a 2), .ref (a 3), .ref (a 4), .ref (a 5), .int 0, .int (-1), .int 0, .long 0, .int 0, .int 0, .int 0, .int 0, .ref (a 14), .ref (a 15), .ref (a 16), .int 0, .ref (a 18), .ref (a 19), .ref (a 20), .ref (a 21), .ref (a 22), .ref (a 23), .int 0, .ref (a 25), .ref (a 26), .ref (a 27), .ref (a 28), .ref (a 29), .ref (a 30), .int 0, .ref (a 32), .ref (a 33), .ref (a 34), .int 0, .ref (a 36), .ref (a 37), .int 0, .int 0, .ref (a 40), .ref (a 41), .int 0, .ref (a 43), .ref (a 44)])), ((a 32), .inl (k 2, 24, .inl (fun _ => 0))), ((a 36), .inl (k 1, 4, .inl (fun _ => 0))), ((a 37), .inl (k 1, 4, .inl (fun _ => 0))), ((a 43), .inl (k 2, 2, .inl (fun _ => 0))), ((a 44), .inl (k 1, 70, .inl (upd f_61 (Int32.toNatClampNeg 59) 0)))] H := hP
      have hD : va_D A [((a 0), .inr (8, [.ref (a 1), .ref (a 2), .ref (a 3), .ref (a 4), .ref (a 5), .int 0, .int (-1), .int 0, .long 0, .int 0, .int 0, .int 0, .int 0, .ref (a 14), .ref (a 15), .ref (a 16), .int 0, .ref (a 18), .ref (a 19), .ref (a 20), .ref (a 21), .ref (a 22), .ref (a 23), .int 0, .ref (a 25), .ref (a 26), .ref (a 27), .ref (a 28), .ref (a 29), .ref (a 30), .int 0, .ref (a 32), .ref (a 33), .ref (a 34), .int 0, .ref (a 36), .ref (a 37), .int 0, .int 0, .ref (a 40), .ref (a 41), .int 0, .ref (a 43), .ref (a 44)])), ((a 32), .inl (k 2, 24, .inl (fun _ => 0))), ((a 36), .inl (k 1, 4, .inl (fun _ => 0))), ((a 37), .inl (k 1, 4, .inl (fun _ => 0))), ((a 43), .inl (k 2, 2, .inl (fun _ => 0))), ((a 44), .inl (k 1, 70, .inl (upd f_61 (Int32.toNatClampNeg 59) 0)))] := hD
      generalize (upd f_61 (Int32.toNatClampNeg 59) 0) = f_62 at hP hD
      refine lv_iinc (v := 22) (lv' := [(3, .int 22), (2, .int 35), (0, .ref (a 0)), (1, .int 1)]) hx hb dX8_keep_85 hl (k := 0) rfl (by decide) (by decide) rfl (fun ls hl => ?_)
      refine lv_goto (tgt := 55) hx hb dX8_keep_88 (by decide) ?_
      refine lv_iload_n hx hb dX8_keep_55 rfl (lv_at hl 0 rfl) ?_
      refine lv_bipush (v := 24) hx hb dX8_keep_56 (by decide) ?_
      refine lv_icmp_ge (tgt := 91) hx hb dX8_keep_58 (by decide) (fun h => absurd h (by decide)) (fun _ => ?_)
      refine lv_aload_n hx hb dX8_keep_61 rfl (lv_at hl 2 rfl) ?_
      refine va_get (D := D) (ci := 8) (v := .ref (a 44)) (C := RX8) (T := TX8) (N := 44) hx hb hts inX8 hown hK hP 0 rfl rfl 43 (by decide) (hts _ tw_1016) (fun _ h9 => h9) rfl dX8_keep_62 ?_
      refine lv_iload_n hx hb dX8_keep_65 rfl (lv_at hl 1 rfl) ?_
      refine lv_iconst (v := 3) hx hb dX8_keep_66 (by decide) ?_
      refine lv_iadd hx hb dX8_keep_67 ?_
      refine lv_ti (y := 38) (by decide) ?_
      refine lv_iload_n hx hb dX8_keep_68 rfl (lv_at hl 0 rfl) ?_
      refine lv_iadd hx hb dX8_keep_69 ?_
      refine lv_ti (y := 60) (by decide) ?_
      refine lv_aload_n hx hb dX8_keep_70 rfl (lv_at hl 2 rfl) ?_
      refine va_get (D := D) (ci := 8) (v := .ref (a 32)) (C := RX8) (T := TX8) (N := 44) hx hb hts inX8 hown hK hP 0 rfl rfl 31 (by decide) (hts _ tw_1004) (fun _ h9 => h9) rfl dX8_keep_71 ?_
      refine lv_iload_n hx hb dX8_keep_74 rfl (lv_at hl 0 rfl) ?_
      refine va_zald hx hb hK hP 1 2 rfl rfl (by unfold vp_in; decide) dX8_keep_75 ?_
      refine lv_ti (y := 0) (by rfl) ?_
      refine lv_if_eq (tgt := 83) hx hb dX8_keep_76 (by decide) (fun _ => ?_) (fun h => absurd (by decide) h)
      refine lv_iconst (v := 0) hx hb dX8_keep_83 (by decide) ?_
      refine va_iast hx hb hK hP hD hS 5 1 rfl rfl (by unfold vp_in; decide) dX8_keep_84 (fun H locs hP hD hS => ?_)
      have hP : va_P D classes [((a 0), .inr (8, [.ref (a 1), .ref (a 2), .ref (a 3), .ref (a 4), .ref (a 5), .int 0, .int (-1), .int 0, .long 0, .int 0, .int 0, .int 0, .int 0, .ref (a 14), .ref (a 15), .ref (a 16), .int 0, .ref (a 18), .ref (a 19), .ref (a 20), .ref (a 21), .ref (a 22), .ref (a 23), .int 0, .ref (a 25), .ref (a 26), .ref (a 27), .ref (a 28), .ref (a 29), .ref (a 30), .int 0, .ref (a 32), .ref (a 33), .ref (a 34), .int 0, .ref (a 36), .ref (a 37), .int 0, .int 0, .ref (a 40), .ref (a 41), .int 0, .ref (a 43), .ref (a 44)])), ((a 32), .inl (k 2, 24, .inl (fun _ => 0))), ((a 36), .inl (k 1, 4, .inl (fun _ => 0))), ((a 37), .inl (k 1, 4, .inl (fun _ => 0))), ((a 43), .inl (k 2, 2, .inl (fun _ => 0))), ((a 44), .inl (k 1, 70, .inl (upd f_62 (Int32.toNatClampNeg 60) 0)))] H := hP
      have hD : va_D A [((a 0), .inr (8, [.ref (a 1), .ref (a 2), .ref (a 3), .ref (a 4), .ref (a 5), .int 0, .int (-1), .int 0, .long 0, .int 0, .int 0, .int 0, .int 0, .ref (a 14), .ref (a 15), .ref (a 16), .int 0, .ref (a 18), .ref (a 19), .ref (a 20), .ref (a 21), .ref (a 22), .ref (a 23), .int 0, .ref (a 25), .ref (a 26), .ref (a 27), .ref (a 28), .ref (a 29), .ref (a 30), .int 0, .ref (a 32), .ref (a 33), .ref (a 34), .int 0, .ref (a 36), .ref (a 37), .int 0, .int 0, .ref (a 40), .ref (a 41), .int 0, .ref (a 43), .ref (a 44)])), ((a 32), .inl (k 2, 24, .inl (fun _ => 0))), ((a 36), .inl (k 1, 4, .inl (fun _ => 0))), ((a 37), .inl (k 1, 4, .inl (fun _ => 0))), ((a 43), .inl (k 2, 2, .inl (fun _ => 0))), ((a 44), .inl (k 1, 70, .inl (upd f_62 (Int32.toNatClampNeg 60) 0)))] := hD
      generalize (upd f_62 (Int32.toNatClampNeg 60) 0) = f_63 at hP hD
      refine lv_iinc (v := 23) (lv' := [(3, .int 23), (2, .int 35), (0, .ref (a 0)), (1, .int 1)]) hx hb dX8_keep_85 hl (k := 0) rfl (by decide) (by decide) rfl (fun ls hl => ?_)
      refine lv_goto (tgt := 55) hx hb dX8_keep_88 (by decide) ?_
      refine lv_iload_n hx hb dX8_keep_55 rfl (lv_at hl 0 rfl) ?_
      refine lv_bipush (v := 24) hx hb dX8_keep_56 (by decide) ?_
      refine lv_icmp_ge (tgt := 91) hx hb dX8_keep_58 (by decide) (fun h => absurd h (by decide)) (fun _ => ?_)
      refine lv_aload_n hx hb dX8_keep_61 rfl (lv_at hl 2 rfl) ?_
      refine va_get (D := D) (ci := 8) (v := .ref (a 44)) (C := RX8) (T := TX8) (N := 44) hx hb hts inX8 hown hK hP 0 rfl rfl 43 (by decide) (hts _ tw_1016) (fun _ h9 => h9) rfl dX8_keep_62 ?_
      refine lv_iload_n hx hb dX8_keep_65 rfl (lv_at hl 1 rfl) ?_
      refine lv_iconst (v := 3) hx hb dX8_keep_66 (by decide) ?_
      refine lv_iadd hx hb dX8_keep_67 ?_
      refine lv_ti (y := 38) (by decide) ?_
      refine lv_iload_n hx hb dX8_keep_68 rfl (lv_at hl 0 rfl) ?_
      refine lv_iadd hx hb dX8_keep_69 ?_
      refine lv_ti (y := 61) (by decide) ?_
      refine lv_aload_n hx hb dX8_keep_70 rfl (lv_at hl 2 rfl) ?_
      refine va_get (D := D) (ci := 8) (v := .ref (a 32)) (C := RX8) (T := TX8) (N := 44) hx hb hts inX8 hown hK hP 0 rfl rfl 31 (by decide) (hts _ tw_1004) (fun _ h9 => h9) rfl dX8_keep_71 ?_
      refine lv_iload_n hx hb dX8_keep_74 rfl (lv_at hl 0 rfl) ?_
      refine va_zald hx hb hK hP 1 2 rfl rfl (by unfold vp_in; decide) dX8_keep_75 ?_
      refine lv_ti (y := 0) (by rfl) ?_
      refine lv_if_eq (tgt := 83) hx hb dX8_keep_76 (by decide) (fun _ => ?_) (fun h => absurd (by decide) h)
      refine lv_iconst (v := 0) hx hb dX8_keep_83 (by decide) ?_
      refine va_iast hx hb hK hP hD hS 5 1 rfl rfl (by unfold vp_in; decide) dX8_keep_84 (fun H locs hP hD hS => ?_)
      have hP : va_P D classes [((a 0), .inr (8, [.ref (a 1), .ref (a 2), .ref (a 3), .ref (a 4), .ref (a 5), .int 0, .int (-1), .int 0, .long 0, .int 0, .int 0, .int 0, .int 0, .ref (a 14), .ref (a 15), .ref (a 16), .int 0, .ref (a 18), .ref (a 19), .ref (a 20), .ref (a 21), .ref (a 22), .ref (a 23), .int 0, .ref (a 25), .ref (a 26), .ref (a 27), .ref (a 28), .ref (a 29), .ref (a 30), .int 0, .ref (a 32), .ref (a 33), .ref (a 34), .int 0, .ref (a 36), .ref (a 37), .int 0, .int 0, .ref (a 40), .ref (a 41), .int 0, .ref (a 43), .ref (a 44)])), ((a 32), .inl (k 2, 24, .inl (fun _ => 0))), ((a 36), .inl (k 1, 4, .inl (fun _ => 0))), ((a 37), .inl (k 1, 4, .inl (fun _ => 0))), ((a 43), .inl (k 2, 2, .inl (fun _ => 0))), ((a 44), .inl (k 1, 70, .inl (upd f_63 (Int32.toNatClampNeg 61) 0)))] H := hP
      have hD : va_D A [((a 0), .inr (8, [.ref (a 1), .ref (a 2), .ref (a 3), .ref (a 4), .ref (a 5), .int 0, .int (-1), .int 0, .long 0, .int 0, .int 0, .int 0, .int 0, .ref (a 14), .ref (a 15), .ref (a 16), .int 0, .ref (a 18), .ref (a 19), .ref (a 20), .ref (a 21), .ref (a 22), .ref (a 23), .int 0, .ref (a 25), .ref (a 26), .ref (a 27), .ref (a 28), .ref (a 29), .ref (a 30), .int 0, .ref (a 32), .ref (a 33), .ref (a 34), .int 0, .ref (a 36), .ref (a 37), .int 0, .int 0, .ref (a 40), .ref (a 41), .int 0, .ref (a 43), .ref (a 44)])), ((a 32), .inl (k 2, 24, .inl (fun _ => 0))), ((a 36), .inl (k 1, 4, .inl (fun _ => 0))), ((a 37), .inl (k 1, 4, .inl (fun _ => 0))), ((a 43), .inl (k 2, 2, .inl (fun _ => 0))), ((a 44), .inl (k 1, 70, .inl (upd f_63 (Int32.toNatClampNeg 61) 0)))] := hD
      generalize (upd f_63 (Int32.toNatClampNeg 61) 0) = f_64 at hP hD
      refine lv_iinc (v := 24) (lv' := [(3, .int 24), (2, .int 35), (0, .ref (a 0)), (1, .int 1)]) hx hb dX8_keep_85 hl (k := 0) rfl (by decide) (by decide) rfl (fun ls hl => ?_)
      refine lv_goto (tgt := 55) hx hb dX8_keep_88 (by decide) ?_
      refine lv_iload_n hx hb dX8_keep_55 rfl (lv_at hl 0 rfl) ?_
      refine lv_bipush (v := 24) hx hb dX8_keep_56 (by decide) ?_
      refine lv_icmp_ge (tgt := 91) hx hb dX8_keep_58 (by decide) (fun _ => ?_) (fun h => absurd (by decide) h)
      refine lv_iconst (v := 0) hx hb dX8_keep_91 (by decide) ?_
      refine lv_istore_n (lv' := [(3, .int 0), (2, .int 35), (0, .ref (a 0)), (1, .int 1)]) hx hb dX8_keep_92 rfl hl (by decide) rfl (fun ls hl => ?_)
      refine lv_iload_n hx hb dX8_keep_93 rfl (lv_at hl 0 rfl) ?_
      refine lv_iconst (v := 4) hx hb dX8_keep_94 (by decide) ?_
      refine lv_icmp_ge (tgt := 138) hx hb dX8_keep_95 (by decide) (fun h => absurd h (by decide)) (fun _ => ?_)
      refine lv_aload_n hx hb dX8_keep_98 rfl (lv_at hl 2 rfl) ?_
      refine va_get (D := D) (ci := 8) (v := .ref (a 44)) (C := RX8) (T := TX8) (N := 44) hx hb hts inX8 hown hK hP 0 rfl rfl 43 (by decide) (hts _ tw_1016) (fun _ h9 => h9) rfl dX8_keep_99 ?_
      refine lv_iload_n hx hb dX8_keep_102 rfl (lv_at hl 1 rfl) ?_
      refine lv_bipush (v := 27) hx hb dX8_keep_103 (by decide) ?_
      refine lv_iadd hx hb dX8_keep_105 ?_
      refine lv_ti (y := 62) (by decide) ?_
      refine lv_iload_n hx hb dX8_keep_106 rfl (lv_at hl 0 rfl) ?_
      refine lv_iadd hx hb dX8_keep_107 ?_
      refine lv_ti (y := 62) (by decide) ?_
      refine lv_aload_n hx hb dX8_keep_108 rfl (lv_at hl 2 rfl) ?_
      refine va_get (D := D) (ci := 8) (v := .ref (a 36)) (C := RX8) (T := TX8) (N := 44) hx hb hts inX8 hown hK hP 0 rfl rfl 35 (by decide) (hts _ tw_1008) (fun _ h9 => h9) rfl dX8_keep_109 ?_
      refine lv_iload_n hx hb dX8_keep_112 rfl (lv_at hl 0 rfl) ?_
      refine va_iald hx hb hK hP 2 1 rfl rfl (by unfold vp_in; decide) dX8_keep_113 ?_
      refine lv_ti (y := 0) (by rfl) ?_
      refine va_iast hx hb hK hP hD hS 5 1 rfl rfl (by unfold vp_in; decide) dX8_keep_114 (fun H locs hP hD hS => ?_)
      have hP : va_P D classes [((a 0), .inr (8, [.ref (a 1), .ref (a 2), .ref (a 3), .ref (a 4), .ref (a 5), .int 0, .int (-1), .int 0, .long 0, .int 0, .int 0, .int 0, .int 0, .ref (a 14), .ref (a 15), .ref (a 16), .int 0, .ref (a 18), .ref (a 19), .ref (a 20), .ref (a 21), .ref (a 22), .ref (a 23), .int 0, .ref (a 25), .ref (a 26), .ref (a 27), .ref (a 28), .ref (a 29), .ref (a 30), .int 0, .ref (a 32), .ref (a 33), .ref (a 34), .int 0, .ref (a 36), .ref (a 37), .int 0, .int 0, .ref (a 40), .ref (a 41), .int 0, .ref (a 43), .ref (a 44)])), ((a 32), .inl (k 2, 24, .inl (fun _ => 0))), ((a 36), .inl (k 1, 4, .inl (fun _ => 0))), ((a 37), .inl (k 1, 4, .inl (fun _ => 0))), ((a 43), .inl (k 2, 2, .inl (fun _ => 0))), ((a 44), .inl (k 1, 70, .inl (upd f_64 (Int32.toNatClampNeg 62) 0)))] H := hP
      have hD : va_D A [((a 0), .inr (8, [.ref (a 1), .ref (a 2), .ref (a 3), .ref (a 4), .ref (a 5), .int 0, .int (-1), .int 0, .long 0, .int 0, .int 0, .int 0, .int 0, .ref (a 14), .ref (a 15), .ref (a 16), .int 0, .ref (a 18), .ref (a 19), .ref (a 20), .ref (a 21), .ref (a 22), .ref (a 23), .int 0, .ref (a 25), .ref (a 26), .ref (a 27), .ref (a 28), .ref (a 29), .ref (a 30), .int 0, .ref (a 32), .ref (a 33), .ref (a 34), .int 0, .ref (a 36), .ref (a 37), .int 0, .int 0, .ref (a 40), .ref (a 41), .int 0, .ref (a 43), .ref (a 44)])), ((a 32), .inl (k 2, 24, .inl (fun _ => 0))), ((a 36), .inl (k 1, 4, .inl (fun _ => 0))), ((a 37), .inl (k 1, 4, .inl (fun _ => 0))), ((a 43), .inl (k 2, 2, .inl (fun _ => 0))), ((a 44), .inl (k 1, 70, .inl (upd f_64 (Int32.toNatClampNeg 62) 0)))] := hD
      generalize (upd f_64 (Int32.toNatClampNeg 62) 0) = f_65 at hP hD
      refine lv_aload_n hx hb dX8_keep_115 rfl (lv_at hl 2 rfl) ?_
      refine va_get (D := D) (ci := 8) (v := .ref (a 44)) (C := RX8) (T := TX8) (N := 44) hx hb hts inX8 hown hK hP 0 rfl rfl 43 (by decide) (hts _ tw_1016) (fun _ h9 => h9) rfl dX8_keep_116 ?_
      refine lv_iload_n hx hb dX8_keep_119 rfl (lv_at hl 1 rfl) ?_
      refine lv_bipush (v := 31) hx hb dX8_keep_120 (by decide) ?_
      refine lv_iadd hx hb dX8_keep_122 ?_
      refine lv_ti (y := 66) (by decide) ?_
      refine lv_iload_n hx hb dX8_keep_123 rfl (lv_at hl 0 rfl) ?_
      refine lv_iadd hx hb dX8_keep_124 ?_
      refine lv_ti (y := 66) (by decide) ?_
      refine lv_aload_n hx hb dX8_keep_125 rfl (lv_at hl 2 rfl) ?_
      refine va_get (D := D) (ci := 8) (v := .ref (a 37)) (C := RX8) (T := TX8) (N := 44) hx hb hts inX8 hown hK hP 0 rfl rfl 36 (by decide) (hts _ tw_1009) (fun _ h9 => h9) rfl dX8_keep_126 ?_
      refine lv_iload_n hx hb dX8_keep_129 rfl (lv_at hl 0 rfl) ?_
      refine va_iald hx hb hK hP 3 1 rfl rfl (by unfold vp_in; decide) dX8_keep_130 ?_
      refine lv_ti (y := 0) (by rfl) ?_
      refine va_iast hx hb hK hP hD hS 5 1 rfl rfl (by unfold vp_in; decide) dX8_keep_131 (fun H locs hP hD hS => ?_)
      have hP : va_P D classes [((a 0), .inr (8, [.ref (a 1), .ref (a 2), .ref (a 3), .ref (a 4), .ref (a 5), .int 0, .int (-1), .int 0, .long 0, .int 0, .int 0, .int 0, .int 0, .ref (a 14), .ref (a 15), .ref (a 16), .int 0, .ref (a 18), .ref (a 19), .ref (a 20), .ref (a 21), .ref (a 22), .ref (a 23), .int 0, .ref (a 25), .ref (a 26), .ref (a 27), .ref (a 28), .ref (a 29), .ref (a 30), .int 0, .ref (a 32), .ref (a 33), .ref (a 34), .int 0, .ref (a 36), .ref (a 37), .int 0, .int 0, .ref (a 40), .ref (a 41), .int 0, .ref (a 43), .ref (a 44)])), ((a 32), .inl (k 2, 24, .inl (fun _ => 0))), ((a 36), .inl (k 1, 4, .inl (fun _ => 0))), ((a 37), .inl (k 1, 4, .inl (fun _ => 0))), ((a 43), .inl (k 2, 2, .inl (fun _ => 0))), ((a 44), .inl (k 1, 70, .inl (upd f_65 (Int32.toNatClampNeg 66) 0)))] H := hP
      have hD : va_D A [((a 0), .inr (8, [.ref (a 1), .ref (a 2), .ref (a 3), .ref (a 4), .ref (a 5), .int 0, .int (-1), .int 0, .long 0, .int 0, .int 0, .int 0, .int 0, .ref (a 14), .ref (a 15), .ref (a 16), .int 0, .ref (a 18), .ref (a 19), .ref (a 20), .ref (a 21), .ref (a 22), .ref (a 23), .int 0, .ref (a 25), .ref (a 26), .ref (a 27), .ref (a 28), .ref (a 29), .ref (a 30), .int 0, .ref (a 32), .ref (a 33), .ref (a 34), .int 0, .ref (a 36), .ref (a 37), .int 0, .int 0, .ref (a 40), .ref (a 41), .int 0, .ref (a 43), .ref (a 44)])), ((a 32), .inl (k 2, 24, .inl (fun _ => 0))), ((a 36), .inl (k 1, 4, .inl (fun _ => 0))), ((a 37), .inl (k 1, 4, .inl (fun _ => 0))), ((a 43), .inl (k 2, 2, .inl (fun _ => 0))), ((a 44), .inl (k 1, 70, .inl (upd f_65 (Int32.toNatClampNeg 66) 0)))] := hD
      generalize (upd f_65 (Int32.toNatClampNeg 66) 0) = f_66 at hP hD
      refine lv_iinc (v := 1) (lv' := [(3, .int 1), (2, .int 35), (0, .ref (a 0)), (1, .int 1)]) hx hb dX8_keep_132 hl (k := 0) rfl (by decide) (by decide) rfl (fun ls hl => ?_)
      refine lv_goto (tgt := 93) hx hb dX8_keep_135 (by decide) ?_
      refine lv_iload_n hx hb dX8_keep_93 rfl (lv_at hl 0 rfl) ?_
      refine lv_iconst (v := 4) hx hb dX8_keep_94 (by decide) ?_
      refine lv_icmp_ge (tgt := 138) hx hb dX8_keep_95 (by decide) (fun h => absurd h (by decide)) (fun _ => ?_)
      refine lv_aload_n hx hb dX8_keep_98 rfl (lv_at hl 2 rfl) ?_
      refine va_get (D := D) (ci := 8) (v := .ref (a 44)) (C := RX8) (T := TX8) (N := 44) hx hb hts inX8 hown hK hP 0 rfl rfl 43 (by decide) (hts _ tw_1016) (fun _ h9 => h9) rfl dX8_keep_99 ?_
      refine lv_iload_n hx hb dX8_keep_102 rfl (lv_at hl 1 rfl) ?_
      refine lv_bipush (v := 27) hx hb dX8_keep_103 (by decide) ?_
      refine lv_iadd hx hb dX8_keep_105 ?_
      refine lv_ti (y := 62) (by decide) ?_
      refine lv_iload_n hx hb dX8_keep_106 rfl (lv_at hl 0 rfl) ?_
      refine lv_iadd hx hb dX8_keep_107 ?_
      refine lv_ti (y := 63) (by decide) ?_
      refine lv_aload_n hx hb dX8_keep_108 rfl (lv_at hl 2 rfl) ?_
      refine va_get (D := D) (ci := 8) (v := .ref (a 36)) (C := RX8) (T := TX8) (N := 44) hx hb hts inX8 hown hK hP 0 rfl rfl 35 (by decide) (hts _ tw_1008) (fun _ h9 => h9) rfl dX8_keep_109 ?_
      refine lv_iload_n hx hb dX8_keep_112 rfl (lv_at hl 0 rfl) ?_
      refine va_iald hx hb hK hP 2 1 rfl rfl (by unfold vp_in; decide) dX8_keep_113 ?_
      refine lv_ti (y := 0) (by rfl) ?_
      refine va_iast hx hb hK hP hD hS 5 1 rfl rfl (by unfold vp_in; decide) dX8_keep_114 (fun H locs hP hD hS => ?_)
      have hP : va_P D classes [((a 0), .inr (8, [.ref (a 1), .ref (a 2), .ref (a 3), .ref (a 4), .ref (a 5), .int 0, .int (-1), .int 0, .long 0, .int 0, .int 0, .int 0, .int 0, .ref (a 14), .ref (a 15), .ref (a 16), .int 0, .ref (a 18), .ref (a 19), .ref (a 20), .ref (a 21), .ref (a 22), .ref (a 23), .int 0, .ref (a 25), .ref (a 26), .ref (a 27), .ref (a 28), .ref (a 29), .ref (a 30), .int 0, .ref (a 32), .ref (a 33), .ref (a 34), .int 0, .ref (a 36), .ref (a 37), .int 0, .int 0, .ref (a 40), .ref (a 41), .int 0, .ref (a 43), .ref (a 44)])), ((a 32), .inl (k 2, 24, .inl (fun _ => 0))), ((a 36), .inl (k 1, 4, .inl (fun _ => 0))), ((a 37), .inl (k 1, 4, .inl (fun _ => 0))), ((a 43), .inl (k 2, 2, .inl (fun _ => 0))), ((a 44), .inl (k 1, 70, .inl (upd f_66 (Int32.toNatClampNeg 63) 0)))] H := hP
      have hD : va_D A [((a 0), .inr (8, [.ref (a 1), .ref (a 2), .ref (a 3), .ref (a 4), .ref (a 5), .int 0, .int (-1), .int 0, .long 0, .int 0, .int 0, .int 0, .int 0, .ref (a 14), .ref (a 15), .ref (a 16), .int 0, .ref (a 18), .ref (a 19), .ref (a 20), .ref (a 21), .ref (a 22), .ref (a 23), .int 0, .ref (a 25), .ref (a 26), .ref (a 27), .ref (a 28), .ref (a 29), .ref (a 30), .int 0, .ref (a 32), .ref (a 33), .ref (a 34), .int 0, .ref (a 36), .ref (a 37), .int 0, .int 0, .ref (a 40), .ref (a 41), .int 0, .ref (a 43), .ref (a 44)])), ((a 32), .inl (k 2, 24, .inl (fun _ => 0))), ((a 36), .inl (k 1, 4, .inl (fun _ => 0))), ((a 37), .inl (k 1, 4, .inl (fun _ => 0))), ((a 43), .inl (k 2, 2, .inl (fun _ => 0))), ((a 44), .inl (k 1, 70, .inl (upd f_66 (Int32.toNatClampNeg 63) 0)))] := hD
      generalize (upd f_66 (Int32.toNatClampNeg 63) 0) = f_67 at hP hD
      refine lv_aload_n hx hb dX8_keep_115 rfl (lv_at hl 2 rfl) ?_
      refine va_get (D := D) (ci := 8) (v := .ref (a 44)) (C := RX8) (T := TX8) (N := 44) hx hb hts inX8 hown hK hP 0 rfl rfl 43 (by decide) (hts _ tw_1016) (fun _ h9 => h9) rfl dX8_keep_116 ?_
      refine lv_iload_n hx hb dX8_keep_119 rfl (lv_at hl 1 rfl) ?_
      refine lv_bipush (v := 31) hx hb dX8_keep_120 (by decide) ?_
      refine lv_iadd hx hb dX8_keep_122 ?_
      refine lv_ti (y := 66) (by decide) ?_
      refine lv_iload_n hx hb dX8_keep_123 rfl (lv_at hl 0 rfl) ?_
      refine lv_iadd hx hb dX8_keep_124 ?_
      refine lv_ti (y := 67) (by decide) ?_
      refine lv_aload_n hx hb dX8_keep_125 rfl (lv_at hl 2 rfl) ?_
      refine va_get (D := D) (ci := 8) (v := .ref (a 37)) (C := RX8) (T := TX8) (N := 44) hx hb hts inX8 hown hK hP 0 rfl rfl 36 (by decide) (hts _ tw_1009) (fun _ h9 => h9) rfl dX8_keep_126 ?_
      refine lv_iload_n hx hb dX8_keep_129 rfl (lv_at hl 0 rfl) ?_
      refine va_iald hx hb hK hP 3 1 rfl rfl (by unfold vp_in; decide) dX8_keep_130 ?_
      refine lv_ti (y := 0) (by rfl) ?_
      refine va_iast hx hb hK hP hD hS 5 1 rfl rfl (by unfold vp_in; decide) dX8_keep_131 (fun H locs hP hD hS => ?_)
      have hP : va_P D classes [((a 0), .inr (8, [.ref (a 1), .ref (a 2), .ref (a 3), .ref (a 4), .ref (a 5), .int 0, .int (-1), .int 0, .long 0, .int 0, .int 0, .int 0, .int 0, .ref (a 14), .ref (a 15), .ref (a 16), .int 0, .ref (a 18), .ref (a 19), .ref (a 20), .ref (a 21), .ref (a 22), .ref (a 23), .int 0, .ref (a 25), .ref (a 26), .ref (a 27), .ref (a 28), .ref (a 29), .ref (a 30), .int 0, .ref (a 32), .ref (a 33), .ref (a 34), .int 0, .ref (a 36), .ref (a 37), .int 0, .int 0, .ref (a 40), .ref (a 41), .int 0, .ref (a 43), .ref (a 44)])), ((a 32), .inl (k 2, 24, .inl (fun _ => 0))), ((a 36), .inl (k 1, 4, .inl (fun _ => 0))), ((a 37), .inl (k 1, 4, .inl (fun _ => 0))), ((a 43), .inl (k 2, 2, .inl (fun _ => 0))), ((a 44), .inl (k 1, 70, .inl (upd f_67 (Int32.toNatClampNeg 67) 0)))] H := hP
      have hD : va_D A [((a 0), .inr (8, [.ref (a 1), .ref (a 2), .ref (a 3), .ref (a 4), .ref (a 5), .int 0, .int (-1), .int 0, .long 0, .int 0, .int 0, .int 0, .int 0, .ref (a 14), .ref (a 15), .ref (a 16), .int 0, .ref (a 18), .ref (a 19), .ref (a 20), .ref (a 21), .ref (a 22), .ref (a 23), .int 0, .ref (a 25), .ref (a 26), .ref (a 27), .ref (a 28), .ref (a 29), .ref (a 30), .int 0, .ref (a 32), .ref (a 33), .ref (a 34), .int 0, .ref (a 36), .ref (a 37), .int 0, .int 0, .ref (a 40), .ref (a 41), .int 0, .ref (a 43), .ref (a 44)])), ((a 32), .inl (k 2, 24, .inl (fun _ => 0))), ((a 36), .inl (k 1, 4, .inl (fun _ => 0))), ((a 37), .inl (k 1, 4, .inl (fun _ => 0))), ((a 43), .inl (k 2, 2, .inl (fun _ => 0))), ((a 44), .inl (k 1, 70, .inl (upd f_67 (Int32.toNatClampNeg 67) 0)))] := hD
      generalize (upd f_67 (Int32.toNatClampNeg 67) 0) = f_68 at hP hD
      refine lv_iinc (v := 2) (lv' := [(3, .int 2), (2, .int 35), (0, .ref (a 0)), (1, .int 1)]) hx hb dX8_keep_132 hl (k := 0) rfl (by decide) (by decide) rfl (fun ls hl => ?_)
      refine lv_goto (tgt := 93) hx hb dX8_keep_135 (by decide) ?_
      refine lv_iload_n hx hb dX8_keep_93 rfl (lv_at hl 0 rfl) ?_
      refine lv_iconst (v := 4) hx hb dX8_keep_94 (by decide) ?_
      refine lv_icmp_ge (tgt := 138) hx hb dX8_keep_95 (by decide) (fun h => absurd h (by decide)) (fun _ => ?_)
      refine lv_aload_n hx hb dX8_keep_98 rfl (lv_at hl 2 rfl) ?_
      refine va_get (D := D) (ci := 8) (v := .ref (a 44)) (C := RX8) (T := TX8) (N := 44) hx hb hts inX8 hown hK hP 0 rfl rfl 43 (by decide) (hts _ tw_1016) (fun _ h9 => h9) rfl dX8_keep_99 ?_
      refine lv_iload_n hx hb dX8_keep_102 rfl (lv_at hl 1 rfl) ?_
      refine lv_bipush (v := 27) hx hb dX8_keep_103 (by decide) ?_
      refine lv_iadd hx hb dX8_keep_105 ?_
      refine lv_ti (y := 62) (by decide) ?_
      refine lv_iload_n hx hb dX8_keep_106 rfl (lv_at hl 0 rfl) ?_
      refine lv_iadd hx hb dX8_keep_107 ?_
      refine lv_ti (y := 64) (by decide) ?_
      refine lv_aload_n hx hb dX8_keep_108 rfl (lv_at hl 2 rfl) ?_
      refine va_get (D := D) (ci := 8) (v := .ref (a 36)) (C := RX8) (T := TX8) (N := 44) hx hb hts inX8 hown hK hP 0 rfl rfl 35 (by decide) (hts _ tw_1008) (fun _ h9 => h9) rfl dX8_keep_109 ?_
      refine lv_iload_n hx hb dX8_keep_112 rfl (lv_at hl 0 rfl) ?_
      refine va_iald hx hb hK hP 2 1 rfl rfl (by unfold vp_in; decide) dX8_keep_113 ?_
      refine lv_ti (y := 0) (by rfl) ?_
      refine va_iast hx hb hK hP hD hS 5 1 rfl rfl (by unfold vp_in; decide) dX8_keep_114 (fun H locs hP hD hS => ?_)
      have hP : va_P D classes [((a 0), .inr (8, [.ref (a 1), .ref (a 2), .ref (a 3), .ref (a 4), .ref (a 5), .int 0, .int (-1), .int 0, .long 0, .int 0, .int 0, .int 0, .int 0, .ref (a 14), .ref (a 15), .ref (a 16), .int 0, .ref (a 18), .ref (a 19), .ref (a 20), .ref (a 21), .ref (a 22), .ref (a 23), .int 0, .ref (a 25), .ref (a 26), .ref (a 27), .ref (a 28), .ref (a 29), .ref (a 30), .int 0, .ref (a 32), .ref (a 33), .ref (a 34), .int 0, .ref (a 36), .ref (a 37), .int 0, .int 0, .ref (a 40), .ref (a 41), .int 0, .ref (a 43), .ref (a 44)])), ((a 32), .inl (k 2, 24, .inl (fun _ => 0))), ((a 36), .inl (k 1, 4, .inl (fun _ => 0))), ((a 37), .inl (k 1, 4, .inl (fun _ => 0))), ((a 43), .inl (k 2, 2, .inl (fun _ => 0))), ((a 44), .inl (k 1, 70, .inl (upd f_68 (Int32.toNatClampNeg 64) 0)))] H := hP
      have hD : va_D A [((a 0), .inr (8, [.ref (a 1), .ref (a 2), .ref (a 3), .ref (a 4), .ref (a 5), .int 0, .int (-1), .int 0, .long 0, .int 0, .int 0, .int 0, .int 0, .ref (a 14), .ref (a 15), .ref (a 16), .int 0, .ref (a 18), .ref (a 19), .ref (a 20), .ref (a 21), .ref (a 22), .ref (a 23), .int 0, .ref (a 25), .ref (a 26), .ref (a 27), .ref (a 28), .ref (a 29), .ref (a 30), .int 0, .ref (a 32), .ref (a 33), .ref (a 34), .int 0, .ref (a 36), .ref (a 37), .int 0, .int 0, .ref (a 40), .ref (a 41), .int 0, .ref (a 43), .ref (a 44)])), ((a 32), .inl (k 2, 24, .inl (fun _ => 0))), ((a 36), .inl (k 1, 4, .inl (fun _ => 0))), ((a 37), .inl (k 1, 4, .inl (fun _ => 0))), ((a 43), .inl (k 2, 2, .inl (fun _ => 0))), ((a 44), .inl (k 1, 70, .inl (upd f_68 (Int32.toNatClampNeg 64) 0)))] := hD
      generalize (upd f_68 (Int32.toNatClampNeg 64) 0) = f_69 at hP hD
      refine lv_aload_n hx hb dX8_keep_115 rfl (lv_at hl 2 rfl) ?_
      refine va_get (D := D) (ci := 8) (v := .ref (a 44)) (C := RX8) (T := TX8) (N := 44) hx hb hts inX8 hown hK hP 0 rfl rfl 43 (by decide) (hts _ tw_1016) (fun _ h9 => h9) rfl dX8_keep_116 ?_
      refine lv_iload_n hx hb dX8_keep_119 rfl (lv_at hl 1 rfl) ?_
      refine lv_bipush (v := 31) hx hb dX8_keep_120 (by decide) ?_
      refine lv_iadd hx hb dX8_keep_122 ?_
      refine lv_ti (y := 66) (by decide) ?_
      refine lv_iload_n hx hb dX8_keep_123 rfl (lv_at hl 0 rfl) ?_
      refine lv_iadd hx hb dX8_keep_124 ?_
      refine lv_ti (y := 68) (by decide) ?_
      refine lv_aload_n hx hb dX8_keep_125 rfl (lv_at hl 2 rfl) ?_
      refine va_get (D := D) (ci := 8) (v := .ref (a 37)) (C := RX8) (T := TX8) (N := 44) hx hb hts inX8 hown hK hP 0 rfl rfl 36 (by decide) (hts _ tw_1009) (fun _ h9 => h9) rfl dX8_keep_126 ?_
      refine lv_iload_n hx hb dX8_keep_129 rfl (lv_at hl 0 rfl) ?_
      refine va_iald hx hb hK hP 3 1 rfl rfl (by unfold vp_in; decide) dX8_keep_130 ?_
      refine lv_ti (y := 0) (by rfl) ?_
      refine va_iast hx hb hK hP hD hS 5 1 rfl rfl (by unfold vp_in; decide) dX8_keep_131 (fun H locs hP hD hS => ?_)
      have hP : va_P D classes [((a 0), .inr (8, [.ref (a 1), .ref (a 2), .ref (a 3), .ref (a 4), .ref (a 5), .int 0, .int (-1), .int 0, .long 0, .int 0, .int 0, .int 0, .int 0, .ref (a 14), .ref (a 15), .ref (a 16), .int 0, .ref (a 18), .ref (a 19), .ref (a 20), .ref (a 21), .ref (a 22), .ref (a 23), .int 0, .ref (a 25), .ref (a 26), .ref (a 27), .ref (a 28), .ref (a 29), .ref (a 30), .int 0, .ref (a 32), .ref (a 33), .ref (a 34), .int 0, .ref (a 36), .ref (a 37), .int 0, .int 0, .ref (a 40), .ref (a 41), .int 0, .ref (a 43), .ref (a 44)])), ((a 32), .inl (k 2, 24, .inl (fun _ => 0))), ((a 36), .inl (k 1, 4, .inl (fun _ => 0))), ((a 37), .inl (k 1, 4, .inl (fun _ => 0))), ((a 43), .inl (k 2, 2, .inl (fun _ => 0))), ((a 44), .inl (k 1, 70, .inl (upd f_69 (Int32.toNatClampNeg 68) 0)))] H := hP
      have hD : va_D A [((a 0), .inr (8, [.ref (a 1), .ref (a 2), .ref (a 3), .ref (a 4), .ref (a 5), .int 0, .int (-1), .int 0, .long 0, .int 0, .int 0, .int 0, .int 0, .ref (a 14), .ref (a 15), .ref (a 16), .int 0, .ref (a 18), .ref (a 19), .ref (a 20), .ref (a 21), .ref (a 22), .ref (a 23), .int 0, .ref (a 25), .ref (a 26), .ref (a 27), .ref (a 28), .ref (a 29), .ref (a 30), .int 0, .ref (a 32), .ref (a 33), .ref (a 34), .int 0, .ref (a 36), .ref (a 37), .int 0, .int 0, .ref (a 40), .ref (a 41), .int 0, .ref (a 43), .ref (a 44)])), ((a 32), .inl (k 2, 24, .inl (fun _ => 0))), ((a 36), .inl (k 1, 4, .inl (fun _ => 0))), ((a 37), .inl (k 1, 4, .inl (fun _ => 0))), ((a 43), .inl (k 2, 2, .inl (fun _ => 0))), ((a 44), .inl (k 1, 70, .inl (upd f_69 (Int32.toNatClampNeg 68) 0)))] := hD
      generalize (upd f_69 (Int32.toNatClampNeg 68) 0) = f_70 at hP hD
      refine lv_iinc (v := 3) (lv' := [(3, .int 3), (2, .int 35), (0, .ref (a 0)), (1, .int 1)]) hx hb dX8_keep_132 hl (k := 0) rfl (by decide) (by decide) rfl (fun ls hl => ?_)
      refine lv_goto (tgt := 93) hx hb dX8_keep_135 (by decide) ?_
      refine lv_iload_n hx hb dX8_keep_93 rfl (lv_at hl 0 rfl) ?_
      refine lv_iconst (v := 4) hx hb dX8_keep_94 (by decide) ?_
      refine lv_icmp_ge (tgt := 138) hx hb dX8_keep_95 (by decide) (fun h => absurd h (by decide)) (fun _ => ?_)
      refine lv_aload_n hx hb dX8_keep_98 rfl (lv_at hl 2 rfl) ?_
      refine va_get (D := D) (ci := 8) (v := .ref (a 44)) (C := RX8) (T := TX8) (N := 44) hx hb hts inX8 hown hK hP 0 rfl rfl 43 (by decide) (hts _ tw_1016) (fun _ h9 => h9) rfl dX8_keep_99 ?_
      refine lv_iload_n hx hb dX8_keep_102 rfl (lv_at hl 1 rfl) ?_
      refine lv_bipush (v := 27) hx hb dX8_keep_103 (by decide) ?_
      refine lv_iadd hx hb dX8_keep_105 ?_
      refine lv_ti (y := 62) (by decide) ?_
      refine lv_iload_n hx hb dX8_keep_106 rfl (lv_at hl 0 rfl) ?_
      refine lv_iadd hx hb dX8_keep_107 ?_
      refine lv_ti (y := 65) (by decide) ?_
      refine lv_aload_n hx hb dX8_keep_108 rfl (lv_at hl 2 rfl) ?_
      refine va_get (D := D) (ci := 8) (v := .ref (a 36)) (C := RX8) (T := TX8) (N := 44) hx hb hts inX8 hown hK hP 0 rfl rfl 35 (by decide) (hts _ tw_1008) (fun _ h9 => h9) rfl dX8_keep_109 ?_
      refine lv_iload_n hx hb dX8_keep_112 rfl (lv_at hl 0 rfl) ?_
      refine va_iald hx hb hK hP 2 1 rfl rfl (by unfold vp_in; decide) dX8_keep_113 ?_
      refine lv_ti (y := 0) (by rfl) ?_
      refine va_iast hx hb hK hP hD hS 5 1 rfl rfl (by unfold vp_in; decide) dX8_keep_114 (fun H locs hP hD hS => ?_)
      have hP : va_P D classes [((a 0), .inr (8, [.ref (a 1), .ref (a 2), .ref (a 3), .ref (a 4), .ref (a 5), .int 0, .int (-1), .int 0, .long 0, .int 0, .int 0, .int 0, .int 0, .ref (a 14), .ref (a 15), .ref (a 16), .int 0, .ref (a 18), .ref (a 19), .ref (a 20), .ref (a 21), .ref (a 22), .ref (a 23), .int 0, .ref (a 25), .ref (a 26), .ref (a 27), .ref (a 28), .ref (a 29), .ref (a 30), .int 0, .ref (a 32), .ref (a 33), .ref (a 34), .int 0, .ref (a 36), .ref (a 37), .int 0, .int 0, .ref (a 40), .ref (a 41), .int 0, .ref (a 43), .ref (a 44)])), ((a 32), .inl (k 2, 24, .inl (fun _ => 0))), ((a 36), .inl (k 1, 4, .inl (fun _ => 0))), ((a 37), .inl (k 1, 4, .inl (fun _ => 0))), ((a 43), .inl (k 2, 2, .inl (fun _ => 0))), ((a 44), .inl (k 1, 70, .inl (upd f_70 (Int32.toNatClampNeg 65) 0)))] H := hP
      have hD : va_D A [((a 0), .inr (8, [.ref (a 1), .ref (a 2), .ref (a 3), .ref (a 4), .ref (a 5), .int 0, .int (-1), .int 0, .long 0, .int 0, .int 0, .int 0, .int 0, .ref (a 14), .ref (a 15), .ref (a 16), .int 0, .ref (a 18), .ref (a 19), .ref (a 20), .ref (a 21), .ref (a 22), .ref (a 23), .int 0, .ref (a 25), .ref (a 26), .ref (a 27), .ref (a 28), .ref (a 29), .ref (a 30), .int 0, .ref (a 32), .ref (a 33), .ref (a 34), .int 0, .ref (a 36), .ref (a 37), .int 0, .int 0, .ref (a 40), .ref (a 41), .int 0, .ref (a 43), .ref (a 44)])), ((a 32), .inl (k 2, 24, .inl (fun _ => 0))), ((a 36), .inl (k 1, 4, .inl (fun _ => 0))), ((a 37), .inl (k 1, 4, .inl (fun _ => 0))), ((a 43), .inl (k 2, 2, .inl (fun _ => 0))), ((a 44), .inl (k 1, 70, .inl (upd f_70 (Int32.toNatClampNeg 65) 0)))] := hD
      generalize (upd f_70 (Int32.toNatClampNeg 65) 0) = f_71 at hP hD
      refine lv_aload_n hx hb dX8_keep_115 rfl (lv_at hl 2 rfl) ?_
      refine va_get (D := D) (ci := 8) (v := .ref (a 44)) (C := RX8) (T := TX8) (N := 44) hx hb hts inX8 hown hK hP 0 rfl rfl 43 (by decide) (hts _ tw_1016) (fun _ h9 => h9) rfl dX8_keep_116 ?_
      refine lv_iload_n hx hb dX8_keep_119 rfl (lv_at hl 1 rfl) ?_
      refine lv_bipush (v := 31) hx hb dX8_keep_120 (by decide) ?_
      refine lv_iadd hx hb dX8_keep_122 ?_
      refine lv_ti (y := 66) (by decide) ?_
      refine lv_iload_n hx hb dX8_keep_123 rfl (lv_at hl 0 rfl) ?_
      refine lv_iadd hx hb dX8_keep_124 ?_
      refine lv_ti (y := 69) (by decide) ?_
      refine lv_aload_n hx hb dX8_keep_125 rfl (lv_at hl 2 rfl) ?_
      refine va_get (D := D) (ci := 8) (v := .ref (a 37)) (C := RX8) (T := TX8) (N := 44) hx hb hts inX8 hown hK hP 0 rfl rfl 36 (by decide) (hts _ tw_1009) (fun _ h9 => h9) rfl dX8_keep_126 ?_
      refine lv_iload_n hx hb dX8_keep_129 rfl (lv_at hl 0 rfl) ?_
      refine va_iald hx hb hK hP 3 1 rfl rfl (by unfold vp_in; decide) dX8_keep_130 ?_
      refine lv_ti (y := 0) (by rfl) ?_
      refine va_iast hx hb hK hP hD hS 5 1 rfl rfl (by unfold vp_in; decide) dX8_keep_131 (fun H locs hP hD hS => ?_)
      have hP : va_P D classes [((a 0), .inr (8, [.ref (a 1), .ref (a 2), .ref (a 3), .ref (a 4), .ref (a 5), .int 0, .int (-1), .int 0, .long 0, .int 0, .int 0, .int 0, .int 0, .ref (a 14), .ref (a 15), .ref (a 16), .int 0, .ref (a 18), .ref (a 19), .ref (a 20), .ref (a 21), .ref (a 22), .ref (a 23), .int 0, .ref (a 25), .ref (a 26), .ref (a 27), .ref (a 28), .ref (a 29), .ref (a 30), .int 0, .ref (a 32), .ref (a 33), .ref (a 34), .int 0, .ref (a 36), .ref (a 37), .int 0, .int 0, .ref (a 40), .ref (a 41), .int 0, .ref (a 43), .ref (a 44)])), ((a 32), .inl (k 2, 24, .inl (fun _ => 0))), ((a 36), .inl (k 1, 4, .inl (fun _ => 0))), ((a 37), .inl (k 1, 4, .inl (fun _ => 0))), ((a 43), .inl (k 2, 2, .inl (fun _ => 0))), ((a 44), .inl (k 1, 70, .inl (upd f_71 (Int32.toNatClampNeg 69) 0)))] H := hP
      have hD : va_D A [((a 0), .inr (8, [.ref (a 1), .ref (a 2), .ref (a 3), .ref (a 4), .ref (a 5), .int 0, .int (-1), .int 0, .long 0, .int 0, .int 0, .int 0, .int 0, .ref (a 14), .ref (a 15), .ref (a 16), .int 0, .ref (a 18), .ref (a 19), .ref (a 20), .ref (a 21), .ref (a 22), .ref (a 23), .int 0, .ref (a 25), .ref (a 26), .ref (a 27), .ref (a 28), .ref (a 29), .ref (a 30), .int 0, .ref (a 32), .ref (a 33), .ref (a 34), .int 0, .ref (a 36), .ref (a 37), .int 0, .int 0, .ref (a 40), .ref (a 41), .int 0, .ref (a 43), .ref (a 44)])), ((a 32), .inl (k 2, 24, .inl (fun _ => 0))), ((a 36), .inl (k 1, 4, .inl (fun _ => 0))), ((a 37), .inl (k 1, 4, .inl (fun _ => 0))), ((a 43), .inl (k 2, 2, .inl (fun _ => 0))), ((a 44), .inl (k 1, 70, .inl (upd f_71 (Int32.toNatClampNeg 69) 0)))] := hD
      generalize (upd f_71 (Int32.toNatClampNeg 69) 0) = f_72 at hP hD
      refine lv_iinc (v := 4) (lv' := [(3, .int 4), (2, .int 35), (0, .ref (a 0)), (1, .int 1)]) hx hb dX8_keep_132 hl (k := 0) rfl (by decide) (by decide) rfl (fun ls hl => ?_)
      refine lv_goto (tgt := 93) hx hb dX8_keep_135 (by decide) ?_
      refine lv_iload_n hx hb dX8_keep_93 rfl (lv_at hl 0 rfl) ?_
      refine lv_iconst (v := 4) hx hb dX8_keep_94 (by decide) ?_
      refine lv_icmp_ge (tgt := 138) hx hb dX8_keep_95 (by decide) (fun _ => ?_) (fun h => absurd (by decide) h)
      refine lv_aload_n hx hb dX8_keep_138 rfl (lv_at hl 2 rfl) ?_
      refine va_get (D := D) (ci := 8) (v := .ref (a 43)) (C := RX8) (T := TX8) (N := 44) hx hb hts inX8 hown hK hP 0 rfl rfl 42 (by decide) (hts _ tw_1015) (fun _ h9 => h9) rfl dX8_keep_139 ?_
      refine lv_iload_n hx hb dX8_keep_142 rfl (lv_at hl 3 rfl) ?_
      refine lv_iconst (v := 1) hx hb dX8_keep_143 (by decide) ?_
      refine va_zast hx hb hK hP hD hS 4 2 rfl rfl (by unfold vp_in; decide) dX8_keep_144 (fun H locs hP hD hS => ?_)
      have hP : va_P D classes [((a 0), .inr (8, [.ref (a 1), .ref (a 2), .ref (a 3), .ref (a 4), .ref (a 5), .int 0, .int (-1), .int 0, .long 0, .int 0, .int 0, .int 0, .int 0, .ref (a 14), .ref (a 15), .ref (a 16), .int 0, .ref (a 18), .ref (a 19), .ref (a 20), .ref (a 21), .ref (a 22), .ref (a 23), .int 0, .ref (a 25), .ref (a 26), .ref (a 27), .ref (a 28), .ref (a 29), .ref (a 30), .int 0, .ref (a 32), .ref (a 33), .ref (a 34), .int 0, .ref (a 36), .ref (a 37), .int 0, .int 0, .ref (a 40), .ref (a 41), .int 0, .ref (a 43), .ref (a 44)])), ((a 32), .inl (k 2, 24, .inl (fun _ => 0))), ((a 36), .inl (k 1, 4, .inl (fun _ => 0))), ((a 37), .inl (k 1, 4, .inl (fun _ => 0))), ((a 43), .inl (k 2, 2, .inl (upd (fun _ => 0) (Int32.toNatClampNeg 1) (vp_nar .boolean 1)))), ((a 44), .inl (k 1, 70, .inl f_72))] H := hP
      have hD : va_D A [((a 0), .inr (8, [.ref (a 1), .ref (a 2), .ref (a 3), .ref (a 4), .ref (a 5), .int 0, .int (-1), .int 0, .long 0, .int 0, .int 0, .int 0, .int 0, .ref (a 14), .ref (a 15), .ref (a 16), .int 0, .ref (a 18), .ref (a 19), .ref (a 20), .ref (a 21), .ref (a 22), .ref (a 23), .int 0, .ref (a 25), .ref (a 26), .ref (a 27), .ref (a 28), .ref (a 29), .ref (a 30), .int 0, .ref (a 32), .ref (a 33), .ref (a 34), .int 0, .ref (a 36), .ref (a 37), .int 0, .int 0, .ref (a 40), .ref (a 41), .int 0, .ref (a 43), .ref (a 44)])), ((a 32), .inl (k 2, 24, .inl (fun _ => 0))), ((a 36), .inl (k 1, 4, .inl (fun _ => 0))), ((a 37), .inl (k 1, 4, .inl (fun _ => 0))), ((a 43), .inl (k 2, 2, .inl (upd (fun _ => 0) (Int32.toNatClampNeg 1) (vp_nar .boolean 1)))), ((a 44), .inl (k 1, 70, .inl f_72))] := hD
      generalize (upd (fun _ => 0) (Int32.toNatClampNeg 1) (vp_nar .boolean 1)) = f_73 at hP hD
      refine lv_iconst (v := 1) hx hb dX8_keep_145 (by decide) ?_
      have hP9 := hP.sub (ws' := []) [] rfl
      have hD9 := hD.sub (ws' := []) [] (by decide) rfl
      exact W.iret (v := 1) hx hb hr (fun t ht hW => ⟨⟨1, (), rfl, ⟨fun _ => rfl, fun h => absurd ⟨by decide, by decide⟩ h⟩, by rw [ht]; exact hP9, hD9⟩, hS.F ht⟩) hS.2.2 dX8_keep_146
  · refine lv_if_ne (tgt := 14) hx hb dX8_keep_7 (by decide) (fun h => absurd (by decide) h) (fun _ => ?_)
    refine lv_sipush (v := (-1001)) hx hb dX8_keep_10 (by decide) ?_
    have hP9 := hP.sub (ws' := []) [] rfl
    have hD9 := hD.sub (ws' := []) [] (by decide) rfl
    exact W.iret (v := (-1001)) hx hb hr (fun t ht hW => ⟨⟨(-1001), (), rfl, ⟨fun h => absurd h hw_1, fun _ => rfl⟩, by rw [ht]; exact hP9, hD9⟩, hS.F ht⟩) hS.2.2 dX8_keep_13


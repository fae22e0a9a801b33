theorem dX8_canOne_0 : decode cX8_canOne 0 = .ok (.iload_n 1, 1) := by decide +kernel
theorem dX8_canOne_1 : decode cX8_canOne 1 = .ok (.ifCond .lt 12, 3) := by decide +kernel
theorem dX8_canOne_4 : decode cX8_canOne 4 = .ok (.iload_n 0, 1) := by decide +kernel
theorem dX8_canOne_5 : decode cX8_canOne 5 = .ok (.iload_n 1, 1) := by decide +kernel
theorem dX8_canOne_6 : decode cX8_canOne 6 = .ok (.ishr, 1) := by decide +kernel
theorem dX8_canOne_7 : decode cX8_canOne 7 = .ok (.iconst 1, 1) := by decide +kernel
theorem dX8_canOne_8 : decode cX8_canOne 8 = .ok (.iand, 1) := by decide +kernel
theorem dX8_canOne_9 : decode cX8_canOne 9 = .ok (.iconst 1, 1) := by decide +kernel
theorem dX8_canOne_10 : decode cX8_canOne 10 = .ok (.if_icmp .ne 7, 3) := by decide +kernel
theorem dX8_canOne_13 : decode cX8_canOne 13 = .ok (.iconst 1, 1) := by decide +kernel
theorem dX8_canOne_14 : decode cX8_canOne 14 = .ok (.goto 4, 3) := by decide +kernel
theorem dX8_canOne_17 : decode cX8_canOne 17 = .ok (.iconst 0, 1) := by decide +kernel
theorem dX8_canOne_18 : decode cX8_canOne 18 = .ok (.ireturn, 1) := by decide +kernel
set_option maxHeartbeats 4000000 in
set_option maxRecDepth 100000 in
theorem m_canOne (l : Launch) (D : va_G) (k : Nat → ClassId) (st : Nat → Nat) (lo : Nat) (p0 : Int32) (p1 : Int32)  : CRi l D k st lo yX8_canOne cX8_canOne 2 (some .boolean) ({ frames := 0, cells := 0, slots := 0, locals := 0 }) [.int p0, .int p1] [] (fun r => r = 1 ∨ r = 0) := by
  intro sz
  refine Met.ofW (cc := cX8_canOne) (maxL := 2) (ret := (some .boolean)) (by decide) rfl ?_
  intro p e s m args below meth c s₁ B hml hv
  obtain ⟨rfl, hsz, hlo, hP, hK, hDL, hZ⟩ := hv
  have hx := B.exec
  have hb := B.bytes
  have hr := B.returns
  have hts := WS_ts B.pre
  have hown : s.vm.findClass RX8 = some m.cls := findClass_of_methodNamed B.named
  have hlocks := B.notSynchronized
  subst hsz
  have hA : ∀ q : Nat, s.heap.size ≤ q → (fun q : Nat => s.heap.size ≤ q) q := fun _ h => h
  have hAlo : ∀ q : Nat, (fun q : Nat => s.heap.size ≤ q) q → lo ≤ q := fun q h => Nat.le_trans hlo h
  have hS : va_S (fun q : Nat => s.heap.size ≤ q) s.heap s.heap [] := va_S.rf
  have hl := lv_entry ([.int p0, .int p1]) (n := 2) (Nat.le_of_ble_eq_true rfl)
  rw [lg_entry_eq]
  generalize (lg_sl ([.int p0, .int p1]) ++ List.replicate (2 - (lg_sl ([.int p0, .int p1])).length) Slot.unset).toArray = ls at hl ⊢
  have hl : lv_has ls 2 [(0, .int p0), (1, .int p1)] := hl
  refine lv_iload_n hx hb dX8_canOne_0 rfl (lv_at hl 1 rfl) ?_
  refine lv_if_lt (tgt := 13) hx hb dX8_canOne_1 (by decide) (fun c_1 => ?_) (fun c_1 => ?_)
  · refine lv_iconst (v := 1) hx hb dX8_canOne_13 (by decide) ?_
    refine lv_goto (tgt := 18) hx hb dX8_canOne_14 (by decide) ?_
    exact W.zret (v := 1) (ty := .boolean) hx hb hr rfl (fun t ht hW => ⟨⟨1, (), rfl, .inl rfl, trivial⟩, hS.F ht⟩) hS.2.2 dX8_canOne_18
  · refine lv_iload_n hx hb dX8_canOne_4 rfl (lv_at hl 0 rfl) ?_
    refine lv_iload_n hx hb dX8_canOne_5 rfl (lv_at hl 1 rfl) ?_
    refine lv_ishr hx hb dX8_canOne_6 ?_
    refine lv_topi (fun x_2 ex_2 => ?_)
    refine lv_iconst (v := 1) hx hb dX8_canOne_7 (by decide) ?_
    refine lv_iand hx hb dX8_canOne_8 ?_
    refine lv_topi (fun x_3 ex_3 => ?_)
    refine lv_iconst (v := 1) hx hb dX8_canOne_9 (by decide) ?_
    refine lv_icmp_ne (tgt := 17) hx hb dX8_canOne_10 (by decide) (fun c_4 => ?_) (fun c_4 => ?_)
    · refine lv_iconst (v := 0) hx hb dX8_canOne_17 (by decide) ?_
      exact W.zret (v := 0) (ty := .boolean) hx hb hr rfl (fun t ht hW => ⟨⟨0, (), rfl, .inr rfl, trivial⟩, hS.F ht⟩) hS.2.2 dX8_canOne_18
    · refine lv_iconst (v := 1) hx hb dX8_canOne_13 (by decide) ?_
      refine lv_goto (tgt := 18) hx hb dX8_canOne_14 (by decide) ?_
      exact W.zret (v := 1) (ty := .boolean) hx hb hr rfl (fun t ht hW => ⟨⟨1, (), rfl, .inl rfl, trivial⟩, hS.F ht⟩) hS.2.2 dX8_canOne_18

theorem dX8_areApart_0 : decode cX8_areApart 0 = .ok (.iload_n 0, 1) := by decide +kernel
theorem dX8_areApart_1 : decode cX8_areApart 1 = .ok (.ifCond .lt 8, 3) := by decide +kernel
theorem dX8_areApart_4 : decode cX8_areApart 4 = .ok (.iload_n 0, 1) := by decide +kernel
theorem dX8_areApart_5 : decode cX8_areApart 5 = .ok (.iload_n 1, 1) := by decide +kernel
theorem dX8_areApart_6 : decode cX8_areApart 6 = .ok (.if_icmp .eq 7, 3) := by decide +kernel
theorem dX8_areApart_9 : decode cX8_areApart 9 = .ok (.iconst 1, 1) := by decide +kernel
theorem dX8_areApart_10 : decode cX8_areApart 10 = .ok (.goto 4, 3) := by decide +kernel
theorem dX8_areApart_13 : decode cX8_areApart 13 = .ok (.iconst 0, 1) := by decide +kernel
theorem dX8_areApart_14 : decode cX8_areApart 14 = .ok (.ireturn, 1) := by decide +kernel
set_option maxHeartbeats 4000000 in
set_option maxRecDepth 100000 in
theorem m_areApart (l : Launch) (D : va_G) (k : Nat → ClassId) (st : Nat → Nat) (lo : Nat) (p0 : Int32) (p1 : Int32)  : CRi l D k st lo yX8_areApart cX8_areApart 2 (some .boolean) ({ frames := 0, cells := 0, slots := 0, locals := 0 }) [.int p0, .int p1] [] (fun r => r = 1 ∨ r = 0) := by
  intro sz
  refine Met.ofW (cc := cX8_areApart) (maxL := 2) (ret := (some .boolean)) (by decide) rfl ?_
  intro p e s m args below meth c s₁ B hml hv
  obtain ⟨rfl, hsz, hlo, hP, hK, hDL, hZ⟩ := hv
  have hx := B.exec
  have hb := B.bytes
  have hr := B.returns
  have hts := WS_ts B.pre
  have hown : s.vm.findClass RX8 = some m.cls := findClass_of_methodNamed B.named
  have hlocks := B.notSynchronized
  subst hsz
  have hA : ∀ q : Nat, s.heap.size ≤ q → (fun q : Nat => s.heap.size ≤ q) q := fun _ h => h
  have hAlo : ∀ q : Nat, (fun q : Nat => s.heap.size ≤ q) q → lo ≤ q := fun q h => Nat.le_trans hlo h
  have hS : va_S (fun q : Nat => s.heap.size ≤ q) s.heap s.heap [] := va_S.rf
  have hl := lv_entry ([.int p0, .int p1]) (n := 2) (Nat.le_of_ble_eq_true rfl)
  rw [lg_entry_eq]
  generalize (lg_sl ([.int p0, .int p1]) ++ List.replicate (2 - (lg_sl ([.int p0, .int p1])).length) Slot.unset).toArray = ls at hl ⊢
  have hl : lv_has ls 2 [(0, .int p0), (1, .int p1)] := hl
  refine lv_iload_n hx hb dX8_areApart_0 rfl (lv_at hl 0 rfl) ?_
  refine lv_if_lt (tgt := 9) hx hb dX8_areApart_1 (by decide) (fun c_1 => ?_) (fun c_1 => ?_)
  · refine lv_iconst (v := 1) hx hb dX8_areApart_9 (by decide) ?_
    refine lv_goto (tgt := 14) hx hb dX8_areApart_10 (by decide) ?_
    exact W.zret (v := 1) (ty := .boolean) hx hb hr rfl (fun t ht hW => ⟨⟨1, (), rfl, .inl rfl, trivial⟩, hS.F ht⟩) hS.2.2 dX8_areApart_14
  · refine lv_iload_n hx hb dX8_areApart_4 rfl (lv_at hl 0 rfl) ?_
    refine lv_iload_n hx hb dX8_areApart_5 rfl (lv_at hl 1 rfl) ?_
    refine lv_icmp_eq (tgt := 13) hx hb dX8_areApart_6 (by decide) (fun c_2 => ?_) (fun c_2 => ?_)
    · refine lv_iconst (v := 0) hx hb dX8_areApart_13 (by decide) ?_
      exact W.zret (v := 0) (ty := .boolean) hx hb hr rfl (fun t ht hW => ⟨⟨0, (), rfl, .inr rfl, trivial⟩, hS.F ht⟩) hS.2.2 dX8_areApart_14
    · refine lv_iconst (v := 1) hx hb dX8_areApart_9 (by decide) ?_
      refine lv_goto (tgt := 14) hx hb dX8_areApart_10 (by decide) ?_
      exact W.zret (v := 1) (ty := .boolean) hx hb hr rfl (fun t ht hW => ⟨⟨1, (), rfl, .inl rfl, trivial⟩, hS.F ht⟩) hS.2.2 dX8_areApart_14

theorem dX8_canAll_0 : decode cX8_canAll 0 = .ok (.iload_n 0, 1) := by decide +kernel
theorem dX8_canAll_1 : decode cX8_canAll 1 = .ok (.iload_n 1, 1) := by decide +kernel
theorem dX8_canAll_2 : decode cX8_canAll 2 = .ok (.invokestatic 362, 3) := by decide +kernel
theorem dX8_canAll_5 : decode cX8_canAll 5 = .ok (.ifCond .eq 32, 3) := by decide +kernel
theorem dX8_canAll_8 : decode cX8_canAll 8 = .ok (.iload_n 0, 1) := by decide +kernel
theorem dX8_canAll_9 : decode cX8_canAll 9 = .ok (.iload_n 2, 1) := by decide +kernel
theorem dX8_canAll_10 : decode cX8_canAll 10 = .ok (.invokestatic 362, 3) := by decide +kernel
theorem dX8_canAll_13 : decode cX8_canAll 13 = .ok (.ifCond .eq 24, 3) := by decide +kernel
theorem dX8_canAll_16 : decode cX8_canAll 16 = .ok (.iload_n 0, 1) := by decide +kernel
theorem dX8_canAll_17 : decode cX8_canAll 17 = .ok (.iload_n 3, 1) := by decide +kernel
theorem dX8_canAll_18 : decode cX8_canAll 18 = .ok (.invokestatic 362, 3) := by decide +kernel
theorem dX8_canAll_21 : decode cX8_canAll 21 = .ok (.ifCond .eq 16, 3) := by decide +kernel
theorem dX8_canAll_24 : decode cX8_canAll 24 = .ok (.iload_n 0, 1) := by decide +kernel
theorem dX8_canAll_25 : decode cX8_canAll 25 = .ok (.iload 4, 2) := by decide +kernel
theorem dX8_canAll_27 : decode cX8_canAll 27 = .ok (.invokestatic 362, 3) := by decide +kernel
theorem dX8_canAll_30 : decode cX8_canAll 30 = .ok (.ifCond .eq 7, 3) := by decide +kernel
theorem dX8_canAll_33 : decode cX8_canAll 33 = .ok (.iconst 1, 1) := by decide +kernel
theorem dX8_canAll_34 : decode cX8_canAll 34 = .ok (.goto 4, 3) := by decide +kernel
theorem dX8_canAll_37 : decode cX8_canAll 37 = .ok (.iconst 0, 1) := by decide +kernel
theorem dX8_canAll_38 : decode cX8_canAll 38 = .ok (.istore 5, 2) := by decide +kernel
theorem dX8_canAll_40 : decode cX8_canAll 40 = .ok (.iload 5, 2) := by decide +kernel
theorem dX8_canAll_42 : decode cX8_canAll 42 = .ok (.ifCond .eq 58, 3) := by decide +kernel
theorem dX8_canAll_45 : decode cX8_canAll 45 = .ok (.iload_n 1, 1) := by decide +kernel
theorem dX8_canAll_46 : decode cX8_canAll 46 = .ok (.iload_n 2, 1) := by decide +kernel
theorem dX8_canAll_47 : decode cX8_canAll 47 = .ok (.invokestatic 365, 3) := by decide +kernel
theorem dX8_canAll_50 : decode cX8_canAll 50 = .ok (.ifCond .eq 50, 3) := by decide +kernel
theorem dX8_canAll_53 : decode cX8_canAll 53 = .ok (.iload_n 1, 1) := by decide +kernel
theorem dX8_canAll_54 : decode cX8_canAll 54 = .ok (.iload_n 3, 1) := by decide +kernel
theorem dX8_canAll_55 : decode cX8_canAll 55 = .ok (.invokestatic 365, 3) := by decide +kernel
theorem dX8_canAll_58 : decode cX8_canAll 58 = .ok (.ifCond .eq 42, 3) := by decide +kernel
theorem dX8_canAll_61 : decode cX8_canAll 61 = .ok (.iload_n 1, 1) := by decide +kernel
theorem dX8_canAll_62 : decode cX8_canAll 62 = .ok (.iload 4, 2) := by decide +kernel
theorem dX8_canAll_64 : decode cX8_canAll 64 = .ok (.invokestatic 365, 3) := by decide +kernel
theorem dX8_canAll_67 : decode cX8_canAll 67 = .ok (.ifCond .eq 33, 3) := by decide +kernel
theorem dX8_canAll_70 : decode cX8_canAll 70 = .ok (.iload_n 2, 1) := by decide +kernel
theorem dX8_canAll_71 : decode cX8_canAll 71 = .ok (.iload_n 3, 1) := by decide +kernel
theorem dX8_canAll_72 : decode cX8_canAll 72 = .ok (.invokestatic 365, 3) := by decide +kernel
theorem dX8_canAll_75 : decode cX8_canAll 75 = .ok (.ifCond .eq 25, 3) := by decide +kernel
theorem dX8_canAll_78 : decode cX8_canAll 78 = .ok (.iload_n 2, 1) := by decide +kernel
theorem dX8_canAll_79 : decode cX8_canAll 79 = .ok (.iload 4, 2) := by decide +kernel
theorem dX8_canAll_81 : decode cX8_canAll 81 = .ok (.invokestatic 365, 3) := by decide +kernel
theorem dX8_canAll_84 : decode cX8_canAll 84 = .ok (.ifCond .eq 16, 3) := by decide +kernel
theorem dX8_canAll_87 : decode cX8_canAll 87 = .ok (.iload_n 3, 1) := by decide +kernel
theorem dX8_canAll_88 : decode cX8_canAll 88 = .ok (.iload 4, 2) := by decide +kernel
theorem dX8_canAll_90 : decode cX8_canAll 90 = .ok (.invokestatic 365, 3) := by decide +kernel
theorem dX8_canAll_93 : decode cX8_canAll 93 = .ok (.ifCond .eq 7, 3) := by decide +kernel
theorem dX8_canAll_96 : decode cX8_canAll 96 = .ok (.iconst 1, 1) := by decide +kernel
theorem dX8_canAll_97 : decode cX8_canAll 97 = .ok (.goto 4, 3) := by decide +kernel
theorem dX8_canAll_100 : decode cX8_canAll 100 = .ok (.iconst 0, 1) := by decide +kernel
theorem dX8_canAll_101 : decode cX8_canAll 101 = .ok (.ireturn, 1) := by decide +kernel
set_option maxHeartbeats 4000000 in
set_option maxRecDepth 100000 in
theorem m_canAll (l : Launch) (D : va_G) (k : Nat → ClassId) (st : Nat → Nat) (lo : Nat) (p0 : Int32) (p1 : Int32) (p2 : Int32) (p3 : Int32) (p4 : Int32)  : CRi l D k st lo yX8_canAll cX8_canAll 6 (some .boolean) ({ frames := 1, cells := 0, slots := 0, locals := 21 }) [.int p0, .int p1, .int p2, .int p3, .int p4] [] (fun r => r = 1 ∨ r = 0) := by
  intro sz
  refine Met.ofW (cc := cX8_canAll) (maxL := 6) (ret := (some .boolean)) (by decide) rfl ?_
  intro p e s m args below meth c s₁ B hml hv
  obtain ⟨rfl, hsz, hlo, hP, hK, hDL, hZ⟩ := hv
  have hx := B.exec
  have hb := B.bytes
  have hr := B.returns
  have hts := WS_ts B.pre
  have hown : s.vm.findClass RX8 = some m.cls := findClass_of_methodNamed B.named
  have hlocks := B.notSynchronized
  subst hsz
  have hA : ∀ q : Nat, s.heap.size ≤ q → (fun q : Nat => s.heap.size ≤ q) q := fun _ h => h
  have hAlo : ∀ q : Nat, (fun q : Nat => s.heap.size ≤ q) q → lo ≤ q := fun q h => Nat.le_trans hlo h
  have hS : va_S (fun q : Nat => s.heap.size ≤ q) s.heap s.heap [] := va_S.rf
  have hl := lv_entry ([.int p0, .int p1, .int p2, .int p3, .int p4]) (n := 6) (Nat.le_of_ble_eq_true rfl)
  rw [lg_entry_eq]
  generalize (lg_sl ([.int p0, .int p1, .int p2, .int p3, .int p4]) ++ List.replicate (6 - (lg_sl ([.int p0, .int p1, .int p2, .int p3, .int p4])).length) Slot.unset).toArray = ls at hl ⊢
  have hl : lv_has ls 6 [(0, .int p0), (1, .int p1), (2, .int p2), (3, .int p3), (4, .int p4)] := hl
  refine lv_iload_n hx hb dX8_canAll_0 rfl (lv_at hl 0 rfl) ?_
  refine lv_iload_n hx hb dX8_canAll_1 rfl (lv_at hl 1 rfl) ?_
  refine ro_i (D := D) (va_runS (As := [.int p0, .int p1]) (rest := []) ⟨hx, hb, hml, hown, hts⟩ ((m_canOne l D k st lo p0 p1) s.heap.size) (va_cwS 2 hts (gS tw_1453 tw_1454 tw_87 tw_1455) rfl rfl rfl (by decide +kernel) ⟨Nat.le_of_ble_eq_true rfl, Nat.le_of_ble_eq_true rfl⟩) (pS hS hAlo hlo hP hK hDL hZ [] (by decide) rfl) rfl rfl hl.1 rfl (lv_room (Nat.le_of_ble_eq_true rfl)) dX8_canAll_2 ⟨Nat.le_of_ble_eq_true rfl, Nat.le_of_ble_eq_true rfl⟩) hS hA hP (fun r_1 H locs hw_1 hP hS => ?_)
  try dsimp only at hw_1
  refine lv_if_eq (tgt := 37) hx hb dX8_canAll_5 (by decide) (fun c_2 => ?_) (fun c_2 => ?_)
  · refine lv_iconst (v := 0) hx hb dX8_canAll_37 (by decide) ?_
    refine lv_istore (lv' := [(5, .int 0), (0, .int p0), (1, .int p1), (2, .int p2), (3, .int p3), (4, .int p4)]) hx hb dX8_canAll_38 hl (by decide) rfl (fun ls hl => ?_)
    refine lv_iload hx hb dX8_canAll_40 (lv_at hl 0 rfl) ?_
    refine lv_if_eq (tgt := 100) hx hb dX8_canAll_42 (by decide) (fun _ => ?_) (fun h => absurd (by decide) h)
    refine lv_iconst (v := 0) hx hb dX8_canAll_100 (by decide) ?_
    exact W.zret (v := 0) (ty := .boolean) hx hb hr rfl (fun t ht hW => ⟨⟨0, (), rfl, .inr rfl, trivial⟩, hS.F ht⟩) hS.2.2 dX8_canAll_101
  · refine lv_iload_n hx hb dX8_canAll_8 rfl (lv_at hl 0 rfl) ?_
    refine lv_iload_n hx hb dX8_canAll_9 rfl (lv_at hl 2 rfl) ?_
    refine ro_i (D := D) (va_runS (As := [.int p0, .int p2]) (rest := []) ⟨hx, hb, hml, hown, hts⟩ ((m_canOne l D k st lo p0 p2) H.size) (va_cwS 2 hts (gS tw_1453 tw_1454 tw_87 tw_1455) rfl rfl rfl (by decide +kernel) ⟨Nat.le_of_ble_eq_true rfl, Nat.le_of_ble_eq_true rfl⟩) (pS hS hAlo hlo hP hK hDL hZ [] (by decide) rfl) rfl rfl hl.1 rfl (lv_room (Nat.le_of_ble_eq_true rfl)) dX8_canAll_10 ⟨Nat.le_of_ble_eq_true rfl, Nat.le_of_ble_eq_true rfl⟩) hS hA hP (fun r_3 H locs hw_3 hP hS => ?_)
    try dsimp only at hw_3
    refine lv_if_eq (tgt := 37) hx hb dX8_canAll_13 (by decide) (fun c_4 => ?_) (fun c_4 => ?_)
    · refine lv_iconst (v := 0) hx hb dX8_canAll_37 (by decide) ?_
      refine lv_istore (lv' := [(5, .int 0), (0, .int p0), (1, .int p1), (2, .int p2), (3, .int p3), (4, .int p4)]) hx hb dX8_canAll_38 hl (by decide) rfl (fun ls hl => ?_)
      refine lv_iload hx hb dX8_canAll_40 (lv_at hl 0 rfl) ?_
      refine lv_if_eq (tgt := 100) hx hb dX8_canAll_42 (by decide) (fun _ => ?_) (fun h => absurd (by decide) h)
      refine lv_iconst (v := 0) hx hb dX8_canAll_100 (by decide) ?_
      exact W.zret (v := 0) (ty := .boolean) hx hb hr rfl (fun t ht hW => ⟨⟨0, (), rfl, .inr rfl, trivial⟩, hS.F ht⟩) hS.2.2 dX8_canAll_101
    · refine lv_iload_n hx hb dX8_canAll_16 rfl (lv_at hl 0 rfl) ?_
      refine lv_iload_n hx hb dX8_canAll_17 rfl (lv_at hl 3 rfl) ?_
      refine ro_i (D := D) (va_runS (As := [.int p0, .int p3]) (rest := []) ⟨hx, hb, hml, hown, hts⟩ ((m_canOne l D k st lo p0 p3) H.size) (va_cwS 2 hts (gS tw_1453 tw_1454 tw_87 tw_1455) rfl rfl rfl (by decide +kernel) ⟨Nat.le_of_ble_eq_true rfl, Nat.le_of_ble_eq_true rfl⟩) (pS hS hAlo hlo hP hK hDL hZ [] (by decide) rfl) rfl rfl hl.1 rfl (lv_room (Nat.le_of_ble_eq_true rfl)) dX8_canAll_18 ⟨Nat.le_of_ble_eq_true rfl, Nat.le_of_ble_eq_true rfl⟩) hS hA hP (fun r_5 H locs hw_5 hP hS => ?_)
      try dsimp only at hw_5
      refine lv_if_eq (tgt := 37) hx hb dX8_canAll_21 (by decide) (fun c_6 => ?_) (fun c_6 => ?_)
      · refine lv_iconst (v := 0) hx hb dX8_canAll_37 (by decide) ?_
        refine lv_istore (lv' := [(5, .int 0), (0, .int p0), (1, .int p1), (2, .int p2), (3, .int p3), (4, .int p4)]) hx hb dX8_canAll_38 hl (by decide) rfl (fun ls hl => ?_)
        refine lv_iload hx hb dX8_canAll_40 (lv_at hl 0 rfl) ?_
        refine lv_if_eq (tgt := 100) hx hb dX8_canAll_42 (by decide) (fun _ => ?_) (fun h => absurd (by decide) h)
        refine lv_iconst (v := 0) hx hb dX8_canAll_100 (by decide) ?_
        exact W.zret (v := 0) (ty := .boolean) hx hb hr rfl (fun t ht hW => ⟨⟨0, (), rfl, .inr rfl, trivial⟩, hS.F ht⟩) hS.2.2 dX8_canAll_101
      · refine lv_iload_n hx hb dX8_canAll_24 rfl (lv_at hl 0 rfl) ?_
        refine lv_iload hx hb dX8_canAll_25 (lv_at hl 4 rfl) ?_
        refine ro_i (D := D) (va_runS (As := [.int p0, .int p4]) (rest := []) ⟨hx, hb, hml, hown, hts⟩ ((m_canOne l D k st lo p0 p4) H.size) (va_cwS 2 hts (gS tw_1453 tw_1454 tw_87 tw_1455) rfl rfl rfl (by decide +kernel) ⟨Nat.le_of_ble_eq_true rfl, Nat.le_of_ble_eq_true rfl⟩) (pS hS hAlo hlo hP hK hDL hZ [] (by decide) rfl) rfl rfl hl.1 rfl (lv_room (Nat.le_of_ble_eq_true rfl)) dX8_canAll_27 ⟨Nat.le_of_ble_eq_true rfl, Nat.le_of_ble_eq_true rfl⟩) hS hA hP (fun r_7 H locs hw_7 hP hS => ?_)
        try dsimp only at hw_7
        refine lv_if_eq (tgt := 37) hx hb dX8_canAll_30 (by decide) (fun c_8 => ?_) (fun c_8 => ?_)
        · refine lv_iconst (v := 0) hx hb dX8_canAll_37 (by decide) ?_
          refine lv_istore (lv' := [(5, .int 0), (0, .int p0), (1, .int p1), (2, .int p2), (3, .int p3), (4, .int p4)]) hx hb dX8_canAll_38 hl (by decide) rfl (fun ls hl => ?_)
          refine lv_iload hx hb dX8_canAll_40 (lv_at hl 0 rfl) ?_
          refine lv_if_eq (tgt := 100) hx hb dX8_canAll_42 (by decide) (fun _ => ?_) (fun h => absurd (by decide) h)
          refine lv_iconst (v := 0) hx hb dX8_canAll_100 (by decide) ?_
          exact W.zret (v := 0) (ty := .boolean) hx hb hr rfl (fun t ht hW => ⟨⟨0, (), rfl, .inr rfl, trivial⟩, hS.F ht⟩) hS.2.2 dX8_canAll_101
        · refine lv_iconst (v := 1) hx hb dX8_canAll_33 (by decide) ?_
          refine lv_goto (tgt := 38) hx hb dX8_canAll_34 (by decide) ?_
          refine lv_istore (lv' := [(5, .int 1), (0, .int p0), (1, .int p1), (2, .int p2), (3, .int p3), (4, .int p4)]) hx hb dX8_canAll_38 hl (by decide) rfl (fun ls hl => ?_)
          refine lv_iload hx hb dX8_canAll_40 (lv_at hl 0 rfl) ?_
          refine lv_if_eq (tgt := 100) hx hb dX8_canAll_42 (by decide) (fun h => absurd h (by decide)) (fun _ => ?_)
          refine lv_iload_n hx hb dX8_canAll_45 rfl (lv_at hl 2 rfl) ?_
          refine lv_iload_n hx hb dX8_canAll_46 rfl (lv_at hl 3 rfl) ?_
          refine ro_i (D := D) (va_runS (As := [.int p1, .int p2]) (rest := []) ⟨hx, hb, hml, hown, hts⟩ ((m_areApart l D k st lo p1 p2) H.size) (va_cwS 2 hts (gS tw_1456 tw_1457 tw_87 tw_1458) rfl rfl rfl (by decide +kernel) ⟨Nat.le_of_ble_eq_true rfl, Nat.le_of_ble_eq_true rfl⟩) (pS hS hAlo hlo hP hK hDL hZ [] (by decide) rfl) rfl rfl hl.1 rfl (lv_room (Nat.le_of_ble_eq_true rfl)) dX8_canAll_47 ⟨Nat.le_of_ble_eq_true rfl, Nat.le_of_ble_eq_true rfl⟩) hS hA hP (fun r_9 H locs hw_9 hP hS => ?_)
          try dsimp only at hw_9
          refine lv_if_eq (tgt := 100) hx hb dX8_canAll_50 (by decide) (fun c_10 => ?_) (fun c_10 => ?_)
          · refine lv_iconst (v := 0) hx hb dX8_canAll_100 (by decide) ?_
            exact W.zret (v := 0) (ty := .boolean) hx hb hr rfl (fun t ht hW => ⟨⟨0, (), rfl, .inr rfl, trivial⟩, hS.F ht⟩) hS.2.2 dX8_canAll_101
          · refine lv_iload_n hx hb dX8_canAll_53 rfl (lv_at hl 2 rfl) ?_
            refine lv_iload_n hx hb dX8_canAll_54 rfl (lv_at hl 4 rfl) ?_
            refine ro_i (D := D) (va_runS (As := [.int p1, .int p3]) (rest := []) ⟨hx, hb, hml, hown, hts⟩ ((m_areApart l D k st lo p1 p3) H.size) (va_cwS 2 hts (gS tw_1456 tw_1457 tw_87 tw_1458) rfl rfl rfl (by decide +kernel) ⟨Nat.le_of_ble_eq_true rfl, Nat.le_of_ble_eq_true rfl⟩) (pS hS hAlo hlo hP hK hDL hZ [] (by decide) rfl) rfl rfl hl.1 rfl (lv_room (Nat.le_of_ble_eq_true rfl)) dX8_canAll_55 ⟨Nat.le_of_ble_eq_true rfl, Nat.le_of_ble_eq_true rfl⟩) hS hA hP (fun r_11 H locs hw_11 hP hS => ?_)
            try dsimp only at hw_11
            refine lv_if_eq (tgt := 100) hx hb dX8_canAll_58 (by decide) (fun c_12 => ?_) (fun c_12 => ?_)
            · refine lv_iconst (v := 0) hx hb dX8_canAll_100 (by decide) ?_
              exact W.zret (v := 0) (ty := .boolean) hx hb hr rfl (fun t ht hW => ⟨⟨0, (), rfl, .inr rfl, trivial⟩, hS.F ht⟩) hS.2.2 dX8_canAll_101
            · refine lv_iload_n hx hb dX8_canAll_61 rfl (lv_at hl 2 rfl) ?_
              refine lv_iload hx hb dX8_canAll_62 (lv_at hl 5 rfl) ?_
              refine ro_i (D := D) (va_runS (As := [.int p1, .int p4]) (rest := []) ⟨hx, hb, hml, hown, hts⟩ ((m_areApart l D k st lo p1 p4) H.size) (va_cwS 2 hts (gS tw_1456 tw_1457 tw_87 tw_1458) rfl rfl rfl (by decide +kernel) ⟨Nat.le_of_ble_eq_true rfl, Nat.le_of_ble_eq_true rfl⟩) (pS hS hAlo hlo hP hK hDL hZ [] (by decide) rfl) rfl rfl hl.1 rfl (lv_room (Nat.le_of_ble_eq_true rfl)) dX8_canAll_64 ⟨Nat.le_of_ble_eq_true rfl, Nat.le_of_ble_eq_true rfl⟩) hS hA hP (fun r_13 H locs hw_13 hP hS => ?_)
              try dsimp only at hw_13
              refine lv_if_eq (tgt := 100) hx hb dX8_canAll_67 (by decide) (fun c_14 => ?_) (fun c_14 => ?_)
              · refine lv_iconst (v := 0) hx hb dX8_canAll_100 (by decide) ?_
                exact W.zret (v := 0) (ty := .boolean) hx hb hr rfl (fun t ht hW => ⟨⟨0, (), rfl, .inr rfl, trivial⟩, hS.F ht⟩) hS.2.2 dX8_canAll_101
              · refine lv_iload_n hx hb dX8_canAll_70 rfl (lv_at hl 3 rfl) ?_
                refine lv_iload_n hx hb dX8_canAll_71 rfl (lv_at hl 4 rfl) ?_
                refine ro_i (D := D) (va_runS (As := [.int p2, .int p3]) (rest := []) ⟨hx, hb, hml, hown, hts⟩ ((m_areApart l D k st lo p2 p3) H.size) (va_cwS 2 hts (gS tw_1456 tw_1457 tw_87 tw_1458) rfl rfl rfl (by decide +kernel) ⟨Nat.le_of_ble_eq_true rfl, Nat.le_of_ble_eq_true rfl⟩) (pS hS hAlo hlo hP hK hDL hZ [] (by decide) rfl) rfl rfl hl.1 rfl (lv_room (Nat.le_of_ble_eq_true rfl)) dX8_canAll_72 ⟨Nat.le_of_ble_eq_true rfl, Nat.le_of_ble_eq_true rfl⟩) hS hA hP (fun r_15 H locs hw_15 hP hS => ?_)
                try dsimp only at hw_15
                refine lv_if_eq (tgt := 100) hx hb dX8_canAll_75 (by decide) (fun c_16 => ?_) (fun c_16 => ?_)
                · refine lv_iconst (v := 0) hx hb dX8_canAll_100 (by decide) ?_
                  exact W.zret (v := 0) (ty := .boolean) hx hb hr rfl (fun t ht hW => ⟨⟨0, (), rfl, .inr rfl, trivial⟩, hS.F ht⟩) hS.2.2 dX8_canAll_101
                · refine lv_iload_n hx hb dX8_canAll_78 rfl (lv_at hl 3 rfl) ?_
                  refine lv_iload hx hb dX8_canAll_79 (lv_at hl 5 rfl) ?_
                  refine ro_i (D := D) (va_runS (As := [.int p2, .int p4]) (rest := []) ⟨hx, hb, hml, hown, hts⟩ ((m_areApart l D k st lo p2 p4) H.size) (va_cwS 2 hts (gS tw_1456 tw_1457 tw_87 tw_1458) rfl rfl rfl (by decide +kernel) ⟨Nat.le_of_ble_eq_true rfl, Nat.le_of_ble_eq_true rfl⟩) (pS hS hAlo hlo hP hK hDL hZ [] (by decide) rfl) rfl rfl hl.1 rfl (lv_room (Nat.le_of_ble_eq_true rfl)) dX8_canAll_81 ⟨Nat.le_of_ble_eq_true rfl, Nat.le_of_ble_eq_true rfl⟩) hS hA hP (fun r_17 H locs hw_17 hP hS => ?_)
                  try dsimp only at hw_17
                  refine lv_if_eq (tgt := 100) hx hb dX8_canAll_84 (by decide) (fun c_18 => ?_) (fun c_18 => ?_)
                  · refine lv_iconst (v := 0) hx hb dX8_canAll_100 (by decide) ?_
                    exact W.zret (v := 0) (ty := .boolean) hx hb hr rfl (fun t ht hW => ⟨⟨0, (), rfl, .inr rfl, trivial⟩, hS.F ht⟩) hS.2.2 dX8_canAll_101
                  · refine lv_iload_n hx hb dX8_canAll_87 rfl (lv_at hl 4 rfl) ?_
                    refine lv_iload hx hb dX8_canAll_88 (lv_at hl 5 rfl) ?_
                    refine ro_i (D := D) (va_runS (As := [.int p3, .int p4]) (rest := []) ⟨hx, hb, hml, hown, hts⟩ ((m_areApart l D k st lo p3 p4) H.size) (va_cwS 2 hts (gS tw_1456 tw_1457 tw_87 tw_1458) rfl rfl rfl (by decide +kernel) ⟨Nat.le_of_ble_eq_true rfl, Nat.le_of_ble_eq_true rfl⟩) (pS hS hAlo hlo hP hK hDL hZ [] (by decide) rfl) rfl rfl hl.1 rfl (lv_room (Nat.le_of_ble_eq_true rfl)) dX8_canAll_90 ⟨Nat.le_of_ble_eq_true rfl, Nat.le_of_ble_eq_true rfl⟩) hS hA hP (fun r_19 H locs hw_19 hP hS => ?_)
                    try dsimp only at hw_19
                    refine lv_if_eq (tgt := 100) hx hb dX8_canAll_93 (by decide) (fun c_20 => ?_) (fun c_20 => ?_)
                    · refine lv_iconst (v := 0) hx hb dX8_canAll_100 (by decide) ?_
                      exact W.zret (v := 0) (ty := .boolean) hx hb hr rfl (fun t ht hW => ⟨⟨0, (), rfl, .inr rfl, trivial⟩, hS.F ht⟩) hS.2.2 dX8_canAll_101
                    · refine lv_iconst (v := 1) hx hb dX8_canAll_96 (by decide) ?_
                      refine lv_goto (tgt := 101) hx hb dX8_canAll_97 (by decide) ?_
                      exact W.zret (v := 1) (ty := .boolean) hx hb hr rfl (fun t ht hW => ⟨⟨1, (), rfl, .inl rfl, trivial⟩, hS.F ht⟩) hS.2.2 dX8_canAll_101

theorem dX8_sumAll_0 : decode cX8_sumAll 0 = .ok (.aload_n 0, 1) := by decide +kernel
theorem dX8_sumAll_1 : decode cX8_sumAll 1 = .ok (.getfield 315, 3) := by decide +kernel
theorem dX8_sumAll_4 : decode cX8_sumAll 4 = .ok (.ifCond .le 13, 3) := by decide +kernel
theorem dX8_sumAll_7 : decode cX8_sumAll 7 = .ok (.aload_n 0, 1) := by decide +kernel
theorem dX8_sumAll_8 : decode cX8_sumAll 8 = .ok (.iload_n 1, 1) := by decide +kernel
theorem dX8_sumAll_9 : decode cX8_sumAll 9 = .ok (.iconst 0, 1) := by decide +kernel
theorem dX8_sumAll_10 : decode cX8_sumAll 10 = .ok (.iload_n 2, 1) := by decide +kernel
theorem dX8_sumAll_11 : decode cX8_sumAll 11 = .ok (.invokevirtual 330, 3) := by decide +kernel
theorem dX8_sumAll_14 : decode cX8_sumAll 14 = .ok (.goto 4, 3) := by decide +kernel
theorem dX8_sumAll_17 : decode cX8_sumAll 17 = .ok (.iconst 0, 1) := by decide +kernel
theorem dX8_sumAll_18 : decode cX8_sumAll 18 = .ok (.istore 6, 2) := by decide +kernel
theorem dX8_sumAll_20 : decode cX8_sumAll 20 = .ok (.iload 6, 2) := by decide +kernel
theorem dX8_sumAll_22 : decode cX8_sumAll 22 = .ok (.aload_n 0, 1) := by decide +kernel
theorem dX8_sumAll_23 : decode cX8_sumAll 23 = .ok (.getfield 315, 3) := by decide +kernel
theorem dX8_sumAll_26 : decode cX8_sumAll 26 = .ok (.iconst 1, 1) := by decide +kernel
theorem dX8_sumAll_27 : decode cX8_sumAll 27 = .ok (.if_icmp .le 13, 3) := by decide +kernel
theorem dX8_sumAll_30 : decode cX8_sumAll 30 = .ok (.aload_n 0, 1) := by decide +kernel
theorem dX8_sumAll_31 : decode cX8_sumAll 31 = .ok (.iload_n 1, 1) := by decide +kernel
theorem dX8_sumAll_32 : decode cX8_sumAll 32 = .ok (.iconst 1, 1) := by decide +kernel
theorem dX8_sumAll_33 : decode cX8_sumAll 33 = .ok (.iload_n 3, 1) := by decide +kernel
theorem dX8_sumAll_34 : decode cX8_sumAll 34 = .ok (.invokevirtual 330, 3) := by decide +kernel
theorem dX8_sumAll_37 : decode cX8_sumAll 37 = .ok (.goto 4, 3) := by decide +kernel
theorem dX8_sumAll_40 : decode cX8_sumAll 40 = .ok (.iconst 0, 1) := by decide +kernel
theorem dX8_sumAll_41 : decode cX8_sumAll 41 = .ok (.iadd, 1) := by decide +kernel
theorem dX8_sumAll_42 : decode cX8_sumAll 42 = .ok (.istore 6, 2) := by decide +kernel
theorem dX8_sumAll_44 : decode cX8_sumAll 44 = .ok (.iload 6, 2) := by decide +kernel
theorem dX8_sumAll_46 : decode cX8_sumAll 46 = .ok (.aload_n 0, 1) := by decide +kernel
theorem dX8_sumAll_47 : decode cX8_sumAll 47 = .ok (.getfield 315, 3) := by decide +kernel
theorem dX8_sumAll_50 : decode cX8_sumAll 50 = .ok (.iconst 2, 1) := by decide +kernel
theorem dX8_sumAll_51 : decode cX8_sumAll 51 = .ok (.if_icmp .le 14, 3) := by decide +kernel
theorem dX8_sumAll_54 : decode cX8_sumAll 54 = .ok (.aload_n 0, 1) := by decide +kernel
theorem dX8_sumAll_55 : decode cX8_sumAll 55 = .ok (.iload_n 1, 1) := by decide +kernel
theorem dX8_sumAll_56 : decode cX8_sumAll 56 = .ok (.iconst 2, 1) := by decide +kernel
theorem dX8_sumAll_57 : decode cX8_sumAll 57 = .ok (.iload 4, 2) := by decide +kernel
theorem dX8_sumAll_59 : decode cX8_sumAll 59 = .ok (.invokevirtual 330, 3) := by decide +kernel
theorem dX8_sumAll_62 : decode cX8_sumAll 62 = .ok (.goto 4, 3) := by decide +kernel
theorem dX8_sumAll_65 : decode cX8_sumAll 65 = .ok (.iconst 0, 1) := by decide +kernel
theorem dX8_sumAll_66 : decode cX8_sumAll 66 = .ok (.iadd, 1) := by decide +kernel
theorem dX8_sumAll_67 : decode cX8_sumAll 67 = .ok (.istore 6, 2) := by decide +kernel
theorem dX8_sumAll_69 : decode cX8_sumAll 69 = .ok (.iload 6, 2) := by decide +kernel
theorem dX8_sumAll_71 : decode cX8_sumAll 71 = .ok (.aload_n 0, 1) := by decide +kernel
theorem dX8_sumAll_72 : decode cX8_sumAll 72 = .ok (.getfield 315, 3) := by decide +kernel
theorem dX8_sumAll_75 : decode cX8_sumAll 75 = .ok (.iconst 3, 1) := by decide +kernel
theorem dX8_sumAll_76 : decode cX8_sumAll 76 = .ok (.if_icmp .le 14, 3) := by decide +kernel
theorem dX8_sumAll_79 : decode cX8_sumAll 79 = .ok (.aload_n 0, 1) := by decide +kernel
theorem dX8_sumAll_80 : decode cX8_sumAll 80 = .ok (.iload_n 1, 1) := by decide +kernel
theorem dX8_sumAll_81 : decode cX8_sumAll 81 = .ok (.iconst 3, 1) := by decide +kernel
theorem dX8_sumAll_82 : decode cX8_sumAll 82 = .ok (.iload 5, 2) := by decide +kernel
theorem dX8_sumAll_84 : decode cX8_sumAll 84 = .ok (.invokevirtual 330, 3) := by decide +kernel
theorem dX8_sumAll_87 : decode cX8_sumAll 87 = .ok (.goto 4, 3) := by decide +kernel
theorem dX8_sumAll_90 : decode cX8_sumAll 90 = .ok (.iconst 0, 1) := by decide +kernel
theorem dX8_sumAll_91 : decode cX8_sumAll 91 = .ok (.iadd, 1) := by decide +kernel
theorem dX8_sumAll_92 : decode cX8_sumAll 92 = .ok (.ireturn, 1) := by decide +kernel
set_option maxHeartbeats 4000000 in
set_option maxRecDepth 100000 in
theorem m_sumAll (l : Launch) (D : va_G) (k : Nat → ClassId) (st : Nat → Nat) (lo : Nat) (a : Nat → Nat) (tx : Nat) (t0 : Nat) (we : Nat) (rd : Nat) (ru : Nat) (rw : Nat) (ca : Nat) (fp : Int32) (wd : Int64) (nu : Int32) (na : Int32) (ts : Int32) (df : Int32) (db : Int32) (sd : Int32) (dn : Nat → Nat) (se : Nat → Nat) (tm : Nat → Nat) (gs : Nat → Int32) (fprices : Nat → Int32) (fwalks : Nat → Int32) (sn : Nat) (qa : Int32) (qb : Int32) (qc : Int32) (qd : Int32) (hca : ca ≤ 4) (hs : sn < 3) (hqa : qa < 0 ∨ ∃ d : Nat, d < 24 ∧ qa = nI d) (hqb : qb < 0 ∨ ∃ d : Nat, d < 24 ∧ qb = nI d) (hqc : qc < 0 ∨ ∃ d : Nat, d < 24 ∧ qc = nI d) (hqd : qd < 0 ∨ ∃ d : Nat, d < 24 ∧ qd = nI d) : CRi l D k st lo yX8_sumAll cX8_sumAll 7 (some .int) ({ frames := 4, cells := 0, slots := 0, locals := 94 }) [.ref (a 0), .int (nI sn), .int qa, .int qb, .int qc, .int qd] [((a 0), .inr (8, (fX8 a (nI tx) fp (nI t0) wd (nI we) nu na (nI rd) ts (nI ru) (nI rw) (nI ca) df db sd))), (aI k (a 1) 3 (nF dn)), (aI k (a 4) 27 (sg se tm gs)), (aI k (a 3) 72 fprices), (aI k (a 36) 4 fwalks)] (fun r => True) := by
  intro sz
  refine Met.ofW (cc := cX8_sumAll) (maxL := 7) (ret := (some .int)) (by decide) rfl ?_
  intro p e s m args below meth c s₁ B hml hv
  obtain ⟨rfl, hsz, hlo, hP, hK, hDL, hZ⟩ := hv
  have hx := B.exec
  have hb := B.bytes
  have hr := B.returns
  have hts := WS_ts B.pre
  have hown : s.vm.findClass RX8 = some m.cls := findClass_of_methodNamed B.named
  have hlocks := B.notSynchronized
  subst hsz
  have hA : ∀ q : Nat, s.heap.size ≤ q → (fun q : Nat => s.heap.size ≤ q) q := fun _ h => h
  have hAlo : ∀ q : Nat, (fun q : Nat => s.heap.size ≤ q) q → lo ≤ q := fun q h => Nat.le_trans hlo h
  have hS : va_S (fun q : Nat => s.heap.size ≤ q) s.heap s.heap [] := va_S.rf
  have hl := lv_entry ([.ref (a 0), .int (nI sn), .int qa, .int qb, .int qc, .int qd]) (n := 7) (Nat.le_of_ble_eq_true rfl)
  rw [lg_entry_eq]
  generalize (lg_sl ([.ref (a 0), .int (nI sn), .int qa, .int qb, .int qc, .int qd]) ++ List.replicate (7 - (lg_sl ([.ref (a 0), .int (nI sn), .int qa, .int qb, .int qc, .int qd])).length) Slot.unset).toArray = ls at hl ⊢
  have hl : lv_has ls 7 [(0, .ref (a 0)), (1, .int (nI sn)), (2, .int qa), (3, .int qb), (4, .int qc), (5, .int qd)] := hl
  refine lv_aload_n hx hb dX8_sumAll_0 rfl (lv_at hl 0 rfl) ?_
  refine va_get (D := D) (ci := 8) (v := .int (nI ca)) (C := RX8) (T := TX8) (N := 44) hx hb hts inX8 hown hK hP 0 rfl rfl 34 (by decide) (hts _ tw_1007) (fun _ h9 => h9) rfl dX8_sumAll_1 ?_
  refine lv_if_le (tgt := 17) hx hb dX8_sumAll_4 (by decide) (fun c_1 => ?_) (fun c_1 => ?_)
  · have c_1 := (nI_leI (a := ca) (b := 0) (by omega) (by omega)).mp c_1
    refine lv_iconst (v := 0) hx hb dX8_sumAll_17 (by decide) ?_
    refine lv_istore (lv' := [(6, .int 0), (0, .ref (a 0)), (1, .int (nI sn)), (2, .int qa), (3, .int qb), (4, .int qc), (5, .int qd)]) hx hb dX8_sumAll_18 hl (by decide) rfl (fun ls hl => ?_)
    refine lv_iload hx hb dX8_sumAll_20 (lv_at hl 0 rfl) ?_
    refine lv_aload_n hx hb dX8_sumAll_22 rfl (lv_at hl 1 rfl) ?_
    refine va_get (D := D) (ci := 8) (v := .int (nI ca)) (C := RX8) (T := TX8) (N := 44) hx hb hts inX8 hown hK hP 0 rfl rfl 34 (by decide) (hts _ tw_1007) (fun _ h9 => h9) rfl dX8_sumAll_23 ?_
    refine lv_iconst (v := 1) hx hb dX8_sumAll_26 (by decide) ?_
    refine lv_icmp_le (tgt := 40) hx hb dX8_sumAll_27 (by decide) (fun _ => ?_) (fun h => absurd ((nI_leI (a := ca) (b := 1) (by omega) (by omega)).mpr (by omega)) h)
    refine lv_iconst (v := 0) hx hb dX8_sumAll_40 (by decide) ?_
    refine lv_iadd hx hb dX8_sumAll_41 ?_
    refine lv_ti (y := 0) (by decide) ?_
    refine lv_istore (lv' := [(6, .int 0), (0, .ref (a 0)), (1, .int (nI sn)), (2, .int qa), (3, .int qb), (4, .int qc), (5, .int qd)]) hx hb dX8_sumAll_42 hl (by decide) rfl (fun ls hl => ?_)
    refine lv_iload hx hb dX8_sumAll_44 (lv_at hl 0 rfl) ?_
    refine lv_aload_n hx hb dX8_sumAll_46 rfl (lv_at hl 1 rfl) ?_
    refine va_get (D := D) (ci := 8) (v := .int (nI ca)) (C := RX8) (T := TX8) (N := 44) hx hb hts inX8 hown hK hP 0 rfl rfl 34 (by decide) (hts _ tw_1007) (fun _ h9 => h9) rfl dX8_sumAll_47 ?_
    refine lv_iconst (v := 2) hx hb dX8_sumAll_50 (by decide) ?_
    refine lv_icmp_le (tgt := 65) hx hb dX8_sumAll_51 (by decide) (fun _ => ?_) (fun h => absurd ((nI_leI (a := ca) (b := 2) (by omega) (by omega)).mpr (by omega)) h)
    refine lv_iconst (v := 0) hx hb dX8_sumAll_65 (by decide) ?_
    refine lv_iadd hx hb dX8_sumAll_66 ?_
    refine lv_ti (y := 0) (by decide) ?_
    refine lv_istore (lv' := [(6, .int 0), (0, .ref (a 0)), (1, .int (nI sn)), (2, .int qa), (3, .int qb), (4, .int qc), (5, .int qd)]) hx hb dX8_sumAll_67 hl (by decide) rfl (fun ls hl => ?_)
    refine lv_iload hx hb dX8_sumAll_69 (lv_at hl 0 rfl) ?_
    refine lv_aload_n hx hb dX8_sumAll_71 rfl (lv_at hl 1 rfl) ?_
    refine va_get (D := D) (ci := 8) (v := .int (nI ca)) (C := RX8) (T := TX8) (N := 44) hx hb hts inX8 hown hK hP 0 rfl rfl 34 (by decide) (hts _ tw_1007) (fun _ h9 => h9) rfl dX8_sumAll_72 ?_
    refine lv_iconst (v := 3) hx hb dX8_sumAll_75 (by decide) ?_
    refine lv_icmp_le (tgt := 90) hx hb dX8_sumAll_76 (by decide) (fun _ => ?_) (fun h => absurd ((nI_leI (a := ca) (b := 3) (by omega) (by omega)).mpr (by omega)) h)
    refine lv_iconst (v := 0) hx hb dX8_sumAll_90 (by decide) ?_
    refine lv_iadd hx hb dX8_sumAll_91 ?_
    refine lv_ti (y := 0) (by decide) ?_
    exact W.iret (v := 0) hx hb hr (fun t ht hW => ⟨⟨0, (), rfl, trivial, trivial⟩, hS.F ht⟩) hS.2.2 dX8_sumAll_92
  · have c_1 : ¬ (ca ≤ 0) := fun h => c_1 ((nI_leI (a := ca) (b := 0) (by omega) (by omega)).mpr h)
    refine lv_aload_n hx hb dX8_sumAll_7 rfl (lv_at hl 0 rfl) ?_
    refine lv_iload_n hx hb dX8_sumAll_8 rfl (lv_at hl 1 rfl) ?_
    refine lv_iconst (v := 0) hx hb dX8_sumAll_9 (by decide) ?_
    refine lv_iload_n hx hb dX8_sumAll_10 rfl (lv_at hl 2 rfl) ?_
    refine ro_i (D := D) (va_runV (As := [.int (nI sn), .int 0, .int qa]) (rest := []) ⟨hx, hb, hml, hown, hts⟩ ((m_costAt l D k st lo a tx t0 we rd ru rw ca fp wd nu na ts df db sd dn se tm gs fprices fwalks sn 0 qa (by omega) (by omega) hqa) s.heap.size) (cwV 3 hts (gV tw_1402 tw_1404 tw_67 tw_87 tw_1405) rfl rfl rfl (by decide +kernel) ⟨Nat.le_of_ble_eq_true rfl, Nat.le_of_ble_eq_true rfl⟩) (pV hS hAlo hlo hP hK hDL hZ [0, 1, 2, 3, 4] (by decide) rfl (ci := 8) (q := (RX8, TX8, 44)) (q0 := 0) rfl rfl) rfl rfl hl.1 rfl (lv_room (Nat.le_of_ble_eq_true rfl)) dX8_sumAll_11 ⟨Nat.le_of_ble_eq_true rfl, Nat.le_of_ble_eq_true rfl⟩) hS hA hP (fun r_5 H locs hw_5 hP hS => ?_)
    try dsimp only at hw_5
    refine lv_goto (tgt := 18) hx hb dX8_sumAll_14 (by decide) ?_
    refine lv_istore (lv' := [(6, .int r_5), (0, .ref (a 0)), (1, .int (nI sn)), (2, .int qa), (3, .int qb), (4, .int qc), (5, .int qd)]) hx hb dX8_sumAll_18 hl (by decide) rfl (fun ls hl => ?_)
    refine lv_iload hx hb dX8_sumAll_20 (lv_at hl 0 rfl) ?_
    refine lv_aload_n hx hb dX8_sumAll_22 rfl (lv_at hl 1 rfl) ?_
    refine va_get (D := D) (ci := 8) (v := .int (nI ca)) (C := RX8) (T := TX8) (N := 44) hx hb hts inX8 hown hK hP 0 rfl rfl 34 (by decide) (hts _ tw_1007) (fun _ h9 => h9) rfl dX8_sumAll_23 ?_
    refine lv_iconst (v := 1) hx hb dX8_sumAll_26 (by decide) ?_
    refine lv_icmp_le (tgt := 40) hx hb dX8_sumAll_27 (by decide) (fun c_6 => ?_) (fun c_6 => ?_)
    · have c_6 := (nI_leI (a := ca) (b := 1) (by omega) (by omega)).mp c_6
      refine lv_iconst (v := 0) hx hb dX8_sumAll_40 (by decide) ?_
      refine lv_iadd hx hb dX8_sumAll_41 ?_
      refine lv_topi (fun x_7 ex_7 => ?_)
      refine lv_istore (lv' := [(6, .int x_7), (0, .ref (a 0)), (1, .int (nI sn)), (2, .int qa), (3, .int qb), (4, .int qc), (5, .int qd)]) hx hb dX8_sumAll_42 hl (by decide) rfl (fun ls hl => ?_)
      refine lv_iload hx hb dX8_sumAll_44 (lv_at hl 0 rfl) ?_
      refine lv_aload_n hx hb dX8_sumAll_46 rfl (lv_at hl 1 rfl) ?_
      refine va_get (D := D) (ci := 8) (v := .int (nI ca)) (C := RX8) (T := TX8) (N := 44) hx hb hts inX8 hown hK hP 0 rfl rfl 34 (by decide) (hts _ tw_1007) (fun _ h9 => h9) rfl dX8_sumAll_47 ?_
      refine lv_iconst (v := 2) hx hb dX8_sumAll_50 (by decide) ?_
      refine lv_icmp_le (tgt := 65) hx hb dX8_sumAll_51 (by decide) (fun c_8 => ?_) (fun c_8 => ?_)
      · have c_8 := (nI_leI (a := ca) (b := 2) (by omega) (by omega)).mp c_8
        refine lv_iconst (v := 0) hx hb dX8_sumAll_65 (by decide) ?_
        refine lv_iadd hx hb dX8_sumAll_66 ?_
        refine lv_topi (fun x_9 ex_9 => ?_)
        refine lv_istore (lv' := [(6, .int x_9), (0, .ref (a 0)), (1, .int (nI sn)), (2, .int qa), (3, .int qb), (4, .int qc), (5, .int qd)]) hx hb dX8_sumAll_67 hl (by decide) rfl (fun ls hl => ?_)
        refine lv_iload hx hb dX8_sumAll_69 (lv_at hl 0 rfl) ?_
        refine lv_aload_n hx hb dX8_sumAll_71 rfl (lv_at hl 1 rfl) ?_
        refine va_get (D := D) (ci := 8) (v := .int (nI ca)) (C := RX8) (T := TX8) (N := 44) hx hb hts inX8 hown hK hP 0 rfl rfl 34 (by decide) (hts _ tw_1007) (fun _ h9 => h9) rfl dX8_sumAll_72 ?_
        refine lv_iconst (v := 3) hx hb dX8_sumAll_75 (by decide) ?_
        refine lv_icmp_le (tgt := 90) hx hb dX8_sumAll_76 (by decide) (fun c_10 => ?_) (fun c_10 => ?_)
        · have c_10 := (nI_leI (a := ca) (b := 3) (by omega) (by omega)).mp c_10
          refine lv_iconst (v := 0) hx hb dX8_sumAll_90 (by decide) ?_
          refine lv_iadd hx hb dX8_sumAll_91 ?_
          refine lv_topi (fun x_11 ex_11 => ?_)
          exact W.iret (v := x_11) hx hb hr (fun t ht hW => ⟨⟨x_11, (), rfl, trivial, trivial⟩, hS.F ht⟩) hS.2.2 dX8_sumAll_92
        · have c_10 : ¬ (ca ≤ 3) := fun h => c_10 ((nI_leI (a := ca) (b := 3) (by omega) (by omega)).mpr h)
          refine lv_aload_n hx hb dX8_sumAll_79 rfl (lv_at hl 1 rfl) ?_
          refine lv_iload_n hx hb dX8_sumAll_80 rfl (lv_at hl 2 rfl) ?_
          refine lv_iconst (v := 3) hx hb dX8_sumAll_81 (by decide) ?_
          refine lv_iload hx hb dX8_sumAll_82 (lv_at hl 6 rfl) ?_
          refine ro_i (D := D) (va_runV (As := [.int (nI sn), .int 3, .int qd]) (rest := [.int x_9]) ⟨hx, hb, hml, hown, hts⟩ ((m_costAt l D k st lo a tx t0 we rd ru rw ca fp wd nu na ts df db sd dn se tm gs fprices fwalks sn 3 qd (by omega) (by omega) hqd) H.size) (cwV 3 hts (gV tw_1402 tw_1404 tw_67 tw_87 tw_1405) rfl rfl rfl (by decide +kernel) ⟨Nat.le_of_ble_eq_true rfl, Nat.le_of_ble_eq_true rfl⟩) (pV hS hAlo hlo hP hK hDL hZ [0, 1, 2, 3, 4] (by decide) rfl (ci := 8) (q := (RX8, TX8, 44)) (q0 := 0) rfl rfl) rfl rfl hl.1 rfl (lv_room (Nat.le_of_ble_eq_true rfl)) dX8_sumAll_84 ⟨Nat.le_of_ble_eq_true rfl, Nat.le_of_ble_eq_true rfl⟩) hS hA hP (fun r_12 H locs hw_12 hP hS => ?_)
          try dsimp only at hw_12
          refine lv_goto (tgt := 91) hx hb dX8_sumAll_87 (by decide) ?_
          refine lv_iadd hx hb dX8_sumAll_91 ?_
          refine lv_topi (fun x_13 ex_13 => ?_)
          exact W.iret (v := x_13) hx hb hr (fun t ht hW => ⟨⟨x_13, (), rfl, trivial, trivial⟩, hS.F ht⟩) hS.2.2 dX8_sumAll_92
      · have c_8 : ¬ (ca ≤ 2) := fun h => c_8 ((nI_leI (a := ca) (b := 2) (by omega) (by omega)).mpr h)
        refine lv_aload_n hx hb dX8_sumAll_54 rfl (lv_at hl 1 rfl) ?_
        refine lv_iload_n hx hb dX8_sumAll_55 rfl (lv_at hl 2 rfl) ?_
        refine lv_iconst (v := 2) hx hb dX8_sumAll_56 (by decide) ?_
        refine lv_iload hx hb dX8_sumAll_57 (lv_at hl 5 rfl) ?_
        refine ro_i (D := D) (va_runV (As := [.int (nI sn), .int 2, .int qc]) (rest := [.int x_7]) ⟨hx, hb, hml, hown, hts⟩ ((m_costAt l D k st lo a tx t0 we rd ru rw ca fp wd nu na ts df db sd dn se tm gs fprices fwalks sn 2 qc (by omega) (by omega) hqc) H.size) (cwV 3 hts (gV tw_1402 tw_1404 tw_67 tw_87 tw_1405) rfl rfl rfl (by decide +kernel) ⟨Nat.le_of_ble_eq_true rfl, Nat.le_of_ble_eq_true rfl⟩) (pV hS hAlo hlo hP hK hDL hZ [0, 1, 2, 3, 4] (by decide) rfl (ci := 8) (q := (RX8, TX8, 44)) (q0 := 0) rfl rfl) rfl rfl hl.1 rfl (lv_room (Nat.le_of_ble_eq_true rfl)) dX8_sumAll_59 ⟨Nat.le_of_ble_eq_true rfl, Nat.le_of_ble_eq_true rfl⟩) hS hA hP (fun r_14 H locs hw_14 hP hS => ?_)
        try dsimp only at hw_14
        refine lv_goto (tgt := 66) hx hb dX8_sumAll_62 (by decide) ?_
        refine lv_iadd hx hb dX8_sumAll_66 ?_
        refine lv_topi (fun x_15 ex_15 => ?_)
        refine lv_istore (lv' := [(6, .int x_15), (0, .ref (a 0)), (1, .int (nI sn)), (2, .int qa), (3, .int qb), (4, .int qc), (5, .int qd)]) hx hb dX8_sumAll_67 hl (by decide) rfl (fun ls hl => ?_)
        refine lv_iload hx hb dX8_sumAll_69 (lv_at hl 0 rfl) ?_
        refine lv_aload_n hx hb dX8_sumAll_71 rfl (lv_at hl 1 rfl) ?_
        refine va_get (D := D) (ci := 8) (v := .int (nI ca)) (C := RX8) (T := TX8) (N := 44) hx hb hts inX8 hown hK hP 0 rfl rfl 34 (by decide) (hts _ tw_1007) (fun _ h9 => h9) rfl dX8_sumAll_72 ?_
        refine lv_iconst (v := 3) hx hb dX8_sumAll_75 (by decide) ?_
        refine lv_icmp_le (tgt := 90) hx hb dX8_sumAll_76 (by decide) (fun c_16 => ?_) (fun c_16 => ?_)
        · have c_16 := (nI_leI (a := ca) (b := 3) (by omega) (by omega)).mp c_16
          refine lv_iconst (v := 0) hx hb dX8_sumAll_90 (by decide) ?_
          refine lv_iadd hx hb dX8_sumAll_91 ?_
          refine lv_topi (fun x_17 ex_17 => ?_)
          exact W.iret (v := x_17) hx hb hr (fun t ht hW => ⟨⟨x_17, (), rfl, trivial, trivial⟩, hS.F ht⟩) hS.2.2 dX8_sumAll_92
        · have c_16 : ¬ (ca ≤ 3) := fun h => c_16 ((nI_leI (a := ca) (b := 3) (by omega) (by omega)).mpr h)
          refine lv_aload_n hx hb dX8_sumAll_79 rfl (lv_at hl 1 rfl) ?_
          refine lv_iload_n hx hb dX8_sumAll_80 rfl (lv_at hl 2 rfl) ?_
          refine lv_iconst (v := 3) hx hb dX8_sumAll_81 (by decide) ?_
          refine lv_iload hx hb dX8_sumAll_82 (lv_at hl 6 rfl) ?_
          refine ro_i (D := D) (va_runV (As := [.int (nI sn), .int 3, .int qd]) (rest := [.int x_15]) ⟨hx, hb, hml, hown, hts⟩ ((m_costAt l D k st lo a tx t0 we rd ru rw ca fp wd nu na ts df db sd dn se tm gs fprices fwalks sn 3 qd (by omega) (by omega) hqd) H.size) (cwV 3 hts (gV tw_1402 tw_1404 tw_67 tw_87 tw_1405) rfl rfl rfl (by decide +kernel) ⟨Nat.le_of_ble_eq_true rfl, Nat.le_of_ble_eq_true rfl⟩) (pV hS hAlo hlo hP hK hDL hZ [0, 1, 2, 3, 4] (by decide) rfl (ci := 8) (q := (RX8, TX8, 44)) (q0 := 0) rfl rfl) rfl rfl hl.1 rfl (lv_room (Nat.le_of_ble_eq_true rfl)) dX8_sumAll_84 ⟨Nat.le_of_ble_eq_true rfl, Nat.le_of_ble_eq_true rfl⟩) hS hA hP (fun r_18 H locs hw_18 hP hS => ?_)
          try dsimp only at hw_18
          refine lv_goto (tgt := 91) hx hb dX8_sumAll_87 (by decide) ?_
          refine lv_iadd hx hb dX8_sumAll_91 ?_
          refine lv_topi (fun x_19 ex_19 => ?_)
          exact W.iret (v := x_19) hx hb hr (fun t ht hW => ⟨⟨x_19, (), rfl, trivial, trivial⟩, hS.F ht⟩) hS.2.2 dX8_sumAll_92
    · have c_6 : ¬ (ca ≤ 1) := fun h => c_6 ((nI_leI (a := ca) (b := 1) (by omega) (by omega)).mpr h)
      refine lv_aload_n hx hb dX8_sumAll_30 rfl (lv_at hl 1 rfl) ?_
      refine lv_iload_n hx hb dX8_sumAll_31 rfl (lv_at hl 2 rfl) ?_
      refine lv_iconst (v := 1) hx hb dX8_sumAll_32 (by decide) ?_
      refine lv_iload_n hx hb dX8_sumAll_33 rfl (lv_at hl 4 rfl) ?_
      refine ro_i (D := D) (va_runV (As := [.int (nI sn), .int 1, .int qb]) (rest := [.int r_5]) ⟨hx, hb, hml, hown, hts⟩ ((m_costAt l D k st lo a tx t0 we rd ru rw ca fp wd nu na ts df db sd dn se tm gs fprices fwalks sn 1 qb (by omega) (by omega) hqb) H.size) (cwV 3 hts (gV tw_1402 tw_1404 tw_67 tw_87 tw_1405) rfl rfl rfl (by decide +kernel) ⟨Nat.le_of_ble_eq_true rfl, Nat.le_of_ble_eq_true rfl⟩) (pV hS hAlo hlo hP hK hDL hZ [0, 1, 2, 3, 4] (by decide) rfl (ci := 8) (q := (RX8, TX8, 44)) (q0 := 0) rfl rfl) rfl rfl hl.1 rfl (lv_room (Nat.le_of_ble_eq_true rfl)) dX8_sumAll_34 ⟨Nat.le_of_ble_eq_true rfl, Nat.le_of_ble_eq_true rfl⟩) hS hA hP (fun r_20 H locs hw_20 hP hS => ?_)
      try dsimp only at hw_20
      refine lv_goto (tgt := 41) hx hb dX8_sumAll_37 (by decide) ?_
      refine lv_iadd hx hb dX8_sumAll_41 ?_
      refine lv_topi (fun x_21 ex_21 => ?_)
      refine lv_istore (lv' := [(6, .int x_21), (0, .ref (a 0)), (1, .int (nI sn)), (2, .int qa), (3, .int qb), (4, .int qc), (5, .int qd)]) hx hb dX8_sumAll_42 hl (by decide) rfl (fun ls hl => ?_)
      refine lv_iload hx hb dX8_sumAll_44 (lv_at hl 0 rfl) ?_
      refine lv_aload_n hx hb dX8_sumAll_46 rfl (lv_at hl 1 rfl) ?_
      refine va_get (D := D) (ci := 8) (v := .int (nI ca)) (C := RX8) (T := TX8) (N := 44) hx hb hts inX8 hown hK hP 0 rfl rfl 34 (by decide) (hts _ tw_1007) (fun _ h9 => h9) rfl dX8_sumAll_47 ?_
      refine lv_iconst (v := 2) hx hb dX8_sumAll_50 (by decide) ?_
      refine lv_icmp_le (tgt := 65) hx hb dX8_sumAll_51 (by decide) (fun c_22 => ?_) (fun c_22 => ?_)
      · have c_22 := (nI_leI (a := ca) (b := 2) (by omega) (by omega)).mp c_22
        refine lv_iconst (v := 0) hx hb dX8_sumAll_65 (by decide) ?_
        refine lv_iadd hx hb dX8_sumAll_66 ?_
        refine lv_topi (fun x_23 ex_23 => ?_)
        refine lv_istore (lv' := [(6, .int x_23), (0, .ref (a 0)), (1, .int (nI sn)), (2, .int qa), (3, .int qb), (4, .int qc), (5, .int qd)]) hx hb dX8_sumAll_67 hl (by decide) rfl (fun ls hl => ?_)
        refine lv_iload hx hb dX8_sumAll_69 (lv_at hl 0 rfl) ?_
        refine lv_aload_n hx hb dX8_sumAll_71 rfl (lv_at hl 1 rfl) ?_
        refine va_get (D := D) (ci := 8) (v := .int (nI ca)) (C := RX8) (T := TX8) (N := 44) hx hb hts inX8 hown hK hP 0 rfl rfl 34 (by decide) (hts _ tw_1007) (fun _ h9 => h9) rfl dX8_sumAll_72 ?_
        refine lv_iconst (v := 3) hx hb dX8_sumAll_75 (by decide) ?_
        refine lv_icmp_le (tgt := 90) hx hb dX8_sumAll_76 (by decide) (fun c_24 => ?_) (fun c_24 => ?_)
        · have c_24 := (nI_leI (a := ca) (b := 3) (by omega) (by omega)).mp c_24
          refine lv_iconst (v := 0) hx hb dX8_sumAll_90 (by decide) ?_
          refine lv_iadd hx hb dX8_sumAll_91 ?_
          refine lv_topi (fun x_25 ex_25 => ?_)
          exact W.iret (v := x_25) hx hb hr (fun t ht hW => ⟨⟨x_25, (), rfl, trivial, trivial⟩, hS.F ht⟩) hS.2.2 dX8_sumAll_92
        · have c_24 : ¬ (ca ≤ 3) := fun h => c_24 ((nI_leI (a := ca) (b := 3) (by omega) (by omega)).mpr h)
          refine lv_aload_n hx hb dX8_sumAll_79 rfl (lv_at hl 1 rfl) ?_
          refine lv_iload_n hx hb dX8_sumAll_80 rfl (lv_at hl 2 rfl) ?_
          refine lv_iconst (v := 3) hx hb dX8_sumAll_81 (by decide) ?_
          refine lv_iload hx hb dX8_sumAll_82 (lv_at hl 6 rfl) ?_
          refine ro_i (D := D) (va_runV (As := [.int (nI sn), .int 3, .int qd]) (rest := [.int x_23]) ⟨hx, hb, hml, hown, hts⟩ ((m_costAt l D k st lo a tx t0 we rd ru rw ca fp wd nu na ts df db sd dn se tm gs fprices fwalks sn 3 qd (by omega) (by omega) hqd) H.size) (cwV 3 hts (gV tw_1402 tw_1404 tw_67 tw_87 tw_1405) rfl rfl rfl (by decide +kernel) ⟨Nat.le_of_ble_eq_true rfl, Nat.le_of_ble_eq_true rfl⟩) (pV hS hAlo hlo hP hK hDL hZ [0, 1, 2, 3, 4] (by decide) rfl (ci := 8) (q := (RX8, TX8, 44)) (q0 := 0) rfl rfl) rfl rfl hl.1 rfl (lv_room (Nat.le_of_ble_eq_true rfl)) dX8_sumAll_84 ⟨Nat.le_of_ble_eq_true rfl, Nat.le_of_ble_eq_true rfl⟩) hS hA hP (fun r_26 H locs hw_26 hP hS => ?_)
          try dsimp only at hw_26
          refine lv_goto (tgt := 91) hx hb dX8_sumAll_87 (by decide) ?_
          refine lv_iadd hx hb dX8_sumAll_91 ?_
          refine lv_topi (fun x_27 ex_27 => ?_)
          exact W.iret (v := x_27) hx hb hr (fun t ht hW => ⟨⟨x_27, (), rfl, trivial, trivial⟩, hS.F ht⟩) hS.2.2 dX8_sumAll_92
      · have c_22 : ¬ (ca ≤ 2) := fun h => c_22 ((nI_leI (a := ca) (b := 2) (by omega) (by omega)).mpr h)
        refine lv_aload_n hx hb dX8_sumAll_54 rfl (lv_at hl 1 rfl) ?_
        refine lv_iload_n hx hb dX8_sumAll_55 rfl (lv_at hl 2 rfl) ?_
        refine lv_iconst (v := 2) hx hb dX8_sumAll_56 (by decide) ?_
        refine lv_iload hx hb dX8_sumAll_57 (lv_at hl 5 rfl) ?_
        refine ro_i (D := D) (va_runV (As := [.int (nI sn), .int 2, .int qc]) (rest := [.int x_21]) ⟨hx, hb, hml, hown, hts⟩ ((m_costAt l D k st lo a tx t0 we rd ru rw ca fp wd nu na ts df db sd dn se tm gs fprices fwalks sn 2 qc (by omega) (by omega) hqc) H.size) (cwV 3 hts (gV tw_1402 tw_1404 tw_67 tw_87 tw_1405) rfl rfl rfl (by decide +kernel) ⟨Nat.le_of_ble_eq_true rfl, Nat.le_of_ble_eq_true rfl⟩) (pV hS hAlo hlo hP hK hDL hZ [0, 1, 2, 3, 4] (by decide) rfl (ci := 8) (q := (RX8, TX8, 44)) (q0 := 0) rfl rfl) rfl rfl hl.1 rfl (lv_room (Nat.le_of_ble_eq_true rfl)) dX8_sumAll_59 ⟨Nat.le_of_ble_eq_true rfl, Nat.le_of_ble_eq_true rfl⟩) hS hA hP (fun r_28 H locs hw_28 hP hS => ?_)
        try dsimp only at hw_28
        refine lv_goto (tgt := 66) hx hb dX8_sumAll_62 (by decide) ?_
        refine lv_iadd hx hb dX8_sumAll_66 ?_
        refine lv_topi (fun x_29 ex_29 => ?_)
        refine lv_istore (lv' := [(6, .int x_29), (0, .ref (a 0)), (1, .int (nI sn)), (2, .int qa), (3, .int qb), (4, .int qc), (5, .int qd)]) hx hb dX8_sumAll_67 hl (by decide) rfl (fun ls hl => ?_)
        refine lv_iload hx hb dX8_sumAll_69 (lv_at hl 0 rfl) ?_
        refine lv_aload_n hx hb dX8_sumAll_71 rfl (lv_at hl 1 rfl) ?_
        refine va_get (D := D) (ci := 8) (v := .int (nI ca)) (C := RX8) (T := TX8) (N := 44) hx hb hts inX8 hown hK hP 0 rfl rfl 34 (by decide) (hts _ tw_1007) (fun _ h9 => h9) rfl dX8_sumAll_72 ?_
        refine lv_iconst (v := 3) hx hb dX8_sumAll_75 (by decide) ?_
        refine lv_icmp_le (tgt := 90) hx hb dX8_sumAll_76 (by decide) (fun c_30 => ?_) (fun c_30 => ?_)
        · have c_30 := (nI_leI (a := ca) (b := 3) (by omega) (by omega)).mp c_30
          refine lv_iconst (v := 0) hx hb dX8_sumAll_90 (by decide) ?_
          refine lv_iadd hx hb dX8_sumAll_91 ?_
          refine lv_topi (fun x_31 ex_31 => ?_)
          exact W.iret (v := x_31) hx hb hr (fun t ht hW => ⟨⟨x_31, (), rfl, trivial, trivial⟩, hS.F ht⟩) hS.2.2 dX8_sumAll_92
        · have c_30 : ¬ (ca ≤ 3) := fun h => c_30 ((nI_leI (a := ca) (b := 3) (by omega) (by omega)).mpr h)
          refine lv_aload_n hx hb dX8_sumAll_79 rfl (lv_at hl 1 rfl) ?_
          refine lv_iload_n hx hb dX8_sumAll_80 rfl (lv_at hl 2 rfl) ?_
          refine lv_iconst (v := 3) hx hb dX8_sumAll_81 (by decide) ?_
          refine lv_iload hx hb dX8_sumAll_82 (lv_at hl 6 rfl) ?_
          refine ro_i (D := D) (va_runV (As := [.int (nI sn), .int 3, .int qd]) (rest := [.int x_29]) ⟨hx, hb, hml, hown, hts⟩ ((m_costAt l D k st lo a tx t0 we rd ru rw ca fp wd nu na ts df db sd dn se tm gs fprices fwalks sn 3 qd (by omega) (by omega) hqd) H.size) (cwV 3 hts (gV tw_1402 tw_1404 tw_67 tw_87 tw_1405) rfl rfl rfl (by decide +kernel) ⟨Nat.le_of_ble_eq_true rfl, Nat.le_of_ble_eq_true rfl⟩) (pV hS hAlo hlo hP hK hDL hZ [0, 1, 2, 3, 4] (by decide) rfl (ci := 8) (q := (RX8, TX8, 44)) (q0 := 0) rfl rfl) rfl rfl hl.1 rfl (lv_room (Nat.le_of_ble_eq_true rfl)) dX8_sumAll_84 ⟨Nat.le_of_ble_eq_true rfl, Nat.le_of_ble_eq_true rfl⟩) hS hA hP (fun r_32 H locs hw_32 hP hS => ?_)
          try dsimp only at hw_32
          refine lv_goto (tgt := 91) hx hb dX8_sumAll_87 (by decide) ?_
          refine lv_iadd hx hb dX8_sumAll_91 ?_
          refine lv_topi (fun x_33 ex_33 => ?_)
          exact W.iret (v := x_33) hx hb hr (fun t ht hW => ⟨⟨x_33, (), rfl, trivial, trivial⟩, hS.F ht⟩) hS.2.2 dX8_sumAll_92


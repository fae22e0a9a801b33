theorem m_glue12 : True := trivial
theorem dn_inc (q : Nat) : nI q - 1 + 1 = nI q := Int32.sub_add_cancel (nI q) 1
theorem dn_lt {q n : Nat} (hq : q ≤ 25) (hn : n ≤ 24) (c : ¬ nI n ≤ nI q - 1) : q ≤ n := by
  rcases q with _ | q
  · omega
  · rw [nI_pred] at c
    have h : ¬ n ≤ q := fun h => c ((nI_leI (a := n) (b := q) (by omega) (by omega)).mpr h)
    omega
theorem dn_hq {q : Nat} (hq : q ≤ 24) : nI q - 1 < 0 ∨ ∃ d : Nat, d < 24 ∧ nI q - 1 = nI d := by
  rcases q with _ | q
  · exact .inl (by decide)
  · exact .inr ⟨q, by omega, nI_pred q⟩

theorem dX8_canOne_0 : decode cX8_canOne 0 = .ok (.iload_n 1, 1) := by decide +kernel
theorem dX8_canOne_1 : decode cX8_canOne 1 = .ok (.ifCond .lt 12, 3) := by decide +kernel
theorem dX8_canOne_4 : decode cX8_canOne 4 = .ok (.iload_n 0, 1) := by decide +kernel
theorem dX8_canOne_5 : decode cX8_canOne 5 = .ok (.iload_n 1, 1) := by decide +kernel
theorem dX8_canOne_6 : decode cX8_canOne 6 = .ok (.ishr, 1) := by decide +kernel
theorem dX8_canOne_7 : decode cX8_canOne 7 = .ok (.iconst 1, 1) := by decide +kernel
theorem dX8_canOne_8 : decode cX8_canOne 8 = .ok (.iand, 1) := by decide +kernel
theorem dX8_canOne_9 : decode cX8_canOne 9 = .ok (.iconst 1, 1) := by decide +kernel
theorem dX8_canOne_10 : decode cX8_canOne 10 = .ok (.if_icmp .ne 7, 3) := by decide +kernel
theorem dX8_canOne_13 : decode cX8_canOne 13 = .ok (.iconst 1, 1) := by decide +kernel
theorem dX8_canOne_14 : decode cX8_canOne 14 = .ok (.goto 4, 3) := by decide +kernel
theorem dX8_canOne_17 : decode cX8_canOne 17 = .ok (.iconst 0, 1) := by decide +kernel
theorem dX8_canOne_18 : decode cX8_canOne 18 = .ok (.ireturn, 1) := by decide +kernel
set_option maxHeartbeats 4000000 in
set_option maxRecDepth 100000 in
theorem m_canOne (l : Launch) (D : va_G) (k : Nat → ClassId) (st : Nat → Nat) (lo : Nat) (p0 : Int32) (p1 : Int32)  : CRi l D k st lo yX8_canOne cX8_canOne 2 (some .boolean) ({ frames := 0, cells := 0, slots := 0, locals := 0 }) [.int p0, .int p1] [] (fun r => r = 1 ∨ r = 0) := by
  intro sz
  refine Met.ofW (cc := cX8_canOne) (maxL := 2) (ret := (some .boolean)) (by decide) rfl ?_
  intro p e s m args below meth c s₁ B hml hv
  obtain ⟨rfl, hsz, hlo, hP, hK, hDL, hZ⟩ := hv
  have hx := B.exec
  have hb := B.bytes
  have hr := B.returns
  have hts := WS_ts B.pre
  have hown : s.vm.findClass RX8 = some m.cls := findClass_of_methodNamed B.named
  have hlocks := B.notSynchronized
  subst hsz
  have hA : ∀ q : Nat, s.heap.size ≤ q → (fun q : Nat => s.heap.size ≤ q) q := fun _ h => h
  have hAlo : ∀ q : Nat, (fun q : Nat => s.heap.size ≤ q) q → lo ≤ q := fun q h => Nat.le_trans hlo h
  have hS : va_S (fun q : Nat => s.heap.size ≤ q) s.heap s.heap [] := va_S.rf
  have hl := lv_entry ([.int p0, .int p1]) (n := 2) (Nat.le_of_ble_eq_true rfl)
  rw [lg_entry_eq]
  generalize (lg_sl ([.int p0, .int p1]) ++ List.replicate (2 - (lg_sl ([.int p0, .int p1])).length) Slot.unset).toArray = ls at hl ⊢
  have hl : lv_has ls 2 [(0, .int p0), (1, .int p1)] := hl
  refine lv_iload_n hx hb dX8_canOne_0 rfl (lv_at hl 1 rfl) ?_
  refine lv_if_lt (tgt := 13) hx hb dX8_canOne_1 (by decide) (fun c_1 => ?_) (fun c_1 => ?_)
  · refine lv_iconst (v := 1) hx hb dX8_canOne_13 (by decide) ?_
    refine lv_goto (tgt := 18) hx hb dX8_canOne_14 (by decide) ?_
    exact W.zret (v := 1) (ty := .boolean) hx hb hr rfl (fun t ht hW => ⟨⟨1, (), rfl, .inl rfl, trivial⟩, hS.F ht⟩) hS.2.2 dX8_canOne_18
  · refine lv_iload_n hx hb dX8_canOne_4 rfl (lv_at hl 0 rfl) ?_
    refine lv_iload_n hx hb dX8_canOne_5 rfl (lv_at hl 1 rfl) ?_
    refine lv_ishr hx hb dX8_canOne_6 ?_
    refine lv_topi (fun x_2 ex_2 => ?_)
    refine lv_iconst (v := 1) hx hb dX8_canOne_7 (by decide) ?_
    refine lv_iand hx hb dX8_canOne_8 ?_
    refine lv_topi (fun x_3 ex_3 => ?_)
    refine lv_iconst (v := 1) hx hb dX8_canOne_9 (by decide) ?_
    refine lv_icmp_ne (tgt := 17) hx hb dX8_canOne_10 (by decide) (fun c_4 => ?_) (fun c_4 => ?_)
    · refine lv_iconst (v := 0) hx hb dX8_canOne_17 (by decide) ?_
      exact W.zret (v := 0) (ty := .boolean) hx hb hr rfl (fun t ht hW => ⟨⟨0, (), rfl, .inr rfl, trivial⟩, hS.F ht⟩) hS.2.2 dX8_canOne_18
    · refine lv_iconst (v := 1) hx hb dX8_canOne_13 (by decide) ?_
      refine lv_goto (tgt := 18) hx hb dX8_canOne_14 (by decide) ?_
      exact W.zret (v := 1) (ty := .boolean) hx hb hr rfl (fun t ht hW => ⟨⟨1, (), rfl, .inl rfl, trivial⟩, hS.F ht⟩) hS.2.2 dX8_canOne_18

theorem dX8_areApart_0 : decode cX8_areApart 0 = .ok (.iload_n 0, 1) := by decide +kernel
theorem dX8_areApart_1 : decode cX8_areApart 1 = .ok (.ifCond .lt 8, 3) := by decide +kernel
theorem dX8_areApart_4 : decode cX8_areApart 4 = .ok (.iload_n 0, 1) := by decide +kernel
theorem dX8_areApart_5 : decode cX8_areApart 5 = .ok (.iload_n 1, 1) := by decide +kernel
theorem dX8_areApart_6 : decode cX8_areApart 6 = .ok (.if_icmp .eq 7, 3) := by decide +kernel
theorem dX8_areApart_9 : decode cX8_areApart 9 = .ok (.iconst 1, 1) := by decide +kernel
theorem dX8_areApart_10 : decode cX8_areApart 10 = .ok (.goto 4, 3) := by decide +kernel
theorem dX8_areApart_13 : decode cX8_areApart 13 = .ok (.iconst 0, 1) := by decide +kernel
theorem dX8_areApart_14 : decode cX8_areApart 14 = .ok (.ireturn, 1) := by decide +kernel
set_option maxHeartbeats 4000000 in
set_option maxRecDepth 100000 in
theorem m_areApart (l : Launch) (D : va_G) (k : Nat → ClassId) (st : Nat → Nat) (lo : Nat) (p0 : Int32) (p1 : Int32)  : CRi l D k st lo yX8_areApart cX8_areApart 2 (some .boolean) ({ frames := 0, cells := 0, slots := 0, locals := 0 }) [.int p0, .int p1] [] (fun r => r = 1 ∨ r = 0) := by
  intro sz
  refine Met.ofW (cc := cX8_areApart) (maxL := 2) (ret := (some .boolean)) (by decide) rfl ?_
  intro p e s m args below meth c s₁ B hml hv
  obtain ⟨rfl, hsz, hlo, hP, hK, hDL, hZ⟩ := hv
  have hx := B.exec
  have hb := B.bytes
  have hr := B.returns
  have hts := WS_ts B.pre
  have hown : s.vm.findClass RX8 = some m.cls := findClass_of_methodNamed B.named
  have hlocks := B.notSynchronized
  subst hsz
  have hA : ∀ q : Nat, s.heap.size ≤ q → (fun q : Nat => s.heap.size ≤ q) q := fun _ h => h
  have hAlo : ∀ q : Nat, (fun q : Nat => s.heap.size ≤ q) q → lo ≤ q := fun q h => Nat.le_trans hlo h
  have hS : va_S (fun q : Nat => s.heap.size ≤ q) s.heap s.heap [] := va_S.rf
  have hl := lv_entry ([.int p0, .int p1]) (n := 2) (Nat.le_of_ble_eq_true rfl)
  rw [lg_entry_eq]
  generalize (lg_sl ([.int p0, .int p1]) ++ List.replicate (2 - (lg_sl ([.int p0, .int p1])).length) Slot.unset).toArray = ls at hl ⊢
  have hl : lv_has ls 2 [(0, .int p0), (1, .int p1)] := hl
  refine lv_iload_n hx hb dX8_areApart_0 rfl (lv_at hl 0 rfl) ?_
  refine lv_if_lt (tgt := 9) hx hb dX8_areApart_1 (by decide) (fun c_1 => ?_) (fun c_1 => ?_)
  · refine lv_iconst (v := 1) hx hb dX8_areApart_9 (by decide) ?_
    refine lv_goto (tgt := 14) hx hb dX8_areApart_10 (by decide) ?_
    exact W.zret (v := 1) (ty := .boolean) hx hb hr rfl (fun t ht hW => ⟨⟨1, (), rfl, .inl rfl, trivial⟩, hS.F ht⟩) hS.2.2 dX8_areApart_14
  · refine lv_iload_n hx hb dX8_areApart_4 rfl (lv_at hl 0 rfl) ?_
    refine lv_iload_n hx hb dX8_areApart_5 rfl (lv_at hl 1 rfl) ?_
    refine lv_icmp_eq (tgt := 13) hx hb dX8_areApart_6 (by decide) (fun c_2 => ?_) (fun c_2 => ?_)
    · refine lv_iconst (v := 0) hx hb dX8_areApart_13 (by decide) ?_
      exact W.zret (v := 0) (ty := .boolean) hx hb hr rfl (fun t ht hW => ⟨⟨0, (), rfl, .inr rfl, trivial⟩, hS.F ht⟩) hS.2.2 dX8_areApart_14
    · refine lv_iconst (v := 1) hx hb dX8_areApart_9 (by decide) ?_
      refine lv_goto (tgt := 14) hx hb dX8_areApart_10 (by decide) ?_
      exact W.zret (v := 1) (ty := .boolean) hx hb hr rfl (fun t ht hW => ⟨⟨1, (), rfl, .inl rfl, trivial⟩, hS.F ht⟩) hS.2.2 dX8_areApart_14

theorem dX8_canAll_0 : decode cX8_canAll 0 = .ok (.iload_n 0, 1) := by decide +kernel
theorem dX8_canAll_1 : decode cX8_canAll 1 = .ok (.iload_n 1, 1) := by decide +kernel
theorem dX8_canAll_2 : decode cX8_canAll 2 = .ok (.invokestatic 362, 3) := by decide +kernel
theorem dX8_canAll_5 : decode cX8_canAll 5 = .ok (.ifCond .eq 32, 3) := by decide +kernel
theorem dX8_canAll_8 : decode cX8_canAll 8 = .ok (.iload_n 0, 1) := by decide +kernel
theorem dX8_canAll_9 : decode cX8_canAll 9 = .ok (.iload_n 2, 1) := by decide +kernel
theorem dX8_canAll_10 : decode cX8_canAll 10 = .ok (.invokestatic 362, 3) := by decide +kernel
theorem dX8_canAll_13 : decode cX8_canAll 13 = .ok (.ifCond .eq 24, 3) := by decide +kernel
theorem dX8_canAll_16 : decode cX8_canAll 16 = .ok (.iload_n 0, 1) := by decide +kernel
theorem dX8_canAll_17 : decode cX8_canAll 17 = .ok (.iload_n 3, 1) := by decide +kernel
theorem dX8_canAll_18 : decode cX8_canAll 18 = .ok (.invokestatic 362, 3) := by decide +kernel
theorem dX8_canAll_21 : decode cX8_canAll 21 = .ok (.ifCond .eq 16, 3) := by decide +kernel
theorem dX8_canAll_24 : decode cX8_canAll 24 = .ok (.iload_n 0, 1) := by decide +kernel
theorem dX8_canAll_25 : decode cX8_canAll 25 = .ok (.iload 4, 2) := by decide +kernel
theorem dX8_canAll_27 : decode cX8_canAll 27 = .ok (.invokestatic 362, 3) := by decide +kernel
theorem dX8_canAll_30 : decode cX8_canAll 30 = .ok (.ifCond .eq 7, 3) := by decide +kernel
theorem dX8_canAll_33 : decode cX8_canAll 33 = .ok (.iconst 1, 1) := by decide +kernel
theorem dX8_canAll_34 : decode cX8_canAll 34 = .ok (.goto 4, 3) := by decide +kernel
theorem dX8_canAll_37 : decode cX8_canAll 37 = .ok (.iconst 0, 1) := by decide +kernel
theorem dX8_canAll_38 : decode cX8_canAll 38 = .ok (.istore 5, 2) := by decide +kernel
theorem dX8_canAll_40 : decode cX8_canAll 40 = .ok (.iload 5, 2) := by decide +kernel
theorem dX8_canAll_42 : decode cX8_canAll 42 = .ok (.ifCond .eq 58, 3) := by decide +kernel
theorem dX8_canAll_45 : decode cX8_canAll 45 = .ok (.iload_n 1, 1) := by decide +kernel
theorem dX8_canAll_46 : decode cX8_canAll 46 = .ok (.iload_n 2, 1) := by decide +kernel
theorem dX8_canAll_47 : decode cX8_canAll 47 = .ok (.invokestatic 365, 3) := by decide +kernel
theorem dX8_canAll_50 : decode cX8_canAll 50 = .ok (.ifCond .eq 50, 3) := by decide +kernel
theorem dX8_canAll_53 : decode cX8_canAll 53 = .ok (.iload_n 1, 1) := by decide +kernel
theorem dX8_canAll_54 : decode cX8_canAll 54 = .ok (.iload_n 3, 1) := by decide +kernel
theorem dX8_canAll_55 : decode cX8_canAll 55 = .ok (.invokestatic 365, 3) := by decide +kernel
theorem dX8_canAll_58 : decode cX8_canAll 58 = .ok (.ifCond .eq 42, 3) := by decide +kernel
theorem dX8_canAll_61 : decode cX8_canAll 61 = .ok (.iload_n 1, 1) := by decide +kernel
theorem dX8_canAll_62 : decode cX8_canAll 62 = .ok (.iload 4, 2) := by decide +kernel
theorem dX8_canAll_64 : decode cX8_canAll 64 = .ok (.invokestatic 365, 3) := by decide +kernel
theorem dX8_canAll_67 : decode cX8_canAll 67 = .ok (.ifCond .eq 33, 3) := by decide +kernel
theorem dX8_canAll_70 : decode cX8_canAll 70 = .ok (.iload_n 2, 1) := by decide +kernel
theorem dX8_canAll_71 : decode cX8_canAll 71 = .ok (.iload_n 3, 1) := by decide +kernel
theorem dX8_canAll_72 : decode cX8_canAll 72 = .ok (.invokestatic 365, 3) := by decide +kernel
theorem dX8_canAll_75 : decode cX8_canAll 75 = .ok (.ifCond .eq 25, 3) := by decide +kernel
theorem dX8_canAll_78 : decode cX8_canAll 78 = .ok (.iload_n 2, 1) := by decide +kernel
theorem dX8_canAll_79 : decode cX8_canAll 79 = .ok (.iload 4, 2) := by decide +kernel
theorem dX8_canAll_81 : decode cX8_canAll 81 = .ok (.invokestatic 365, 3) := by decide +kernel
theorem dX8_canAll_84 : decode cX8_canAll 84 = .ok (.ifCond .eq 16, 3) := by decide +kernel
theorem dX8_canAll_87 : decode cX8_canAll 87 = .ok (.iload_n 3, 1) := by decide +kernel
theorem dX8_canAll_88 : decode cX8_canAll 88 = .ok (.iload 4, 2) := by decide +kernel
theorem dX8_canAll_90 : decode cX8_canAll 90 = .ok (.invokestatic 365, 3) := by decide +kernel
theorem dX8_canAll_93 : decode cX8_canAll 93 = .ok (.ifCond .eq 7, 3) := by decide +kernel
theorem dX8_canAll_96 : decode cX8_canAll 96 = .ok (.iconst 1, 1) := by decide +kernel
theorem dX8_canAll_97 : decode cX8_canAll 97 = .ok (.goto 4, 3) := by decide +kernel
theorem dX8_canAll_100 : decode cX8_canAll 100 = .ok (.iconst 0, 1) := by decide +kernel
theorem dX8_canAll_101 : decode cX8_canAll 101 = .ok (.ireturn, 1) := by decide +kernel
set_option maxHeartbeats 4000000 in
set_option maxRecDepth 100000 in
theorem m_canAll (l : Launch) (D : va_G) (k : Nat → ClassId) (st : Nat → Nat) (lo : Nat) (p0 : Int32) (p1 : Int32) (p2 : Int32) (p3 : Int32) (p4 : Int32)  : CRi l D k st lo yX8_canAll cX8_canAll 6 (some .boolean) ({ frames := 1, cells := 0, slots := 0, locals := 21 }) [.int p0, .int p1, .int p2, .int p3, .int p4] [] (fun r => r = 1 ∨ r = 0) := by
  intro sz
  refine Met.ofW (cc := cX8_canAll) (maxL := 6) (ret := (some .boolean)) (by decide) rfl ?_
  intro p e s m args below meth c s₁ B hml hv
  obtain ⟨rfl, hsz, hlo, hP, hK, hDL, hZ⟩ := hv
  have hx := B.exec
  have hb := B.bytes
  have hr := B.returns
  have hts := WS_ts B.pre
  have hown : s.vm.findClass RX8 = some m.cls := findClass_of_methodNamed B.named
  have hlocks := B.notSynchronized
  subst hsz
  have hA : ∀ q : Nat, s.heap.size ≤ q → (fun q : Nat => s.heap.size ≤ q) q := fun _ h => h
  have hAlo : ∀ q : Nat, (fun q : Nat => s.heap.size ≤ q) q → lo ≤ q := fun q h => Nat.le_trans hlo h
  have hS : va_S (fun q : Nat => s.heap.size ≤ q) s.heap s.heap [] := va_S.rf
  have hl := lv_entry ([.int p0, .int p1, .int p2, .int p3, .int p4]) (n := 6) (Nat.le_of_ble_eq_true rfl)
  rw [lg_entry_eq]
  generalize (lg_sl ([.int p0, .int p1, .int p2, .int p3, .int p4]) ++ List.replicate (6 - (lg_sl ([.int p0, .int p1, .int p2, .int p3, .int p4])).length) Slot.unset).toArray = ls at hl ⊢
  have hl : lv_has ls 6 [(0, .int p0), (1, .int p1), (2, .int p2), (3, .int p3), (4, .int p4)] := hl
  refine lv_iload_n hx hb dX8_canAll_0 rfl (lv_at hl 0 rfl) ?_
  refine lv_iload_n hx hb dX8_canAll_1 rfl (lv_at hl 1 rfl) ?_
  refine ro_i (D := D) (va_runS (As := [.int p0, .int p1]) (rest := []) ⟨hx, hb, hml, hown, hts⟩ ((m_canOne l D k st lo p0 p1) s.heap.size) (va_cwS 2 hts (gS tw_1453 tw_1454 tw_87 tw_1455) rfl rfl rfl (by decide +kernel) ⟨Nat.le_of_ble_eq_true rfl, Nat.le_of_ble_eq_true rfl⟩) (pS hS hAlo hlo hP hK hDL hZ [] (by decide) rfl) rfl rfl hl.1 rfl (lv_room (Nat.le_of_ble_eq_true rfl)) dX8_canAll_2 ⟨Nat.le_of_ble_eq_true rfl, Nat.le_of_ble_eq_true rfl⟩) hS hA hP (fun r_1 H locs hw_1 hP hS => ?_)
  try dsimp only at hw_1
  refine lv_if_eq (tgt := 37) hx hb dX8_canAll_5 (by decide) (fun c_2 => ?_) (fun c_2 => ?_)
  · refine lv_iconst (v := 0) hx hb dX8_canAll_37 (by decide) ?_
    refine lv_istore (lv' := [(5, .int 0), (0, .int p0), (1, .int p1), (2, .int p2), (3, .int p3), (4, .int p4)]) hx hb dX8_canAll_38 hl (by decide) rfl (fun ls hl => ?_)
    refine lv_iload hx hb dX8_canAll_40 (lv_at hl 0 rfl) ?_
    refine lv_if_eq (tgt := 100) hx hb dX8_canAll_42 (by decide) (fun _ => ?_) (fun h => absurd (by decide) h)
    refine lv_iconst (v := 0) hx hb dX8_canAll_100 (by decide) ?_
    exact W.zret (v := 0) (ty := .boolean) hx hb hr rfl (fun t ht hW => ⟨⟨0, (), rfl, .inr rfl, trivial⟩, hS.F ht⟩) hS.2.2 dX8_canAll_101
  · refine lv_iload_n hx hb dX8_canAll_8 rfl (lv_at hl 0 rfl) ?_
    refine lv_iload_n hx hb dX8_canAll_9 rfl (lv_at hl 2 rfl) ?_
    refine ro_i (D := D) (va_runS (As := [.int p0, .int p2]) (rest := []) ⟨hx, hb, hml, hown, hts⟩ ((m_canOne l D k st lo p0 p2) H.size) (va_cwS 2 hts (gS tw_1453 tw_1454 tw_87 tw_1455) rfl rfl rfl (by decide +kernel) ⟨Nat.le_of_ble_eq_true rfl, Nat.le_of_ble_eq_true rfl⟩) (pS hS hAlo hlo hP hK hDL hZ [] (by decide) rfl) rfl rfl hl.1 rfl (lv_room (Nat.le_of_ble_eq_true rfl)) dX8_canAll_10 ⟨Nat.le_of_ble_eq_true rfl, Nat.le_of_ble_eq_true rfl⟩) hS hA hP (fun r_3 H locs hw_3 hP hS => ?_)
    try dsimp only at hw_3
    refine lv_if_eq (tgt := 37) hx hb dX8_canAll_13 (by decide) (fun c_4 => ?_) (fun c_4 => ?_)
    · refine lv_iconst (v := 0) hx hb dX8_canAll_37 (by decide) ?_
      refine lv_istore (lv' := [(5, .int 0), (0, .int p0), (1, .int p1), (2, .int p2), (3, .int p3), (4, .int p4)]) hx hb dX8_canAll_38 hl (by decide) rfl (fun ls hl => ?_)
      refine lv_iload hx hb dX8_canAll_40 (lv_at hl 0 rfl) ?_
      refine lv_if_eq (tgt := 100) hx hb dX8_canAll_42 (by decide) (fun _ => ?_) (fun h => absurd (by decide) h)
      refine lv_iconst (v := 0) hx hb dX8_canAll_100 (by decide) ?_
      exact W.zret (v := 0) (ty := .boolean) hx hb hr rfl (fun t ht hW => ⟨⟨0, (), rfl, .inr rfl, trivial⟩, hS.F ht⟩) hS.2.2 dX8_canAll_101
    · refine lv_iload_n hx hb dX8_canAll_16 rfl (lv_at hl 0 rfl) ?_
      refine lv_iload_n hx hb dX8_canAll_17 rfl (lv_at hl 3 rfl) ?_
      refine ro_i (D := D) (va_runS (As := [.int p0, .int p3]) (rest := []) ⟨hx, hb, hml, hown, hts⟩ ((m_canOne l D k st lo p0 p3) H.size) (va_cwS 2 hts (gS tw_1453 tw_1454 tw_87 tw_1455) rfl rfl rfl (by decide +kernel) ⟨Nat.le_of_ble_eq_true rfl, Nat.le_of_ble_eq_true rfl⟩) (pS hS hAlo hlo hP hK hDL hZ [] (by decide) rfl) rfl rfl hl.1 rfl (lv_room (Nat.le_of_ble_eq_true rfl)) dX8_canAll_18 ⟨Nat.le_of_ble_eq_true rfl, Nat.le_of_ble_eq_true rfl⟩) hS hA hP (fun r_5 H locs hw_5 hP hS => ?_)
      try dsimp only at hw_5
      refine lv_if_eq (tgt := 37) hx hb dX8_canAll_21 (by decide) (fun c_6 => ?_) (fun c_6 => ?_)
      · refine lv_iconst (v := 0) hx hb dX8_canAll_37 (by decide) ?_
        refine lv_istore (lv' := [(5, .int 0), (0, .int p0), (1, .int p1), (2, .int p2), (3, .int p3), (4, .int p4)]) hx hb dX8_canAll_38 hl (by decide) rfl (fun ls hl => ?_)
        refine lv_iload hx hb dX8_canAll_40 (lv_at hl 0 rfl) ?_
        refine lv_if_eq (tgt := 100) hx hb dX8_canAll_42 (by decide) (fun _ => ?_) (fun h => absurd (by decide) h)
        refine lv_iconst (v := 0) hx hb dX8_canAll_100 (by decide) ?_
        exact W.zret (v := 0) (ty := .boolean) hx hb hr rfl (fun t ht hW => ⟨⟨0, (), rfl, .inr rfl, trivial⟩, hS.F ht⟩) hS.2.2 dX8_canAll_101
      · refine lv_iload_n hx hb dX8_canAll_24 rfl (lv_at hl 0 rfl) ?_
        refine lv_iload hx hb dX8_canAll_25 (lv_at hl 4 rfl) ?_
        refine ro_i (D := D) (va_runS (As := [.int p0, .int p4]) (rest := []) ⟨hx, hb, hml, hown, hts⟩ ((m_canOne l D k st lo p0 p4) H.size) (va_cwS 2 hts (gS tw_1453 tw_1454 tw_87 tw_1455) rfl rfl rfl (by decide +kernel) ⟨Nat.le_of_ble_eq_true rfl, Nat.le_of_ble_eq_true rfl⟩) (pS hS hAlo hlo hP hK hDL hZ [] (by decide) rfl) rfl rfl hl.1 rfl (lv_room (Nat.le_of_ble_eq_true rfl)) dX8_canAll_27 ⟨Nat.le_of_ble_eq_true rfl, Nat.le_of_ble_eq_true rfl⟩) hS hA hP (fun r_7 H locs hw_7 hP hS => ?_)
        try dsimp only at hw_7
        refine lv_if_eq (tgt := 37) hx hb dX8_canAll_30 (by decide) (fun c_8 => ?_) (fun c_8 => ?_)
        · refine lv_iconst (v := 0) hx hb dX8_canAll_37 (by decide) ?_
          refine lv_istore (lv' := [(5, .int 0), (0, .int p0), (1, .int p1), (2, .int p2), (3, .int p3), (4, .int p4)]) hx hb dX8_canAll_38 hl (by decide) rfl (fun ls hl => ?_)
          refine lv_iload hx hb dX8_canAll_40 (lv_at hl 0 rfl) ?_
          refine lv_if_eq (tgt := 100) hx hb dX8_canAll_42 (by decide) (fun _ => ?_) (fun h => absurd (by decide) h)
          refine lv_iconst (v := 0) hx hb dX8_canAll_100 (by decide) ?_
          exact W.zret (v := 0) (ty := .boolean) hx hb hr rfl (fun t ht hW => ⟨⟨0, (), rfl, .inr rfl, trivial⟩, hS.F ht⟩) hS.2.2 dX8_canAll_101
        · refine lv_iconst (v := 1) hx hb dX8_canAll_33 (by decide) ?_
          refine lv_goto (tgt := 38) hx hb dX8_canAll_34 (by decide) ?_
          refine lv_istore (lv' := [(5, .int 1), (0, .int p0), (1, .int p1), (2, .int p2), (3, .int p3), (4, .int p4)]) hx hb dX8_canAll_38 hl (by decide) rfl (fun ls hl => ?_)
          refine lv_iload hx hb dX8_canAll_40 (lv_at hl 0 rfl) ?_
          refine lv_if_eq (tgt := 100) hx hb dX8_canAll_42 (by decide) (fun h => absurd h (by decide)) (fun _ => ?_)
          refine lv_iload_n hx hb dX8_canAll_45 rfl (lv_at hl 2 rfl) ?_
          refine lv_iload_n hx hb dX8_canAll_46 rfl (lv_at hl 3 rfl) ?_
          refine ro_i (D := D) (va_runS (As := [.int p1, .int p2]) (rest := []) ⟨hx, hb, hml, hown, hts⟩ ((m_areApart l D k st lo p1 p2) H.size) (va_cwS 2 hts (gS tw_1456 tw_1457 tw_87 tw_1458) rfl rfl rfl (by decide +kernel) ⟨Nat.le_of_ble_eq_true rfl, Nat.le_of_ble_eq_true rfl⟩) (pS hS hAlo hlo hP hK hDL hZ [] (by decide) rfl) rfl rfl hl.1 rfl (lv_room (Nat.le_of_ble_eq_true rfl)) dX8_canAll_47 ⟨Nat.le_of_ble_eq_true rfl, Nat.le_of_ble_eq_true rfl⟩) hS hA hP (fun r_9 H locs hw_9 hP hS => ?_)
          try dsimp only at hw_9
          refine lv_if_eq (tgt := 100) hx hb dX8_canAll_50 (by decide) (fun c_10 => ?_) (fun c_10 => ?_)
          · refine lv_iconst (v := 0) hx hb dX8_canAll_100 (by decide) ?_
            exact W.zret (v := 0) (ty := .boolean) hx hb hr rfl (fun t ht hW => ⟨⟨0, (), rfl, .inr rfl, trivial⟩, hS.F ht⟩) hS.2.2 dX8_canAll_101
          · refine lv_iload_n hx hb dX8_canAll_53 rfl (lv_at hl 2 rfl) ?_
            refine lv_iload_n hx hb dX8_canAll_54 rfl (lv_at hl 4 rfl) ?_
            refine ro_i (D := D) (va_runS (As := [.int p1, .int p3]) (rest := []) ⟨hx, hb, hml, hown, hts⟩ ((m_areApart l D k st lo p1 p3) H.size) (va_cwS 2 hts (gS tw_1456 tw_1457 tw_87 tw_1458) rfl rfl rfl (by decide +kernel) ⟨Nat.le_of_ble_eq_true rfl, Nat.le_of_ble_eq_true rfl⟩) (pS hS hAlo hlo hP hK hDL hZ [] (by decide) rfl) rfl rfl hl.1 rfl (lv_room (Nat.le_of_ble_eq_true rfl)) dX8_canAll_55 ⟨Nat.le_of_ble_eq_true rfl, Nat.le_of_ble_eq_true rfl⟩) hS hA hP (fun r_11 H locs hw_11 hP hS => ?_)
            try dsimp only at hw_11
            refine lv_if_eq (tgt := 100) hx hb dX8_canAll_58 (by decide) (fun c_12 => ?_) (fun c_12 => ?_)
            · refine lv_iconst (v := 0) hx hb dX8_canAll_100 (by decide) ?_
              exact W.zret (v := 0) (ty := .boolean) hx hb hr rfl (fun t ht hW => ⟨⟨0, (), rfl, .inr rfl, trivial⟩, hS.F ht⟩) hS.2.2 dX8_canAll_101
            · refine lv_iload_n hx hb dX8_canAll_61 rfl (lv_at hl 2 rfl) ?_
              refine lv_iload hx hb dX8_canAll_62 (lv_at hl 5 rfl) ?_
              refine ro_i (D := D) (va_runS (As := [.int p1, .int p4]) (rest := []) ⟨hx, hb, hml, hown, hts⟩ ((m_areApart l D k st lo p1 p4) H.size) (va_cwS 2 hts (gS tw_1456 tw_1457 tw_87 tw_1458) rfl rfl rfl (by decide +kernel) ⟨Nat.le_of_ble_eq_true rfl, Nat.le_of_ble_eq_true rfl⟩) (pS hS hAlo hlo hP hK hDL hZ [] (by decide) rfl) rfl rfl hl.1 rfl (lv_room (Nat.le_of_ble_eq_true rfl)) dX8_canAll_64 ⟨Nat.le_of_ble_eq_true rfl, Nat.le_of_ble_eq_true rfl⟩) hS hA hP (fun r_13 H locs hw_13 hP hS => ?_)
              try dsimp only at hw_13
              refine lv_if_eq (tgt := 100) hx hb dX8_canAll_67 (by decide) (fun c_14 => ?_) (fun c_14 => ?_)
              · refine lv_iconst (v := 0) hx hb dX8_canAll_100 (by decide) ?_
                exact W.zret (v := 0) (ty := .boolean) hx hb hr rfl (fun t ht hW => ⟨⟨0, (), rfl, .inr rfl, trivial⟩, hS.F ht⟩) hS.2.2 dX8_canAll_101
              · refine lv_iload_n hx hb dX8_canAll_70 rfl (lv_at hl 3 rfl) ?_
                refine lv_iload_n hx hb dX8_canAll_71 rfl (lv_at hl 4 rfl) ?_
                refine ro_i (D := D) (va_runS (As := [.int p2, .int p3]) (rest := []) ⟨hx, hb, hml, hown, hts⟩ ((m_areApart l D k st lo p2 p3) H.size) (va_cwS 2 hts (gS tw_1456 tw_1457 tw_87 tw_1458) rfl rfl rfl (by decide +kernel) ⟨Nat.le_of_ble_eq_true rfl, Nat.le_of_ble_eq_true rfl⟩) (pS hS hAlo hlo hP hK hDL hZ [] (by decide) rfl) rfl rfl hl.1 rfl (lv_room (Nat.le_of_ble_eq_true rfl)) dX8_canAll_72 ⟨Nat.le_of_ble_eq_true rfl, Nat.le_of_ble_eq_true rfl⟩) hS hA hP (fun r_15 H locs hw_15 hP hS => ?_)
                try dsimp only at hw_15
                refine lv_if_eq (tgt := 100) hx hb dX8_canAll_75 (by decide) (fun c_16 => ?_) (fun c_16 => ?_)
                · refine lv_iconst (v := 0) hx hb dX8_canAll_100 (by decide) ?_
                  exact W.zret (v := 0) (ty := .boolean) hx hb hr rfl (fun t ht hW => ⟨⟨0, (), rfl, .inr rfl, trivial⟩, hS.F ht⟩) hS.2.2 dX8_canAll_101
                · refine lv_iload_n hx hb dX8_canAll_78 rfl (lv_at hl 3 rfl) ?_
                  refine lv_iload hx hb dX8_canAll_79 (lv_at hl 5 rfl) ?_
                  refine ro_i (D := D) (va_runS (As := [.int p2, .int p4]) (rest := []) ⟨hx, hb, hml, hown, hts⟩ ((m_areApart l D k st lo p2 p4) H.size) (va_cwS 2 hts (gS tw_1456 tw_1457 tw_87 tw_1458) rfl rfl rfl (by decide +kernel) ⟨Nat.le_of_ble_eq_true rfl, Nat.le_of_ble_eq_true rfl⟩) (pS hS hAlo hlo hP hK hDL hZ [] (by decide) rfl) rfl rfl hl.1 rfl (lv_room (Nat.le_of_ble_eq_true rfl)) dX8_canAll_81 ⟨Nat.le_of_ble_eq_true rfl, Nat.le_of_ble_eq_true rfl⟩) hS hA hP (fun r_17 H locs hw_17 hP hS => ?_)
                  try dsimp only at hw_17
                  refine lv_if_eq (tgt := 100) hx hb dX8_canAll_84 (by decide) (fun c_18 => ?_) (fun c_18 => ?_)
                  · refine lv_iconst (v := 0) hx hb dX8_canAll_100 (by decide) ?_
                    exact W.zret (v := 0) (ty := .boolean) hx hb hr rfl (fun t ht hW => ⟨⟨0, (), rfl, .inr rfl, trivial⟩, hS.F ht⟩) hS.2.2 dX8_canAll_101
                  · refine lv_iload_n hx hb dX8_canAll_87 rfl (lv_at hl 4 rfl) ?_
                    refine lv_iload hx hb dX8_canAll_88 (lv_at hl 5 rfl) ?_
                    refine ro_i (D := D) (va_runS (As := [.int p3, .int p4]) (rest := []) ⟨hx, hb, hml, hown, hts⟩ ((m_areApart l D k st lo p3 p4) H.size) (va_cwS 2 hts (gS tw_1456 tw_1457 tw_87 tw_1458) rfl rfl rfl (by decide +kernel) ⟨Nat.le_of_ble_eq_true rfl, Nat.le_of_ble_eq_true rfl⟩) (pS hS hAlo hlo hP hK hDL hZ [] (by decide) rfl) rfl rfl hl.1 rfl (lv_room (Nat.le_of_ble_eq_true rfl)) dX8_canAll_90 ⟨Nat.le_of_ble_eq_true rfl, Nat.le_of_ble_eq_true rfl⟩) hS hA hP (fun r_19 H locs hw_19 hP hS => ?_)
                    try dsimp only at hw_19
                    refine lv_if_eq (tgt := 100) hx hb dX8_canAll_93 (by decide) (fun c_20 => ?_) (fun c_20 => ?_)
                    · refine lv_iconst (v := 0) hx hb dX8_canAll_100 (by decide) ?_
                      exact W.zret (v := 0) (ty := .boolean) hx hb hr rfl (fun t ht hW => ⟨⟨0, (), rfl, .inr rfl, trivial⟩, hS.F ht⟩) hS.2.2 dX8_canAll_101
                    · refine lv_iconst (v := 1) hx hb dX8_canAll_96 (by decide) ?_
                      refine lv_goto (tgt := 101) hx hb dX8_canAll_97 (by decide) ?_
                      exact W.zret (v := 1) (ty := .boolean) hx hb hr rfl (fun t ht hW => ⟨⟨1, (), rfl, .inl rfl, trivial⟩, hS.F ht⟩) hS.2.2 dX8_canAll_101

theorem dX8_sumAll_0 : decode cX8_sumAll 0 = .ok (.aload_n 0, 1) := by decide +kernel
theorem dX8_sumAll_1 : decode cX8_sumAll 1 = .ok (.getfield 315, 3) := by decide +kernel
theorem dX8_sumAll_4 : decode cX8_sumAll 4 = .ok (.ifCond .le 13, 3) := by decide +kernel
theorem dX8_sumAll_7 : decode cX8_sumAll 7 = .ok (.aload_n 0, 1) := by decide +kernel
theorem dX8_sumAll_8 : decode cX8_sumAll 8 = .ok (.iload_n 1, 1) := by decide +kernel
theorem dX8_sumAll_9 : decode cX8_sumAll 9 = .ok (.iconst 0, 1) := by decide +kernel
theorem dX8_sumAll_10 : decode cX8_sumAll 10 = .ok (.iload_n 2, 1) := by decide +kernel
theorem dX8_sumAll_11 : decode cX8_sumAll 11 = .ok (.invokevirtual 330, 3) := by decide +kernel
theorem dX8_sumAll_14 : decode cX8_sumAll 14 = .ok (.goto 4, 3) := by decide +kernel
theorem dX8_sumAll_17 : decode cX8_sumAll 17 = .ok (.iconst 0, 1) := by decide +kernel
theorem dX8_sumAll_18 : decode cX8_sumAll 18 = .ok (.istore 6, 2) := by decide +kernel
theorem dX8_sumAll_20 : decode cX8_sumAll 20 = .ok (.iload 6, 2) := by decide +kernel
theorem dX8_sumAll_22 : decode cX8_sumAll 22 = .ok (.aload_n 0, 1) := by decide +kernel
theorem dX8_sumAll_23 : decode cX8_sumAll 23 = .ok (.getfield 315, 3) := by decide +kernel
theorem dX8_sumAll_26 : decode cX8_sumAll 26 = .ok (.iconst 1, 1) := by decide +kernel
theorem dX8_sumAll_27 : decode cX8_sumAll 27 = .ok (.if_icmp .le 13, 3) := by decide +kernel
theorem dX8_sumAll_30 : decode cX8_sumAll 30 = .ok (.aload_n 0, 1) := by decide +kernel
theorem dX8_sumAll_31 : decode cX8_sumAll 31 = .ok (.iload_n 1, 1) := by decide +kernel
theorem dX8_sumAll_32 : decode cX8_sumAll 32 = .ok (.iconst 1, 1) := by decide +kernel
theorem dX8_sumAll_33 : decode cX8_sumAll 33 = .ok (.iload_n 3, 1) := by decide +kernel
theorem dX8_sumAll_34 : decode cX8_sumAll 34 = .ok (.invokevirtual 330, 3) := by decide +kernel
theorem dX8_sumAll_37 : decode cX8_sumAll 37 = .ok (.goto 4, 3) := by decide +kernel
theorem dX8_sumAll_40 : decode cX8_sumAll 40 = .ok (.iconst 0, 1) := by decide +kernel
theorem dX8_sumAll_41 : decode cX8_sumAll 41 = .ok (.iadd, 1) := by decide +kernel
theorem dX8_sumAll_42 : decode cX8_sumAll 42 = .ok (.istore 6, 2) := by decide +kernel
theorem dX8_sumAll_44 : decode cX8_sumAll 44 = .ok (.iload 6, 2) := by decide +kernel
theorem dX8_sumAll_46 : decode cX8_sumAll 46 = .ok (.aload_n 0, 1) := by decide +kernel
theorem dX8_sumAll_47 : decode cX8_sumAll 47 = .ok (.getfield 315, 3) := by decide +kernel
theorem dX8_sumAll_50 : decode cX8_sumAll 50 = .ok (.iconst 2, 1) := by decide +kernel
theorem dX8_sumAll_51 : decode cX8_sumAll 51 = .ok (.if_icmp .le 14, 3) := by decide +kernel
theorem dX8_sumAll_54 : decode cX8_sumAll 54 = .ok (.aload_n 0, 1) := by decide +kernel
theorem dX8_sumAll_55 : decode cX8_sumAll 55 = .ok (.iload_n 1, 1) := by decide +kernel
theorem dX8_sumAll_56 : decode cX8_sumAll 56 = .ok (.iconst 2, 1) := by decide +kernel
theorem dX8_sumAll_57 : decode cX8_sumAll 57 = .ok (.iload 4, 2) := by decide +kernel
theorem dX8_sumAll_59 : decode cX8_sumAll 59 = .ok (.invokevirtual 330, 3) := by decide +kernel
theorem dX8_sumAll_62 : decode cX8_sumAll 62 = .ok (.goto 4, 3) := by decide +kernel
theorem dX8_sumAll_65 : decode cX8_sumAll 65 = .ok (.iconst 0, 1) := by decide +kernel
theorem dX8_sumAll_66 : decode cX8_sumAll 66 = .ok (.iadd, 1) := by decide +kernel
theorem dX8_sumAll_67 : decode cX8_sumAll 67 = .ok (.istore 6, 2) := by decide +kernel
theorem dX8_sumAll_69 : decode cX8_sumAll 69 = .ok (.iload 6, 2) := by decide +kernel
theorem dX8_sumAll_71 : decode cX8_sumAll 71 = .ok (.aload_n 0, 1) := by decide +kernel
theorem dX8_sumAll_72 : decode cX8_sumAll 72 = .ok (.getfield 315, 3) := by decide +kernel
theorem dX8_sumAll_75 : decode cX8_sumAll 75 = .ok (.iconst 3, 1) := by decide +kernel
theorem dX8_sumAll_76 : decode cX8_sumAll 76 = .ok (.if_icmp .le 14, 3) := by decide +kernel
theorem dX8_sumAll_79 : decode cX8_sumAll 79 = .ok (.aload_n 0, 1) := by decide +kernel
theorem dX8_sumAll_80 : decode cX8_sumAll 80 = .ok (.iload_n 1, 1) := by decide +kernel
theorem dX8_sumAll_81 : decode cX8_sumAll 81 = .ok (.iconst 3, 1) := by decide +kernel
theorem dX8_sumAll_82 : decode cX8_sumAll 82 = .ok (.iload 5, 2) := by decide +kernel
theorem dX8_sumAll_84 : decode cX8_sumAll 84 = .ok (.invokevirtual 330, 3) := by decide +kernel
theorem dX8_sumAll_87 : decode cX8_sumAll 87 = .ok (.goto 4, 3) := by decide +kernel
theorem dX8_sumAll_90 : decode cX8_sumAll 90 = .ok (.iconst 0, 1) := by decide +kernel
theorem dX8_sumAll_91 : decode cX8_sumAll 91 = .ok (.iadd, 1) := by decide +kernel
theorem dX8_sumAll_92 : decode cX8_sumAll 92 = .ok (.ireturn, 1) := by decide +kernel
set_option maxHeartbeats 4000000 in
set_option maxRecDepth 100000 in
theorem m_sumAll (l : Launch) (D : va_G) (k : Nat → ClassId) (st : Nat → Nat) (lo : Nat) (a : Nat → Nat) (tx : Nat) (t0 : Nat) (we : Nat) (rd : Nat) (ru : Nat) (rw : Nat) (ca : Nat) (fp : Int32) (wd : Int64) (nu : Int32) (na : Int32) (ts : Int32) (df : Int32) (db : Int32) (sd : Int32) (dn : Nat → Nat) (se : Nat → Nat) (tm : Nat → Nat) (gs : Nat → Int32) (fprices : Nat → Int32) (fwalks : Nat → Int32) (sn : Nat) (qa : Int32) (qb : Int32) (qc : Int32) (qd : Int32) (hca : ca ≤ 4) (hs : sn < 3) (hqa : qa < 0 ∨ ∃ d : Nat, d < 24 ∧ qa = nI d) (hqb : qb < 0 ∨ ∃ d : Nat, d < 24 ∧ qb = nI d) (hqc : qc < 0 ∨ ∃ d : Nat, d < 24 ∧ qc = nI d) (hqd : qd < 0 ∨ ∃ d : Nat, d < 24 ∧ qd = nI d) : CRi l D k st lo yX8_sumAll cX8_sumAll 7 (some .int) ({ frames := 4, cells := 0, slots := 0, locals := 94 }) [.ref (a 0), .int (nI sn), .int qa, .int qb, .int qc, .int qd] [((a 0), .inr (8, (fX8 a (nI tx) fp (nI t0) wd (nI we) nu na (nI rd) ts (nI ru) (nI rw) (nI ca) df db sd))), (aI k (a 1) 3 (nF dn)), (aI k (a 4) 27 (sg se tm gs)), (aI k (a 3) 72 fprices), (aI k (a 36) 4 fwalks)] (fun r => True) := by
  intro sz
  refine Met.ofW (cc := cX8_sumAll) (maxL := 7) (ret := (some .int)) (by decide) rfl ?_
  intro p e s m args below meth c s₁ B hml hv
  obtain ⟨rfl, hsz, hlo, hP, hK, hDL, hZ⟩ := hv
  have hx := B.exec
  have hb := B.bytes
  have hr := B.returns
  have hts := WS_ts B.pre
  have hown : s.vm.findClass RX8 = some m.cls := findClass_of_methodNamed B.named
  have hlocks := B.notSynchronized
  subst hsz
  have hA : ∀ q : Nat, s.heap.size ≤ q → (fun q : Nat => s.heap.size ≤ q) q := fun _ h => h
  have hAlo : ∀ q : Nat, (fun q : Nat => s.heap.size ≤ q) q → lo ≤ q := fun q h => Nat.le_trans hlo h
  have hS : va_S (fun q : Nat => s.heap.size ≤ q) s.heap s.heap [] := va_S.rf
  have hl := lv_entry ([.ref (a 0), .int (nI sn), .int qa, .int qb, .int qc, .int qd]) (n := 7) (Nat.le_of_ble_eq_true rfl)
  rw [lg_entry_eq]
  generalize (lg_sl ([.ref (a 0), .int (nI sn), .int qa, .int qb, .int qc, .int qd]) ++ List.replicate (7 - (lg_sl ([.ref (a 0), .int (nI sn), .int qa, .int qb, .int qc, .int qd])).length) Slot.unset).toArray = ls at hl ⊢
  have hl : lv_has ls 7 [(0, .ref (a 0)), (1, .int (nI sn)), (2, .int qa), (3, .int qb), (4, .int qc), (5, .int qd)] := hl
  refine lv_aload_n hx hb dX8_sumAll_0 rfl (lv_at hl 0 rfl) ?_
  refine va_get (D := D) (ci := 8) (v := .int (nI ca)) (C := RX8) (T := TX8) (N := 44) hx hb hts inX8 hown hK hP 0 rfl rfl 34 (by decide) (hts _ tw_1007) (fun _ h9 => h9) rfl dX8_sumAll_1 ?_
  refine lv_if_le (tgt := 17) hx hb dX8_sumAll_4 (by decide) (fun c_1 => ?_) (fun c_1 => ?_)
  · have c_1 := (nI_leI (a := ca) (b := 0) (by omega) (by omega)).mp c_1
    refine lv_iconst (v := 0) hx hb dX8_sumAll_17 (by decide) ?_
    refine lv_istore (lv' := [(6, .int 0), (0, .ref (a 0)), (1, .int (nI sn)), (2, .int qa), (3, .int qb), (4, .int qc), (5, .int qd)]) hx hb dX8_sumAll_18 hl (by decide) rfl (fun ls hl => ?_)
    refine lv_iload hx hb dX8_sumAll_20 (lv_at hl 0 rfl) ?_
    refine lv_aload_n hx hb dX8_sumAll_22 rfl (lv_at hl 1 rfl) ?_
    refine va_get (D := D) (ci := 8) (v := .int (nI ca)) (C := RX8) (T := TX8) (N := 44) hx hb hts inX8 hown hK hP 0 rfl rfl 34 (by decide) (hts _ tw_1007) (fun _ h9 => h9) rfl dX8_sumAll_23 ?_
    refine lv_iconst (v := 1) hx hb dX8_sumAll_26 (by decide) ?_
    refine lv_icmp_le (tgt := 40) hx hb dX8_sumAll_27 (by decide) (fun _ => ?_) (fun h => absurd ((nI_leI (a := ca) (b := 1) (by omega) (by omega)).mpr (by omega)) h)
    refine lv_iconst (v := 0) hx hb dX8_sumAll_40 (by decide) ?_
    refine lv_iadd hx hb dX8_sumAll_41 ?_
    refine lv_ti (y := 0) (by decide) ?_
    refine lv_istore (lv' := [(6, .int 0), (0, .ref (a 0)), (1, .int (nI sn)), (2, .int qa), (3, .int qb), (4, .int qc), (5, .int qd)]) hx hb dX8_sumAll_42 hl (by decide) rfl (fun ls hl => ?_)
    refine lv_iload hx hb dX8_sumAll_44 (lv_at hl 0 rfl) ?_
    refine lv_aload_n hx hb dX8_sumAll_46 rfl (lv_at hl 1 rfl) ?_
    refine va_get (D := D) (ci := 8) (v := .int (nI ca)) (C := RX8) (T := TX8) (N := 44) hx hb hts inX8 hown hK hP 0 rfl rfl 34 (by decide) (hts _ tw_1007) (fun _ h9 => h9) rfl dX8_sumAll_47 ?_
    refine lv_iconst (v := 2) hx hb dX8_sumAll_50 (by decide) ?_
    refine lv_icmp_le (tgt := 65) hx hb dX8_sumAll_51 (by decide) (fun _ => ?_) (fun h => absurd ((nI_leI (a := ca) (b := 2) (by omega) (by omega)).mpr (by omega)) h)
    refine lv_iconst (v := 0) hx hb dX8_sumAll_65 (by decide) ?_
    refine lv_iadd hx hb dX8_sumAll_66 ?_
    refine lv_ti (y := 0) (by decide) ?_
    refine lv_istore (lv' := [(6, .int 0), (0, .ref (a 0)), (1, .int (nI sn)), (2, .int qa), (3, .int qb), (4, .int qc), (5, .int qd)]) hx hb dX8_sumAll_67 hl (by decide) rfl (fun ls hl => ?_)
    refine lv_iload hx hb dX8_sumAll_69 (lv_at hl 0 rfl) ?_
    refine lv_aload_n hx hb dX8_sumAll_71 rfl (lv_at hl 1 rfl) ?_
    refine va_get (D := D) (ci := 8) (v := .int (nI ca)) (C := RX8) (T := TX8) (N := 44) hx hb hts inX8 hown hK hP 0 rfl rfl 34 (by decide) (hts _ tw_1007) (fun _ h9 => h9) rfl dX8_sumAll_72 ?_
    refine lv_iconst (v := 3) hx hb dX8_sumAll_75 (by decide) ?_
    refine lv_icmp_le (tgt := 90) hx hb dX8_sumAll_76 (by decide) (fun _ => ?_) (fun h => absurd ((nI_leI (a := ca) (b := 3) (by omega) (by omega)).mpr (by omega)) h)
    refine lv_iconst (v := 0) hx hb dX8_sumAll_90 (by decide) ?_
    refine lv_iadd hx hb dX8_sumAll_91 ?_
    refine lv_ti (y := 0) (by decide) ?_
    exact W.iret (v := 0) hx hb hr (fun t ht hW => ⟨⟨0, (), rfl, trivial, trivial⟩, hS.F ht⟩) hS.2.2 dX8_sumAll_92
  · have c_1 : ¬ (ca ≤ 0) := fun h => c_1 ((nI_leI (a := ca) (b := 0) (by omega) (by omega)).mpr h)
    refine lv_aload_n hx hb dX8_sumAll_7 rfl (lv_at hl 0 rfl) ?_
    refine lv_iload_n hx hb dX8_sumAll_8 rfl (lv_at hl 1 rfl) ?_
    refine lv_iconst (v := 0) hx hb dX8_sumAll_9 (by decide) ?_
    refine lv_iload_n hx hb dX8_sumAll_10 rfl (lv_at hl 2 rfl) ?_
    refine ro_i (D := D) (va_runV (As := [.int (nI sn), .int 0, .int qa]) (rest := []) ⟨hx, hb, hml, hown, hts⟩ ((m_costAt l D k st lo a tx t0 we rd ru rw ca fp wd nu na ts df db sd dn se tm gs fprices fwalks sn 0 qa (by first | assumption | omega) (by first | assumption | omega) hqa) s.heap.size) (cwV 3 hts (gV tw_1402 tw_1404 tw_67 tw_87 tw_1405) rfl rfl rfl (by decide +kernel) ⟨Nat.le_of_ble_eq_true rfl, Nat.le_of_ble_eq_true rfl⟩) (pV hS hAlo hlo hP hK hDL hZ [0, 1, 2, 3, 4] (by decide) rfl (ci := 8) (q := (RX8, TX8, 44)) (q0 := 0) rfl rfl) rfl rfl hl.1 rfl (lv_room (Nat.le_of_ble_eq_true rfl)) dX8_sumAll_11 ⟨Nat.le_of_ble_eq_true rfl, Nat.le_of_ble_eq_true rfl⟩) hS hA hP (fun r_5 H locs hw_5 hP hS => ?_)
    try dsimp only at hw_5
    refine lv_goto (tgt := 18) hx hb dX8_sumAll_14 (by decide) ?_
    refine lv_istore (lv' := [(6, .int r_5), (0, .ref (a 0)), (1, .int (nI sn)), (2, .int qa), (3, .int qb), (4, .int qc), (5, .int qd)]) hx hb dX8_sumAll_18 hl (by decide) rfl (fun ls hl => ?_)
    refine lv_iload hx hb dX8_sumAll_20 (lv_at hl 0 rfl) ?_
    refine lv_aload_n hx hb dX8_sumAll_22 rfl (lv_at hl 1 rfl) ?_
    refine va_get (D := D) (ci := 8) (v := .int (nI ca)) (C := RX8) (T := TX8) (N := 44) hx hb hts inX8 hown hK hP 0 rfl rfl 34 (by decide) (hts _ tw_1007) (fun _ h9 => h9) rfl dX8_sumAll_23 ?_
    refine lv_iconst (v := 1) hx hb dX8_sumAll_26 (by decide) ?_
    refine lv_icmp_le (tgt := 40) hx hb dX8_sumAll_27 (by decide) (fun c_6 => ?_) (fun c_6 => ?_)
    · have c_6 := (nI_leI (a := ca) (b := 1) (by omega) (by omega)).mp c_6
      refine lv_iconst (v := 0) hx hb dX8_sumAll_40 (by decide) ?_
      refine lv_iadd hx hb dX8_sumAll_41 ?_
      refine lv_topi (fun x_7 ex_7 => ?_)
      refine lv_istore (lv' := [(6, .int x_7), (0, .ref (a 0)), (1, .int (nI sn)), (2, .int qa), (3, .int qb), (4, .int qc), (5, .int qd)]) hx hb dX8_sumAll_42 hl (by decide) rfl (fun ls hl => ?_)
      refine lv_iload hx hb dX8_sumAll_44 (lv_at hl 0 rfl) ?_
      refine lv_aload_n hx hb dX8_sumAll_46 rfl (lv_at hl 1 rfl) ?_
      refine va_get (D := D) (ci := 8) (v := .int (nI ca)) (C := RX8) (T := TX8) (N := 44) hx hb hts inX8 hown hK hP 0 rfl rfl 34 (by decide) (hts _ tw_1007) (fun _ h9 => h9) rfl dX8_sumAll_47 ?_
      refine lv_iconst (v := 2) hx hb dX8_sumAll_50 (by decide) ?_
      refine lv_icmp_le (tgt := 65) hx hb dX8_sumAll_51 (by decide) (fun c_8 => ?_) (fun c_8 => ?_)
      · have c_8 := (nI_leI (a := ca) (b := 2) (by omega) (by omega)).mp c_8
        refine lv_iconst (v := 0) hx hb dX8_sumAll_65 (by decide) ?_
        refine lv_iadd hx hb dX8_sumAll_66 ?_
        refine lv_topi (fun x_9 ex_9 => ?_)
        refine lv_istore (lv' := [(6, .int x_9), (0, .ref (a 0)), (1, .int (nI sn)), (2, .int qa), (3, .int qb), (4, .int qc), (5, .int qd)]) hx hb dX8_sumAll_67 hl (by decide) rfl (fun ls hl => ?_)
        refine lv_iload hx hb dX8_sumAll_69 (lv_at hl 0 rfl) ?_
        refine lv_aload_n hx hb dX8_sumAll_71 rfl (lv_at hl 1 rfl) ?_
        refine va_get (D := D) (ci := 8) (v := .int (nI ca)) (C := RX8) (T := TX8) (N := 44) hx hb hts inX8 hown hK hP 0 rfl rfl 34 (by decide) (hts _ tw_1007) (fun _ h9 => h9) rfl dX8_sumAll_72 ?_
        refine lv_iconst (v := 3) hx hb dX8_sumAll_75 (by decide) ?_
        refine lv_icmp_le (tgt := 90) hx hb dX8_sumAll_76 (by decide) (fun c_10 => ?_) (fun c_10 => ?_)
        · have c_10 := (nI_leI (a := ca) (b := 3) (by omega) (by omega)).mp c_10
          refine lv_iconst (v := 0) hx hb dX8_sumAll_90 (by decide) ?_
          refine lv_iadd hx hb dX8_sumAll_91 ?_
          refine lv_topi (fun x_11 ex_11 => ?_)
          exact W.iret (v := x_11) hx hb hr (fun t ht hW => ⟨⟨x_11, (), rfl, trivial, trivial⟩, hS.F ht⟩) hS.2.2 dX8_sumAll_92
        · have c_10 : ¬ (ca ≤ 3) := fun h => c_10 ((nI_leI (a := ca) (b := 3) (by omega) (by omega)).mpr h)
          refine lv_aload_n hx hb dX8_sumAll_79 rfl (lv_at hl 1 rfl) ?_
          refine lv_iload_n hx hb dX8_sumAll_80 rfl (lv_at hl 2 rfl) ?_
          refine lv_iconst (v := 3) hx hb dX8_sumAll_81 (by decide) ?_
          refine lv_iload hx hb dX8_sumAll_82 (lv_at hl 6 rfl) ?_
          refine ro_i (D := D) (va_runV (As := [.int (nI sn), .int 3, .int qd]) (rest := [.int x_9]) ⟨hx, hb, hml, hown, hts⟩ ((m_costAt l D k st lo a tx t0 we rd ru rw ca fp wd nu na ts df db sd dn se tm gs fprices fwalks sn 3 qd (by first | assumption | omega) (by first | assumption | omega) hqd) H.size) (cwV 3 hts (gV tw_1402 tw_1404 tw_67 tw_87 tw_1405) rfl rfl rfl (by decide +kernel) ⟨Nat.le_of_ble_eq_true rfl, Nat.le_of_ble_eq_true rfl⟩) (pV hS hAlo hlo hP hK hDL hZ [0, 1, 2, 3, 4] (by decide) rfl (ci := 8) (q := (RX8, TX8, 44)) (q0 := 0) rfl rfl) rfl rfl hl.1 rfl (lv_room (Nat.le_of_ble_eq_true rfl)) dX8_sumAll_84 ⟨Nat.le_of_ble_eq_true rfl, Nat.le_of_ble_eq_true rfl⟩) hS hA hP (fun r_12 H locs hw_12 hP hS => ?_)
          try dsimp only at hw_12
          refine lv_goto (tgt := 91) hx hb dX8_sumAll_87 (by decide) ?_
          refine lv_iadd hx hb dX8_sumAll_91 ?_
          refine lv_topi (fun x_13 ex_13 => ?_)
          exact W.iret (v := x_13) hx hb hr (fun t ht hW => ⟨⟨x_13, (), rfl, trivial, trivial⟩, hS.F ht⟩) hS.2.2 dX8_sumAll_92
      · have c_8 : ¬ (ca ≤ 2) := fun h => c_8 ((nI_leI (a := ca) (b := 2) (by omega) (by omega)).mpr h)
        refine lv_aload_n hx hb dX8_sumAll_54 rfl (lv_at hl 1 rfl) ?_
        refine lv_iload_n hx hb dX8_sumAll_55 rfl (lv_at hl 2 rfl) ?_
        refine lv_iconst (v := 2) hx hb dX8_sumAll_56 (by decide) ?_
        refine lv_iload hx hb dX8_sumAll_57 (lv_at hl 5 rfl) ?_
        refine ro_i (D := D) (va_runV (As := [.int (nI sn), .int 2, .int qc]) (rest := [.int x_7]) ⟨hx, hb, hml, hown, hts⟩ ((m_costAt l D k st lo a tx t0 we rd ru rw ca fp wd nu na ts df db sd dn se tm gs fprices fwalks sn 2 qc (by first | assumption | omega) (by first | assumption | omega) hqc) H.size) (cwV 3 hts (gV tw_1402 tw_1404 tw_67 tw_87 tw_1405) rfl rfl rfl (by decide +kernel) ⟨Nat.le_of_ble_eq_true rfl, Nat.le_of_ble_eq_true rfl⟩) (pV hS hAlo hlo hP hK hDL hZ [0, 1, 2, 3, 4] (by decide) rfl (ci := 8) (q := (RX8, TX8, 44)) (q0 := 0) rfl rfl) rfl rfl hl.1 rfl (lv_room (Nat.le_of_ble_eq_true rfl)) dX8_sumAll_59 ⟨Nat.le_of_ble_eq_true rfl, Nat.le_of_ble_eq_true rfl⟩) hS hA hP (fun r_14 H locs hw_14 hP hS => ?_)
        try dsimp only at hw_14
        refine lv_goto (tgt := 66) hx hb dX8_sumAll_62 (by decide) ?_
        refine lv_iadd hx hb dX8_sumAll_66 ?_
        refine lv_topi (fun x_15 ex_15 => ?_)
        refine lv_istore (lv' := [(6, .int x_15), (0, .ref (a 0)), (1, .int (nI sn)), (2, .int qa), (3, .int qb), (4, .int qc), (5, .int qd)]) hx hb dX8_sumAll_67 hl (by decide) rfl (fun ls hl => ?_)
        refine lv_iload hx hb dX8_sumAll_69 (lv_at hl 0 rfl) ?_
        refine lv_aload_n hx hb dX8_sumAll_71 rfl (lv_at hl 1 rfl) ?_
        refine va_get (D := D) (ci := 8) (v := .int (nI ca)) (C := RX8) (T := TX8) (N := 44) hx hb hts inX8 hown hK hP 0 rfl rfl 34 (by decide) (hts _ tw_1007) (fun _ h9 => h9) rfl dX8_sumAll_72 ?_
        refine lv_iconst (v := 3) hx hb dX8_sumAll_75 (by decide) ?_
        refine lv_icmp_le (tgt := 90) hx hb dX8_sumAll_76 (by decide) (fun c_16 => ?_) (fun c_16 => ?_)
        · have c_16 := (nI_leI (a := ca) (b := 3) (by omega) (by omega)).mp c_16
          refine lv_iconst (v := 0) hx hb dX8_sumAll_90 (by decide) ?_
          refine lv_iadd hx hb dX8_sumAll_91 ?_
          refine lv_topi (fun x_17 ex_17 => ?_)
          exact W.iret (v := x_17) hx hb hr (fun t ht hW => ⟨⟨x_17, (), rfl, trivial, trivial⟩, hS.F ht⟩) hS.2.2 dX8_sumAll_92
        · have c_16 : ¬ (ca ≤ 3) := fun h => c_16 ((nI_leI (a := ca) (b := 3) (by omega) (by omega)).mpr h)
          refine lv_aload_n hx hb dX8_sumAll_79 rfl (lv_at hl 1 rfl) ?_
          refine lv_iload_n hx hb dX8_sumAll_80 rfl (lv_at hl 2 rfl) ?_
          refine lv_iconst (v := 3) hx hb dX8_sumAll_81 (by decide) ?_
          refine lv_iload hx hb dX8_sumAll_82 (lv_at hl 6 rfl) ?_
          refine ro_i (D := D) (va_runV (As := [.int (nI sn), .int 3, .int qd]) (rest := [.int x_15]) ⟨hx, hb, hml, hown, hts⟩ ((m_costAt l D k st lo a tx t0 we rd ru rw ca fp wd nu na ts df db sd dn se tm gs fprices fwalks sn 3 qd (by first | assumption | omega) (by first | assumption | omega) hqd) H.size) (cwV 3 hts (gV tw_1402 tw_1404 tw_67 tw_87 tw_1405) rfl rfl rfl (by decide +kernel) ⟨Nat.le_of_ble_eq_true rfl, Nat.le_of_ble_eq_true rfl⟩) (pV hS hAlo hlo hP hK hDL hZ [0, 1, 2, 3, 4] (by decide) rfl (ci := 8) (q := (RX8, TX8, 44)) (q0 := 0) rfl rfl) rfl rfl hl.1 rfl (lv_room (Nat.le_of_ble_eq_true rfl)) dX8_sumAll_84 ⟨Nat.le_of_ble_eq_true rfl, Nat.le_of_ble_eq_true rfl⟩) hS hA hP (fun r_18 H locs hw_18 hP hS => ?_)
          try dsimp only at hw_18
          refine lv_goto (tgt := 91) hx hb dX8_sumAll_87 (by decide) ?_
          refine lv_iadd hx hb dX8_sumAll_91 ?_
          refine lv_topi (fun x_19 ex_19 => ?_)
          exact W.iret (v := x_19) hx hb hr (fun t ht hW => ⟨⟨x_19, (), rfl, trivial, trivial⟩, hS.F ht⟩) hS.2.2 dX8_sumAll_92
    · have c_6 : ¬ (ca ≤ 1) := fun h => c_6 ((nI_leI (a := ca) (b := 1) (by omega) (by omega)).mpr h)
      refine lv_aload_n hx hb dX8_sumAll_30 rfl (lv_at hl 1 rfl) ?_
      refine lv_iload_n hx hb dX8_sumAll_31 rfl (lv_at hl 2 rfl) ?_
      refine lv_iconst (v := 1) hx hb dX8_sumAll_32 (by decide) ?_
      refine lv_iload_n hx hb dX8_sumAll_33 rfl (lv_at hl 4 rfl) ?_
      refine ro_i (D := D) (va_runV (As := [.int (nI sn), .int 1, .int qb]) (rest := [.int r_5]) ⟨hx, hb, hml, hown, hts⟩ ((m_costAt l D k st lo a tx t0 we rd ru rw ca fp wd nu na ts df db sd dn se tm gs fprices fwalks sn 1 qb (by first | assumption | omega) (by first | assumption | omega) hqb) H.size) (cwV 3 hts (gV tw_1402 tw_1404 tw_67 tw_87 tw_1405) rfl rfl rfl (by decide +kernel) ⟨Nat.le_of_ble_eq_true rfl, Nat.le_of_ble_eq_true rfl⟩) (pV hS hAlo hlo hP hK hDL hZ [0, 1, 2, 3, 4] (by decide) rfl (ci := 8) (q := (RX8, TX8, 44)) (q0 := 0) rfl rfl) rfl rfl hl.1 rfl (lv_room (Nat.le_of_ble_eq_true rfl)) dX8_sumAll_34 ⟨Nat.le_of_ble_eq_true rfl, Nat.le_of_ble_eq_true rfl⟩) hS hA hP (fun r_20 H locs hw_20 hP hS => ?_)
      try dsimp only at hw_20
      refine lv_goto (tgt := 41) hx hb dX8_sumAll_37 (by decide) ?_
      refine lv_iadd hx hb dX8_sumAll_41 ?_
      refine lv_topi (fun x_21 ex_21 => ?_)
      refine lv_istore (lv' := [(6, .int x_21), (0, .ref (a 0)), (1, .int (nI sn)), (2, .int qa), (3, .int qb), (4, .int qc), (5, .int qd)]) hx hb dX8_sumAll_42 hl (by decide) rfl (fun ls hl => ?_)
      refine lv_iload hx hb dX8_sumAll_44 (lv_at hl 0 rfl) ?_
      refine lv_aload_n hx hb dX8_sumAll_46 rfl (lv_at hl 1 rfl) ?_
      refine va_get (D := D) (ci := 8) (v := .int (nI ca)) (C := RX8) (T := TX8) (N := 44) hx hb hts inX8 hown hK hP 0 rfl rfl 34 (by decide) (hts _ tw_1007) (fun _ h9 => h9) rfl dX8_sumAll_47 ?_
      refine lv_iconst (v := 2) hx hb dX8_sumAll_50 (by decide) ?_
      refine lv_icmp_le (tgt := 65) hx hb dX8_sumAll_51 (by decide) (fun c_22 => ?_) (fun c_22 => ?_)
      · have c_22 := (nI_leI (a := ca) (b := 2) (by omega) (by omega)).mp c_22
        refine lv_iconst (v := 0) hx hb dX8_sumAll_65 (by decide) ?_
        refine lv_iadd hx hb dX8_sumAll_66 ?_
        refine lv_topi (fun x_23 ex_23 => ?_)
        refine lv_istore (lv' := [(6, .int x_23), (0, .ref (a 0)), (1, .int (nI sn)), (2, .int qa), (3, .int qb), (4, .int qc), (5, .int qd)]) hx hb dX8_sumAll_67 hl (by decide) rfl (fun ls hl => ?_)
        refine lv_iload hx hb dX8_sumAll_69 (lv_at hl 0 rfl) ?_
        refine lv_aload_n hx hb dX8_sumAll_71 rfl (lv_at hl 1 rfl) ?_
        refine va_get (D := D) (ci := 8) (v := .int (nI ca)) (C := RX8) (T := TX8) (N := 44) hx hb hts inX8 hown hK hP 0 rfl rfl 34 (by decide) (hts _ tw_1007) (fun _ h9 => h9) rfl dX8_sumAll_72 ?_
        refine lv_iconst (v := 3) hx hb dX8_sumAll_75 (by decide) ?_
        refine lv_icmp_le (tgt := 90) hx hb dX8_sumAll_76 (by decide) (fun c_24 => ?_) (fun c_24 => ?_)
        · have c_24 := (nI_leI (a := ca) (b := 3) (by omega) (by omega)).mp c_24
          refine lv_iconst (v := 0) hx hb dX8_sumAll_90 (by decide) ?_
          refine lv_iadd hx hb dX8_sumAll_91 ?_
          refine lv_topi (fun x_25 ex_25 => ?_)
          exact W.iret (v := x_25) hx hb hr (fun t ht hW => ⟨⟨x_25, (), rfl, trivial, trivial⟩, hS.F ht⟩) hS.2.2 dX8_sumAll_92
        · have c_24 : ¬ (ca ≤ 3) := fun h => c_24 ((nI_leI (a := ca) (b := 3) (by omega) (by omega)).mpr h)
          refine lv_aload_n hx hb dX8_sumAll_79 rfl (lv_at hl 1 rfl) ?_
          refine lv_iload_n hx hb dX8_sumAll_80 rfl (lv_at hl 2 rfl) ?_
          refine lv_iconst (v := 3) hx hb dX8_sumAll_81 (by decide) ?_
          refine lv_iload hx hb dX8_sumAll_82 (lv_at hl 6 rfl) ?_
          refine ro_i (D := D) (va_runV (As := [.int (nI sn), .int 3, .int qd]) (rest := [.int x_23]) ⟨hx, hb, hml, hown, hts⟩ ((m_costAt l D k st lo a tx t0 we rd ru rw ca fp wd nu na ts df db sd dn se tm gs fprices fwalks sn 3 qd (by first | assumption | omega) (by first | assumption | omega) hqd) H.size) (cwV 3 hts (gV tw_1402 tw_1404 tw_67 tw_87 tw_1405) rfl rfl rfl (by decide +kernel) ⟨Nat.le_of_ble_eq_true rfl, Nat.le_of_ble_eq_true rfl⟩) (pV hS hAlo hlo hP hK hDL hZ [0, 1, 2, 3, 4] (by decide) rfl (ci := 8) (q := (RX8, TX8, 44)) (q0 := 0) rfl rfl) rfl rfl hl.1 rfl (lv_room (Nat.le_of_ble_eq_true rfl)) dX8_sumAll_84 ⟨Nat.le_of_ble_eq_true rfl, Nat.le_of_ble_eq_true rfl⟩) hS hA hP (fun r_26 H locs hw_26 hP hS => ?_)
          try dsimp only at hw_26
          refine lv_goto (tgt := 91) hx hb dX8_sumAll_87 (by decide) ?_
          refine lv_iadd hx hb dX8_sumAll_91 ?_
          refine lv_topi (fun x_27 ex_27 => ?_)
          exact W.iret (v := x_27) hx hb hr (fun t ht hW => ⟨⟨x_27, (), rfl, trivial, trivial⟩, hS.F ht⟩) hS.2.2 dX8_sumAll_92
      · have c_22 : ¬ (ca ≤ 2) := fun h => c_22 ((nI_leI (a := ca) (b := 2) (by omega) (by omega)).mpr h)
        refine lv_aload_n hx hb dX8_sumAll_54 rfl (lv_at hl 1 rfl) ?_
        refine lv_iload_n hx hb dX8_sumAll_55 rfl (lv_at hl 2 rfl) ?_
        refine lv_iconst (v := 2) hx hb dX8_sumAll_56 (by decide) ?_
        refine lv_iload hx hb dX8_sumAll_57 (lv_at hl 5 rfl) ?_
        refine ro_i (D := D) (va_runV (As := [.int (nI sn), .int 2, .int qc]) (rest := [.int x_21]) ⟨hx, hb, hml, hown, hts⟩ ((m_costAt l D k st lo a tx t0 we rd ru rw ca fp wd nu na ts df db sd dn se tm gs fprices fwalks sn 2 qc (by first | assumption | omega) (by first | assumption | omega) hqc) H.size) (cwV 3 hts (gV tw_1402 tw_1404 tw_67 tw_87 tw_1405) rfl rfl rfl (by decide +kernel) ⟨Nat.le_of_ble_eq_true rfl, Nat.le_of_ble_eq_true rfl⟩) (pV hS hAlo hlo hP hK hDL hZ [0, 1, 2, 3, 4] (by decide) rfl (ci := 8) (q := (RX8, TX8, 44)) (q0 := 0) rfl rfl) rfl rfl hl.1 rfl (lv_room (Nat.le_of_ble_eq_true rfl)) dX8_sumAll_59 ⟨Nat.le_of_ble_eq_true rfl, Nat.le_of_ble_eq_true rfl⟩) hS hA hP (fun r_28 H locs hw_28 hP hS => ?_)
        try dsimp only at hw_28
        refine lv_goto (tgt := 66) hx hb dX8_sumAll_62 (by decide) ?_
        refine lv_iadd hx hb dX8_sumAll_66 ?_
        refine lv_topi (fun x_29 ex_29 => ?_)
        refine lv_istore (lv' := [(6, .int x_29), (0, .ref (a 0)), (1, .int (nI sn)), (2, .int qa), (3, .int qb), (4, .int qc), (5, .int qd)]) hx hb dX8_sumAll_67 hl (by decide) rfl (fun ls hl => ?_)
        refine lv_iload hx hb dX8_sumAll_69 (lv_at hl 0 rfl) ?_
        refine lv_aload_n hx hb dX8_sumAll_71 rfl (lv_at hl 1 rfl) ?_
        refine va_get (D := D) (ci := 8) (v := .int (nI ca)) (C := RX8) (T := TX8) (N := 44) hx hb hts inX8 hown hK hP 0 rfl rfl 34 (by decide) (hts _ tw_1007) (fun _ h9 => h9) rfl dX8_sumAll_72 ?_
        refine lv_iconst (v := 3) hx hb dX8_sumAll_75 (by decide) ?_
        refine lv_icmp_le (tgt := 90) hx hb dX8_sumAll_76 (by decide) (fun c_30 => ?_) (fun c_30 => ?_)
        · have c_30 := (nI_leI (a := ca) (b := 3) (by omega) (by omega)).mp c_30
          refine lv_iconst (v := 0) hx hb dX8_sumAll_90 (by decide) ?_
          refine lv_iadd hx hb dX8_sumAll_91 ?_
          refine lv_topi (fun x_31 ex_31 => ?_)
          exact W.iret (v := x_31) hx hb hr (fun t ht hW => ⟨⟨x_31, (), rfl, trivial, trivial⟩, hS.F ht⟩) hS.2.2 dX8_sumAll_92
        · have c_30 : ¬ (ca ≤ 3) := fun h => c_30 ((nI_leI (a := ca) (b := 3) (by omega) (by omega)).mpr h)
          refine lv_aload_n hx hb dX8_sumAll_79 rfl (lv_at hl 1 rfl) ?_
          refine lv_iload_n hx hb dX8_sumAll_80 rfl (lv_at hl 2 rfl) ?_
          refine lv_iconst (v := 3) hx hb dX8_sumAll_81 (by decide) ?_
          refine lv_iload hx hb dX8_sumAll_82 (lv_at hl 6 rfl) ?_
          refine ro_i (D := D) (va_runV (As := [.int (nI sn), .int 3, .int qd]) (rest := [.int x_29]) ⟨hx, hb, hml, hown, hts⟩ ((m_costAt l D k st lo a tx t0 we rd ru rw ca fp wd nu na ts df db sd dn se tm gs fprices fwalks sn 3 qd (by first | assumption | omega) (by first | assumption | omega) hqd) H.size) (cwV 3 hts (gV tw_1402 tw_1404 tw_67 tw_87 tw_1405) rfl rfl rfl (by decide +kernel) ⟨Nat.le_of_ble_eq_true rfl, Nat.le_of_ble_eq_true rfl⟩) (pV hS hAlo hlo hP hK hDL hZ [0, 1, 2, 3, 4] (by decide) rfl (ci := 8) (q := (RX8, TX8, 44)) (q0 := 0) rfl rfl) rfl rfl hl.1 rfl (lv_room (Nat.le_of_ble_eq_true rfl)) dX8_sumAll_84 ⟨Nat.le_of_ble_eq_true rfl, Nat.le_of_ble_eq_true rfl⟩) hS hA hP (fun r_32 H locs hw_32 hP hS => ?_)
          try dsimp only at hw_32
          refine lv_goto (tgt := 91) hx hb dX8_sumAll_87 (by decide) ?_
          refine lv_iadd hx hb dX8_sumAll_91 ?_
          refine lv_topi (fun x_33 ex_33 => ?_)
          exact W.iret (v := x_33) hx hb hr (fun t ht hW => ⟨⟨x_33, (), rfl, trivial, trivial⟩, hS.F ht⟩) hS.2.2 dX8_sumAll_92

theorem dX8_leastAll_0 : decode cX8_leastAll 0 = .ok (.aload_n 0, 1) := by decide +kernel
theorem dX8_leastAll_1 : decode cX8_leastAll 1 = .ok (.getfield 7, 3) := by decide +kernel
theorem dX8_leastAll_4 : decode cX8_leastAll 4 = .ok (.iload_n 1, 1) := by decide +kernel
theorem dX8_leastAll_5 : decode cX8_leastAll 5 = .ok (.iaload, 1) := by decide +kernel
theorem dX8_leastAll_6 : decode cX8_leastAll 6 = .ok (.istore_n 3, 1) := by decide +kernel
theorem dX8_leastAll_7 : decode cX8_leastAll 7 = .ok (.iconst (-1), 1) := by decide +kernel
theorem dX8_leastAll_8 : decode cX8_leastAll 8 = .ok (.istore 4, 2) := by decide +kernel
theorem dX8_leastAll_10 : decode cX8_leastAll 10 = .ok (.iconst (-1), 1) := by decide +kernel
theorem dX8_leastAll_11 : decode cX8_leastAll 11 = .ok (.istore 5, 2) := by decide +kernel
theorem dX8_leastAll_13 : decode cX8_leastAll 13 = .ok (.iload 5, 2) := by decide +kernel
theorem dX8_leastAll_15 : decode cX8_leastAll 15 = .ok (.aload_n 0, 1) := by decide +kernel
theorem dX8_leastAll_16 : decode cX8_leastAll 16 = .ok (.getfield 315, 3) := by decide +kernel
theorem dX8_leastAll_19 : decode cX8_leastAll 19 = .ok (.ifCond .le 7, 3) := by decide +kernel
theorem dX8_leastAll_22 : decode cX8_leastAll 22 = .ok (.iload_n 3, 1) := by decide +kernel
theorem dX8_leastAll_23 : decode cX8_leastAll 23 = .ok (.goto 4, 3) := by decide +kernel
theorem dX8_leastAll_26 : decode cX8_leastAll 26 = .ok (.iconst 0, 1) := by decide +kernel
theorem dX8_leastAll_27 : decode cX8_leastAll 27 = .ok (.if_icmp .ge 150, 3) := by decide +kernel
theorem dX8_leastAll_30 : decode cX8_leastAll 30 = .ok (.iconst (-1), 1) := by decide +kernel
theorem dX8_leastAll_31 : decode cX8_leastAll 31 = .ok (.istore 6, 2) := by decide +kernel
theorem dX8_leastAll_33 : decode cX8_leastAll 33 = .ok (.iload 6, 2) := by decide +kernel
theorem dX8_leastAll_35 : decode cX8_leastAll 35 = .ok (.aload_n 0, 1) := by decide +kernel
theorem dX8_leastAll_36 : decode cX8_leastAll 36 = .ok (.getfield 315, 3) := by decide +kernel
theorem dX8_leastAll_39 : decode cX8_leastAll 39 = .ok (.iconst 1, 1) := by decide +kernel
theorem dX8_leastAll_40 : decode cX8_leastAll 40 = .ok (.if_icmp .le 7, 3) := by decide +kernel
theorem dX8_leastAll_43 : decode cX8_leastAll 43 = .ok (.iload_n 3, 1) := by decide +kernel
theorem dX8_leastAll_44 : decode cX8_leastAll 44 = .ok (.goto 4, 3) := by decide +kernel
theorem dX8_leastAll_47 : decode cX8_leastAll 47 = .ok (.iconst 0, 1) := by decide +kernel
theorem dX8_leastAll_48 : decode cX8_leastAll 48 = .ok (.if_icmp .ge 123, 3) := by decide +kernel
theorem dX8_leastAll_51 : decode cX8_leastAll 51 = .ok (.iconst (-1), 1) := by decide +kernel
theorem dX8_leastAll_52 : decode cX8_leastAll 52 = .ok (.istore 7, 2) := by decide +kernel
theorem dX8_leastAll_54 : decode cX8_leastAll 54 = .ok (.iload 7, 2) := by decide +kernel
theorem dX8_leastAll_56 : decode cX8_leastAll 56 = .ok (.aload_n 0, 1) := by decide +kernel
theorem dX8_leastAll_57 : decode cX8_leastAll 57 = .ok (.getfield 315, 3) := by decide +kernel
theorem dX8_leastAll_60 : decode cX8_leastAll 60 = .ok (.iconst 2, 1) := by decide +kernel
theorem dX8_leastAll_61 : decode cX8_leastAll 61 = .ok (.if_icmp .le 7, 3) := by decide +kernel
theorem dX8_leastAll_64 : decode cX8_leastAll 64 = .ok (.iload_n 3, 1) := by decide +kernel
theorem dX8_leastAll_65 : decode cX8_leastAll 65 = .ok (.goto 4, 3) := by decide +kernel
theorem dX8_leastAll_68 : decode cX8_leastAll 68 = .ok (.iconst 0, 1) := by decide +kernel
theorem dX8_leastAll_69 : decode cX8_leastAll 69 = .ok (.if_icmp .ge 96, 3) := by decide +kernel
theorem dX8_leastAll_72 : decode cX8_leastAll 72 = .ok (.iconst (-1), 1) := by decide +kernel
theorem dX8_leastAll_73 : decode cX8_leastAll 73 = .ok (.istore 8, 2) := by decide +kernel
theorem dX8_leastAll_75 : decode cX8_leastAll 75 = .ok (.iload 8, 2) := by decide +kernel
theorem dX8_leastAll_77 : decode cX8_leastAll 77 = .ok (.aload_n 0, 1) := by decide +kernel
theorem dX8_leastAll_78 : decode cX8_leastAll 78 = .ok (.getfield 315, 3) := by decide +kernel
theorem dX8_leastAll_81 : decode cX8_leastAll 81 = .ok (.iconst 3, 1) := by decide +kernel
theorem dX8_leastAll_82 : decode cX8_leastAll 82 = .ok (.if_icmp .le 7, 3) := by decide +kernel
theorem dX8_leastAll_85 : decode cX8_leastAll 85 = .ok (.iload_n 3, 1) := by decide +kernel
theorem dX8_leastAll_86 : decode cX8_leastAll 86 = .ok (.goto 4, 3) := by decide +kernel
theorem dX8_leastAll_89 : decode cX8_leastAll 89 = .ok (.iconst 0, 1) := by decide +kernel
theorem dX8_leastAll_90 : decode cX8_leastAll 90 = .ok (.if_icmp .ge 69, 3) := by decide +kernel
theorem dX8_leastAll_93 : decode cX8_leastAll 93 = .ok (.iload_n 2, 1) := by decide +kernel
theorem dX8_leastAll_94 : decode cX8_leastAll 94 = .ok (.iload 5, 2) := by decide +kernel
theorem dX8_leastAll_96 : decode cX8_leastAll 96 = .ok (.iload 6, 2) := by decide +kernel
theorem dX8_leastAll_98 : decode cX8_leastAll 98 = .ok (.iload 7, 2) := by decide +kernel
theorem dX8_leastAll_100 : decode cX8_leastAll 100 = .ok (.iload 8, 2) := by decide +kernel
theorem dX8_leastAll_102 : decode cX8_leastAll 102 = .ok (.invokestatic 354, 3) := by decide +kernel
theorem dX8_leastAll_105 : decode cX8_leastAll 105 = .ok (.ifCond .eq 19, 3) := by decide +kernel
theorem dX8_leastAll_108 : decode cX8_leastAll 108 = .ok (.aload_n 0, 1) := by decide +kernel
theorem dX8_leastAll_109 : decode cX8_leastAll 109 = .ok (.iload_n 1, 1) := by decide +kernel
theorem dX8_leastAll_110 : decode cX8_leastAll 110 = .ok (.iload 5, 2) := by decide +kernel
theorem dX8_leastAll_112 : decode cX8_leastAll 112 = .ok (.iload 6, 2) := by decide +kernel
theorem dX8_leastAll_114 : decode cX8_leastAll 114 = .ok (.iload 7, 2) := by decide +kernel
theorem dX8_leastAll_116 : decode cX8_leastAll 116 = .ok (.iload 8, 2) := by decide +kernel
theorem dX8_leastAll_118 : decode cX8_leastAll 118 = .ok (.invokevirtual 358, 3) := by decide +kernel
theorem dX8_leastAll_121 : decode cX8_leastAll 121 = .ok (.goto 4, 3) := by decide +kernel
theorem dX8_leastAll_124 : decode cX8_leastAll 124 = .ok (.iconst (-1), 1) := by decide +kernel
theorem dX8_leastAll_125 : decode cX8_leastAll 125 = .ok (.istore 9, 2) := by decide +kernel
theorem dX8_leastAll_127 : decode cX8_leastAll 127 = .ok (.iload 9, 2) := by decide +kernel
theorem dX8_leastAll_129 : decode cX8_leastAll 129 = .ok (.ifCond .lt 20, 3) := by decide +kernel
theorem dX8_leastAll_132 : decode cX8_leastAll 132 = .ok (.iload 4, 2) := by decide +kernel
theorem dX8_leastAll_134 : decode cX8_leastAll 134 = .ok (.ifCond .lt 10, 3) := by decide +kernel
theorem dX8_leastAll_137 : decode cX8_leastAll 137 = .ok (.iload 9, 2) := by decide +kernel
theorem dX8_leastAll_139 : decode cX8_leastAll 139 = .ok (.iload 4, 2) := by decide +kernel
theorem dX8_leastAll_141 : decode cX8_leastAll 141 = .ok (.if_icmp .ge 8, 3) := by decide +kernel
theorem dX8_leastAll_144 : decode cX8_leastAll 144 = .ok (.iload 9, 2) := by decide +kernel
theorem dX8_leastAll_146 : decode cX8_leastAll 146 = .ok (.goto 5, 3) := by decide +kernel
theorem dX8_leastAll_149 : decode cX8_leastAll 149 = .ok (.iload 4, 2) := by decide +kernel
theorem dX8_leastAll_151 : decode cX8_leastAll 151 = .ok (.istore 4, 2) := by decide +kernel
theorem dX8_leastAll_153 : decode cX8_leastAll 153 = .ok (.iinc 8 1, 3) := by decide +kernel
theorem dX8_leastAll_156 : decode cX8_leastAll 156 = .ok (.goto (-81), 3) := by decide +kernel
theorem dX8_leastAll_159 : decode cX8_leastAll 159 = .ok (.iinc 7 1, 3) := by decide +kernel
theorem dX8_leastAll_162 : decode cX8_leastAll 162 = .ok (.goto (-108), 3) := by decide +kernel
theorem dX8_leastAll_165 : decode cX8_leastAll 165 = .ok (.iinc 6 1, 3) := by decide +kernel
theorem dX8_leastAll_168 : decode cX8_leastAll 168 = .ok (.goto (-135), 3) := by decide +kernel
theorem dX8_leastAll_171 : decode cX8_leastAll 171 = .ok (.iinc 5 1, 3) := by decide +kernel
theorem dX8_leastAll_174 : decode cX8_leastAll 174 = .ok (.goto (-161), 3) := by decide +kernel
theorem dX8_leastAll_177 : decode cX8_leastAll 177 = .ok (.iload 4, 2) := by decide +kernel
theorem dX8_leastAll_179 : decode cX8_leastAll 179 = .ok (.ireturn, 1) := by decide +kernel
set_option maxHeartbeats 4000000 in
set_option maxRecDepth 100000 in
theorem m_leastAll (l : Launch) (D : va_G) (k : Nat → ClassId) (st : Nat → Nat) (lo : Nat) (a : Nat → Nat) (tx : Nat) (t0 : Nat) (we : Nat) (rd : Nat) (ru : Nat) (rw : Nat) (ca : Nat) (fp : Int32) (wd : Int64) (nu : Int32) (na : Int32) (ts : Int32) (df : Int32) (db : Int32) (sd : Int32) (dn : Nat → Nat) (se : Nat → Nat) (tm : Nat → Nat) (gs : Nat → Int32) (fprices : Nat → Int32) (fwalks : Nat → Int32) (sn : Nat) (p1 : Int32) (hdn : ∀ j, dn j ≤ 24) (hca : ca ≤ 4) (hs : sn < 3) : CRi l D k st lo yX8_leastAll cX8_leastAll 10 (some .int) ({ frames := 5, cells := 0, slots := 0, locals := 120 }) [.ref (a 0), .int (nI sn), .int p1] [((a 0), .inr (8, (fX8 a (nI tx) fp (nI t0) wd (nI we) nu na (nI rd) ts (nI ru) (nI rw) (nI ca) df db sd))), (aI k (a 1) 3 (nF dn)), (aI k (a 4) 27 (sg se tm gs)), (aI k (a 3) 72 fprices), (aI k (a 36) 4 fwalks)] (fun r => True) := by
  intro sz
  refine Met.ofW (cc := cX8_leastAll) (maxL := 10) (ret := (some .int)) (by decide) rfl ?_
  intro p e s m args below meth c s₁ B hml hv
  obtain ⟨rfl, hsz, hlo, hP, hK, hDL, hZ⟩ := hv
  have hx := B.exec
  have hb := B.bytes
  have hr := B.returns
  have hts := WS_ts B.pre
  have hown : s.vm.findClass RX8 = some m.cls := findClass_of_methodNamed B.named
  have hlocks := B.notSynchronized
  subst hsz
  have hA : ∀ q : Nat, s.heap.size ≤ q → (fun q : Nat => s.heap.size ≤ q) q := fun _ h => h
  have hAlo : ∀ q : Nat, (fun q : Nat => s.heap.size ≤ q) q → lo ≤ q := fun q h => Nat.le_trans hlo h
  have hS : va_S (fun q : Nat => s.heap.size ≤ q) s.heap s.heap [] := va_S.rf
  have hl := lv_entry ([.ref (a 0), .int (nI sn), .int p1]) (n := 10) (Nat.le_of_ble_eq_true rfl)
  rw [lg_entry_eq]
  generalize (lg_sl ([.ref (a 0), .int (nI sn), .int p1]) ++ List.replicate (10 - (lg_sl ([.ref (a 0), .int (nI sn), .int p1])).length) Slot.unset).toArray = ls at hl ⊢
  have hl : lv_has ls 10 [(0, .ref (a 0)), (1, .int (nI sn)), (2, .int p1)] := hl
  have hd_9 := hdn sn
  refine lv_aload_n hx hb dX8_leastAll_0 rfl (lv_at hl 0 rfl) ?_
  refine va_get (D := D) (ci := 8) (v := .ref (a 1)) (C := RX8) (T := TX8) (N := 44) hx hb hts inX8 hown hK hP 0 rfl rfl 0 (by decide) (hts _ tw_973) (fun _ h9 => h9) rfl dX8_leastAll_1 ?_
  refine lv_iload_n hx hb dX8_leastAll_4 rfl (lv_at hl 1 rfl) ?_
  refine va_iald hx hb hK hP 1 1 rfl rfl (vp_in_nI (by omega) (by decide)) dX8_leastAll_5 ?_
  refine lv_ti (y := (nI (dn sn))) (by rw [nI_clamp (by omega)]; rfl) ?_
  refine lv_istore_n (lv' := [(3, .int (nI (dn sn))), (0, .ref (a 0)), (1, .int (nI sn)), (2, .int p1)]) hx hb dX8_leastAll_6 rfl hl (by decide) rfl (fun ls hl => ?_)
  refine lv_iconst (v := (-1)) hx hb dX8_leastAll_7 (by decide) ?_
  refine lv_istore (lv' := [(4, .int (-1)), (3, .int (nI (dn sn))), (0, .ref (a 0)), (1, .int (nI sn)), (2, .int p1)]) hx hb dX8_leastAll_8 hl (by decide) rfl (fun ls hl => ?_)
  refine lv_iconst (v := (-1)) hx hb dX8_leastAll_10 (by decide) ?_
  refine lv_istore (lv' := [(5, .int (-1)), (4, .int (-1)), (3, .int (nI (dn sn))), (0, .ref (a 0)), (1, .int (nI sn)), (2, .int p1)]) hx hb dX8_leastAll_11 hl (by decide) rfl (fun ls hl => ?_)
  refine W_loop (σ := Nat × Int32) (fun (n_ : Nat) (x_ : Nat × Int32) (H : Heap) (locs : List Loc) (ls : Array Slot) => match x_ with | (q5_1, be_1) => n_ = 26 - q5_1 ∧ (q5_1 ≤ 25) ∧ va_P D classes [((a 0), .inr (8, (fX8 a (nI tx) fp (nI t0) wd (nI we) nu na (nI rd) ts (nI ru) (nI rw) (nI ca) df db sd))), (aI k (a 1) 3 (nF dn)), (aI k (a 4) 27 (sg se tm gs)), (aI k (a 3) 72 fprices), (aI k (a 36) 4 fwalks)] H ∧ va_S (fun q : Nat => s.heap.size ≤ q) s.heap H locs ∧ lv_has ls 10 [(5, .int (nI q5_1 - 1)), (4, .int be_1), (3, .int (nI (dn sn))), (0, .ref (a 0)), (1, .int (nI sn)), (2, .int p1)]) (fun n_1 x_1 H locs ls hI ih_1 => ?_) _ (0, (-1)) ⟨rfl, (by omega), hP, hS, (by rw [dn0]; exact lv_sub hl [0, 1, 2, 3, 4, 5] rfl)⟩
  obtain ⟨q5_1, be_1⟩ := x_1
  obtain ⟨hm_1, hv_1, hP, hS, hl⟩ := hI
  subst hm_1
  refine lv_iload hx hb dX8_leastAll_13 (lv_at hl 0 rfl) ?_
  refine lv_aload_n hx hb dX8_leastAll_15 rfl (lv_at hl 3 rfl) ?_
  refine va_get (D := D) (ci := 8) (v := .int (nI ca)) (C := RX8) (T := TX8) (N := 44) hx hb hts inX8 hown hK hP 0 rfl rfl 34 (by decide) (hts _ tw_1007) (fun _ h9 => h9) rfl dX8_leastAll_16 ?_
  refine lv_if_le (tgt := 26) hx hb dX8_leastAll_19 (by decide) (fun c_2 => ?_) (fun c_2 => ?_)
  · have c_2 := (nI_leI (a := ca) (b := 0) (by omega) (by omega)).mp c_2
    refine lv_iconst (v := 0) hx hb dX8_leastAll_26 (by decide) ?_
    refine lv_icmp_ge (tgt := 177) hx hb dX8_leastAll_27 (by decide) (fun c_3 => ?_) (fun c_3 => ?_)
    · refine lv_iload hx hb dX8_leastAll_177 (lv_at hl 1 rfl) ?_
      exact W.iret (v := be_1) hx hb hr (fun t ht hW => ⟨⟨be_1, (), rfl, trivial, trivial⟩, hS.F ht⟩) hS.2.2 dX8_leastAll_179
    · have hqn_4 := dn_lt (n := 0) (by omega) (by omega) c_3
      refine lv_iconst (v := (-1)) hx hb dX8_leastAll_30 (by decide) ?_
      refine lv_istore (lv' := [(6, .int (-1)), (5, .int (nI q5_1 - 1)), (4, .int be_1), (3, .int (nI (dn sn))), (0, .ref (a 0)), (1, .int (nI sn)), (2, .int p1)]) hx hb dX8_leastAll_31 hl (by decide) rfl (fun ls hl => ?_)
      refine W_loop (σ := Nat × Int32) (fun (n_ : Nat) (x_ : Nat × Int32) (H : Heap) (locs : List Loc) (ls : Array Slot) => match x_ with | (q6_5, be_5) => n_ = 26 - q6_5 ∧ (q6_5 ≤ 25) ∧ va_P D classes [((a 0), .inr (8, (fX8 a (nI tx) fp (nI t0) wd (nI we) nu na (nI rd) ts (nI ru) (nI rw) (nI ca) df db sd))), (aI k (a 1) 3 (nF dn)), (aI k (a 4) 27 (sg se tm gs)), (aI k (a 3) 72 fprices), (aI k (a 36) 4 fwalks)] H ∧ va_S (fun q : Nat => s.heap.size ≤ q) s.heap H locs ∧ lv_has ls 10 [(6, .int (nI q6_5 - 1)), (5, .int (nI q5_1 - 1)), (4, .int be_5), (3, .int (nI (dn sn))), (0, .ref (a 0)), (1, .int (nI sn)), (2, .int p1)]) (fun n_5 x_5 H locs ls hI ih_5 => ?_) _ (0, be_1) ⟨rfl, (by omega), hP, hS, (by rw [dn0]; exact lv_sub hl [0, 1, 2, 3, 4, 5, 6] rfl)⟩
      obtain ⟨q6_5, be_5⟩ := x_5
      obtain ⟨hm_5, hv_5, hP, hS, hl⟩ := hI
      subst hm_5
      refine lv_iload hx hb dX8_leastAll_33 (lv_at hl 0 rfl) ?_
      refine lv_aload_n hx hb dX8_leastAll_35 rfl (lv_at hl 4 rfl) ?_
      refine va_get (D := D) (ci := 8) (v := .int (nI ca)) (C := RX8) (T := TX8) (N := 44) hx hb hts inX8 hown hK hP 0 rfl rfl 34 (by decide) (hts _ tw_1007) (fun _ h9 => h9) rfl dX8_leastAll_36 ?_
      refine lv_iconst (v := 1) hx hb dX8_leastAll_39 (by decide) ?_
      refine lv_icmp_le (tgt := 47) hx hb dX8_leastAll_40 (by decide) (fun _ => ?_) (fun h => absurd ((nI_leI (a := ca) (b := 1) (by omega) (by omega)).mpr (by omega)) h)
      refine lv_iconst (v := 0) hx hb dX8_leastAll_47 (by decide) ?_
      refine lv_icmp_ge (tgt := 171) hx hb dX8_leastAll_48 (by decide) (fun c_7 => ?_) (fun c_7 => ?_)
      · refine lv_iinc (v := (nI q5_1)) (lv' := [(5, .int (nI q5_1)), (6, .int (nI q6_5 - 1)), (4, .int be_5), (3, .int (nI (dn sn))), (0, .ref (a 0)), (1, .int (nI sn)), (2, .int p1)]) hx hb dX8_leastAll_171 hl (k := 1) rfl (dn_inc _) (by decide) rfl (fun ls hl => ?_)
        refine lv_goto (tgt := 13) hx hb dX8_leastAll_174 (by decide) ?_
        exact ih_1 _ (q5_1 + 1, be_5) _ _ _ (by omega) ⟨rfl, (by omega), hP, hS, (by rw [nI_pred]; exact lv_sub hl [0, 2, 3, 4, 5, 6] rfl)⟩
      · have hqn_8 := dn_lt (n := 0) (by omega) (by omega) c_7
        refine lv_iconst (v := (-1)) hx hb dX8_leastAll_51 (by decide) ?_
        refine lv_istore (lv' := [(7, .int (-1)), (6, .int (nI q6_5 - 1)), (5, .int (nI q5_1 - 1)), (4, .int be_5), (3, .int (nI (dn sn))), (0, .ref (a 0)), (1, .int (nI sn)), (2, .int p1)]) hx hb dX8_leastAll_52 hl (by decide) rfl (fun ls hl => ?_)
        refine W_loop (σ := Nat × Int32) (fun (n_ : Nat) (x_ : Nat × Int32) (H : Heap) (locs : List Loc) (ls : Array Slot) => match x_ with | (q7_9, be_9) => n_ = 26 - q7_9 ∧ (q7_9 ≤ 25) ∧ va_P D classes [((a 0), .inr (8, (fX8 a (nI tx) fp (nI t0) wd (nI we) nu na (nI rd) ts (nI ru) (nI rw) (nI ca) df db sd))), (aI k (a 1) 3 (nF dn)), (aI k (a 4) 27 (sg se tm gs)), (aI k (a 3) 72 fprices), (aI k (a 36) 4 fwalks)] H ∧ va_S (fun q : Nat => s.heap.size ≤ q) s.heap H locs ∧ lv_has ls 10 [(7, .int (nI q7_9 - 1)), (6, .int (nI q6_5 - 1)), (5, .int (nI q5_1 - 1)), (4, .int be_9), (3, .int (nI (dn sn))), (0, .ref (a 0)), (1, .int (nI sn)), (2, .int p1)]) (fun n_9 x_9 H locs ls hI ih_9 => ?_) _ (0, be_5) ⟨rfl, (by omega), hP, hS, (by rw [dn0]; exact lv_sub hl [0, 1, 2, 3, 4, 5, 6, 7] rfl)⟩
        obtain ⟨q7_9, be_9⟩ := x_9
        obtain ⟨hm_9, hv_9, hP, hS, hl⟩ := hI
        subst hm_9
        refine lv_iload hx hb dX8_leastAll_54 (lv_at hl 0 rfl) ?_
        refine lv_aload_n hx hb dX8_leastAll_56 rfl (lv_at hl 5 rfl) ?_
        refine va_get (D := D) (ci := 8) (v := .int (nI ca)) (C := RX8) (T := TX8) (N := 44) hx hb hts inX8 hown hK hP 0 rfl rfl 34 (by decide) (hts _ tw_1007) (fun _ h9 => h9) rfl dX8_leastAll_57 ?_
        refine lv_iconst (v := 2) hx hb dX8_leastAll_60 (by decide) ?_
        refine lv_icmp_le (tgt := 68) hx hb dX8_leastAll_61 (by decide) (fun _ => ?_) (fun h => absurd ((nI_leI (a := ca) (b := 2) (by omega) (by omega)).mpr (by omega)) h)
        refine lv_iconst (v := 0) hx hb dX8_leastAll_68 (by decide) ?_
        refine lv_icmp_ge (tgt := 165) hx hb dX8_leastAll_69 (by decide) (fun c_11 => ?_) (fun c_11 => ?_)
        · refine lv_iinc (v := (nI q6_5)) (lv' := [(6, .int (nI q6_5)), (7, .int (nI q7_9 - 1)), (5, .int (nI q5_1 - 1)), (4, .int be_9), (3, .int (nI (dn sn))), (0, .ref (a 0)), (1, .int (nI sn)), (2, .int p1)]) hx hb dX8_leastAll_165 hl (k := 1) rfl (dn_inc _) (by decide) rfl (fun ls hl => ?_)
          refine lv_goto (tgt := 33) hx hb dX8_leastAll_168 (by decide) ?_
          exact ih_5 _ (q6_5 + 1, be_9) _ _ _ (by omega) ⟨rfl, (by omega), hP, hS, (by rw [nI_pred]; exact lv_sub hl [0, 2, 3, 4, 5, 6, 7] rfl)⟩
        · have hqn_12 := dn_lt (n := 0) (by omega) (by omega) c_11
          refine lv_iconst (v := (-1)) hx hb dX8_leastAll_72 (by decide) ?_
          refine lv_istore (lv' := [(8, .int (-1)), (7, .int (nI q7_9 - 1)), (6, .int (nI q6_5 - 1)), (5, .int (nI q5_1 - 1)), (4, .int be_9), (3, .int (nI (dn sn))), (0, .ref (a 0)), (1, .int (nI sn)), (2, .int p1)]) hx hb dX8_leastAll_73 hl (by decide) rfl (fun ls hl => ?_)
          refine W_loop (σ := Nat × Int32) (fun (n_ : Nat) (x_ : Nat × Int32) (H : Heap) (locs : List Loc) (ls : Array Slot) => match x_ with | (q8_13, be_13) => n_ = 26 - q8_13 ∧ (q8_13 ≤ 25) ∧ va_P D classes [((a 0), .inr (8, (fX8 a (nI tx) fp (nI t0) wd (nI we) nu na (nI rd) ts (nI ru) (nI rw) (nI ca) df db sd))), (aI k (a 1) 3 (nF dn)), (aI k (a 4) 27 (sg se tm gs)), (aI k (a 3) 72 fprices), (aI k (a 36) 4 fwalks)] H ∧ va_S (fun q : Nat => s.heap.size ≤ q) s.heap H locs ∧ lv_has ls 10 [(8, .int (nI q8_13 - 1)), (7, .int (nI q7_9 - 1)), (6, .int (nI q6_5 - 1)), (5, .int (nI q5_1 - 1)), (4, .int be_13), (3, .int (nI (dn sn))), (0, .ref (a 0)), (1, .int (nI sn)), (2, .int p1)]) (fun n_13 x_13 H locs ls hI ih_13 => ?_) _ (0, be_9) ⟨rfl, (by omega), hP, hS, (by rw [dn0]; exact lv_sub hl [0, 1, 2, 3, 4, 5, 6, 7, 8] rfl)⟩
          obtain ⟨q8_13, be_13⟩ := x_13
          obtain ⟨hm_13, hv_13, hP, hS, hl⟩ := hI
          subst hm_13
          refine lv_iload hx hb dX8_leastAll_75 (lv_at hl 0 rfl) ?_
          refine lv_aload_n hx hb dX8_leastAll_77 rfl (lv_at hl 6 rfl) ?_
          refine va_get (D := D) (ci := 8) (v := .int (nI ca)) (C := RX8) (T := TX8) (N := 44) hx hb hts inX8 hown hK hP 0 rfl rfl 34 (by decide) (hts _ tw_1007) (fun _ h9 => h9) rfl dX8_leastAll_78 ?_
          refine lv_iconst (v := 3) hx hb dX8_leastAll_81 (by decide) ?_
          refine lv_icmp_le (tgt := 89) hx hb dX8_leastAll_82 (by decide) (fun _ => ?_) (fun h => absurd ((nI_leI (a := ca) (b := 3) (by omega) (by omega)).mpr (by omega)) h)
          refine lv_iconst (v := 0) hx hb dX8_leastAll_89 (by decide) ?_
          refine lv_icmp_ge (tgt := 159) hx hb dX8_leastAll_90 (by decide) (fun c_15 => ?_) (fun c_15 => ?_)
          · refine lv_iinc (v := (nI q7_9)) (lv' := [(7, .int (nI q7_9)), (8, .int (nI q8_13 - 1)), (6, .int (nI q6_5 - 1)), (5, .int (nI q5_1 - 1)), (4, .int be_13), (3, .int (nI (dn sn))), (0, .ref (a 0)), (1, .int (nI sn)), (2, .int p1)]) hx hb dX8_leastAll_159 hl (k := 1) rfl (dn_inc _) (by decide) rfl (fun ls hl => ?_)
            refine lv_goto (tgt := 54) hx hb dX8_leastAll_162 (by decide) ?_
            exact ih_9 _ (q7_9 + 1, be_13) _ _ _ (by omega) ⟨rfl, (by omega), hP, hS, (by rw [nI_pred]; exact lv_sub hl [0, 2, 3, 4, 5, 6, 7, 8] rfl)⟩
          · have hqn_16 := dn_lt (n := 0) (by omega) (by omega) c_15
            refine lv_iload_n hx hb dX8_leastAll_93 rfl (lv_at hl 8 rfl) ?_
            refine lv_iload hx hb dX8_leastAll_94 (lv_at hl 3 rfl) ?_
            refine lv_iload hx hb dX8_leastAll_96 (lv_at hl 2 rfl) ?_
            refine lv_iload hx hb dX8_leastAll_98 (lv_at hl 1 rfl) ?_
            refine lv_iload hx hb dX8_leastAll_100 (lv_at hl 0 rfl) ?_
            refine ro_i (D := D) (va_runS (As := [.int p1, .int (nI q5_1 - 1), .int (nI q6_5 - 1), .int (nI q7_9 - 1), .int (nI q8_13 - 1)]) (rest := []) ⟨hx, hb, hml, hown, hts⟩ ((m_canAll l D k st lo p1 (nI q5_1 - 1) (nI q6_5 - 1) (nI q7_9 - 1) (nI q8_13 - 1)) H.size) (va_cwS 5 hts (gS tw_1450 tw_1451 tw_87 tw_1452) rfl rfl rfl (by decide +kernel) ⟨Nat.le_of_ble_eq_true rfl, Nat.le_of_ble_eq_true rfl⟩) (pS hS hAlo hlo hP hK hDL hZ [] (by decide) rfl) rfl rfl hl.1 rfl (lv_room (Nat.le_of_ble_eq_true rfl)) dX8_leastAll_102 ⟨Nat.le_of_ble_eq_true rfl, Nat.le_of_ble_eq_true rfl⟩) hS hA hP (fun r_17 H locs hw_17 hP hS => ?_)
            try dsimp only at hw_17
            refine lv_if_eq (tgt := 124) hx hb dX8_leastAll_105 (by decide) (fun c_18 => ?_) (fun c_18 => ?_)
            · refine lv_iconst (v := (-1)) hx hb dX8_leastAll_124 (by decide) ?_
              refine lv_istore (lv' := [(9, .int (-1)), (8, .int (nI q8_13 - 1)), (7, .int (nI q7_9 - 1)), (6, .int (nI q6_5 - 1)), (5, .int (nI q5_1 - 1)), (4, .int be_13), (3, .int (nI (dn sn))), (0, .ref (a 0)), (1, .int (nI sn)), (2, .int p1)]) hx hb dX8_leastAll_125 hl (by decide) rfl (fun ls hl => ?_)
              refine lv_iload hx hb dX8_leastAll_127 (lv_at hl 0 rfl) ?_
              refine lv_if_lt (tgt := 149) hx hb dX8_leastAll_129 (by decide) (fun _ => ?_) (fun h => absurd (by decide) h)
              refine lv_iload hx hb dX8_leastAll_149 (lv_at hl 5 rfl) ?_
              refine lv_istore (lv' := [(4, .int be_13), (9, .int (-1)), (8, .int (nI q8_13 - 1)), (7, .int (nI q7_9 - 1)), (6, .int (nI q6_5 - 1)), (5, .int (nI q5_1 - 1)), (3, .int (nI (dn sn))), (0, .ref (a 0)), (1, .int (nI sn)), (2, .int p1)]) hx hb dX8_leastAll_151 hl (by decide) rfl (fun ls hl => ?_)
              refine lv_iinc (v := (nI q8_13)) (lv' := [(8, .int (nI q8_13)), (4, .int be_13), (9, .int (-1)), (7, .int (nI q7_9 - 1)), (6, .int (nI q6_5 - 1)), (5, .int (nI q5_1 - 1)), (3, .int (nI (dn sn))), (0, .ref (a 0)), (1, .int (nI sn)), (2, .int p1)]) hx hb dX8_leastAll_153 hl (k := 2) rfl (dn_inc _) (by decide) rfl (fun ls hl => ?_)
              refine lv_goto (tgt := 75) hx hb dX8_leastAll_156 (by decide) ?_
              exact ih_13 _ (q8_13 + 1, be_13) _ _ _ (by omega) ⟨rfl, (by omega), hP, hS, (by rw [nI_pred]; exact lv_sub hl [0, 3, 4, 5, 1, 6, 7, 8, 9] rfl)⟩
            · refine lv_aload_n hx hb dX8_leastAll_108 rfl (lv_at hl 6 rfl) ?_
              refine lv_iload_n hx hb dX8_leastAll_109 rfl (lv_at hl 7 rfl) ?_
              refine lv_iload hx hb dX8_leastAll_110 (lv_at hl 3 rfl) ?_
              refine lv_iload hx hb dX8_leastAll_112 (lv_at hl 2 rfl) ?_
              refine lv_iload hx hb dX8_leastAll_114 (lv_at hl 1 rfl) ?_
              refine lv_iload hx hb dX8_leastAll_116 (lv_at hl 0 rfl) ?_
              refine ro_i (D := D) (va_runV (As := [.int (nI sn), .int (nI q5_1 - 1), .int (nI q6_5 - 1), .int (nI q7_9 - 1), .int (nI q8_13 - 1)]) (rest := []) ⟨hx, hb, hml, hown, hts⟩ ((m_sumAll l D k st lo a tx t0 we rd ru rw ca fp wd nu na ts df db sd dn se tm gs fprices fwalks sn (nI q5_1 - 1) (nI q6_5 - 1) (nI q7_9 - 1) (nI q8_13 - 1) (by first | assumption | omega) (by first | assumption | omega) (dn_hq (by omega)) (dn_hq (by omega)) (dn_hq (by omega)) (dn_hq (by omega))) H.size) (cwV 5 hts (gV tw_1459 tw_1461 tw_75 tw_87 tw_1462) rfl rfl rfl (by decide +kernel) ⟨Nat.le_of_ble_eq_true rfl, Nat.le_of_ble_eq_true rfl⟩) (pV hS hAlo hlo hP hK hDL hZ [0, 1, 2, 3, 4] (by decide) rfl (ci := 8) (q := (RX8, TX8, 44)) (q0 := 0) rfl rfl) rfl rfl hl.1 rfl (lv_room (Nat.le_of_ble_eq_true rfl)) dX8_leastAll_118 ⟨Nat.le_of_ble_eq_true rfl, Nat.le_of_ble_eq_true rfl⟩) hS hA hP (fun r_19 H locs hw_19 hP hS => ?_)
              try dsimp only at hw_19
              refine lv_goto (tgt := 125) hx hb dX8_leastAll_121 (by decide) ?_
              refine lv_istore (lv' := [(9, .int r_19), (8, .int (nI q8_13 - 1)), (7, .int (nI q7_9 - 1)), (6, .int (nI q6_5 - 1)), (5, .int (nI q5_1 - 1)), (4, .int be_13), (3, .int (nI (dn sn))), (0, .ref (a 0)), (1, .int (nI sn)), (2, .int p1)]) hx hb dX8_leastAll_125 hl (by decide) rfl (fun ls hl => ?_)
              refine lv_iload hx hb dX8_leastAll_127 (lv_at hl 0 rfl) ?_
              refine lv_if_lt (tgt := 149) hx hb dX8_leastAll_129 (by decide) (fun c_20 => ?_) (fun c_20 => ?_)
              · refine lv_iload hx hb dX8_leastAll_149 (lv_at hl 5 rfl) ?_
                refine lv_istore (lv' := [(4, .int be_13), (9, .int r_19), (8, .int (nI q8_13 - 1)), (7, .int (nI q7_9 - 1)), (6, .int (nI q6_5 - 1)), (5, .int (nI q5_1 - 1)), (3, .int (nI (dn sn))), (0, .ref (a 0)), (1, .int (nI sn)), (2, .int p1)]) hx hb dX8_leastAll_151 hl (by decide) rfl (fun ls hl => ?_)
                refine lv_iinc (v := (nI q8_13)) (lv' := [(8, .int (nI q8_13)), (4, .int be_13), (9, .int r_19), (7, .int (nI q7_9 - 1)), (6, .int (nI q6_5 - 1)), (5, .int (nI q5_1 - 1)), (3, .int (nI (dn sn))), (0, .ref (a 0)), (1, .int (nI sn)), (2, .int p1)]) hx hb dX8_leastAll_153 hl (k := 2) rfl (dn_inc _) (by decide) rfl (fun ls hl => ?_)
                refine lv_goto (tgt := 75) hx hb dX8_leastAll_156 (by decide) ?_
                exact ih_13 _ (q8_13 + 1, be_13) _ _ _ (by omega) ⟨rfl, (by omega), hP, hS, (by rw [nI_pred]; exact lv_sub hl [0, 3, 4, 5, 1, 6, 7, 8, 9] rfl)⟩
              · refine lv_iload hx hb dX8_leastAll_132 (lv_at hl 5 rfl) ?_
                refine lv_if_lt (tgt := 144) hx hb dX8_leastAll_134 (by decide) (fun c_21 => ?_) (fun c_21 => ?_)
                · refine lv_iload hx hb dX8_leastAll_144 (lv_at hl 0 rfl) ?_
                  refine lv_goto (tgt := 151) hx hb dX8_leastAll_146 (by decide) ?_
                  refine lv_istore (lv' := [(4, .int r_19), (9, .int r_19), (8, .int (nI q8_13 - 1)), (7, .int (nI q7_9 - 1)), (6, .int (nI q6_5 - 1)), (5, .int (nI q5_1 - 1)), (3, .int (nI (dn sn))), (0, .ref (a 0)), (1, .int (nI sn)), (2, .int p1)]) hx hb dX8_leastAll_151 hl (by decide) rfl (fun ls hl => ?_)
                  refine lv_iinc (v := (nI q8_13)) (lv' := [(8, .int (nI q8_13)), (4, .int r_19), (9, .int r_19), (7, .int (nI q7_9 - 1)), (6, .int (nI q6_5 - 1)), (5, .int (nI q5_1 - 1)), (3, .int (nI (dn sn))), (0, .ref (a 0)), (1, .int (nI sn)), (2, .int p1)]) hx hb dX8_leastAll_153 hl (k := 2) rfl (dn_inc _) (by decide) rfl (fun ls hl => ?_)
                  refine lv_goto (tgt := 75) hx hb dX8_leastAll_156 (by decide) ?_
                  exact ih_13 _ (q8_13 + 1, r_19) _ _ _ (by omega) ⟨rfl, (by omega), hP, hS, (by rw [nI_pred]; exact lv_sub hl [0, 3, 4, 5, 1, 6, 7, 8, 9] rfl)⟩
                · refine lv_iload hx hb dX8_leastAll_137 (lv_at hl 0 rfl) ?_
                  refine lv_iload hx hb dX8_leastAll_139 (lv_at hl 5 rfl) ?_
                  refine lv_icmp_ge (tgt := 149) hx hb dX8_leastAll_141 (by decide) (fun c_22 => ?_) (fun c_22 => ?_)
                  · refine lv_iload hx hb dX8_leastAll_149 (lv_at hl 5 rfl) ?_
                    refine lv_istore (lv' := [(4, .int be_13), (9, .int r_19), (8, .int (nI q8_13 - 1)), (7, .int (nI q7_9 - 1)), (6, .int (nI q6_5 - 1)), (5, .int (nI q5_1 - 1)), (3, .int (nI (dn sn))), (0, .ref (a 0)), (1, .int (nI sn)), (2, .int p1)]) hx hb dX8_leastAll_151 hl (by decide) rfl (fun ls hl => ?_)
                    refine lv_iinc (v := (nI q8_13)) (lv' := [(8, .int (nI q8_13)), (4, .int be_13), (9, .int r_19), (7, .int (nI q7_9 - 1)), (6, .int (nI q6_5 - 1)), (5, .int (nI q5_1 - 1)), (3, .int (nI (dn sn))), (0, .ref (a 0)), (1, .int (nI sn)), (2, .int p1)]) hx hb dX8_leastAll_153 hl (k := 2) rfl (dn_inc _) (by decide) rfl (fun ls hl => ?_)
                    refine lv_goto (tgt := 75) hx hb dX8_leastAll_156 (by decide) ?_
                    exact ih_13 _ (q8_13 + 1, be_13) _ _ _ (by omega) ⟨rfl, (by omega), hP, hS, (by rw [nI_pred]; exact lv_sub hl [0, 3, 4, 5, 1, 6, 7, 8, 9] rfl)⟩
                  · refine lv_iload hx hb dX8_leastAll_144 (lv_at hl 0 rfl) ?_
                    refine lv_goto (tgt := 151) hx hb dX8_leastAll_146 (by decide) ?_
                    refine lv_istore (lv' := [(4, .int r_19), (9, .int r_19), (8, .int (nI q8_13 - 1)), (7, .int (nI q7_9 - 1)), (6, .int (nI q6_5 - 1)), (5, .int (nI q5_1 - 1)), (3, .int (nI (dn sn))), (0, .ref (a 0)), (1, .int (nI sn)), (2, .int p1)]) hx hb dX8_leastAll_151 hl (by decide) rfl (fun ls hl => ?_)
                    refine lv_iinc (v := (nI q8_13)) (lv' := [(8, .int (nI q8_13)), (4, .int r_19), (9, .int r_19), (7, .int (nI q7_9 - 1)), (6, .int (nI q6_5 - 1)), (5, .int (nI q5_1 - 1)), (3, .int (nI (dn sn))), (0, .ref (a 0)), (1, .int (nI sn)), (2, .int p1)]) hx hb dX8_leastAll_153 hl (k := 2) rfl (dn_inc _) (by decide) rfl (fun ls hl => ?_)
                    refine lv_goto (tgt := 75) hx hb dX8_leastAll_156 (by decide) ?_
                    exact ih_13 _ (q8_13 + 1, r_19) _ _ _ (by omega) ⟨rfl, (by omega), hP, hS, (by rw [nI_pred]; exact lv_sub hl [0, 3, 4, 5, 1, 6, 7, 8, 9] rfl)⟩
  · have c_2 : ¬ (ca ≤ 0) := fun h => c_2 ((nI_leI (a := ca) (b := 0) (by omega) (by omega)).mpr h)
    refine lv_iload_n hx hb dX8_leastAll_22 rfl (lv_at hl 2 rfl) ?_
    refine lv_goto (tgt := 27) hx hb dX8_leastAll_23 (by decide) ?_
    refine lv_icmp_ge (tgt := 177) hx hb dX8_leastAll_27 (by decide) (fun c_23 => ?_) (fun c_23 => ?_)
    · refine lv_iload hx hb dX8_leastAll_177 (lv_at hl 1 rfl) ?_
      exact W.iret (v := be_1) hx hb hr (fun t ht hW => ⟨⟨be_1, (), rfl, trivial, trivial⟩, hS.F ht⟩) hS.2.2 dX8_leastAll_179
    · have hqn_24 := dn_lt (n := (dn sn)) (by omega) (by omega) c_23
      refine lv_iconst (v := (-1)) hx hb dX8_leastAll_30 (by decide) ?_
      refine lv_istore (lv' := [(6, .int (-1)), (5, .int (nI q5_1 - 1)), (4, .int be_1), (3, .int (nI (dn sn))), (0, .ref (a 0)), (1, .int (nI sn)), (2, .int p1)]) hx hb dX8_leastAll_31 hl (by decide) rfl (fun ls hl => ?_)
      refine W_loop (σ := Nat × Int32) (fun (n_ : Nat) (x_ : Nat × Int32) (H : Heap) (locs : List Loc) (ls : Array Slot) => match x_ with | (q6_25, be_25) => n_ = 26 - q6_25 ∧ (q6_25 ≤ 25) ∧ va_P D classes [((a 0), .inr (8, (fX8 a (nI tx) fp (nI t0) wd (nI we) nu na (nI rd) ts (nI ru) (nI rw) (nI ca) df db sd))), (aI k (a 1) 3 (nF dn)), (aI k (a 4) 27 (sg se tm gs)), (aI k (a 3) 72 fprices), (aI k (a 36) 4 fwalks)] H ∧ va_S (fun q : Nat => s.heap.size ≤ q) s.heap H locs ∧ lv_has ls 10 [(6, .int (nI q6_25 - 1)), (5, .int (nI q5_1 - 1)), (4, .int be_25), (3, .int (nI (dn sn))), (0, .ref (a 0)), (1, .int (nI sn)), (2, .int p1)]) (fun n_25 x_25 H locs ls hI ih_25 => ?_) _ (0, be_1) ⟨rfl, (by omega), hP, hS, (by rw [dn0]; exact lv_sub hl [0, 1, 2, 3, 4, 5, 6] rfl)⟩
      obtain ⟨q6_25, be_25⟩ := x_25
      obtain ⟨hm_25, hv_25, hP, hS, hl⟩ := hI
      subst hm_25
      refine lv_iload hx hb dX8_leastAll_33 (lv_at hl 0 rfl) ?_
      refine lv_aload_n hx hb dX8_leastAll_35 rfl (lv_at hl 4 rfl) ?_
      refine va_get (D := D) (ci := 8) (v := .int (nI ca)) (C := RX8) (T := TX8) (N := 44) hx hb hts inX8 hown hK hP 0 rfl rfl 34 (by decide) (hts _ tw_1007) (fun _ h9 => h9) rfl dX8_leastAll_36 ?_
      refine lv_iconst (v := 1) hx hb dX8_leastAll_39 (by decide) ?_
      refine lv_icmp_le (tgt := 47) hx hb dX8_leastAll_40 (by decide) (fun c_26 => ?_) (fun c_26 => ?_)
      · have c_26 := (nI_leI (a := ca) (b := 1) (by omega) (by omega)).mp c_26
        refine lv_iconst (v := 0) hx hb dX8_leastAll_47 (by decide) ?_
        refine lv_icmp_ge (tgt := 171) hx hb dX8_leastAll_48 (by decide) (fun c_27 => ?_) (fun c_27 => ?_)
        · refine lv_iinc (v := (nI q5_1)) (lv' := [(5, .int (nI q5_1)), (6, .int (nI q6_25 - 1)), (4, .int be_25), (3, .int (nI (dn sn))), (0, .ref (a 0)), (1, .int (nI sn)), (2, .int p1)]) hx hb dX8_leastAll_171 hl (k := 1) rfl (dn_inc _) (by decide) rfl (fun ls hl => ?_)
          refine lv_goto (tgt := 13) hx hb dX8_leastAll_174 (by decide) ?_
          exact ih_1 _ (q5_1 + 1, be_25) _ _ _ (by omega) ⟨rfl, (by omega), hP, hS, (by rw [nI_pred]; exact lv_sub hl [0, 2, 3, 4, 5, 6] rfl)⟩
        · have hqn_28 := dn_lt (n := 0) (by omega) (by omega) c_27
          refine lv_iconst (v := (-1)) hx hb dX8_leastAll_51 (by decide) ?_
          refine lv_istore (lv' := [(7, .int (-1)), (6, .int (nI q6_25 - 1)), (5, .int (nI q5_1 - 1)), (4, .int be_25), (3, .int (nI (dn sn))), (0, .ref (a 0)), (1, .int (nI sn)), (2, .int p1)]) hx hb dX8_leastAll_52 hl (by decide) rfl (fun ls hl => ?_)
          refine W_loop (σ := Nat × Int32) (fun (n_ : Nat) (x_ : Nat × Int32) (H : Heap) (locs : List Loc) (ls : Array Slot) => match x_ with | (q7_29, be_29) => n_ = 26 - q7_29 ∧ (q7_29 ≤ 25) ∧ va_P D classes [((a 0), .inr (8, (fX8 a (nI tx) fp (nI t0) wd (nI we) nu na (nI rd) ts (nI ru) (nI rw) (nI ca) df db sd))), (aI k (a 1) 3 (nF dn)), (aI k (a 4) 27 (sg se tm gs)), (aI k (a 3) 72 fprices), (aI k (a 36) 4 fwalks)] H ∧ va_S (fun q : Nat => s.heap.size ≤ q) s.heap H locs ∧ lv_has ls 10 [(7, .int (nI q7_29 - 1)), (6, .int (nI q6_25 - 1)), (5, .int (nI q5_1 - 1)), (4, .int be_29), (3, .int (nI (dn sn))), (0, .ref (a 0)), (1, .int (nI sn)), (2, .int p1)]) (fun n_29 x_29 H locs ls hI ih_29 => ?_) _ (0, be_25) ⟨rfl, (by omega), hP, hS, (by rw [dn0]; exact lv_sub hl [0, 1, 2, 3, 4, 5, 6, 7] rfl)⟩
          obtain ⟨q7_29, be_29⟩ := x_29
          obtain ⟨hm_29, hv_29, hP, hS, hl⟩ := hI
          subst hm_29
          refine lv_iload hx hb dX8_leastAll_54 (lv_at hl 0 rfl) ?_
          refine lv_aload_n hx hb dX8_leastAll_56 rfl (lv_at hl 5 rfl) ?_
          refine va_get (D := D) (ci := 8) (v := .int (nI ca)) (C := RX8) (T := TX8) (N := 44) hx hb hts inX8 hown hK hP 0 rfl rfl 34 (by decide) (hts _ tw_1007) (fun _ h9 => h9) rfl dX8_leastAll_57 ?_
          refine lv_iconst (v := 2) hx hb dX8_leastAll_60 (by decide) ?_
          refine lv_icmp_le (tgt := 68) hx hb dX8_leastAll_61 (by decide) (fun _ => ?_) (fun h => absurd ((nI_leI (a := ca) (b := 2) (by omega) (by omega)).mpr (by omega)) h)
          refine lv_iconst (v := 0) hx hb dX8_leastAll_68 (by decide) ?_
          refine lv_icmp_ge (tgt := 165) hx hb dX8_leastAll_69 (by decide) (fun c_31 => ?_) (fun c_31 => ?_)
          · refine lv_iinc (v := (nI q6_25)) (lv' := [(6, .int (nI q6_25)), (7, .int (nI q7_29 - 1)), (5, .int (nI q5_1 - 1)), (4, .int be_29), (3, .int (nI (dn sn))), (0, .ref (a 0)), (1, .int (nI sn)), (2, .int p1)]) hx hb dX8_leastAll_165 hl (k := 1) rfl (dn_inc _) (by decide) rfl (fun ls hl => ?_)
            refine lv_goto (tgt := 33) hx hb dX8_leastAll_168 (by decide) ?_
            exact ih_25 _ (q6_25 + 1, be_29) _ _ _ (by omega) ⟨rfl, (by omega), hP, hS, (by rw [nI_pred]; exact lv_sub hl [0, 2, 3, 4, 5, 6, 7] rfl)⟩
          · have hqn_32 := dn_lt (n := 0) (by omega) (by omega) c_31
            refine lv_iconst (v := (-1)) hx hb dX8_leastAll_72 (by decide) ?_
            refine lv_istore (lv' := [(8, .int (-1)), (7, .int (nI q7_29 - 1)), (6, .int (nI q6_25 - 1)), (5, .int (nI q5_1 - 1)), (4, .int be_29), (3, .int (nI (dn sn))), (0, .ref (a 0)), (1, .int (nI sn)), (2, .int p1)]) hx hb dX8_leastAll_73 hl (by decide) rfl (fun ls hl => ?_)
            refine W_loop (σ := Nat × Int32) (fun (n_ : Nat) (x_ : Nat × Int32) (H : Heap) (locs : List Loc) (ls : Array Slot) => match x_ with | (q8_33, be_33) => n_ = 26 - q8_33 ∧ (q8_33 ≤ 25) ∧ va_P D classes [((a 0), .inr (8, (fX8 a (nI tx) fp (nI t0) wd (nI we) nu na (nI rd) ts (nI ru) (nI rw) (nI ca) df db sd))), (aI k (a 1) 3 (nF dn)), (aI k (a 4) 27 (sg se tm gs)), (aI k (a 3) 72 fprices), (aI k (a 36) 4 fwalks)] H ∧ va_S (fun q : Nat => s.heap.size ≤ q) s.heap H locs ∧ lv_has ls 10 [(8, .int (nI q8_33 - 1)), (7, .int (nI q7_29 - 1)), (6, .int (nI q6_25 - 1)), (5, .int (nI q5_1 - 1)), (4, .int be_33), (3, .int (nI (dn sn))), (0, .ref (a 0)), (1, .int (nI sn)), (2, .int p1)]) (fun n_33 x_33 H locs ls hI ih_33 => ?_) _ (0, be_29) ⟨rfl, (by omega), hP, hS, (by rw [dn0]; exact lv_sub hl [0, 1, 2, 3, 4, 5, 6, 7, 8] rfl)⟩
            obtain ⟨q8_33, be_33⟩ := x_33
            obtain ⟨hm_33, hv_33, hP, hS, hl⟩ := hI
            subst hm_33
            refine lv_iload hx hb dX8_leastAll_75 (lv_at hl 0 rfl) ?_
            refine lv_aload_n hx hb dX8_leastAll_77 rfl (lv_at hl 6 rfl) ?_
            refine va_get (D := D) (ci := 8) (v := .int (nI ca)) (C := RX8) (T := TX8) (N := 44) hx hb hts inX8 hown hK hP 0 rfl rfl 34 (by decide) (hts _ tw_1007) (fun _ h9 => h9) rfl dX8_leastAll_78 ?_
            refine lv_iconst (v := 3) hx hb dX8_leastAll_81 (by decide) ?_
            refine lv_icmp_le (tgt := 89) hx hb dX8_leastAll_82 (by decide) (fun _ => ?_) (fun h => absurd ((nI_leI (a := ca) (b := 3) (by omega) (by omega)).mpr (by omega)) h)
            refine lv_iconst (v := 0) hx hb dX8_leastAll_89 (by decide) ?_
            refine lv_icmp_ge (tgt := 159) hx hb dX8_leastAll_90 (by decide) (fun c_35 => ?_) (fun c_35 => ?_)
            · refine lv_iinc (v := (nI q7_29)) (lv' := [(7, .int (nI q7_29)), (8, .int (nI q8_33 - 1)), (6, .int (nI q6_25 - 1)), (5, .int (nI q5_1 - 1)), (4, .int be_33), (3, .int (nI (dn sn))), (0, .ref (a 0)), (1, .int (nI sn)), (2, .int p1)]) hx hb dX8_leastAll_159 hl (k := 1) rfl (dn_inc _) (by decide) rfl (fun ls hl => ?_)
              refine lv_goto (tgt := 54) hx hb dX8_leastAll_162 (by decide) ?_
              exact ih_29 _ (q7_29 + 1, be_33) _ _ _ (by omega) ⟨rfl, (by omega), hP, hS, (by rw [nI_pred]; exact lv_sub hl [0, 2, 3, 4, 5, 6, 7, 8] rfl)⟩
            · have hqn_36 := dn_lt (n := 0) (by omega) (by omega) c_35
              refine lv_iload_n hx hb dX8_leastAll_93 rfl (lv_at hl 8 rfl) ?_
              refine lv_iload hx hb dX8_leastAll_94 (lv_at hl 3 rfl) ?_
              refine lv_iload hx hb dX8_leastAll_96 (lv_at hl 2 rfl) ?_
              refine lv_iload hx hb dX8_leastAll_98 (lv_at hl 1 rfl) ?_
              refine lv_iload hx hb dX8_leastAll_100 (lv_at hl 0 rfl) ?_
              refine ro_i (D := D) (va_runS (As := [.int p1, .int (nI q5_1 - 1), .int (nI q6_25 - 1), .int (nI q7_29 - 1), .int (nI q8_33 - 1)]) (rest := []) ⟨hx, hb, hml, hown, hts⟩ ((m_canAll l D k st lo p1 (nI q5_1 - 1) (nI q6_25 - 1) (nI q7_29 - 1) (nI q8_33 - 1)) H.size) (va_cwS 5 hts (gS tw_1450 tw_1451 tw_87 tw_1452) rfl rfl rfl (by decide +kernel) ⟨Nat.le_of_ble_eq_true rfl, Nat.le_of_ble_eq_true rfl⟩) (pS hS hAlo hlo hP hK hDL hZ [] (by decide) rfl) rfl rfl hl.1 rfl (lv_room (Nat.le_of_ble_eq_true rfl)) dX8_leastAll_102 ⟨Nat.le_of_ble_eq_true rfl, Nat.le_of_ble_eq_true rfl⟩) hS hA hP (fun r_37 H locs hw_37 hP hS => ?_)
              try dsimp only at hw_37
              refine lv_if_eq (tgt := 124) hx hb dX8_leastAll_105 (by decide) (fun c_38 => ?_) (fun c_38 => ?_)
              · refine lv_iconst (v := (-1)) hx hb dX8_leastAll_124 (by decide) ?_
                refine lv_istore (lv' := [(9, .int (-1)), (8, .int (nI q8_33 - 1)), (7, .int (nI q7_29 - 1)), (6, .int (nI q6_25 - 1)), (5, .int (nI q5_1 - 1)), (4, .int be_33), (3, .int (nI (dn sn))), (0, .ref (a 0)), (1, .int (nI sn)), (2, .int p1)]) hx hb dX8_leastAll_125 hl (by decide) rfl (fun ls hl => ?_)
                refine lv_iload hx hb dX8_leastAll_127 (lv_at hl 0 rfl) ?_
                refine lv_if_lt (tgt := 149) hx hb dX8_leastAll_129 (by decide) (fun _ => ?_) (fun h => absurd (by decide) h)
                refine lv_iload hx hb dX8_leastAll_149 (lv_at hl 5 rfl) ?_
                refine lv_istore (lv' := [(4, .int be_33), (9, .int (-1)), (8, .int (nI q8_33 - 1)), (7, .int (nI q7_29 - 1)), (6, .int (nI q6_25 - 1)), (5, .int (nI q5_1 - 1)), (3, .int (nI (dn sn))), (0, .ref (a 0)), (1, .int (nI sn)), (2, .int p1)]) hx hb dX8_leastAll_151 hl (by decide) rfl (fun ls hl => ?_)
                refine lv_iinc (v := (nI q8_33)) (lv' := [(8, .int (nI q8_33)), (4, .int be_33), (9, .int (-1)), (7, .int (nI q7_29 - 1)), (6, .int (nI q6_25 - 1)), (5, .int (nI q5_1 - 1)), (3, .int (nI (dn sn))), (0, .ref (a 0)), (1, .int (nI sn)), (2, .int p1)]) hx hb dX8_leastAll_153 hl (k := 2) rfl (dn_inc _) (by decide) rfl (fun ls hl => ?_)
                refine lv_goto (tgt := 75) hx hb dX8_leastAll_156 (by decide) ?_
                exact ih_33 _ (q8_33 + 1, be_33) _ _ _ (by omega) ⟨rfl, (by omega), hP, hS, (by rw [nI_pred]; exact lv_sub hl [0, 3, 4, 5, 1, 6, 7, 8, 9] rfl)⟩
              · refine lv_aload_n hx hb dX8_leastAll_108 rfl (lv_at hl 6 rfl) ?_
                refine lv_iload_n hx hb dX8_leastAll_109 rfl (lv_at hl 7 rfl) ?_
                refine lv_iload hx hb dX8_leastAll_110 (lv_at hl 3 rfl) ?_
                refine lv_iload hx hb dX8_leastAll_112 (lv_at hl 2 rfl) ?_
                refine lv_iload hx hb dX8_leastAll_114 (lv_at hl 1 rfl) ?_
                refine lv_iload hx hb dX8_leastAll_116 (lv_at hl 0 rfl) ?_
                refine ro_i (D := D) (va_runV (As := [.int (nI sn), .int (nI q5_1 - 1), .int (nI q6_25 - 1), .int (nI q7_29 - 1), .int (nI q8_33 - 1)]) (rest := []) ⟨hx, hb, hml, hown, hts⟩ ((m_sumAll l D k st lo a tx t0 we rd ru rw ca fp wd nu na ts df db sd dn se tm gs fprices fwalks sn (nI q5_1 - 1) (nI q6_25 - 1) (nI q7_29 - 1) (nI q8_33 - 1) (by first | assumption | omega) (by first | assumption | omega) (dn_hq (by omega)) (dn_hq (by omega)) (dn_hq (by omega)) (dn_hq (by omega))) H.size) (cwV 5 hts (gV tw_1459 tw_1461 tw_75 tw_87 tw_1462) rfl rfl rfl (by decide +kernel) ⟨Nat.le_of_ble_eq_true rfl, Nat.le_of_ble_eq_true rfl⟩) (pV hS hAlo hlo hP hK hDL hZ [0, 1, 2, 3, 4] (by decide) rfl (ci := 8) (q := (RX8, TX8, 44)) (q0 := 0) rfl rfl) rfl rfl hl.1 rfl (lv_room (Nat.le_of_ble_eq_true rfl)) dX8_leastAll_118 ⟨Nat.le_of_ble_eq_true rfl, Nat.le_of_ble_eq_true rfl⟩) hS hA hP (fun r_39 H locs hw_39 hP hS => ?_)
                try dsimp only at hw_39
                refine lv_goto (tgt := 125) hx hb dX8_leastAll_121 (by decide) ?_
                refine lv_istore (lv' := [(9, .int r_39), (8, .int (nI q8_33 - 1)), (7, .int (nI q7_29 - 1)), (6, .int (nI q6_25 - 1)), (5, .int (nI q5_1 - 1)), (4, .int be_33), (3, .int (nI (dn sn))), (0, .ref (a 0)), (1, .int (nI sn)), (2, .int p1)]) hx hb dX8_leastAll_125 hl (by decide) rfl (fun ls hl => ?_)
                refine lv_iload hx hb dX8_leastAll_127 (lv_at hl 0 rfl) ?_
                refine lv_if_lt (tgt := 149) hx hb dX8_leastAll_129 (by decide) (fun c_40 => ?_) (fun c_40 => ?_)
                · refine lv_iload hx hb dX8_leastAll_149 (lv_at hl 5 rfl) ?_
                  refine lv_istore (lv' := [(4, .int be_33), (9, .int r_39), (8, .int (nI q8_33 - 1)), (7, .int (nI q7_29 - 1)), (6, .int (nI q6_25 - 1)), (5, .int (nI q5_1 - 1)), (3, .int (nI (dn sn))), (0, .ref (a 0)), (1, .int (nI sn)), (2, .int p1)]) hx hb dX8_leastAll_151 hl (by decide) rfl (fun ls hl => ?_)
                  refine lv_iinc (v := (nI q8_33)) (lv' := [(8, .int (nI q8_33)), (4, .int be_33), (9, .int r_39), (7, .int (nI q7_29 - 1)), (6, .int (nI q6_25 - 1)), (5, .int (nI q5_1 - 1)), (3, .int (nI (dn sn))), (0, .ref (a 0)), (1, .int (nI sn)), (2, .int p1)]) hx hb dX8_leastAll_153 hl (k := 2) rfl (dn_inc _) (by decide) rfl (fun ls hl => ?_)
                  refine lv_goto (tgt := 75) hx hb dX8_leastAll_156 (by decide) ?_
                  exact ih_33 _ (q8_33 + 1, be_33) _ _ _ (by omega) ⟨rfl, (by omega), hP, hS, (by rw [nI_pred]; exact lv_sub hl [0, 3, 4, 5, 1, 6, 7, 8, 9] rfl)⟩
                · refine lv_iload hx hb dX8_leastAll_132 (lv_at hl 5 rfl) ?_
                  refine lv_if_lt (tgt := 144) hx hb dX8_leastAll_134 (by decide) (fun c_41 => ?_) (fun c_41 => ?_)
                  · refine lv_iload hx hb dX8_leastAll_144 (lv_at hl 0 rfl) ?_
                    refine lv_goto (tgt := 151) hx hb dX8_leastAll_146 (by decide) ?_
                    refine lv_istore (lv' := [(4, .int r_39), (9, .int r_39), (8, .int (nI q8_33 - 1)), (7, .int (nI q7_29 - 1)), (6, .int (nI q6_25 - 1)), (5, .int (nI q5_1 - 1)), (3, .int (nI (dn sn))), (0, .ref (a 0)), (1, .int (nI sn)), (2, .int p1)]) hx hb dX8_leastAll_151 hl (by decide) rfl (fun ls hl => ?_)
                    refine lv_iinc (v := (nI q8_33)) (lv' := [(8, .int (nI q8_33)), (4, .int r_39), (9, .int r_39), (7, .int (nI q7_29 - 1)), (6, .int (nI q6_25 - 1)), (5, .int (nI q5_1 - 1)), (3, .int (nI (dn sn))), (0, .ref (a 0)), (1, .int (nI sn)), (2, .int p1)]) hx hb dX8_leastAll_153 hl (k := 2) rfl (dn_inc _) (by decide) rfl (fun ls hl => ?_)
                    refine lv_goto (tgt := 75) hx hb dX8_leastAll_156 (by decide) ?_
                    exact ih_33 _ (q8_33 + 1, r_39) _ _ _ (by omega) ⟨rfl, (by omega), hP, hS, (by rw [nI_pred]; exact lv_sub hl [0, 3, 4, 5, 1, 6, 7, 8, 9] rfl)⟩
                  · refine lv_iload hx hb dX8_leastAll_137 (lv_at hl 0 rfl) ?_
                    refine lv_iload hx hb dX8_leastAll_139 (lv_at hl 5 rfl) ?_
                    refine lv_icmp_ge (tgt := 149) hx hb dX8_leastAll_141 (by decide) (fun c_42 => ?_) (fun c_42 => ?_)
                    · refine lv_iload hx hb dX8_leastAll_149 (lv_at hl 5 rfl) ?_
                      refine lv_istore (lv' := [(4, .int be_33), (9, .int r_39), (8, .int (nI q8_33 - 1)), (7, .int (nI q7_29 - 1)), (6, .int (nI q6_25 - 1)), (5, .int (nI q5_1 - 1)), (3, .int (nI (dn sn))), (0, .ref (a 0)), (1, .int (nI sn)), (2, .int p1)]) hx hb dX8_leastAll_151 hl (by decide) rfl (fun ls hl => ?_)
                      refine lv_iinc (v := (nI q8_33)) (lv' := [(8, .int (nI q8_33)), (4, .int be_33), (9, .int r_39), (7, .int (nI q7_29 - 1)), (6, .int (nI q6_25 - 1)), (5, .int (nI q5_1 - 1)), (3, .int (nI (dn sn))), (0, .ref (a 0)), (1, .int (nI sn)), (2, .int p1)]) hx hb dX8_leastAll_153 hl (k := 2) rfl (dn_inc _) (by decide) rfl (fun ls hl => ?_)
                      refine lv_goto (tgt := 75) hx hb dX8_leastAll_156 (by decide) ?_
                      exact ih_33 _ (q8_33 + 1, be_33) _ _ _ (by omega) ⟨rfl, (by omega), hP, hS, (by rw [nI_pred]; exact lv_sub hl [0, 3, 4, 5, 1, 6, 7, 8, 9] rfl)⟩
                    · refine lv_iload hx hb dX8_leastAll_144 (lv_at hl 0 rfl) ?_
                      refine lv_goto (tgt := 151) hx hb dX8_leastAll_146 (by decide) ?_
                      refine lv_istore (lv' := [(4, .int r_39), (9, .int r_39), (8, .int (nI q8_33 - 1)), (7, .int (nI q7_29 - 1)), (6, .int (nI q6_25 - 1)), (5, .int (nI q5_1 - 1)), (3, .int (nI (dn sn))), (0, .ref (a 0)), (1, .int (nI sn)), (2, .int p1)]) hx hb dX8_leastAll_151 hl (by decide) rfl (fun ls hl => ?_)
                      refine lv_iinc (v := (nI q8_33)) (lv' := [(8, .int (nI q8_33)), (4, .int r_39), (9, .int r_39), (7, .int (nI q7_29 - 1)), (6, .int (nI q6_25 - 1)), (5, .int (nI q5_1 - 1)), (3, .int (nI (dn sn))), (0, .ref (a 0)), (1, .int (nI sn)), (2, .int p1)]) hx hb dX8_leastAll_153 hl (k := 2) rfl (dn_inc _) (by decide) rfl (fun ls hl => ?_)
                      refine lv_goto (tgt := 75) hx hb dX8_leastAll_156 (by decide) ?_
                      exact ih_33 _ (q8_33 + 1, r_39) _ _ _ (by omega) ⟨rfl, (by omega), hP, hS, (by rw [nI_pred]; exact lv_sub hl [0, 3, 4, 5, 1, 6, 7, 8, 9] rfl)⟩
      · have c_26 : ¬ (ca ≤ 1) := fun h => c_26 ((nI_leI (a := ca) (b := 1) (by omega) (by omega)).mpr h)
        refine lv_iload_n hx hb dX8_leastAll_43 rfl (lv_at hl 3 rfl) ?_
        refine lv_goto (tgt := 48) hx hb dX8_leastAll_44 (by decide) ?_
        refine lv_icmp_ge (tgt := 171) hx hb dX8_leastAll_48 (by decide) (fun c_43 => ?_) (fun c_43 => ?_)
        · refine lv_iinc (v := (nI q5_1)) (lv' := [(5, .int (nI q5_1)), (6, .int (nI q6_25 - 1)), (4, .int be_25), (3, .int (nI (dn sn))), (0, .ref (a 0)), (1, .int (nI sn)), (2, .int p1)]) hx hb dX8_leastAll_171 hl (k := 1) rfl (dn_inc _) (by decide) rfl (fun ls hl => ?_)
          refine lv_goto (tgt := 13) hx hb dX8_leastAll_174 (by decide) ?_
          exact ih_1 _ (q5_1 + 1, be_25) _ _ _ (by omega) ⟨rfl, (by omega), hP, hS, (by rw [nI_pred]; exact lv_sub hl [0, 2, 3, 4, 5, 6] rfl)⟩
        · have hqn_44 := dn_lt (n := (dn sn)) (by omega) (by omega) c_43
          refine lv_iconst (v := (-1)) hx hb dX8_leastAll_51 (by decide) ?_
          refine lv_istore (lv' := [(7, .int (-1)), (6, .int (nI q6_25 - 1)), (5, .int (nI q5_1 - 1)), (4, .int be_25), (3, .int (nI (dn sn))), (0, .ref (a 0)), (1, .int (nI sn)), (2, .int p1)]) hx hb dX8_leastAll_52 hl (by decide) rfl (fun ls hl => ?_)
          refine W_loop (σ := Nat × Int32) (fun (n_ : Nat) (x_ : Nat × Int32) (H : Heap) (locs : List Loc) (ls : Array Slot) => match x_ with | (q7_45, be_45) => n_ = 26 - q7_45 ∧ (q7_45 ≤ 25) ∧ va_P D classes [((a 0), .inr (8, (fX8 a (nI tx) fp (nI t0) wd (nI we) nu na (nI rd) ts (nI ru) (nI rw) (nI ca) df db sd))), (aI k (a 1) 3 (nF dn)), (aI k (a 4) 27 (sg se tm gs)), (aI k (a 3) 72 fprices), (aI k (a 36) 4 fwalks)] H ∧ va_S (fun q : Nat => s.heap.size ≤ q) s.heap H locs ∧ lv_has ls 10 [(7, .int (nI q7_45 - 1)), (6, .int (nI q6_25 - 1)), (5, .int (nI q5_1 - 1)), (4, .int be_45), (3, .int (nI (dn sn))), (0, .ref (a 0)), (1, .int (nI sn)), (2, .int p1)]) (fun n_45 x_45 H locs ls hI ih_45 => ?_) _ (0, be_25) ⟨rfl, (by omega), hP, hS, (by rw [dn0]; exact lv_sub hl [0, 1, 2, 3, 4, 5, 6, 7] rfl)⟩
          obtain ⟨q7_45, be_45⟩ := x_45
          obtain ⟨hm_45, hv_45, hP, hS, hl⟩ := hI
          subst hm_45
          refine lv_iload hx hb dX8_leastAll_54 (lv_at hl 0 rfl) ?_
          refine lv_aload_n hx hb dX8_leastAll_56 rfl (lv_at hl 5 rfl) ?_
          refine va_get (D := D) (ci := 8) (v := .int (nI ca)) (C := RX8) (T := TX8) (N := 44) hx hb hts inX8 hown hK hP 0 rfl rfl 34 (by decide) (hts _ tw_1007) (fun _ h9 => h9) rfl dX8_leastAll_57 ?_
          refine lv_iconst (v := 2) hx hb dX8_leastAll_60 (by decide) ?_
          refine lv_icmp_le (tgt := 68) hx hb dX8_leastAll_61 (by decide) (fun c_46 => ?_) (fun c_46 => ?_)
          · have c_46 := (nI_leI (a := ca) (b := 2) (by omega) (by omega)).mp c_46
            refine lv_iconst (v := 0) hx hb dX8_leastAll_68 (by decide) ?_
            refine lv_icmp_ge (tgt := 165) hx hb dX8_leastAll_69 (by decide) (fun c_47 => ?_) (fun c_47 => ?_)
            · refine lv_iinc (v := (nI q6_25)) (lv' := [(6, .int (nI q6_25)), (7, .int (nI q7_45 - 1)), (5, .int (nI q5_1 - 1)), (4, .int be_45), (3, .int (nI (dn sn))), (0, .ref (a 0)), (1, .int (nI sn)), (2, .int p1)]) hx hb dX8_leastAll_165 hl (k := 1) rfl (dn_inc _) (by decide) rfl (fun ls hl => ?_)
              refine lv_goto (tgt := 33) hx hb dX8_leastAll_168 (by decide) ?_
              exact ih_25 _ (q6_25 + 1, be_45) _ _ _ (by omega) ⟨rfl, (by omega), hP, hS, (by rw [nI_pred]; exact lv_sub hl [0, 2, 3, 4, 5, 6, 7] rfl)⟩
            · have hqn_48 := dn_lt (n := 0) (by omega) (by omega) c_47
              refine lv_iconst (v := (-1)) hx hb dX8_leastAll_72 (by decide) ?_
              refine lv_istore (lv' := [(8, .int (-1)), (7, .int (nI q7_45 - 1)), (6, .int (nI q6_25 - 1)), (5, .int (nI q5_1 - 1)), (4, .int be_45), (3, .int (nI (dn sn))), (0, .ref (a 0)), (1, .int (nI sn)), (2, .int p1)]) hx hb dX8_leastAll_73 hl (by decide) rfl (fun ls hl => ?_)
              refine W_loop (σ := Nat × Int32) (fun (n_ : Nat) (x_ : Nat × Int32) (H : Heap) (locs : List Loc) (ls : Array Slot) => match x_ with | (q8_49, be_49) => n_ = 26 - q8_49 ∧ (q8_49 ≤ 25) ∧ va_P D classes [((a 0), .inr (8, (fX8 a (nI tx) fp (nI t0) wd (nI we) nu na (nI rd) ts (nI ru) (nI rw) (nI ca) df db sd))), (aI k (a 1) 3 (nF dn)), (aI k (a 4) 27 (sg se tm gs)), (aI k (a 3) 72 fprices), (aI k (a 36) 4 fwalks)] H ∧ va_S (fun q : Nat => s.heap.size ≤ q) s.heap H locs ∧ lv_has ls 10 [(8, .int (nI q8_49 - 1)), (7, .int (nI q7_45 - 1)), (6, .int (nI q6_25 - 1)), (5, .int (nI q5_1 - 1)), (4, .int be_49), (3, .int (nI (dn sn))), (0, .ref (a 0)), (1, .int (nI sn)), (2, .int p1)]) (fun n_49 x_49 H locs ls hI ih_49 => ?_) _ (0, be_45) ⟨rfl, (by omega), hP, hS, (by rw [dn0]; exact lv_sub hl [0, 1, 2, 3, 4, 5, 6, 7, 8] rfl)⟩
              obtain ⟨q8_49, be_49⟩ := x_49
              obtain ⟨hm_49, hv_49, hP, hS, hl⟩ := hI
              subst hm_49
              refine lv_iload hx hb dX8_leastAll_75 (lv_at hl 0 rfl) ?_
              refine lv_aload_n hx hb dX8_leastAll_77 rfl (lv_at hl 6 rfl) ?_
              refine va_get (D := D) (ci := 8) (v := .int (nI ca)) (C := RX8) (T := TX8) (N := 44) hx hb hts inX8 hown hK hP 0 rfl rfl 34 (by decide) (hts _ tw_1007) (fun _ h9 => h9) rfl dX8_leastAll_78 ?_
              refine lv_iconst (v := 3) hx hb dX8_leastAll_81 (by decide) ?_
              refine lv_icmp_le (tgt := 89) hx hb dX8_leastAll_82 (by decide) (fun _ => ?_) (fun h => absurd ((nI_leI (a := ca) (b := 3) (by omega) (by omega)).mpr (by omega)) h)
              refine lv_iconst (v := 0) hx hb dX8_leastAll_89 (by decide) ?_
              refine lv_icmp_ge (tgt := 159) hx hb dX8_leastAll_90 (by decide) (fun c_51 => ?_) (fun c_51 => ?_)
              · refine lv_iinc (v := (nI q7_45)) (lv' := [(7, .int (nI q7_45)), (8, .int (nI q8_49 - 1)), (6, .int (nI q6_25 - 1)), (5, .int (nI q5_1 - 1)), (4, .int be_49), (3, .int (nI (dn sn))), (0, .ref (a 0)), (1, .int (nI sn)), (2, .int p1)]) hx hb dX8_leastAll_159 hl (k := 1) rfl (dn_inc _) (by decide) rfl (fun ls hl => ?_)
                refine lv_goto (tgt := 54) hx hb dX8_leastAll_162 (by decide) ?_
                exact ih_45 _ (q7_45 + 1, be_49) _ _ _ (by omega) ⟨rfl, (by omega), hP, hS, (by rw [nI_pred]; exact lv_sub hl [0, 2, 3, 4, 5, 6, 7, 8] rfl)⟩
              · have hqn_52 := dn_lt (n := 0) (by omega) (by omega) c_51
                refine lv_iload_n hx hb dX8_leastAll_93 rfl (lv_at hl 8 rfl) ?_
                refine lv_iload hx hb dX8_leastAll_94 (lv_at hl 3 rfl) ?_
                refine lv_iload hx hb dX8_leastAll_96 (lv_at hl 2 rfl) ?_
                refine lv_iload hx hb dX8_leastAll_98 (lv_at hl 1 rfl) ?_
                refine lv_iload hx hb dX8_leastAll_100 (lv_at hl 0 rfl) ?_
                refine ro_i (D := D) (va_runS (As := [.int p1, .int (nI q5_1 - 1), .int (nI q6_25 - 1), .int (nI q7_45 - 1), .int (nI q8_49 - 1)]) (rest := []) ⟨hx, hb, hml, hown, hts⟩ ((m_canAll l D k st lo p1 (nI q5_1 - 1) (nI q6_25 - 1) (nI q7_45 - 1) (nI q8_49 - 1)) H.size) (va_cwS 5 hts (gS tw_1450 tw_1451 tw_87 tw_1452) rfl rfl rfl (by decide +kernel) ⟨Nat.le_of_ble_eq_true rfl, Nat.le_of_ble_eq_true rfl⟩) (pS hS hAlo hlo hP hK hDL hZ [] (by decide) rfl) rfl rfl hl.1 rfl (lv_room (Nat.le_of_ble_eq_true rfl)) dX8_leastAll_102 ⟨Nat.le_of_ble_eq_true rfl, Nat.le_of_ble_eq_true rfl⟩) hS hA hP (fun r_53 H locs hw_53 hP hS => ?_)
                try dsimp only at hw_53
                refine lv_if_eq (tgt := 124) hx hb dX8_leastAll_105 (by decide) (fun c_54 => ?_) (fun c_54 => ?_)
                · refine lv_iconst (v := (-1)) hx hb dX8_leastAll_124 (by decide) ?_
                  refine lv_istore (lv' := [(9, .int (-1)), (8, .int (nI q8_49 - 1)), (7, .int (nI q7_45 - 1)), (6, .int (nI q6_25 - 1)), (5, .int (nI q5_1 - 1)), (4, .int be_49), (3, .int (nI (dn sn))), (0, .ref (a 0)), (1, .int (nI sn)), (2, .int p1)]) hx hb dX8_leastAll_125 hl (by decide) rfl (fun ls hl => ?_)
                  refine lv_iload hx hb dX8_leastAll_127 (lv_at hl 0 rfl) ?_
                  refine lv_if_lt (tgt := 149) hx hb dX8_leastAll_129 (by decide) (fun _ => ?_) (fun h => absurd (by decide) h)
                  refine lv_iload hx hb dX8_leastAll_149 (lv_at hl 5 rfl) ?_
                  refine lv_istore (lv' := [(4, .int be_49), (9, .int (-1)), (8, .int (nI q8_49 - 1)), (7, .int (nI q7_45 - 1)), (6, .int (nI q6_25 - 1)), (5, .int (nI q5_1 - 1)), (3, .int (nI (dn sn))), (0, .ref (a 0)), (1, .int (nI sn)), (2, .int p1)]) hx hb dX8_leastAll_151 hl (by decide) rfl (fun ls hl => ?_)
                  refine lv_iinc (v := (nI q8_49)) (lv' := [(8, .int (nI q8_49)), (4, .int be_49), (9, .int (-1)), (7, .int (nI q7_45 - 1)), (6, .int (nI q6_25 - 1)), (5, .int (nI q5_1 - 1)), (3, .int (nI (dn sn))), (0, .ref (a 0)), (1, .int (nI sn)), (2, .int p1)]) hx hb dX8_leastAll_153 hl (k := 2) rfl (dn_inc _) (by decide) rfl (fun ls hl => ?_)
                  refine lv_goto (tgt := 75) hx hb dX8_leastAll_156 (by decide) ?_
                  exact ih_49 _ (q8_49 + 1, be_49) _ _ _ (by omega) ⟨rfl, (by omega), hP, hS, (by rw [nI_pred]; exact lv_sub hl [0, 3, 4, 5, 1, 6, 7, 8, 9] rfl)⟩
                · refine lv_aload_n hx hb dX8_leastAll_108 rfl (lv_at hl 6 rfl) ?_
                  refine lv_iload_n hx hb dX8_leastAll_109 rfl (lv_at hl 7 rfl) ?_
                  refine lv_iload hx hb dX8_leastAll_110 (lv_at hl 3 rfl) ?_
                  refine lv_iload hx hb dX8_leastAll_112 (lv_at hl 2 rfl) ?_
                  refine lv_iload hx hb dX8_leastAll_114 (lv_at hl 1 rfl) ?_
                  refine lv_iload hx hb dX8_leastAll_116 (lv_at hl 0 rfl) ?_
                  refine ro_i (D := D) (va_runV (As := [.int (nI sn), .int (nI q5_1 - 1), .int (nI q6_25 - 1), .int (nI q7_45 - 1), .int (nI q8_49 - 1)]) (rest := []) ⟨hx, hb, hml, hown, hts⟩ ((m_sumAll l D k st lo a tx t0 we rd ru rw ca fp wd nu na ts df db sd dn se tm gs fprices fwalks sn (nI q5_1 - 1) (nI q6_25 - 1) (nI q7_45 - 1) (nI q8_49 - 1) (by first | assumption | omega) (by first | assumption | omega) (dn_hq (by omega)) (dn_hq (by omega)) (dn_hq (by omega)) (dn_hq (by omega))) H.size) (cwV 5 hts (gV tw_1459 tw_1461 tw_75 tw_87 tw_1462) rfl rfl rfl (by decide +kernel) ⟨Nat.le_of_ble_eq_true rfl, Nat.le_of_ble_eq_true rfl⟩) (pV hS hAlo hlo hP hK hDL hZ [0, 1, 2, 3, 4] (by decide) rfl (ci := 8) (q := (RX8, TX8, 44)) (q0 := 0) rfl rfl) rfl rfl hl.1 rfl (lv_room (Nat.le_of_ble_eq_true rfl)) dX8_leastAll_118 ⟨Nat.le_of_ble_eq_true rfl, Nat.le_of_ble_eq_true rfl⟩) hS hA hP (fun r_55 H locs hw_55 hP hS => ?_)
                  try dsimp only at hw_55
                  refine lv_goto (tgt := 125) hx hb dX8_leastAll_121 (by decide) ?_
                  refine lv_istore (lv' := [(9, .int r_55), (8, .int (nI q8_49 - 1)), (7, .int (nI q7_45 - 1)), (6, .int (nI q6_25 - 1)), (5, .int (nI q5_1 - 1)), (4, .int be_49), (3, .int (nI (dn sn))), (0, .ref (a 0)), (1, .int (nI sn)), (2, .int p1)]) hx hb dX8_leastAll_125 hl (by decide) rfl (fun ls hl => ?_)
                  refine lv_iload hx hb dX8_leastAll_127 (lv_at hl 0 rfl) ?_
                  refine lv_if_lt (tgt := 149) hx hb dX8_leastAll_129 (by decide) (fun c_56 => ?_) (fun c_56 => ?_)
                  · refine lv_iload hx hb dX8_leastAll_149 (lv_at hl 5 rfl) ?_
                    refine lv_istore (lv' := [(4, .int be_49), (9, .int r_55), (8, .int (nI q8_49 - 1)), (7, .int (nI q7_45 - 1)), (6, .int (nI q6_25 - 1)), (5, .int (nI q5_1 - 1)), (3, .int (nI (dn sn))), (0, .ref (a 0)), (1, .int (nI sn)), (2, .int p1)]) hx hb dX8_leastAll_151 hl (by decide) rfl (fun ls hl => ?_)
                    refine lv_iinc (v := (nI q8_49)) (lv' := [(8, .int (nI q8_49)), (4, .int be_49), (9, .int r_55), (7, .int (nI q7_45 - 1)), (6, .int (nI q6_25 - 1)), (5, .int (nI q5_1 - 1)), (3, .int (nI (dn sn))), (0, .ref (a 0)), (1, .int (nI sn)), (2, .int p1)]) hx hb dX8_leastAll_153 hl (k := 2) rfl (dn_inc _) (by decide) rfl (fun ls hl => ?_)
                    refine lv_goto (tgt := 75) hx hb dX8_leastAll_156 (by decide) ?_
                    exact ih_49 _ (q8_49 + 1, be_49) _ _ _ (by omega) ⟨rfl, (by omega), hP, hS, (by rw [nI_pred]; exact lv_sub hl [0, 3, 4, 5, 1, 6, 7, 8, 9] rfl)⟩
                  · refine lv_iload hx hb dX8_leastAll_132 (lv_at hl 5 rfl) ?_
                    refine lv_if_lt (tgt := 144) hx hb dX8_leastAll_134 (by decide) (fun c_57 => ?_) (fun c_57 => ?_)
                    · refine lv_iload hx hb dX8_leastAll_144 (lv_at hl 0 rfl) ?_
                      refine lv_goto (tgt := 151) hx hb dX8_leastAll_146 (by decide) ?_
                      refine lv_istore (lv' := [(4, .int r_55), (9, .int r_55), (8, .int (nI q8_49 - 1)), (7, .int (nI q7_45 - 1)), (6, .int (nI q6_25 - 1)), (5, .int (nI q5_1 - 1)), (3, .int (nI (dn sn))), (0, .ref (a 0)), (1, .int (nI sn)), (2, .int p1)]) hx hb dX8_leastAll_151 hl (by decide) rfl (fun ls hl => ?_)
                      refine lv_iinc (v := (nI q8_49)) (lv' := [(8, .int (nI q8_49)), (4, .int r_55), (9, .int r_55), (7, .int (nI q7_45 - 1)), (6, .int (nI q6_25 - 1)), (5, .int (nI q5_1 - 1)), (3, .int (nI (dn sn))), (0, .ref (a 0)), (1, .int (nI sn)), (2, .int p1)]) hx hb dX8_leastAll_153 hl (k := 2) rfl (dn_inc _) (by decide) rfl (fun ls hl => ?_)
                      refine lv_goto (tgt := 75) hx hb dX8_leastAll_156 (by decide) ?_
                      exact ih_49 _ (q8_49 + 1, r_55) _ _ _ (by omega) ⟨rfl, (by omega), hP, hS, (by rw [nI_pred]; exact lv_sub hl [0, 3, 4, 5, 1, 6, 7, 8, 9] rfl)⟩
                    · refine lv_iload hx hb dX8_leastAll_137 (lv_at hl 0 rfl) ?_
                      refine lv_iload hx hb dX8_leastAll_139 (lv_at hl 5 rfl) ?_
                      refine lv_icmp_ge (tgt := 149) hx hb dX8_leastAll_141 (by decide) (fun c_58 => ?_) (fun c_58 => ?_)
                      · refine lv_iload hx hb dX8_leastAll_149 (lv_at hl 5 rfl) ?_
                        refine lv_istore (lv' := [(4, .int be_49), (9, .int r_55), (8, .int (nI q8_49 - 1)), (7, .int (nI q7_45 - 1)), (6, .int (nI q6_25 - 1)), (5, .int (nI q5_1 - 1)), (3, .int (nI (dn sn))), (0, .ref (a 0)), (1, .int (nI sn)), (2, .int p1)]) hx hb dX8_leastAll_151 hl (by decide) rfl (fun ls hl => ?_)
                        refine lv_iinc (v := (nI q8_49)) (lv' := [(8, .int (nI q8_49)), (4, .int be_49), (9, .int r_55), (7, .int (nI q7_45 - 1)), (6, .int (nI q6_25 - 1)), (5, .int (nI q5_1 - 1)), (3, .int (nI (dn sn))), (0, .ref (a 0)), (1, .int (nI sn)), (2, .int p1)]) hx hb dX8_leastAll_153 hl (k := 2) rfl (dn_inc _) (by decide) rfl (fun ls hl => ?_)
                        refine lv_goto (tgt := 75) hx hb dX8_leastAll_156 (by decide) ?_
                        exact ih_49 _ (q8_49 + 1, be_49) _ _ _ (by omega) ⟨rfl, (by omega), hP, hS, (by rw [nI_pred]; exact lv_sub hl [0, 3, 4, 5, 1, 6, 7, 8, 9] rfl)⟩
                      · refine lv_iload hx hb dX8_leastAll_144 (lv_at hl 0 rfl) ?_
                        refine lv_goto (tgt := 151) hx hb dX8_leastAll_146 (by decide) ?_
                        refine lv_istore (lv' := [(4, .int r_55), (9, .int r_55), (8, .int (nI q8_49 - 1)), (7, .int (nI q7_45 - 1)), (6, .int (nI q6_25 - 1)), (5, .int (nI q5_1 - 1)), (3, .int (nI (dn sn))), (0, .ref (a 0)), (1, .int (nI sn)), (2, .int p1)]) hx hb dX8_leastAll_151 hl (by decide) rfl (fun ls hl => ?_)
                        refine lv_iinc (v := (nI q8_49)) (lv' := [(8, .int (nI q8_49)), (4, .int r_55), (9, .int r_55), (7, .int (nI q7_45 - 1)), (6, .int (nI q6_25 - 1)), (5, .int (nI q5_1 - 1)), (3, .int (nI (dn sn))), (0, .ref (a 0)), (1, .int (nI sn)), (2, .int p1)]) hx hb dX8_leastAll_153 hl (k := 2) rfl (dn_inc _) (by decide) rfl (fun ls hl => ?_)
                        refine lv_goto (tgt := 75) hx hb dX8_leastAll_156 (by decide) ?_
                        exact ih_49 _ (q8_49 + 1, r_55) _ _ _ (by omega) ⟨rfl, (by omega), hP, hS, (by rw [nI_pred]; exact lv_sub hl [0, 3, 4, 5, 1, 6, 7, 8, 9] rfl)⟩
          · have c_46 : ¬ (ca ≤ 2) := fun h => c_46 ((nI_leI (a := ca) (b := 2) (by omega) (by omega)).mpr h)
            refine lv_iload_n hx hb dX8_leastAll_64 rfl (lv_at hl 4 rfl) ?_
            refine lv_goto (tgt := 69) hx hb dX8_leastAll_65 (by decide) ?_
            refine lv_icmp_ge (tgt := 165) hx hb dX8_leastAll_69 (by decide) (fun c_59 => ?_) (fun c_59 => ?_)
            · refine lv_iinc (v := (nI q6_25)) (lv' := [(6, .int (nI q6_25)), (7, .int (nI q7_45 - 1)), (5, .int (nI q5_1 - 1)), (4, .int be_45), (3, .int (nI (dn sn))), (0, .ref (a 0)), (1, .int (nI sn)), (2, .int p1)]) hx hb dX8_leastAll_165 hl (k := 1) rfl (dn_inc _) (by decide) rfl (fun ls hl => ?_)
              refine lv_goto (tgt := 33) hx hb dX8_leastAll_168 (by decide) ?_
              exact ih_25 _ (q6_25 + 1, be_45) _ _ _ (by omega) ⟨rfl, (by omega), hP, hS, (by rw [nI_pred]; exact lv_sub hl [0, 2, 3, 4, 5, 6, 7] rfl)⟩
            · have hqn_60 := dn_lt (n := (dn sn)) (by omega) (by omega) c_59
              refine lv_iconst (v := (-1)) hx hb dX8_leastAll_72 (by decide) ?_
              refine lv_istore (lv' := [(8, .int (-1)), (7, .int (nI q7_45 - 1)), (6, .int (nI q6_25 - 1)), (5, .int (nI q5_1 - 1)), (4, .int be_45), (3, .int (nI (dn sn))), (0, .ref (a 0)), (1, .int (nI sn)), (2, .int p1)]) hx hb dX8_leastAll_73 hl (by decide) rfl (fun ls hl => ?_)
              refine W_loop (σ := Nat × Int32) (fun (n_ : Nat) (x_ : Nat × Int32) (H : Heap) (locs : List Loc) (ls : Array Slot) => match x_ with | (q8_61, be_61) => n_ = 26 - q8_61 ∧ (q8_61 ≤ 25) ∧ va_P D classes [((a 0), .inr (8, (fX8 a (nI tx) fp (nI t0) wd (nI we) nu na (nI rd) ts (nI ru) (nI rw) (nI ca) df db sd))), (aI k (a 1) 3 (nF dn)), (aI k (a 4) 27 (sg se tm gs)), (aI k (a 3) 72 fprices), (aI k (a 36) 4 fwalks)] H ∧ va_S (fun q : Nat => s.heap.size ≤ q) s.heap H locs ∧ lv_has ls 10 [(8, .int (nI q8_61 - 1)), (7, .int (nI q7_45 - 1)), (6, .int (nI q6_25 - 1)), (5, .int (nI q5_1 - 1)), (4, .int be_61), (3, .int (nI (dn sn))), (0, .ref (a 0)), (1, .int (nI sn)), (2, .int p1)]) (fun n_61 x_61 H locs ls hI ih_61 => ?_) _ (0, be_45) ⟨rfl, (by omega), hP, hS, (by rw [dn0]; exact lv_sub hl [0, 1, 2, 3, 4, 5, 6, 7, 8] rfl)⟩
              obtain ⟨q8_61, be_61⟩ := x_61
              obtain ⟨hm_61, hv_61, hP, hS, hl⟩ := hI
              subst hm_61
              refine lv_iload hx hb dX8_leastAll_75 (lv_at hl 0 rfl) ?_
              refine lv_aload_n hx hb dX8_leastAll_77 rfl (lv_at hl 6 rfl) ?_
              refine va_get (D := D) (ci := 8) (v := .int (nI ca)) (C := RX8) (T := TX8) (N := 44) hx hb hts inX8 hown hK hP 0 rfl rfl 34 (by decide) (hts _ tw_1007) (fun _ h9 => h9) rfl dX8_leastAll_78 ?_
              refine lv_iconst (v := 3) hx hb dX8_leastAll_81 (by decide) ?_
              refine lv_icmp_le (tgt := 89) hx hb dX8_leastAll_82 (by decide) (fun c_62 => ?_) (fun c_62 => ?_)
              · have c_62 := (nI_leI (a := ca) (b := 3) (by omega) (by omega)).mp c_62
                refine lv_iconst (v := 0) hx hb dX8_leastAll_89 (by decide) ?_
                refine lv_icmp_ge (tgt := 159) hx hb dX8_leastAll_90 (by decide) (fun c_63 => ?_) (fun c_63 => ?_)
                · refine lv_iinc (v := (nI q7_45)) (lv' := [(7, .int (nI q7_45)), (8, .int (nI q8_61 - 1)), (6, .int (nI q6_25 - 1)), (5, .int (nI q5_1 - 1)), (4, .int be_61), (3, .int (nI (dn sn))), (0, .ref (a 0)), (1, .int (nI sn)), (2, .int p1)]) hx hb dX8_leastAll_159 hl (k := 1) rfl (dn_inc _) (by decide) rfl (fun ls hl => ?_)
                  refine lv_goto (tgt := 54) hx hb dX8_leastAll_162 (by decide) ?_
                  exact ih_45 _ (q7_45 + 1, be_61) _ _ _ (by omega) ⟨rfl, (by omega), hP, hS, (by rw [nI_pred]; exact lv_sub hl [0, 2, 3, 4, 5, 6, 7, 8] rfl)⟩
                · have hqn_64 := dn_lt (n := 0) (by omega) (by omega) c_63
                  refine lv_iload_n hx hb dX8_leastAll_93 rfl (lv_at hl 8 rfl) ?_
                  refine lv_iload hx hb dX8_leastAll_94 (lv_at hl 3 rfl) ?_
                  refine lv_iload hx hb dX8_leastAll_96 (lv_at hl 2 rfl) ?_
                  refine lv_iload hx hb dX8_leastAll_98 (lv_at hl 1 rfl) ?_
                  refine lv_iload hx hb dX8_leastAll_100 (lv_at hl 0 rfl) ?_
                  refine ro_i (D := D) (va_runS (As := [.int p1, .int (nI q5_1 - 1), .int (nI q6_25 - 1), .int (nI q7_45 - 1), .int (nI q8_61 - 1)]) (rest := []) ⟨hx, hb, hml, hown, hts⟩ ((m_canAll l D k st lo p1 (nI q5_1 - 1) (nI q6_25 - 1) (nI q7_45 - 1) (nI q8_61 - 1)) H.size) (va_cwS 5 hts (gS tw_1450 tw_1451 tw_87 tw_1452) rfl rfl rfl (by decide +kernel) ⟨Nat.le_of_ble_eq_true rfl, Nat.le_of_ble_eq_true rfl⟩) (pS hS hAlo hlo hP hK hDL hZ [] (by decide) rfl) rfl rfl hl.1 rfl (lv_room (Nat.le_of_ble_eq_true rfl)) dX8_leastAll_102 ⟨Nat.le_of_ble_eq_true rfl, Nat.le_of_ble_eq_true rfl⟩) hS hA hP (fun r_65 H locs hw_65 hP hS => ?_)
                  try dsimp only at hw_65
                  refine lv_if_eq (tgt := 124) hx hb dX8_leastAll_105 (by decide) (fun c_66 => ?_) (fun c_66 => ?_)
                  · refine lv_iconst (v := (-1)) hx hb dX8_leastAll_124 (by decide) ?_
                    refine lv_istore (lv' := [(9, .int (-1)), (8, .int (nI q8_61 - 1)), (7, .int (nI q7_45 - 1)), (6, .int (nI q6_25 - 1)), (5, .int (nI q5_1 - 1)), (4, .int be_61), (3, .int (nI (dn sn))), (0, .ref (a 0)), (1, .int (nI sn)), (2, .int p1)]) hx hb dX8_leastAll_125 hl (by decide) rfl (fun ls hl => ?_)
                    refine lv_iload hx hb dX8_leastAll_127 (lv_at hl 0 rfl) ?_
                    refine lv_if_lt (tgt := 149) hx hb dX8_leastAll_129 (by decide) (fun _ => ?_) (fun h => absurd (by decide) h)
                    refine lv_iload hx hb dX8_leastAll_149 (lv_at hl 5 rfl) ?_
                    refine lv_istore (lv' := [(4, .int be_61), (9, .int (-1)), (8, .int (nI q8_61 - 1)), (7, .int (nI q7_45 - 1)), (6, .int (nI q6_25 - 1)), (5, .int (nI q5_1 - 1)), (3, .int (nI (dn sn))), (0, .ref (a 0)), (1, .int (nI sn)), (2, .int p1)]) hx hb dX8_leastAll_151 hl (by decide) rfl (fun ls hl => ?_)
                    refine lv_iinc (v := (nI q8_61)) (lv' := [(8, .int (nI q8_61)), (4, .int be_61), (9, .int (-1)), (7, .int (nI q7_45 - 1)), (6, .int (nI q6_25 - 1)), (5, .int (nI q5_1 - 1)), (3, .int (nI (dn sn))), (0, .ref (a 0)), (1, .int (nI sn)), (2, .int p1)]) hx hb dX8_leastAll_153 hl (k := 2) rfl (dn_inc _) (by decide) rfl (fun ls hl => ?_)
                    refine lv_goto (tgt := 75) hx hb dX8_leastAll_156 (by decide) ?_
                    exact ih_61 _ (q8_61 + 1, be_61) _ _ _ (by omega) ⟨rfl, (by omega), hP, hS, (by rw [nI_pred]; exact lv_sub hl [0, 3, 4, 5, 1, 6, 7, 8, 9] rfl)⟩
                  · refine lv_aload_n hx hb dX8_leastAll_108 rfl (lv_at hl 6 rfl) ?_
                    refine lv_iload_n hx hb dX8_leastAll_109 rfl (lv_at hl 7 rfl) ?_
                    refine lv_iload hx hb dX8_leastAll_110 (lv_at hl 3 rfl) ?_
                    refine lv_iload hx hb dX8_leastAll_112 (lv_at hl 2 rfl) ?_
                    refine lv_iload hx hb dX8_leastAll_114 (lv_at hl 1 rfl) ?_
                    refine lv_iload hx hb dX8_leastAll_116 (lv_at hl 0 rfl) ?_
                    refine ro_i (D := D) (va_runV (As := [.int (nI sn), .int (nI q5_1 - 1), .int (nI q6_25 - 1), .int (nI q7_45 - 1), .int (nI q8_61 - 1)]) (rest := []) ⟨hx, hb, hml, hown, hts⟩ ((m_sumAll l D k st lo a tx t0 we rd ru rw ca fp wd nu na ts df db sd dn se tm gs fprices fwalks sn (nI q5_1 - 1) (nI q6_25 - 1) (nI q7_45 - 1) (nI q8_61 - 1) (by first | assumption | omega) (by first | assumption | omega) (dn_hq (by omega)) (dn_hq (by omega)) (dn_hq (by omega)) (dn_hq (by omega))) H.size) (cwV 5 hts (gV tw_1459 tw_1461 tw_75 tw_87 tw_1462) rfl rfl rfl (by decide +kernel) ⟨Nat.le_of_ble_eq_true rfl, Nat.le_of_ble_eq_true rfl⟩) (pV hS hAlo hlo hP hK hDL hZ [0, 1, 2, 3, 4] (by decide) rfl (ci := 8) (q := (RX8, TX8, 44)) (q0 := 0) rfl rfl) rfl rfl hl.1 rfl (lv_room (Nat.le_of_ble_eq_true rfl)) dX8_leastAll_118 ⟨Nat.le_of_ble_eq_true rfl, Nat.le_of_ble_eq_true rfl⟩) hS hA hP (fun r_67 H locs hw_67 hP hS => ?_)
                    try dsimp only at hw_67
                    refine lv_goto (tgt := 125) hx hb dX8_leastAll_121 (by decide) ?_
                    refine lv_istore (lv' := [(9, .int r_67), (8, .int (nI q8_61 - 1)), (7, .int (nI q7_45 - 1)), (6, .int (nI q6_25 - 1)), (5, .int (nI q5_1 - 1)), (4, .int be_61), (3, .int (nI (dn sn))), (0, .ref (a 0)), (1, .int (nI sn)), (2, .int p1)]) hx hb dX8_leastAll_125 hl (by decide) rfl (fun ls hl => ?_)
                    refine lv_iload hx hb dX8_leastAll_127 (lv_at hl 0 rfl) ?_
                    refine lv_if_lt (tgt := 149) hx hb dX8_leastAll_129 (by decide) (fun c_68 => ?_) (fun c_68 => ?_)
                    · refine lv_iload hx hb dX8_leastAll_149 (lv_at hl 5 rfl) ?_
                      refine lv_istore (lv' := [(4, .int be_61), (9, .int r_67), (8, .int (nI q8_61 - 1)), (7, .int (nI q7_45 - 1)), (6, .int (nI q6_25 - 1)), (5, .int (nI q5_1 - 1)), (3, .int (nI (dn sn))), (0, .ref (a 0)), (1, .int (nI sn)), (2, .int p1)]) hx hb dX8_leastAll_151 hl (by decide) rfl (fun ls hl => ?_)
                      refine lv_iinc (v := (nI q8_61)) (lv' := [(8, .int (nI q8_61)), (4, .int be_61), (9, .int r_67), (7, .int (nI q7_45 - 1)), (6, .int (nI q6_25 - 1)), (5, .int (nI q5_1 - 1)), (3, .int (nI (dn sn))), (0, .ref (a 0)), (1, .int (nI sn)), (2, .int p1)]) hx hb dX8_leastAll_153 hl (k := 2) rfl (dn_inc _) (by decide) rfl (fun ls hl => ?_)
                      refine lv_goto (tgt := 75) hx hb dX8_leastAll_156 (by decide) ?_
                      exact ih_61 _ (q8_61 + 1, be_61) _ _ _ (by omega) ⟨rfl, (by omega), hP, hS, (by rw [nI_pred]; exact lv_sub hl [0, 3, 4, 5, 1, 6, 7, 8, 9] rfl)⟩
                    · refine lv_iload hx hb dX8_leastAll_132 (lv_at hl 5 rfl) ?_
                      refine lv_if_lt (tgt := 144) hx hb dX8_leastAll_134 (by decide) (fun c_69 => ?_) (fun c_69 => ?_)
                      · refine lv_iload hx hb dX8_leastAll_144 (lv_at hl 0 rfl) ?_
                        refine lv_goto (tgt := 151) hx hb dX8_leastAll_146 (by decide) ?_
                        refine lv_istore (lv' := [(4, .int r_67), (9, .int r_67), (8, .int (nI q8_61 - 1)), (7, .int (nI q7_45 - 1)), (6, .int (nI q6_25 - 1)), (5, .int (nI q5_1 - 1)), (3, .int (nI (dn sn))), (0, .ref (a 0)), (1, .int (nI sn)), (2, .int p1)]) hx hb dX8_leastAll_151 hl (by decide) rfl (fun ls hl => ?_)
                        refine lv_iinc (v := (nI q8_61)) (lv' := [(8, .int (nI q8_61)), (4, .int r_67), (9, .int r_67), (7, .int (nI q7_45 - 1)), (6, .int (nI q6_25 - 1)), (5, .int (nI q5_1 - 1)), (3, .int (nI (dn sn))), (0, .ref (a 0)), (1, .int (nI sn)), (2, .int p1)]) hx hb dX8_leastAll_153 hl (k := 2) rfl (dn_inc _) (by decide) rfl (fun ls hl => ?_)
                        refine lv_goto (tgt := 75) hx hb dX8_leastAll_156 (by decide) ?_
                        exact ih_61 _ (q8_61 + 1, r_67) _ _ _ (by omega) ⟨rfl, (by omega), hP, hS, (by rw [nI_pred]; exact lv_sub hl [0, 3, 4, 5, 1, 6, 7, 8, 9] rfl)⟩
                      · refine lv_iload hx hb dX8_leastAll_137 (lv_at hl 0 rfl) ?_
                        refine lv_iload hx hb dX8_leastAll_139 (lv_at hl 5 rfl) ?_
                        refine lv_icmp_ge (tgt := 149) hx hb dX8_leastAll_141 (by decide) (fun c_70 => ?_) (fun c_70 => ?_)
                        · refine lv_iload hx hb dX8_leastAll_149 (lv_at hl 5 rfl) ?_
                          refine lv_istore (lv' := [(4, .int be_61), (9, .int r_67), (8, .int (nI q8_61 - 1)), (7, .int (nI q7_45 - 1)), (6, .int (nI q6_25 - 1)), (5, .int (nI q5_1 - 1)), (3, .int (nI (dn sn))), (0, .ref (a 0)), (1, .int (nI sn)), (2, .int p1)]) hx hb dX8_leastAll_151 hl (by decide) rfl (fun ls hl => ?_)
                          refine lv_iinc (v := (nI q8_61)) (lv' := [(8, .int (nI q8_61)), (4, .int be_61), (9, .int r_67), (7, .int (nI q7_45 - 1)), (6, .int (nI q6_25 - 1)), (5, .int (nI q5_1 - 1)), (3, .int (nI (dn sn))), (0, .ref (a 0)), (1, .int (nI sn)), (2, .int p1)]) hx hb dX8_leastAll_153 hl (k := 2) rfl (dn_inc _) (by decide) rfl (fun ls hl => ?_)
                          refine lv_goto (tgt := 75) hx hb dX8_leastAll_156 (by decide) ?_
                          exact ih_61 _ (q8_61 + 1, be_61) _ _ _ (by omega) ⟨rfl, (by omega), hP, hS, (by rw [nI_pred]; exact lv_sub hl [0, 3, 4, 5, 1, 6, 7, 8, 9] rfl)⟩
                        · refine lv_iload hx hb dX8_leastAll_144 (lv_at hl 0 rfl) ?_
                          refine lv_goto (tgt := 151) hx hb dX8_leastAll_146 (by decide) ?_
                          refine lv_istore (lv' := [(4, .int r_67), (9, .int r_67), (8, .int (nI q8_61 - 1)), (7, .int (nI q7_45 - 1)), (6, .int (nI q6_25 - 1)), (5, .int (nI q5_1 - 1)), (3, .int (nI (dn sn))), (0, .ref (a 0)), (1, .int (nI sn)), (2, .int p1)]) hx hb dX8_leastAll_151 hl (by decide) rfl (fun ls hl => ?_)
                          refine lv_iinc (v := (nI q8_61)) (lv' := [(8, .int (nI q8_61)), (4, .int r_67), (9, .int r_67), (7, .int (nI q7_45 - 1)), (6, .int (nI q6_25 - 1)), (5, .int (nI q5_1 - 1)), (3, .int (nI (dn sn))), (0, .ref (a 0)), (1, .int (nI sn)), (2, .int p1)]) hx hb dX8_leastAll_153 hl (k := 2) rfl (dn_inc _) (by decide) rfl (fun ls hl => ?_)
                          refine lv_goto (tgt := 75) hx hb dX8_leastAll_156 (by decide) ?_
                          exact ih_61 _ (q8_61 + 1, r_67) _ _ _ (by omega) ⟨rfl, (by omega), hP, hS, (by rw [nI_pred]; exact lv_sub hl [0, 3, 4, 5, 1, 6, 7, 8, 9] rfl)⟩
              · have c_62 : ¬ (ca ≤ 3) := fun h => c_62 ((nI_leI (a := ca) (b := 3) (by omega) (by omega)).mpr h)
                refine lv_iload_n hx hb dX8_leastAll_85 rfl (lv_at hl 5 rfl) ?_
                refine lv_goto (tgt := 90) hx hb dX8_leastAll_86 (by decide) ?_
                refine lv_icmp_ge (tgt := 159) hx hb dX8_leastAll_90 (by decide) (fun c_71 => ?_) (fun c_71 => ?_)
                · refine lv_iinc (v := (nI q7_45)) (lv' := [(7, .int (nI q7_45)), (8, .int (nI q8_61 - 1)), (6, .int (nI q6_25 - 1)), (5, .int (nI q5_1 - 1)), (4, .int be_61), (3, .int (nI (dn sn))), (0, .ref (a 0)), (1, .int (nI sn)), (2, .int p1)]) hx hb dX8_leastAll_159 hl (k := 1) rfl (dn_inc _) (by decide) rfl (fun ls hl => ?_)
                  refine lv_goto (tgt := 54) hx hb dX8_leastAll_162 (by decide) ?_
                  exact ih_45 _ (q7_45 + 1, be_61) _ _ _ (by omega) ⟨rfl, (by omega), hP, hS, (by rw [nI_pred]; exact lv_sub hl [0, 2, 3, 4, 5, 6, 7, 8] rfl)⟩
                · have hqn_72 := dn_lt (n := (dn sn)) (by omega) (by omega) c_71
                  refine lv_iload_n hx hb dX8_leastAll_93 rfl (lv_at hl 8 rfl) ?_
                  refine lv_iload hx hb dX8_leastAll_94 (lv_at hl 3 rfl) ?_
                  refine lv_iload hx hb dX8_leastAll_96 (lv_at hl 2 rfl) ?_
                  refine lv_iload hx hb dX8_leastAll_98 (lv_at hl 1 rfl) ?_
                  refine lv_iload hx hb dX8_leastAll_100 (lv_at hl 0 rfl) ?_
                  refine ro_i (D := D) (va_runS (As := [.int p1, .int (nI q5_1 - 1), .int (nI q6_25 - 1), .int (nI q7_45 - 1), .int (nI q8_61 - 1)]) (rest := []) ⟨hx, hb, hml, hown, hts⟩ ((m_canAll l D k st lo p1 (nI q5_1 - 1) (nI q6_25 - 1) (nI q7_45 - 1) (nI q8_61 - 1)) H.size) (va_cwS 5 hts (gS tw_1450 tw_1451 tw_87 tw_1452) rfl rfl rfl (by decide +kernel) ⟨Nat.le_of_ble_eq_true rfl, Nat.le_of_ble_eq_true rfl⟩) (pS hS hAlo hlo hP hK hDL hZ [] (by decide) rfl) rfl rfl hl.1 rfl (lv_room (Nat.le_of_ble_eq_true rfl)) dX8_leastAll_102 ⟨Nat.le_of_ble_eq_true rfl, Nat.le_of_ble_eq_true rfl⟩) hS hA hP (fun r_73 H locs hw_73 hP hS => ?_)
                  try dsimp only at hw_73
                  refine lv_if_eq (tgt := 124) hx hb dX8_leastAll_105 (by decide) (fun c_74 => ?_) (fun c_74 => ?_)
                  · refine lv_iconst (v := (-1)) hx hb dX8_leastAll_124 (by decide) ?_
                    refine lv_istore (lv' := [(9, .int (-1)), (8, .int (nI q8_61 - 1)), (7, .int (nI q7_45 - 1)), (6, .int (nI q6_25 - 1)), (5, .int (nI q5_1 - 1)), (4, .int be_61), (3, .int (nI (dn sn))), (0, .ref (a 0)), (1, .int (nI sn)), (2, .int p1)]) hx hb dX8_leastAll_125 hl (by decide) rfl (fun ls hl => ?_)
                    refine lv_iload hx hb dX8_leastAll_127 (lv_at hl 0 rfl) ?_
                    refine lv_if_lt (tgt := 149) hx hb dX8_leastAll_129 (by decide) (fun _ => ?_) (fun h => absurd (by decide) h)
                    refine lv_iload hx hb dX8_leastAll_149 (lv_at hl 5 rfl) ?_
                    refine lv_istore (lv' := [(4, .int be_61), (9, .int (-1)), (8, .int (nI q8_61 - 1)), (7, .int (nI q7_45 - 1)), (6, .int (nI q6_25 - 1)), (5, .int (nI q5_1 - 1)), (3, .int (nI (dn sn))), (0, .ref (a 0)), (1, .int (nI sn)), (2, .int p1)]) hx hb dX8_leastAll_151 hl (by decide) rfl (fun ls hl => ?_)
                    refine lv_iinc (v := (nI q8_61)) (lv' := [(8, .int (nI q8_61)), (4, .int be_61), (9, .int (-1)), (7, .int (nI q7_45 - 1)), (6, .int (nI q6_25 - 1)), (5, .int (nI q5_1 - 1)), (3, .int (nI (dn sn))), (0, .ref (a 0)), (1, .int (nI sn)), (2, .int p1)]) hx hb dX8_leastAll_153 hl (k := 2) rfl (dn_inc _) (by decide) rfl (fun ls hl => ?_)
                    refine lv_goto (tgt := 75) hx hb dX8_leastAll_156 (by decide) ?_
                    exact ih_61 _ (q8_61 + 1, be_61) _ _ _ (by omega) ⟨rfl, (by omega), hP, hS, (by rw [nI_pred]; exact lv_sub hl [0, 3, 4, 5, 1, 6, 7, 8, 9] rfl)⟩
                  · refine lv_aload_n hx hb dX8_leastAll_108 rfl (lv_at hl 6 rfl) ?_
                    refine lv_iload_n hx hb dX8_leastAll_109 rfl (lv_at hl 7 rfl) ?_
                    refine lv_iload hx hb dX8_leastAll_110 (lv_at hl 3 rfl) ?_
                    refine lv_iload hx hb dX8_leastAll_112 (lv_at hl 2 rfl) ?_
                    refine lv_iload hx hb dX8_leastAll_114 (lv_at hl 1 rfl) ?_
                    refine lv_iload hx hb dX8_leastAll_116 (lv_at hl 0 rfl) ?_
                    refine ro_i (D := D) (va_runV (As := [.int (nI sn), .int (nI q5_1 - 1), .int (nI q6_25 - 1), .int (nI q7_45 - 1), .int (nI q8_61 - 1)]) (rest := []) ⟨hx, hb, hml, hown, hts⟩ ((m_sumAll l D k st lo a tx t0 we rd ru rw ca fp wd nu na ts df db sd dn se tm gs fprices fwalks sn (nI q5_1 - 1) (nI q6_25 - 1) (nI q7_45 - 1) (nI q8_61 - 1) (by first | assumption | omega) (by first | assumption | omega) (dn_hq (by omega)) (dn_hq (by omega)) (dn_hq (by omega)) (dn_hq (by omega))) H.size) (cwV 5 hts (gV tw_1459 tw_1461 tw_75 tw_87 tw_1462) rfl rfl rfl (by decide +kernel) ⟨Nat.le_of_ble_eq_true rfl, Nat.le_of_ble_eq_true rfl⟩) (pV hS hAlo hlo hP hK hDL hZ [0, 1, 2, 3, 4] (by decide) rfl (ci := 8) (q := (RX8, TX8, 44)) (q0 := 0) rfl rfl) rfl rfl hl.1 rfl (lv_room (Nat.le_of_ble_eq_true rfl)) dX8_leastAll_118 ⟨Nat.le_of_ble_eq_true rfl, Nat.le_of_ble_eq_true rfl⟩) hS hA hP (fun r_75 H locs hw_75 hP hS => ?_)
                    try dsimp only at hw_75
                    refine lv_goto (tgt := 125) hx hb dX8_leastAll_121 (by decide) ?_
                    refine lv_istore (lv' := [(9, .int r_75), (8, .int (nI q8_61 - 1)), (7, .int (nI q7_45 - 1)), (6, .int (nI q6_25 - 1)), (5, .int (nI q5_1 - 1)), (4, .int be_61), (3, .int (nI (dn sn))), (0, .ref (a 0)), (1, .int (nI sn)), (2, .int p1)]) hx hb dX8_leastAll_125 hl (by decide) rfl (fun ls hl => ?_)
                    refine lv_iload hx hb dX8_leastAll_127 (lv_at hl 0 rfl) ?_
                    refine lv_if_lt (tgt := 149) hx hb dX8_leastAll_129 (by decide) (fun c_76 => ?_) (fun c_76 => ?_)
                    · refine lv_iload hx hb dX8_leastAll_149 (lv_at hl 5 rfl) ?_
                      refine lv_istore (lv' := [(4, .int be_61), (9, .int r_75), (8, .int (nI q8_61 - 1)), (7, .int (nI q7_45 - 1)), (6, .int (nI q6_25 - 1)), (5, .int (nI q5_1 - 1)), (3, .int (nI (dn sn))), (0, .ref (a 0)), (1, .int (nI sn)), (2, .int p1)]) hx hb dX8_leastAll_151 hl (by decide) rfl (fun ls hl => ?_)
                      refine lv_iinc (v := (nI q8_61)) (lv' := [(8, .int (nI q8_61)), (4, .int be_61), (9, .int r_75), (7, .int (nI q7_45 - 1)), (6, .int (nI q6_25 - 1)), (5, .int (nI q5_1 - 1)), (3, .int (nI (dn sn))), (0, .ref (a 0)), (1, .int (nI sn)), (2, .int p1)]) hx hb dX8_leastAll_153 hl (k := 2) rfl (dn_inc _) (by decide) rfl (fun ls hl => ?_)
                      refine lv_goto (tgt := 75) hx hb dX8_leastAll_156 (by decide) ?_
                      exact ih_61 _ (q8_61 + 1, be_61) _ _ _ (by omega) ⟨rfl, (by omega), hP, hS, (by rw [nI_pred]; exact lv_sub hl [0, 3, 4, 5, 1, 6, 7, 8, 9] rfl)⟩
                    · refine lv_iload hx hb dX8_leastAll_132 (lv_at hl 5 rfl) ?_
                      refine lv_if_lt (tgt := 144) hx hb dX8_leastAll_134 (by decide) (fun c_77 => ?_) (fun c_77 => ?_)
                      · refine lv_iload hx hb dX8_leastAll_144 (lv_at hl 0 rfl) ?_
                        refine lv_goto (tgt := 151) hx hb dX8_leastAll_146 (by decide) ?_
                        refine lv_istore (lv' := [(4, .int r_75), (9, .int r_75), (8, .int (nI q8_61 - 1)), (7, .int (nI q7_45 - 1)), (6, .int (nI q6_25 - 1)), (5, .int (nI q5_1 - 1)), (3, .int (nI (dn sn))), (0, .ref (a 0)), (1, .int (nI sn)), (2, .int p1)]) hx hb dX8_leastAll_151 hl (by decide) rfl (fun ls hl => ?_)
                        refine lv_iinc (v := (nI q8_61)) (lv' := [(8, .int (nI q8_61)), (4, .int r_75), (9, .int r_75), (7, .int (nI q7_45 - 1)), (6, .int (nI q6_25 - 1)), (5, .int (nI q5_1 - 1)), (3, .int (nI (dn sn))), (0, .ref (a 0)), (1, .int (nI sn)), (2, .int p1)]) hx hb dX8_leastAll_153 hl (k := 2) rfl (dn_inc _) (by decide) rfl (fun ls hl => ?_)
                        refine lv_goto (tgt := 75) hx hb dX8_leastAll_156 (by decide) ?_
                        exact ih_61 _ (q8_61 + 1, r_75) _ _ _ (by omega) ⟨rfl, (by omega), hP, hS, (by rw [nI_pred]; exact lv_sub hl [0, 3, 4, 5, 1, 6, 7, 8, 9] rfl)⟩
                      · refine lv_iload hx hb dX8_leastAll_137 (lv_at hl 0 rfl) ?_
                        refine lv_iload hx hb dX8_leastAll_139 (lv_at hl 5 rfl) ?_
                        refine lv_icmp_ge (tgt := 149) hx hb dX8_leastAll_141 (by decide) (fun c_78 => ?_) (fun c_78 => ?_)
                        · refine lv_iload hx hb dX8_leastAll_149 (lv_at hl 5 rfl) ?_
                          refine lv_istore (lv' := [(4, .int be_61), (9, .int r_75), (8, .int (nI q8_61 - 1)), (7, .int (nI q7_45 - 1)), (6, .int (nI q6_25 - 1)), (5, .int (nI q5_1 - 1)), (3, .int (nI (dn sn))), (0, .ref (a 0)), (1, .int (nI sn)), (2, .int p1)]) hx hb dX8_leastAll_151 hl (by decide) rfl (fun ls hl => ?_)
                          refine lv_iinc (v := (nI q8_61)) (lv' := [(8, .int (nI q8_61)), (4, .int be_61), (9, .int r_75), (7, .int (nI q7_45 - 1)), (6, .int (nI q6_25 - 1)), (5, .int (nI q5_1 - 1)), (3, .int (nI (dn sn))), (0, .ref (a 0)), (1, .int (nI sn)), (2, .int p1)]) hx hb dX8_leastAll_153 hl (k := 2) rfl (dn_inc _) (by decide) rfl (fun ls hl => ?_)
                          refine lv_goto (tgt := 75) hx hb dX8_leastAll_156 (by decide) ?_
                          exact ih_61 _ (q8_61 + 1, be_61) _ _ _ (by omega) ⟨rfl, (by omega), hP, hS, (by rw [nI_pred]; exact lv_sub hl [0, 3, 4, 5, 1, 6, 7, 8, 9] rfl)⟩
                        · refine lv_iload hx hb dX8_leastAll_144 (lv_at hl 0 rfl) ?_
                          refine lv_goto (tgt := 151) hx hb dX8_leastAll_146 (by decide) ?_
                          refine lv_istore (lv' := [(4, .int r_75), (9, .int r_75), (8, .int (nI q8_61 - 1)), (7, .int (nI q7_45 - 1)), (6, .int (nI q6_25 - 1)), (5, .int (nI q5_1 - 1)), (3, .int (nI (dn sn))), (0, .ref (a 0)), (1, .int (nI sn)), (2, .int p1)]) hx hb dX8_leastAll_151 hl (by decide) rfl (fun ls hl => ?_)
                          refine lv_iinc (v := (nI q8_61)) (lv' := [(8, .int (nI q8_61)), (4, .int r_75), (9, .int r_75), (7, .int (nI q7_45 - 1)), (6, .int (nI q6_25 - 1)), (5, .int (nI q5_1 - 1)), (3, .int (nI (dn sn))), (0, .ref (a 0)), (1, .int (nI sn)), (2, .int p1)]) hx hb dX8_leastAll_153 hl (k := 2) rfl (dn_inc _) (by decide) rfl (fun ls hl => ?_)
                          refine lv_goto (tgt := 75) hx hb dX8_leastAll_156 (by decide) ?_
                          exact ih_61 _ (q8_61 + 1, r_75) _ _ _ (by omega) ⟨rfl, (by omega), hP, hS, (by rw [nI_pred]; exact lv_sub hl [0, 3, 4, 5, 1, 6, 7, 8, 9] rfl)⟩


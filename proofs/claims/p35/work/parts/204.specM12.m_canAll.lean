theorem dX8_canAll_0 : decode cX8_canAll 0 = .ok (.iload_n 0, 1) := by decide +kernel
theorem dX8_canAll_1 : decode cX8_canAll 1 = .ok (.iload_n 1, 1) := by decide +kernel
theorem dX8_canAll_2 : decode cX8_canAll 2 = .ok (.invokestatic 362, 3) := by decide +kernel
theorem dX8_canAll_5 : decode cX8_canAll 5 = .ok (.ifCond .eq 32, 3) := by decide +kernel
theorem dX8_canAll_8 : decode cX8_canAll 8 = .ok (.iload_n 0, 1) := by decide +kernel
theorem dX8_canAll_9 : decode cX8_canAll 9 = .ok (.iload_n 2, 1) := by decide +kernel
theorem dX8_canAll_10 : decode cX8_canAll 10 = .ok (.invokestatic 362, 3) := by decide +kernel
theorem dX8_canAll_13 : decode cX8_canAll 13 = .ok (.ifCond .eq 24, 3) := by decide +kernel
theorem dX8_canAll_16 : decode cX8_canAll 16 = .ok (.iload_n 0, 1) := by decide +kernel
theorem dX8_canAll_17 : decode cX8_canAll 17 = .ok (.iload_n 3, 1) := by decide +kernel
theorem dX8_canAll_18 : decode cX8_canAll 18 = .ok (.invokestatic 362, 3) := by decide +kernel
theorem dX8_canAll_21 : decode cX8_canAll 21 = .ok (.ifCond .eq 16, 3) := by decide +kernel
theorem dX8_canAll_24 : decode cX8_canAll 24 = .ok (.iload_n 0, 1) := by decide +kernel
theorem dX8_canAll_25 : decode cX8_canAll 25 = .ok (.iload 4, 2) := by decide +kernel
theorem dX8_canAll_27 : decode cX8_canAll 27 = .ok (.invokestatic 362, 3) := by decide +kernel
theorem dX8_canAll_30 : decode cX8_canAll 30 = .ok (.ifCond .eq 7, 3) := by decide +kernel
theorem dX8_canAll_33 : decode cX8_canAll 33 = .ok (.iconst 1, 1) := by decide +kernel
theorem dX8_canAll_34 : decode cX8_canAll 34 = .ok (.goto 4, 3) := by decide +kernel
theorem dX8_canAll_37 : decode cX8_canAll 37 = .ok (.iconst 0, 1) := by decide +kernel
theorem dX8_canAll_38 : decode cX8_canAll 38 = .ok (.istore 5, 2) := by decide +kernel
theorem dX8_canAll_40 : decode cX8_canAll 40 = .ok (.iload 5, 2) := by decide +kernel
theorem dX8_canAll_42 : decode cX8_canAll 42 = .ok (.ifCond .eq 58, 3) := by decide +kernel
theorem dX8_canAll_45 : decode cX8_canAll 45 = .ok (.iload_n 1, 1) := by decide +kernel
theorem dX8_canAll_46 : decode cX8_canAll 46 = .ok (.iload_n 2, 1) := by decide +kernel
theorem dX8_canAll_47 : decode cX8_canAll 47 = .ok (.invokestatic 365, 3) := by decide +kernel
theorem dX8_canAll_50 : decode cX8_canAll 50 = .ok (.ifCond .eq 50, 3) := by decide +kernel
theorem dX8_canAll_53 : decode cX8_canAll 53 = .ok (.iload_n 1, 1) := by decide +kernel
theorem dX8_canAll_54 : decode cX8_canAll 54 = .ok (.iload_n 3, 1) := by decide +kernel
theorem dX8_canAll_55 : decode cX8_canAll 55 = .ok (.invokestatic 365, 3) := by decide +kernel
theorem dX8_canAll_58 : decode cX8_canAll 58 = .ok (.ifCond .eq 42, 3) := by decide +kernel
theorem dX8_canAll_61 : decode cX8_canAll 61 = .ok (.iload_n 1, 1) := by decide +kernel
theorem dX8_canAll_62 : decode cX8_canAll 62 = .ok (.iload 4, 2) := by decide +kernel
theorem dX8_canAll_64 : decode cX8_canAll 64 = .ok (.invokestatic 365, 3) := by decide +kernel
theorem dX8_canAll_67 : decode cX8_canAll 67 = .ok (.ifCond .eq 33, 3) := by decide +kernel
theorem dX8_canAll_70 : decode cX8_canAll 70 = .ok (.iload_n 2, 1) := by decide +kernel
theorem dX8_canAll_71 : decode cX8_canAll 71 = .ok (.iload_n 3, 1) := by decide +kernel
theorem dX8_canAll_72 : decode cX8_canAll 72 = .ok (.invokestatic 365, 3) := by decide +kernel
theorem dX8_canAll_75 : decode cX8_canAll 75 = .ok (.ifCond .eq 25, 3) := by decide +kernel
theorem dX8_canAll_78 : decode cX8_canAll 78 = .ok (.iload_n 2, 1) := by decide +kernel
theorem dX8_canAll_79 : decode cX8_canAll 79 = .ok (.iload 4, 2) := by decide +kernel
theorem dX8_canAll_81 : decode cX8_canAll 81 = .ok (.invokestatic 365, 3) := by decide +kernel
theorem dX8_canAll_84 : decode cX8_canAll 84 = .ok (.ifCond .eq 16, 3) := by decide +kernel
theorem dX8_canAll_87 : decode cX8_canAll 87 = .ok (.iload_n 3, 1) := by decide +kernel
theorem dX8_canAll_88 : decode cX8_canAll 88 = .ok (.iload 4, 2) := by decide +kernel
theorem dX8_canAll_90 : decode cX8_canAll 90 = .ok (.invokestatic 365, 3) := by decide +kernel
theorem dX8_canAll_93 : decode cX8_canAll 93 = .ok (.ifCond .eq 7, 3) := by decide +kernel
theorem dX8_canAll_96 : decode cX8_canAll 96 = .ok (.iconst 1, 1) := by decide +kernel
theorem dX8_canAll_97 : decode cX8_canAll 97 = .ok (.goto 4, 3) := by decide +kernel
theorem dX8_canAll_100 : decode cX8_canAll 100 = .ok (.iconst 0, 1) := by decide +kernel
theorem dX8_canAll_101 : decode cX8_canAll 101 = .ok (.ireturn, 1) := by decide +kernel
set_option maxHeartbeats 4000000 in
set_option maxRecDepth 100000 in
theorem m_canAll (l : Launch) (D : va_G) (k : Nat → ClassId) (st : Nat → Nat) (lo : Nat) (p0 : Int32) (p1 : Int32) (p2 : Int32) (p3 : Int32) (p4 : Int32)  : CRi l D k st lo yX8_canAll cX8_canAll 6 (some .boolean) ({ frames := 1, cells := 0, slots := 0, locals := 21 }) [.int p0, .int p1, .int p2, .int p3, .int p4] [] (fun r => r = 1 ∨ r = 0) := by
  intro sz
  refine Met.ofW (cc := cX8_canAll) (maxL := 6) (ret := (some .boolean)) (by decide) rfl ?_
  intro p e s m args below meth c s₁ B hml hv
  obtain ⟨rfl, hsz, hlo, hP, hK, hDL, hZ⟩ := hv
  have hx := B.exec
  have hb := B.bytes
  have hr := B.returns
  have hts := WS_ts B.pre
  have hown : s.vm.findClass RX8 = some m.cls := findClass_of_methodNamed B.named
  have hlocks := B.notSynchronized
  subst hsz
  have hA : ∀ q : Nat, s.heap.size ≤ q → (fun q : Nat => s.heap.size ≤ q) q := fun _ h => h
  have hAlo : ∀ q : Nat, (fun q : Nat => s.heap.size ≤ q) q → lo ≤ q := fun q h => Nat.le_trans hlo h
  have hS : va_S (fun q : Nat => s.heap.size ≤ q) s.heap s.heap [] := va_S.rf
  have hl := lv_entry ([.int p0, .int p1, .int p2, .int p3, .int p4]) (n := 6) (Nat.le_of_ble_eq_true rfl)
  rw [lg_entry_eq]
  generalize (lg_sl ([.int p0, .int p1, .int p2, .int p3, .int p4]) ++ List.replicate (6 - (lg_sl ([.int p0, .int p1, .int p2, .int p3, .int p4])).length) Slot.unset).toArray = ls at hl ⊢
  have hl : lv_has ls 6 [(0, .int p0), (1, .int p1), (2, .int p2), (3, .int p3), (4, .int p4)] := hl
  refine lv_iload_n hx hb dX8_canAll_0 rfl (lv_at hl 0 rfl) ?_
  refine lv_iload_n hx hb dX8_canAll_1 rfl (lv_at hl 1 rfl) ?_
  refine ro_i (D := D) (va_runS (As := [.int p0, .int p1]) (rest := []) ⟨hx, hb, hml, hown, hts⟩ ((m_canOne l D k st lo p0 p1) s.heap.size) (va_cwS 2 hts (gS tw_1453 tw_1454 tw_87 tw_1455) rfl rfl rfl (by decide +kernel) ⟨Nat.le_of_ble_eq_true rfl, Nat.le_of_ble_eq_true rfl⟩) (pS hS hAlo hlo hP hK hDL hZ [] (by decide) rfl) rfl rfl hl.1 rfl (lv_room (Nat.le_of_ble_eq_true rfl)) dX8_canAll_2 ⟨Nat.le_of_ble_eq_true rfl, Nat.le_of_ble_eq_true rfl⟩) hS hA hP (fun r_1 H locs hw_1 hP hS => ?_)
  try dsimp only at hw_1
  refine lv_if_eq (tgt := 37) hx hb dX8_canAll_5 (by decide) (fun c_2 => ?_) (fun c_2 => ?_)
  · refine lv_iconst (v := 0) hx hb dX8_canAll_37 (by decide) ?_
    refine lv_istore (lv' := [(5, .int 0), (0, .int p0), (1, .int p1), (2, .int p2), (3, .int p3), (4, .int p4)]) hx hb dX8_canAll_38 hl (by decide) rfl (fun ls hl => ?_)
    refine lv_iload hx hb dX8_canAll_40 (lv_at hl 0 rfl) ?_
    refine lv_if_eq (tgt := 100) hx hb dX8_canAll_42 (by decide) (fun _ => ?_) (fun h => absurd (by decide) h)
    refine lv_iconst (v := 0) hx hb dX8_canAll_100 (by decide) ?_
    exact W.zret (v := 0) (ty := .boolean) hx hb hr rfl (fun t ht hW => ⟨⟨0, (), rfl, .inr rfl, trivial⟩, hS.F ht⟩) hS.2.2 dX8_canAll_101
  · refine lv_iload_n hx hb dX8_canAll_8 rfl (lv_at hl 0 rfl) ?_
    refine lv_iload_n hx hb dX8_canAll_9 rfl (lv_at hl 2 rfl) ?_
    refine ro_i (D := D) (va_runS (As := [.int p0, .int p2]) (rest := []) ⟨hx, hb, hml, hown, hts⟩ ((m_canOne l D k st lo p0 p2) H.size) (va_cwS 2 hts (gS tw_1453 tw_1454 tw_87 tw_1455) rfl rfl rfl (by decide +kernel) ⟨Nat.le_of_ble_eq_true rfl, Nat.le_of_ble_eq_true rfl⟩) (pS hS hAlo hlo hP hK hDL hZ [] (by decide) rfl) rfl rfl hl.1 rfl (lv_room (Nat.le_of_ble_eq_true rfl)) dX8_canAll_10 ⟨Nat.le_of_ble_eq_true rfl, Nat.le_of_ble_eq_true rfl⟩) hS hA hP (fun r_3 H locs hw_3 hP hS => ?_)
    try dsimp only at hw_3
    refine lv_if_eq (tgt := 37) hx hb dX8_canAll_13 (by decide) (fun c_4 => ?_) (fun c_4 => ?_)
    · refine lv_iconst (v := 0) hx hb dX8_canAll_37 (by decide) ?_
      refine lv_istore (lv' := [(5, .int 0), (0, .int p0), (1, .int p1), (2, .int p2), (3, .int p3), (4, .int p4)]) hx hb dX8_canAll_38 hl (by decide) rfl (fun ls hl => ?_)
      refine lv_iload hx hb dX8_canAll_40 (lv_at hl 0 rfl) ?_
      refine lv_if_eq (tgt := 100) hx hb dX8_canAll_42 (by decide) (fun _ => ?_) (fun h => absurd (by decide) h)
      refine lv_iconst (v := 0) hx hb dX8_canAll_100 (by decide) ?_
      exact W.zret (v := 0) (ty := .boolean) hx hb hr rfl (fun t ht hW => ⟨⟨0, (), rfl, .inr rfl, trivial⟩, hS.F ht⟩) hS.2.2 dX8_canAll_101
    · refine lv_iload_n hx hb dX8_canAll_16 rfl (lv_at hl 0 rfl) ?_
      refine lv_iload_n hx hb dX8_canAll_17 rfl (lv_at hl 3 rfl) ?_
      refine ro_i (D := D) (va_runS (As := [.int p0, .int p3]) (rest := []) ⟨hx, hb, hml, hown, hts⟩ ((m_canOne l D k st lo p0 p3) H.size) (va_cwS 2 hts (gS tw_1453 tw_1454 tw_87 tw_1455) rfl rfl rfl (by decide +kernel) ⟨Nat.le_of_ble_eq_true rfl, Nat.le_of_ble_eq_true rfl⟩) (pS hS hAlo hlo hP hK hDL hZ [] (by decide) rfl) rfl rfl hl.1 rfl (lv_room (Nat.le_of_ble_eq_true rfl)) dX8_canAll_18 ⟨Nat.le_of_ble_eq_true rfl, Nat.le_of_ble_eq_true rfl⟩) hS hA hP (fun r_5 H locs hw_5 hP hS => ?_)
      try dsimp only at hw_5
      refine lv_if_eq (tgt := 37) hx hb dX8_canAll_21 (by decide) (fun c_6 => ?_) (fun c_6 => ?_)
      · refine lv_iconst (v := 0) hx hb dX8_canAll_37 (by decide) ?_
        refine lv_istore (lv' := [(5, .int 0), (0, .int p0), (1, .int p1), (2, .int p2), (3, .int p3), (4, .int p4)]) hx hb dX8_canAll_38 hl (by decide) rfl (fun ls hl => ?_)
        refine lv_iload hx hb dX8_canAll_40 (lv_at hl 0 rfl) ?_
        refine lv_if_eq (tgt := 100) hx hb dX8_canAll_42 (by decide) (fun _ => ?_) (fun h => absurd (by decide) h)
        refine lv_iconst (v := 0) hx hb dX8_canAll_100 (by decide) ?_
        exact W.zret (v := 0) (ty := .boolean) hx hb hr rfl (fun t ht hW => ⟨⟨0, (), rfl, .inr rfl, trivial⟩, hS.F ht⟩) hS.2.2 dX8_canAll_101
      · refine lv_iload_n hx hb dX8_canAll_24 rfl (lv_at hl 0 rfl) ?_
        refine lv_iload hx hb dX8_canAll_25 (lv_at hl 4 rfl) ?_
        refine ro_i (D := D) (va_runS (As := [.int p0, .int p4]) (rest := []) ⟨hx, hb, hml, hown, hts⟩ ((m_canOne l D k st lo p0 p4) H.size) (va_cwS 2 hts (gS tw_1453 tw_1454 tw_87 tw_1455) rfl rfl rfl (by decide +kernel) ⟨Nat.le_of_ble_eq_true rfl, Nat.le_of_ble_eq_true rfl⟩) (pS hS hAlo hlo hP hK hDL hZ [] (by decide) rfl) rfl rfl hl.1 rfl (lv_room (Nat.le_of_ble_eq_true rfl)) dX8_canAll_27 ⟨Nat.le_of_ble_eq_true rfl, Nat.le_of_ble_eq_true rfl⟩) hS hA hP (fun r_7 H locs hw_7 hP hS => ?_)
        try dsimp only at hw_7
        refine lv_if_eq (tgt := 37) hx hb dX8_canAll_30 (by decide) (fun c_8 => ?_) (fun c_8 => ?_)
        · refine lv_iconst (v := 0) hx hb dX8_canAll_37 (by decide) ?_
          refine lv_istore (lv' := [(5, .int 0), (0, .int p0), (1, .int p1), (2, .int p2), (3, .int p3), (4, .int p4)]) hx hb dX8_canAll_38 hl (by decide) rfl (fun ls hl => ?_)
          refine lv_iload hx hb dX8_canAll_40 (lv_at hl 0 rfl) ?_
          refine lv_if_eq (tgt := 100) hx hb dX8_canAll_42 (by decide) (fun _ => ?_) (fun h => absurd (by decide) h)
          refine lv_iconst (v := 0) hx hb dX8_canAll_100 (by decide) ?_
          exact W.zret (v := 0) (ty := .boolean) hx hb hr rfl (fun t ht hW => ⟨⟨0, (), rfl, .inr rfl, trivial⟩, hS.F ht⟩) hS.2.2 dX8_canAll_101
        · refine lv_iconst (v := 1) hx hb dX8_canAll_33 (by decide) ?_
          refine lv_goto (tgt := 38) hx hb dX8_canAll_34 (by decide) ?_
          refine lv_istore (lv' := [(5, .int 1), (0, .int p0), (1, .int p1), (2, .int p2), (3, .int p3), (4, .int p4)]) hx hb dX8_canAll_38 hl (by decide) rfl (fun ls hl => ?_)
          refine lv_iload hx hb dX8_canAll_40 (lv_at hl 0 rfl) ?_
          refine lv_if_eq (tgt := 100) hx hb dX8_canAll_42 (by decide) (fun h => absurd h (by decide)) (fun _ => ?_)
          refine lv_iload_n hx hb dX8_canAll_45 rfl (lv_at hl 2 rfl) ?_
          refine lv_iload_n hx hb dX8_canAll_46 rfl (lv_at hl 3 rfl) ?_
          refine ro_i (D := D) (va_runS (As := [.int p1, .int p2]) (rest := []) ⟨hx, hb, hml, hown, hts⟩ ((m_areApart l D k st lo p1 p2) H.size) (va_cwS 2 hts (gS tw_1456 tw_1457 tw_87 tw_1458) rfl rfl rfl (by decide +kernel) ⟨Nat.le_of_ble_eq_true rfl, Nat.le_of_ble_eq_true rfl⟩) (pS hS hAlo hlo hP hK hDL hZ [] (by decide) rfl) rfl rfl hl.1 rfl (lv_room (Nat.le_of_ble_eq_true rfl)) dX8_canAll_47 ⟨Nat.le_of_ble_eq_true rfl, Nat.le_of_ble_eq_true rfl⟩) hS hA hP (fun r_9 H locs hw_9 hP hS => ?_)
          try dsimp only at hw_9
          refine lv_if_eq (tgt := 100) hx hb dX8_canAll_50 (by decide) (fun c_10 => ?_) (fun c_10 => ?_)
          · refine lv_iconst (v := 0) hx hb dX8_canAll_100 (by decide) ?_
            exact W.zret (v := 0) (ty := .boolean) hx hb hr rfl (fun t ht hW => ⟨⟨0, (), rfl, .inr rfl, trivial⟩, hS.F ht⟩) hS.2.2 dX8_canAll_101
          · refine lv_iload_n hx hb dX8_canAll_53 rfl (lv_at hl 2 rfl) ?_
            refine lv_iload_n hx hb dX8_canAll_54 rfl (lv_at hl 4 rfl) ?_
            refine ro_i (D := D) (va_runS (As := [.int p1, .int p3]) (rest := []) ⟨hx, hb, hml, hown, hts⟩ ((m_areApart l D k st lo p1 p3) H.size) (va_cwS 2 hts (gS tw_1456 tw_1457 tw_87 tw_1458) rfl rfl rfl (by decide +kernel) ⟨Nat.le_of_ble_eq_true rfl, Nat.le_of_ble_eq_true rfl⟩) (pS hS hAlo hlo hP hK hDL hZ [] (by decide) rfl) rfl rfl hl.1 rfl (lv_room (Nat.le_of_ble_eq_true rfl)) dX8_canAll_55 ⟨Nat.le_of_ble_eq_true rfl, Nat.le_of_ble_eq_true rfl⟩) hS hA hP (fun r_11 H locs hw_11 hP hS => ?_)
            try dsimp only at hw_11
            refine lv_if_eq (tgt := 100) hx hb dX8_canAll_58 (by decide) (fun c_12 => ?_) (fun c_12 => ?_)
            · refine lv_iconst (v := 0) hx hb dX8_canAll_100 (by decide) ?_
              exact W.zret (v := 0) (ty := .boolean) hx hb hr rfl (fun t ht hW => ⟨⟨0, (), rfl, .inr rfl, trivial⟩, hS.F ht⟩) hS.2.2 dX8_canAll_101
            · refine lv_iload_n hx hb dX8_canAll_61 rfl (lv_at hl 2 rfl) ?_
              refine lv_iload hx hb dX8_canAll_62 (lv_at hl 5 rfl) ?_
              refine ro_i (D := D) (va_runS (As := [.int p1, .int p4]) (rest := []) ⟨hx, hb, hml, hown, hts⟩ ((m_areApart l D k st lo p1 p4) H.size) (va_cwS 2 hts (gS tw_1456 tw_1457 tw_87 tw_1458) rfl rfl rfl (by decide +kernel) ⟨Nat.le_of_ble_eq_true rfl, Nat.le_of_ble_eq_true rfl⟩) (pS hS hAlo hlo hP hK hDL hZ [] (by decide) rfl) rfl rfl hl.1 rfl (lv_room (Nat.le_of_ble_eq_true rfl)) dX8_canAll_64 ⟨Nat.le_of_ble_eq_true rfl, Nat.le_of_ble_eq_true rfl⟩) hS hA hP (fun r_13 H locs hw_13 hP hS => ?_)
              try dsimp only at hw_13
              refine lv_if_eq (tgt := 100) hx hb dX8_canAll_67 (by decide) (fun c_14 => ?_) (fun c_14 => ?_)
              · refine lv_iconst (v := 0) hx hb dX8_canAll_100 (by decide) ?_
                exact W.zret (v := 0) (ty := .boolean) hx hb hr rfl (fun t ht hW => ⟨⟨0, (), rfl, .inr rfl, trivial⟩, hS.F ht⟩) hS.2.2 dX8_canAll_101
              · refine lv_iload_n hx hb dX8_canAll_70 rfl (lv_at hl 3 rfl) ?_
                refine lv_iload_n hx hb dX8_canAll_71 rfl (lv_at hl 4 rfl) ?_
                refine ro_i (D := D) (va_runS (As := [.int p2, .int p3]) (rest := []) ⟨hx, hb, hml, hown, hts⟩ ((m_areApart l D k st lo p2 p3) H.size) (va_cwS 2 hts (gS tw_1456 tw_1457 tw_87 tw_1458) rfl rfl rfl (by decide +kernel) ⟨Nat.le_of_ble_eq_true rfl, Nat.le_of_ble_eq_true rfl⟩) (pS hS hAlo hlo hP hK hDL hZ [] (by decide) rfl) rfl rfl hl.1 rfl (lv_room (Nat.le_of_ble_eq_true rfl)) dX8_canAll_72 ⟨Nat.le_of_ble_eq_true rfl, Nat.le_of_ble_eq_true rfl⟩) hS hA hP (fun r_15 H locs hw_15 hP hS => ?_)
                try dsimp only at hw_15
                refine lv_if_eq (tgt := 100) hx hb dX8_canAll_75 (by decide) (fun c_16 => ?_) (fun c_16 => ?_)
                · refine lv_iconst (v := 0) hx hb dX8_canAll_100 (by decide) ?_
                  exact W.zret (v := 0) (ty := .boolean) hx hb hr rfl (fun t ht hW => ⟨⟨0, (), rfl, .inr rfl, trivial⟩, hS.F ht⟩) hS.2.2 dX8_canAll_101
                · refine lv_iload_n hx hb dX8_canAll_78 rfl (lv_at hl 3 rfl) ?_
                  refine lv_iload hx hb dX8_canAll_79 (lv_at hl 5 rfl) ?_
                  refine ro_i (D := D) (va_runS (As := [.int p2, .int p4]) (rest := []) ⟨hx, hb, hml, hown, hts⟩ ((m_areApart l D k st lo p2 p4) H.size) (va_cwS 2 hts (gS tw_1456 tw_1457 tw_87 tw_1458) rfl rfl rfl (by decide +kernel) ⟨Nat.le_of_ble_eq_true rfl, Nat.le_of_ble_eq_true rfl⟩) (pS hS hAlo hlo hP hK hDL hZ [] (by decide) rfl) rfl rfl hl.1 rfl (lv_room (Nat.le_of_ble_eq_true rfl)) dX8_canAll_81 ⟨Nat.le_of_ble_eq_true rfl, Nat.le_of_ble_eq_true rfl⟩) hS hA hP (fun r_17 H locs hw_17 hP hS => ?_)
                  try dsimp only at hw_17
                  refine lv_if_eq (tgt := 100) hx hb dX8_canAll_84 (by decide) (fun c_18 => ?_) (fun c_18 => ?_)
                  · refine lv_iconst (v := 0) hx hb dX8_canAll_100 (by decide) ?_
                    exact W.zret (v := 0) (ty := .boolean) hx hb hr rfl (fun t ht hW => ⟨⟨0, (), rfl, .inr rfl, trivial⟩, hS.F ht⟩) hS.2.2 dX8_canAll_101
                  · refine lv_iload_n hx hb dX8_canAll_87 rfl (lv_at hl 4 rfl) ?_
                    refine lv_iload hx hb dX8_canAll_88 (lv_at hl 5 rfl) ?_
                    refine ro_i (D := D) (va_runS (As := [.int p3, .int p4]) (rest := []) ⟨hx, hb, hml, hown, hts⟩ ((m_areApart l D k st lo p3 p4) H.size) (va_cwS 2 hts (gS tw_1456 tw_1457 tw_87 tw_1458) rfl rfl rfl (by decide +kernel) ⟨Nat.le_of_ble_eq_true rfl, Nat.le_of_ble_eq_true rfl⟩) (pS hS hAlo hlo hP hK hDL hZ [] (by decide) rfl) rfl rfl hl.1 rfl (lv_room (Nat.le_of_ble_eq_true rfl)) dX8_canAll_90 ⟨Nat.le_of_ble_eq_true rfl, Nat.le_of_ble_eq_true rfl⟩) hS hA hP (fun r_19 H locs hw_19 hP hS => ?_)
                    try dsimp only at hw_19
                    refine lv_if_eq (tgt := 100) hx hb dX8_canAll_93 (by decide) (fun c_20 => ?_) (fun c_20 => ?_)
                    · refine lv_iconst (v := 0) hx hb dX8_canAll_100 (by decide) ?_
                      exact W.zret (v := 0) (ty := .boolean) hx hb hr rfl (fun t ht hW => ⟨⟨0, (), rfl, .inr rfl, trivial⟩, hS.F ht⟩) hS.2.2 dX8_canAll_101
                    · refine lv_iconst (v := 1) hx hb dX8_canAll_96 (by decide) ?_
                      refine lv_goto (tgt := 101) hx hb dX8_canAll_97 (by decide) ?_
                      exact W.zret (v := 1) (ty := .boolean) hx hb hr rfl (fun t ht hW => ⟨⟨1, (), rfl, .inl rfl, trivial⟩, hS.F ht⟩) hS.2.2 dX8_canAll_101


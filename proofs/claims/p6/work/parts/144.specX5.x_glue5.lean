theorem x_glue5 : True := trivial
theorem whsplit {n : Nat} (h : n ≤ 2) : n = 0 ∨ n = 1 ∨ n = 2 := by omega

theorem dX2_garageShare_0 : decode cX2_garageShare 0 = .ok (.iload_n 2, 1) := by decide +kernel
theorem dX2_garageShare_1 : decode cX2_garageShare 1 = .ok (.lookupswitch 48 #[(0, 27), (1, 33)], 27) := by decide +kernel
theorem dX2_garageShare_28 : decode cX2_garageShare 28 = .ok (.aload_n 0, 1) := by decide +kernel
theorem dX2_garageShare_29 : decode cX2_garageShare 29 = .ok (.iload_n 1, 1) := by decide +kernel
theorem dX2_garageShare_30 : decode cX2_garageShare 30 = .ok (.invokevirtual 48, 3) := by decide +kernel
theorem dX2_garageShare_33 : decode cX2_garageShare 33 = .ok (.ireturn, 1) := by decide +kernel
theorem dX2_garageShare_34 : decode cX2_garageShare 34 = .ok (.aload_n 0, 1) := by decide +kernel
theorem dX2_garageShare_35 : decode cX2_garageShare 35 = .ok (.iload_n 1, 1) := by decide +kernel
theorem dX2_garageShare_36 : decode cX2_garageShare 36 = .ok (.invokevirtual 52, 3) := by decide +kernel
theorem dX2_garageShare_39 : decode cX2_garageShare 39 = .ok (.ifCond .eq 8, 3) := by decide +kernel
theorem dX2_garageShare_42 : decode cX2_garageShare 42 = .ok (.ldc 56, 2) := by decide +kernel
theorem dX2_garageShare_44 : decode cX2_garageShare 44 = .ok (.goto 4, 3) := by decide +kernel
theorem dX2_garageShare_47 : decode cX2_garageShare 47 = .ok (.iconst 0, 1) := by decide +kernel
theorem dX2_garageShare_48 : decode cX2_garageShare 48 = .ok (.ireturn, 1) := by decide +kernel
theorem dX2_garageShare_49 : decode cX2_garageShare 49 = .ok (.ldc 56, 2) := by decide +kernel
theorem dX2_garageShare_51 : decode cX2_garageShare 51 = .ok (.ireturn, 1) := by decide +kernel
set_option maxHeartbeats 4000000 in
set_option maxRecDepth 100000 in
theorem x_garageShare (l : Launch) (D : va_G) (k : Nat → ClassId) (st : Nat → Nat) (lo : Nat) (h0 : Nat) (h1 : Nat) (h2 : Nat) (h3 : Nat) (h4 : Nat) (n : Nat) (see : Nat) (tm : Nat) (g : Nat → Int32) (fl : Nat → Int32) (rn : Nat) (wh : Nat) (hrn : rn ≤ 3) (hwh : wh ≤ 2) : CRi l D k st lo yX2_garageShare cX2_garageShare 3 (some .int) ({ frames := 2, cells := 0, slots := 0, locals := 42 }) [.ref h0, .int (nI rn), .int (nI wh)] [(h0, .inr (5, (fX5 h1 h2 h3 h4))), (aI k h1 10 (vv n see tm g)), (aI k h4 4 fl)] (fun _ => True) := by
  intro sz
  refine Met.ofW (cc := cX2_garageShare) (maxL := 3) (ret := (some .int)) (by decide) rfl ?_
  intro p e s m args below meth c s₁ B hml hv
  obtain ⟨rfl, hsz, hlo, hP, hK, hDL, hZ⟩ := hv
  have hx := B.exec
  have hb := B.bytes
  have hr := B.returns
  have hts := WS_ts B.pre
  have hown : s.vm.findClass RX2 = some m.cls := findClass_of_methodNamed B.named
  have hlocks := B.notSynchronized
  subst hsz
  have hA : ∀ q : Nat, s.heap.size ≤ q → (fun q : Nat => s.heap.size ≤ q) q := fun _ h => h
  have hAlo : ∀ q : Nat, (fun q : Nat => s.heap.size ≤ q) q → lo ≤ q := fun q h => Nat.le_trans hlo h
  have hS : va_S (fun q : Nat => s.heap.size ≤ q) s.heap s.heap [] := va_S.rf
  have hl := lv_entry ([.ref h0, .int (nI rn), .int (nI wh)]) (n := 3) (Nat.le_of_ble_eq_true rfl)
  rw [lg_entry_eq]
  generalize (lg_sl ([.ref h0, .int (nI rn), .int (nI wh)]) ++ List.replicate (3 - (lg_sl ([.ref h0, .int (nI rn), .int (nI wh)])).length) Slot.unset).toArray = ls at hl ⊢
  have hl : lv_has ls 3 [(0, .ref h0), (1, .int (nI rn)), (2, .int (nI wh))] := hl
  rcases whsplit hwh with rfl | rfl | rfl
  · refine lv_iload_n hx hb dX2_garageShare_0 rfl (lv_at hl 2 rfl) ?_
    refine lv_lookup (tgt := 28) (off := 27) hx hb dX2_garageShare_1 (by decide) (by decide) (by decide) ?_
    refine lv_aload_n hx hb dX2_garageShare_28 rfl (lv_at hl 0 rfl) ?_
    refine lv_iload_n hx hb dX2_garageShare_29 rfl (lv_at hl 1 rfl) ?_
    refine ro_i (D := D) (va_runV (As := [.int (nI rn)]) (rest := []) ⟨hx, hb, hml, hown, hts⟩ ((x_garageOf l D k st lo h0 h1 h2 h3 h4 n see tm g fl rn (by omega)) s.heap.size) (cwV 1 hts (gV tw_713 tw_521 tw_522 tw_81 tw_523) rfl rfl rfl (by decide +kernel) ⟨Nat.le_of_ble_eq_true rfl, Nat.le_of_ble_eq_true rfl⟩) (pV hS hAlo hlo hP hK hDL hZ [0, 1, 2] (by decide) rfl (ci := 5) (q := (RX5, TX5, 4)) (q0 := 0) rfl rfl) rfl rfl hl.1 rfl (lv_room (Nat.le_of_ble_eq_true rfl)) dX2_garageShare_30 ⟨Nat.le_of_ble_eq_true rfl, Nat.le_of_ble_eq_true rfl⟩) hS hA hP (fun r_1 H locs hw_1 hP hS => ?_)
    try dsimp only at hw_1
    exact W.iret (v := r_1) hx hb hr (fun t ht hW => ⟨⟨r_1, (), rfl, trivial, trivial⟩, hS.F ht⟩) hS.2.2 dX2_garageShare_33
  · refine lv_iload_n hx hb dX2_garageShare_0 rfl (lv_at hl 2 rfl) ?_
    refine lv_lookup (tgt := 34) (off := 33) hx hb dX2_garageShare_1 (by decide) (by decide) (by decide) ?_
    refine lv_aload_n hx hb dX2_garageShare_34 rfl (lv_at hl 0 rfl) ?_
    refine lv_iload_n hx hb dX2_garageShare_35 rfl (lv_at hl 1 rfl) ?_
    refine ro_i (D := D) (va_runV (As := [.int (nI rn)]) (rest := []) ⟨hx, hb, hml, hown, hts⟩ ((x_isLateIn l D k st lo h0 h1 h2 h3 h4 n see tm g rn) s.heap.size) (cwV 1 hts (gV tw_714 tw_715 tw_716 tw_81 tw_717) rfl rfl rfl (by decide +kernel) ⟨Nat.le_of_ble_eq_true rfl, Nat.le_of_ble_eq_true rfl⟩) (pV hS hAlo hlo hP hK hDL hZ [0, 1] (by decide) rfl (ci := 5) (q := (RX5, TX5, 4)) (q0 := 0) rfl rfl) rfl rfl hl.1 rfl (lv_room (Nat.le_of_ble_eq_true rfl)) dX2_garageShare_36 ⟨Nat.le_of_ble_eq_true rfl, Nat.le_of_ble_eq_true rfl⟩) hS hA hP (fun r_2 H locs hw_2 hP hS => ?_)
    try dsimp only at hw_2
    refine lv_if_eq (tgt := 47) hx hb dX2_garageShare_39 (by decide) (fun c_3 => ?_) (fun c_3 => ?_)
    · refine lv_iconst (v := 0) hx hb dX2_garageShare_47 (by decide) ?_
      exact W.iret (v := 0) hx hb hr (fun t ht hW => ⟨⟨0, (), rfl, trivial, trivial⟩, hS.F ht⟩) hS.2.2 dX2_garageShare_48
    · refine lv_ldc hx hb hown (hts _ tw_718) dX2_garageShare_42 ?_
      refine lv_goto (tgt := 48) hx hb dX2_garageShare_44 (by decide) ?_
      exact W.iret (v := 1000000) hx hb hr (fun t ht hW => ⟨⟨1000000, (), rfl, trivial, trivial⟩, hS.F ht⟩) hS.2.2 dX2_garageShare_48
  · refine lv_iload_n hx hb dX2_garageShare_0 rfl (lv_at hl 2 rfl) ?_
    refine lv_lookup (tgt := 49) (off := 48) hx hb dX2_garageShare_1 (by decide) (by decide) (by decide) ?_
    refine lv_ldc hx hb hown (hts _ tw_718) dX2_garageShare_49 ?_
    exact W.iret (v := 1000000) hx hb hr (fun t ht hW => ⟨⟨1000000, (), rfl, trivial, trivial⟩, hS.F ht⟩) hS.2.2 dX2_garageShare_51

theorem dX2_doorShare_0 : decode cX2_doorShare 0 = .ok (.iload_n 3, 1) := by decide +kernel
theorem dX2_doorShare_1 : decode cX2_doorShare 1 = .ok (.lookupswitch 49 #[(0, 27), (1, 34)], 27) := by decide +kernel
theorem dX2_doorShare_28 : decode cX2_doorShare 28 = .ok (.aload_n 0, 1) := by decide +kernel
theorem dX2_doorShare_29 : decode cX2_doorShare 29 = .ok (.iload_n 1, 1) := by decide +kernel
theorem dX2_doorShare_30 : decode cX2_doorShare 30 = .ok (.iload_n 2, 1) := by decide +kernel
theorem dX2_doorShare_31 : decode cX2_doorShare 31 = .ok (.invokevirtual 57, 3) := by decide +kernel
theorem dX2_doorShare_34 : decode cX2_doorShare 34 = .ok (.ireturn, 1) := by decide +kernel
theorem dX2_doorShare_35 : decode cX2_doorShare 35 = .ok (.aload_n 0, 1) := by decide +kernel
theorem dX2_doorShare_36 : decode cX2_doorShare 36 = .ok (.iload_n 1, 1) := by decide +kernel
theorem dX2_doorShare_37 : decode cX2_doorShare 37 = .ok (.invokevirtual 52, 3) := by decide +kernel
theorem dX2_doorShare_40 : decode cX2_doorShare 40 = .ok (.ifCond .eq 8, 3) := by decide +kernel
theorem dX2_doorShare_43 : decode cX2_doorShare 43 = .ok (.ldc 56, 2) := by decide +kernel
theorem dX2_doorShare_45 : decode cX2_doorShare 45 = .ok (.goto 4, 3) := by decide +kernel
theorem dX2_doorShare_48 : decode cX2_doorShare 48 = .ok (.iconst 0, 1) := by decide +kernel
theorem dX2_doorShare_49 : decode cX2_doorShare 49 = .ok (.ireturn, 1) := by decide +kernel
theorem dX2_doorShare_50 : decode cX2_doorShare 50 = .ok (.iconst 0, 1) := by decide +kernel
theorem dX2_doorShare_51 : decode cX2_doorShare 51 = .ok (.ireturn, 1) := by decide +kernel
set_option maxHeartbeats 4000000 in
set_option maxRecDepth 100000 in
theorem x_doorShare (l : Launch) (D : va_G) (k : Nat → ClassId) (st : Nat → Nat) (lo : Nat) (h0 : Nat) (h1 : Nat) (h2 : Nat) (h3 : Nat) (h4 : Nat) (n : Nat) (see : Nat) (tm : Nat) (g : Nat → Int32) (fp : Nat → Int32) (fl : Nat → Int32) (rn : Nat) (i : Nat) (wh : Nat) (hrn : rn ≤ 3) (hi : i < 24) (hwh : wh ≤ 2) : CRi l D k st lo yX2_doorShare cX2_doorShare 4 (some .int) ({ frames := 2, cells := 0, slots := 0, locals := 45 }) [.ref h0, .int (nI rn), .int (nI i), .int (nI wh)] [(h0, .inr (5, (fX5 h1 h2 h3 h4))), (aI k h1 10 (vv n see tm g)), (aI k h3 24 fp), (aI k h4 4 fl)] (fun _ => True) := by
  intro sz
  refine Met.ofW (cc := cX2_doorShare) (maxL := 4) (ret := (some .int)) (by decide) rfl ?_
  intro p e s m args below meth c s₁ B hml hv
  obtain ⟨rfl, hsz, hlo, hP, hK, hDL, hZ⟩ := hv
  have hx := B.exec
  have hb := B.bytes
  have hr := B.returns
  have hts := WS_ts B.pre
  have hown : s.vm.findClass RX2 = some m.cls := findClass_of_methodNamed B.named
  have hlocks := B.notSynchronized
  subst hsz
  have hA : ∀ q : Nat, s.heap.size ≤ q → (fun q : Nat => s.heap.size ≤ q) q := fun _ h => h
  have hAlo : ∀ q : Nat, (fun q : Nat => s.heap.size ≤ q) q → lo ≤ q := fun q h => Nat.le_trans hlo h
  have hS : va_S (fun q : Nat => s.heap.size ≤ q) s.heap s.heap [] := va_S.rf
  have hl := lv_entry ([.ref h0, .int (nI rn), .int (nI i), .int (nI wh)]) (n := 4) (Nat.le_of_ble_eq_true rfl)
  rw [lg_entry_eq]
  generalize (lg_sl ([.ref h0, .int (nI rn), .int (nI i), .int (nI wh)]) ++ List.replicate (4 - (lg_sl ([.ref h0, .int (nI rn), .int (nI i), .int (nI wh)])).length) Slot.unset).toArray = ls at hl ⊢
  have hl : lv_has ls 4 [(0, .ref h0), (1, .int (nI rn)), (2, .int (nI i)), (3, .int (nI wh))] := hl
  rcases whsplit hwh with rfl | rfl | rfl
  · refine lv_iload_n hx hb dX2_doorShare_0 rfl (lv_at hl 3 rfl) ?_
    refine lv_lookup (tgt := 28) (off := 27) hx hb dX2_doorShare_1 (by decide) (by decide) (by decide) ?_
    refine lv_aload_n hx hb dX2_doorShare_28 rfl (lv_at hl 0 rfl) ?_
    refine lv_iload_n hx hb dX2_doorShare_29 rfl (lv_at hl 1 rfl) ?_
    refine lv_iload_n hx hb dX2_doorShare_30 rfl (lv_at hl 2 rfl) ?_
    refine ro_i (D := D) (va_runV (As := [.int (nI rn), .int (nI i)]) (rest := []) ⟨hx, hb, hml, hown, hts⟩ ((x_takingOf l D k st lo h0 h1 h2 h3 h4 n see tm g fp fl rn i (by omega) (by omega)) s.heap.size) (cwV 2 hts (gV tw_728 tw_557 tw_558 tw_81 tw_559) rfl rfl rfl (by decide +kernel) ⟨Nat.le_of_ble_eq_true rfl, Nat.le_of_ble_eq_true rfl⟩) (pV hS hAlo hlo hP hK hDL hZ [0, 1, 2, 3] (by decide) rfl (ci := 5) (q := (RX5, TX5, 4)) (q0 := 0) rfl rfl) rfl rfl hl.1 rfl (lv_room (Nat.le_of_ble_eq_true rfl)) dX2_doorShare_31 ⟨Nat.le_of_ble_eq_true rfl, Nat.le_of_ble_eq_true rfl⟩) hS hA hP (fun r_1 H locs hw_1 hP hS => ?_)
    try dsimp only at hw_1
    exact W.iret (v := r_1) hx hb hr (fun t ht hW => ⟨⟨r_1, (), rfl, trivial, trivial⟩, hS.F ht⟩) hS.2.2 dX2_doorShare_34
  · refine lv_iload_n hx hb dX2_doorShare_0 rfl (lv_at hl 3 rfl) ?_
    refine lv_lookup (tgt := 35) (off := 34) hx hb dX2_doorShare_1 (by decide) (by decide) (by decide) ?_
    refine lv_aload_n hx hb dX2_doorShare_35 rfl (lv_at hl 0 rfl) ?_
    refine lv_iload_n hx hb dX2_doorShare_36 rfl (lv_at hl 1 rfl) ?_
    refine ro_i (D := D) (va_runV (As := [.int (nI rn)]) (rest := []) ⟨hx, hb, hml, hown, hts⟩ ((x_isLateIn l D k st lo h0 h1 h2 h3 h4 n see tm g rn) s.heap.size) (cwV 1 hts (gV tw_714 tw_715 tw_716 tw_81 tw_717) rfl rfl rfl (by decide +kernel) ⟨Nat.le_of_ble_eq_true rfl, Nat.le_of_ble_eq_true rfl⟩) (pV hS hAlo hlo hP hK hDL hZ [0, 1] (by decide) rfl (ci := 5) (q := (RX5, TX5, 4)) (q0 := 0) rfl rfl) rfl rfl hl.1 rfl (lv_room (Nat.le_of_ble_eq_true rfl)) dX2_doorShare_37 ⟨Nat.le_of_ble_eq_true rfl, Nat.le_of_ble_eq_true rfl⟩) hS hA hP (fun r_2 H locs hw_2 hP hS => ?_)
    try dsimp only at hw_2
    refine lv_if_eq (tgt := 48) hx hb dX2_doorShare_40 (by decide) (fun c_3 => ?_) (fun c_3 => ?_)
    · refine lv_iconst (v := 0) hx hb dX2_doorShare_48 (by decide) ?_
      exact W.iret (v := 0) hx hb hr (fun t ht hW => ⟨⟨0, (), rfl, trivial, trivial⟩, hS.F ht⟩) hS.2.2 dX2_doorShare_49
    · refine lv_ldc hx hb hown (hts _ tw_718) dX2_doorShare_43 ?_
      refine lv_goto (tgt := 49) hx hb dX2_doorShare_45 (by decide) ?_
      exact W.iret (v := 1000000) hx hb hr (fun t ht hW => ⟨⟨1000000, (), rfl, trivial, trivial⟩, hS.F ht⟩) hS.2.2 dX2_doorShare_49
  · refine lv_iload_n hx hb dX2_doorShare_0 rfl (lv_at hl 3 rfl) ?_
    refine lv_lookup (tgt := 50) (off := 49) hx hb dX2_doorShare_1 (by decide) (by decide) (by decide) ?_
    refine lv_iconst (v := 0) hx hb dX2_doorShare_50 (by decide) ?_
    exact W.iret (v := 0) hx hb hr (fun t ht hW => ⟨⟨0, (), rfl, trivial, trivial⟩, hS.F ht⟩) hS.2.2 dX2_doorShare_51

theorem dX2_meanOfRound_0 : decode cX2_meanOfRound 0 = .ok (.iconst 0, 1) := by decide +kernel
theorem dX2_meanOfRound_1 : decode cX2_meanOfRound 1 = .ok (.istore 6, 2) := by decide +kernel
theorem dX2_meanOfRound_3 : decode cX2_meanOfRound 3 = .ok (.iload 6, 2) := by decide +kernel
theorem dX2_meanOfRound_5 : decode cX2_meanOfRound 5 = .ok (.aload_n 1, 1) := by decide +kernel
theorem dX2_meanOfRound_6 : decode cX2_meanOfRound 6 = .ok (.invokevirtual 61, 3) := by decide +kernel
theorem dX2_meanOfRound_9 : decode cX2_meanOfRound 9 = .ok (.if_icmp .gt 27, 3) := by decide +kernel
theorem dX2_meanOfRound_12 : decode cX2_meanOfRound 12 = .ok (.aload_n 0, 1) := by decide +kernel
theorem dX2_meanOfRound_13 : decode cX2_meanOfRound 13 = .ok (.getfield 9, 3) := by decide +kernel
theorem dX2_meanOfRound_16 : decode cX2_meanOfRound 16 = .ok (.iload 6, 2) := by decide +kernel
theorem dX2_meanOfRound_18 : decode cX2_meanOfRound 18 = .ok (.iload 5, 2) := by decide +kernel
theorem dX2_meanOfRound_20 : decode cX2_meanOfRound 20 = .ok (.iastore, 1) := by decide +kernel
theorem dX2_meanOfRound_21 : decode cX2_meanOfRound 21 = .ok (.aload_n 0, 1) := by decide +kernel
theorem dX2_meanOfRound_22 : decode cX2_meanOfRound 22 = .ok (.getfield 15, 3) := by decide +kernel
theorem dX2_meanOfRound_25 : decode cX2_meanOfRound 25 = .ok (.iload 6, 2) := by decide +kernel
theorem dX2_meanOfRound_27 : decode cX2_meanOfRound 27 = .ok (.iload 5, 2) := by decide +kernel
theorem dX2_meanOfRound_29 : decode cX2_meanOfRound 29 = .ok (.iastore, 1) := by decide +kernel
theorem dX2_meanOfRound_30 : decode cX2_meanOfRound 30 = .ok (.iinc 6 1, 3) := by decide +kernel
theorem dX2_meanOfRound_33 : decode cX2_meanOfRound 33 = .ok (.goto (-30), 3) := by decide +kernel
theorem dX2_meanOfRound_36 : decode cX2_meanOfRound 36 = .ok (.iload_n 3, 1) := by decide +kernel
theorem dX2_meanOfRound_37 : decode cX2_meanOfRound 37 = .ok (.ifCond .ne 10, 3) := by decide +kernel
theorem dX2_meanOfRound_40 : decode cX2_meanOfRound 40 = .ok (.aload_n 1, 1) := by decide +kernel
theorem dX2_meanOfRound_41 : decode cX2_meanOfRound 41 = .ok (.invokevirtual 64, 3) := by decide +kernel
theorem dX2_meanOfRound_44 : decode cX2_meanOfRound 44 = .ok (.goto 4, 3) := by decide +kernel
theorem dX2_meanOfRound_47 : decode cX2_meanOfRound 47 = .ok (.iconst 0, 1) := by decide +kernel
theorem dX2_meanOfRound_48 : decode cX2_meanOfRound 48 = .ok (.istore 6, 2) := by decide +kernel
theorem dX2_meanOfRound_50 : decode cX2_meanOfRound 50 = .ok (.aload_n 1, 1) := by decide +kernel
theorem dX2_meanOfRound_51 : decode cX2_meanOfRound 51 = .ok (.invokevirtual 61, 3) := by decide +kernel
theorem dX2_meanOfRound_54 : decode cX2_meanOfRound 54 = .ok (.iconst 1, 1) := by decide +kernel
theorem dX2_meanOfRound_55 : decode cX2_meanOfRound 55 = .ok (.isub, 1) := by decide +kernel
theorem dX2_meanOfRound_56 : decode cX2_meanOfRound 56 = .ok (.istore 7, 2) := by decide +kernel
theorem dX2_meanOfRound_58 : decode cX2_meanOfRound 58 = .ok (.iload 7, 2) := by decide +kernel
theorem dX2_meanOfRound_60 : decode cX2_meanOfRound 60 = .ok (.ifCond .lt 132, 3) := by decide +kernel
theorem dX2_meanOfRound_63 : decode cX2_meanOfRound 63 = .ok (.aload_n 1, 1) := by decide +kernel
theorem dX2_meanOfRound_64 : decode cX2_meanOfRound 64 = .ok (.iload 4, 2) := by decide +kernel
theorem dX2_meanOfRound_66 : decode cX2_meanOfRound 66 = .ok (.iload 7, 2) := by decide +kernel
theorem dX2_meanOfRound_68 : decode cX2_meanOfRound 68 = .ok (.iload_n 3, 1) := by decide +kernel
theorem dX2_meanOfRound_69 : decode cX2_meanOfRound 69 = .ok (.invokestatic 67, 3) := by decide +kernel
theorem dX2_meanOfRound_72 : decode cX2_meanOfRound 72 = .ok (.istore 8, 2) := by decide +kernel
theorem dX2_meanOfRound_74 : decode cX2_meanOfRound 74 = .ok (.iconst 0, 1) := by decide +kernel
theorem dX2_meanOfRound_75 : decode cX2_meanOfRound 75 = .ok (.istore 9, 2) := by decide +kernel
theorem dX2_meanOfRound_77 : decode cX2_meanOfRound 77 = .ok (.iload 9, 2) := by decide +kernel
theorem dX2_meanOfRound_79 : decode cX2_meanOfRound 79 = .ok (.iload 7, 2) := by decide +kernel
theorem dX2_meanOfRound_81 : decode cX2_meanOfRound 81 = .ok (.if_icmp .gt 105, 3) := by decide +kernel
theorem dX2_meanOfRound_84 : decode cX2_meanOfRound 84 = .ok (.iload 7, 2) := by decide +kernel
theorem dX2_meanOfRound_86 : decode cX2_meanOfRound 86 = .ok (.aload_n 2, 1) := by decide +kernel
theorem dX2_meanOfRound_87 : decode cX2_meanOfRound 87 = .ok (.iload 9, 2) := by decide +kernel
theorem dX2_meanOfRound_89 : decode cX2_meanOfRound 89 = .ok (.invokevirtual 71, 3) := by decide +kernel
theorem dX2_meanOfRound_92 : decode cX2_meanOfRound 92 = .ok (.if_icmp .lt 7, 3) := by decide +kernel
theorem dX2_meanOfRound_95 : decode cX2_meanOfRound 95 = .ok (.iconst 1, 1) := by decide +kernel
theorem dX2_meanOfRound_96 : decode cX2_meanOfRound 96 = .ok (.goto 4, 3) := by decide +kernel
theorem dX2_meanOfRound_99 : decode cX2_meanOfRound 99 = .ok (.iconst 0, 1) := by decide +kernel
theorem dX2_meanOfRound_100 : decode cX2_meanOfRound 100 = .ok (.istore 10, 2) := by decide +kernel
theorem dX2_meanOfRound_102 : decode cX2_meanOfRound 102 = .ok (.iload 10, 2) := by decide +kernel
theorem dX2_meanOfRound_104 : decode cX2_meanOfRound 104 = .ok (.ifCond .eq 8, 3) := by decide +kernel
theorem dX2_meanOfRound_107 : decode cX2_meanOfRound 107 = .ok (.iload 8, 2) := by decide +kernel
theorem dX2_meanOfRound_109 : decode cX2_meanOfRound 109 = .ok (.goto 15, 3) := by decide +kernel
theorem dX2_meanOfRound_112 : decode cX2_meanOfRound 112 = .ok (.iload 6, 2) := by decide +kernel
theorem dX2_meanOfRound_114 : decode cX2_meanOfRound 114 = .ok (.aload_n 0, 1) := by decide +kernel
theorem dX2_meanOfRound_115 : decode cX2_meanOfRound 115 = .ok (.getfield 9, 3) := by decide +kernel
theorem dX2_meanOfRound_118 : decode cX2_meanOfRound 118 = .ok (.iload 9, 2) := by decide +kernel
theorem dX2_meanOfRound_120 : decode cX2_meanOfRound 120 = .ok (.iconst 1, 1) := by decide +kernel
theorem dX2_meanOfRound_121 : decode cX2_meanOfRound 121 = .ok (.iadd, 1) := by decide +kernel
theorem dX2_meanOfRound_122 : decode cX2_meanOfRound 122 = .ok (.iaload, 1) := by decide +kernel
theorem dX2_meanOfRound_123 : decode cX2_meanOfRound 123 = .ok (.iadd, 1) := by decide +kernel
theorem dX2_meanOfRound_124 : decode cX2_meanOfRound 124 = .ok (.istore 11, 2) := by decide +kernel
theorem dX2_meanOfRound_126 : decode cX2_meanOfRound 126 = .ok (.iload 6, 2) := by decide +kernel
theorem dX2_meanOfRound_128 : decode cX2_meanOfRound 128 = .ok (.aload_n 0, 1) := by decide +kernel
theorem dX2_meanOfRound_129 : decode cX2_meanOfRound 129 = .ok (.getfield 15, 3) := by decide +kernel
theorem dX2_meanOfRound_132 : decode cX2_meanOfRound 132 = .ok (.iload 9, 2) := by decide +kernel
theorem dX2_meanOfRound_134 : decode cX2_meanOfRound 134 = .ok (.iaload, 1) := by decide +kernel
theorem dX2_meanOfRound_135 : decode cX2_meanOfRound 135 = .ok (.iadd, 1) := by decide +kernel
theorem dX2_meanOfRound_136 : decode cX2_meanOfRound 136 = .ok (.istore 12, 2) := by decide +kernel
theorem dX2_meanOfRound_138 : decode cX2_meanOfRound 138 = .ok (.aload_n 0, 1) := by decide +kernel
theorem dX2_meanOfRound_139 : decode cX2_meanOfRound 139 = .ok (.getfield 9, 3) := by decide +kernel
theorem dX2_meanOfRound_142 : decode cX2_meanOfRound 142 = .ok (.iload 9, 2) := by decide +kernel
theorem dX2_meanOfRound_144 : decode cX2_meanOfRound 144 = .ok (.aload_n 1, 1) := by decide +kernel
theorem dX2_meanOfRound_145 : decode cX2_meanOfRound 145 = .ok (.iload 7, 2) := by decide +kernel
theorem dX2_meanOfRound_147 : decode cX2_meanOfRound 147 = .ok (.iconst 1, 1) := by decide +kernel
theorem dX2_meanOfRound_148 : decode cX2_meanOfRound 148 = .ok (.invokevirtual 74, 3) := by decide +kernel
theorem dX2_meanOfRound_151 : decode cX2_meanOfRound 151 = .ok (.iload 11, 2) := by decide +kernel
theorem dX2_meanOfRound_153 : decode cX2_meanOfRound 153 = .ok (.iload 12, 2) := by decide +kernel
theorem dX2_meanOfRound_155 : decode cX2_meanOfRound 155 = .ok (.invokestatic 78, 3) := by decide +kernel
theorem dX2_meanOfRound_158 : decode cX2_meanOfRound 158 = .ok (.iastore, 1) := by decide +kernel
theorem dX2_meanOfRound_159 : decode cX2_meanOfRound 159 = .ok (.aload_n 0, 1) := by decide +kernel
theorem dX2_meanOfRound_160 : decode cX2_meanOfRound 160 = .ok (.getfield 15, 3) := by decide +kernel
theorem dX2_meanOfRound_163 : decode cX2_meanOfRound 163 = .ok (.iload 9, 2) := by decide +kernel
theorem dX2_meanOfRound_165 : decode cX2_meanOfRound 165 = .ok (.aload_n 1, 1) := by decide +kernel
theorem dX2_meanOfRound_166 : decode cX2_meanOfRound 166 = .ok (.iload 7, 2) := by decide +kernel
theorem dX2_meanOfRound_168 : decode cX2_meanOfRound 168 = .ok (.iconst 0, 1) := by decide +kernel
theorem dX2_meanOfRound_169 : decode cX2_meanOfRound 169 = .ok (.invokevirtual 74, 3) := by decide +kernel
theorem dX2_meanOfRound_172 : decode cX2_meanOfRound 172 = .ok (.iload 11, 2) := by decide +kernel
theorem dX2_meanOfRound_174 : decode cX2_meanOfRound 174 = .ok (.iload 12, 2) := by decide +kernel
theorem dX2_meanOfRound_176 : decode cX2_meanOfRound 176 = .ok (.invokestatic 78, 3) := by decide +kernel
theorem dX2_meanOfRound_179 : decode cX2_meanOfRound 179 = .ok (.iastore, 1) := by decide +kernel
theorem dX2_meanOfRound_180 : decode cX2_meanOfRound 180 = .ok (.iinc 9 1, 3) := by decide +kernel
theorem dX2_meanOfRound_183 : decode cX2_meanOfRound 183 = .ok (.goto (-106), 3) := by decide +kernel
theorem dX2_meanOfRound_186 : decode cX2_meanOfRound 186 = .ok (.iinc 7 (-1), 3) := by decide +kernel
theorem dX2_meanOfRound_189 : decode cX2_meanOfRound 189 = .ok (.goto (-131), 3) := by decide +kernel
theorem dX2_meanOfRound_192 : decode cX2_meanOfRound 192 = .ok (.aload_n 0, 1) := by decide +kernel
theorem dX2_meanOfRound_193 : decode cX2_meanOfRound 193 = .ok (.getfield 15, 3) := by decide +kernel
theorem dX2_meanOfRound_196 : decode cX2_meanOfRound 196 = .ok (.iconst 0, 1) := by decide +kernel
theorem dX2_meanOfRound_197 : decode cX2_meanOfRound 197 = .ok (.iaload, 1) := by decide +kernel
theorem dX2_meanOfRound_198 : decode cX2_meanOfRound 198 = .ok (.ireturn, 1) := by decide +kernel
set_option maxHeartbeats 4000000 in
set_option maxRecDepth 100000 in
theorem x_meanOfRound (l : Launch) (D : va_G) (k : Nat → ClassId) (st : Nat → Nat) (lo : Nat) (y0 : Nat) (y1 : Nat) (y2 : Nat) (y3 : Nat) (wt : Int32) (wc : Int32) (ya : Nat → Int32) (yb : Nat → Int32) (h0 : Nat) (h1 : Nat) (h2 : Nat) (h3 : Nat) (h4 : Nat) (n : Nat) (see : Nat) (tm : Nat) (g : Nat → Int32) (ff : Nat → Int32) (fp : Nat → Int32) (fl : Nat → Int32) (u0 : Nat) (u1 : Nat) (u2 : Nat) (rf : Int32) (rc : Nat) (rr : Nat) (rs : Nat → Int32) (rb : Nat → Int32) (wh : Nat) (rn : Nat) (p4 : Int32) (hn : n ≤ 24) (hrc : rc ≤ 24) (hrn : rn ≤ 3) (hwh : wh ≤ 2) : CWi l D k st lo yX2_meanOfRound cX2_meanOfRound 13 (some .int) ({ frames := 3, cells := 0, slots := 0, locals := 83 }) 0 0 [.ref y0, .ref h0, .ref u0, .int (nI wh), .int (nI rn), .int p4] [(y0, .inr (2, (fX2 y1 y2 y3 wt wc))), (aI k y1 25 ya), (aI k y2 25 yb), (h0, .inr (5, (fX5 h1 h2 h3 h4))), (aI k h1 10 (vv n see tm g)), (aI k h2 24 ff), (aI k h3 24 fp), (aI k h4 4 fl), (u0, .inr (3, (fX3 u1 u2 rf (nI rc) (nI rr)))), (aI k u1 24 rs), (aI k u2 24 rb)] (fun (r : Int32) (u : (Nat → Int32) × (Nat → Int32)) => match u with | (ya_, yb_) => True) (fun (u : (Nat → Int32) × (Nat → Int32)) => match u with | (ya_, yb_) => [(y0, .inr (2, (fX2 y1 y2 y3 wt wc))), (aI k y1 25 ya_), (aI k y2 25 yb_), (h0, .inr (5, (fX5 h1 h2 h3 h4))), (aI k h1 10 (vv n see tm g)), (aI k h2 24 ff), (aI k h3 24 fp), (aI k h4 4 fl), (u0, .inr (3, (fX3 u1 u2 rf (nI rc) (nI rr)))), (aI k u1 24 rs), (aI k u2 24 rb)]) := by
  intro sz
  refine Met.ofW (cc := cX2_meanOfRound) (maxL := 13) (ret := (some .int)) (by decide) rfl ?_
  intro p e s m args below meth c s₁ B hml hv
  obtain ⟨rfl, hsz, hlo, hP, hK, hDL, hZ⟩ := hv
  have hx := B.exec
  have hb := B.bytes
  have hr := B.returns
  have hts := WS_ts B.pre
  have hown : s.vm.findClass RX2 = some m.cls := findClass_of_methodNamed B.named
  have hlocks := B.notSynchronized
  subst hsz
  have hD := hDL.self (sz := s.heap.size)
  have hAlo := A_lo hDL hlo
  generalize hAe : va_A [(y0, .inr (2, (fX2 y1 y2 y3 wt wc))), (aI k y1 25 ya), (aI k y2 25 yb), (h0, .inr (5, (fX5 h1 h2 h3 h4))), (aI k h1 10 (vv n see tm g)), (aI k h2 24 ff), (aI k h3 24 fp), (aI k h4 4 fl), (u0, .inr (3, (fX3 u1 u2 rf (nI rc) (nI rr)))), (aI k u1 24 rs), (aI k u2 24 rb)] s.heap.size = A at hD hAlo ⊢
  have hA : ∀ q : Nat, s.heap.size ≤ q → A q := fun q h => by rw [← hAe]; exact Or.inr h
  have hS : va_S A s.heap s.heap [] := va_S.rf
  have hl := lv_entry ([.ref y0, .ref h0, .ref u0, .int (nI wh), .int (nI rn), .int p4]) (n := 13) (Nat.le_of_ble_eq_true rfl)
  rw [lg_entry_eq]
  generalize (lg_sl ([.ref y0, .ref h0, .ref u0, .int (nI wh), .int (nI rn), .int p4]) ++ List.replicate (13 - (lg_sl ([.ref y0, .ref h0, .ref u0, .int (nI wh), .int (nI rn), .int p4])).length) Slot.unset).toArray = ls at hl ⊢
  have hl : lv_has ls 13 [(0, .ref y0), (1, .ref h0), (2, .ref u0), (3, .int (nI wh)), (4, .int (nI rn)), (5, .int p4)] := hl
  refine lv_iconst (v := 0) hx hb dX2_meanOfRound_0 (by decide) ?_
  refine lv_istore (lv' := [(6, .int 0), (0, .ref y0), (1, .ref h0), (2, .ref u0), (3, .int (nI wh)), (4, .int (nI rn)), (5, .int p4)]) hx hb dX2_meanOfRound_1 hl (by decide) rfl (fun ls hl => ?_)
  refine W_loop (σ := Nat × (Nat → Int32) × (Nat → Int32)) (fun (n_ : Nat) (x_ : Nat × (Nat → Int32) × (Nat → Int32)) (H : Heap) (locs : List Loc) (ls : Array Slot) => match x_ with | (pa_1, ya2_1, yb2_1) => n_ = 26 - pa_1 ∧ (pa_1 ≤ 25) ∧ va_P D classes [(y0, .inr (2, (fX2 y1 y2 y3 wt wc))), (aI k y1 25 ya2_1), (aI k y2 25 yb2_1), (h0, .inr (5, (fX5 h1 h2 h3 h4))), (aI k h1 10 (vv n see tm g)), (aI k h2 24 ff), (aI k h3 24 fp), (aI k h4 4 fl), (u0, .inr (3, (fX3 u1 u2 rf (nI rc) (nI rr)))), (aI k u1 24 rs), (aI k u2 24 rb)] H ∧ va_D A [(y0, .inr (2, (fX2 y1 y2 y3 wt wc))), (aI k y1 25 ya2_1), (aI k y2 25 yb2_1), (h0, .inr (5, (fX5 h1 h2 h3 h4))), (aI k h1 10 (vv n see tm g)), (aI k h2 24 ff), (aI k h3 24 fp), (aI k h4 4 fl), (u0, .inr (3, (fX3 u1 u2 rf (nI rc) (nI rr)))), (aI k u1 24 rs), (aI k u2 24 rb)] ∧ va_S A s.heap H locs ∧ lv_has ls 13 [(6, .int (nI pa_1)), (0, .ref y0), (1, .ref h0), (2, .ref u0), (3, .int (nI wh)), (4, .int (nI rn)), (5, .int p4)]) (fun n_1 x_1 H locs ls hI ih_1 => ?_) _ (0, ya, yb) ⟨rfl, (by omega), hP, hD, hS, (lv_sub hl [0, 1, 2, 3, 4, 5, 6] rfl)⟩
  obtain ⟨pa_1, ya2_1, yb2_1⟩ := x_1
  obtain ⟨hm_1, hv_1, hP, hD, hS, hl⟩ := hI
  subst hm_1
  refine lv_iload hx hb dX2_meanOfRound_3 (lv_at hl 0 rfl) ?_
  refine lv_aload_n hx hb dX2_meanOfRound_5 rfl (lv_at hl 2 rfl) ?_
  refine ro_i (D := D) (va_runV (As := []) (rest := [.int (nI pa_1)]) ⟨hx, hb, hml, hown, hts⟩ ((x_doors l D k st lo h0 h1 h2 h3 h4 n see tm g) H.size) (cwV 0 hts (gV tw_723 tw_478 tw_479 tw_81 tw_480) rfl rfl rfl (by decide +kernel) ⟨Nat.le_of_ble_eq_true rfl, Nat.le_of_ble_eq_true rfl⟩) (pV hS hAlo hlo hP hK (va_Dlo hD hAlo) hZ [3, 4] (by decide) rfl (ci := 5) (q := (RX5, TX5, 4)) (q0 := 0) rfl rfl) rfl rfl hl.1 rfl (lv_room (Nat.le_of_ble_eq_true rfl)) dX2_meanOfRound_6 ⟨Nat.le_of_ble_eq_true rfl, Nat.le_of_ble_eq_true rfl⟩) hS hA hP (fun r_2 H locs hw_2 hP hS => ?_)
  try dsimp only at hw_2
  subst hw_2
  refine lv_icmp_gt (tgt := 36) hx hb dX2_meanOfRound_9 (by decide) (fun c_3 => ?_) (fun c_3 => ?_)
  · have c_3 := (nI_ltI (a := n) (b := pa_1) (by omega) (by omega)).mp c_3
    refine lv_iload_n hx hb dX2_meanOfRound_36 rfl (lv_at hl 4 rfl) ?_
    refine lv_if_ne (tgt := 47) hx hb dX2_meanOfRound_37 (by decide) (fun c_4 => ?_) (fun c_4 => ?_)
    · have c_4 : ¬ (wh = 0) := fun h => c_4 ((nI_eq (a := wh) (b := 0) (by omega) (by omega)).mpr h)
      refine lv_iconst (v := 0) hx hb dX2_meanOfRound_47 (by decide) ?_
      refine lv_istore (lv' := [(6, .int 0), (0, .ref y0), (1, .ref h0), (2, .ref u0), (3, .int (nI wh)), (4, .int (nI rn)), (5, .int p4)]) hx hb dX2_meanOfRound_48 hl (by decide) rfl (fun ls hl => ?_)
      refine lv_aload_n hx hb dX2_meanOfRound_50 rfl (lv_at hl 2 rfl) ?_
      refine ro_i (D := D) (va_runV (As := []) (rest := []) ⟨hx, hb, hml, hown, hts⟩ ((x_doors l D k st lo h0 h1 h2 h3 h4 n see tm g) H.size) (cwV 0 hts (gV tw_723 tw_478 tw_479 tw_81 tw_480) rfl rfl rfl (by decide +kernel) ⟨Nat.le_of_ble_eq_true rfl, Nat.le_of_ble_eq_true rfl⟩) (pV hS hAlo hlo hP hK (va_Dlo hD hAlo) hZ [3, 4] (by decide) rfl (ci := 5) (q := (RX5, TX5, 4)) (q0 := 0) rfl rfl) rfl rfl hl.1 rfl (lv_room (Nat.le_of_ble_eq_true rfl)) dX2_meanOfRound_51 ⟨Nat.le_of_ble_eq_true rfl, Nat.le_of_ble_eq_true rfl⟩) hS hA hP (fun r_5 H locs hw_5 hP hS => ?_)
      try dsimp only at hw_5
      subst hw_5
      refine lv_iconst (v := 1) hx hb dX2_meanOfRound_54 (by decide) ?_
      refine lv_isub hx hb dX2_meanOfRound_55 ?_
      refine lv_ti (y := (nI n - 1)) rfl ?_
      refine lv_istore (lv' := [(7, .int (nI n - 1)), (6, .int 0), (0, .ref y0), (1, .ref h0), (2, .ref u0), (3, .int (nI wh)), (4, .int (nI rn)), (5, .int p4)]) hx hb dX2_meanOfRound_56 hl (by decide) rfl (fun ls hl => ?_)
      refine W_loop (σ := Nat × (Nat → Int32) × (Nat → Int32)) (fun (n_ : Nat) (x_ : Nat × (Nat → Int32) × (Nat → Int32)) (H : Heap) (locs : List Loc) (ls : Array Slot) => match x_ with | (q_6, ya2_6, yb2_6) => n_ = 2 * q_6 ∧ (q_6 ≤ n) ∧ va_P D classes [(y0, .inr (2, (fX2 y1 y2 y3 wt wc))), (aI k y1 25 ya2_6), (aI k y2 25 yb2_6), (h0, .inr (5, (fX5 h1 h2 h3 h4))), (aI k h1 10 (vv n see tm g)), (aI k h2 24 ff), (aI k h3 24 fp), (aI k h4 4 fl), (u0, .inr (3, (fX3 u1 u2 rf (nI rc) (nI rr)))), (aI k u1 24 rs), (aI k u2 24 rb)] H ∧ va_D A [(y0, .inr (2, (fX2 y1 y2 y3 wt wc))), (aI k y1 25 ya2_6), (aI k y2 25 yb2_6), (h0, .inr (5, (fX5 h1 h2 h3 h4))), (aI k h1 10 (vv n see tm g)), (aI k h2 24 ff), (aI k h3 24 fp), (aI k h4 4 fl), (u0, .inr (3, (fX3 u1 u2 rf (nI rc) (nI rr)))), (aI k u1 24 rs), (aI k u2 24 rb)] ∧ va_S A s.heap H locs ∧ lv_has ls 13 [(7, .int (nI q_6 - 1)), (6, .int 0), (0, .ref y0), (1, .ref h0), (2, .ref u0), (3, .int (nI wh)), (4, .int (nI rn)), (5, .int p4)]) (fun n_6 x_6 H locs ls hI ih_6 => ?_) _ (n, ya2_1, yb2_1) ⟨rfl, (by omega), hP, hD, hS, (lv_sub hl [0, 1, 2, 3, 4, 5, 6, 7] rfl)⟩
      obtain ⟨q_6, ya2_6, yb2_6⟩ := x_6
      obtain ⟨hm_6, hv_6, hP, hD, hS, hl⟩ := hI
      subst hm_6
      rcases q_6 with _ | q_6
      · rw [dn0] at hl
        refine lv_iload hx hb dX2_meanOfRound_58 (lv_at hl 0 rfl) ?_
        refine lv_if_lt (tgt := 192) hx hb dX2_meanOfRound_60 (by decide) (fun _ => ?_) (fun h => absurd (by decide) h)
        refine lv_aload_n hx hb dX2_meanOfRound_192 rfl (lv_at hl 2 rfl) ?_
        refine va_get (D := D) (ci := 2) (v := .ref y2) (C := RX2) (T := TX2) (N := 5) hx hb hts inX2 hown hK hP 0 rfl rfl 1 (by decide) (hts _ tw_211) (fun _ h9 => h9) rfl dX2_meanOfRound_193 ?_
        refine lv_iconst (v := 0) hx hb dX2_meanOfRound_196 (by decide) ?_
        refine va_iald hx hb hK hP 2 1 rfl rfl (by unfold vp_in; decide) dX2_meanOfRound_197 ?_
        refine lv_ti (y := (yb2_6 0)) (by rfl) ?_
        have hP9 := hP.sub (ws' := [(y0, .inr (2, (fX2 y1 y2 y3 wt wc))), (aI k y1 25 ya2_6), (aI k y2 25 yb2_6), (h0, .inr (5, (fX5 h1 h2 h3 h4))), (aI k h1 10 (vv n see tm g)), (aI k h2 24 ff), (aI k h3 24 fp), (aI k h4 4 fl), (u0, .inr (3, (fX3 u1 u2 rf (nI rc) (nI rr)))), (aI k u1 24 rs), (aI k u2 24 rb)]) [0, 1, 2, 3, 4, 5, 6, 7, 8, 9, 10] rfl
        have hD9 := hD.sub (ws' := [(y0, .inr (2, (fX2 y1 y2 y3 wt wc))), (aI k y1 25 ya2_6), (aI k y2 25 yb2_6), (h0, .inr (5, (fX5 h1 h2 h3 h4))), (aI k h1 10 (vv n see tm g)), (aI k h2 24 ff), (aI k h3 24 fp), (aI k h4 4 fl), (u0, .inr (3, (fX3 u1 u2 rf (nI rc) (nI rr)))), (aI k u1 24 rs), (aI k u2 24 rb)]) [0, 1, 2, 3, 4, 5, 6, 7, 8, 9, 10] (by decide +kernel) rfl
        exact W.iret (v := (yb2_6 0)) hx hb hr (fun t ht hW => ⟨⟨(yb2_6 0), (ya2_6, yb2_6), rfl, trivial, by rw [ht]; exact hP9, hD9⟩, hS.F ht⟩) hS.2.2 dX2_meanOfRound_198
      · rw [nI_pred] at hl
        refine lv_iload hx hb dX2_meanOfRound_58 (lv_at hl 0 rfl) ?_
        refine lv_if_lt (tgt := 192) hx hb dX2_meanOfRound_60 (by decide) (fun h => absurd h (nI_pos0 (by omega))) (fun _ => ?_)
        refine lv_aload_n hx hb dX2_meanOfRound_63 rfl (lv_at hl 3 rfl) ?_
        refine lv_iload hx hb dX2_meanOfRound_64 (lv_at hl 6 rfl) ?_
        refine lv_iload hx hb dX2_meanOfRound_66 (lv_at hl 0 rfl) ?_
        refine lv_iload_n hx hb dX2_meanOfRound_68 rfl (lv_at hl 5 rfl) ?_
        refine ro_i (D := D) (va_runS (As := [.ref h0, .int (nI rn), .int (nI q_6), .int (nI wh)]) (rest := []) ⟨hx, hb, hml, hown, hts⟩ ((x_doorShare l D k st lo h0 h1 h2 h3 h4 n see tm g fp fl rn q_6 wh (by omega) (by omega) (by omega)) H.size) (va_cwS 4 hts (gS tw_725 tw_726 tw_83 tw_727) rfl rfl rfl (by decide +kernel) ⟨Nat.le_of_ble_eq_true rfl, Nat.le_of_ble_eq_true rfl⟩) (pS hS hAlo hlo hP hK (va_Dlo hD hAlo) hZ [3, 4, 6, 7] (by decide) rfl) rfl rfl hl.1 rfl (lv_room (Nat.le_of_ble_eq_true rfl)) dX2_meanOfRound_69 ⟨Nat.le_of_ble_eq_true rfl, Nat.le_of_ble_eq_true rfl⟩) hS hA hP (fun r_7 H locs hw_7 hP hS => ?_)
        try dsimp only at hw_7
        refine lv_istore (lv' := [(8, .int r_7), (7, .int (nI q_6)), (6, .int 0), (0, .ref y0), (1, .ref h0), (2, .ref u0), (3, .int (nI wh)), (4, .int (nI rn)), (5, .int p4)]) hx hb dX2_meanOfRound_72 hl (by decide) rfl (fun ls hl => ?_)
        refine lv_iconst (v := 0) hx hb dX2_meanOfRound_74 (by decide) ?_
        refine lv_istore (lv' := [(9, .int 0), (8, .int r_7), (7, .int (nI q_6)), (6, .int 0), (0, .ref y0), (1, .ref h0), (2, .ref u0), (3, .int (nI wh)), (4, .int (nI rn)), (5, .int p4)]) hx hb dX2_meanOfRound_75 hl (by decide) rfl (fun ls hl => ?_)
        refine W_loop (σ := Nat × (Nat → Int32) × (Nat → Int32)) (fun (n_ : Nat) (x_ : Nat × (Nat → Int32) × (Nat → Int32)) (H : Heap) (locs : List Loc) (ls : Array Slot) => match x_ with | (pa_8, ya2_8, yb2_8) => n_ = 26 - pa_8 ∧ (pa_8 ≤ 25) ∧ va_P D classes [(y0, .inr (2, (fX2 y1 y2 y3 wt wc))), (aI k y1 25 ya2_8), (aI k y2 25 yb2_8), (h0, .inr (5, (fX5 h1 h2 h3 h4))), (aI k h1 10 (vv n see tm g)), (aI k h2 24 ff), (aI k h3 24 fp), (aI k h4 4 fl), (u0, .inr (3, (fX3 u1 u2 rf (nI rc) (nI rr)))), (aI k u1 24 rs), (aI k u2 24 rb)] H ∧ va_D A [(y0, .inr (2, (fX2 y1 y2 y3 wt wc))), (aI k y1 25 ya2_8), (aI k y2 25 yb2_8), (h0, .inr (5, (fX5 h1 h2 h3 h4))), (aI k h1 10 (vv n see tm g)), (aI k h2 24 ff), (aI k h3 24 fp), (aI k h4 4 fl), (u0, .inr (3, (fX3 u1 u2 rf (nI rc) (nI rr)))), (aI k u1 24 rs), (aI k u2 24 rb)] ∧ va_S A s.heap H locs ∧ lv_has ls 13 [(9, .int (nI pa_8)), (8, .int r_7), (7, .int (nI q_6)), (6, .int 0), (0, .ref y0), (1, .ref h0), (2, .ref u0), (3, .int (nI wh)), (4, .int (nI rn)), (5, .int p4)]) (fun n_8 x_8 H locs ls hI ih_8 => ?_) _ (0, ya2_6, yb2_6) ⟨rfl, (by omega), hP, hD, hS, (lv_sub hl [0, 1, 2, 3, 4, 5, 6, 7, 8, 9] rfl)⟩
        obtain ⟨pa_8, ya2_8, yb2_8⟩ := x_8
        obtain ⟨hm_8, hv_8, hP, hD, hS, hl⟩ := hI
        subst hm_8
        refine lv_iload hx hb dX2_meanOfRound_77 (lv_at hl 0 rfl) ?_
        refine lv_iload hx hb dX2_meanOfRound_79 (lv_at hl 2 rfl) ?_
        refine lv_icmp_gt (tgt := 186) hx hb dX2_meanOfRound_81 (by decide) (fun c_9 => ?_) (fun c_9 => ?_)
        · have c_9 := (nI_ltI (a := q_6) (b := pa_8) (by omega) (by omega)).mp c_9
          refine lv_iinc (v := (nI q_6 - 1)) (lv' := [(7, .int (nI q_6 - 1)), (9, .int (nI pa_8)), (8, .int r_7), (6, .int 0), (0, .ref y0), (1, .ref h0), (2, .ref u0), (3, .int (nI wh)), (4, .int (nI rn)), (5, .int p4)]) hx hb dX2_meanOfRound_186 hl (k := 2) rfl (dn1 _) (by decide) rfl (fun ls hl => ?_)
          refine lv_goto (tgt := 58) hx hb dX2_meanOfRound_189 (by decide) ?_
          exact ih_6 _ (q_6, ya2_8, yb2_8) _ _ _ (by omega) ⟨rfl, (by omega), hP, hD, hS, (lv_sub hl [0, 3, 4, 5, 6, 7, 8, 9] rfl)⟩
        · have c_9 : ¬ (q_6 < pa_8) := fun h => c_9 ((nI_ltI (a := q_6) (b := pa_8) (by omega) (by omega)).mpr h)
          refine lv_iload hx hb dX2_meanOfRound_84 (lv_at hl 2 rfl) ?_
          refine lv_aload_n hx hb dX2_meanOfRound_86 rfl (lv_at hl 6 rfl) ?_
          refine lv_iload hx hb dX2_meanOfRound_87 (lv_at hl 0 rfl) ?_
          refine ro_i (D := D) (va_runV (As := [.int (nI pa_8)]) (rest := [.int (nI q_6)]) ⟨hx, hb, hml, hown, hts⟩ ((x_barAfter l D k st lo u0 u1 u2 rf rc rr rs rb (nI pa_8) (by omega)) H.size) (cwV 1 hts (gV tw_729 tw_730 tw_731 tw_86 tw_732) rfl rfl rfl (by decide +kernel) ⟨Nat.le_of_ble_eq_true rfl, Nat.le_of_ble_eq_true rfl⟩) (pV hS hAlo hlo hP hK (va_Dlo hD hAlo) hZ [8, 9, 10] (by decide) rfl (ci := 3) (q := (RX3, TX3, 5)) (q0 := 0) rfl rfl) rfl rfl hl.1 rfl (lv_room (Nat.le_of_ble_eq_true rfl)) dX2_meanOfRound_89 ⟨Nat.le_of_ble_eq_true rfl, Nat.le_of_ble_eq_true rfl⟩) hS hA hP (fun r_10 H locs hw_10 hP hS => ?_)
          try dsimp only at hw_10
          refine lv_icmp_lt (tgt := 99) hx hb dX2_meanOfRound_92 (by decide) (fun c_11 => ?_) (fun c_11 => ?_)
          · refine lv_iconst (v := 0) hx hb dX2_meanOfRound_99 (by decide) ?_
            refine lv_istore (lv' := [(10, .int 0), (9, .int (nI pa_8)), (8, .int r_7), (7, .int (nI q_6)), (6, .int 0), (0, .ref y0), (1, .ref h0), (2, .ref u0), (3, .int (nI wh)), (4, .int (nI rn)), (5, .int p4)]) hx hb dX2_meanOfRound_100 hl (by decide) rfl (fun ls hl => ?_)
            refine lv_iload hx hb dX2_meanOfRound_102 (lv_at hl 0 rfl) ?_
            refine lv_if_eq (tgt := 112) hx hb dX2_meanOfRound_104 (by decide) (fun _ => ?_) (fun h => absurd (by decide) h)
            refine lv_iload hx hb dX2_meanOfRound_112 (lv_at hl 4 rfl) ?_
            refine lv_aload_n hx hb dX2_meanOfRound_114 rfl (lv_at hl 5 rfl) ?_
            refine va_get (D := D) (ci := 2) (v := .ref y1) (C := RX2) (T := TX2) (N := 5) hx hb hts inX2 hown hK hP 0 rfl rfl 0 (by decide) (hts _ tw_210) (fun _ h9 => h9) rfl dX2_meanOfRound_115 ?_
            refine lv_iload hx hb dX2_meanOfRound_118 (lv_at hl 1 rfl) ?_
            refine lv_iconst (v := 1) hx hb dX2_meanOfRound_120 (by decide) ?_
            refine lv_iadd hx hb dX2_meanOfRound_121 ?_
            refine lv_ti (y := (nI (pa_8 + 1))) (nI_add pa_8 1) ?_
            refine va_iald hx hb hK hP 1 1 rfl rfl (vp_in_nI (by omega) (by decide)) dX2_meanOfRound_122 ?_
            refine lv_ti (y := (ya2_8 (pa_8 + 1))) (by rw [nI_clamp (by omega)]) ?_
            refine lv_iadd hx hb dX2_meanOfRound_123 ?_
            refine lv_topi (fun x_12 ex_12 => ?_)
            refine lv_istore (lv' := [(11, .int x_12), (10, .int 0), (9, .int (nI pa_8)), (8, .int r_7), (7, .int (nI q_6)), (6, .int 0), (0, .ref y0), (1, .ref h0), (2, .ref u0), (3, .int (nI wh)), (4, .int (nI rn)), (5, .int p4)]) hx hb dX2_meanOfRound_124 hl (by decide) rfl (fun ls hl => ?_)
            refine lv_iload hx hb dX2_meanOfRound_126 (lv_at hl 5 rfl) ?_
            refine lv_aload_n hx hb dX2_meanOfRound_128 rfl (lv_at hl 6 rfl) ?_
            refine va_get (D := D) (ci := 2) (v := .ref y2) (C := RX2) (T := TX2) (N := 5) hx hb hts inX2 hown hK hP 0 rfl rfl 1 (by decide) (hts _ tw_211) (fun _ h9 => h9) rfl dX2_meanOfRound_129 ?_
            refine lv_iload hx hb dX2_meanOfRound_132 (lv_at hl 2 rfl) ?_
            refine va_iald hx hb hK hP 2 1 rfl rfl (vp_in_nI (by omega) (by decide)) dX2_meanOfRound_134 ?_
            refine lv_ti (y := (yb2_8 pa_8)) (by rw [nI_clamp (by omega)]) ?_
            refine lv_iadd hx hb dX2_meanOfRound_135 ?_
            refine lv_topi (fun x_13 ex_13 => ?_)
            refine lv_istore (lv' := [(12, .int x_13), (11, .int x_12), (10, .int 0), (9, .int (nI pa_8)), (8, .int r_7), (7, .int (nI q_6)), (6, .int 0), (0, .ref y0), (1, .ref h0), (2, .ref u0), (3, .int (nI wh)), (4, .int (nI rn)), (5, .int p4)]) hx hb dX2_meanOfRound_136 hl (by decide) rfl (fun ls hl => ?_)
            refine lv_aload_n hx hb dX2_meanOfRound_138 rfl (lv_at hl 7 rfl) ?_
            refine va_get (D := D) (ci := 2) (v := .ref y1) (C := RX2) (T := TX2) (N := 5) hx hb hts inX2 hown hK hP 0 rfl rfl 0 (by decide) (hts _ tw_210) (fun _ h9 => h9) rfl dX2_meanOfRound_139 ?_
            refine lv_iload hx hb dX2_meanOfRound_142 (lv_at hl 3 rfl) ?_
            refine lv_aload_n hx hb dX2_meanOfRound_144 rfl (lv_at hl 8 rfl) ?_
            refine lv_iload hx hb dX2_meanOfRound_145 (lv_at hl 5 rfl) ?_
            refine lv_iconst (v := 1) hx hb dX2_meanOfRound_147 (by decide) ?_
            refine ro_i (D := D) (va_runV (As := [.int (nI q_6), .int 1]) (rest := [.int (nI pa_8), .ref y1]) ⟨hx, hb, hml, hown, hts⟩ ((x_chanceOf l D k st lo h0 h1 h2 h3 h4 n see tm g ff q_6 1 (by omega)) H.size) (cwV 2 hts (gV tw_733 tw_565 tw_566 tw_81 tw_567) rfl rfl rfl (by decide +kernel) ⟨Nat.le_of_ble_eq_true rfl, Nat.le_of_ble_eq_true rfl⟩) (pV hS hAlo hlo hP hK (va_Dlo hD hAlo) hZ [3, 4, 5] (by decide) rfl (ci := 5) (q := (RX5, TX5, 4)) (q0 := 0) rfl rfl) rfl rfl hl.1 rfl (lv_room (Nat.le_of_ble_eq_true rfl)) dX2_meanOfRound_148 ⟨Nat.le_of_ble_eq_true rfl, Nat.le_of_ble_eq_true rfl⟩) hS hA hP (fun r_14 H locs hw_14 hP hS => ?_)
            try dsimp only at hw_14
            refine lv_iload hx hb dX2_meanOfRound_151 (lv_at hl 1 rfl) ?_
            refine lv_iload hx hb dX2_meanOfRound_153 (lv_at hl 0 rfl) ?_
            refine ro_i (D := D) (va_runSN (As := [.int r_14, .int x_12, .int x_13]) (rest := [.int (nI pa_8), .ref y1]) ⟨hx, hb, hml, hown, hts⟩ ((x_mixed l D k st lo r_14 x_12 x_13) H.size) ⟨va_cnB 3 hts (gLW tw_570) rfl rfl rfl (hZ.2.2.2.2.2.2.2.2.1.1 (RX2, 78, yX7_mixed, RX7) (List.mem_of_getElem? (i := 6) rfl)) (hts _ tw_79) (by decide +kernel) ⟨Nat.le_of_ble_eq_true rfl, Nat.le_of_ble_eq_true rfl⟩, hts _ tw_569, trivial⟩ (pS hS hAlo hlo hP hK (va_Dlo hD hAlo) hZ [] (by decide) rfl) rfl rfl hl.1 rfl (lv_room (Nat.le_of_ble_eq_true rfl)) dX2_meanOfRound_155 ⟨Nat.le_of_ble_eq_true rfl, Nat.le_of_ble_eq_true rfl⟩) hS hA hP (fun r_15 H locs hw_15 hP hS => ?_)
            try dsimp only at hw_15
            refine va_iast hx hb hK hP hD hS 1 1 rfl rfl (vp_in_nI (by omega) (by decide)) dX2_meanOfRound_158 (fun H locs hP hD hS => ?_)
            replace hP : va_P D classes [(y0, .inr (2, (fX2 y1 y2 y3 wt wc))), (aI k y1 25 (upd ya2_8 (Int32.toNatClampNeg (nI pa_8)) r_15)), (aI k y2 25 yb2_8), (h0, .inr (5, (fX5 h1 h2 h3 h4))), (aI k h1 10 (vv n see tm g)), (aI k h2 24 ff), (aI k h3 24 fp), (aI k h4 4 fl), (u0, .inr (3, (fX3 u1 u2 rf (nI rc) (nI rr)))), (aI k u1 24 rs), (aI k u2 24 rb)] H := hP
            replace hD : va_D A [(y0, .inr (2, (fX2 y1 y2 y3 wt wc))), (aI k y1 25 (upd ya2_8 (Int32.toNatClampNeg (nI pa_8)) r_15)), (aI k y2 25 yb2_8), (h0, .inr (5, (fX5 h1 h2 h3 h4))), (aI k h1 10 (vv n see tm g)), (aI k h2 24 ff), (aI k h3 24 fp), (aI k h4 4 fl), (u0, .inr (3, (fX3 u1 u2 rf (nI rc) (nI rr)))), (aI k u1 24 rs), (aI k u2 24 rb)] := hD
            generalize (upd ya2_8 (Int32.toNatClampNeg (nI pa_8)) r_15) = f_16 at hP hD
            refine lv_aload_n hx hb dX2_meanOfRound_159 rfl (lv_at hl 7 rfl) ?_
            refine va_get (D := D) (ci := 2) (v := .ref y2) (C := RX2) (T := TX2) (N := 5) hx hb hts inX2 hown hK hP 0 rfl rfl 1 (by decide) (hts _ tw_211) (fun _ h9 => h9) rfl dX2_meanOfRound_160 ?_
            refine lv_iload hx hb dX2_meanOfRound_163 (lv_at hl 3 rfl) ?_
            refine lv_aload_n hx hb dX2_meanOfRound_165 rfl (lv_at hl 8 rfl) ?_
            refine lv_iload hx hb dX2_meanOfRound_166 (lv_at hl 5 rfl) ?_
            refine lv_iconst (v := 0) hx hb dX2_meanOfRound_168 (by decide) ?_
            refine ro_i (D := D) (va_runV (As := [.int (nI q_6), .int 0]) (rest := [.int (nI pa_8), .ref y2]) ⟨hx, hb, hml, hown, hts⟩ ((x_chanceOf l D k st lo h0 h1 h2 h3 h4 n see tm g ff q_6 0 (by omega)) H.size) (cwV 2 hts (gV tw_733 tw_565 tw_566 tw_81 tw_567) rfl rfl rfl (by decide +kernel) ⟨Nat.le_of_ble_eq_true rfl, Nat.le_of_ble_eq_true rfl⟩) (pV hS hAlo hlo hP hK (va_Dlo hD hAlo) hZ [3, 4, 5] (by decide) rfl (ci := 5) (q := (RX5, TX5, 4)) (q0 := 0) rfl rfl) rfl rfl hl.1 rfl (lv_room (Nat.le_of_ble_eq_true rfl)) dX2_meanOfRound_169 ⟨Nat.le_of_ble_eq_true rfl, Nat.le_of_ble_eq_true rfl⟩) hS hA hP (fun r_17 H locs hw_17 hP hS => ?_)
            try dsimp only at hw_17
            refine lv_iload hx hb dX2_meanOfRound_172 (lv_at hl 1 rfl) ?_
            refine lv_iload hx hb dX2_meanOfRound_174 (lv_at hl 0 rfl) ?_
            refine ro_i (D := D) (va_runSN (As := [.int r_17, .int x_12, .int x_13]) (rest := [.int (nI pa_8), .ref y2]) ⟨hx, hb, hml, hown, hts⟩ ((x_mixed l D k st lo r_17 x_12 x_13) H.size) ⟨va_cnB 3 hts (gLW tw_570) rfl rfl rfl (hZ.2.2.2.2.2.2.2.2.1.1 (RX2, 78, yX7_mixed, RX7) (List.mem_of_getElem? (i := 6) rfl)) (hts _ tw_79) (by decide +kernel) ⟨Nat.le_of_ble_eq_true rfl, Nat.le_of_ble_eq_true rfl⟩, hts _ tw_569, trivial⟩ (pS hS hAlo hlo hP hK (va_Dlo hD hAlo) hZ [] (by decide) rfl) rfl rfl hl.1 rfl (lv_room (Nat.le_of_ble_eq_true rfl)) dX2_meanOfRound_176 ⟨Nat.le_of_ble_eq_true rfl, Nat.le_of_ble_eq_true rfl⟩) hS hA hP (fun r_18 H locs hw_18 hP hS => ?_)
            try dsimp only at hw_18
            refine va_iast hx hb hK hP hD hS 2 1 rfl rfl (vp_in_nI (by omega) (by decide)) dX2_meanOfRound_179 (fun H locs hP hD hS => ?_)
            replace hP : va_P D classes [(y0, .inr (2, (fX2 y1 y2 y3 wt wc))), (aI k y1 25 f_16), (aI k y2 25 (upd yb2_8 (Int32.toNatClampNeg (nI pa_8)) r_18)), (h0, .inr (5, (fX5 h1 h2 h3 h4))), (aI k h1 10 (vv n see tm g)), (aI k h2 24 ff), (aI k h3 24 fp), (aI k h4 4 fl), (u0, .inr (3, (fX3 u1 u2 rf (nI rc) (nI rr)))), (aI k u1 24 rs), (aI k u2 24 rb)] H := hP
            replace hD : va_D A [(y0, .inr (2, (fX2 y1 y2 y3 wt wc))), (aI k y1 25 f_16), (aI k y2 25 (upd yb2_8 (Int32.toNatClampNeg (nI pa_8)) r_18)), (h0, .inr (5, (fX5 h1 h2 h3 h4))), (aI k h1 10 (vv n see tm g)), (aI k h2 24 ff), (aI k h3 24 fp), (aI k h4 4 fl), (u0, .inr (3, (fX3 u1 u2 rf (nI rc) (nI rr)))), (aI k u1 24 rs), (aI k u2 24 rb)] := hD
            generalize (upd yb2_8 (Int32.toNatClampNeg (nI pa_8)) r_18) = f_19 at hP hD
            refine lv_iinc (v := (nI (pa_8 + 1))) (lv' := [(9, .int (nI (pa_8 + 1))), (12, .int x_13), (11, .int x_12), (10, .int 0), (8, .int r_7), (7, .int (nI q_6)), (6, .int 0), (0, .ref y0), (1, .ref h0), (2, .ref u0), (3, .int (nI wh)), (4, .int (nI rn)), (5, .int p4)]) hx hb dX2_meanOfRound_180 hl (k := 3) rfl (nI_add pa_8 1) (by decide) rfl (fun ls hl => ?_)
            refine lv_goto (tgt := 77) hx hb dX2_meanOfRound_183 (by decide) ?_
            exact ih_8 _ (pa_8 + 1, f_16, f_19) _ _ _ (by omega) ⟨rfl, (by omega), hP, hD, hS, (lv_sub hl [0, 4, 5, 6, 7, 8, 9, 10, 11, 12] rfl)⟩
          · refine lv_iconst (v := 1) hx hb dX2_meanOfRound_95 (by decide) ?_
            refine lv_goto (tgt := 100) hx hb dX2_meanOfRound_96 (by decide) ?_
            refine lv_istore (lv' := [(10, .int 1), (9, .int (nI pa_8)), (8, .int r_7), (7, .int (nI q_6)), (6, .int 0), (0, .ref y0), (1, .ref h0), (2, .ref u0), (3, .int (nI wh)), (4, .int (nI rn)), (5, .int p4)]) hx hb dX2_meanOfRound_100 hl (by decide) rfl (fun ls hl => ?_)
            refine lv_iload hx hb dX2_meanOfRound_102 (lv_at hl 0 rfl) ?_
            refine lv_if_eq (tgt := 112) hx hb dX2_meanOfRound_104 (by decide) (fun h => absurd h (by decide)) (fun _ => ?_)
            refine lv_iload hx hb dX2_meanOfRound_107 (lv_at hl 2 rfl) ?_
            refine lv_goto (tgt := 124) hx hb dX2_meanOfRound_109 (by decide) ?_
            refine lv_istore (lv' := [(11, .int r_7), (10, .int 1), (9, .int (nI pa_8)), (8, .int r_7), (7, .int (nI q_6)), (6, .int 0), (0, .ref y0), (1, .ref h0), (2, .ref u0), (3, .int (nI wh)), (4, .int (nI rn)), (5, .int p4)]) hx hb dX2_meanOfRound_124 hl (by decide) rfl (fun ls hl => ?_)
            refine lv_iload hx hb dX2_meanOfRound_126 (lv_at hl 5 rfl) ?_
            refine lv_aload_n hx hb dX2_meanOfRound_128 rfl (lv_at hl 6 rfl) ?_
            refine va_get (D := D) (ci := 2) (v := .ref y2) (C := RX2) (T := TX2) (N := 5) hx hb hts inX2 hown hK hP 0 rfl rfl 1 (by decide) (hts _ tw_211) (fun _ h9 => h9) rfl dX2_meanOfRound_129 ?_
            refine lv_iload hx hb dX2_meanOfRound_132 (lv_at hl 2 rfl) ?_
            refine va_iald hx hb hK hP 2 1 rfl rfl (vp_in_nI (by omega) (by decide)) dX2_meanOfRound_134 ?_
            refine lv_ti (y := (yb2_8 pa_8)) (by rw [nI_clamp (by omega)]) ?_
            refine lv_iadd hx hb dX2_meanOfRound_135 ?_
            refine lv_topi (fun x_20 ex_20 => ?_)
            refine lv_istore (lv' := [(12, .int x_20), (11, .int r_7), (10, .int 1), (9, .int (nI pa_8)), (8, .int r_7), (7, .int (nI q_6)), (6, .int 0), (0, .ref y0), (1, .ref h0), (2, .ref u0), (3, .int (nI wh)), (4, .int (nI rn)), (5, .int p4)]) hx hb dX2_meanOfRound_136 hl (by decide) rfl (fun ls hl => ?_)
            refine lv_aload_n hx hb dX2_meanOfRound_138 rfl (lv_at hl 7 rfl) ?_
            refine va_get (D := D) (ci := 2) (v := .ref y1) (C := RX2) (T := TX2) (N := 5) hx hb hts inX2 hown hK hP 0 rfl rfl 0 (by decide) (hts _ tw_210) (fun _ h9 => h9) rfl dX2_meanOfRound_139 ?_
            refine lv_iload hx hb dX2_meanOfRound_142 (lv_at hl 3 rfl) ?_
            refine lv_aload_n hx hb dX2_meanOfRound_144 rfl (lv_at hl 8 rfl) ?_
            refine lv_iload hx hb dX2_meanOfRound_145 (lv_at hl 5 rfl) ?_
            refine lv_iconst (v := 1) hx hb dX2_meanOfRound_147 (by decide) ?_
            refine ro_i (D := D) (va_runV (As := [.int (nI q_6), .int 1]) (rest := [.int (nI pa_8), .ref y1]) ⟨hx, hb, hml, hown, hts⟩ ((x_chanceOf l D k st lo h0 h1 h2 h3 h4 n see tm g ff q_6 1 (by omega)) H.size) (cwV 2 hts (gV tw_733 tw_565 tw_566 tw_81 tw_567) rfl rfl rfl (by decide +kernel) ⟨Nat.le_of_ble_eq_true rfl, Nat.le_of_ble_eq_true rfl⟩) (pV hS hAlo hlo hP hK (va_Dlo hD hAlo) hZ [3, 4, 5] (by decide) rfl (ci := 5) (q := (RX5, TX5, 4)) (q0 := 0) rfl rfl) rfl rfl hl.1 rfl (lv_room (Nat.le_of_ble_eq_true rfl)) dX2_meanOfRound_148 ⟨Nat.le_of_ble_eq_true rfl, Nat.le_of_ble_eq_true rfl⟩) hS hA hP (fun r_21 H locs hw_21 hP hS => ?_)
            try dsimp only at hw_21
            refine lv_iload hx hb dX2_meanOfRound_151 (lv_at hl 1 rfl) ?_
            refine lv_iload hx hb dX2_meanOfRound_153 (lv_at hl 0 rfl) ?_
            refine ro_i (D := D) (va_runSN (As := [.int r_21, .int r_7, .int x_20]) (rest := [.int (nI pa_8), .ref y1]) ⟨hx, hb, hml, hown, hts⟩ ((x_mixed l D k st lo r_21 r_7 x_20) H.size) ⟨va_cnB 3 hts (gLW tw_570) rfl rfl rfl (hZ.2.2.2.2.2.2.2.2.1.1 (RX2, 78, yX7_mixed, RX7) (List.mem_of_getElem? (i := 6) rfl)) (hts _ tw_79) (by decide +kernel) ⟨Nat.le_of_ble_eq_true rfl, Nat.le_of_ble_eq_true rfl⟩, hts _ tw_569, trivial⟩ (pS hS hAlo hlo hP hK (va_Dlo hD hAlo) hZ [] (by decide) rfl) rfl rfl hl.1 rfl (lv_room (Nat.le_of_ble_eq_true rfl)) dX2_meanOfRound_155 ⟨Nat.le_of_ble_eq_true rfl, Nat.le_of_ble_eq_true rfl⟩) hS hA hP (fun r_22 H locs hw_22 hP hS => ?_)
            try dsimp only at hw_22
            refine va_iast hx hb hK hP hD hS 1 1 rfl rfl (vp_in_nI (by omega) (by decide)) dX2_meanOfRound_158 (fun H locs hP hD hS => ?_)
            replace hP : va_P D classes [(y0, .inr (2, (fX2 y1 y2 y3 wt wc))), (aI k y1 25 (upd ya2_8 (Int32.toNatClampNeg (nI pa_8)) r_22)), (aI k y2 25 yb2_8), (h0, .inr (5, (fX5 h1 h2 h3 h4))), (aI k h1 10 (vv n see tm g)), (aI k h2 24 ff), (aI k h3 24 fp), (aI k h4 4 fl), (u0, .inr (3, (fX3 u1 u2 rf (nI rc) (nI rr)))), (aI k u1 24 rs), (aI k u2 24 rb)] H := hP
            replace hD : va_D A [(y0, .inr (2, (fX2 y1 y2 y3 wt wc))), (aI k y1 25 (upd ya2_8 (Int32.toNatClampNeg (nI pa_8)) r_22)), (aI k y2 25 yb2_8), (h0, .inr (5, (fX5 h1 h2 h3 h4))), (aI k h1 10 (vv n see tm g)), (aI k h2 24 ff), (aI k h3 24 fp), (aI k h4 4 fl), (u0, .inr (3, (fX3 u1 u2 rf (nI rc) (nI rr)))), (aI k u1 24 rs), (aI k u2 24 rb)] := hD
            generalize (upd ya2_8 (Int32.toNatClampNeg (nI pa_8)) r_22) = f_23 at hP hD
            refine lv_aload_n hx hb dX2_meanOfRound_159 rfl (lv_at hl 7 rfl) ?_
            refine va_get (D := D) (ci := 2) (v := .ref y2) (C := RX2) (T := TX2) (N := 5) hx hb hts inX2 hown hK hP 0 rfl rfl 1 (by decide) (hts _ tw_211) (fun _ h9 => h9) rfl dX2_meanOfRound_160 ?_
            refine lv_iload hx hb dX2_meanOfRound_163 (lv_at hl 3 rfl) ?_
            refine lv_aload_n hx hb dX2_meanOfRound_165 rfl (lv_at hl 8 rfl) ?_
            refine lv_iload hx hb dX2_meanOfRound_166 (lv_at hl 5 rfl) ?_
            refine lv_iconst (v := 0) hx hb dX2_meanOfRound_168 (by decide) ?_
            refine ro_i (D := D) (va_runV (As := [.int (nI q_6), .int 0]) (rest := [.int (nI pa_8), .ref y2]) ⟨hx, hb, hml, hown, hts⟩ ((x_chanceOf l D k st lo h0 h1 h2 h3 h4 n see tm g ff q_6 0 (by omega)) H.size) (cwV 2 hts (gV tw_733 tw_565 tw_566 tw_81 tw_567) rfl rfl rfl (by decide +kernel) ⟨Nat.le_of_ble_eq_true rfl, Nat.le_of_ble_eq_true rfl⟩) (pV hS hAlo hlo hP hK (va_Dlo hD hAlo) hZ [3, 4, 5] (by decide) rfl (ci := 5) (q := (RX5, TX5, 4)) (q0 := 0) rfl rfl) rfl rfl hl.1 rfl (lv_room (Nat.le_of_ble_eq_true rfl)) dX2_meanOfRound_169 ⟨Nat.le_of_ble_eq_true rfl, Nat.le_of_ble_eq_true rfl⟩) hS hA hP (fun r_24 H locs hw_24 hP hS => ?_)
            try dsimp only at hw_24
            refine lv_iload hx hb dX2_meanOfRound_172 (lv_at hl 1 rfl) ?_
            refine lv_iload hx hb dX2_meanOfRound_174 (lv_at hl 0 rfl) ?_
            refine ro_i (D := D) (va_runSN (As := [.int r_24, .int r_7, .int x_20]) (rest := [.int (nI pa_8), .ref y2]) ⟨hx, hb, hml, hown, hts⟩ ((x_mixed l D k st lo r_24 r_7 x_20) H.size) ⟨va_cnB 3 hts (gLW tw_570) rfl rfl rfl (hZ.2.2.2.2.2.2.2.2.1.1 (RX2, 78, yX7_mixed, RX7) (List.mem_of_getElem? (i := 6) rfl)) (hts _ tw_79) (by decide +kernel) ⟨Nat.le_of_ble_eq_true rfl, Nat.le_of_ble_eq_true rfl⟩, hts _ tw_569, trivial⟩ (pS hS hAlo hlo hP hK (va_Dlo hD hAlo) hZ [] (by decide) rfl) rfl rfl hl.1 rfl (lv_room (Nat.le_of_ble_eq_true rfl)) dX2_meanOfRound_176 ⟨Nat.le_of_ble_eq_true rfl, Nat.le_of_ble_eq_true rfl⟩) hS hA hP (fun r_25 H locs hw_25 hP hS => ?_)
            try dsimp only at hw_25
            refine va_iast hx hb hK hP hD hS 2 1 rfl rfl (vp_in_nI (by omega) (by decide)) dX2_meanOfRound_179 (fun H locs hP hD hS => ?_)
            replace hP : va_P D classes [(y0, .inr (2, (fX2 y1 y2 y3 wt wc))), (aI k y1 25 f_23), (aI k y2 25 (upd yb2_8 (Int32.toNatClampNeg (nI pa_8)) r_25)), (h0, .inr (5, (fX5 h1 h2 h3 h4))), (aI k h1 10 (vv n see tm g)), (aI k h2 24 ff), (aI k h3 24 fp), (aI k h4 4 fl), (u0, .inr (3, (fX3 u1 u2 rf (nI rc) (nI rr)))), (aI k u1 24 rs), (aI k u2 24 rb)] H := hP
            replace hD : va_D A [(y0, .inr (2, (fX2 y1 y2 y3 wt wc))), (aI k y1 25 f_23), (aI k y2 25 (upd yb2_8 (Int32.toNatClampNeg (nI pa_8)) r_25)), (h0, .inr (5, (fX5 h1 h2 h3 h4))), (aI k h1 10 (vv n see tm g)), (aI k h2 24 ff), (aI k h3 24 fp), (aI k h4 4 fl), (u0, .inr (3, (fX3 u1 u2 rf (nI rc) (nI rr)))), (aI k u1 24 rs), (aI k u2 24 rb)] := hD
            generalize (upd yb2_8 (Int32.toNatClampNeg (nI pa_8)) r_25) = f_26 at hP hD
            refine lv_iinc (v := (nI (pa_8 + 1))) (lv' := [(9, .int (nI (pa_8 + 1))), (12, .int x_20), (11, .int r_7), (10, .int 1), (8, .int r_7), (7, .int (nI q_6)), (6, .int 0), (0, .ref y0), (1, .ref h0), (2, .ref u0), (3, .int (nI wh)), (4, .int (nI rn)), (5, .int p4)]) hx hb dX2_meanOfRound_180 hl (k := 3) rfl (nI_add pa_8 1) (by decide) rfl (fun ls hl => ?_)
            refine lv_goto (tgt := 77) hx hb dX2_meanOfRound_183 (by decide) ?_
            exact ih_8 _ (pa_8 + 1, f_23, f_26) _ _ _ (by omega) ⟨rfl, (by omega), hP, hD, hS, (lv_sub hl [0, 4, 5, 6, 7, 8, 9, 10, 11, 12] rfl)⟩
    · have c_4 := (nI_eq (a := wh) (b := 0) (by omega) (by omega)).mp c_4
      refine lv_aload_n hx hb dX2_meanOfRound_40 rfl (lv_at hl 2 rfl) ?_
      refine ro_i (D := D) (va_runV (As := []) (rest := []) ⟨hx, hb, hml, hown, hts⟩ ((x_passing l D k st lo h0 h1 h2 h3 h4 n see tm g) H.size) (cwV 0 hts (gV tw_724 tw_573 tw_574 tw_81 tw_575) rfl rfl rfl (by decide +kernel) ⟨Nat.le_of_ble_eq_true rfl, Nat.le_of_ble_eq_true rfl⟩) (pV hS hAlo hlo hP hK (va_Dlo hD hAlo) hZ [3, 4] (by decide) rfl (ci := 5) (q := (RX5, TX5, 4)) (q0 := 0) rfl rfl) rfl rfl hl.1 rfl (lv_room (Nat.le_of_ble_eq_true rfl)) dX2_meanOfRound_41 ⟨Nat.le_of_ble_eq_true rfl, Nat.le_of_ble_eq_true rfl⟩) hS hA hP (fun r_27 H locs hw_27 hP hS => ?_)
      try dsimp only at hw_27
      refine lv_goto (tgt := 48) hx hb dX2_meanOfRound_44 (by decide) ?_
      refine lv_istore (lv' := [(6, .int r_27), (0, .ref y0), (1, .ref h0), (2, .ref u0), (3, .int (nI wh)), (4, .int (nI rn)), (5, .int p4)]) hx hb dX2_meanOfRound_48 hl (by decide) rfl (fun ls hl => ?_)
      refine lv_aload_n hx hb dX2_meanOfRound_50 rfl (lv_at hl 2 rfl) ?_
      refine ro_i (D := D) (va_runV (As := []) (rest := []) ⟨hx, hb, hml, hown, hts⟩ ((x_doors l D k st lo h0 h1 h2 h3 h4 n see tm g) H.size) (cwV 0 hts (gV tw_723 tw_478 tw_479 tw_81 tw_480) rfl rfl rfl (by decide +kernel) ⟨Nat.le_of_ble_eq_true rfl, Nat.le_of_ble_eq_true rfl⟩) (pV hS hAlo hlo hP hK (va_Dlo hD hAlo) hZ [3, 4] (by decide) rfl (ci := 5) (q := (RX5, TX5, 4)) (q0 := 0) rfl rfl) rfl rfl hl.1 rfl (lv_room (Nat.le_of_ble_eq_true rfl)) dX2_meanOfRound_51 ⟨Nat.le_of_ble_eq_true rfl, Nat.le_of_ble_eq_true rfl⟩) hS hA hP (fun r_28 H locs hw_28 hP hS => ?_)
      try dsimp only at hw_28
      subst hw_28
      refine lv_iconst (v := 1) hx hb dX2_meanOfRound_54 (by decide) ?_
      refine lv_isub hx hb dX2_meanOfRound_55 ?_
      refine lv_ti (y := (nI n - 1)) rfl ?_
      refine lv_istore (lv' := [(7, .int (nI n - 1)), (6, .int r_27), (0, .ref y0), (1, .ref h0), (2, .ref u0), (3, .int (nI wh)), (4, .int (nI rn)), (5, .int p4)]) hx hb dX2_meanOfRound_56 hl (by decide) rfl (fun ls hl => ?_)
      refine W_loop (σ := Nat × (Nat → Int32) × (Nat → Int32)) (fun (n_ : Nat) (x_ : Nat × (Nat → Int32) × (Nat → Int32)) (H : Heap) (locs : List Loc) (ls : Array Slot) => match x_ with | (q_29, ya2_29, yb2_29) => n_ = 2 * q_29 ∧ (q_29 ≤ n) ∧ va_P D classes [(y0, .inr (2, (fX2 y1 y2 y3 wt wc))), (aI k y1 25 ya2_29), (aI k y2 25 yb2_29), (h0, .inr (5, (fX5 h1 h2 h3 h4))), (aI k h1 10 (vv n see tm g)), (aI k h2 24 ff), (aI k h3 24 fp), (aI k h4 4 fl), (u0, .inr (3, (fX3 u1 u2 rf (nI rc) (nI rr)))), (aI k u1 24 rs), (aI k u2 24 rb)] H ∧ va_D A [(y0, .inr (2, (fX2 y1 y2 y3 wt wc))), (aI k y1 25 ya2_29), (aI k y2 25 yb2_29), (h0, .inr (5, (fX5 h1 h2 h3 h4))), (aI k h1 10 (vv n see tm g)), (aI k h2 24 ff), (aI k h3 24 fp), (aI k h4 4 fl), (u0, .inr (3, (fX3 u1 u2 rf (nI rc) (nI rr)))), (aI k u1 24 rs), (aI k u2 24 rb)] ∧ va_S A s.heap H locs ∧ lv_has ls 13 [(7, .int (nI q_29 - 1)), (6, .int r_27), (0, .ref y0), (1, .ref h0), (2, .ref u0), (3, .int (nI wh)), (4, .int (nI rn)), (5, .int p4)]) (fun n_29 x_29 H locs ls hI ih_29 => ?_) _ (n, ya2_1, yb2_1) ⟨rfl, (by omega), hP, hD, hS, (lv_sub hl [0, 1, 2, 3, 4, 5, 6, 7] rfl)⟩
      obtain ⟨q_29, ya2_29, yb2_29⟩ := x_29
      obtain ⟨hm_29, hv_29, hP, hD, hS, hl⟩ := hI
      subst hm_29
      rcases q_29 with _ | q_29
      · rw [dn0] at hl
        refine lv_iload hx hb dX2_meanOfRound_58 (lv_at hl 0 rfl) ?_
        refine lv_if_lt (tgt := 192) hx hb dX2_meanOfRound_60 (by decide) (fun _ => ?_) (fun h => absurd (by decide) h)
        refine lv_aload_n hx hb dX2_meanOfRound_192 rfl (lv_at hl 2 rfl) ?_
        refine va_get (D := D) (ci := 2) (v := .ref y2) (C := RX2) (T := TX2) (N := 5) hx hb hts inX2 hown hK hP 0 rfl rfl 1 (by decide) (hts _ tw_211) (fun _ h9 => h9) rfl dX2_meanOfRound_193 ?_
        refine lv_iconst (v := 0) hx hb dX2_meanOfRound_196 (by decide) ?_
        refine va_iald hx hb hK hP 2 1 rfl rfl (by unfold vp_in; decide) dX2_meanOfRound_197 ?_
        refine lv_ti (y := (yb2_29 0)) (by rfl) ?_
        have hP9 := hP.sub (ws' := [(y0, .inr (2, (fX2 y1 y2 y3 wt wc))), (aI k y1 25 ya2_29), (aI k y2 25 yb2_29), (h0, .inr (5, (fX5 h1 h2 h3 h4))), (aI k h1 10 (vv n see tm g)), (aI k h2 24 ff), (aI k h3 24 fp), (aI k h4 4 fl), (u0, .inr (3, (fX3 u1 u2 rf (nI rc) (nI rr)))), (aI k u1 24 rs), (aI k u2 24 rb)]) [0, 1, 2, 3, 4, 5, 6, 7, 8, 9, 10] rfl
        have hD9 := hD.sub (ws' := [(y0, .inr (2, (fX2 y1 y2 y3 wt wc))), (aI k y1 25 ya2_29), (aI k y2 25 yb2_29), (h0, .inr (5, (fX5 h1 h2 h3 h4))), (aI k h1 10 (vv n see tm g)), (aI k h2 24 ff), (aI k h3 24 fp), (aI k h4 4 fl), (u0, .inr (3, (fX3 u1 u2 rf (nI rc) (nI rr)))), (aI k u1 24 rs), (aI k u2 24 rb)]) [0, 1, 2, 3, 4, 5, 6, 7, 8, 9, 10] (by decide +kernel) rfl
        exact W.iret (v := (yb2_29 0)) hx hb hr (fun t ht hW => ⟨⟨(yb2_29 0), (ya2_29, yb2_29), rfl, trivial, by rw [ht]; exact hP9, hD9⟩, hS.F ht⟩) hS.2.2 dX2_meanOfRound_198
      · rw [nI_pred] at hl
        refine lv_iload hx hb dX2_meanOfRound_58 (lv_at hl 0 rfl) ?_
        refine lv_if_lt (tgt := 192) hx hb dX2_meanOfRound_60 (by decide) (fun h => absurd h (nI_pos0 (by omega))) (fun _ => ?_)
        refine lv_aload_n hx hb dX2_meanOfRound_63 rfl (lv_at hl 3 rfl) ?_
        refine lv_iload hx hb dX2_meanOfRound_64 (lv_at hl 6 rfl) ?_
        refine lv_iload hx hb dX2_meanOfRound_66 (lv_at hl 0 rfl) ?_
        refine lv_iload_n hx hb dX2_meanOfRound_68 rfl (lv_at hl 5 rfl) ?_
        refine ro_i (D := D) (va_runS (As := [.ref h0, .int (nI rn), .int (nI q_29), .int (nI wh)]) (rest := []) ⟨hx, hb, hml, hown, hts⟩ ((x_doorShare l D k st lo h0 h1 h2 h3 h4 n see tm g fp fl rn q_29 wh (by omega) (by omega) (by omega)) H.size) (va_cwS 4 hts (gS tw_725 tw_726 tw_83 tw_727) rfl rfl rfl (by decide +kernel) ⟨Nat.le_of_ble_eq_true rfl, Nat.le_of_ble_eq_true rfl⟩) (pS hS hAlo hlo hP hK (va_Dlo hD hAlo) hZ [3, 4, 6, 7] (by decide) rfl) rfl rfl hl.1 rfl (lv_room (Nat.le_of_ble_eq_true rfl)) dX2_meanOfRound_69 ⟨Nat.le_of_ble_eq_true rfl, Nat.le_of_ble_eq_true rfl⟩) hS hA hP (fun r_30 H locs hw_30 hP hS => ?_)
        try dsimp only at hw_30
        refine lv_istore (lv' := [(8, .int r_30), (7, .int (nI q_29)), (6, .int r_27), (0, .ref y0), (1, .ref h0), (2, .ref u0), (3, .int (nI wh)), (4, .int (nI rn)), (5, .int p4)]) hx hb dX2_meanOfRound_72 hl (by decide) rfl (fun ls hl => ?_)
        refine lv_iconst (v := 0) hx hb dX2_meanOfRound_74 (by decide) ?_
        refine lv_istore (lv' := [(9, .int 0), (8, .int r_30), (7, .int (nI q_29)), (6, .int r_27), (0, .ref y0), (1, .ref h0), (2, .ref u0), (3, .int (nI wh)), (4, .int (nI rn)), (5, .int p4)]) hx hb dX2_meanOfRound_75 hl (by decide) rfl (fun ls hl => ?_)
        refine W_loop (σ := Nat × (Nat → Int32) × (Nat → Int32)) (fun (n_ : Nat) (x_ : Nat × (Nat → Int32) × (Nat → Int32)) (H : Heap) (locs : List Loc) (ls : Array Slot) => match x_ with | (pa_31, ya2_31, yb2_31) => n_ = 26 - pa_31 ∧ (pa_31 ≤ 25) ∧ va_P D classes [(y0, .inr (2, (fX2 y1 y2 y3 wt wc))), (aI k y1 25 ya2_31), (aI k y2 25 yb2_31), (h0, .inr (5, (fX5 h1 h2 h3 h4))), (aI k h1 10 (vv n see tm g)), (aI k h2 24 ff), (aI k h3 24 fp), (aI k h4 4 fl), (u0, .inr (3, (fX3 u1 u2 rf (nI rc) (nI rr)))), (aI k u1 24 rs), (aI k u2 24 rb)] H ∧ va_D A [(y0, .inr (2, (fX2 y1 y2 y3 wt wc))), (aI k y1 25 ya2_31), (aI k y2 25 yb2_31), (h0, .inr (5, (fX5 h1 h2 h3 h4))), (aI k h1 10 (vv n see tm g)), (aI k h2 24 ff), (aI k h3 24 fp), (aI k h4 4 fl), (u0, .inr (3, (fX3 u1 u2 rf (nI rc) (nI rr)))), (aI k u1 24 rs), (aI k u2 24 rb)] ∧ va_S A s.heap H locs ∧ lv_has ls 13 [(9, .int (nI pa_31)), (8, .int r_30), (7, .int (nI q_29)), (6, .int r_27), (0, .ref y0), (1, .ref h0), (2, .ref u0), (3, .int (nI wh)), (4, .int (nI rn)), (5, .int p4)]) (fun n_31 x_31 H locs ls hI ih_31 => ?_) _ (0, ya2_29, yb2_29) ⟨rfl, (by omega), hP, hD, hS, (lv_sub hl [0, 1, 2, 3, 4, 5, 6, 7, 8, 9] rfl)⟩
        obtain ⟨pa_31, ya2_31, yb2_31⟩ := x_31
        obtain ⟨hm_31, hv_31, hP, hD, hS, hl⟩ := hI
        subst hm_31
        refine lv_iload hx hb dX2_meanOfRound_77 (lv_at hl 0 rfl) ?_
        refine lv_iload hx hb dX2_meanOfRound_79 (lv_at hl 2 rfl) ?_
        refine lv_icmp_gt (tgt := 186) hx hb dX2_meanOfRound_81 (by decide) (fun c_32 => ?_) (fun c_32 => ?_)
        · have c_32 := (nI_ltI (a := q_29) (b := pa_31) (by omega) (by omega)).mp c_32
          refine lv_iinc (v := (nI q_29 - 1)) (lv' := [(7, .int (nI q_29 - 1)), (9, .int (nI pa_31)), (8, .int r_30), (6, .int r_27), (0, .ref y0), (1, .ref h0), (2, .ref u0), (3, .int (nI wh)), (4, .int (nI rn)), (5, .int p4)]) hx hb dX2_meanOfRound_186 hl (k := 2) rfl (dn1 _) (by decide) rfl (fun ls hl => ?_)
          refine lv_goto (tgt := 58) hx hb dX2_meanOfRound_189 (by decide) ?_
          exact ih_29 _ (q_29, ya2_31, yb2_31) _ _ _ (by omega) ⟨rfl, (by omega), hP, hD, hS, (lv_sub hl [0, 3, 4, 5, 6, 7, 8, 9] rfl)⟩
        · have c_32 : ¬ (q_29 < pa_31) := fun h => c_32 ((nI_ltI (a := q_29) (b := pa_31) (by omega) (by omega)).mpr h)
          refine lv_iload hx hb dX2_meanOfRound_84 (lv_at hl 2 rfl) ?_
          refine lv_aload_n hx hb dX2_meanOfRound_86 rfl (lv_at hl 6 rfl) ?_
          refine lv_iload hx hb dX2_meanOfRound_87 (lv_at hl 0 rfl) ?_
          refine ro_i (D := D) (va_runV (As := [.int (nI pa_31)]) (rest := [.int (nI q_29)]) ⟨hx, hb, hml, hown, hts⟩ ((x_barAfter l D k st lo u0 u1 u2 rf rc rr rs rb (nI pa_31) (by omega)) H.size) (cwV 1 hts (gV tw_729 tw_730 tw_731 tw_86 tw_732) rfl rfl rfl (by decide +kernel) ⟨Nat.le_of_ble_eq_true rfl, Nat.le_of_ble_eq_true rfl⟩) (pV hS hAlo hlo hP hK (va_Dlo hD hAlo) hZ [8, 9, 10] (by decide) rfl (ci := 3) (q := (RX3, TX3, 5)) (q0 := 0) rfl rfl) rfl rfl hl.1 rfl (lv_room (Nat.le_of_ble_eq_true rfl)) dX2_meanOfRound_89 ⟨Nat.le_of_ble_eq_true rfl, Nat.le_of_ble_eq_true rfl⟩) hS hA hP (fun r_33 H locs hw_33 hP hS => ?_)
          try dsimp only at hw_33
          refine lv_icmp_lt (tgt := 99) hx hb dX2_meanOfRound_92 (by decide) (fun c_34 => ?_) (fun c_34 => ?_)
          · refine lv_iconst (v := 0) hx hb dX2_meanOfRound_99 (by decide) ?_
            refine lv_istore (lv' := [(10, .int 0), (9, .int (nI pa_31)), (8, .int r_30), (7, .int (nI q_29)), (6, .int r_27), (0, .ref y0), (1, .ref h0), (2, .ref u0), (3, .int (nI wh)), (4, .int (nI rn)), (5, .int p4)]) hx hb dX2_meanOfRound_100 hl (by decide) rfl (fun ls hl => ?_)
            refine lv_iload hx hb dX2_meanOfRound_102 (lv_at hl 0 rfl) ?_
            refine lv_if_eq (tgt := 112) hx hb dX2_meanOfRound_104 (by decide) (fun _ => ?_) (fun h => absurd (by decide) h)
            refine lv_iload hx hb dX2_meanOfRound_112 (lv_at hl 4 rfl) ?_
            refine lv_aload_n hx hb dX2_meanOfRound_114 rfl (lv_at hl 5 rfl) ?_
            refine va_get (D := D) (ci := 2) (v := .ref y1) (C := RX2) (T := TX2) (N := 5) hx hb hts inX2 hown hK hP 0 rfl rfl 0 (by decide) (hts _ tw_210) (fun _ h9 => h9) rfl dX2_meanOfRound_115 ?_
            refine lv_iload hx hb dX2_meanOfRound_118 (lv_at hl 1 rfl) ?_
            refine lv_iconst (v := 1) hx hb dX2_meanOfRound_120 (by decide) ?_
            refine lv_iadd hx hb dX2_meanOfRound_121 ?_
            refine lv_ti (y := (nI (pa_31 + 1))) (nI_add pa_31 1) ?_
            refine va_iald hx hb hK hP 1 1 rfl rfl (vp_in_nI (by omega) (by decide)) dX2_meanOfRound_122 ?_
            refine lv_ti (y := (ya2_31 (pa_31 + 1))) (by rw [nI_clamp (by omega)]) ?_
            refine lv_iadd hx hb dX2_meanOfRound_123 ?_
            refine lv_topi (fun x_35 ex_35 => ?_)
            refine lv_istore (lv' := [(11, .int x_35), (10, .int 0), (9, .int (nI pa_31)), (8, .int r_30), (7, .int (nI q_29)), (6, .int r_27), (0, .ref y0), (1, .ref h0), (2, .ref u0), (3, .int (nI wh)), (4, .int (nI rn)), (5, .int p4)]) hx hb dX2_meanOfRound_124 hl (by decide) rfl (fun ls hl => ?_)
            refine lv_iload hx hb dX2_meanOfRound_126 (lv_at hl 5 rfl) ?_
            refine lv_aload_n hx hb dX2_meanOfRound_128 rfl (lv_at hl 6 rfl) ?_
            refine va_get (D := D) (ci := 2) (v := .ref y2) (C := RX2) (T := TX2) (N := 5) hx hb hts inX2 hown hK hP 0 rfl rfl 1 (by decide) (hts _ tw_211) (fun _ h9 => h9) rfl dX2_meanOfRound_129 ?_
            refine lv_iload hx hb dX2_meanOfRound_132 (lv_at hl 2 rfl) ?_
            refine va_iald hx hb hK hP 2 1 rfl rfl (vp_in_nI (by omega) (by decide)) dX2_meanOfRound_134 ?_
            refine lv_ti (y := (yb2_31 pa_31)) (by rw [nI_clamp (by omega)]) ?_
            refine lv_iadd hx hb dX2_meanOfRound_135 ?_
            refine lv_topi (fun x_36 ex_36 => ?_)
            refine lv_istore (lv' := [(12, .int x_36), (11, .int x_35), (10, .int 0), (9, .int (nI pa_31)), (8, .int r_30), (7, .int (nI q_29)), (6, .int r_27), (0, .ref y0), (1, .ref h0), (2, .ref u0), (3, .int (nI wh)), (4, .int (nI rn)), (5, .int p4)]) hx hb dX2_meanOfRound_136 hl (by decide) rfl (fun ls hl => ?_)
            refine lv_aload_n hx hb dX2_meanOfRound_138 rfl (lv_at hl 7 rfl) ?_
            refine va_get (D := D) (ci := 2) (v := .ref y1) (C := RX2) (T := TX2) (N := 5) hx hb hts inX2 hown hK hP 0 rfl rfl 0 (by decide) (hts _ tw_210) (fun _ h9 => h9) rfl dX2_meanOfRound_139 ?_
            refine lv_iload hx hb dX2_meanOfRound_142 (lv_at hl 3 rfl) ?_
            refine lv_aload_n hx hb dX2_meanOfRound_144 rfl (lv_at hl 8 rfl) ?_
            refine lv_iload hx hb dX2_meanOfRound_145 (lv_at hl 5 rfl) ?_
            refine lv_iconst (v := 1) hx hb dX2_meanOfRound_147 (by decide) ?_
            refine ro_i (D := D) (va_runV (As := [.int (nI q_29), .int 1]) (rest := [.int (nI pa_31), .ref y1]) ⟨hx, hb, hml, hown, hts⟩ ((x_chanceOf l D k st lo h0 h1 h2 h3 h4 n see tm g ff q_29 1 (by omega)) H.size) (cwV 2 hts (gV tw_733 tw_565 tw_566 tw_81 tw_567) rfl rfl rfl (by decide +kernel) ⟨Nat.le_of_ble_eq_true rfl, Nat.le_of_ble_eq_true rfl⟩) (pV hS hAlo hlo hP hK (va_Dlo hD hAlo) hZ [3, 4, 5] (by decide) rfl (ci := 5) (q := (RX5, TX5, 4)) (q0 := 0) rfl rfl) rfl rfl hl.1 rfl (lv_room (Nat.le_of_ble_eq_true rfl)) dX2_meanOfRound_148 ⟨Nat.le_of_ble_eq_true rfl, Nat.le_of_ble_eq_true rfl⟩) hS hA hP (fun r_37 H locs hw_37 hP hS => ?_)
            try dsimp only at hw_37
            refine lv_iload hx hb dX2_meanOfRound_151 (lv_at hl 1 rfl) ?_
            refine lv_iload hx hb dX2_meanOfRound_153 (lv_at hl 0 rfl) ?_
            refine ro_i (D := D) (va_runSN (As := [.int r_37, .int x_35, .int x_36]) (rest := [.int (nI pa_31), .ref y1]) ⟨hx, hb, hml, hown, hts⟩ ((x_mixed l D k st lo r_37 x_35 x_36) H.size) ⟨va_cnB 3 hts (gLW tw_570) rfl rfl rfl (hZ.2.2.2.2.2.2.2.2.1.1 (RX2, 78, yX7_mixed, RX7) (List.mem_of_getElem? (i := 6) rfl)) (hts _ tw_79) (by decide +kernel) ⟨Nat.le_of_ble_eq_true rfl, Nat.le_of_ble_eq_true rfl⟩, hts _ tw_569, trivial⟩ (pS hS hAlo hlo hP hK (va_Dlo hD hAlo) hZ [] (by decide) rfl) rfl rfl hl.1 rfl (lv_room (Nat.le_of_ble_eq_true rfl)) dX2_meanOfRound_155 ⟨Nat.le_of_ble_eq_true rfl, Nat.le_of_ble_eq_true rfl⟩) hS hA hP (fun r_38 H locs hw_38 hP hS => ?_)
            try dsimp only at hw_38
            refine va_iast hx hb hK hP hD hS 1 1 rfl rfl (vp_in_nI (by omega) (by decide)) dX2_meanOfRound_158 (fun H locs hP hD hS => ?_)
            replace hP : va_P D classes [(y0, .inr (2, (fX2 y1 y2 y3 wt wc))), (aI k y1 25 (upd ya2_31 (Int32.toNatClampNeg (nI pa_31)) r_38)), (aI k y2 25 yb2_31), (h0, .inr (5, (fX5 h1 h2 h3 h4))), (aI k h1 10 (vv n see tm g)), (aI k h2 24 ff), (aI k h3 24 fp), (aI k h4 4 fl), (u0, .inr (3, (fX3 u1 u2 rf (nI rc) (nI rr)))), (aI k u1 24 rs), (aI k u2 24 rb)] H := hP
            replace hD : va_D A [(y0, .inr (2, (fX2 y1 y2 y3 wt wc))), (aI k y1 25 (upd ya2_31 (Int32.toNatClampNeg (nI pa_31)) r_38)), (aI k y2 25 yb2_31), (h0, .inr (5, (fX5 h1 h2 h3 h4))), (aI k h1 10 (vv n see tm g)), (aI k h2 24 ff), (aI k h3 24 fp), (aI k h4 4 fl), (u0, .inr (3, (fX3 u1 u2 rf (nI rc) (nI rr)))), (aI k u1 24 rs), (aI k u2 24 rb)] := hD
            generalize (upd ya2_31 (Int32.toNatClampNeg (nI pa_31)) r_38) = f_39 at hP hD
            refine lv_aload_n hx hb dX2_meanOfRound_159 rfl (lv_at hl 7 rfl) ?_
            refine va_get (D := D) (ci := 2) (v := .ref y2) (C := RX2) (T := TX2) (N := 5) hx hb hts inX2 hown hK hP 0 rfl rfl 1 (by decide) (hts _ tw_211) (fun _ h9 => h9) rfl dX2_meanOfRound_160 ?_
            refine lv_iload hx hb dX2_meanOfRound_163 (lv_at hl 3 rfl) ?_
            refine lv_aload_n hx hb dX2_meanOfRound_165 rfl (lv_at hl 8 rfl) ?_
            refine lv_iload hx hb dX2_meanOfRound_166 (lv_at hl 5 rfl) ?_
            refine lv_iconst (v := 0) hx hb dX2_meanOfRound_168 (by decide) ?_
            refine ro_i (D := D) (va_runV (As := [.int (nI q_29), .int 0]) (rest := [.int (nI pa_31), .ref y2]) ⟨hx, hb, hml, hown, hts⟩ ((x_chanceOf l D k st lo h0 h1 h2 h3 h4 n see tm g ff q_29 0 (by omega)) H.size) (cwV 2 hts (gV tw_733 tw_565 tw_566 tw_81 tw_567) rfl rfl rfl (by decide +kernel) ⟨Nat.le_of_ble_eq_true rfl, Nat.le_of_ble_eq_true rfl⟩) (pV hS hAlo hlo hP hK (va_Dlo hD hAlo) hZ [3, 4, 5] (by decide) rfl (ci := 5) (q := (RX5, TX5, 4)) (q0 := 0) rfl rfl) rfl rfl hl.1 rfl (lv_room (Nat.le_of_ble_eq_true rfl)) dX2_meanOfRound_169 ⟨Nat.le_of_ble_eq_true rfl, Nat.le_of_ble_eq_true rfl⟩) hS hA hP (fun r_40 H locs hw_40 hP hS => ?_)
            try dsimp only at hw_40
            refine lv_iload hx hb dX2_meanOfRound_172 (lv_at hl 1 rfl) ?_
            refine lv_iload hx hb dX2_meanOfRound_174 (lv_at hl 0 rfl) ?_
            refine ro_i (D := D) (va_runSN (As := [.int r_40, .int x_35, .int x_36]) (rest := [.int (nI pa_31), .ref y2]) ⟨hx, hb, hml, hown, hts⟩ ((x_mixed l D k st lo r_40 x_35 x_36) H.size) ⟨va_cnB 3 hts (gLW tw_570) rfl rfl rfl (hZ.2.2.2.2.2.2.2.2.1.1 (RX2, 78, yX7_mixed, RX7) (List.mem_of_getElem? (i := 6) rfl)) (hts _ tw_79) (by decide +kernel) ⟨Nat.le_of_ble_eq_true rfl, Nat.le_of_ble_eq_true rfl⟩, hts _ tw_569, trivial⟩ (pS hS hAlo hlo hP hK (va_Dlo hD hAlo) hZ [] (by decide) rfl) rfl rfl hl.1 rfl (lv_room (Nat.le_of_ble_eq_true rfl)) dX2_meanOfRound_176 ⟨Nat.le_of_ble_eq_true rfl, Nat.le_of_ble_eq_true rfl⟩) hS hA hP (fun r_41 H locs hw_41 hP hS => ?_)
            try dsimp only at hw_41
            refine va_iast hx hb hK hP hD hS 2 1 rfl rfl (vp_in_nI (by omega) (by decide)) dX2_meanOfRound_179 (fun H locs hP hD hS => ?_)
            replace hP : va_P D classes [(y0, .inr (2, (fX2 y1 y2 y3 wt wc))), (aI k y1 25 f_39), (aI k y2 25 (upd yb2_31 (Int32.toNatClampNeg (nI pa_31)) r_41)), (h0, .inr (5, (fX5 h1 h2 h3 h4))), (aI k h1 10 (vv n see tm g)), (aI k h2 24 ff), (aI k h3 24 fp), (aI k h4 4 fl), (u0, .inr (3, (fX3 u1 u2 rf (nI rc) (nI rr)))), (aI k u1 24 rs), (aI k u2 24 rb)] H := hP
            replace hD : va_D A [(y0, .inr (2, (fX2 y1 y2 y3 wt wc))), (aI k y1 25 f_39), (aI k y2 25 (upd yb2_31 (Int32.toNatClampNeg (nI pa_31)) r_41)), (h0, .inr (5, (fX5 h1 h2 h3 h4))), (aI k h1 10 (vv n see tm g)), (aI k h2 24 ff), (aI k h3 24 fp), (aI k h4 4 fl), (u0, .inr (3, (fX3 u1 u2 rf (nI rc) (nI rr)))), (aI k u1 24 rs), (aI k u2 24 rb)] := hD
            generalize (upd yb2_31 (Int32.toNatClampNeg (nI pa_31)) r_41) = f_42 at hP hD
            refine lv_iinc (v := (nI (pa_31 + 1))) (lv' := [(9, .int (nI (pa_31 + 1))), (12, .int x_36), (11, .int x_35), (10, .int 0), (8, .int r_30), (7, .int (nI q_29)), (6, .int r_27), (0, .ref y0), (1, .ref h0), (2, .ref u0), (3, .int (nI wh)), (4, .int (nI rn)), (5, .int p4)]) hx hb dX2_meanOfRound_180 hl (k := 3) rfl (nI_add pa_31 1) (by decide) rfl (fun ls hl => ?_)
            refine lv_goto (tgt := 77) hx hb dX2_meanOfRound_183 (by decide) ?_
            exact ih_31 _ (pa_31 + 1, f_39, f_42) _ _ _ (by omega) ⟨rfl, (by omega), hP, hD, hS, (lv_sub hl [0, 4, 5, 6, 7, 8, 9, 10, 11, 12] rfl)⟩
          · refine lv_iconst (v := 1) hx hb dX2_meanOfRound_95 (by decide) ?_
            refine lv_goto (tgt := 100) hx hb dX2_meanOfRound_96 (by decide) ?_
            refine lv_istore (lv' := [(10, .int 1), (9, .int (nI pa_31)), (8, .int r_30), (7, .int (nI q_29)), (6, .int r_27), (0, .ref y0), (1, .ref h0), (2, .ref u0), (3, .int (nI wh)), (4, .int (nI rn)), (5, .int p4)]) hx hb dX2_meanOfRound_100 hl (by decide) rfl (fun ls hl => ?_)
            refine lv_iload hx hb dX2_meanOfRound_102 (lv_at hl 0 rfl) ?_
            refine lv_if_eq (tgt := 112) hx hb dX2_meanOfRound_104 (by decide) (fun h => absurd h (by decide)) (fun _ => ?_)
            refine lv_iload hx hb dX2_meanOfRound_107 (lv_at hl 2 rfl) ?_
            refine lv_goto (tgt := 124) hx hb dX2_meanOfRound_109 (by decide) ?_
            refine lv_istore (lv' := [(11, .int r_30), (10, .int 1), (9, .int (nI pa_31)), (8, .int r_30), (7, .int (nI q_29)), (6, .int r_27), (0, .ref y0), (1, .ref h0), (2, .ref u0), (3, .int (nI wh)), (4, .int (nI rn)), (5, .int p4)]) hx hb dX2_meanOfRound_124 hl (by decide) rfl (fun ls hl => ?_)
            refine lv_iload hx hb dX2_meanOfRound_126 (lv_at hl 5 rfl) ?_
            refine lv_aload_n hx hb dX2_meanOfRound_128 rfl (lv_at hl 6 rfl) ?_
            refine va_get (D := D) (ci := 2) (v := .ref y2) (C := RX2) (T := TX2) (N := 5) hx hb hts inX2 hown hK hP 0 rfl rfl 1 (by decide) (hts _ tw_211) (fun _ h9 => h9) rfl dX2_meanOfRound_129 ?_
            refine lv_iload hx hb dX2_meanOfRound_132 (lv_at hl 2 rfl) ?_
            refine va_iald hx hb hK hP 2 1 rfl rfl (vp_in_nI (by omega) (by decide)) dX2_meanOfRound_134 ?_
            refine lv_ti (y := (yb2_31 pa_31)) (by rw [nI_clamp (by omega)]) ?_
            refine lv_iadd hx hb dX2_meanOfRound_135 ?_
            refine lv_topi (fun x_43 ex_43 => ?_)
            refine lv_istore (lv' := [(12, .int x_43), (11, .int r_30), (10, .int 1), (9, .int (nI pa_31)), (8, .int r_30), (7, .int (nI q_29)), (6, .int r_27), (0, .ref y0), (1, .ref h0), (2, .ref u0), (3, .int (nI wh)), (4, .int (nI rn)), (5, .int p4)]) hx hb dX2_meanOfRound_136 hl (by decide) rfl (fun ls hl => ?_)
            refine lv_aload_n hx hb dX2_meanOfRound_138 rfl (lv_at hl 7 rfl) ?_
            refine va_get (D := D) (ci := 2) (v := .ref y1) (C := RX2) (T := TX2) (N := 5) hx hb hts inX2 hown hK hP 0 rfl rfl 0 (by decide) (hts _ tw_210) (fun _ h9 => h9) rfl dX2_meanOfRound_139 ?_
            refine lv_iload hx hb dX2_meanOfRound_142 (lv_at hl 3 rfl) ?_
            refine lv_aload_n hx hb dX2_meanOfRound_144 rfl (lv_at hl 8 rfl) ?_
            refine lv_iload hx hb dX2_meanOfRound_145 (lv_at hl 5 rfl) ?_
            refine lv_iconst (v := 1) hx hb dX2_meanOfRound_147 (by decide) ?_
            refine ro_i (D := D) (va_runV (As := [.int (nI q_29), .int 1]) (rest := [.int (nI pa_31), .ref y1]) ⟨hx, hb, hml, hown, hts⟩ ((x_chanceOf l D k st lo h0 h1 h2 h3 h4 n see tm g ff q_29 1 (by omega)) H.size) (cwV 2 hts (gV tw_733 tw_565 tw_566 tw_81 tw_567) rfl rfl rfl (by decide +kernel) ⟨Nat.le_of_ble_eq_true rfl, Nat.le_of_ble_eq_true rfl⟩) (pV hS hAlo hlo hP hK (va_Dlo hD hAlo) hZ [3, 4, 5] (by decide) rfl (ci := 5) (q := (RX5, TX5, 4)) (q0 := 0) rfl rfl) rfl rfl hl.1 rfl (lv_room (Nat.le_of_ble_eq_true rfl)) dX2_meanOfRound_148 ⟨Nat.le_of_ble_eq_true rfl, Nat.le_of_ble_eq_true rfl⟩) hS hA hP (fun r_44 H locs hw_44 hP hS => ?_)
            try dsimp only at hw_44
            refine lv_iload hx hb dX2_meanOfRound_151 (lv_at hl 1 rfl) ?_
            refine lv_iload hx hb dX2_meanOfRound_153 (lv_at hl 0 rfl) ?_
            refine ro_i (D := D) (va_runSN (As := [.int r_44, .int r_30, .int x_43]) (rest := [.int (nI pa_31), .ref y1]) ⟨hx, hb, hml, hown, hts⟩ ((x_mixed l D k st lo r_44 r_30 x_43) H.size) ⟨va_cnB 3 hts (gLW tw_570) rfl rfl rfl (hZ.2.2.2.2.2.2.2.2.1.1 (RX2, 78, yX7_mixed, RX7) (List.mem_of_getElem? (i := 6) rfl)) (hts _ tw_79) (by decide +kernel) ⟨Nat.le_of_ble_eq_true rfl, Nat.le_of_ble_eq_true rfl⟩, hts _ tw_569, trivial⟩ (pS hS hAlo hlo hP hK (va_Dlo hD hAlo) hZ [] (by decide) rfl) rfl rfl hl.1 rfl (lv_room (Nat.le_of_ble_eq_true rfl)) dX2_meanOfRound_155 ⟨Nat.le_of_ble_eq_true rfl, Nat.le_of_ble_eq_true rfl⟩) hS hA hP (fun r_45 H locs hw_45 hP hS => ?_)
            try dsimp only at hw_45
            refine va_iast hx hb hK hP hD hS 1 1 rfl rfl (vp_in_nI (by omega) (by decide)) dX2_meanOfRound_158 (fun H locs hP hD hS => ?_)
            replace hP : va_P D classes [(y0, .inr (2, (fX2 y1 y2 y3 wt wc))), (aI k y1 25 (upd ya2_31 (Int32.toNatClampNeg (nI pa_31)) r_45)), (aI k y2 25 yb2_31), (h0, .inr (5, (fX5 h1 h2 h3 h4))), (aI k h1 10 (vv n see tm g)), (aI k h2 24 ff), (aI k h3 24 fp), (aI k h4 4 fl), (u0, .inr (3, (fX3 u1 u2 rf (nI rc) (nI rr)))), (aI k u1 24 rs), (aI k u2 24 rb)] H := hP
            replace hD : va_D A [(y0, .inr (2, (fX2 y1 y2 y3 wt wc))), (aI k y1 25 (upd ya2_31 (Int32.toNatClampNeg (nI pa_31)) r_45)), (aI k y2 25 yb2_31), (h0, .inr (5, (fX5 h1 h2 h3 h4))), (aI k h1 10 (vv n see tm g)), (aI k h2 24 ff), (aI k h3 24 fp), (aI k h4 4 fl), (u0, .inr (3, (fX3 u1 u2 rf (nI rc) (nI rr)))), (aI k u1 24 rs), (aI k u2 24 rb)] := hD
            generalize (upd ya2_31 (Int32.toNatClampNeg (nI pa_31)) r_45) = f_46 at hP hD
            refine lv_aload_n hx hb dX2_meanOfRound_159 rfl (lv_at hl 7 rfl) ?_
            refine va_get (D := D) (ci := 2) (v := .ref y2) (C := RX2) (T := TX2) (N := 5) hx hb hts inX2 hown hK hP 0 rfl rfl 1 (by decide) (hts _ tw_211) (fun _ h9 => h9) rfl dX2_meanOfRound_160 ?_
            refine lv_iload hx hb dX2_meanOfRound_163 (lv_at hl 3 rfl) ?_
            refine lv_aload_n hx hb dX2_meanOfRound_165 rfl (lv_at hl 8 rfl) ?_
            refine lv_iload hx hb dX2_meanOfRound_166 (lv_at hl 5 rfl) ?_
            refine lv_iconst (v := 0) hx hb dX2_meanOfRound_168 (by decide) ?_
            refine ro_i (D := D) (va_runV (As := [.int (nI q_29), .int 0]) (rest := [.int (nI pa_31), .ref y2]) ⟨hx, hb, hml, hown, hts⟩ ((x_chanceOf l D k st lo h0 h1 h2 h3 h4 n see tm g ff q_29 0 (by omega)) H.size) (cwV 2 hts (gV tw_733 tw_565 tw_566 tw_81 tw_567) rfl rfl rfl (by decide +kernel) ⟨Nat.le_of_ble_eq_true rfl, Nat.le_of_ble_eq_true rfl⟩) (pV hS hAlo hlo hP hK (va_Dlo hD hAlo) hZ [3, 4, 5] (by decide) rfl (ci := 5) (q := (RX5, TX5, 4)) (q0 := 0) rfl rfl) rfl rfl hl.1 rfl (lv_room (Nat.le_of_ble_eq_true rfl)) dX2_meanOfRound_169 ⟨Nat.le_of_ble_eq_true rfl, Nat.le_of_ble_eq_true rfl⟩) hS hA hP (fun r_47 H locs hw_47 hP hS => ?_)
            try dsimp only at hw_47
            refine lv_iload hx hb dX2_meanOfRound_172 (lv_at hl 1 rfl) ?_
            refine lv_iload hx hb dX2_meanOfRound_174 (lv_at hl 0 rfl) ?_
            refine ro_i (D := D) (va_runSN (As := [.int r_47, .int r_30, .int x_43]) (rest := [.int (nI pa_31), .ref y2]) ⟨hx, hb, hml, hown, hts⟩ ((x_mixed l D k st lo r_47 r_30 x_43) H.size) ⟨va_cnB 3 hts (gLW tw_570) rfl rfl rfl (hZ.2.2.2.2.2.2.2.2.1.1 (RX2, 78, yX7_mixed, RX7) (List.mem_of_getElem? (i := 6) rfl)) (hts _ tw_79) (by decide +kernel) ⟨Nat.le_of_ble_eq_true rfl, Nat.le_of_ble_eq_true rfl⟩, hts _ tw_569, trivial⟩ (pS hS hAlo hlo hP hK (va_Dlo hD hAlo) hZ [] (by decide) rfl) rfl rfl hl.1 rfl (lv_room (Nat.le_of_ble_eq_true rfl)) dX2_meanOfRound_176 ⟨Nat.le_of_ble_eq_true rfl, Nat.le_of_ble_eq_true rfl⟩) hS hA hP (fun r_48 H locs hw_48 hP hS => ?_)
            try dsimp only at hw_48
            refine va_iast hx hb hK hP hD hS 2 1 rfl rfl (vp_in_nI (by omega) (by decide)) dX2_meanOfRound_179 (fun H locs hP hD hS => ?_)
            replace hP : va_P D classes [(y0, .inr (2, (fX2 y1 y2 y3 wt wc))), (aI k y1 25 f_46), (aI k y2 25 (upd yb2_31 (Int32.toNatClampNeg (nI pa_31)) r_48)), (h0, .inr (5, (fX5 h1 h2 h3 h4))), (aI k h1 10 (vv n see tm g)), (aI k h2 24 ff), (aI k h3 24 fp), (aI k h4 4 fl), (u0, .inr (3, (fX3 u1 u2 rf (nI rc) (nI rr)))), (aI k u1 24 rs), (aI k u2 24 rb)] H := hP
            replace hD : va_D A [(y0, .inr (2, (fX2 y1 y2 y3 wt wc))), (aI k y1 25 f_46), (aI k y2 25 (upd yb2_31 (Int32.toNatClampNeg (nI pa_31)) r_48)), (h0, .inr (5, (fX5 h1 h2 h3 h4))), (aI k h1 10 (vv n see tm g)), (aI k h2 24 ff), (aI k h3 24 fp), (aI k h4 4 fl), (u0, .inr (3, (fX3 u1 u2 rf (nI rc) (nI rr)))), (aI k u1 24 rs), (aI k u2 24 rb)] := hD
            generalize (upd yb2_31 (Int32.toNatClampNeg (nI pa_31)) r_48) = f_49 at hP hD
            refine lv_iinc (v := (nI (pa_31 + 1))) (lv' := [(9, .int (nI (pa_31 + 1))), (12, .int x_43), (11, .int r_30), (10, .int 1), (8, .int r_30), (7, .int (nI q_29)), (6, .int r_27), (0, .ref y0), (1, .ref h0), (2, .ref u0), (3, .int (nI wh)), (4, .int (nI rn)), (5, .int p4)]) hx hb dX2_meanOfRound_180 hl (k := 3) rfl (nI_add pa_31 1) (by decide) rfl (fun ls hl => ?_)
            refine lv_goto (tgt := 77) hx hb dX2_meanOfRound_183 (by decide) ?_
            exact ih_31 _ (pa_31 + 1, f_46, f_49) _ _ _ (by omega) ⟨rfl, (by omega), hP, hD, hS, (lv_sub hl [0, 4, 5, 6, 7, 8, 9, 10, 11, 12] rfl)⟩
  · have c_3 : ¬ (n < pa_1) := fun h => c_3 ((nI_ltI (a := n) (b := pa_1) (by omega) (by omega)).mpr h)
    refine lv_aload_n hx hb dX2_meanOfRound_12 rfl (lv_at hl 1 rfl) ?_
    refine va_get (D := D) (ci := 2) (v := .ref y1) (C := RX2) (T := TX2) (N := 5) hx hb hts inX2 hown hK hP 0 rfl rfl 0 (by decide) (hts _ tw_210) (fun _ h9 => h9) rfl dX2_meanOfRound_13 ?_
    refine lv_iload hx hb dX2_meanOfRound_16 (lv_at hl 0 rfl) ?_
    refine lv_iload hx hb dX2_meanOfRound_18 (lv_at hl 6 rfl) ?_
    refine va_iast hx hb hK hP hD hS 1 1 rfl rfl (vp_in_nI (by omega) (by decide)) dX2_meanOfRound_20 (fun H locs hP hD hS => ?_)
    replace hP : va_P D classes [(y0, .inr (2, (fX2 y1 y2 y3 wt wc))), (aI k y1 25 (upd ya2_1 (Int32.toNatClampNeg (nI pa_1)) p4)), (aI k y2 25 yb2_1), (h0, .inr (5, (fX5 h1 h2 h3 h4))), (aI k h1 10 (vv n see tm g)), (aI k h2 24 ff), (aI k h3 24 fp), (aI k h4 4 fl), (u0, .inr (3, (fX3 u1 u2 rf (nI rc) (nI rr)))), (aI k u1 24 rs), (aI k u2 24 rb)] H := hP
    replace hD : va_D A [(y0, .inr (2, (fX2 y1 y2 y3 wt wc))), (aI k y1 25 (upd ya2_1 (Int32.toNatClampNeg (nI pa_1)) p4)), (aI k y2 25 yb2_1), (h0, .inr (5, (fX5 h1 h2 h3 h4))), (aI k h1 10 (vv n see tm g)), (aI k h2 24 ff), (aI k h3 24 fp), (aI k h4 4 fl), (u0, .inr (3, (fX3 u1 u2 rf (nI rc) (nI rr)))), (aI k u1 24 rs), (aI k u2 24 rb)] := hD
    generalize (upd ya2_1 (Int32.toNatClampNeg (nI pa_1)) p4) = f_50 at hP hD
    refine lv_aload_n hx hb dX2_meanOfRound_21 rfl (lv_at hl 1 rfl) ?_
    refine va_get (D := D) (ci := 2) (v := .ref y2) (C := RX2) (T := TX2) (N := 5) hx hb hts inX2 hown hK hP 0 rfl rfl 1 (by decide) (hts _ tw_211) (fun _ h9 => h9) rfl dX2_meanOfRound_22 ?_
    refine lv_iload hx hb dX2_meanOfRound_25 (lv_at hl 0 rfl) ?_
    refine lv_iload hx hb dX2_meanOfRound_27 (lv_at hl 6 rfl) ?_
    refine va_iast hx hb hK hP hD hS 2 1 rfl rfl (vp_in_nI (by omega) (by decide)) dX2_meanOfRound_29 (fun H locs hP hD hS => ?_)
    replace hP : va_P D classes [(y0, .inr (2, (fX2 y1 y2 y3 wt wc))), (aI k y1 25 f_50), (aI k y2 25 (upd yb2_1 (Int32.toNatClampNeg (nI pa_1)) p4)), (h0, .inr (5, (fX5 h1 h2 h3 h4))), (aI k h1 10 (vv n see tm g)), (aI k h2 24 ff), (aI k h3 24 fp), (aI k h4 4 fl), (u0, .inr (3, (fX3 u1 u2 rf (nI rc) (nI rr)))), (aI k u1 24 rs), (aI k u2 24 rb)] H := hP
    replace hD : va_D A [(y0, .inr (2, (fX2 y1 y2 y3 wt wc))), (aI k y1 25 f_50), (aI k y2 25 (upd yb2_1 (Int32.toNatClampNeg (nI pa_1)) p4)), (h0, .inr (5, (fX5 h1 h2 h3 h4))), (aI k h1 10 (vv n see tm g)), (aI k h2 24 ff), (aI k h3 24 fp), (aI k h4 4 fl), (u0, .inr (3, (fX3 u1 u2 rf (nI rc) (nI rr)))), (aI k u1 24 rs), (aI k u2 24 rb)] := hD
    generalize (upd yb2_1 (Int32.toNatClampNeg (nI pa_1)) p4) = f_51 at hP hD
    refine lv_iinc (v := (nI (pa_1 + 1))) (lv' := [(6, .int (nI (pa_1 + 1))), (0, .ref y0), (1, .ref h0), (2, .ref u0), (3, .int (nI wh)), (4, .int (nI rn)), (5, .int p4)]) hx hb dX2_meanOfRound_30 hl (k := 0) rfl (nI_add pa_1 1) (by decide) rfl (fun ls hl => ?_)
    refine lv_goto (tgt := 3) hx hb dX2_meanOfRound_33 (by decide) ?_
    exact ih_1 _ (pa_1 + 1, f_50, f_51) _ _ _ (by omega) ⟨rfl, (by omega), hP, hD, hS, (lv_sub hl [0, 1, 2, 3, 4, 5, 6] rfl)⟩

theorem dX2_meanOf_0 : decode cX2_meanOf 0 = .ok (.aload_n 2, 1) := by decide +kernel
theorem dX2_meanOf_1 : decode cX2_meanOf 1 = .ok (.aload_n 1, 1) := by decide +kernel
theorem dX2_meanOf_2 : decode cX2_meanOf 2 = .ok (.invokevirtual 28, 3) := by decide +kernel
theorem dX2_meanOf_5 : decode cX2_meanOf 5 = .ok (.istore 4, 2) := by decide +kernel
theorem dX2_meanOf_7 : decode cX2_meanOf 7 = .ok (.aload_n 1, 1) := by decide +kernel
theorem dX2_meanOf_8 : decode cX2_meanOf 8 = .ok (.iload 4, 2) := by decide +kernel
theorem dX2_meanOf_10 : decode cX2_meanOf 10 = .ok (.iload_n 3, 1) := by decide +kernel
theorem dX2_meanOf_11 : decode cX2_meanOf 11 = .ok (.invokestatic 34, 3) := by decide +kernel
theorem dX2_meanOf_14 : decode cX2_meanOf 14 = .ok (.istore 5, 2) := by decide +kernel
theorem dX2_meanOf_16 : decode cX2_meanOf 16 = .ok (.iload 4, 2) := by decide +kernel
theorem dX2_meanOf_18 : decode cX2_meanOf 18 = .ok (.istore 6, 2) := by decide +kernel
theorem dX2_meanOf_20 : decode cX2_meanOf 20 = .ok (.iload 6, 2) := by decide +kernel
theorem dX2_meanOf_22 : decode cX2_meanOf 22 = .ok (.ifCond .lt 40, 3) := by decide +kernel
theorem dX2_meanOf_25 : decode cX2_meanOf 25 = .ok (.aload_n 0, 1) := by decide +kernel
theorem dX2_meanOf_26 : decode cX2_meanOf 26 = .ok (.aload_n 1, 1) := by decide +kernel
theorem dX2_meanOf_27 : decode cX2_meanOf 27 = .ok (.aload_n 2, 1) := by decide +kernel
theorem dX2_meanOf_28 : decode cX2_meanOf 28 = .ok (.iload_n 3, 1) := by decide +kernel
theorem dX2_meanOf_29 : decode cX2_meanOf 29 = .ok (.iload 6, 2) := by decide +kernel
theorem dX2_meanOf_31 : decode cX2_meanOf 31 = .ok (.iload 5, 2) := by decide +kernel
theorem dX2_meanOf_33 : decode cX2_meanOf 33 = .ok (.invokevirtual 38, 3) := by decide +kernel
theorem dX2_meanOf_36 : decode cX2_meanOf 36 = .ok (.istore 5, 2) := by decide +kernel
theorem dX2_meanOf_38 : decode cX2_meanOf 38 = .ok (.iload 6, 2) := by decide +kernel
theorem dX2_meanOf_40 : decode cX2_meanOf 40 = .ok (.ifCond .le 16, 3) := by decide +kernel
theorem dX2_meanOf_43 : decode cX2_meanOf 43 = .ok (.iload_n 3, 1) := by decide +kernel
theorem dX2_meanOf_44 : decode cX2_meanOf 44 = .ok (.ifCond .ne 12, 3) := by decide +kernel
theorem dX2_meanOf_47 : decode cX2_meanOf 47 = .ok (.iload 5, 2) := by decide +kernel
theorem dX2_meanOf_49 : decode cX2_meanOf 49 = .ok (.aload_n 1, 1) := by decide +kernel
theorem dX2_meanOf_50 : decode cX2_meanOf 50 = .ok (.invokevirtual 42, 3) := by decide +kernel
theorem dX2_meanOf_53 : decode cX2_meanOf 53 = .ok (.iadd, 1) := by decide +kernel
theorem dX2_meanOf_54 : decode cX2_meanOf 54 = .ok (.istore 5, 2) := by decide +kernel
theorem dX2_meanOf_56 : decode cX2_meanOf 56 = .ok (.iinc 6 (-1), 3) := by decide +kernel
theorem dX2_meanOf_59 : decode cX2_meanOf 59 = .ok (.goto (-39), 3) := by decide +kernel
theorem dX2_meanOf_62 : decode cX2_meanOf 62 = .ok (.iload 5, 2) := by decide +kernel
theorem dX2_meanOf_64 : decode cX2_meanOf 64 = .ok (.ireturn, 1) := by decide +kernel
set_option maxHeartbeats 4000000 in
set_option maxRecDepth 100000 in
theorem x_meanOf (l : Launch) (D : va_G) (k : Nat → ClassId) (st : Nat → Nat) (lo : Nat) (y0 : Nat) (y1 : Nat) (y2 : Nat) (y3 : Nat) (wt : Int32) (wc : Int32) (ya : Nat → Int32) (yb : Nat → Int32) (h0 : Nat) (h1 : Nat) (h2 : Nat) (h3 : Nat) (h4 : Nat) (n : Nat) (see : Nat) (tm : Nat) (g : Nat → Int32) (ff : Nat → Int32) (fp : Nat → Int32) (fl : Nat → Int32) (u0 : Nat) (u1 : Nat) (u2 : Nat) (rf : Int32) (rc : Nat) (rr : Nat) (rs : Nat → Int32) (rb : Nat → Int32) (wh : Nat) (hn : n ≤ 24) (hrc : rc ≤ 24) (hrr : rr ≤ 3) (htm9 : tm ≤ 3) (hwh : wh ≤ 2) : CWi l D k st lo yX2_meanOf cX2_meanOf 7 (some .int) ({ frames := 4, cells := 0, slots := 0, locals := 115 }) 0 0 [.ref y0, .ref h0, .ref u0, .int (nI wh)] [(y0, .inr (2, (fX2 y1 y2 y3 wt wc))), (aI k y1 25 ya), (aI k y2 25 yb), (h0, .inr (5, (fX5 h1 h2 h3 h4))), (aI k h1 10 (vv n see tm g)), (aI k h2 24 ff), (aI k h3 24 fp), (aI k h4 4 fl), (u0, .inr (3, (fX3 u1 u2 rf (nI rc) (nI rr)))), (aI k u1 24 rs), (aI k u2 24 rb)] (fun (r : Int32) (u : (Nat → Int32) × (Nat → Int32)) => match u with | (ya_, yb_) => True) (fun (u : (Nat → Int32) × (Nat → Int32)) => match u with | (ya_, yb_) => [(y0, .inr (2, (fX2 y1 y2 y3 wt wc))), (aI k y1 25 ya_), (aI k y2 25 yb_), (h0, .inr (5, (fX5 h1 h2 h3 h4))), (aI k h1 10 (vv n see tm g)), (aI k h2 24 ff), (aI k h3 24 fp), (aI k h4 4 fl), (u0, .inr (3, (fX3 u1 u2 rf (nI rc) (nI rr)))), (aI k u1 24 rs), (aI k u2 24 rb)]) := by
  intro sz
  refine Met.ofW (cc := cX2_meanOf) (maxL := 7) (ret := (some .int)) (by decide) rfl ?_
  intro p e s m args below meth c s₁ B hml hv
  obtain ⟨rfl, hsz, hlo, hP, hK, hDL, hZ⟩ := hv
  have hx := B.exec
  have hb := B.bytes
  have hr := B.returns
  have hts := WS_ts B.pre
  have hown : s.vm.findClass RX2 = some m.cls := findClass_of_methodNamed B.named
  have hlocks := B.notSynchronized
  subst hsz
  have hD := hDL.self (sz := s.heap.size)
  have hAlo := A_lo hDL hlo
  generalize hAe : va_A [(y0, .inr (2, (fX2 y1 y2 y3 wt wc))), (aI k y1 25 ya), (aI k y2 25 yb), (h0, .inr (5, (fX5 h1 h2 h3 h4))), (aI k h1 10 (vv n see tm g)), (aI k h2 24 ff), (aI k h3 24 fp), (aI k h4 4 fl), (u0, .inr (3, (fX3 u1 u2 rf (nI rc) (nI rr)))), (aI k u1 24 rs), (aI k u2 24 rb)] s.heap.size = A at hD hAlo ⊢
  have hA : ∀ q : Nat, s.heap.size ≤ q → A q := fun q h => by rw [← hAe]; exact Or.inr h
  have hS : va_S A s.heap s.heap [] := va_S.rf
  have hl := lv_entry ([.ref y0, .ref h0, .ref u0, .int (nI wh)]) (n := 7) (Nat.le_of_ble_eq_true rfl)
  rw [lg_entry_eq]
  generalize (lg_sl ([.ref y0, .ref h0, .ref u0, .int (nI wh)]) ++ List.replicate (7 - (lg_sl ([.ref y0, .ref h0, .ref u0, .int (nI wh)])).length) Slot.unset).toArray = ls at hl ⊢
  have hl : lv_has ls 7 [(0, .ref y0), (1, .ref h0), (2, .ref u0), (3, .int (nI wh))] := hl
  refine lv_aload_n hx hb dX2_meanOf_0 rfl (lv_at hl 2 rfl) ?_
  refine lv_aload_n hx hb dX2_meanOf_1 rfl (lv_at hl 1 rfl) ?_
  refine ro_i (D := D) (va_runV (As := [.ref h0]) (rest := []) ⟨hx, hb, hml, hown, hts⟩ ((x_roundsIn l D k st lo u0 u1 u2 rf rc rr h0 h1 h2 h3 h4 n see tm g (by omega) (by omega)) s.heap.size) (cwV 1 hts (gV tw_705 tw_706 tw_707 tw_86 tw_708) rfl rfl rfl (by decide +kernel) ⟨Nat.le_of_ble_eq_true rfl, Nat.le_of_ble_eq_true rfl⟩) (pV hS hAlo hlo hP hK (va_Dlo hD hAlo) hZ [8, 3, 4] (by decide) rfl (ci := 3) (q := (RX3, TX3, 5)) (q0 := 0) rfl rfl) rfl rfl hl.1 rfl (lv_room (Nat.le_of_ble_eq_true rfl)) dX2_meanOf_2 ⟨Nat.le_of_ble_eq_true rfl, Nat.le_of_ble_eq_true rfl⟩) hS hA hP (fun r_1 H locs hw_1 hP hS => ?_)
  try dsimp only at hw_1
  subst hw_1
  refine lv_istore (lv' := [(4, .int (nI (min rr tm))), (0, .ref y0), (1, .ref h0), (2, .ref u0), (3, .int (nI wh))]) hx hb dX2_meanOf_5 hl (by decide) rfl (fun ls hl => ?_)
  refine lv_aload_n hx hb dX2_meanOf_7 rfl (lv_at hl 2 rfl) ?_
  refine lv_iload hx hb dX2_meanOf_8 (lv_at hl 0 rfl) ?_
  refine lv_iload_n hx hb dX2_meanOf_10 rfl (lv_at hl 4 rfl) ?_
  refine ro_i (D := D) (va_runS (As := [.ref h0, .int (nI (min rr tm)), .int (nI wh)]) (rest := []) ⟨hx, hb, hml, hown, hts⟩ ((x_garageShare l D k st lo h0 h1 h2 h3 h4 n see tm g fl (min rr tm) wh (by omega) (by omega)) H.size) (va_cwS 3 hts (gS tw_710 tw_711 tw_83 tw_712) rfl rfl rfl (by decide +kernel) ⟨Nat.le_of_ble_eq_true rfl, Nat.le_of_ble_eq_true rfl⟩) (pS hS hAlo hlo hP hK (va_Dlo hD hAlo) hZ [3, 4, 7] (by decide) rfl) rfl rfl hl.1 rfl (lv_room (Nat.le_of_ble_eq_true rfl)) dX2_meanOf_11 ⟨Nat.le_of_ble_eq_true rfl, Nat.le_of_ble_eq_true rfl⟩) hS hA hP (fun r_2 H locs hw_2 hP hS => ?_)
  try dsimp only at hw_2
  refine lv_istore (lv' := [(5, .int r_2), (4, .int (nI (min rr tm))), (0, .ref y0), (1, .ref h0), (2, .ref u0), (3, .int (nI wh))]) hx hb dX2_meanOf_14 hl (by decide) rfl (fun ls hl => ?_)
  refine lv_iload hx hb dX2_meanOf_16 (lv_at hl 1 rfl) ?_
  refine lv_istore (lv' := [(6, .int (nI (min rr tm))), (5, .int r_2), (4, .int (nI (min rr tm))), (0, .ref y0), (1, .ref h0), (2, .ref u0), (3, .int (nI wh))]) hx hb dX2_meanOf_18 hl (by decide) rfl (fun ls hl => ?_)
  refine W_loop (σ := Nat × Int32 × (Nat → Int32) × (Nat → Int32)) (fun (n_ : Nat) (x_ : Nat × Int32 × (Nat → Int32) × (Nat → Int32)) (H : Heap) (locs : List Loc) (ls : Array Slot) => match x_ with | (q_3, fo2_3, ya2_3, yb2_3) => n_ = 2 * q_3 ∧ (q_3 ≤ 4) ∧ va_P D classes [(y0, .inr (2, (fX2 y1 y2 y3 wt wc))), (aI k y1 25 ya2_3), (aI k y2 25 yb2_3), (h0, .inr (5, (fX5 h1 h2 h3 h4))), (aI k h1 10 (vv n see tm g)), (aI k h2 24 ff), (aI k h3 24 fp), (aI k h4 4 fl), (u0, .inr (3, (fX3 u1 u2 rf (nI rc) (nI rr)))), (aI k u1 24 rs), (aI k u2 24 rb)] H ∧ va_D A [(y0, .inr (2, (fX2 y1 y2 y3 wt wc))), (aI k y1 25 ya2_3), (aI k y2 25 yb2_3), (h0, .inr (5, (fX5 h1 h2 h3 h4))), (aI k h1 10 (vv n see tm g)), (aI k h2 24 ff), (aI k h3 24 fp), (aI k h4 4 fl), (u0, .inr (3, (fX3 u1 u2 rf (nI rc) (nI rr)))), (aI k u1 24 rs), (aI k u2 24 rb)] ∧ va_S A s.heap H locs ∧ lv_has ls 7 [(6, .int (nI q_3 - 1)), (5, .int fo2_3), (4, .int (nI (min rr tm))), (0, .ref y0), (1, .ref h0), (2, .ref u0), (3, .int (nI wh))]) (fun n_3 x_3 H locs ls hI ih_3 => ?_) _ (min rr tm + 1, r_2, ya, yb) ⟨rfl, (by omega), hP, hD, hS, (by rw [nI_pred]; exact lv_sub hl [0, 1, 2, 3, 4, 5, 6] rfl)⟩
  obtain ⟨q_3, fo2_3, ya2_3, yb2_3⟩ := x_3
  obtain ⟨hm_3, hv_3, hP, hD, hS, hl⟩ := hI
  subst hm_3
  rcases q_3 with _ | q_3
  · rw [dn0] at hl
    refine lv_iload hx hb dX2_meanOf_20 (lv_at hl 0 rfl) ?_
    refine lv_if_lt (tgt := 62) hx hb dX2_meanOf_22 (by decide) (fun _ => ?_) (fun h => absurd (by decide) h)
    refine lv_iload hx hb dX2_meanOf_62 (lv_at hl 1 rfl) ?_
    have hP9 := hP.sub (ws' := [(y0, .inr (2, (fX2 y1 y2 y3 wt wc))), (aI k y1 25 ya2_3), (aI k y2 25 yb2_3), (h0, .inr (5, (fX5 h1 h2 h3 h4))), (aI k h1 10 (vv n see tm g)), (aI k h2 24 ff), (aI k h3 24 fp), (aI k h4 4 fl), (u0, .inr (3, (fX3 u1 u2 rf (nI rc) (nI rr)))), (aI k u1 24 rs), (aI k u2 24 rb)]) [0, 1, 2, 3, 4, 5, 6, 7, 8, 9, 10] rfl
    have hD9 := hD.sub (ws' := [(y0, .inr (2, (fX2 y1 y2 y3 wt wc))), (aI k y1 25 ya2_3), (aI k y2 25 yb2_3), (h0, .inr (5, (fX5 h1 h2 h3 h4))), (aI k h1 10 (vv n see tm g)), (aI k h2 24 ff), (aI k h3 24 fp), (aI k h4 4 fl), (u0, .inr (3, (fX3 u1 u2 rf (nI rc) (nI rr)))), (aI k u1 24 rs), (aI k u2 24 rb)]) [0, 1, 2, 3, 4, 5, 6, 7, 8, 9, 10] (by decide +kernel) rfl
    exact W.iret (v := fo2_3) hx hb hr (fun t ht hW => ⟨⟨fo2_3, (ya2_3, yb2_3), rfl, trivial, by rw [ht]; exact hP9, hD9⟩, hS.F ht⟩) hS.2.2 dX2_meanOf_64
  · rw [nI_pred] at hl
    refine lv_iload hx hb dX2_meanOf_20 (lv_at hl 0 rfl) ?_
    refine lv_if_lt (tgt := 62) hx hb dX2_meanOf_22 (by decide) (fun h => absurd h (nI_pos0 (by omega))) (fun _ => ?_)
    refine lv_aload_n hx hb dX2_meanOf_25 rfl (lv_at hl 3 rfl) ?_
    refine lv_aload_n hx hb dX2_meanOf_26 rfl (lv_at hl 4 rfl) ?_
    refine lv_aload_n hx hb dX2_meanOf_27 rfl (lv_at hl 5 rfl) ?_
    refine lv_iload_n hx hb dX2_meanOf_28 rfl (lv_at hl 6 rfl) ?_
    refine lv_iload hx hb dX2_meanOf_29 (lv_at hl 0 rfl) ?_
    refine lv_iload hx hb dX2_meanOf_31 (lv_at hl 1 rfl) ?_
    refine rw_i (D := D) (wr := []) (va_runV (As := [.ref h0, .ref u0, .int (nI wh), .int (nI q_3), .int fo2_3]) (rest := []) ⟨hx, hb, hml, hown, hts⟩ ((x_meanOfRound l D k st lo y0 y1 y2 y3 wt wc ya2_3 yb2_3 h0 h1 h2 h3 h4 n see tm g ff fp fl u0 u1 u2 rf rc rr rs rb wh q_3 fo2_3 (by omega) (by omega) (by omega) (by omega)) H.size) (cwV 5 hts (gV tw_719 tw_721 tw_16 tw_83 tw_722) rfl rfl rfl (by decide +kernel) ⟨Nat.le_of_ble_eq_true rfl, Nat.le_of_ble_eq_true rfl⟩) (pV hS hAlo hlo hP hK (va_Dlo hD hAlo) hZ [0, 1, 2, 3, 4, 5, 6, 7, 8, 9, 10] (by decide +kernel) rfl (ci := 2) (q := (RX2, TX2, 5)) (q0 := 0) rfl rfl) rfl rfl hl.1 rfl (lv_room (Nat.le_of_ble_eq_true rfl)) dX2_meanOf_33 ⟨Nat.le_of_ble_eq_true rfl, Nat.le_of_ble_eq_true rfl⟩) hS hA hP hD [0, 1, 2, 3, 4, 5, 6, 7, 8, 9, 10] [] rfl rfl (by decide +kernel) (by decide +kernel) (fun r_4 u H locs hw_4 hP hD hS => ?_)
    obtain ⟨ya__4, yb__4⟩ := u
    replace hP : va_P D classes [(y0, .inr (2, (fX2 y1 y2 y3 wt wc))), (aI k y1 25 ya__4), (aI k y2 25 yb__4), (h0, .inr (5, (fX5 h1 h2 h3 h4))), (aI k h1 10 (vv n see tm g)), (aI k h2 24 ff), (aI k h3 24 fp), (aI k h4 4 fl), (u0, .inr (3, (fX3 u1 u2 rf (nI rc) (nI rr)))), (aI k u1 24 rs), (aI k u2 24 rb)] H := hP
    replace hD : va_D A [(y0, .inr (2, (fX2 y1 y2 y3 wt wc))), (aI k y1 25 ya__4), (aI k y2 25 yb__4), (h0, .inr (5, (fX5 h1 h2 h3 h4))), (aI k h1 10 (vv n see tm g)), (aI k h2 24 ff), (aI k h3 24 fp), (aI k h4 4 fl), (u0, .inr (3, (fX3 u1 u2 rf (nI rc) (nI rr)))), (aI k u1 24 rs), (aI k u2 24 rb)] := hD
    try dsimp only at hw_4
    refine lv_istore (lv' := [(5, .int r_4), (6, .int (nI q_3)), (4, .int (nI (min rr tm))), (0, .ref y0), (1, .ref h0), (2, .ref u0), (3, .int (nI wh))]) hx hb dX2_meanOf_36 hl (by decide) rfl (fun ls hl => ?_)
    refine lv_iload hx hb dX2_meanOf_38 (lv_at hl 1 rfl) ?_
    refine lv_if_le (tgt := 56) hx hb dX2_meanOf_40 (by decide) (fun c_5 => ?_) (fun c_5 => ?_)
    · have c_5 := (nI_leI (a := q_3) (b := 0) (by omega) (by omega)).mp c_5
      refine lv_iinc (v := (nI q_3 - 1)) (lv' := [(6, .int (nI q_3 - 1)), (5, .int r_4), (4, .int (nI (min rr tm))), (0, .ref y0), (1, .ref h0), (2, .ref u0), (3, .int (nI wh))]) hx hb dX2_meanOf_56 hl (k := 1) rfl (dn1 _) (by decide) rfl (fun ls hl => ?_)
      refine lv_goto (tgt := 20) hx hb dX2_meanOf_59 (by decide) ?_
      exact ih_3 _ (q_3, r_4, ya__4, yb__4) _ _ _ (by omega) ⟨rfl, (by omega), hP, hD, hS, (lv_sub hl [0, 1, 2, 3, 4, 5, 6] rfl)⟩
    · have c_5 : ¬ (q_3 ≤ 0) := fun h => c_5 ((nI_leI (a := q_3) (b := 0) (by omega) (by omega)).mpr h)
      refine lv_iload_n hx hb dX2_meanOf_43 rfl (lv_at hl 6 rfl) ?_
      refine lv_if_ne (tgt := 56) hx hb dX2_meanOf_44 (by decide) (fun c_6 => ?_) (fun c_6 => ?_)
      · have c_6 : ¬ (wh = 0) := fun h => c_6 ((nI_eq (a := wh) (b := 0) (by omega) (by omega)).mpr h)
        refine lv_iinc (v := (nI q_3 - 1)) (lv' := [(6, .int (nI q_3 - 1)), (5, .int r_4), (4, .int (nI (min rr tm))), (0, .ref y0), (1, .ref h0), (2, .ref u0), (3, .int (nI wh))]) hx hb dX2_meanOf_56 hl (k := 1) rfl (dn1 _) (by decide) rfl (fun ls hl => ?_)
        refine lv_goto (tgt := 20) hx hb dX2_meanOf_59 (by decide) ?_
        exact ih_3 _ (q_3, r_4, ya__4, yb__4) _ _ _ (by omega) ⟨rfl, (by omega), hP, hD, hS, (lv_sub hl [0, 1, 2, 3, 4, 5, 6] rfl)⟩
      · have c_6 := (nI_eq (a := wh) (b := 0) (by omega) (by omega)).mp c_6
        refine lv_iload hx hb dX2_meanOf_47 (lv_at hl 0 rfl) ?_
        refine lv_aload_n hx hb dX2_meanOf_49 rfl (lv_at hl 4 rfl) ?_
        refine ro_i (D := D) (va_runV (As := []) (rest := [.int r_4]) ⟨hx, hb, hml, hown, hts⟩ ((x_roundDrive l D k st lo h0 h1 h2 h3 h4 n see tm g) H.size) (cwV 0 hts (gV tw_735 tw_525 tw_526 tw_81 tw_527) rfl rfl rfl (by decide +kernel) ⟨Nat.le_of_ble_eq_true rfl, Nat.le_of_ble_eq_true rfl⟩) (pV hS hAlo hlo hP hK (va_Dlo hD hAlo) hZ [3, 4] (by decide) rfl (ci := 5) (q := (RX5, TX5, 4)) (q0 := 0) rfl rfl) rfl rfl hl.1 rfl (lv_room (Nat.le_of_ble_eq_true rfl)) dX2_meanOf_50 ⟨Nat.le_of_ble_eq_true rfl, Nat.le_of_ble_eq_true rfl⟩) hS hA hP (fun r_7 H locs hw_7 hP hS => ?_)
        try dsimp only at hw_7
        refine lv_iadd hx hb dX2_meanOf_53 ?_
        refine lv_topi (fun x_8 ex_8 => ?_)
        refine lv_istore (lv' := [(5, .int x_8), (6, .int (nI q_3)), (4, .int (nI (min rr tm))), (0, .ref y0), (1, .ref h0), (2, .ref u0), (3, .int (nI wh))]) hx hb dX2_meanOf_54 hl (by decide) rfl (fun ls hl => ?_)
        refine lv_iinc (v := (nI q_3 - 1)) (lv' := [(6, .int (nI q_3 - 1)), (5, .int x_8), (4, .int (nI (min rr tm))), (0, .ref y0), (1, .ref h0), (2, .ref u0), (3, .int (nI wh))]) hx hb dX2_meanOf_56 hl (k := 1) rfl (dn1 _) (by decide) rfl (fun ls hl => ?_)
        refine lv_goto (tgt := 20) hx hb dX2_meanOf_59 (by decide) ?_
        exact ih_3 _ (q_3, x_8, ya__4, yb__4) _ _ _ (by omega) ⟨rfl, (by omega), hP, hD, hS, (lv_sub hl [0, 1, 2, 3, 4, 5, 6] rfl)⟩

theorem f_x_boyOf_rows : True := trivial
theorem dX2_boyOf_0 : decode cX2_boyOf 0 = .ok (.aload_n 1, 1) := by decide +kernel
theorem dX2_boyOf_1 : decode cX2_boyOf 1 = .ok (.invokevirtual 61, 3) := by decide +kernel
theorem dX2_boyOf_4 : decode cX2_boyOf 4 = .ok (.istore_n 3, 1) := by decide +kernel
theorem dX2_boyOf_5 : decode cX2_boyOf 5 = .ok (.aload_n 0, 1) := by decide +kernel
theorem dX2_boyOf_6 : decode cX2_boyOf 6 = .ok (.getfield 18, 3) := by decide +kernel
theorem dX2_boyOf_9 : decode cX2_boyOf 9 = .ok (.iconst 0, 1) := by decide +kernel
theorem dX2_boyOf_10 : decode cX2_boyOf 10 = .ok (.iload_n 2, 1) := by decide +kernel
theorem dX2_boyOf_11 : decode cX2_boyOf 11 = .ok (.iastore, 1) := by decide +kernel
theorem dX2_boyOf_12 : decode cX2_boyOf 12 = .ok (.iconst 0, 1) := by decide +kernel
theorem dX2_boyOf_13 : decode cX2_boyOf 13 = .ok (.istore 4, 2) := by decide +kernel
theorem dX2_boyOf_15 : decode cX2_boyOf 15 = .ok (.iload 4, 2) := by decide +kernel
theorem dX2_boyOf_17 : decode cX2_boyOf 17 = .ok (.iload_n 3, 1) := by decide +kernel
theorem dX2_boyOf_18 : decode cX2_boyOf 18 = .ok (.if_icmp .ge 25, 3) := by decide +kernel
theorem dX2_boyOf_21 : decode cX2_boyOf 21 = .ok (.aload_n 0, 1) := by decide +kernel
theorem dX2_boyOf_22 : decode cX2_boyOf 22 = .ok (.getfield 18, 3) := by decide +kernel
theorem dX2_boyOf_25 : decode cX2_boyOf 25 = .ok (.iload 4, 2) := by decide +kernel
theorem dX2_boyOf_27 : decode cX2_boyOf 27 = .ok (.iconst 1, 1) := by decide +kernel
theorem dX2_boyOf_28 : decode cX2_boyOf 28 = .ok (.iadd, 1) := by decide +kernel
theorem dX2_boyOf_29 : decode cX2_boyOf 29 = .ok (.aload_n 1, 1) := by decide +kernel
theorem dX2_boyOf_30 : decode cX2_boyOf 30 = .ok (.iconst 0, 1) := by decide +kernel
theorem dX2_boyOf_31 : decode cX2_boyOf 31 = .ok (.iload 4, 2) := by decide +kernel
theorem dX2_boyOf_33 : decode cX2_boyOf 33 = .ok (.invokevirtual 57, 3) := by decide +kernel
theorem dX2_boyOf_36 : decode cX2_boyOf 36 = .ok (.iastore, 1) := by decide +kernel
theorem dX2_boyOf_37 : decode cX2_boyOf 37 = .ok (.iinc 4 1, 3) := by decide +kernel
theorem dX2_boyOf_40 : decode cX2_boyOf 40 = .ok (.goto (-25), 3) := by decide +kernel
theorem dX2_boyOf_43 : decode cX2_boyOf 43 = .ok (.iconst 0, 1) := by decide +kernel
theorem dX2_boyOf_44 : decode cX2_boyOf 44 = .ok (.istore 4, 2) := by decide +kernel
theorem dX2_boyOf_46 : decode cX2_boyOf 46 = .ok (.iload 4, 2) := by decide +kernel
theorem dX2_boyOf_48 : decode cX2_boyOf 48 = .ok (.iload_n 3, 1) := by decide +kernel
theorem dX2_boyOf_49 : decode cX2_boyOf 49 = .ok (.if_icmp .gt 37, 3) := by decide +kernel
theorem dX2_boyOf_52 : decode cX2_boyOf 52 = .ok (.aload_n 0, 1) := by decide +kernel
theorem dX2_boyOf_53 : decode cX2_boyOf 53 = .ok (.getfield 9, 3) := by decide +kernel
theorem dX2_boyOf_56 : decode cX2_boyOf 56 = .ok (.iload 4, 2) := by decide +kernel
theorem dX2_boyOf_58 : decode cX2_boyOf 58 = .ok (.aload_n 0, 1) := by decide +kernel
theorem dX2_boyOf_59 : decode cX2_boyOf 59 = .ok (.getfield 18, 3) := by decide +kernel
theorem dX2_boyOf_62 : decode cX2_boyOf 62 = .ok (.iload 4, 2) := by decide +kernel
theorem dX2_boyOf_64 : decode cX2_boyOf 64 = .ok (.iaload, 1) := by decide +kernel
theorem dX2_boyOf_65 : decode cX2_boyOf 65 = .ok (.iastore, 1) := by decide +kernel
theorem dX2_boyOf_66 : decode cX2_boyOf 66 = .ok (.aload_n 0, 1) := by decide +kernel
theorem dX2_boyOf_67 : decode cX2_boyOf 67 = .ok (.getfield 15, 3) := by decide +kernel
theorem dX2_boyOf_70 : decode cX2_boyOf 70 = .ok (.iload 4, 2) := by decide +kernel
theorem dX2_boyOf_72 : decode cX2_boyOf 72 = .ok (.aload_n 0, 1) := by decide +kernel
theorem dX2_boyOf_73 : decode cX2_boyOf 73 = .ok (.getfield 18, 3) := by decide +kernel
theorem dX2_boyOf_76 : decode cX2_boyOf 76 = .ok (.iload 4, 2) := by decide +kernel
theorem dX2_boyOf_78 : decode cX2_boyOf 78 = .ok (.iaload, 1) := by decide +kernel
theorem dX2_boyOf_79 : decode cX2_boyOf 79 = .ok (.iastore, 1) := by decide +kernel
theorem dX2_boyOf_80 : decode cX2_boyOf 80 = .ok (.iinc 4 1, 3) := by decide +kernel
theorem dX2_boyOf_83 : decode cX2_boyOf 83 = .ok (.goto (-37), 3) := by decide +kernel
theorem dX2_boyOf_86 : decode cX2_boyOf 86 = .ok (.iload_n 3, 1) := by decide +kernel
theorem dX2_boyOf_87 : decode cX2_boyOf 87 = .ok (.iconst 1, 1) := by decide +kernel
theorem dX2_boyOf_88 : decode cX2_boyOf 88 = .ok (.isub, 1) := by decide +kernel
theorem dX2_boyOf_89 : decode cX2_boyOf 89 = .ok (.istore 4, 2) := by decide +kernel
theorem dX2_boyOf_91 : decode cX2_boyOf 91 = .ok (.iload 4, 2) := by decide +kernel
theorem dX2_boyOf_93 : decode cX2_boyOf 93 = .ok (.ifCond .lt 111, 3) := by decide +kernel
theorem dX2_boyOf_96 : decode cX2_boyOf 96 = .ok (.iconst 0, 1) := by decide +kernel
theorem dX2_boyOf_97 : decode cX2_boyOf 97 = .ok (.istore 5, 2) := by decide +kernel
theorem dX2_boyOf_99 : decode cX2_boyOf 99 = .ok (.iload 5, 2) := by decide +kernel
theorem dX2_boyOf_101 : decode cX2_boyOf 101 = .ok (.iload 4, 2) := by decide +kernel
theorem dX2_boyOf_103 : decode cX2_boyOf 103 = .ok (.if_icmp .gt 95, 3) := by decide +kernel
theorem dX2_boyOf_106 : decode cX2_boyOf 106 = .ok (.aload_n 0, 1) := by decide +kernel
theorem dX2_boyOf_107 : decode cX2_boyOf 107 = .ok (.getfield 9, 3) := by decide +kernel
theorem dX2_boyOf_110 : decode cX2_boyOf 110 = .ok (.aload_n 0, 1) := by decide +kernel
theorem dX2_boyOf_111 : decode cX2_boyOf 111 = .ok (.getfield 18, 3) := by decide +kernel
theorem dX2_boyOf_114 : decode cX2_boyOf 114 = .ok (.iload 4, 2) := by decide +kernel
theorem dX2_boyOf_116 : decode cX2_boyOf 116 = .ok (.iconst 1, 1) := by decide +kernel
theorem dX2_boyOf_117 : decode cX2_boyOf 117 = .ok (.iadd, 1) := by decide +kernel
theorem dX2_boyOf_118 : decode cX2_boyOf 118 = .ok (.iaload, 1) := by decide +kernel
theorem dX2_boyOf_119 : decode cX2_boyOf 119 = .ok (.aload_n 0, 1) := by decide +kernel
theorem dX2_boyOf_120 : decode cX2_boyOf 120 = .ok (.getfield 18, 3) := by decide +kernel
theorem dX2_boyOf_123 : decode cX2_boyOf 123 = .ok (.iload 5, 2) := by decide +kernel
theorem dX2_boyOf_125 : decode cX2_boyOf 125 = .ok (.iaload, 1) := by decide +kernel
theorem dX2_boyOf_126 : decode cX2_boyOf 126 = .ok (.if_icmp .ge 10, 3) := by decide +kernel
theorem dX2_boyOf_129 : decode cX2_boyOf 129 = .ok (.iload 4, 2) := by decide +kernel
theorem dX2_boyOf_131 : decode cX2_boyOf 131 = .ok (.iconst 1, 1) := by decide +kernel
theorem dX2_boyOf_132 : decode cX2_boyOf 132 = .ok (.iadd, 1) := by decide +kernel
theorem dX2_boyOf_133 : decode cX2_boyOf 133 = .ok (.goto 5, 3) := by decide +kernel
theorem dX2_boyOf_136 : decode cX2_boyOf 136 = .ok (.iload 5, 2) := by decide +kernel
theorem dX2_boyOf_138 : decode cX2_boyOf 138 = .ok (.iaload, 1) := by decide +kernel
theorem dX2_boyOf_139 : decode cX2_boyOf 139 = .ok (.istore 6, 2) := by decide +kernel
theorem dX2_boyOf_141 : decode cX2_boyOf 141 = .ok (.aload_n 0, 1) := by decide +kernel
theorem dX2_boyOf_142 : decode cX2_boyOf 142 = .ok (.getfield 15, 3) := by decide +kernel
theorem dX2_boyOf_145 : decode cX2_boyOf 145 = .ok (.iload 5, 2) := by decide +kernel
theorem dX2_boyOf_147 : decode cX2_boyOf 147 = .ok (.iaload, 1) := by decide +kernel
theorem dX2_boyOf_148 : decode cX2_boyOf 148 = .ok (.istore 7, 2) := by decide +kernel
theorem dX2_boyOf_150 : decode cX2_boyOf 150 = .ok (.aload_n 0, 1) := by decide +kernel
theorem dX2_boyOf_151 : decode cX2_boyOf 151 = .ok (.getfield 9, 3) := by decide +kernel
theorem dX2_boyOf_154 : decode cX2_boyOf 154 = .ok (.iload 5, 2) := by decide +kernel
theorem dX2_boyOf_156 : decode cX2_boyOf 156 = .ok (.aload_n 1, 1) := by decide +kernel
theorem dX2_boyOf_157 : decode cX2_boyOf 157 = .ok (.iload 4, 2) := by decide +kernel
theorem dX2_boyOf_159 : decode cX2_boyOf 159 = .ok (.iconst 1, 1) := by decide +kernel
theorem dX2_boyOf_160 : decode cX2_boyOf 160 = .ok (.invokevirtual 74, 3) := by decide +kernel
theorem dX2_boyOf_163 : decode cX2_boyOf 163 = .ok (.iload 6, 2) := by decide +kernel
theorem dX2_boyOf_165 : decode cX2_boyOf 165 = .ok (.iload 7, 2) := by decide +kernel
theorem dX2_boyOf_167 : decode cX2_boyOf 167 = .ok (.invokestatic 78, 3) := by decide +kernel
theorem dX2_boyOf_170 : decode cX2_boyOf 170 = .ok (.iastore, 1) := by decide +kernel
theorem dX2_boyOf_171 : decode cX2_boyOf 171 = .ok (.aload_n 0, 1) := by decide +kernel
theorem dX2_boyOf_172 : decode cX2_boyOf 172 = .ok (.getfield 15, 3) := by decide +kernel
theorem dX2_boyOf_175 : decode cX2_boyOf 175 = .ok (.iload 5, 2) := by decide +kernel
theorem dX2_boyOf_177 : decode cX2_boyOf 177 = .ok (.aload_n 1, 1) := by decide +kernel
theorem dX2_boyOf_178 : decode cX2_boyOf 178 = .ok (.iload 4, 2) := by decide +kernel
theorem dX2_boyOf_180 : decode cX2_boyOf 180 = .ok (.iconst 0, 1) := by decide +kernel
theorem dX2_boyOf_181 : decode cX2_boyOf 181 = .ok (.invokevirtual 74, 3) := by decide +kernel
theorem dX2_boyOf_184 : decode cX2_boyOf 184 = .ok (.iload 6, 2) := by decide +kernel
theorem dX2_boyOf_186 : decode cX2_boyOf 186 = .ok (.iload 7, 2) := by decide +kernel
theorem dX2_boyOf_188 : decode cX2_boyOf 188 = .ok (.invokestatic 78, 3) := by decide +kernel
theorem dX2_boyOf_191 : decode cX2_boyOf 191 = .ok (.iastore, 1) := by decide +kernel
theorem dX2_boyOf_192 : decode cX2_boyOf 192 = .ok (.iinc 5 1, 3) := by decide +kernel
theorem dX2_boyOf_195 : decode cX2_boyOf 195 = .ok (.goto (-96), 3) := by decide +kernel
theorem dX2_boyOf_198 : decode cX2_boyOf 198 = .ok (.iinc 4 (-1), 3) := by decide +kernel
theorem dX2_boyOf_201 : decode cX2_boyOf 201 = .ok (.goto (-110), 3) := by decide +kernel
theorem dX2_boyOf_204 : decode cX2_boyOf 204 = .ok (.aload_n 0, 1) := by decide +kernel
theorem dX2_boyOf_205 : decode cX2_boyOf 205 = .ok (.getfield 15, 3) := by decide +kernel
theorem dX2_boyOf_208 : decode cX2_boyOf 208 = .ok (.iconst 0, 1) := by decide +kernel
theorem dX2_boyOf_209 : decode cX2_boyOf 209 = .ok (.iaload, 1) := by decide +kernel
theorem dX2_boyOf_210 : decode cX2_boyOf 210 = .ok (.ireturn, 1) := by decide +kernel
theorem f_x_reckonWait_rows : True := trivial
theorem dX2_reckonWait_0 : decode cX2_reckonWait 0 = .ok (.aload_n 0, 1) := by decide +kernel
theorem dX2_reckonWait_1 : decode cX2_reckonWait 1 = .ok (.iconst 0, 1) := by decide +kernel
theorem dX2_reckonWait_2 : decode cX2_reckonWait 2 = .ok (.putfield 21, 3) := by decide +kernel
theorem dX2_reckonWait_5 : decode cX2_reckonWait 5 = .ok (.aload_n 0, 1) := by decide +kernel
theorem dX2_reckonWait_6 : decode cX2_reckonWait 6 = .ok (.iload_n 1, 1) := by decide +kernel
theorem dX2_reckonWait_7 : decode cX2_reckonWait 7 = .ok (.putfield 25, 3) := by decide +kernel
theorem dX2_reckonWait_10 : decode cX2_reckonWait 10 = .ok (.iload_n 1, 1) := by decide +kernel
theorem dX2_reckonWait_11 : decode cX2_reckonWait 11 = .ok (.istore 5, 2) := by decide +kernel
theorem dX2_reckonWait_13 : decode cX2_reckonWait 13 = .ok (.iconst 1, 1) := by decide +kernel
theorem dX2_reckonWait_14 : decode cX2_reckonWait 14 = .ok (.istore 6, 2) := by decide +kernel
theorem dX2_reckonWait_16 : decode cX2_reckonWait 16 = .ok (.iload 6, 2) := by decide +kernel
theorem dX2_reckonWait_18 : decode cX2_reckonWait 18 = .ok (.bipush 20, 2) := by decide +kernel
theorem dX2_reckonWait_20 : decode cX2_reckonWait 20 = .ok (.if_icmp .gt 46, 3) := by decide +kernel
theorem dX2_reckonWait_23 : decode cX2_reckonWait 23 = .ok (.sipush 1000, 3) := by decide +kernel
theorem dX2_reckonWait_26 : decode cX2_reckonWait 26 = .ok (.iload 4, 2) := by decide +kernel
theorem dX2_reckonWait_28 : decode cX2_reckonWait 28 = .ok (.imul, 1) := by decide +kernel
theorem dX2_reckonWait_29 : decode cX2_reckonWait 29 = .ok (.iload_n 3, 1) := by decide +kernel
theorem dX2_reckonWait_30 : decode cX2_reckonWait 30 = .ok (.iload_n 2, 1) := by decide +kernel
theorem dX2_reckonWait_31 : decode cX2_reckonWait 31 = .ok (.iload 5, 2) := by decide +kernel
theorem dX2_reckonWait_33 : decode cX2_reckonWait 33 = .ok (.invokestatic 78, 3) := by decide +kernel
theorem dX2_reckonWait_36 : decode cX2_reckonWait 36 = .ok (.iadd, 1) := by decide +kernel
theorem dX2_reckonWait_37 : decode cX2_reckonWait 37 = .ok (.istore 5, 2) := by decide +kernel
theorem dX2_reckonWait_39 : decode cX2_reckonWait 39 = .ok (.iload 5, 2) := by decide +kernel
theorem dX2_reckonWait_41 : decode cX2_reckonWait 41 = .ok (.aload_n 0, 1) := by decide +kernel
theorem dX2_reckonWait_42 : decode cX2_reckonWait 42 = .ok (.getfield 25, 3) := by decide +kernel
theorem dX2_reckonWait_45 : decode cX2_reckonWait 45 = .ok (.if_icmp .ge 15, 3) := by decide +kernel
theorem dX2_reckonWait_48 : decode cX2_reckonWait 48 = .ok (.aload_n 0, 1) := by decide +kernel
theorem dX2_reckonWait_49 : decode cX2_reckonWait 49 = .ok (.iload 5, 2) := by decide +kernel
theorem dX2_reckonWait_51 : decode cX2_reckonWait 51 = .ok (.putfield 25, 3) := by decide +kernel
theorem dX2_reckonWait_54 : decode cX2_reckonWait 54 = .ok (.aload_n 0, 1) := by decide +kernel
theorem dX2_reckonWait_55 : decode cX2_reckonWait 55 = .ok (.iload 6, 2) := by decide +kernel
theorem dX2_reckonWait_57 : decode cX2_reckonWait 57 = .ok (.putfield 21, 3) := by decide +kernel
theorem dX2_reckonWait_60 : decode cX2_reckonWait 60 = .ok (.iinc 6 1, 3) := by decide +kernel
theorem dX2_reckonWait_63 : decode cX2_reckonWait 63 = .ok (.goto (-47), 3) := by decide +kernel
theorem dX2_reckonWait_66 : decode cX2_reckonWait 66 = .ok (.return_, 1) := by decide +kernel
theorem dX2_likelihood_0 : decode cX2_likelihood 0 = .ok (.aload_n 0, 1) := by decide +kernel
theorem dX2_likelihood_1 : decode cX2_likelihood 1 = .ok (.iload_n 1, 1) := by decide +kernel
theorem dX2_likelihood_2 : decode cX2_likelihood 2 = .ok (.iload_n 2, 1) := by decide +kernel
theorem dX2_likelihood_3 : decode cX2_likelihood 3 = .ok (.invokevirtual 74, 3) := by decide +kernel
theorem dX2_likelihood_6 : decode cX2_likelihood 6 = .ok (.istore 4, 2) := by decide +kernel
theorem dX2_likelihood_8 : decode cX2_likelihood 8 = .ok (.iload_n 3, 1) := by decide +kernel
theorem dX2_likelihood_9 : decode cX2_likelihood 9 = .ok (.ifCond .eq 8, 3) := by decide +kernel
theorem dX2_likelihood_12 : decode cX2_likelihood 12 = .ok (.iload 4, 2) := by decide +kernel
theorem dX2_likelihood_14 : decode cX2_likelihood 14 = .ok (.goto 8, 3) := by decide +kernel
theorem dX2_likelihood_17 : decode cX2_likelihood 17 = .ok (.bipush 100, 2) := by decide +kernel
theorem dX2_likelihood_19 : decode cX2_likelihood 19 = .ok (.iload 4, 2) := by decide +kernel
theorem dX2_likelihood_21 : decode cX2_likelihood 21 = .ok (.isub, 1) := by decide +kernel
theorem dX2_likelihood_22 : decode cX2_likelihood 22 = .ok (.ireturn, 1) := by decide +kernel
set_option maxHeartbeats 4000000 in
set_option maxRecDepth 100000 in
theorem x_likelihood (l : Launch) (D : va_G) (k : Nat → ClassId) (st : Nat → Nat) (lo : Nat) (h0 : Nat) (h1 : Nat) (h2 : Nat) (h3 : Nat) (h4 : Nat) (n : Nat) (see : Nat) (tm : Nat) (g : Nat → Int32) (ff : Nat → Int32) (i : Nat) (p1 : Int32) (p2 : Int32) (hi : i < 24) : CRi l D k st lo yX2_likelihood cX2_likelihood 5 (some .int) ({ frames := 2, cells := 0, slots := 0, locals := 83 }) [.ref h0, .int (nI i), .int p1, .int p2] [(h0, .inr (5, (fX5 h1 h2 h3 h4))), (aI k h1 10 (vv n see tm g)), (aI k h2 24 ff)] (fun _ => True) := by
  intro sz
  refine Met.ofW (cc := cX2_likelihood) (maxL := 5) (ret := (some .int)) (by decide) rfl ?_
  intro p e s m args below meth c s₁ B hml hv
  obtain ⟨rfl, hsz, hlo, hP, hK, hDL, hZ⟩ := hv
  have hx := B.exec
  have hb := B.bytes
  have hr := B.returns
  have hts := WS_ts B.pre
  have hown : s.vm.findClass RX2 = some m.cls := findClass_of_methodNamed B.named
  have hlocks := B.notSynchronized
  subst hsz
  have hA : ∀ q : Nat, s.heap.size ≤ q → (fun q : Nat => s.heap.size ≤ q) q := fun _ h => h
  have hAlo : ∀ q : Nat, (fun q : Nat => s.heap.size ≤ q) q → lo ≤ q := fun q h => Nat.le_trans hlo h
  have hS : va_S (fun q : Nat => s.heap.size ≤ q) s.heap s.heap [] := va_S.rf
  have hl := lv_entry ([.ref h0, .int (nI i), .int p1, .int p2]) (n := 5) (Nat.le_of_ble_eq_true rfl)
  rw [lg_entry_eq]
  generalize (lg_sl ([.ref h0, .int (nI i), .int p1, .int p2]) ++ List.replicate (5 - (lg_sl ([.ref h0, .int (nI i), .int p1, .int p2])).length) Slot.unset).toArray = ls at hl ⊢
  have hl : lv_has ls 5 [(0, .ref h0), (1, .int (nI i)), (2, .int p1), (3, .int p2)] := hl
  refine lv_aload_n hx hb dX2_likelihood_0 rfl (lv_at hl 0 rfl) ?_
  refine lv_iload_n hx hb dX2_likelihood_1 rfl (lv_at hl 1 rfl) ?_
  refine lv_iload_n hx hb dX2_likelihood_2 rfl (lv_at hl 2 rfl) ?_
  refine ro_i (D := D) (va_runV (As := [.int (nI i), .int p1]) (rest := []) ⟨hx, hb, hml, hown, hts⟩ ((x_chanceOf l D k st lo h0 h1 h2 h3 h4 n see tm g ff i p1 (by omega)) s.heap.size) (cwV 2 hts (gV tw_733 tw_565 tw_566 tw_81 tw_567) rfl rfl rfl (by decide +kernel) ⟨Nat.le_of_ble_eq_true rfl, Nat.le_of_ble_eq_true rfl⟩) (pV hS hAlo hlo hP hK hDL hZ [0, 1, 2] (by decide) rfl (ci := 5) (q := (RX5, TX5, 4)) (q0 := 0) rfl rfl) rfl rfl hl.1 rfl (lv_room (Nat.le_of_ble_eq_true rfl)) dX2_likelihood_3 ⟨Nat.le_of_ble_eq_true rfl, Nat.le_of_ble_eq_true rfl⟩) hS hA hP (fun r_1 H locs hw_1 hP hS => ?_)
  try dsimp only at hw_1
  refine lv_istore (lv' := [(4, .int r_1), (0, .ref h0), (1, .int (nI i)), (2, .int p1), (3, .int p2)]) hx hb dX2_likelihood_6 hl (by decide) rfl (fun ls hl => ?_)
  refine lv_iload_n hx hb dX2_likelihood_8 rfl (lv_at hl 4 rfl) ?_
  refine lv_if_eq (tgt := 17) hx hb dX2_likelihood_9 (by decide) (fun c_2 => ?_) (fun c_2 => ?_)
  · refine lv_bipush (v := 100) hx hb dX2_likelihood_17 (by decide) ?_
    refine lv_iload hx hb dX2_likelihood_19 (lv_at hl 0 rfl) ?_
    refine lv_isub hx hb dX2_likelihood_21 ?_
    refine lv_topi (fun x_3 ex_3 => ?_)
    exact W.iret (v := x_3) hx hb hr (fun t ht hW => ⟨⟨x_3, (), rfl, trivial, trivial⟩, hS.F ht⟩) hS.2.2 dX2_likelihood_22
  · refine lv_iload hx hb dX2_likelihood_12 (lv_at hl 0 rfl) ?_
    refine lv_goto (tgt := 22) hx hb dX2_likelihood_14 (by decide) ?_
    exact W.iret (v := r_1) hx hb hr (fun t ht hW => ⟨⟨r_1, (), rfl, trivial, trivial⟩, hS.F ht⟩) hS.2.2 dX2_likelihood_22


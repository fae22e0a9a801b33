theorem dX2_doorShare_0 : decode cX2_doorShare 0 = .ok (.iload_n 3, 1) := by decide +kernel
theorem dX2_doorShare_1 : decode cX2_doorShare 1 = .ok (.lookupswitch 49 #[(0, 27), (1, 34)], 27) := by decide +kernel
theorem dX2_doorShare_28 : decode cX2_doorShare 28 = .ok (.aload_n 0, 1) := by decide +kernel
theorem dX2_doorShare_29 : decode cX2_doorShare 29 = .ok (.iload_n 1, 1) := by decide +kernel
theorem dX2_doorShare_30 : decode cX2_doorShare 30 = .ok (.iload_n 2, 1) := by decide +kernel
theorem dX2_doorShare_31 : decode cX2_doorShare 31 = .ok (.invokevirtual 57, 3) := by decide +kernel
theorem dX2_doorShare_34 : decode cX2_doorShare 34 = .ok (.ireturn, 1) := by decide +kernel
theorem dX2_doorShare_35 : decode cX2_doorShare 35 = .ok (.aload_n 0, 1) := by decide +kernel
theorem dX2_doorShare_36 : decode cX2_doorShare 36 = .ok (.iload_n 1, 1) := by decide +kernel
theorem dX2_doorShare_37 : decode cX2_doorShare 37 = .ok (.invokevirtual 52, 3) := by decide +kernel
theorem dX2_doorShare_40 : decode cX2_doorShare 40 = .ok (.ifCond .eq 8, 3) := by decide +kernel
theorem dX2_doorShare_43 : decode cX2_doorShare 43 = .ok (.ldc 56, 2) := by decide +kernel
theorem dX2_doorShare_45 : decode cX2_doorShare 45 = .ok (.goto 4, 3) := by decide +kernel
theorem dX2_doorShare_48 : decode cX2_doorShare 48 = .ok (.iconst 0, 1) := by decide +kernel
theorem dX2_doorShare_49 : decode cX2_doorShare 49 = .ok (.ireturn, 1) := by decide +kernel
theorem dX2_doorShare_50 : decode cX2_doorShare 50 = .ok (.iconst 0, 1) := by decide +kernel
theorem dX2_doorShare_51 : decode cX2_doorShare 51 = .ok (.ireturn, 1) := by decide +kernel
set_option maxHeartbeats 4000000 in
set_option maxRecDepth 100000 in
theorem x_doorShare (l : Launch) (D : va_G) (k : Nat → ClassId) (st : Nat → Nat) (lo : Nat) (h0 : Nat) (h1 : Nat) (h2 : Nat) (h3 : Nat) (h4 : Nat) (n : Nat) (see : Nat) (tm : Nat) (g : Nat → Int32) (fp : Nat → Int32) (fl : Nat → Int32) (rn : Nat) (i : Nat) (wh : Nat) (hrn : rn ≤ 3) (hi : i < 24) (hwh : wh ≤ 2) : CRi l D k st lo yX2_doorShare cX2_doorShare 4 (some .int) ({ frames := 2, cells := 0, slots := 0, locals := 45 }) [.ref h0, .int (nI rn), .int (nI i), .int (nI wh)] [(h0, .inr (5, [.ref h1, .ref h2, .ref h3, .ref h4])), (h1, .inl (k 1, 10, .inl (vv n see tm g))), (h3, .inl (k 1, 24, .inl fp)), (h4, .inl (k 1, 4, .inl fl))] (fun _ => True) := by
  intro sz
  refine Met.ofW (cc := cX2_doorShare) (maxL := 4) (ret := (some .int)) (by decide) rfl ?_
  intro p e s m args below meth c s₁ B hml hv
  obtain ⟨rfl, hsz, hlo, hP, hK, hDL, hZ⟩ := hv
  have hx := B.exec
  have hb := B.bytes
  have hr := B.returns
  have hts := WS_ts B.pre
  have hown : s.vm.findClass RX2 = some m.cls := findClass_of_methodNamed B.named
  have hlocks := B.notSynchronized
  subst hsz
  have hA : ∀ q : Nat, s.heap.size ≤ q → (fun q : Nat => s.heap.size ≤ q) q := fun _ h => h
  have hAlo : ∀ q : Nat, (fun q : Nat => s.heap.size ≤ q) q → lo ≤ q := fun q h => Nat.le_trans hlo h
  have hS : va_S (fun q : Nat => s.heap.size ≤ q) s.heap s.heap [] := va_S.rf
  have hl := lv_entry ([.ref h0, .int (nI rn), .int (nI i), .int (nI wh)]) (n := 4) (Nat.le_of_ble_eq_true rfl)
  rw [lg_entry_eq]
  generalize (lg_sl ([.ref h0, .int (nI rn), .int (nI i), .int (nI wh)]) ++ List.replicate (4 - (lg_sl ([.ref h0, .int (nI rn), .int (nI i), .int (nI wh)])).length) Slot.unset).toArray = ls at hl ⊢
  have hl : lv_has ls 4 [(0, .ref h0), (1, .int (nI rn)), (2, .int (nI i)), (3, .int (nI wh))] := hl
  rcases whsplit hwh with rfl | rfl | rfl
  · refine lv_iload_n hx hb dX2_doorShare_0 rfl (lv_at hl 3 rfl) ?_
    refine lv_lookup (tgt := 28) (off := 27) hx hb dX2_doorShare_1 (by decide) (by decide) (by decide) ?_
    refine lv_aload_n hx hb dX2_doorShare_28 rfl (lv_at hl 0 rfl) ?_
    refine lv_iload_n hx hb dX2_doorShare_29 rfl (lv_at hl 1 rfl) ?_
    refine lv_iload_n hx hb dX2_doorShare_30 rfl (lv_at hl 2 rfl) ?_
    refine ro_i (D := D) (va_runV (As := [.int (nI rn), .int (nI i)]) (rest := []) ⟨hx, hb, hml, hown, hts⟩ ((x_takingOf l D k st lo h0 h1 h2 h3 h4 n see tm g fp fl rn i (by omega) (by omega)) s.heap.size) (cwV 2 hts (gV tw_728 tw_557 tw_558 tw_81 tw_559) rfl rfl rfl (by decide +kernel) ⟨Nat.le_of_ble_eq_true rfl, Nat.le_of_ble_eq_true rfl⟩) (pV hS hAlo hlo hP hK hDL hZ [0, 1, 2, 3] (by decide) rfl (ci := 5) (q0 := 0) rfl rfl) rfl rfl hl.1 rfl (lv_room (Nat.le_of_ble_eq_true rfl)) dX2_doorShare_31 ⟨Nat.le_of_ble_eq_true rfl, Nat.le_of_ble_eq_true rfl⟩) hS hA hP (fun r_1 H locs hw_1 hP hS => ?_)
    try dsimp only at hw_1
    exact W.iret (v := r_1) hx hb hr (fun t ht hW => ⟨⟨r_1, (), rfl, trivial, trivial⟩, hS.F ht⟩) hS.2.2 dX2_doorShare_34
  · refine lv_iload_n hx hb dX2_doorShare_0 rfl (lv_at hl 3 rfl) ?_
    refine lv_lookup (tgt := 35) (off := 34) hx hb dX2_doorShare_1 (by decide) (by decide) (by decide) ?_
    refine lv_aload_n hx hb dX2_doorShare_35 rfl (lv_at hl 0 rfl) ?_
    refine lv_iload_n hx hb dX2_doorShare_36 rfl (lv_at hl 1 rfl) ?_
    refine ro_i (D := D) (va_runV (As := [.int (nI rn)]) (rest := []) ⟨hx, hb, hml, hown, hts⟩ ((x_isLateIn l D k st lo h0 h1 h2 h3 h4 n see tm g rn) s.heap.size) (cwV 1 hts (gV tw_714 tw_715 tw_716 tw_81 tw_717) rfl rfl rfl (by decide +kernel) ⟨Nat.le_of_ble_eq_true rfl, Nat.le_of_ble_eq_true rfl⟩) (pV hS hAlo hlo hP hK hDL hZ [0, 1] (by decide) rfl (ci := 5) (q0 := 0) rfl rfl) rfl rfl hl.1 rfl (lv_room (Nat.le_of_ble_eq_true rfl)) dX2_doorShare_37 ⟨Nat.le_of_ble_eq_true rfl, Nat.le_of_ble_eq_true rfl⟩) hS hA hP (fun r_2 H locs hw_2 hP hS => ?_)
    try dsimp only at hw_2
    refine lv_if_eq (tgt := 48) hx hb dX2_doorShare_40 (by decide) (fun c_3 => ?_) (fun c_3 => ?_)
    · refine lv_iconst (v := 0) hx hb dX2_doorShare_48 (by decide) ?_
      exact W.iret (v := 0) hx hb hr (fun t ht hW => ⟨⟨0, (), rfl, trivial, trivial⟩, hS.F ht⟩) hS.2.2 dX2_doorShare_49
    · refine lv_ldc hx hb hown (hts _ tw_718) dX2_doorShare_43 ?_
      refine lv_goto (tgt := 49) hx hb dX2_doorShare_45 (by decide) ?_
      exact W.iret (v := 1000000) hx hb hr (fun t ht hW => ⟨⟨1000000, (), rfl, trivial, trivial⟩, hS.F ht⟩) hS.2.2 dX2_doorShare_49
  · refine lv_iload_n hx hb dX2_doorShare_0 rfl (lv_at hl 3 rfl) ?_
    refine lv_lookup (tgt := 50) (off := 49) hx hb dX2_doorShare_1 (by decide) (by decide) (by decide) ?_
    refine lv_iconst (v := 0) hx hb dX2_doorShare_50 (by decide) ?_
    exact W.iret (v := 0) hx hb hr (fun t ht hW => ⟨⟨0, (), rfl, trivial, trivial⟩, hS.F ht⟩) hS.2.2 dX2_doorShare_51


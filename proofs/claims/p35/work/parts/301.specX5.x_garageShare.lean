theorem dX2_garageShare_0 : decode cX2_garageShare 0 = .ok (.iload_n 2, 1) := by decide +kernel
theorem dX2_garageShare_1 : decode cX2_garageShare 1 = .ok (.lookupswitch 48 #[(0, 27), (1, 33)], 27) := by decide +kernel
theorem dX2_garageShare_28 : decode cX2_garageShare 28 = .ok (.aload_n 0, 1) := by decide +kernel
theorem dX2_garageShare_29 : decode cX2_garageShare 29 = .ok (.iload_n 1, 1) := by decide +kernel
theorem dX2_garageShare_30 : decode cX2_garageShare 30 = .ok (.invokevirtual 48, 3) := by decide +kernel
theorem dX2_garageShare_33 : decode cX2_garageShare 33 = .ok (.ireturn, 1) := by decide +kernel
theorem dX2_garageShare_34 : decode cX2_garageShare 34 = .ok (.aload_n 0, 1) := by decide +kernel
theorem dX2_garageShare_35 : decode cX2_garageShare 35 = .ok (.iload_n 1, 1) := by decide +kernel
theorem dX2_garageShare_36 : decode cX2_garageShare 36 = .ok (.invokevirtual 52, 3) := by decide +kernel
theorem dX2_garageShare_39 : decode cX2_garageShare 39 = .ok (.ifCond .eq 8, 3) := by decide +kernel
theorem dX2_garageShare_42 : decode cX2_garageShare 42 = .ok (.ldc 56, 2) := by decide +kernel
theorem dX2_garageShare_44 : decode cX2_garageShare 44 = .ok (.goto 4, 3) := by decide +kernel
theorem dX2_garageShare_47 : decode cX2_garageShare 47 = .ok (.iconst 0, 1) := by decide +kernel
theorem dX2_garageShare_48 : decode cX2_garageShare 48 = .ok (.ireturn, 1) := by decide +kernel
theorem dX2_garageShare_49 : decode cX2_garageShare 49 = .ok (.ldc 56, 2) := by decide +kernel
theorem dX2_garageShare_51 : decode cX2_garageShare 51 = .ok (.ireturn, 1) := by decide +kernel
set_option maxHeartbeats 4000000 in
set_option maxRecDepth 100000 in
theorem x_garageShare (l : Launch) (D : va_G) (k : Nat → ClassId) (st : Nat → Nat) (lo : Nat) (h0 : Nat) (h1 : Nat) (h2 : Nat) (h3 : Nat) (h4 : Nat) (n : Nat) (see : Nat) (tm : Nat) (g : Nat → Int32) (fl : Nat → Int32) (rn : Nat) (wh : Nat) (hrn : rn ≤ 3) (hwh : wh ≤ 2) : CRi l D k st lo yX2_garageShare cX2_garageShare 3 (some .int) ({ frames := 2, cells := 0, slots := 0, locals := 42 }) [.ref h0, .int (nI rn), .int (nI wh)] [(h0, .inr (5, [.ref h1, .ref h2, .ref h3, .ref h4])), (h1, .inl (k 1, 10, .inl (vv n see tm g))), (h4, .inl (k 1, 4, .inl fl))] (fun _ => True) := by
  intro sz
  refine Met.ofW (cc := cX2_garageShare) (maxL := 3) (ret := (some .int)) (by decide) rfl ?_
  intro p e s m args below meth c s₁ B hml hv
  obtain ⟨rfl, hsz, hlo, hP, hK, hDL, hZ⟩ := hv
  have hx := B.exec
  have hb := B.bytes
  have hr := B.returns
  have hts := WS_ts B.pre
  have hown : s.vm.findClass RX2 = some m.cls := findClass_of_methodNamed B.named
  have hlocks := B.notSynchronized
  subst hsz
  have hA : ∀ q : Nat, s.heap.size ≤ q → (fun q : Nat => s.heap.size ≤ q) q := fun _ h => h
  have hAlo : ∀ q : Nat, (fun q : Nat => s.heap.size ≤ q) q → lo ≤ q := fun q h => Nat.le_trans hlo h
  have hS : va_S (fun q : Nat => s.heap.size ≤ q) s.heap s.heap [] := va_S.rf
  have hl := lv_entry ([.ref h0, .int (nI rn), .int (nI wh)]) (n := 3) (Nat.le_of_ble_eq_true rfl)
  rw [lg_entry_eq]
  generalize (lg_sl ([.ref h0, .int (nI rn), .int (nI wh)]) ++ List.replicate (3 - (lg_sl ([.ref h0, .int (nI rn), .int (nI wh)])).length) Slot.unset).toArray = ls at hl ⊢
  have hl : lv_has ls 3 [(0, .ref h0), (1, .int (nI rn)), (2, .int (nI wh))] := hl
  rcases whsplit hwh with rfl | rfl | rfl
  · refine lv_iload_n hx hb dX2_garageShare_0 rfl (lv_at hl 2 rfl) ?_
    refine lv_lookup (tgt := 28) (off := 27) hx hb dX2_garageShare_1 (by decide) (by decide) (by decide) ?_
    refine lv_aload_n hx hb dX2_garageShare_28 rfl (lv_at hl 0 rfl) ?_
    refine lv_iload_n hx hb dX2_garageShare_29 rfl (lv_at hl 1 rfl) ?_
    refine ro_i (D := D) (va_runV (As := [.int (nI rn)]) (rest := []) ⟨hx, hb, hml, hown, hts⟩ ((x_garageOf l D k st lo h0 h1 h2 h3 h4 n see tm g fl rn (by omega)) s.heap.size) (cwV 1 hts (gV tw_713 tw_521 tw_522 tw_81 tw_523) rfl rfl rfl (by decide +kernel) ⟨Nat.le_of_ble_eq_true rfl, Nat.le_of_ble_eq_true rfl⟩) (pV hS hAlo hlo hP hK hDL hZ [0, 1, 2] (by decide) rfl (ci := 5) (q0 := 0) rfl rfl) rfl rfl hl.1 rfl (lv_room (Nat.le_of_ble_eq_true rfl)) dX2_garageShare_30 ⟨Nat.le_of_ble_eq_true rfl, Nat.le_of_ble_eq_true rfl⟩) hS hA hP (fun r_1 H locs hw_1 hP hS => ?_)
    try dsimp only at hw_1
    exact W.iret (v := r_1) hx hb hr (fun t ht hW => ⟨⟨r_1, (), rfl, trivial, trivial⟩, hS.F ht⟩) hS.2.2 dX2_garageShare_33
  · refine lv_iload_n hx hb dX2_garageShare_0 rfl (lv_at hl 2 rfl) ?_
    refine lv_lookup (tgt := 34) (off := 33) hx hb dX2_garageShare_1 (by decide) (by decide) (by decide) ?_
    refine lv_aload_n hx hb dX2_garageShare_34 rfl (lv_at hl 0 rfl) ?_
    refine lv_iload_n hx hb dX2_garageShare_35 rfl (lv_at hl 1 rfl) ?_
    refine ro_i (D := D) (va_runV (As := [.int (nI rn)]) (rest := []) ⟨hx, hb, hml, hown, hts⟩ ((x_isLateIn l D k st lo h0 h1 h2 h3 h4 n see tm g rn) s.heap.size) (cwV 1 hts (gV tw_714 tw_715 tw_716 tw_81 tw_717) rfl rfl rfl (by decide +kernel) ⟨Nat.le_of_ble_eq_true rfl, Nat.le_of_ble_eq_true rfl⟩) (pV hS hAlo hlo hP hK hDL hZ [0, 1] (by decide) rfl (ci := 5) (q0 := 0) rfl rfl) rfl rfl hl.1 rfl (lv_room (Nat.le_of_ble_eq_true rfl)) dX2_garageShare_36 ⟨Nat.le_of_ble_eq_true rfl, Nat.le_of_ble_eq_true rfl⟩) hS hA hP (fun r_2 H locs hw_2 hP hS => ?_)
    try dsimp only at hw_2
    refine lv_if_eq (tgt := 47) hx hb dX2_garageShare_39 (by decide) (fun c_3 => ?_) (fun c_3 => ?_)
    · refine lv_iconst (v := 0) hx hb dX2_garageShare_47 (by decide) ?_
      exact W.iret (v := 0) hx hb hr (fun t ht hW => ⟨⟨0, (), rfl, trivial, trivial⟩, hS.F ht⟩) hS.2.2 dX2_garageShare_48
    · refine lv_ldc hx hb hown (hts _ tw_718) dX2_garageShare_42 ?_
      refine lv_goto (tgt := 48) hx hb dX2_garageShare_44 (by decide) ?_
      exact W.iret (v := 1000000) hx hb hr (fun t ht hW => ⟨⟨1000000, (), rfl, trivial, trivial⟩, hS.F ht⟩) hS.2.2 dX2_garageShare_48
  · refine lv_iload_n hx hb dX2_garageShare_0 rfl (lv_at hl 2 rfl) ?_
    refine lv_lookup (tgt := 49) (off := 48) hx hb dX2_garageShare_1 (by decide) (by decide) (by decide) ?_
    refine lv_ldc hx hb hown (hts _ tw_718) dX2_garageShare_49 ?_
    exact W.iret (v := 1000000) hx hb hr (fun t ht hW => ⟨⟨1000000, (), rfl, trivial, trivial⟩, hS.F ht⟩) hS.2.2 dX2_garageShare_51


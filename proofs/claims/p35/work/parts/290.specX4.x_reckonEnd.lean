theorem dX0_reckonEnd_0 : decode cX0_reckonEnd 0 = .ok (.aload_n 0, 1) := by decide +kernel
theorem dX0_reckonEnd_1 : decode cX0_reckonEnd 1 = .ok (.getfield 24, 3) := by decide +kernel
theorem dX0_reckonEnd_4 : decode cX0_reckonEnd 4 = .ok (.iload_n 1, 1) := by decide +kernel
theorem dX0_reckonEnd_5 : decode cX0_reckonEnd 5 = .ok (.invokevirtual 48, 3) := by decide +kernel
theorem dX0_reckonEnd_8 : decode cX0_reckonEnd 8 = .ok (.istore_n 2, 1) := by decide +kernel
theorem dX0_reckonEnd_9 : decode cX0_reckonEnd 9 = .ok (.iload_n 1, 1) := by decide +kernel
theorem dX0_reckonEnd_10 : decode cX0_reckonEnd 10 = .ok (.aload_n 0, 1) := by decide +kernel
theorem dX0_reckonEnd_11 : decode cX0_reckonEnd 11 = .ok (.getfield 24, 3) := by decide +kernel
theorem dX0_reckonEnd_14 : decode cX0_reckonEnd 14 = .ok (.getfield 28, 3) := by decide +kernel
theorem dX0_reckonEnd_17 : decode cX0_reckonEnd 17 = .ok (.bipush 8, 2) := by decide +kernel
theorem dX0_reckonEnd_19 : decode cX0_reckonEnd 19 = .ok (.iaload, 1) := by decide +kernel
theorem dX0_reckonEnd_20 : decode cX0_reckonEnd 20 = .ok (.if_icmp .lt 5, 3) := by decide +kernel
theorem dX0_reckonEnd_23 : decode cX0_reckonEnd 23 = .ok (.iload_n 2, 1) := by decide +kernel
theorem dX0_reckonEnd_24 : decode cX0_reckonEnd 24 = .ok (.ireturn, 1) := by decide +kernel
theorem dX0_reckonEnd_25 : decode cX0_reckonEnd 25 = .ok (.iload_n 2, 1) := by decide +kernel
theorem dX0_reckonEnd_26 : decode cX0_reckonEnd 26 = .ok (.aload_n 0, 1) := by decide +kernel
theorem dX0_reckonEnd_27 : decode cX0_reckonEnd 27 = .ok (.getfield 24, 3) := by decide +kernel
theorem dX0_reckonEnd_30 : decode cX0_reckonEnd 30 = .ok (.invokevirtual 51, 3) := by decide +kernel
theorem dX0_reckonEnd_33 : decode cX0_reckonEnd 33 = .ok (.aload_n 0, 1) := by decide +kernel
theorem dX0_reckonEnd_34 : decode cX0_reckonEnd 34 = .ok (.getfield 15, 3) := by decide +kernel
theorem dX0_reckonEnd_37 : decode cX0_reckonEnd 37 = .ok (.iload_n 1, 1) := by decide +kernel
theorem dX0_reckonEnd_38 : decode cX0_reckonEnd 38 = .ok (.iconst 1, 1) := by decide +kernel
theorem dX0_reckonEnd_39 : decode cX0_reckonEnd 39 = .ok (.iadd, 1) := by decide +kernel
theorem dX0_reckonEnd_40 : decode cX0_reckonEnd 40 = .ok (.iaload, 1) := by decide +kernel
theorem dX0_reckonEnd_41 : decode cX0_reckonEnd 41 = .ok (.iadd, 1) := by decide +kernel
theorem dX0_reckonEnd_42 : decode cX0_reckonEnd 42 = .ok (.invokestatic 54, 3) := by decide +kernel
theorem dX0_reckonEnd_45 : decode cX0_reckonEnd 45 = .ok (.ireturn, 1) := by decide +kernel
set_option maxHeartbeats 4000000 in
set_option maxRecDepth 100000 in
theorem x_reckonEnd (l : Launch) (D : va_G) (k : Nat → ClassId) (st : Nat → Nat) (lo : Nat) (h0 : Nat) (h1 : Nat) (h2 : Nat) (h3 : Nat) (h4 : Nat) (n : Nat) (see : Nat) (tm : Nat) (g : Nat → Int32) (fl : Nat → Int32) (w0 : Nat) (w1 : Nat) (w2 : Nat) (w3 : Nat) (w4 : Nat) (sr : Nat → Int32) (rn : Nat) (hrn : rn ≤ 3) (htm9 : tm ≤ 3) : CRi l D k st lo yX0_reckonEnd cX0_reckonEnd 3 (some .int) ({ frames := 1, cells := 0, slots := 0, locals := 60 }) [.ref w0, .int (nI rn)] [(h0, .inr (5, [.ref h1, .ref h2, .ref h3, .ref h4])), (h1, .inl (k 1, 10, .inl (vv n see tm g))), (h4, .inl (k 1, 4, .inl fl)), (w0, .inr (0, [.ref h0, .ref w1, .ref w2, .ref w3, .ref w4])), (w2, .inl (k 1, 4, .inl sr))] (fun _ => True) := by
  intro sz
  refine Met.ofW (cc := cX0_reckonEnd) (maxL := 3) (ret := (some .int)) (by decide) rfl ?_
  intro p e s m args below meth c s₁ B hml hv
  obtain ⟨rfl, hsz, hlo, hP, hK, hDL, hZ⟩ := hv
  have hx := B.exec
  have hb := B.bytes
  have hr := B.returns
  have hts := WS_ts B.pre
  have hown : s.vm.findClass RX0 = some m.cls := findClass_of_methodNamed B.named
  have hlocks := B.notSynchronized
  subst hsz
  have hA : ∀ q : Nat, s.heap.size ≤ q → (fun q : Nat => s.heap.size ≤ q) q := fun _ h => h
  have hAlo : ∀ q : Nat, (fun q : Nat => s.heap.size ≤ q) q → lo ≤ q := fun q h => Nat.le_trans hlo h
  have hS : va_S (fun q : Nat => s.heap.size ≤ q) s.heap s.heap [] := va_S.rf
  have hl := lv_entry ([.ref w0, .int (nI rn)]) (n := 3) (Nat.le_of_ble_eq_true rfl)
  rw [lg_entry_eq]
  generalize (lg_sl ([.ref w0, .int (nI rn)]) ++ List.replicate (3 - (lg_sl ([.ref w0, .int (nI rn)])).length) Slot.unset).toArray = ls at hl ⊢
  have hl : lv_has ls 3 [(0, .ref w0), (1, .int (nI rn))] := hl
  refine lv_aload_n hx hb dX0_reckonEnd_0 rfl (lv_at hl 0 rfl) ?_
  refine va_get (D := D) (ci := 0) (v := .ref h0) (C := RX0) (T := TX0) (N := 5) hx hb hts inX0 hown hK hP 3 rfl rfl 0 (by decide) (hts _ tw_266) (fun _ h9 => h9) rfl dX0_reckonEnd_1 ?_
  refine lv_iload_n hx hb dX0_reckonEnd_4 rfl (lv_at hl 1 rfl) ?_
  refine ro_i (D := D) (va_runV (As := [.int (nI rn)]) (rest := []) ⟨hx, hb, hml, hown, hts⟩ ((x_garageOf l D k st lo h0 h1 h2 h3 h4 n see tm g fl rn (by omega)) s.heap.size) (cwV 1 hts (gV tw_520 tw_521 tw_522 tw_81 tw_523) rfl rfl rfl (by decide +kernel) ⟨Nat.le_of_ble_eq_true rfl, Nat.le_of_ble_eq_true rfl⟩) (pV hS hAlo hlo hP hK hDL hZ [0, 1, 2] (by decide) rfl (ci := 5) (q0 := 0) rfl rfl) rfl rfl hl.1 rfl (lv_room (Nat.le_of_ble_eq_true rfl)) dX0_reckonEnd_5 ⟨Nat.le_of_ble_eq_true rfl, Nat.le_of_ble_eq_true rfl⟩) hS hA hP (fun r_1 H locs hw_1 hP hS => ?_)
  try dsimp only at hw_1
  refine lv_istore_n (lv' := [(2, .int r_1), (0, .ref w0), (1, .int (nI rn))]) hx hb dX0_reckonEnd_8 rfl hl (by decide) rfl (fun ls hl => ?_)
  refine lv_iload_n hx hb dX0_reckonEnd_9 rfl (lv_at hl 2 rfl) ?_
  refine lv_aload_n hx hb dX0_reckonEnd_10 rfl (lv_at hl 1 rfl) ?_
  refine va_get (D := D) (ci := 0) (v := .ref h0) (C := RX0) (T := TX0) (N := 5) hx hb hts inX0 hown hK hP 3 rfl rfl 0 (by decide) (hts _ tw_266) (fun _ h9 => h9) rfl dX0_reckonEnd_11 ?_
  refine va_get (D := D) (ci := 5) (v := .ref h1) (C := RX5) (T := TX5) (N := 4) hx hb hts inX5 hown hK hP 0 rfl rfl 0 (by decide) (hts _ tw_147) (fun _ h9 => h9) rfl dX0_reckonEnd_14 ?_
  refine lv_bipush (v := 8) hx hb dX0_reckonEnd_17 (by decide) ?_
  refine va_iald hx hb hK hP 1 1 rfl rfl (by unfold vp_in; decide) dX0_reckonEnd_19 ?_
  refine lv_ti (y := (nI tm)) (by rfl) ?_
  refine lv_icmp_lt (tgt := 25) hx hb dX0_reckonEnd_20 (by decide) (fun c_2 => ?_) (fun c_2 => ?_)
  · have c_2 := (nI_ltI (a := rn) (b := tm) (by omega) (by omega)).mp c_2
    refine lv_iload_n hx hb dX0_reckonEnd_25 rfl (lv_at hl 0 rfl) ?_
    refine lv_aload_n hx hb dX0_reckonEnd_26 rfl (lv_at hl 1 rfl) ?_
    refine va_get (D := D) (ci := 0) (v := .ref h0) (C := RX0) (T := TX0) (N := 5) hx hb hts inX0 hown hK hP 3 rfl rfl 0 (by decide) (hts _ tw_266) (fun _ h9 => h9) rfl dX0_reckonEnd_27 ?_
    refine ro_i (D := D) (va_runV (As := []) (rest := [.int r_1]) ⟨hx, hb, hml, hown, hts⟩ ((x_roundDrive l D k st lo h0 h1 h2 h3 h4 n see tm g) H.size) (cwV 0 hts (gV tw_524 tw_525 tw_526 tw_81 tw_527) rfl rfl rfl (by decide +kernel) ⟨Nat.le_of_ble_eq_true rfl, Nat.le_of_ble_eq_true rfl⟩) (pV hS hAlo hlo hP hK hDL hZ [0, 1] (by decide) rfl (ci := 5) (q0 := 0) rfl rfl) rfl rfl hl.1 rfl (lv_room (Nat.le_of_ble_eq_true rfl)) dX0_reckonEnd_30 ⟨Nat.le_of_ble_eq_true rfl, Nat.le_of_ble_eq_true rfl⟩) hS hA hP (fun r_3 H locs hw_3 hP hS => ?_)
    try dsimp only at hw_3
    refine lv_aload_n hx hb dX0_reckonEnd_33 rfl (lv_at hl 1 rfl) ?_
    refine va_get (D := D) (ci := 0) (v := .ref w2) (C := RX0) (T := TX0) (N := 5) hx hb hts inX0 hown hK hP 3 rfl rfl 2 (by decide) (hts _ tw_268) (fun _ h9 => h9) rfl dX0_reckonEnd_34 ?_
    refine lv_iload_n hx hb dX0_reckonEnd_37 rfl (lv_at hl 2 rfl) ?_
    refine lv_iconst (v := 1) hx hb dX0_reckonEnd_38 (by decide) ?_
    refine lv_iadd hx hb dX0_reckonEnd_39 ?_
    refine lv_ti (y := (nI (rn + 1))) (nI_add rn 1) ?_
    refine va_iald hx hb hK hP 4 1 rfl rfl (vp_in_nI (by omega) (by decide)) dX0_reckonEnd_40 ?_
    refine lv_ti (y := (sr (rn + 1))) (by rw [nI_clamp (by omega)]) ?_
    refine lv_iadd hx hb dX0_reckonEnd_41 ?_
    refine lv_topi (fun x_4 ex_4 => ?_)
    refine va_mmin hx hb (by rw [hml]; exact hl.1.symm) hown (hts _ tw_528) (hts _ tw_529) (hts _ tw_93) (hts _ tw_530) (Nat.le_of_ble_eq_true rfl) (Nat.le_of_ble_eq_true rfl) (Nat.le_of_ble_eq_true rfl) (Nat.le_of_ble_eq_true rfl) dX0_reckonEnd_42 ?_
    refine lv_topi (fun x_5 ex_5 => ?_)
    exact W.iret (v := x_5) hx hb hr (fun t ht hW => ⟨⟨x_5, (), rfl, trivial, trivial⟩, hS.F ht⟩) hS.2.2 dX0_reckonEnd_45
  · have c_2 : ¬ (rn < tm) := fun h => c_2 ((nI_ltI (a := rn) (b := tm) (by omega) (by omega)).mpr h)
    refine lv_iload_n hx hb dX0_reckonEnd_23 rfl (lv_at hl 0 rfl) ?_
    exact W.iret (v := r_1) hx hb hr (fun t ht hW => ⟨⟨r_1, (), rfl, trivial, trivial⟩, hS.F ht⟩) hS.2.2 dX0_reckonEnd_24


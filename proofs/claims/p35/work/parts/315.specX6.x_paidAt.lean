theorem dX1_paidAt_0 : decode cX1_paidAt 0 = .ok (.iload_n 2, 1) := by decide +kernel
theorem dX1_paidAt_1 : decode cX1_paidAt 1 = .ok (.aload_n 0, 1) := by decide +kernel
theorem dX1_paidAt_2 : decode cX1_paidAt 2 = .ok (.getfield 28, 3) := by decide +kernel
theorem dX1_paidAt_5 : decode cX1_paidAt 5 = .ok (.if_icmp .lt 15, 3) := by decide +kernel
theorem dX1_paidAt_8 : decode cX1_paidAt 8 = .ok (.iload_n 2, 1) := by decide +kernel
theorem dX1_paidAt_9 : decode cX1_paidAt 9 = .ok (.aload_n 0, 1) := by decide +kernel
theorem dX1_paidAt_10 : decode cX1_paidAt 10 = .ok (.getfield 21, 3) := by decide +kernel
theorem dX1_paidAt_13 : decode cX1_paidAt 13 = .ok (.if_icmp .ge 7, 3) := by decide +kernel
theorem dX1_paidAt_16 : decode cX1_paidAt 16 = .ok (.iconst 1, 1) := by decide +kernel
theorem dX1_paidAt_17 : decode cX1_paidAt 17 = .ok (.goto 4, 3) := by decide +kernel
theorem dX1_paidAt_20 : decode cX1_paidAt 20 = .ok (.iconst 0, 1) := by decide +kernel
theorem dX1_paidAt_21 : decode cX1_paidAt 21 = .ok (.istore_n 3, 1) := by decide +kernel
theorem dX1_paidAt_22 : decode cX1_paidAt 22 = .ok (.aload_n 0, 1) := by decide +kernel
theorem dX1_paidAt_23 : decode cX1_paidAt 23 = .ok (.iload_n 1, 1) := by decide +kernel
theorem dX1_paidAt_24 : decode cX1_paidAt 24 = .ok (.iload_n 2, 1) := by decide +kernel
theorem dX1_paidAt_25 : decode cX1_paidAt 25 = .ok (.invokevirtual 70, 3) := by decide +kernel
theorem dX1_paidAt_28 : decode cX1_paidAt 28 = .ok (.iload_n 3, 1) := by decide +kernel
theorem dX1_paidAt_29 : decode cX1_paidAt 29 = .ok (.ifCond .eq 10, 3) := by decide +kernel
theorem dX1_paidAt_32 : decode cX1_paidAt 32 = .ok (.aload_n 0, 1) := by decide +kernel
theorem dX1_paidAt_33 : decode cX1_paidAt 33 = .ok (.getfield 31, 3) := by decide +kernel
theorem dX1_paidAt_36 : decode cX1_paidAt 36 = .ok (.goto 4, 3) := by decide +kernel
theorem dX1_paidAt_39 : decode cX1_paidAt 39 = .ok (.iconst 0, 1) := by decide +kernel
theorem dX1_paidAt_40 : decode cX1_paidAt 40 = .ok (.iadd, 1) := by decide +kernel
theorem dX1_paidAt_41 : decode cX1_paidAt 41 = .ok (.ireturn, 1) := by decide +kernel
set_option maxHeartbeats 4000000 in
set_option maxRecDepth 100000 in
theorem x_paidAt (l : Launch) (D : va_G) (k : Nat → ClassId) (st : Nat → Nat) (lo : Nat) (c0 : Nat) (z0 : Nat) (z1 : Nat) (z2 : Nat) (z3 : Nat) (pn : Nat) (pf : Int32) (pd : Int32) (pe : Int32) (pco : Nat → Int32) (cn : Nat) (pl : Nat) (hcn : cn < 4) (hpl : pl ≤ 24) (hpn : pn ≤ 24) : CRi l D k st lo yX1_paidAt cX1_paidAt 4 (some .int) ({ frames := 1, cells := 0, slots := 0, locals := 22 }) [.ref z0, .int (nI cn), .int (nI pl)] [(z0, .inr (1, [.ref c0, .ref z1, .ref z2, .ref z3, .int (nI pn), .int pf, .int pd, .int pe])), (z2, .inl (k 1, 100, .inl pco))] (fun _ => True) := by
  intro sz
  refine Met.ofW (cc := cX1_paidAt) (maxL := 4) (ret := (some .int)) (by decide) rfl ?_
  intro p e s m args below meth c s₁ B hml hv
  obtain ⟨rfl, hsz, hlo, hP, hK, hDL, hZ⟩ := hv
  have hx := B.exec
  have hb := B.bytes
  have hr := B.returns
  have hts := WS_ts B.pre
  have hown : s.vm.findClass RX1 = some m.cls := findClass_of_methodNamed B.named
  have hlocks := B.notSynchronized
  subst hsz
  have hA : ∀ q : Nat, s.heap.size ≤ q → (fun q : Nat => s.heap.size ≤ q) q := fun _ h => h
  have hAlo : ∀ q : Nat, (fun q : Nat => s.heap.size ≤ q) q → lo ≤ q := fun q h => Nat.le_trans hlo h
  have hS : va_S (fun q : Nat => s.heap.size ≤ q) s.heap s.heap [] := va_S.rf
  have hl := lv_entry ([.ref z0, .int (nI cn), .int (nI pl)]) (n := 4) (Nat.le_of_ble_eq_true rfl)
  rw [lg_entry_eq]
  generalize (lg_sl ([.ref z0, .int (nI cn), .int (nI pl)]) ++ List.replicate (4 - (lg_sl ([.ref z0, .int (nI cn), .int (nI pl)])).length) Slot.unset).toArray = ls at hl ⊢
  have hl : lv_has ls 4 [(0, .ref z0), (1, .int (nI cn)), (2, .int (nI pl))] := hl
  refine lv_iload_n hx hb dX1_paidAt_0 rfl (lv_at hl 2 rfl) ?_
  refine lv_aload_n hx hb dX1_paidAt_1 rfl (lv_at hl 0 rfl) ?_
  refine va_get (D := D) (ci := 1) (v := .int pd) (C := RX1) (T := TX1) (N := 8) hx hb hts inX1 hown hK hP 0 rfl rfl 6 (by decide) (hts _ tw_242) (fun _ h9 => h9) rfl dX1_paidAt_2 ?_
  refine lv_icmp_lt (tgt := 20) hx hb dX1_paidAt_5 (by decide) (fun c_1 => ?_) (fun c_1 => ?_)
  · refine lv_iconst (v := 0) hx hb dX1_paidAt_20 (by decide) ?_
    refine lv_istore_n (lv' := [(3, .int 0), (0, .ref z0), (1, .int (nI cn)), (2, .int (nI pl))]) hx hb dX1_paidAt_21 rfl hl (by decide) rfl (fun ls hl => ?_)
    refine lv_aload_n hx hb dX1_paidAt_22 rfl (lv_at hl 1 rfl) ?_
    refine lv_iload_n hx hb dX1_paidAt_23 rfl (lv_at hl 2 rfl) ?_
    refine lv_iload_n hx hb dX1_paidAt_24 rfl (lv_at hl 3 rfl) ?_
    refine ro_i (D := D) (va_runV (As := [.int (nI cn), .int (nI pl)]) (rest := []) ⟨hx, hb, hml, hown, hts⟩ ((x_costAt l D k st lo c0 z0 z1 z2 z3 pn pf pd pe pco cn pl (by omega) (by omega)) s.heap.size) (cwV 2 hts (gV tw_866 tw_843 tw_844 tw_84 tw_845) rfl rfl rfl (by decide +kernel) ⟨Nat.le_of_ble_eq_true rfl, Nat.le_of_ble_eq_true rfl⟩) (pV hS hAlo hlo hP hK hDL hZ [0, 1] (by decide) rfl (ci := 1) (q0 := 0) rfl rfl) rfl rfl hl.1 rfl (lv_room (Nat.le_of_ble_eq_true rfl)) dX1_paidAt_25 ⟨Nat.le_of_ble_eq_true rfl, Nat.le_of_ble_eq_true rfl⟩) hS hA hP (fun r_2 H locs hw_2 hP hS => ?_)
    try dsimp only at hw_2
    refine lv_iload_n hx hb dX1_paidAt_28 rfl (lv_at hl 0 rfl) ?_
    refine lv_if_eq (tgt := 39) hx hb dX1_paidAt_29 (by decide) (fun _ => ?_) (fun h => absurd (by decide) h)
    refine lv_iconst (v := 0) hx hb dX1_paidAt_39 (by decide) ?_
    refine lv_iadd hx hb dX1_paidAt_40 ?_
    refine lv_topi (fun x_3 ex_3 => ?_)
    exact W.iret (v := x_3) hx hb hr (fun t ht hW => ⟨⟨x_3, (), rfl, trivial, trivial⟩, hS.F ht⟩) hS.2.2 dX1_paidAt_41
  · refine lv_iload_n hx hb dX1_paidAt_8 rfl (lv_at hl 2 rfl) ?_
    refine lv_aload_n hx hb dX1_paidAt_9 rfl (lv_at hl 0 rfl) ?_
    refine va_get (D := D) (ci := 1) (v := .int (nI pn)) (C := RX1) (T := TX1) (N := 8) hx hb hts inX1 hown hK hP 0 rfl rfl 4 (by decide) (hts _ tw_240) (fun _ h9 => h9) rfl dX1_paidAt_10 ?_
    refine lv_icmp_ge (tgt := 20) hx hb dX1_paidAt_13 (by decide) (fun c_4 => ?_) (fun c_4 => ?_)
    · have c_4 := (nI_leI (a := pn) (b := pl) (by omega) (by omega)).mp c_4
      refine lv_iconst (v := 0) hx hb dX1_paidAt_20 (by decide) ?_
      refine lv_istore_n (lv' := [(3, .int 0), (0, .ref z0), (1, .int (nI cn)), (2, .int (nI pl))]) hx hb dX1_paidAt_21 rfl hl (by decide) rfl (fun ls hl => ?_)
      refine lv_aload_n hx hb dX1_paidAt_22 rfl (lv_at hl 1 rfl) ?_
      refine lv_iload_n hx hb dX1_paidAt_23 rfl (lv_at hl 2 rfl) ?_
      refine lv_iload_n hx hb dX1_paidAt_24 rfl (lv_at hl 3 rfl) ?_
      refine ro_i (D := D) (va_runV (As := [.int (nI cn), .int (nI pl)]) (rest := []) ⟨hx, hb, hml, hown, hts⟩ ((x_costAt l D k st lo c0 z0 z1 z2 z3 pn pf pd pe pco cn pl (by omega) (by omega)) s.heap.size) (cwV 2 hts (gV tw_866 tw_843 tw_844 tw_84 tw_845) rfl rfl rfl (by decide +kernel) ⟨Nat.le_of_ble_eq_true rfl, Nat.le_of_ble_eq_true rfl⟩) (pV hS hAlo hlo hP hK hDL hZ [0, 1] (by decide) rfl (ci := 1) (q0 := 0) rfl rfl) rfl rfl hl.1 rfl (lv_room (Nat.le_of_ble_eq_true rfl)) dX1_paidAt_25 ⟨Nat.le_of_ble_eq_true rfl, Nat.le_of_ble_eq_true rfl⟩) hS hA hP (fun r_5 H locs hw_5 hP hS => ?_)
      try dsimp only at hw_5
      refine lv_iload_n hx hb dX1_paidAt_28 rfl (lv_at hl 0 rfl) ?_
      refine lv_if_eq (tgt := 39) hx hb dX1_paidAt_29 (by decide) (fun _ => ?_) (fun h => absurd (by decide) h)
      refine lv_iconst (v := 0) hx hb dX1_paidAt_39 (by decide) ?_
      refine lv_iadd hx hb dX1_paidAt_40 ?_
      refine lv_topi (fun x_6 ex_6 => ?_)
      exact W.iret (v := x_6) hx hb hr (fun t ht hW => ⟨⟨x_6, (), rfl, trivial, trivial⟩, hS.F ht⟩) hS.2.2 dX1_paidAt_41
    · have c_4 : ¬ (pn ≤ pl) := fun h => c_4 ((nI_leI (a := pn) (b := pl) (by omega) (by omega)).mpr h)
      refine lv_iconst (v := 1) hx hb dX1_paidAt_16 (by decide) ?_
      refine lv_goto (tgt := 21) hx hb dX1_paidAt_17 (by decide) ?_
      refine lv_istore_n (lv' := [(3, .int 1), (0, .ref z0), (1, .int (nI cn)), (2, .int (nI pl))]) hx hb dX1_paidAt_21 rfl hl (by decide) rfl (fun ls hl => ?_)
      refine lv_aload_n hx hb dX1_paidAt_22 rfl (lv_at hl 1 rfl) ?_
      refine lv_iload_n hx hb dX1_paidAt_23 rfl (lv_at hl 2 rfl) ?_
      refine lv_iload_n hx hb dX1_paidAt_24 rfl (lv_at hl 3 rfl) ?_
      refine ro_i (D := D) (va_runV (As := [.int (nI cn), .int (nI pl)]) (rest := []) ⟨hx, hb, hml, hown, hts⟩ ((x_costAt l D k st lo c0 z0 z1 z2 z3 pn pf pd pe pco cn pl (by omega) (by omega)) s.heap.size) (cwV 2 hts (gV tw_866 tw_843 tw_844 tw_84 tw_845) rfl rfl rfl (by decide +kernel) ⟨Nat.le_of_ble_eq_true rfl, Nat.le_of_ble_eq_true rfl⟩) (pV hS hAlo hlo hP hK hDL hZ [0, 1] (by decide) rfl (ci := 1) (q0 := 0) rfl rfl) rfl rfl hl.1 rfl (lv_room (Nat.le_of_ble_eq_true rfl)) dX1_paidAt_25 ⟨Nat.le_of_ble_eq_true rfl, Nat.le_of_ble_eq_true rfl⟩) hS hA hP (fun r_7 H locs hw_7 hP hS => ?_)
      try dsimp only at hw_7
      refine lv_iload_n hx hb dX1_paidAt_28 rfl (lv_at hl 0 rfl) ?_
      refine lv_if_eq (tgt := 39) hx hb dX1_paidAt_29 (by decide) (fun h => absurd h (by decide)) (fun _ => ?_)
      refine lv_aload_n hx hb dX1_paidAt_32 rfl (lv_at hl 1 rfl) ?_
      refine va_get (D := D) (ci := 1) (v := .int pe) (C := RX1) (T := TX1) (N := 8) hx hb hts inX1 hown hK hP 0 rfl rfl 7 (by decide) (hts _ tw_243) (fun _ h9 => h9) rfl dX1_paidAt_33 ?_
      refine lv_goto (tgt := 40) hx hb dX1_paidAt_36 (by decide) ?_
      refine lv_iadd hx hb dX1_paidAt_40 ?_
      refine lv_topi (fun x_8 ex_8 => ?_)
      exact W.iret (v := x_8) hx hb hr (fun t ht hW => ⟨⟨x_8, (), rfl, trivial, trivial⟩, hS.F ht⟩) hS.2.2 dX1_paidAt_41


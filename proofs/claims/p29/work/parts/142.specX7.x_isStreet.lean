theorem dX7_isStreet_0 : decode cX7_isStreet 0 = .ok (.iload_n 1, 1) := by decide +kernel
theorem dX7_isStreet_1 : decode cX7_isStreet 1 = .ok (.ifCond .lt 24, 3) := by decide +kernel
theorem dX7_isStreet_4 : decode cX7_isStreet 4 = .ok (.iload_n 1, 1) := by decide +kernel
theorem dX7_isStreet_5 : decode cX7_isStreet 5 = .ok (.iconst 3, 1) := by decide +kernel
theorem dX7_isStreet_6 : decode cX7_isStreet 6 = .ok (.if_icmp .ge 19, 3) := by decide +kernel
theorem dX7_isStreet_9 : decode cX7_isStreet 9 = .ok (.aload_n 0, 1) := by decide +kernel
theorem dX7_isStreet_10 : decode cX7_isStreet 10 = .ok (.getfield 18, 3) := by decide +kernel
theorem dX7_isStreet_13 : decode cX7_isStreet 13 = .ok (.iload_n 1, 1) := by decide +kernel
theorem dX7_isStreet_14 : decode cX7_isStreet 14 = .ok (.aaload, 1) := by decide +kernel
theorem dX7_isStreet_15 : decode cX7_isStreet 15 = .ok (.invokevirtual 105, 3) := by decide +kernel
theorem dX7_isStreet_18 : decode cX7_isStreet 18 = .ok (.ifCond .le 7, 3) := by decide +kernel
theorem dX7_isStreet_21 : decode cX7_isStreet 21 = .ok (.iconst 1, 1) := by decide +kernel
theorem dX7_isStreet_22 : decode cX7_isStreet 22 = .ok (.goto 4, 3) := by decide +kernel
theorem dX7_isStreet_25 : decode cX7_isStreet 25 = .ok (.iconst 0, 1) := by decide +kernel
theorem dX7_isStreet_26 : decode cX7_isStreet 26 = .ok (.ireturn, 1) := by decide +kernel
set_option maxHeartbeats 4000000 in
set_option maxRecDepth 100000 in
theorem x_isStreet (l : Launch) (D : va_G) (k : Nat → ClassId) (st : Nat → Nat) (lo : Nat) (a : Nat → Nat) (rk : Nat) (lfa : Int32) (n0 : Nat) (see0 : Nat) (tm0 : Nat) (g0 : Nat → Int32) (n1 : Nat) (see1 : Nat) (tm1 : Nat) (g1 : Nat → Int32) (n2 : Nat) (see2 : Nat) (tm2 : Nat) (g2 : Nat → Int32) (pz : Int32) (hn0 : n0 ≤ 24) (hn1 : n1 ≤ 24) (hn2 : n2 ≤ 24) : CRi l D k st lo yX7_isStreet cX7_isStreet 2 (some .boolean) ({ frames := 1, cells := 0, slots := 0, locals := 20 }) [.ref (a 0), .int pz] [((a 0), .inr (7, (fX7 (a 1) (a 3) (a 19) (a 35) (a 40) (nI rk) lfa (a 53) (a 56) (a 63) (a 64) (a 68)))), ((a 3), .inl (k 3, 3, .inr (.inr (.inr (.inr (a3 (a 4) (a 9) (a 14))))))), ((a 4), .inr (5, (fX5 (a 5) (a 6) (a 7) (a 8)))), (aI k (a 5) 10 (vv n0 see0 tm0 g0)), ((a 9), .inr (5, (fX5 (a 10) (a 11) (a 12) (a 13)))), (aI k (a 10) 10 (vv n1 see1 tm1 g1)), ((a 14), .inr (5, (fX5 (a 15) (a 16) (a 17) (a 18)))), (aI k (a 15) 10 (vv n2 see2 tm2 g2))] (fun r => (r = 1 ∧ ((pz = 0 ∧ 0 < n0) ∨ (pz = 1 ∧ 0 < n1) ∨ (pz = 2 ∧ 0 < n2))) ∨ r = 0) := by
  intro sz
  refine Met.ofW (cc := cX7_isStreet) (maxL := 2) (ret := (some .boolean)) (by decide) rfl ?_
  intro p e s m args below meth c s₁ B hml hv
  obtain ⟨rfl, hsz, hlo, hP, hK, hDL, hZ⟩ := hv
  have hx := B.exec
  have hb := B.bytes
  have hr := B.returns
  have hts := WS_ts B.pre
  have hown : s.vm.findClass RX7 = some m.cls := findClass_of_methodNamed B.named
  have hlocks := B.notSynchronized
  subst hsz
  have hA : ∀ q : Nat, s.heap.size ≤ q → (fun q : Nat => s.heap.size ≤ q) q := fun _ h => h
  have hAlo : ∀ q : Nat, (fun q : Nat => s.heap.size ≤ q) q → lo ≤ q := fun q h => Nat.le_trans hlo h
  have hS : va_S (fun q : Nat => s.heap.size ≤ q) s.heap s.heap [] := va_S.rf
  have hl := lv_entry ([.ref (a 0), .int pz]) (n := 2) (Nat.le_of_ble_eq_true rfl)
  rw [lg_entry_eq]
  generalize (lg_sl ([.ref (a 0), .int pz]) ++ List.replicate (2 - (lg_sl ([.ref (a 0), .int pz])).length) Slot.unset).toArray = ls at hl ⊢
  have hl : lv_has ls 2 [(0, .ref (a 0)), (1, .int pz)] := hl
  refine lv_iload_n hx hb dX7_isStreet_0 rfl (lv_at hl 1 rfl) ?_
  refine lv_if_lt (tgt := 25) hx hb dX7_isStreet_1 (by decide) (fun c_1 => ?_) (fun c_1 => ?_)
  · refine lv_iconst (v := 0) hx hb dX7_isStreet_25 (by decide) ?_
    exact W.zret (v := 0) (ty := .boolean) hx hb hr rfl (fun t ht hW => ⟨⟨0, (), rfl, .inr rfl, trivial⟩, hS.F ht⟩) hS.2.2 dX7_isStreet_26
  · refine lv_iload_n hx hb dX7_isStreet_4 rfl (lv_at hl 1 rfl) ?_
    refine lv_iconst (v := 3) hx hb dX7_isStreet_5 (by decide) ?_
    refine lv_icmp_ge (tgt := 25) hx hb dX7_isStreet_6 (by decide) (fun c_2 => ?_) (fun c_2 => ?_)
    · refine lv_iconst (v := 0) hx hb dX7_isStreet_25 (by decide) ?_
      exact W.zret (v := 0) (ty := .boolean) hx hb hr rfl (fun t ht hW => ⟨⟨0, (), rfl, .inr rfl, trivial⟩, hS.F ht⟩) hS.2.2 dX7_isStreet_26
    · rcases xspl3 c_1 c_2 with rfl | rfl | rfl
      · refine lv_aload_n hx hb dX7_isStreet_9 rfl (lv_at hl 0 rfl) ?_
        refine va_get (D := D) (ci := 7) (v := .ref (a 3)) (C := RX7) (T := TX7) (N := 12) hx hb hts inX7 hown hK hP 0 rfl rfl 1 (by decide) (hts _ tw_306) (fun _ h9 => h9) rfl dX7_isStreet_10 ?_
        refine lv_iload_n hx hb dX7_isStreet_13 rfl (lv_at hl 1 rfl) ?_
        refine va_aldq hx hb hK hP 1 3 rfl rfl (by unfold vp_in; decide) dX7_isStreet_14 ?_
        refine lv_tr (y := .ref (a 4)) rfl ?_
        refine ro_i (D := D) (va_runV (As := []) (rest := []) ⟨hx, hb, hml, hown, hts⟩ ((x_doors l D k st lo (a 4) (a 5) (a 6) (a 7) (a 8) n0 see0 tm0 g0) s.heap.size) (cwV 0 hts (gV tw_580 tw_478 tw_479 tw_81 tw_480) rfl rfl rfl (by decide +kernel) ⟨Nat.le_of_ble_eq_true rfl, Nat.le_of_ble_eq_true rfl⟩) (pV hS hAlo hlo hP hK hDL hZ [2, 3] (by decide) rfl (ci := 5) (q := (RX5, TX5, 4)) (q0 := 0) rfl rfl) rfl rfl hl.1 rfl (lv_room (Nat.le_of_ble_eq_true rfl)) dX7_isStreet_15 ⟨Nat.le_of_ble_eq_true rfl, Nat.le_of_ble_eq_true rfl⟩) hS hA hP (fun r_3 H locs hw_3 hP hS => ?_)
        try dsimp only at hw_3
        subst hw_3
        refine lv_if_le (tgt := 25) hx hb dX7_isStreet_18 (by decide) (fun c_4 => ?_) (fun c_4 => ?_)
        · have c_4 := (nI_leI (a := n0) (b := 0) (by omega) (by omega)).mp c_4
          refine lv_iconst (v := 0) hx hb dX7_isStreet_25 (by decide) ?_
          exact W.zret (v := 0) (ty := .boolean) hx hb hr rfl (fun t ht hW => ⟨⟨0, (), rfl, .inr rfl, trivial⟩, hS.F ht⟩) hS.2.2 dX7_isStreet_26
        · have c_4 : ¬ (n0 ≤ 0) := fun h => c_4 ((nI_leI (a := n0) (b := 0) (by omega) (by omega)).mpr h)
          refine lv_iconst (v := 1) hx hb dX7_isStreet_21 (by decide) ?_
          refine lv_goto (tgt := 26) hx hb dX7_isStreet_22 (by decide) ?_
          exact W.zret (v := 1) (ty := .boolean) hx hb hr rfl (fun t ht hW => ⟨⟨1, (), rfl, .inl ⟨rfl, .inl ⟨rfl, by omega⟩⟩, trivial⟩, hS.F ht⟩) hS.2.2 dX7_isStreet_26
      · refine lv_aload_n hx hb dX7_isStreet_9 rfl (lv_at hl 0 rfl) ?_
        refine va_get (D := D) (ci := 7) (v := .ref (a 3)) (C := RX7) (T := TX7) (N := 12) hx hb hts inX7 hown hK hP 0 rfl rfl 1 (by decide) (hts _ tw_306) (fun _ h9 => h9) rfl dX7_isStreet_10 ?_
        refine lv_iload_n hx hb dX7_isStreet_13 rfl (lv_at hl 1 rfl) ?_
        refine va_aldq hx hb hK hP 1 3 rfl rfl (by unfold vp_in; decide) dX7_isStreet_14 ?_
        refine lv_tr (y := .ref (a 9)) rfl ?_
        refine ro_i (D := D) (va_runV (As := []) (rest := []) ⟨hx, hb, hml, hown, hts⟩ ((x_doors l D k st lo (a 9) (a 10) (a 11) (a 12) (a 13) n1 see1 tm1 g1) s.heap.size) (cwV 0 hts (gV tw_580 tw_478 tw_479 tw_81 tw_480) rfl rfl rfl (by decide +kernel) ⟨Nat.le_of_ble_eq_true rfl, Nat.le_of_ble_eq_true rfl⟩) (pV hS hAlo hlo hP hK hDL hZ [4, 5] (by decide) rfl (ci := 5) (q := (RX5, TX5, 4)) (q0 := 0) rfl rfl) rfl rfl hl.1 rfl (lv_room (Nat.le_of_ble_eq_true rfl)) dX7_isStreet_15 ⟨Nat.le_of_ble_eq_true rfl, Nat.le_of_ble_eq_true rfl⟩) hS hA hP (fun r_5 H locs hw_5 hP hS => ?_)
        try dsimp only at hw_5
        subst hw_5
        refine lv_if_le (tgt := 25) hx hb dX7_isStreet_18 (by decide) (fun c_6 => ?_) (fun c_6 => ?_)
        · have c_6 := (nI_leI (a := n1) (b := 0) (by omega) (by omega)).mp c_6
          refine lv_iconst (v := 0) hx hb dX7_isStreet_25 (by decide) ?_
          exact W.zret (v := 0) (ty := .boolean) hx hb hr rfl (fun t ht hW => ⟨⟨0, (), rfl, .inr rfl, trivial⟩, hS.F ht⟩) hS.2.2 dX7_isStreet_26
        · have c_6 : ¬ (n1 ≤ 0) := fun h => c_6 ((nI_leI (a := n1) (b := 0) (by omega) (by omega)).mpr h)
          refine lv_iconst (v := 1) hx hb dX7_isStreet_21 (by decide) ?_
          refine lv_goto (tgt := 26) hx hb dX7_isStreet_22 (by decide) ?_
          exact W.zret (v := 1) (ty := .boolean) hx hb hr rfl (fun t ht hW => ⟨⟨1, (), rfl, .inl ⟨rfl, .inr (.inl ⟨rfl, by omega⟩)⟩, trivial⟩, hS.F ht⟩) hS.2.2 dX7_isStreet_26
      · refine lv_aload_n hx hb dX7_isStreet_9 rfl (lv_at hl 0 rfl) ?_
        refine va_get (D := D) (ci := 7) (v := .ref (a 3)) (C := RX7) (T := TX7) (N := 12) hx hb hts inX7 hown hK hP 0 rfl rfl 1 (by decide) (hts _ tw_306) (fun _ h9 => h9) rfl dX7_isStreet_10 ?_
        refine lv_iload_n hx hb dX7_isStreet_13 rfl (lv_at hl 1 rfl) ?_
        refine va_aldq hx hb hK hP 1 3 rfl rfl (by unfold vp_in; decide) dX7_isStreet_14 ?_
        refine lv_tr (y := .ref (a 14)) rfl ?_
        refine ro_i (D := D) (va_runV (As := []) (rest := []) ⟨hx, hb, hml, hown, hts⟩ ((x_doors l D k st lo (a 14) (a 15) (a 16) (a 17) (a 18) n2 see2 tm2 g2) s.heap.size) (cwV 0 hts (gV tw_580 tw_478 tw_479 tw_81 tw_480) rfl rfl rfl (by decide +kernel) ⟨Nat.le_of_ble_eq_true rfl, Nat.le_of_ble_eq_true rfl⟩) (pV hS hAlo hlo hP hK hDL hZ [6, 7] (by decide) rfl (ci := 5) (q := (RX5, TX5, 4)) (q0 := 0) rfl rfl) rfl rfl hl.1 rfl (lv_room (Nat.le_of_ble_eq_true rfl)) dX7_isStreet_15 ⟨Nat.le_of_ble_eq_true rfl, Nat.le_of_ble_eq_true rfl⟩) hS hA hP (fun r_7 H locs hw_7 hP hS => ?_)
        try dsimp only at hw_7
        subst hw_7
        refine lv_if_le (tgt := 25) hx hb dX7_isStreet_18 (by decide) (fun c_8 => ?_) (fun c_8 => ?_)
        · have c_8 := (nI_leI (a := n2) (b := 0) (by omega) (by omega)).mp c_8
          refine lv_iconst (v := 0) hx hb dX7_isStreet_25 (by decide) ?_
          exact W.zret (v := 0) (ty := .boolean) hx hb hr rfl (fun t ht hW => ⟨⟨0, (), rfl, .inr rfl, trivial⟩, hS.F ht⟩) hS.2.2 dX7_isStreet_26
        · have c_8 : ¬ (n2 ≤ 0) := fun h => c_8 ((nI_leI (a := n2) (b := 0) (by omega) (by omega)).mpr h)
          refine lv_iconst (v := 1) hx hb dX7_isStreet_21 (by decide) ?_
          refine lv_goto (tgt := 26) hx hb dX7_isStreet_22 (by decide) ?_
          exact W.zret (v := 1) (ty := .boolean) hx hb hr rfl (fun t ht hW => ⟨⟨1, (), rfl, .inl ⟨rfl, .inr (.inr ⟨rfl, by omega⟩)⟩, trivial⟩, hS.F ht⟩) hS.2.2 dX7_isStreet_26

theorem f_x_isDoor_rows : True := trivial
theorem dX7_isDoor_0 : decode cX7_isDoor 0 = .ok (.aload_n 0, 1) := by decide +kernel
theorem dX7_isDoor_1 : decode cX7_isDoor 1 = .ok (.iload_n 1, 1) := by decide +kernel
theorem dX7_isDoor_2 : decode cX7_isDoor 2 = .ok (.invokevirtual 108, 3) := by decide +kernel
theorem dX7_isDoor_5 : decode cX7_isDoor 5 = .ok (.ifCond .eq 24, 3) := by decide +kernel
theorem dX7_isDoor_8 : decode cX7_isDoor 8 = .ok (.iload_n 2, 1) := by decide +kernel
theorem dX7_isDoor_9 : decode cX7_isDoor 9 = .ok (.ifCond .lt 20, 3) := by decide +kernel
theorem dX7_isDoor_12 : decode cX7_isDoor 12 = .ok (.iload_n 2, 1) := by decide +kernel
theorem dX7_isDoor_13 : decode cX7_isDoor 13 = .ok (.aload_n 0, 1) := by decide +kernel
theorem dX7_isDoor_14 : decode cX7_isDoor 14 = .ok (.getfield 18, 3) := by decide +kernel
theorem dX7_isDoor_17 : decode cX7_isDoor 17 = .ok (.iload_n 1, 1) := by decide +kernel
theorem dX7_isDoor_18 : decode cX7_isDoor 18 = .ok (.aaload, 1) := by decide +kernel
theorem dX7_isDoor_19 : decode cX7_isDoor 19 = .ok (.invokevirtual 105, 3) := by decide +kernel
theorem dX7_isDoor_22 : decode cX7_isDoor 22 = .ok (.if_icmp .ge 7, 3) := by decide +kernel
theorem dX7_isDoor_25 : decode cX7_isDoor 25 = .ok (.iconst 1, 1) := by decide +kernel
theorem dX7_isDoor_26 : decode cX7_isDoor 26 = .ok (.goto 4, 3) := by decide +kernel
theorem dX7_isDoor_29 : decode cX7_isDoor 29 = .ok (.iconst 0, 1) := by decide +kernel
theorem dX7_isDoor_30 : decode cX7_isDoor 30 = .ok (.ireturn, 1) := by decide +kernel
theorem f_x_isRound_0_rows : True := trivial
theorem dX7_isRound_0 : decode cX7_isRound 0 = .ok (.iload_n 2, 1) := by decide +kernel
theorem dX7_isRound_1 : decode cX7_isRound 1 = .ok (.iconst 0, 1) := by decide +kernel
theorem dX7_isRound_2 : decode cX7_isRound 2 = .ok (.aload_n 0, 1) := by decide +kernel
theorem dX7_isRound_3 : decode cX7_isRound 3 = .ok (.getfield 18, 3) := by decide +kernel
theorem dX7_isRound_6 : decode cX7_isRound 6 = .ok (.iload_n 1, 1) := by decide +kernel
theorem dX7_isRound_7 : decode cX7_isRound 7 = .ok (.aaload, 1) := by decide +kernel
theorem dX7_isRound_8 : decode cX7_isRound 8 = .ok (.getfield 116, 3) := by decide +kernel
theorem dX7_isRound_11 : decode cX7_isRound 11 = .ok (.bipush 8, 2) := by decide +kernel
theorem dX7_isRound_13 : decode cX7_isRound 13 = .ok (.iaload, 1) := by decide +kernel
theorem dX7_isRound_14 : decode cX7_isRound 14 = .ok (.invokestatic 112, 3) := by decide +kernel
theorem dX7_isRound_17 : decode cX7_isRound 17 = .ok (.ireturn, 1) := by decide +kernel
theorem dX7_isSet_0 : decode cX7_isSet 0 = .ok (.iload_n 2, 1) := by decide +kernel
theorem dX7_isSet_1 : decode cX7_isSet 1 = .ok (.ifCond .lt 22, 3) := by decide +kernel
theorem dX7_isSet_4 : decode cX7_isSet 4 = .ok (.iload_n 2, 1) := by decide +kernel
theorem dX7_isSet_5 : decode cX7_isSet 5 = .ok (.iconst 1, 1) := by decide +kernel
theorem dX7_isSet_6 : decode cX7_isSet 6 = .ok (.aload_n 0, 1) := by decide +kernel
theorem dX7_isSet_7 : decode cX7_isSet 7 = .ok (.getfield 18, 3) := by decide +kernel
theorem dX7_isSet_10 : decode cX7_isSet 10 = .ok (.iload_n 1, 1) := by decide +kernel
theorem dX7_isSet_11 : decode cX7_isSet 11 = .ok (.aaload, 1) := by decide +kernel
theorem dX7_isSet_12 : decode cX7_isSet 12 = .ok (.invokevirtual 105, 3) := by decide +kernel
theorem dX7_isSet_15 : decode cX7_isSet 15 = .ok (.ishl, 1) := by decide +kernel
theorem dX7_isSet_16 : decode cX7_isSet 16 = .ok (.if_icmp .ge 7, 3) := by decide +kernel
theorem dX7_isSet_19 : decode cX7_isSet 19 = .ok (.iconst 1, 1) := by decide +kernel
theorem dX7_isSet_20 : decode cX7_isSet 20 = .ok (.goto 4, 3) := by decide +kernel
theorem dX7_isSet_23 : decode cX7_isSet 23 = .ok (.iconst 0, 1) := by decide +kernel
theorem dX7_isSet_24 : decode cX7_isSet 24 = .ok (.ireturn, 1) := by decide +kernel
set_option maxHeartbeats 4000000 in
set_option maxRecDepth 100000 in
theorem x_isSet_0 (l : Launch) (D : va_G) (k : Nat → ClassId) (st : Nat → Nat) (lo : Nat) (a : Nat → Nat) (rk : Nat) (lfa : Int32) (n0 : Nat) (see0 : Nat) (tm0 : Nat) (g0 : Nat → Int32) (p1 : Int32)  : CRi l D k st lo yX7_isSet cX7_isSet 3 (some .boolean) ({ frames := 1, cells := 0, slots := 0, locals := 20 }) [.ref (a 0), .int 0, .int p1] [((a 0), .inr (7, (fX7 (a 1) (a 3) (a 19) (a 35) (a 40) (nI rk) lfa (a 53) (a 56) (a 63) (a 64) (a 68)))), ((a 3), .inl (k 3, 3, .inr (.inr (.inr (.inr (a3 (a 4) (a 9) (a 14))))))), ((a 4), .inr (5, (fX5 (a 5) (a 6) (a 7) (a 8)))), (aI k (a 5) 10 (vv n0 see0 tm0 g0))] (fun r => r = 1 ∨ r = 0) := by
  intro sz
  refine Met.ofW (cc := cX7_isSet) (maxL := 3) (ret := (some .boolean)) (by decide) rfl ?_
  intro p e s m args below meth c s₁ B hml hv
  obtain ⟨rfl, hsz, hlo, hP, hK, hDL, hZ⟩ := hv
  have hx := B.exec
  have hb := B.bytes
  have hr := B.returns
  have hts := WS_ts B.pre
  have hown : s.vm.findClass RX7 = some m.cls := findClass_of_methodNamed B.named
  have hlocks := B.notSynchronized
  subst hsz
  have hA : ∀ q : Nat, s.heap.size ≤ q → (fun q : Nat => s.heap.size ≤ q) q := fun _ h => h
  have hAlo : ∀ q : Nat, (fun q : Nat => s.heap.size ≤ q) q → lo ≤ q := fun q h => Nat.le_trans hlo h
  have hS : va_S (fun q : Nat => s.heap.size ≤ q) s.heap s.heap [] := va_S.rf
  have hl := lv_entry ([.ref (a 0), .int 0, .int p1]) (n := 3) (Nat.le_of_ble_eq_true rfl)
  rw [lg_entry_eq]
  generalize (lg_sl ([.ref (a 0), .int 0, .int p1]) ++ List.replicate (3 - (lg_sl ([.ref (a 0), .int 0, .int p1])).length) Slot.unset).toArray = ls at hl ⊢
  have hl : lv_has ls 3 [(0, .ref (a 0)), (1, .int 0), (2, .int p1)] := hl
  refine lv_iload_n hx hb dX7_isSet_0 rfl (lv_at hl 2 rfl) ?_
  refine lv_if_lt (tgt := 23) hx hb dX7_isSet_1 (by decide) (fun c_1 => ?_) (fun c_1 => ?_)
  · refine lv_iconst (v := 0) hx hb dX7_isSet_23 (by decide) ?_
    exact W.zret (v := 0) (ty := .boolean) hx hb hr rfl (fun t ht hW => ⟨⟨0, (), rfl, .inr rfl, trivial⟩, hS.F ht⟩) hS.2.2 dX7_isSet_24
  · refine lv_iload_n hx hb dX7_isSet_4 rfl (lv_at hl 2 rfl) ?_
    refine lv_iconst (v := 1) hx hb dX7_isSet_5 (by decide) ?_
    refine lv_aload_n hx hb dX7_isSet_6 rfl (lv_at hl 0 rfl) ?_
    refine va_get (D := D) (ci := 7) (v := .ref (a 3)) (C := RX7) (T := TX7) (N := 12) hx hb hts inX7 hown hK hP 0 rfl rfl 1 (by decide) (hts _ tw_306) (fun _ h9 => h9) rfl dX7_isSet_7 ?_
    refine lv_iload_n hx hb dX7_isSet_10 rfl (lv_at hl 1 rfl) ?_
    refine va_aldq hx hb hK hP 1 3 rfl rfl (by unfold vp_in; decide) dX7_isSet_11 ?_
    refine lv_tr (y := .ref (a 4)) rfl ?_
    refine ro_i (D := D) (va_runV (As := []) (rest := [.int 1, .int p1]) ⟨hx, hb, hml, hown, hts⟩ ((x_doors l D k st lo (a 4) (a 5) (a 6) (a 7) (a 8) n0 see0 tm0 g0) s.heap.size) (cwV 0 hts (gV tw_580 tw_478 tw_479 tw_81 tw_480) rfl rfl rfl (by decide +kernel) ⟨Nat.le_of_ble_eq_true rfl, Nat.le_of_ble_eq_true rfl⟩) (pV hS hAlo hlo hP hK hDL hZ [2, 3] (by decide) rfl (ci := 5) (q := (RX5, TX5, 4)) (q0 := 0) rfl rfl) rfl rfl hl.1 rfl (lv_room (Nat.le_of_ble_eq_true rfl)) dX7_isSet_12 ⟨Nat.le_of_ble_eq_true rfl, Nat.le_of_ble_eq_true rfl⟩) hS hA hP (fun r_2 H locs hw_2 hP hS => ?_)
    try dsimp only at hw_2
    subst hw_2
    refine lv_ishl hx hb dX7_isSet_15 ?_
    refine lv_topi (fun x_3 ex_3 => ?_)
    refine lv_icmp_ge (tgt := 23) hx hb dX7_isSet_16 (by decide) (fun c_4 => ?_) (fun c_4 => ?_)
    · refine lv_iconst (v := 0) hx hb dX7_isSet_23 (by decide) ?_
      exact W.zret (v := 0) (ty := .boolean) hx hb hr rfl (fun t ht hW => ⟨⟨0, (), rfl, .inr rfl, trivial⟩, hS.F ht⟩) hS.2.2 dX7_isSet_24
    · refine lv_iconst (v := 1) hx hb dX7_isSet_19 (by decide) ?_
      refine lv_goto (tgt := 24) hx hb dX7_isSet_20 (by decide) ?_
      exact W.zret (v := 1) (ty := .boolean) hx hb hr rfl (fun t ht hW => ⟨⟨1, (), rfl, .inl rfl, trivial⟩, hS.F ht⟩) hS.2.2 dX7_isSet_24


set_option maxHeartbeats 4000000 in
set_option maxRecDepth 100000 in
theorem x_isSet_1 (l : Launch) (D : va_G) (k : Nat → ClassId) (st : Nat → Nat) (lo : Nat) (a : Nat → Nat) (rk : Nat) (lfa : Int32) (n1 : Nat) (see1 : Nat) (tm1 : Nat) (g1 : Nat → Int32) (p1 : Int32)  : CRi l D k st lo yX7_isSet cX7_isSet 3 (some .boolean) ({ frames := 1, cells := 0, slots := 0, locals := 20 }) [.ref (a 0), .int 1, .int p1] [((a 0), .inr (7, (fX7 (a 1) (a 3) (a 19) (a 35) (a 40) (nI rk) lfa (a 53) (a 56) (a 63) (a 64) (a 68)))), ((a 3), .inl (k 3, 3, .inr (.inr (.inr (.inr (a3 (a 4) (a 9) (a 14))))))), ((a 9), .inr (5, (fX5 (a 10) (a 11) (a 12) (a 13)))), (aI k (a 10) 10 (vv n1 see1 tm1 g1))] (fun r => r = 1 ∨ r = 0) := by
  intro sz
  refine Met.ofW (cc := cX7_isSet) (maxL := 3) (ret := (some .boolean)) (by decide) rfl ?_
  intro p e s m args below meth c s₁ B hml hv
  obtain ⟨rfl, hsz, hlo, hP, hK, hDL, hZ⟩ := hv
  have hx := B.exec
  have hb := B.bytes
  have hr := B.returns
  have hts := WS_ts B.pre
  have hown : s.vm.findClass RX7 = some m.cls := findClass_of_methodNamed B.named
  have hlocks := B.notSynchronized
  subst hsz
  have hA : ∀ q : Nat, s.heap.size ≤ q → (fun q : Nat => s.heap.size ≤ q) q := fun _ h => h
  have hAlo : ∀ q : Nat, (fun q : Nat => s.heap.size ≤ q) q → lo ≤ q := fun q h => Nat.le_trans hlo h
  have hS : va_S (fun q : Nat => s.heap.size ≤ q) s.heap s.heap [] := va_S.rf
  have hl := lv_entry ([.ref (a 0), .int 1, .int p1]) (n := 3) (Nat.le_of_ble_eq_true rfl)
  rw [lg_entry_eq]
  generalize (lg_sl ([.ref (a 0), .int 1, .int p1]) ++ List.replicate (3 - (lg_sl ([.ref (a 0), .int 1, .int p1])).length) Slot.unset).toArray = ls at hl ⊢
  have hl : lv_has ls 3 [(0, .ref (a 0)), (1, .int 1), (2, .int p1)] := hl
  refine lv_iload_n hx hb dX7_isSet_0 rfl (lv_at hl 2 rfl) ?_
  refine lv_if_lt (tgt := 23) hx hb dX7_isSet_1 (by decide) (fun c_1 => ?_) (fun c_1 => ?_)
  · refine lv_iconst (v := 0) hx hb dX7_isSet_23 (by decide) ?_
    exact W.zret (v := 0) (ty := .boolean) hx hb hr rfl (fun t ht hW => ⟨⟨0, (), rfl, .inr rfl, trivial⟩, hS.F ht⟩) hS.2.2 dX7_isSet_24
  · refine lv_iload_n hx hb dX7_isSet_4 rfl (lv_at hl 2 rfl) ?_
    refine lv_iconst (v := 1) hx hb dX7_isSet_5 (by decide) ?_
    refine lv_aload_n hx hb dX7_isSet_6 rfl (lv_at hl 0 rfl) ?_
    refine va_get (D := D) (ci := 7) (v := .ref (a 3)) (C := RX7) (T := TX7) (N := 12) hx hb hts inX7 hown hK hP 0 rfl rfl 1 (by decide) (hts _ tw_306) (fun _ h9 => h9) rfl dX7_isSet_7 ?_
    refine lv_iload_n hx hb dX7_isSet_10 rfl (lv_at hl 1 rfl) ?_
    refine va_aldq hx hb hK hP 1 3 rfl rfl (by unfold vp_in; decide) dX7_isSet_11 ?_
    refine lv_tr (y := .ref (a 9)) rfl ?_
    refine ro_i (D := D) (va_runV (As := []) (rest := [.int 1, .int p1]) ⟨hx, hb, hml, hown, hts⟩ ((x_doors l D k st lo (a 9) (a 10) (a 11) (a 12) (a 13) n1 see1 tm1 g1) s.heap.size) (cwV 0 hts (gV tw_580 tw_478 tw_479 tw_81 tw_480) rfl rfl rfl (by decide +kernel) ⟨Nat.le_of_ble_eq_true rfl, Nat.le_of_ble_eq_true rfl⟩) (pV hS hAlo hlo hP hK hDL hZ [2, 3] (by decide) rfl (ci := 5) (q := (RX5, TX5, 4)) (q0 := 0) rfl rfl) rfl rfl hl.1 rfl (lv_room (Nat.le_of_ble_eq_true rfl)) dX7_isSet_12 ⟨Nat.le_of_ble_eq_true rfl, Nat.le_of_ble_eq_true rfl⟩) hS hA hP (fun r_2 H locs hw_2 hP hS => ?_)
    try dsimp only at hw_2
    subst hw_2
    refine lv_ishl hx hb dX7_isSet_15 ?_
    refine lv_topi (fun x_3 ex_3 => ?_)
    refine lv_icmp_ge (tgt := 23) hx hb dX7_isSet_16 (by decide) (fun c_4 => ?_) (fun c_4 => ?_)
    · refine lv_iconst (v := 0) hx hb dX7_isSet_23 (by decide) ?_
      exact W.zret (v := 0) (ty := .boolean) hx hb hr rfl (fun t ht hW => ⟨⟨0, (), rfl, .inr rfl, trivial⟩, hS.F ht⟩) hS.2.2 dX7_isSet_24
    · refine lv_iconst (v := 1) hx hb dX7_isSet_19 (by decide) ?_
      refine lv_goto (tgt := 24) hx hb dX7_isSet_20 (by decide) ?_
      exact W.zret (v := 1) (ty := .boolean) hx hb hr rfl (fun t ht hW => ⟨⟨1, (), rfl, .inl rfl, trivial⟩, hS.F ht⟩) hS.2.2 dX7_isSet_24


set_option maxHeartbeats 4000000 in
set_option maxRecDepth 100000 in
theorem x_isSet_2 (l : Launch) (D : va_G) (k : Nat → ClassId) (st : Nat → Nat) (lo : Nat) (a : Nat → Nat) (rk : Nat) (lfa : Int32) (n2 : Nat) (see2 : Nat) (tm2 : Nat) (g2 : Nat → Int32) (p1 : Int32)  : CRi l D k st lo yX7_isSet cX7_isSet 3 (some .boolean) ({ frames := 1, cells := 0, slots := 0, locals := 20 }) [.ref (a 0), .int 2, .int p1] [((a 0), .inr (7, (fX7 (a 1) (a 3) (a 19) (a 35) (a 40) (nI rk) lfa (a 53) (a 56) (a 63) (a 64) (a 68)))), ((a 3), .inl (k 3, 3, .inr (.inr (.inr (.inr (a3 (a 4) (a 9) (a 14))))))), ((a 14), .inr (5, (fX5 (a 15) (a 16) (a 17) (a 18)))), (aI k (a 15) 10 (vv n2 see2 tm2 g2))] (fun r => r = 1 ∨ r = 0) := by
  intro sz
  refine Met.ofW (cc := cX7_isSet) (maxL := 3) (ret := (some .boolean)) (by decide) rfl ?_
  intro p e s m args below meth c s₁ B hml hv
  obtain ⟨rfl, hsz, hlo, hP, hK, hDL, hZ⟩ := hv
  have hx := B.exec
  have hb := B.bytes
  have hr := B.returns
  have hts := WS_ts B.pre
  have hown : s.vm.findClass RX7 = some m.cls := findClass_of_methodNamed B.named
  have hlocks := B.notSynchronized
  subst hsz
  have hA : ∀ q : Nat, s.heap.size ≤ q → (fun q : Nat => s.heap.size ≤ q) q := fun _ h => h
  have hAlo : ∀ q : Nat, (fun q : Nat => s.heap.size ≤ q) q → lo ≤ q := fun q h => Nat.le_trans hlo h
  have hS : va_S (fun q : Nat => s.heap.size ≤ q) s.heap s.heap [] := va_S.rf
  have hl := lv_entry ([.ref (a 0), .int 2, .int p1]) (n := 3) (Nat.le_of_ble_eq_true rfl)
  rw [lg_entry_eq]
  generalize (lg_sl ([.ref (a 0), .int 2, .int p1]) ++ List.replicate (3 - (lg_sl ([.ref (a 0), .int 2, .int p1])).length) Slot.unset).toArray = ls at hl ⊢
  have hl : lv_has ls 3 [(0, .ref (a 0)), (1, .int 2), (2, .int p1)] := hl
  refine lv_iload_n hx hb dX7_isSet_0 rfl (lv_at hl 2 rfl) ?_
  refine lv_if_lt (tgt := 23) hx hb dX7_isSet_1 (by decide) (fun c_1 => ?_) (fun c_1 => ?_)
  · refine lv_iconst (v := 0) hx hb dX7_isSet_23 (by decide) ?_
    exact W.zret (v := 0) (ty := .boolean) hx hb hr rfl (fun t ht hW => ⟨⟨0, (), rfl, .inr rfl, trivial⟩, hS.F ht⟩) hS.2.2 dX7_isSet_24
  · refine lv_iload_n hx hb dX7_isSet_4 rfl (lv_at hl 2 rfl) ?_
    refine lv_iconst (v := 1) hx hb dX7_isSet_5 (by decide) ?_
    refine lv_aload_n hx hb dX7_isSet_6 rfl (lv_at hl 0 rfl) ?_
    refine va_get (D := D) (ci := 7) (v := .ref (a 3)) (C := RX7) (T := TX7) (N := 12) hx hb hts inX7 hown hK hP 0 rfl rfl 1 (by decide) (hts _ tw_306) (fun _ h9 => h9) rfl dX7_isSet_7 ?_
    refine lv_iload_n hx hb dX7_isSet_10 rfl (lv_at hl 1 rfl) ?_
    refine va_aldq hx hb hK hP 1 3 rfl rfl (by unfold vp_in; decide) dX7_isSet_11 ?_
    refine lv_tr (y := .ref (a 14)) rfl ?_
    refine ro_i (D := D) (va_runV (As := []) (rest := [.int 1, .int p1]) ⟨hx, hb, hml, hown, hts⟩ ((x_doors l D k st lo (a 14) (a 15) (a 16) (a 17) (a 18) n2 see2 tm2 g2) s.heap.size) (cwV 0 hts (gV tw_580 tw_478 tw_479 tw_81 tw_480) rfl rfl rfl (by decide +kernel) ⟨Nat.le_of_ble_eq_true rfl, Nat.le_of_ble_eq_true rfl⟩) (pV hS hAlo hlo hP hK hDL hZ [2, 3] (by decide) rfl (ci := 5) (q := (RX5, TX5, 4)) (q0 := 0) rfl rfl) rfl rfl hl.1 rfl (lv_room (Nat.le_of_ble_eq_true rfl)) dX7_isSet_12 ⟨Nat.le_of_ble_eq_true rfl, Nat.le_of_ble_eq_true rfl⟩) hS hA hP (fun r_2 H locs hw_2 hP hS => ?_)
    try dsimp only at hw_2
    subst hw_2
    refine lv_ishl hx hb dX7_isSet_15 ?_
    refine lv_topi (fun x_3 ex_3 => ?_)
    refine lv_icmp_ge (tgt := 23) hx hb dX7_isSet_16 (by decide) (fun c_4 => ?_) (fun c_4 => ?_)
    · refine lv_iconst (v := 0) hx hb dX7_isSet_23 (by decide) ?_
      exact W.zret (v := 0) (ty := .boolean) hx hb hr rfl (fun t ht hW => ⟨⟨0, (), rfl, .inr rfl, trivial⟩, hS.F ht⟩) hS.2.2 dX7_isSet_24
    · refine lv_iconst (v := 1) hx hb dX7_isSet_19 (by decide) ?_
      refine lv_goto (tgt := 24) hx hb dX7_isSet_20 (by decide) ?_
      exact W.zret (v := 1) (ty := .boolean) hx hb hr rfl (fun t ht hW => ⟨⟨1, (), rfl, .inl rfl, trivial⟩, hS.F ht⟩) hS.2.2 dX7_isSet_24

theorem f_x_isRule_rows : True := trivial
theorem dX7_isRule_0 : decode cX7_isRule 0 = .ok (.iload_n 1, 1) := by decide +kernel
theorem dX7_isRule_1 : decode cX7_isRule 1 = .ok (.ifCond .lt 15, 3) := by decide +kernel
theorem dX7_isRule_4 : decode cX7_isRule 4 = .ok (.iload_n 1, 1) := by decide +kernel
theorem dX7_isRule_5 : decode cX7_isRule 5 = .ok (.aload_n 0, 1) := by decide +kernel
theorem dX7_isRule_6 : decode cX7_isRule 6 = .ok (.getfield 39, 3) := by decide +kernel
theorem dX7_isRule_9 : decode cX7_isRule 9 = .ok (.if_icmp .ge 7, 3) := by decide +kernel
theorem dX7_isRule_12 : decode cX7_isRule 12 = .ok (.iconst 1, 1) := by decide +kernel
theorem dX7_isRule_13 : decode cX7_isRule 13 = .ok (.goto 4, 3) := by decide +kernel
theorem dX7_isRule_16 : decode cX7_isRule 16 = .ok (.iconst 0, 1) := by decide +kernel
theorem dX7_isRule_17 : decode cX7_isRule 17 = .ok (.ireturn, 1) := by decide +kernel
theorem dX7_isCar_0 : decode cX7_isCar 0 = .ok (.iload_n 1, 1) := by decide +kernel
theorem dX7_isCar_1 : decode cX7_isCar 1 = .ok (.ifCond .lt 18, 3) := by decide +kernel
theorem dX7_isCar_4 : decode cX7_isCar 4 = .ok (.iload_n 1, 1) := by decide +kernel
theorem dX7_isCar_5 : decode cX7_isCar 5 = .ok (.aload_n 0, 1) := by decide +kernel
theorem dX7_isCar_6 : decode cX7_isCar 6 = .ok (.getfield 49, 3) := by decide +kernel
theorem dX7_isCar_9 : decode cX7_isCar 9 = .ok (.getfield 214, 3) := by decide +kernel
theorem dX7_isCar_12 : decode cX7_isCar 12 = .ok (.if_icmp .ge 7, 3) := by decide +kernel
theorem dX7_isCar_15 : decode cX7_isCar 15 = .ok (.iconst 1, 1) := by decide +kernel
theorem dX7_isCar_16 : decode cX7_isCar 16 = .ok (.goto 4, 3) := by decide +kernel
theorem dX7_isCar_19 : decode cX7_isCar 19 = .ok (.iconst 0, 1) := by decide +kernel
theorem dX7_isCar_20 : decode cX7_isCar 20 = .ok (.ireturn, 1) := by decide +kernel
set_option maxHeartbeats 4000000 in
set_option maxRecDepth 100000 in
theorem x_isCar (l : Launch) (D : va_G) (k : Nat → ClassId) (st : Nat → Nat) (lo : Nat) (a : Nat → Nat) (rk : Nat) (lfa : Int32) (cc : Nat) (rz : Nat) (ro : Int32) (sd : Int32) (pz : Int32) (hcc : cc ≤ 4) : CRi l D k st lo yX7_isCar cX7_isCar 2 (some .boolean) ({ frames := 0, cells := 0, slots := 0, locals := 0 }) [.ref (a 0), .int pz] [((a 0), .inr (7, (fX7 (a 1) (a 3) (a 19) (a 35) (a 40) (nI rk) lfa (a 53) (a 56) (a 63) (a 64) (a 68)))), ((a 53), .inr (4, (fX4 (a 54) (a 55) (nI cc) (nI rz) ro sd)))] (fun r => (r = 1 ∧ ∃ j : Nat, j < cc ∧ pz = nI j) ∨ r = 0) := by
  intro sz
  refine Met.ofW (cc := cX7_isCar) (maxL := 2) (ret := (some .boolean)) (by decide) rfl ?_
  intro p e s m args below meth c s₁ B hml hv
  obtain ⟨rfl, hsz, hlo, hP, hK, hDL, hZ⟩ := hv
  have hx := B.exec
  have hb := B.bytes
  have hr := B.returns
  have hts := WS_ts B.pre
  have hown : s.vm.findClass RX7 = some m.cls := findClass_of_methodNamed B.named
  have hlocks := B.notSynchronized
  subst hsz
  have hA : ∀ q : Nat, s.heap.size ≤ q → (fun q : Nat => s.heap.size ≤ q) q := fun _ h => h
  have hAlo : ∀ q : Nat, (fun q : Nat => s.heap.size ≤ q) q → lo ≤ q := fun q h => Nat.le_trans hlo h
  have hS : va_S (fun q : Nat => s.heap.size ≤ q) s.heap s.heap [] := va_S.rf
  have hl := lv_entry ([.ref (a 0), .int pz]) (n := 2) (Nat.le_of_ble_eq_true rfl)
  rw [lg_entry_eq]
  generalize (lg_sl ([.ref (a 0), .int pz]) ++ List.replicate (2 - (lg_sl ([.ref (a 0), .int pz])).length) Slot.unset).toArray = ls at hl ⊢
  have hl : lv_has ls 2 [(0, .ref (a 0)), (1, .int pz)] := hl
  refine lv_iload_n hx hb dX7_isCar_0 rfl (lv_at hl 1 rfl) ?_
  refine lv_if_lt (tgt := 19) hx hb dX7_isCar_1 (by decide) (fun c_1 => ?_) (fun c_1 => ?_)
  · refine lv_iconst (v := 0) hx hb dX7_isCar_19 (by decide) ?_
    exact W.zret (v := 0) (ty := .boolean) hx hb hr rfl (fun t ht hW => ⟨⟨0, (), rfl, .inr rfl, trivial⟩, hS.F ht⟩) hS.2.2 dX7_isCar_20
  · obtain ⟨i_9, hi_9, rfl⟩ := nI_of c_1
    refine lv_iload_n hx hb dX7_isCar_4 rfl (lv_at hl 1 rfl) ?_
    refine lv_aload_n hx hb dX7_isCar_5 rfl (lv_at hl 0 rfl) ?_
    refine va_get (D := D) (ci := 7) (v := .ref (a 53)) (C := RX7) (T := TX7) (N := 12) hx hb hts inX7 hown hK hP 0 rfl rfl 7 (by decide) (hts _ tw_312) (fun _ h9 => h9) rfl dX7_isCar_6 ?_
    refine va_get (D := D) (ci := 4) (v := .int (nI cc)) (C := RX4) (T := TX4) (N := 6) hx hb hts inX4 hown hK hP 1 rfl rfl 2 (by decide) (hts _ tw_180) (fun _ h9 => h9) rfl dX7_isCar_9 ?_
    refine lv_icmp_ge (tgt := 19) hx hb dX7_isCar_12 (by decide) (fun c_2 => ?_) (fun c_2 => ?_)
    · have c_2 := (nI_leI (a := cc) (b := i_9) (by omega) (by omega)).mp c_2
      refine lv_iconst (v := 0) hx hb dX7_isCar_19 (by decide) ?_
      exact W.zret (v := 0) (ty := .boolean) hx hb hr rfl (fun t ht hW => ⟨⟨0, (), rfl, .inr rfl, trivial⟩, hS.F ht⟩) hS.2.2 dX7_isCar_20
    · have c_2 : ¬ (cc ≤ i_9) := fun h => c_2 ((nI_leI (a := cc) (b := i_9) (by omega) (by omega)).mpr h)
      refine lv_iconst (v := 1) hx hb dX7_isCar_15 (by decide) ?_
      refine lv_goto (tgt := 20) hx hb dX7_isCar_16 (by decide) ?_
      exact W.zret (v := 1) (ty := .boolean) hx hb hr rfl (fun t ht hW => ⟨⟨1, (), rfl, .inl ⟨rfl, i_9, by omega, rfl⟩, trivial⟩, hS.F ht⟩) hS.2.2 dX7_isCar_20

theorem f_x_refuseSight_rows : True := trivial
theorem dX7_refuseSight_0 : decode cX7_refuseSight 0 = .ok (.aload_n 0, 1) := by decide +kernel
theorem dX7_refuseSight_1 : decode cX7_refuseSight 1 = .ok (.iload_n 1, 1) := by decide +kernel
theorem dX7_refuseSight_2 : decode cX7_refuseSight 2 = .ok (.iload_n 3, 1) := by decide +kernel
theorem dX7_refuseSight_3 : decode cX7_refuseSight 3 = .ok (.invokevirtual 120, 3) := by decide +kernel
theorem dX7_refuseSight_6 : decode cX7_refuseSight 6 = .ok (.ifCond .ne 7, 3) := by decide +kernel
theorem dX7_refuseSight_9 : decode cX7_refuseSight 9 = .ok (.sipush (-1001), 3) := by decide +kernel
theorem dX7_refuseSight_12 : decode cX7_refuseSight 12 = .ok (.ireturn, 1) := by decide +kernel
theorem dX7_refuseSight_13 : decode cX7_refuseSight 13 = .ok (.aload_n 0, 1) := by decide +kernel
theorem dX7_refuseSight_14 : decode cX7_refuseSight 14 = .ok (.iload_n 1, 1) := by decide +kernel
theorem dX7_refuseSight_15 : decode cX7_refuseSight 15 = .ok (.iload_n 2, 1) := by decide +kernel
theorem dX7_refuseSight_16 : decode cX7_refuseSight 16 = .ok (.invokevirtual 134, 3) := by decide +kernel
theorem dX7_refuseSight_19 : decode cX7_refuseSight 19 = .ok (.ifCond .eq 27, 3) := by decide +kernel
theorem dX7_refuseSight_22 : decode cX7_refuseSight 22 = .ok (.iload 4, 2) := by decide +kernel
theorem dX7_refuseSight_24 : decode cX7_refuseSight 24 = .ok (.ifCond .lt 22, 3) := by decide +kernel
theorem dX7_refuseSight_27 : decode cX7_refuseSight 27 = .ok (.iload 4, 2) := by decide +kernel
theorem dX7_refuseSight_29 : decode cX7_refuseSight 29 = .ok (.aload_n 0, 1) := by decide +kernel
theorem dX7_refuseSight_30 : decode cX7_refuseSight 30 = .ok (.getfield 18, 3) := by decide +kernel
theorem dX7_refuseSight_33 : decode cX7_refuseSight 33 = .ok (.iload_n 1, 1) := by decide +kernel
theorem dX7_refuseSight_34 : decode cX7_refuseSight 34 = .ok (.aaload, 1) := by decide +kernel
theorem dX7_refuseSight_35 : decode cX7_refuseSight 35 = .ok (.iload_n 3, 1) := by decide +kernel
theorem dX7_refuseSight_36 : decode cX7_refuseSight 36 = .ok (.invokevirtual 283, 3) := by decide +kernel
theorem dX7_refuseSight_39 : decode cX7_refuseSight 39 = .ok (.if_icmp .ge 7, 3) := by decide +kernel
theorem dX7_refuseSight_42 : decode cX7_refuseSight 42 = .ok (.iconst 1, 1) := by decide +kernel
theorem dX7_refuseSight_43 : decode cX7_refuseSight 43 = .ok (.goto 4, 3) := by decide +kernel
theorem dX7_refuseSight_46 : decode cX7_refuseSight 46 = .ok (.iconst 0, 1) := by decide +kernel
theorem dX7_refuseSight_47 : decode cX7_refuseSight 47 = .ok (.istore 5, 2) := by decide +kernel
theorem dX7_refuseSight_49 : decode cX7_refuseSight 49 = .ok (.iload 5, 2) := by decide +kernel
theorem dX7_refuseSight_51 : decode cX7_refuseSight 51 = .ok (.ifCond .eq 7, 3) := by decide +kernel
theorem dX7_refuseSight_54 : decode cX7_refuseSight 54 = .ok (.iconst 0, 1) := by decide +kernel
theorem dX7_refuseSight_55 : decode cX7_refuseSight 55 = .ok (.goto 6, 3) := by decide +kernel
theorem dX7_refuseSight_58 : decode cX7_refuseSight 58 = .ok (.sipush (-1002), 3) := by decide +kernel
theorem dX7_refuseSight_61 : decode cX7_refuseSight 61 = .ok (.ireturn, 1) := by decide +kernel
theorem dX7_refuseSet_0 : decode cX7_refuseSet 0 = .ok (.aload_n 0, 1) := by decide +kernel
theorem dX7_refuseSet_1 : decode cX7_refuseSet 1 = .ok (.iload_n 1, 1) := by decide +kernel
theorem dX7_refuseSet_2 : decode cX7_refuseSet 2 = .ok (.invokevirtual 108, 3) := by decide +kernel
theorem dX7_refuseSet_5 : decode cX7_refuseSet 5 = .ok (.ifCond .ne 7, 3) := by decide +kernel
theorem dX7_refuseSet_8 : decode cX7_refuseSet 8 = .ok (.sipush (-1001), 3) := by decide +kernel
theorem dX7_refuseSet_11 : decode cX7_refuseSet 11 = .ok (.ireturn, 1) := by decide +kernel
theorem dX7_refuseSet_12 : decode cX7_refuseSet 12 = .ok (.aload_n 0, 1) := by decide +kernel
theorem dX7_refuseSet_13 : decode cX7_refuseSet 13 = .ok (.iload_n 1, 1) := by decide +kernel
theorem dX7_refuseSet_14 : decode cX7_refuseSet 14 = .ok (.iload_n 2, 1) := by decide +kernel
theorem dX7_refuseSet_15 : decode cX7_refuseSet 15 = .ok (.invokevirtual 226, 3) := by decide +kernel
theorem dX7_refuseSet_18 : decode cX7_refuseSet 18 = .ok (.ifCond .eq 7, 3) := by decide +kernel
theorem dX7_refuseSet_21 : decode cX7_refuseSet 21 = .ok (.iconst 0, 1) := by decide +kernel
theorem dX7_refuseSet_22 : decode cX7_refuseSet 22 = .ok (.goto 6, 3) := by decide +kernel
theorem dX7_refuseSet_25 : decode cX7_refuseSet 25 = .ok (.sipush (-1002), 3) := by decide +kernel
theorem dX7_refuseSet_28 : decode cX7_refuseSet 28 = .ok (.ireturn, 1) := by decide +kernel
set_option maxHeartbeats 4000000 in
set_option maxRecDepth 100000 in
theorem x_refuseSet (l : Launch) (D : va_G) (k : Nat → ClassId) (st : Nat → Nat) (lo : Nat) (a : Nat → Nat) (rk : Nat) (lfa : Int32) (n0 : Nat) (see0 : Nat) (tm0 : Nat) (g0 : Nat → Int32) (n1 : Nat) (see1 : Nat) (tm1 : Nat) (g1 : Nat → Int32) (n2 : Nat) (see2 : Nat) (tm2 : Nat) (g2 : Nat → Int32) (pz : Int32) (p1 : Int32) (hn0 : n0 ≤ 24) (hn1 : n1 ≤ 24) (hn2 : n2 ≤ 24) : CRi l D k st lo yX7_refuseSet cX7_refuseSet 3 (some .int) ({ frames := 2, cells := 0, slots := 0, locals := 42 }) [.ref (a 0), .int pz, .int p1] [((a 0), .inr (7, (fX7 (a 1) (a 3) (a 19) (a 35) (a 40) (nI rk) lfa (a 53) (a 56) (a 63) (a 64) (a 68)))), ((a 3), .inl (k 3, 3, .inr (.inr (.inr (.inr (a3 (a 4) (a 9) (a 14))))))), ((a 4), .inr (5, (fX5 (a 5) (a 6) (a 7) (a 8)))), (aI k (a 5) 10 (vv n0 see0 tm0 g0)), ((a 9), .inr (5, (fX5 (a 10) (a 11) (a 12) (a 13)))), (aI k (a 10) 10 (vv n1 see1 tm1 g1)), ((a 14), .inr (5, (fX5 (a 15) (a 16) (a 17) (a 18)))), (aI k (a 15) 10 (vv n2 see2 tm2 g2))] (fun r => (r = 0 ∧ (pz = 0 ∨ pz = 1 ∨ pz = 2)) ∨ r = -1001 ∨ r = -1002) := by
  intro sz
  refine Met.ofW (cc := cX7_refuseSet) (maxL := 3) (ret := (some .int)) (by decide) rfl ?_
  intro p e s m args below meth c s₁ B hml hv
  obtain ⟨rfl, hsz, hlo, hP, hK, hDL, hZ⟩ := hv
  have hx := B.exec
  have hb := B.bytes
  have hr := B.returns
  have hts := WS_ts B.pre
  have hown : s.vm.findClass RX7 = some m.cls := findClass_of_methodNamed B.named
  have hlocks := B.notSynchronized
  subst hsz
  have hA : ∀ q : Nat, s.heap.size ≤ q → (fun q : Nat => s.heap.size ≤ q) q := fun _ h => h
  have hAlo : ∀ q : Nat, (fun q : Nat => s.heap.size ≤ q) q → lo ≤ q := fun q h => Nat.le_trans hlo h
  have hS : va_S (fun q : Nat => s.heap.size ≤ q) s.heap s.heap [] := va_S.rf
  have hl := lv_entry ([.ref (a 0), .int pz, .int p1]) (n := 3) (Nat.le_of_ble_eq_true rfl)
  rw [lg_entry_eq]
  generalize (lg_sl ([.ref (a 0), .int pz, .int p1]) ++ List.replicate (3 - (lg_sl ([.ref (a 0), .int pz, .int p1])).length) Slot.unset).toArray = ls at hl ⊢
  have hl : lv_has ls 3 [(0, .ref (a 0)), (1, .int pz), (2, .int p1)] := hl
  refine lv_aload_n hx hb dX7_refuseSet_0 rfl (lv_at hl 0 rfl) ?_
  refine lv_iload_n hx hb dX7_refuseSet_1 rfl (lv_at hl 1 rfl) ?_
  refine ro_i (D := D) (va_runV (As := [.int pz]) (rest := []) ⟨hx, hb, hml, hown, hts⟩ ((x_isStreet l D k st lo a rk lfa n0 see0 tm0 g0 n1 see1 tm1 g1 n2 see2 tm2 g2 pz (by first | assumption | omega) (by first | assumption | omega) (by first | assumption | omega)) s.heap.size) (cwV 1 hts (gV tw_589 tw_591 tw_8 tw_79 tw_592) rfl rfl rfl (by decide +kernel) ⟨Nat.le_of_ble_eq_true rfl, Nat.le_of_ble_eq_true rfl⟩) (pV hS hAlo hlo hP hK hDL hZ [0, 1, 2, 3, 4, 5, 6, 7] (by decide) rfl (ci := 7) (q := (RX7, TX7, 12)) (q0 := 0) rfl rfl) rfl rfl hl.1 rfl (lv_room (Nat.le_of_ble_eq_true rfl)) dX7_refuseSet_2 ⟨Nat.le_of_ble_eq_true rfl, Nat.le_of_ble_eq_true rfl⟩) hS hA hP (fun r_1 H locs hw_1 hP hS => ?_)
  try dsimp only at hw_1
  rcases hw_1 with ⟨rfl, ⟨rfl, hw_1⟩ | ⟨rfl, hw_1⟩ | ⟨rfl, hw_1⟩⟩ | rfl
  · refine lv_if_ne (tgt := 12) hx hb dX7_refuseSet_5 (by decide) (fun _ => ?_) (fun h => absurd h (by decide))
    refine lv_aload_n hx hb dX7_refuseSet_12 rfl (lv_at hl 0 rfl) ?_
    refine lv_iload_n hx hb dX7_refuseSet_13 rfl (lv_at hl 1 rfl) ?_
    refine lv_iload_n hx hb dX7_refuseSet_14 rfl (lv_at hl 2 rfl) ?_
    refine ro_i (D := D) (va_runV (As := [.int 0, .int p1]) (rest := []) ⟨hx, hb, hml, hown, hts⟩ ((x_isSet_0 l D k st lo a rk lfa n0 see0 tm0 g0 p1) H.size) (cwV 2 hts (gV tw_817 tw_819 tw_18 tw_79 tw_820) rfl rfl rfl (by decide +kernel) ⟨Nat.le_of_ble_eq_true rfl, Nat.le_of_ble_eq_true rfl⟩) (pV hS hAlo hlo hP hK hDL hZ [0, 1, 2, 3] (by decide) rfl (ci := 7) (q := (RX7, TX7, 12)) (q0 := 0) rfl rfl) rfl rfl hl.1 rfl (lv_room (Nat.le_of_ble_eq_true rfl)) dX7_refuseSet_15 ⟨Nat.le_of_ble_eq_true rfl, Nat.le_of_ble_eq_true rfl⟩) hS hA hP (fun r_2 H locs hw_2 hP hS => ?_)
    try dsimp only at hw_2
    rcases hw_2 with rfl | rfl
    · refine lv_if_eq (tgt := 25) hx hb dX7_refuseSet_18 (by decide) (fun h => absurd h (by decide)) (fun _ => ?_)
      refine lv_iconst (v := 0) hx hb dX7_refuseSet_21 (by decide) ?_
      refine lv_goto (tgt := 28) hx hb dX7_refuseSet_22 (by decide) ?_
      exact W.iret (v := 0) hx hb hr (fun t ht hW => ⟨⟨0, (), rfl, .inl ⟨rfl, .inl rfl⟩, trivial⟩, hS.F ht⟩) hS.2.2 dX7_refuseSet_28
    · refine lv_if_eq (tgt := 25) hx hb dX7_refuseSet_18 (by decide) (fun _ => ?_) (fun h => absurd (by decide) h)
      refine lv_sipush (v := (-1002)) hx hb dX7_refuseSet_25 (by decide) ?_
      exact W.iret (v := (-1002)) hx hb hr (fun t ht hW => ⟨⟨(-1002), (), rfl, .inr (.inr rfl), trivial⟩, hS.F ht⟩) hS.2.2 dX7_refuseSet_28
  · refine lv_if_ne (tgt := 12) hx hb dX7_refuseSet_5 (by decide) (fun _ => ?_) (fun h => absurd h (by decide))
    refine lv_aload_n hx hb dX7_refuseSet_12 rfl (lv_at hl 0 rfl) ?_
    refine lv_iload_n hx hb dX7_refuseSet_13 rfl (lv_at hl 1 rfl) ?_
    refine lv_iload_n hx hb dX7_refuseSet_14 rfl (lv_at hl 2 rfl) ?_
    refine ro_i (D := D) (va_runV (As := [.int 1, .int p1]) (rest := []) ⟨hx, hb, hml, hown, hts⟩ ((x_isSet_1 l D k st lo a rk lfa n1 see1 tm1 g1 p1) H.size) (cwV 2 hts (gV tw_817 tw_819 tw_18 tw_79 tw_820) rfl rfl rfl (by decide +kernel) ⟨Nat.le_of_ble_eq_true rfl, Nat.le_of_ble_eq_true rfl⟩) (pV hS hAlo hlo hP hK hDL hZ [0, 1, 4, 5] (by decide) rfl (ci := 7) (q := (RX7, TX7, 12)) (q0 := 0) rfl rfl) rfl rfl hl.1 rfl (lv_room (Nat.le_of_ble_eq_true rfl)) dX7_refuseSet_15 ⟨Nat.le_of_ble_eq_true rfl, Nat.le_of_ble_eq_true rfl⟩) hS hA hP (fun r_3 H locs hw_3 hP hS => ?_)
    try dsimp only at hw_3
    rcases hw_3 with rfl | rfl
    · refine lv_if_eq (tgt := 25) hx hb dX7_refuseSet_18 (by decide) (fun h => absurd h (by decide)) (fun _ => ?_)
      refine lv_iconst (v := 0) hx hb dX7_refuseSet_21 (by decide) ?_
      refine lv_goto (tgt := 28) hx hb dX7_refuseSet_22 (by decide) ?_
      exact W.iret (v := 0) hx hb hr (fun t ht hW => ⟨⟨0, (), rfl, .inl ⟨rfl, .inr (.inl rfl)⟩, trivial⟩, hS.F ht⟩) hS.2.2 dX7_refuseSet_28
    · refine lv_if_eq (tgt := 25) hx hb dX7_refuseSet_18 (by decide) (fun _ => ?_) (fun h => absurd (by decide) h)
      refine lv_sipush (v := (-1002)) hx hb dX7_refuseSet_25 (by decide) ?_
      exact W.iret (v := (-1002)) hx hb hr (fun t ht hW => ⟨⟨(-1002), (), rfl, .inr (.inr rfl), trivial⟩, hS.F ht⟩) hS.2.2 dX7_refuseSet_28
  · refine lv_if_ne (tgt := 12) hx hb dX7_refuseSet_5 (by decide) (fun _ => ?_) (fun h => absurd h (by decide))
    refine lv_aload_n hx hb dX7_refuseSet_12 rfl (lv_at hl 0 rfl) ?_
    refine lv_iload_n hx hb dX7_refuseSet_13 rfl (lv_at hl 1 rfl) ?_
    refine lv_iload_n hx hb dX7_refuseSet_14 rfl (lv_at hl 2 rfl) ?_
    refine ro_i (D := D) (va_runV (As := [.int 2, .int p1]) (rest := []) ⟨hx, hb, hml, hown, hts⟩ ((x_isSet_2 l D k st lo a rk lfa n2 see2 tm2 g2 p1) H.size) (cwV 2 hts (gV tw_817 tw_819 tw_18 tw_79 tw_820) rfl rfl rfl (by decide +kernel) ⟨Nat.le_of_ble_eq_true rfl, Nat.le_of_ble_eq_true rfl⟩) (pV hS hAlo hlo hP hK hDL hZ [0, 1, 6, 7] (by decide) rfl (ci := 7) (q := (RX7, TX7, 12)) (q0 := 0) rfl rfl) rfl rfl hl.1 rfl (lv_room (Nat.le_of_ble_eq_true rfl)) dX7_refuseSet_15 ⟨Nat.le_of_ble_eq_true rfl, Nat.le_of_ble_eq_true rfl⟩) hS hA hP (fun r_4 H locs hw_4 hP hS => ?_)
    try dsimp only at hw_4
    rcases hw_4 with rfl | rfl
    · refine lv_if_eq (tgt := 25) hx hb dX7_refuseSet_18 (by decide) (fun h => absurd h (by decide)) (fun _ => ?_)
      refine lv_iconst (v := 0) hx hb dX7_refuseSet_21 (by decide) ?_
      refine lv_goto (tgt := 28) hx hb dX7_refuseSet_22 (by decide) ?_
      exact W.iret (v := 0) hx hb hr (fun t ht hW => ⟨⟨0, (), rfl, .inl ⟨rfl, .inr (.inr rfl)⟩, trivial⟩, hS.F ht⟩) hS.2.2 dX7_refuseSet_28
    · refine lv_if_eq (tgt := 25) hx hb dX7_refuseSet_18 (by decide) (fun _ => ?_) (fun h => absurd (by decide) h)
      refine lv_sipush (v := (-1002)) hx hb dX7_refuseSet_25 (by decide) ?_
      exact W.iret (v := (-1002)) hx hb hr (fun t ht hW => ⟨⟨(-1002), (), rfl, .inr (.inr rfl), trivial⟩, hS.F ht⟩) hS.2.2 dX7_refuseSet_28
  · refine lv_if_ne (tgt := 12) hx hb dX7_refuseSet_5 (by decide) (fun h => absurd (by decide) h) (fun _ => ?_)
    refine lv_sipush (v := (-1001)) hx hb dX7_refuseSet_8 (by decide) ?_
    exact W.iret (v := (-1001)) hx hb hr (fun t ht hW => ⟨⟨(-1001), (), rfl, .inr (.inl rfl), trivial⟩, hS.F ht⟩) hS.2.2 dX7_refuseSet_11

theorem f_x_closeText_rows : True := trivial
theorem dX7_closeText_0 : decode cX7_closeText 0 = .ok (.aload_n 0, 1) := by decide +kernel
theorem dX7_closeText_1 : decode cX7_closeText 1 = .ok (.getfield 12, 3) := by decide +kernel
theorem dX7_closeText_4 : decode cX7_closeText 4 = .ok (.iconst 0, 1) := by decide +kernel
theorem dX7_closeText_5 : decode cX7_closeText 5 = .ok (.putfield 81, 3) := by decide +kernel
theorem dX7_closeText_8 : decode cX7_closeText 8 = .ok (.aload_n 0, 1) := by decide +kernel
theorem dX7_closeText_9 : decode cX7_closeText 9 = .ok (.getfield 12, 3) := by decide +kernel
theorem dX7_closeText_12 : decode cX7_closeText 12 = .ok (.invokevirtual 286, 3) := by decide +kernel
theorem dX7_closeText_15 : decode cX7_closeText 15 = .ok (.ifCond .ne 10, 3) := by decide +kernel
theorem dX7_closeText_18 : decode cX7_closeText 18 = .ok (.aload_n 0, 1) := by decide +kernel
theorem dX7_closeText_19 : decode cX7_closeText 19 = .ok (.iconst (-1), 1) := by decide +kernel
theorem dX7_closeText_20 : decode cX7_closeText 20 = .ok (.putfield 43, 3) := by decide +kernel
theorem dX7_closeText_23 : decode cX7_closeText 23 = .ok (.iconst 0, 1) := by decide +kernel
theorem dX7_closeText_24 : decode cX7_closeText 24 = .ok (.ireturn, 1) := by decide +kernel
theorem dX7_closeText_25 : decode cX7_closeText 25 = .ok (.aload_n 0, 1) := by decide +kernel
theorem dX7_closeText_26 : decode cX7_closeText 26 = .ok (.aload_n 0, 1) := by decide +kernel
theorem dX7_closeText_27 : decode cX7_closeText 27 = .ok (.getfield 12, 3) := by decide +kernel
theorem dX7_closeText_30 : decode cX7_closeText 30 = .ok (.getfield 289, 3) := by decide +kernel
theorem dX7_closeText_33 : decode cX7_closeText 33 = .ok (.putfield 43, 3) := by decide +kernel
theorem dX7_closeText_36 : decode cX7_closeText 36 = .ok (.bipush (-10), 2) := by decide +kernel
theorem dX7_closeText_38 : decode cX7_closeText 38 = .ok (.aload_n 0, 1) := by decide +kernel
theorem dX7_closeText_39 : decode cX7_closeText 39 = .ok (.getfield 12, 3) := by decide +kernel
theorem dX7_closeText_42 : decode cX7_closeText 42 = .ok (.getfield 292, 3) := by decide +kernel
theorem dX7_closeText_45 : decode cX7_closeText 45 = .ok (.isub, 1) := by decide +kernel
theorem dX7_closeText_46 : decode cX7_closeText 46 = .ok (.ireturn, 1) := by decide +kernel
theorem f_x_fault_rows : True := trivial
theorem dX7_fault_0 : decode cX7_fault 0 = .ok (.aload_n 0, 1) := by decide +kernel
theorem dX7_fault_1 : decode cX7_fault 1 = .ok (.getfield 43, 3) := by decide +kernel
theorem dX7_fault_4 : decode cX7_fault 4 = .ok (.ireturn, 1) := by decide +kernel
theorem f_x_told_rows : True := trivial
theorem dX7_told_0 : decode cX7_told 0 = .ok (.aload_n 0, 1) := by decide +kernel
theorem dX7_told_1 : decode cX7_told 1 = .ok (.iload_n 1, 1) := by decide +kernel
theorem dX7_told_2 : decode cX7_told 2 = .ok (.invokevirtual 108, 3) := by decide +kernel
theorem dX7_told_5 : decode cX7_told 5 = .ok (.ifCond .ne 7, 3) := by decide +kernel
theorem dX7_told_8 : decode cX7_told 8 = .ok (.sipush (-1001), 3) := by decide +kernel
theorem dX7_told_11 : decode cX7_told 11 = .ok (.ireturn, 1) := by decide +kernel
theorem dX7_told_12 : decode cX7_told 12 = .ok (.iload_n 2, 1) := by decide +kernel
theorem dX7_told_13 : decode cX7_told 13 = .ok (.iconst 0, 1) := by decide +kernel
theorem dX7_told_14 : decode cX7_told 14 = .ok (.bipush 9, 2) := by decide +kernel
theorem dX7_told_16 : decode cX7_told 16 = .ok (.invokestatic 112, 3) := by decide +kernel
theorem dX7_told_19 : decode cX7_told 19 = .ok (.ifCond .eq 17, 3) := by decide +kernel
theorem dX7_told_22 : decode cX7_told 22 = .ok (.aload_n 0, 1) := by decide +kernel
theorem dX7_told_23 : decode cX7_told 23 = .ok (.getfield 18, 3) := by decide +kernel
theorem dX7_told_26 : decode cX7_told 26 = .ok (.iload_n 1, 1) := by decide +kernel
theorem dX7_told_27 : decode cX7_told 27 = .ok (.aaload, 1) := by decide +kernel
theorem dX7_told_28 : decode cX7_told 28 = .ok (.getfield 116, 3) := by decide +kernel
theorem dX7_told_31 : decode cX7_told 31 = .ok (.iload_n 2, 1) := by decide +kernel
theorem dX7_told_32 : decode cX7_told 32 = .ok (.iaload, 1) := by decide +kernel
theorem dX7_told_33 : decode cX7_told 33 = .ok (.goto 6, 3) := by decide +kernel
theorem dX7_told_36 : decode cX7_told 36 = .ok (.sipush (-1002), 3) := by decide +kernel
theorem dX7_told_39 : decode cX7_told 39 = .ok (.ireturn, 1) := by decide +kernel
theorem f_x_door_rows : True := trivial
theorem dX7_door_0 : decode cX7_door 0 = .ok (.aload_n 0, 1) := by decide +kernel
theorem dX7_door_1 : decode cX7_door 1 = .ok (.iload_n 1, 1) := by decide +kernel
theorem dX7_door_2 : decode cX7_door 2 = .ok (.iload_n 2, 1) := by decide +kernel
theorem dX7_door_3 : decode cX7_door 3 = .ok (.invokevirtual 120, 3) := by decide +kernel
theorem dX7_door_6 : decode cX7_door 6 = .ok (.ifCond .ne 7, 3) := by decide +kernel
theorem dX7_door_9 : decode cX7_door 9 = .ok (.sipush (-1001), 3) := by decide +kernel
theorem dX7_door_12 : decode cX7_door 12 = .ok (.ireturn, 1) := by decide +kernel
theorem dX7_door_13 : decode cX7_door 13 = .ok (.iload_n 3, 1) := by decide +kernel
theorem dX7_door_14 : decode cX7_door 14 = .ok (.iconst 0, 1) := by decide +kernel
theorem dX7_door_15 : decode cX7_door 15 = .ok (.iconst 1, 1) := by decide +kernel
theorem dX7_door_16 : decode cX7_door 16 = .ok (.invokestatic 112, 3) := by decide +kernel
theorem dX7_door_19 : decode cX7_door 19 = .ok (.ifCond .ne 7, 3) := by decide +kernel
theorem dX7_door_22 : decode cX7_door 22 = .ok (.sipush (-1002), 3) := by decide +kernel
theorem dX7_door_25 : decode cX7_door 25 = .ok (.ireturn, 1) := by decide +kernel
theorem dX7_door_26 : decode cX7_door 26 = .ok (.iload_n 3, 1) := by decide +kernel
theorem dX7_door_27 : decode cX7_door 27 = .ok (.ifCond .ne 17, 3) := by decide +kernel
theorem dX7_door_30 : decode cX7_door 30 = .ok (.aload_n 0, 1) := by decide +kernel
theorem dX7_door_31 : decode cX7_door 31 = .ok (.getfield 18, 3) := by decide +kernel
theorem dX7_door_34 : decode cX7_door 34 = .ok (.iload_n 1, 1) := by decide +kernel
theorem dX7_door_35 : decode cX7_door 35 = .ok (.aaload, 1) := by decide +kernel
theorem dX7_door_36 : decode cX7_door 36 = .ok (.getfield 124, 3) := by decide +kernel
theorem dX7_door_39 : decode cX7_door 39 = .ok (.iload_n 2, 1) := by decide +kernel
theorem dX7_door_40 : decode cX7_door 40 = .ok (.iaload, 1) := by decide +kernel
theorem dX7_door_41 : decode cX7_door 41 = .ok (.goto 14, 3) := by decide +kernel
theorem dX7_door_44 : decode cX7_door 44 = .ok (.aload_n 0, 1) := by decide +kernel
theorem dX7_door_45 : decode cX7_door 45 = .ok (.getfield 18, 3) := by decide +kernel
theorem dX7_door_48 : decode cX7_door 48 = .ok (.iload_n 1, 1) := by decide +kernel
theorem dX7_door_49 : decode cX7_door 49 = .ok (.aaload, 1) := by decide +kernel
theorem dX7_door_50 : decode cX7_door 50 = .ok (.getfield 127, 3) := by decide +kernel
theorem dX7_door_53 : decode cX7_door 53 = .ok (.iload_n 2, 1) := by decide +kernel
theorem dX7_door_54 : decode cX7_door 54 = .ok (.iaload, 1) := by decide +kernel
theorem dX7_door_55 : decode cX7_door 55 = .ok (.ireturn, 1) := by decide +kernel
theorem f_x_chance_rows : True := trivial
theorem dX7_chance_0 : decode cX7_chance 0 = .ok (.aload_n 0, 1) := by decide +kernel
theorem dX7_chance_1 : decode cX7_chance 1 = .ok (.iload_n 1, 1) := by decide +kernel
theorem dX7_chance_2 : decode cX7_chance 2 = .ok (.iload_n 2, 1) := by decide +kernel
theorem dX7_chance_3 : decode cX7_chance 3 = .ok (.invokevirtual 120, 3) := by decide +kernel
theorem dX7_chance_6 : decode cX7_chance 6 = .ok (.ifCond .eq 17, 3) := by decide +kernel
theorem dX7_chance_9 : decode cX7_chance 9 = .ok (.aload_n 0, 1) := by decide +kernel
theorem dX7_chance_10 : decode cX7_chance 10 = .ok (.getfield 18, 3) := by decide +kernel
theorem dX7_chance_13 : decode cX7_chance 13 = .ok (.iload_n 1, 1) := by decide +kernel
theorem dX7_chance_14 : decode cX7_chance 14 = .ok (.aaload, 1) := by decide +kernel
theorem dX7_chance_15 : decode cX7_chance 15 = .ok (.iload_n 2, 1) := by decide +kernel
theorem dX7_chance_16 : decode cX7_chance 16 = .ok (.iload_n 3, 1) := by decide +kernel
theorem dX7_chance_17 : decode cX7_chance 17 = .ok (.invokevirtual 130, 3) := by decide +kernel
theorem dX7_chance_20 : decode cX7_chance 20 = .ok (.goto 6, 3) := by decide +kernel
theorem dX7_chance_23 : decode cX7_chance 23 = .ok (.sipush (-1001), 3) := by decide +kernel
theorem dX7_chance_26 : decode cX7_chance 26 = .ok (.ireturn, 1) := by decide +kernel
theorem f_x_taking_rows : True := trivial
theorem dX7_taking_0 : decode cX7_taking 0 = .ok (.aload_n 0, 1) := by decide +kernel
theorem dX7_taking_1 : decode cX7_taking 1 = .ok (.iload_n 1, 1) := by decide +kernel
theorem dX7_taking_2 : decode cX7_taking 2 = .ok (.iload_n 3, 1) := by decide +kernel
theorem dX7_taking_3 : decode cX7_taking 3 = .ok (.invokevirtual 120, 3) := by decide +kernel
theorem dX7_taking_6 : decode cX7_taking 6 = .ok (.ifCond .ne 7, 3) := by decide +kernel
theorem dX7_taking_9 : decode cX7_taking 9 = .ok (.sipush (-1001), 3) := by decide +kernel
theorem dX7_taking_12 : decode cX7_taking 12 = .ok (.ireturn, 1) := by decide +kernel
theorem dX7_taking_13 : decode cX7_taking 13 = .ok (.aload_n 0, 1) := by decide +kernel
theorem dX7_taking_14 : decode cX7_taking 14 = .ok (.iload_n 1, 1) := by decide +kernel
theorem dX7_taking_15 : decode cX7_taking 15 = .ok (.iload_n 2, 1) := by decide +kernel
theorem dX7_taking_16 : decode cX7_taking 16 = .ok (.invokevirtual 134, 3) := by decide +kernel
theorem dX7_taking_19 : decode cX7_taking 19 = .ok (.ifCond .eq 17, 3) := by decide +kernel
theorem dX7_taking_22 : decode cX7_taking 22 = .ok (.aload_n 0, 1) := by decide +kernel
theorem dX7_taking_23 : decode cX7_taking 23 = .ok (.getfield 18, 3) := by decide +kernel
theorem dX7_taking_26 : decode cX7_taking 26 = .ok (.iload_n 1, 1) := by decide +kernel
theorem dX7_taking_27 : decode cX7_taking 27 = .ok (.aaload, 1) := by decide +kernel
theorem dX7_taking_28 : decode cX7_taking 28 = .ok (.iload_n 2, 1) := by decide +kernel
theorem dX7_taking_29 : decode cX7_taking 29 = .ok (.iload_n 3, 1) := by decide +kernel
theorem dX7_taking_30 : decode cX7_taking 30 = .ok (.invokevirtual 137, 3) := by decide +kernel
theorem dX7_taking_33 : decode cX7_taking 33 = .ok (.goto 6, 3) := by decide +kernel
theorem dX7_taking_36 : decode cX7_taking 36 = .ok (.sipush (-1002), 3) := by decide +kernel
theorem dX7_taking_39 : decode cX7_taking 39 = .ok (.ireturn, 1) := by decide +kernel
theorem f_x_worth_rows : True := trivial
theorem dX7_worth_0 : decode cX7_worth 0 = .ok (.aload_n 0, 1) := by decide +kernel
theorem dX7_worth_1 : decode cX7_worth 1 = .ok (.iload_n 1, 1) := by decide +kernel
theorem dX7_worth_2 : decode cX7_worth 2 = .ok (.iload_n 2, 1) := by decide +kernel
theorem dX7_worth_3 : decode cX7_worth 3 = .ok (.iload_n 3, 1) := by decide +kernel
theorem dX7_worth_4 : decode cX7_worth 4 = .ok (.iload 4, 2) := by decide +kernel
theorem dX7_worth_6 : decode cX7_worth 6 = .ok (.invokevirtual 141, 3) := by decide +kernel
theorem dX7_worth_9 : decode cX7_worth 9 = .ok (.istore 5, 2) := by decide +kernel
theorem dX7_worth_11 : decode cX7_worth 11 = .ok (.iload 5, 2) := by decide +kernel
theorem dX7_worth_13 : decode cX7_worth 13 = .ok (.ifCond .eq 8, 3) := by decide +kernel
theorem dX7_worth_16 : decode cX7_worth 16 = .ok (.iload 5, 2) := by decide +kernel
theorem dX7_worth_18 : decode cX7_worth 18 = .ok (.goto 16, 3) := by decide +kernel
theorem dX7_worth_21 : decode cX7_worth 21 = .ok (.aload_n 0, 1) := by decide +kernel
theorem dX7_worth_22 : decode cX7_worth 22 = .ok (.getfield 24, 3) := by decide +kernel
theorem dX7_worth_25 : decode cX7_worth 25 = .ok (.iload_n 1, 1) := by decide +kernel
theorem dX7_worth_26 : decode cX7_worth 26 = .ok (.aaload, 1) := by decide +kernel
theorem dX7_worth_27 : decode cX7_worth 27 = .ok (.iload_n 2, 1) := by decide +kernel
theorem dX7_worth_28 : decode cX7_worth 28 = .ok (.iload_n 3, 1) := by decide +kernel
theorem dX7_worth_29 : decode cX7_worth 29 = .ok (.iload 4, 2) := by decide +kernel
theorem dX7_worth_31 : decode cX7_worth 31 = .ok (.invokevirtual 145, 3) := by decide +kernel
theorem dX7_worth_34 : decode cX7_worth 34 = .ok (.ireturn, 1) := by decide +kernel
theorem f_x_goingOn_rows : True := trivial
theorem dX7_goingOn_0 : decode cX7_goingOn 0 = .ok (.aload_n 0, 1) := by decide +kernel
theorem dX7_goingOn_1 : decode cX7_goingOn 1 = .ok (.iload_n 1, 1) := by decide +kernel
theorem dX7_goingOn_2 : decode cX7_goingOn 2 = .ok (.iload_n 2, 1) := by decide +kernel
theorem dX7_goingOn_3 : decode cX7_goingOn 3 = .ok (.iload_n 3, 1) := by decide +kernel
theorem dX7_goingOn_4 : decode cX7_goingOn 4 = .ok (.iload 4, 2) := by decide +kernel
theorem dX7_goingOn_6 : decode cX7_goingOn 6 = .ok (.invokevirtual 141, 3) := by decide +kernel
theorem dX7_goingOn_9 : decode cX7_goingOn 9 = .ok (.istore 5, 2) := by decide +kernel
theorem dX7_goingOn_11 : decode cX7_goingOn 11 = .ok (.iload 5, 2) := by decide +kernel
theorem dX7_goingOn_13 : decode cX7_goingOn 13 = .ok (.ifCond .eq 8, 3) := by decide +kernel
theorem dX7_goingOn_16 : decode cX7_goingOn 16 = .ok (.iload 5, 2) := by decide +kernel
theorem dX7_goingOn_18 : decode cX7_goingOn 18 = .ok (.goto 16, 3) := by decide +kernel
theorem dX7_goingOn_21 : decode cX7_goingOn 21 = .ok (.aload_n 0, 1) := by decide +kernel
theorem dX7_goingOn_22 : decode cX7_goingOn 22 = .ok (.getfield 24, 3) := by decide +kernel
theorem dX7_goingOn_25 : decode cX7_goingOn 25 = .ok (.iload_n 1, 1) := by decide +kernel
theorem dX7_goingOn_26 : decode cX7_goingOn 26 = .ok (.aaload, 1) := by decide +kernel
theorem dX7_goingOn_27 : decode cX7_goingOn 27 = .ok (.iload_n 2, 1) := by decide +kernel
theorem dX7_goingOn_28 : decode cX7_goingOn 28 = .ok (.iload_n 3, 1) := by decide +kernel
theorem dX7_goingOn_29 : decode cX7_goingOn 29 = .ok (.iload 4, 2) := by decide +kernel
theorem dX7_goingOn_31 : decode cX7_goingOn 31 = .ok (.invokevirtual 149, 3) := by decide +kernel
theorem dX7_goingOn_34 : decode cX7_goingOn 34 = .ok (.ireturn, 1) := by decide +kernel
theorem f_x_takes_rows : True := trivial
theorem dX7_takes_0 : decode cX7_takes 0 = .ok (.aload_n 0, 1) := by decide +kernel
theorem dX7_takes_1 : decode cX7_takes 1 = .ok (.iload_n 1, 1) := by decide +kernel
theorem dX7_takes_2 : decode cX7_takes 2 = .ok (.iload_n 2, 1) := by decide +kernel
theorem dX7_takes_3 : decode cX7_takes 3 = .ok (.iload_n 3, 1) := by decide +kernel
theorem dX7_takes_4 : decode cX7_takes 4 = .ok (.iload 4, 2) := by decide +kernel
theorem dX7_takes_6 : decode cX7_takes 6 = .ok (.invokevirtual 141, 3) := by decide +kernel
theorem dX7_takes_9 : decode cX7_takes 9 = .ok (.istore 5, 2) := by decide +kernel
theorem dX7_takes_11 : decode cX7_takes 11 = .ok (.iload 5, 2) := by decide +kernel
theorem dX7_takes_13 : decode cX7_takes 13 = .ok (.ifCond .eq 6, 3) := by decide +kernel
theorem dX7_takes_16 : decode cX7_takes 16 = .ok (.iload 5, 2) := by decide +kernel
theorem dX7_takes_18 : decode cX7_takes 18 = .ok (.ireturn, 1) := by decide +kernel
theorem dX7_takes_19 : decode cX7_takes 19 = .ok (.iload 4, 2) := by decide +kernel
theorem dX7_takes_21 : decode cX7_takes 21 = .ok (.iconst 1, 1) := by decide +kernel
theorem dX7_takes_22 : decode cX7_takes 22 = .ok (.iand, 1) := by decide +kernel
theorem dX7_takes_23 : decode cX7_takes 23 = .ok (.ifCond .ne 7, 3) := by decide +kernel
theorem dX7_takes_26 : decode cX7_takes 26 = .ok (.sipush (-1003), 3) := by decide +kernel
theorem dX7_takes_29 : decode cX7_takes 29 = .ok (.ireturn, 1) := by decide +kernel
theorem dX7_takes_30 : decode cX7_takes 30 = .ok (.aload_n 0, 1) := by decide +kernel
theorem dX7_takes_31 : decode cX7_takes 31 = .ok (.getfield 24, 3) := by decide +kernel
theorem dX7_takes_34 : decode cX7_takes 34 = .ok (.iload_n 1, 1) := by decide +kernel
theorem dX7_takes_35 : decode cX7_takes 35 = .ok (.aaload, 1) := by decide +kernel
theorem dX7_takes_36 : decode cX7_takes 36 = .ok (.iload_n 2, 1) := by decide +kernel
theorem dX7_takes_37 : decode cX7_takes 37 = .ok (.iload_n 3, 1) := by decide +kernel
theorem dX7_takes_38 : decode cX7_takes 38 = .ok (.iload 4, 2) := by decide +kernel
theorem dX7_takes_40 : decode cX7_takes 40 = .ok (.invokevirtual 152, 3) := by decide +kernel
theorem dX7_takes_43 : decode cX7_takes 43 = .ok (.ifCond .eq 7, 3) := by decide +kernel
theorem dX7_takes_46 : decode cX7_takes 46 = .ok (.iconst 1, 1) := by decide +kernel
theorem dX7_takes_47 : decode cX7_takes 47 = .ok (.goto 4, 3) := by decide +kernel
theorem dX7_takes_50 : decode cX7_takes 50 = .ok (.iconst 0, 1) := by decide +kernel
theorem dX7_takes_51 : decode cX7_takes 51 = .ok (.ireturn, 1) := by decide +kernel
theorem f_x_start_rows : True := trivial
theorem dX7_start_0 : decode cX7_start 0 = .ok (.aload_n 0, 1) := by decide +kernel
theorem dX7_start_1 : decode cX7_start 1 = .ok (.iload_n 1, 1) := by decide +kernel
theorem dX7_start_2 : decode cX7_start 2 = .ok (.invokevirtual 108, 3) := by decide +kernel
theorem dX7_start_5 : decode cX7_start 5 = .ok (.ifCond .ne 7, 3) := by decide +kernel
theorem dX7_start_8 : decode cX7_start 8 = .ok (.sipush (-1001), 3) := by decide +kernel
theorem dX7_start_11 : decode cX7_start 11 = .ok (.ireturn, 1) := by decide +kernel
theorem dX7_start_12 : decode cX7_start 12 = .ok (.aload_n 0, 1) := by decide +kernel
theorem dX7_start_13 : decode cX7_start 13 = .ok (.iload_n 1, 1) := by decide +kernel
theorem dX7_start_14 : decode cX7_start 14 = .ok (.iload_n 2, 1) := by decide +kernel
theorem dX7_start_15 : decode cX7_start 15 = .ok (.invokevirtual 134, 3) := by decide +kernel
theorem dX7_start_18 : decode cX7_start 18 = .ok (.ifCond .eq 17, 3) := by decide +kernel
theorem dX7_start_21 : decode cX7_start 21 = .ok (.aload_n 0, 1) := by decide +kernel
theorem dX7_start_22 : decode cX7_start 22 = .ok (.getfield 24, 3) := by decide +kernel
theorem dX7_start_25 : decode cX7_start 25 = .ok (.iload_n 1, 1) := by decide +kernel
theorem dX7_start_26 : decode cX7_start 26 = .ok (.aaload, 1) := by decide +kernel
theorem dX7_start_27 : decode cX7_start 27 = .ok (.getfield 155, 3) := by decide +kernel
theorem dX7_start_30 : decode cX7_start 30 = .ok (.iload_n 2, 1) := by decide +kernel
theorem dX7_start_31 : decode cX7_start 31 = .ok (.iaload, 1) := by decide +kernel
theorem dX7_start_32 : decode cX7_start 32 = .ok (.goto 6, 3) := by decide +kernel
theorem dX7_start_35 : decode cX7_start 35 = .ok (.sipush (-1002), 3) := by decide +kernel
theorem dX7_start_38 : decode cX7_start 38 = .ok (.ireturn, 1) := by decide +kernel
theorem f_x_end_rows : True := trivial
theorem dX7_end_0 : decode cX7_end 0 = .ok (.aload_n 0, 1) := by decide +kernel
theorem dX7_end_1 : decode cX7_end 1 = .ok (.iload_n 1, 1) := by decide +kernel
theorem dX7_end_2 : decode cX7_end 2 = .ok (.invokevirtual 108, 3) := by decide +kernel
theorem dX7_end_5 : decode cX7_end 5 = .ok (.ifCond .ne 7, 3) := by decide +kernel
theorem dX7_end_8 : decode cX7_end 8 = .ok (.sipush (-1001), 3) := by decide +kernel
theorem dX7_end_11 : decode cX7_end 11 = .ok (.ireturn, 1) := by decide +kernel
theorem dX7_end_12 : decode cX7_end 12 = .ok (.aload_n 0, 1) := by decide +kernel
theorem dX7_end_13 : decode cX7_end 13 = .ok (.iload_n 1, 1) := by decide +kernel
theorem dX7_end_14 : decode cX7_end 14 = .ok (.iload_n 2, 1) := by decide +kernel
theorem dX7_end_15 : decode cX7_end 15 = .ok (.invokevirtual 134, 3) := by decide +kernel
theorem dX7_end_18 : decode cX7_end 18 = .ok (.ifCond .eq 12, 3) := by decide +kernel
theorem dX7_end_21 : decode cX7_end 21 = .ok (.iload_n 3, 1) := by decide +kernel
theorem dX7_end_22 : decode cX7_end 22 = .ok (.iconst 0, 1) := by decide +kernel
theorem dX7_end_23 : decode cX7_end 23 = .ok (.iconst 1, 1) := by decide +kernel
theorem dX7_end_24 : decode cX7_end 24 = .ok (.invokestatic 112, 3) := by decide +kernel
theorem dX7_end_27 : decode cX7_end 27 = .ok (.ifCond .ne 7, 3) := by decide +kernel
theorem dX7_end_30 : decode cX7_end 30 = .ok (.sipush (-1002), 3) := by decide +kernel
theorem dX7_end_33 : decode cX7_end 33 = .ok (.ireturn, 1) := by decide +kernel
theorem dX7_end_34 : decode cX7_end 34 = .ok (.iload_n 3, 1) := by decide +kernel
theorem dX7_end_35 : decode cX7_end 35 = .ok (.ifCond .ne 15, 3) := by decide +kernel
theorem dX7_end_38 : decode cX7_end 38 = .ok (.aload_n 0, 1) := by decide +kernel
theorem dX7_end_39 : decode cX7_end 39 = .ok (.getfield 24, 3) := by decide +kernel
theorem dX7_end_42 : decode cX7_end 42 = .ok (.iload_n 1, 1) := by decide +kernel
theorem dX7_end_43 : decode cX7_end 43 = .ok (.aaload, 1) := by decide +kernel
theorem dX7_end_44 : decode cX7_end 44 = .ok (.getfield 158, 3) := by decide +kernel
theorem dX7_end_47 : decode cX7_end 47 = .ok (.iload_n 2, 1) := by decide +kernel
theorem dX7_end_48 : decode cX7_end 48 = .ok (.iaload, 1) := by decide +kernel
theorem dX7_end_49 : decode cX7_end 49 = .ok (.ireturn, 1) := by decide +kernel
theorem dX7_end_50 : decode cX7_end 50 = .ok (.aload_n 0, 1) := by decide +kernel
theorem dX7_end_51 : decode cX7_end 51 = .ok (.getfield 24, 3) := by decide +kernel
theorem dX7_end_54 : decode cX7_end 54 = .ok (.iload_n 1, 1) := by decide +kernel
theorem dX7_end_55 : decode cX7_end 55 = .ok (.aaload, 1) := by decide +kernel
theorem dX7_end_56 : decode cX7_end 56 = .ok (.getfield 158, 3) := by decide +kernel
theorem dX7_end_59 : decode cX7_end 59 = .ok (.iload_n 2, 1) := by decide +kernel
theorem dX7_end_60 : decode cX7_end 60 = .ok (.iaload, 1) := by decide +kernel
theorem dX7_end_61 : decode cX7_end 61 = .ok (.aload_n 0, 1) := by decide +kernel
theorem dX7_end_62 : decode cX7_end 62 = .ok (.getfield 18, 3) := by decide +kernel
theorem dX7_end_65 : decode cX7_end 65 = .ok (.iload_n 1, 1) := by decide +kernel
theorem dX7_end_66 : decode cX7_end 66 = .ok (.aaload, 1) := by decide +kernel
theorem dX7_end_67 : decode cX7_end 67 = .ok (.iload_n 2, 1) := by decide +kernel
theorem dX7_end_68 : decode cX7_end 68 = .ok (.invokevirtual 161, 3) := by decide +kernel
theorem dX7_end_71 : decode cX7_end 71 = .ok (.if_icmp .ge 7, 3) := by decide +kernel
theorem dX7_end_74 : decode cX7_end 74 = .ok (.iconst 1, 1) := by decide +kernel
theorem dX7_end_75 : decode cX7_end 75 = .ok (.goto 4, 3) := by decide +kernel
theorem dX7_end_78 : decode cX7_end 78 = .ok (.iconst 0, 1) := by decide +kernel
theorem dX7_end_79 : decode cX7_end 79 = .ok (.ireturn, 1) := by decide +kernel
theorem f_x_bar_rows : True := trivial
theorem dX7_bar_0 : decode cX7_bar 0 = .ok (.aload_n 0, 1) := by decide +kernel
theorem dX7_bar_1 : decode cX7_bar 1 = .ok (.iload_n 1, 1) := by decide +kernel
theorem dX7_bar_2 : decode cX7_bar 2 = .ok (.invokevirtual 108, 3) := by decide +kernel
theorem dX7_bar_5 : decode cX7_bar 5 = .ok (.ifCond .ne 7, 3) := by decide +kernel
theorem dX7_bar_8 : decode cX7_bar 8 = .ok (.sipush (-1001), 3) := by decide +kernel
theorem dX7_bar_11 : decode cX7_bar 11 = .ok (.ireturn, 1) := by decide +kernel
theorem dX7_bar_12 : decode cX7_bar 12 = .ok (.aload_n 0, 1) := by decide +kernel
theorem dX7_bar_13 : decode cX7_bar 13 = .ok (.iload_n 1, 1) := by decide +kernel
theorem dX7_bar_14 : decode cX7_bar 14 = .ok (.iload_n 2, 1) := by decide +kernel
theorem dX7_bar_15 : decode cX7_bar 15 = .ok (.invokevirtual 134, 3) := by decide +kernel
theorem dX7_bar_18 : decode cX7_bar 18 = .ok (.ifCond .eq 16, 3) := by decide +kernel
theorem dX7_bar_21 : decode cX7_bar 21 = .ok (.aload_n 0, 1) := by decide +kernel
theorem dX7_bar_22 : decode cX7_bar 22 = .ok (.getfield 24, 3) := by decide +kernel
theorem dX7_bar_25 : decode cX7_bar 25 = .ok (.iload_n 1, 1) := by decide +kernel
theorem dX7_bar_26 : decode cX7_bar 26 = .ok (.aaload, 1) := by decide +kernel
theorem dX7_bar_27 : decode cX7_bar 27 = .ok (.iload_n 2, 1) := by decide +kernel
theorem dX7_bar_28 : decode cX7_bar 28 = .ok (.invokevirtual 165, 3) := by decide +kernel
theorem dX7_bar_31 : decode cX7_bar 31 = .ok (.goto 6, 3) := by decide +kernel
theorem dX7_bar_34 : decode cX7_bar 34 = .ok (.sipush (-1002), 3) := by decide +kernel
theorem dX7_bar_37 : decode cX7_bar 37 = .ok (.ireturn, 1) := by decide +kernel
theorem f_x_which_rows : True := trivial
theorem dX7_which_0 : decode cX7_which 0 = .ok (.aload_n 0, 1) := by decide +kernel
theorem dX7_which_1 : decode cX7_which 1 = .ok (.iload_n 1, 1) := by decide +kernel
theorem dX7_which_2 : decode cX7_which 2 = .ok (.invokevirtual 108, 3) := by decide +kernel
theorem dX7_which_5 : decode cX7_which 5 = .ok (.ifCond .eq 11, 3) := by decide +kernel
theorem dX7_which_8 : decode cX7_which 8 = .ok (.aload_n 0, 1) := by decide +kernel
theorem dX7_which_9 : decode cX7_which 9 = .ok (.iload_n 2, 1) := by decide +kernel
theorem dX7_which_10 : decode cX7_which 10 = .ok (.invokevirtual 108, 3) := by decide +kernel
theorem dX7_which_13 : decode cX7_which 13 = .ok (.ifCond .ne 7, 3) := by decide +kernel
theorem dX7_which_16 : decode cX7_which 16 = .ok (.sipush (-1001), 3) := by decide +kernel
theorem dX7_which_19 : decode cX7_which 19 = .ok (.ireturn, 1) := by decide +kernel
theorem dX7_which_20 : decode cX7_which 20 = .ok (.aload_n 0, 1) := by decide +kernel
theorem dX7_which_21 : decode cX7_which 21 = .ok (.getfield 24, 3) := by decide +kernel
theorem dX7_which_24 : decode cX7_which 24 = .ok (.iload_n 2, 1) := by decide +kernel
theorem dX7_which_25 : decode cX7_which 25 = .ok (.aaload, 1) := by decide +kernel
theorem dX7_which_26 : decode cX7_which 26 = .ok (.getfield 155, 3) := by decide +kernel
theorem dX7_which_29 : decode cX7_which 29 = .ok (.iconst 0, 1) := by decide +kernel
theorem dX7_which_30 : decode cX7_which 30 = .ok (.iaload, 1) := by decide +kernel
theorem dX7_which_31 : decode cX7_which 31 = .ok (.aload_n 0, 1) := by decide +kernel
theorem dX7_which_32 : decode cX7_which 32 = .ok (.getfield 24, 3) := by decide +kernel
theorem dX7_which_35 : decode cX7_which 35 = .ok (.iload_n 1, 1) := by decide +kernel
theorem dX7_which_36 : decode cX7_which 36 = .ok (.aaload, 1) := by decide +kernel
theorem dX7_which_37 : decode cX7_which 37 = .ok (.getfield 155, 3) := by decide +kernel
theorem dX7_which_40 : decode cX7_which 40 = .ok (.iconst 0, 1) := by decide +kernel
theorem dX7_which_41 : decode cX7_which 41 = .ok (.iaload, 1) := by decide +kernel
theorem dX7_which_42 : decode cX7_which 42 = .ok (.if_icmp .ge 7, 3) := by decide +kernel
theorem dX7_which_45 : decode cX7_which 45 = .ok (.iload_n 2, 1) := by decide +kernel
theorem dX7_which_46 : decode cX7_which 46 = .ok (.goto 4, 3) := by decide +kernel
theorem dX7_which_49 : decode cX7_which 49 = .ok (.iload_n 1, 1) := by decide +kernel
theorem dX7_which_50 : decode cX7_which 50 = .ok (.ireturn, 1) := by decide +kernel
theorem f_x_judge_rows : True := trivial
theorem dX7_judge_0 : decode cX7_judge 0 = .ok (.aload_n 0, 1) := by decide +kernel
theorem dX7_judge_1 : decode cX7_judge 1 = .ok (.iload_n 1, 1) := by decide +kernel
theorem dX7_judge_2 : decode cX7_judge 2 = .ok (.invokevirtual 108, 3) := by decide +kernel
theorem dX7_judge_5 : decode cX7_judge 5 = .ok (.ifCond .ne 7, 3) := by decide +kernel
theorem dX7_judge_8 : decode cX7_judge 8 = .ok (.sipush (-1001), 3) := by decide +kernel
theorem dX7_judge_11 : decode cX7_judge 11 = .ok (.ireturn, 1) := by decide +kernel
theorem dX7_judge_12 : decode cX7_judge 12 = .ok (.aload_n 0, 1) := by decide +kernel
theorem dX7_judge_13 : decode cX7_judge 13 = .ok (.iload_n 1, 1) := by decide +kernel
theorem dX7_judge_14 : decode cX7_judge 14 = .ok (.iload_n 2, 1) := by decide +kernel
theorem dX7_judge_15 : decode cX7_judge 15 = .ok (.invokevirtual 134, 3) := by decide +kernel
theorem dX7_judge_18 : decode cX7_judge 18 = .ok (.ifCond .ne 7, 3) := by decide +kernel
theorem dX7_judge_21 : decode cX7_judge 21 = .ok (.sipush (-1002), 3) := by decide +kernel
theorem dX7_judge_24 : decode cX7_judge 24 = .ok (.ireturn, 1) := by decide +kernel
theorem dX7_judge_25 : decode cX7_judge 25 = .ok (.aload_n 0, 1) := by decide +kernel
theorem dX7_judge_26 : decode cX7_judge 26 = .ok (.getfield 49, 3) := by decide +kernel
theorem dX7_judge_29 : decode cX7_judge 29 = .ok (.getfield 176, 3) := by decide +kernel
theorem dX7_judge_32 : decode cX7_judge 32 = .ok (.iconst 1, 1) := by decide +kernel
theorem dX7_judge_33 : decode cX7_judge 33 = .ok (.isub, 1) := by decide +kernel
theorem dX7_judge_34 : decode cX7_judge 34 = .ok (.istore 4, 2) := by decide +kernel
theorem dX7_judge_36 : decode cX7_judge 36 = .ok (.iload 4, 2) := by decide +kernel
theorem dX7_judge_38 : decode cX7_judge 38 = .ok (.ifCond .lt 33, 3) := by decide +kernel
theorem dX7_judge_41 : decode cX7_judge 41 = .ok (.iload 4, 2) := by decide +kernel
theorem dX7_judge_43 : decode cX7_judge 43 = .ok (.aload_n 0, 1) := by decide +kernel
theorem dX7_judge_44 : decode cX7_judge 44 = .ok (.getfield 18, 3) := by decide +kernel
theorem dX7_judge_47 : decode cX7_judge 47 = .ok (.iload_n 1, 1) := by decide +kernel
theorem dX7_judge_48 : decode cX7_judge 48 = .ok (.aaload, 1) := by decide +kernel
theorem dX7_judge_49 : decode cX7_judge 49 = .ok (.invokevirtual 105, 3) := by decide +kernel
theorem dX7_judge_52 : decode cX7_judge 52 = .ok (.if_icmp .ge 19, 3) := by decide +kernel
theorem dX7_judge_55 : decode cX7_judge 55 = .ok (.iload_n 3, 1) := by decide +kernel
theorem dX7_judge_56 : decode cX7_judge 56 = .ok (.ifCond .eq 19, 3) := by decide +kernel
theorem dX7_judge_59 : decode cX7_judge 59 = .ok (.aload_n 0, 1) := by decide +kernel
theorem dX7_judge_60 : decode cX7_judge 60 = .ok (.getfield 49, 3) := by decide +kernel
theorem dX7_judge_63 : decode cX7_judge 63 = .ok (.iload 4, 2) := by decide +kernel
theorem dX7_judge_65 : decode cX7_judge 65 = .ok (.invokevirtual 186, 3) := by decide +kernel
theorem dX7_judge_68 : decode cX7_judge 68 = .ok (.ifCond .ne 7, 3) := by decide +kernel
theorem dX7_judge_71 : decode cX7_judge 71 = .ok (.sipush (-1003), 3) := by decide +kernel
theorem dX7_judge_74 : decode cX7_judge 74 = .ok (.ireturn, 1) := by decide +kernel
theorem dX7_judge_75 : decode cX7_judge 75 = .ok (.aload_n 0, 1) := by decide +kernel
theorem dX7_judge_76 : decode cX7_judge 76 = .ok (.getfield 24, 3) := by decide +kernel
theorem dX7_judge_79 : decode cX7_judge 79 = .ok (.iload_n 1, 1) := by decide +kernel
theorem dX7_judge_80 : decode cX7_judge 80 = .ok (.aaload, 1) := by decide +kernel
theorem dX7_judge_81 : decode cX7_judge 81 = .ok (.iload_n 2, 1) := by decide +kernel
theorem dX7_judge_82 : decode cX7_judge 82 = .ok (.aload_n 0, 1) := by decide +kernel
theorem dX7_judge_83 : decode cX7_judge 83 = .ok (.getfield 49, 3) := by decide +kernel
theorem dX7_judge_86 : decode cX7_judge 86 = .ok (.iload_n 3, 1) := by decide +kernel
theorem dX7_judge_87 : decode cX7_judge 87 = .ok (.invokevirtual 189, 3) := by decide +kernel
theorem dX7_judge_90 : decode cX7_judge 90 = .ok (.ireturn, 1) := by decide +kernel
theorem f_x_thought_rows : True := trivial
theorem dX7_thought_0 : decode cX7_thought 0 = .ok (.aload_n 0, 1) := by decide +kernel
theorem dX7_thought_1 : decode cX7_thought 1 = .ok (.iload_n 1, 1) := by decide +kernel
theorem dX7_thought_2 : decode cX7_thought 2 = .ok (.invokevirtual 108, 3) := by decide +kernel
theorem dX7_thought_5 : decode cX7_thought 5 = .ok (.ifCond .eq 11, 3) := by decide +kernel
theorem dX7_thought_8 : decode cX7_thought 8 = .ok (.aload_n 0, 1) := by decide +kernel
theorem dX7_thought_9 : decode cX7_thought 9 = .ok (.iload_n 2, 1) := by decide +kernel
theorem dX7_thought_10 : decode cX7_thought 10 = .ok (.invokevirtual 108, 3) := by decide +kernel
theorem dX7_thought_13 : decode cX7_thought 13 = .ok (.ifCond .ne 7, 3) := by decide +kernel
theorem dX7_thought_16 : decode cX7_thought 16 = .ok (.sipush (-1001), 3) := by decide +kernel
theorem dX7_thought_19 : decode cX7_thought 19 = .ok (.ireturn, 1) := by decide +kernel
theorem dX7_thought_20 : decode cX7_thought 20 = .ok (.aload_n 0, 1) := by decide +kernel
theorem dX7_thought_21 : decode cX7_thought 21 = .ok (.getfield 64, 3) := by decide +kernel
theorem dX7_thought_24 : decode cX7_thought 24 = .ok (.aload_n 0, 1) := by decide +kernel
theorem dX7_thought_25 : decode cX7_thought 25 = .ok (.getfield 18, 3) := by decide +kernel
theorem dX7_thought_28 : decode cX7_thought 28 = .ok (.iload_n 1, 1) := by decide +kernel
theorem dX7_thought_29 : decode cX7_thought 29 = .ok (.aaload, 1) := by decide +kernel
theorem dX7_thought_30 : decode cX7_thought 30 = .ok (.aload_n 0, 1) := by decide +kernel
theorem dX7_thought_31 : decode cX7_thought 31 = .ok (.getfield 18, 3) := by decide +kernel
theorem dX7_thought_34 : decode cX7_thought 34 = .ok (.iload_n 2, 1) := by decide +kernel
theorem dX7_thought_35 : decode cX7_thought 35 = .ok (.aaload, 1) := by decide +kernel
theorem dX7_thought_36 : decode cX7_thought 36 = .ok (.aload_n 0, 1) := by decide +kernel
theorem dX7_thought_37 : decode cX7_thought 37 = .ok (.getfield 49, 3) := by decide +kernel
theorem dX7_thought_40 : decode cX7_thought 40 = .ok (.invokevirtual 193, 3) := by decide +kernel
theorem dX7_thought_43 : decode cX7_thought 43 = .ok (.ireturn, 1) := by decide +kernel
theorem f_x_count_rows : True := trivial
theorem dX7_count_0 : decode cX7_count 0 = .ok (.iload_n 1, 1) := by decide +kernel
theorem dX7_count_1 : decode cX7_count 1 = .ok (.tableswitch 75 0 4 #[35, 40, 48, 59, 67], 35) := by decide +kernel
theorem dX7_count_36 : decode cX7_count 36 = .ok (.aload_n 0, 1) := by decide +kernel
theorem dX7_count_37 : decode cX7_count 37 = .ok (.getfield 39, 3) := by decide +kernel
theorem dX7_count_40 : decode cX7_count 40 = .ok (.ireturn, 1) := by decide +kernel
theorem dX7_count_41 : decode cX7_count 41 = .ok (.aload_n 0, 1) := by decide +kernel
theorem dX7_count_42 : decode cX7_count 42 = .ok (.getfield 49, 3) := by decide +kernel
theorem dX7_count_45 : decode cX7_count 45 = .ok (.getfield 176, 3) := by decide +kernel
theorem dX7_count_48 : decode cX7_count 48 = .ok (.ireturn, 1) := by decide +kernel
theorem dX7_count_49 : decode cX7_count 49 = .ok (.aload_n 0, 1) := by decide +kernel
theorem dX7_count_50 : decode cX7_count 50 = .ok (.getfield 49, 3) := by decide +kernel
theorem dX7_count_53 : decode cX7_count 53 = .ok (.getfield 183, 3) := by decide +kernel
theorem dX7_count_56 : decode cX7_count 56 = .ok (.invokestatic 275, 3) := by decide +kernel
theorem dX7_count_59 : decode cX7_count 59 = .ok (.ireturn, 1) := by decide +kernel
theorem dX7_count_60 : decode cX7_count 60 = .ok (.aload_n 0, 1) := by decide +kernel
theorem dX7_count_61 : decode cX7_count 61 = .ok (.getfield 49, 3) := by decide +kernel
theorem dX7_count_64 : decode cX7_count 64 = .ok (.getfield 214, 3) := by decide +kernel
theorem dX7_count_67 : decode cX7_count 67 = .ok (.ireturn, 1) := by decide +kernel
theorem dX7_count_68 : decode cX7_count 68 = .ok (.aload_n 0, 1) := by decide +kernel
theorem dX7_count_69 : decode cX7_count 69 = .ok (.getfield 12, 3) := by decide +kernel
theorem dX7_count_72 : decode cX7_count 72 = .ok (.getfield 81, 3) := by decide +kernel
theorem dX7_count_75 : decode cX7_count 75 = .ok (.ireturn, 1) := by decide +kernel
theorem dX7_count_76 : decode cX7_count 76 = .ok (.sipush (-1002), 3) := by decide +kernel
theorem dX7_count_79 : decode cX7_count 79 = .ok (.ireturn, 1) := by decide +kernel

theorem dX7_refuseSight_0 : decode cX7_refuseSight 0 = .ok (.aload_n 0, 1) := by decide +kernel
theorem dX7_refuseSight_1 : decode cX7_refuseSight 1 = .ok (.iload_n 1, 1) := by decide +kernel
theorem dX7_refuseSight_2 : decode cX7_refuseSight 2 = .ok (.iload_n 3, 1) := by decide +kernel
theorem dX7_refuseSight_3 : decode cX7_refuseSight 3 = .ok (.invokevirtual 120, 3) := by decide +kernel
theorem dX7_refuseSight_6 : decode cX7_refuseSight 6 = .ok (.ifCond .ne 7, 3) := by decide +kernel
theorem dX7_refuseSight_9 : decode cX7_refuseSight 9 = .ok (.sipush (-1001), 3) := by decide +kernel
theorem dX7_refuseSight_12 : decode cX7_refuseSight 12 = .ok (.ireturn, 1) := by decide +kernel
theorem dX7_refuseSight_13 : decode cX7_refuseSight 13 = .ok (.aload_n 0, 1) := by decide +kernel
theorem dX7_refuseSight_14 : decode cX7_refuseSight 14 = .ok (.iload_n 1, 1) := by decide +kernel
theorem dX7_refuseSight_15 : decode cX7_refuseSight 15 = .ok (.iload_n 2, 1) := by decide +kernel
theorem dX7_refuseSight_16 : decode cX7_refuseSight 16 = .ok (.invokevirtual 134, 3) := by decide +kernel
theorem dX7_refuseSight_19 : decode cX7_refuseSight 19 = .ok (.ifCond .eq 27, 3) := by decide +kernel
theorem dX7_refuseSight_22 : decode cX7_refuseSight 22 = .ok (.iload 4, 2) := by decide +kernel
theorem dX7_refuseSight_24 : decode cX7_refuseSight 24 = .ok (.ifCond .lt 22, 3) := by decide +kernel
theorem dX7_refuseSight_27 : decode cX7_refuseSight 27 = .ok (.iload 4, 2) := by decide +kernel
theorem dX7_refuseSight_29 : decode cX7_refuseSight 29 = .ok (.aload_n 0, 1) := by decide +kernel
theorem dX7_refuseSight_30 : decode cX7_refuseSight 30 = .ok (.getfield 18, 3) := by decide +kernel
theorem dX7_refuseSight_33 : decode cX7_refuseSight 33 = .ok (.iload_n 1, 1) := by decide +kernel
theorem dX7_refuseSight_34 : decode cX7_refuseSight 34 = .ok (.aaload, 1) := by decide +kernel
theorem dX7_refuseSight_35 : decode cX7_refuseSight 35 = .ok (.iload_n 3, 1) := by decide +kernel
theorem dX7_refuseSight_36 : decode cX7_refuseSight 36 = .ok (.invokevirtual 283, 3) := by decide +kernel
theorem dX7_refuseSight_39 : decode cX7_refuseSight 39 = .ok (.if_icmp .ge 7, 3) := by decide +kernel
theorem dX7_refuseSight_42 : decode cX7_refuseSight 42 = .ok (.iconst 1, 1) := by decide +kernel
theorem dX7_refuseSight_43 : decode cX7_refuseSight 43 = .ok (.goto 4, 3) := by decide +kernel
theorem dX7_refuseSight_46 : decode cX7_refuseSight 46 = .ok (.iconst 0, 1) := by decide +kernel
theorem dX7_refuseSight_47 : decode cX7_refuseSight 47 = .ok (.istore 5, 2) := by decide +kernel
theorem dX7_refuseSight_49 : decode cX7_refuseSight 49 = .ok (.iload 5, 2) := by decide +kernel
theorem dX7_refuseSight_51 : decode cX7_refuseSight 51 = .ok (.ifCond .eq 7, 3) := by decide +kernel
theorem dX7_refuseSight_54 : decode cX7_refuseSight 54 = .ok (.iconst 0, 1) := by decide +kernel
theorem dX7_refuseSight_55 : decode cX7_refuseSight 55 = .ok (.goto 6, 3) := by decide +kernel
theorem dX7_refuseSight_58 : decode cX7_refuseSight 58 = .ok (.sipush (-1002), 3) := by decide +kernel
theorem dX7_refuseSight_61 : decode cX7_refuseSight 61 = .ok (.ireturn, 1) := by decide +kernel
set_option maxHeartbeats 4000000 in
set_option maxRecDepth 100000 in
theorem x_refuseSight (l : Launch) (D : va_G) (k : Nat → ClassId) (st : Nat → Nat) (lo : Nat) (a : Nat → Nat) (rk : Nat) (lfa : Int32) (n0 : Nat) (see0 : Nat) (tm0 : Nat) (g0 : Nat → Int32) (n1 : Nat) (see1 : Nat) (tm1 : Nat) (g1 : Nat → Int32) (n2 : Nat) (see2 : Nat) (tm2 : Nat) (g2 : Nat → Int32) (pz : Int32) (p1 : Int32) (p2 : Int32) (p3 : Int32) (hn0 : n0 ≤ 24) (hse0 : see0 ≤ 2) (htm0 : tm0 ≤ 3) (hn1 : n1 ≤ 24) (hse1 : see1 ≤ 2) (htm1 : tm1 ≤ 3) (hn2 : n2 ≤ 24) (hse2 : see2 ≤ 2) (htm2 : tm2 ≤ 3) : CRi l D k st lo yX7_refuseSight cX7_refuseSight 6 (some .int) ({ frames := 3, cells := 0, slots := 0, locals := 81 }) [.ref (a 0), .int pz, .int p1, .int p2, .int p3] [((a 0), .inr (7, [.ref (a 1), .ref (a 3), .ref (a 19), .ref (a 35), .ref (a 40), .int (nI rk), .int lfa, .ref (a 53), .ref (a 56), .ref (a 63), .ref (a 64), .ref (a 68)])), ((a 3), .inl (k 3, 3, .inr (.inr (.inr (.inr (a3 (a 4) (a 9) (a 14))))))), ((a 4), .inr (5, [.ref (a 5), .ref (a 6), .ref (a 7), .ref (a 8)])), ((a 5), .inl (k 1, 10, .inl (vv n0 see0 tm0 g0))), ((a 9), .inr (5, [.ref (a 10), .ref (a 11), .ref (a 12), .ref (a 13)])), ((a 10), .inl (k 1, 10, .inl (vv n1 see1 tm1 g1))), ((a 14), .inr (5, [.ref (a 15), .ref (a 16), .ref (a 17), .ref (a 18)])), ((a 15), .inl (k 1, 10, .inl (vv n2 see2 tm2 g2)))] (fun r => (r = 0 ∧ ((pz = 0 ∧ ∃ rn i gg : Nat, rn ≤ 3 ∧ i < n0 ∧ gg < 8 ∧ p1 = nI rn ∧ p2 = nI i ∧ p3 = nI gg) ∨ (pz = 1 ∧ ∃ rn i gg : Nat, rn ≤ 3 ∧ i < n1 ∧ gg < 8 ∧ p1 = nI rn ∧ p2 = nI i ∧ p3 = nI gg) ∨ (pz = 2 ∧ ∃ rn i gg : Nat, rn ≤ 3 ∧ i < n2 ∧ gg < 8 ∧ p1 = nI rn ∧ p2 = nI i ∧ p3 = nI gg))) ∨ r = -1001 ∨ r = -1002) := by
  intro sz
  refine Met.ofW (cc := cX7_refuseSight) (maxL := 6) (ret := (some .int)) (by decide) rfl ?_
  intro p e s m args below meth c s₁ B hml hv
  obtain ⟨rfl, hsz, hlo, hP, hK, hDL, hZ⟩ := hv
  have hx := B.exec
  have hb := B.bytes
  have hr := B.returns
  have hts := WS_ts B.pre
  have hown : s.vm.findClass RX7 = some m.cls := findClass_of_methodNamed B.named
  have hlocks := B.notSynchronized
  subst hsz
  have hA : ∀ q : Nat, s.heap.size ≤ q → (fun q : Nat => s.heap.size ≤ q) q := fun _ h => h
  have hAlo : ∀ q : Nat, (fun q : Nat => s.heap.size ≤ q) q → lo ≤ q := fun q h => Nat.le_trans hlo h
  have hS : va_S (fun q : Nat => s.heap.size ≤ q) s.heap s.heap [] := va_S.rf
  have hl := lv_entry ([.ref (a 0), .int pz, .int p1, .int p2, .int p3]) (n := 6) (Nat.le_of_ble_eq_true rfl)
  rw [lg_entry_eq]
  generalize (lg_sl ([.ref (a 0), .int pz, .int p1, .int p2, .int p3]) ++ List.replicate (6 - (lg_sl ([.ref (a 0), .int pz, .int p1, .int p2, .int p3])).length) Slot.unset).toArray = ls at hl ⊢
  have hl : lv_has ls 6 [(0, .ref (a 0)), (1, .int pz), (2, .int p1), (3, .int p2), (4, .int p3)] := hl
  refine lv_aload_n hx hb dX7_refuseSight_0 rfl (lv_at hl 0 rfl) ?_
  refine lv_iload_n hx hb dX7_refuseSight_1 rfl (lv_at hl 1 rfl) ?_
  refine lv_iload_n hx hb dX7_refuseSight_2 rfl (lv_at hl 3 rfl) ?_
  refine ro_i (D := D) (va_runV (As := [.int pz, .int p2]) (rest := []) ⟨hx, hb, hml, hown, hts⟩ ((x_isDoor l D k st lo a rk lfa n0 see0 tm0 g0 n1 see1 tm1 g1 n2 see2 tm2 g2 pz p2 (by omega) (by omega) (by omega)) s.heap.size) (cwV 2 hts (gV tw_600 tw_602 tw_9 tw_79 tw_603) rfl rfl rfl (by decide +kernel) ⟨Nat.le_of_ble_eq_true rfl, Nat.le_of_ble_eq_true rfl⟩) (pV hS hAlo hlo hP hK hDL hZ [0, 1, 2, 3, 4, 5, 6, 7] (by decide) rfl (ci := 7) (q0 := 0) rfl rfl) rfl rfl hl.1 rfl (lv_room (Nat.le_of_ble_eq_true rfl)) dX7_refuseSight_3 ⟨Nat.le_of_ble_eq_true rfl, Nat.le_of_ble_eq_true rfl⟩) hS hA hP (fun r_1 H locs hw_1 hP hS => ?_)
  try dsimp only at hw_1
  rcases hw_1 with ⟨rfl, ⟨rfl, id_2, hid_2, rfl⟩ | ⟨rfl, id_2, hid_2, rfl⟩ | ⟨rfl, id_2, hid_2, rfl⟩⟩ | rfl
  · refine lv_if_ne (tgt := 13) hx hb dX7_refuseSight_6 (by decide) (fun _ => ?_) (fun h => absurd h (by decide))
    refine lv_aload_n hx hb dX7_refuseSight_13 rfl (lv_at hl 0 rfl) ?_
    refine lv_iload_n hx hb dX7_refuseSight_14 rfl (lv_at hl 1 rfl) ?_
    refine lv_iload_n hx hb dX7_refuseSight_15 rfl (lv_at hl 2 rfl) ?_
    refine ro_i (D := D) (va_runV (As := [.int 0, .int p1]) (rest := []) ⟨hx, hb, hml, hown, hts⟩ ((x_isRound_0 l D k st lo a rk lfa n0 see0 tm0 g0 p1 (by omega)) H.size) (cwV 2 hts (gV tw_613 tw_615 tw_10 tw_79 tw_616) rfl rfl rfl (by decide +kernel) ⟨Nat.le_of_ble_eq_true rfl, Nat.le_of_ble_eq_true rfl⟩) (pV hS hAlo hlo hP hK hDL hZ [0, 1, 2, 3] (by decide) rfl (ci := 7) (q0 := 0) rfl rfl) rfl rfl hl.1 rfl (lv_room (Nat.le_of_ble_eq_true rfl)) dX7_refuseSight_16 ⟨Nat.le_of_ble_eq_true rfl, Nat.le_of_ble_eq_true rfl⟩) hS hA hP (fun r_3 H locs hw_3 hP hS => ?_)
    try dsimp only at hw_3
    rcases hw_3 with ⟨rfl, ir_4, hir_4, rfl⟩ | rfl
    · refine lv_if_eq (tgt := 46) hx hb dX7_refuseSight_19 (by decide) (fun h => absurd h (by decide)) (fun _ => ?_)
      refine lv_iload hx hb dX7_refuseSight_22 (lv_at hl 4 rfl) ?_
      refine lv_if_lt (tgt := 46) hx hb dX7_refuseSight_24 (by decide) (fun c_5 => ?_) (fun c_5 => ?_)
      · refine lv_iconst (v := 0) hx hb dX7_refuseSight_46 (by decide) ?_
        refine lv_istore (lv' := [(5, .int 0), (0, .ref (a 0)), (1, .int 0), (2, .int (nI ir_4)), (3, .int (nI id_2)), (4, .int p3)]) hx hb dX7_refuseSight_47 hl (by decide) rfl (fun ls hl => ?_)
        refine lv_iload hx hb dX7_refuseSight_49 (lv_at hl 0 rfl) ?_
        refine lv_if_eq (tgt := 58) hx hb dX7_refuseSight_51 (by decide) (fun _ => ?_) (fun h => absurd (by decide) h)
        refine lv_sipush (v := (-1002)) hx hb dX7_refuseSight_58 (by decide) ?_
        exact W.iret (v := (-1002)) hx hb hr (fun t ht hW => ⟨⟨(-1002), (), rfl, .inr (.inr rfl), trivial⟩, hS.F ht⟩) hS.2.2 dX7_refuseSight_61
      · obtain ⟨ig_9, hig_9, rfl⟩ := nI_of c_5
        refine lv_iload hx hb dX7_refuseSight_27 (lv_at hl 4 rfl) ?_
        refine lv_aload_n hx hb dX7_refuseSight_29 rfl (lv_at hl 0 rfl) ?_
        refine va_get (D := D) (ci := 7) (v := .ref (a 3)) (C := RX7) (T := TX7) (N := 12) hx hb hts inX7 hown hK hP 0 rfl rfl 1 (by decide) (hts _ tw_306) (fun _ h9 => h9) rfl dX7_refuseSight_30 ?_
        refine lv_iload_n hx hb dX7_refuseSight_33 rfl (lv_at hl 1 rfl) ?_
        refine va_aldq hx hb hK hP 1 3 rfl rfl (by unfold vp_in; decide) dX7_refuseSight_34 ?_
        refine lv_tr (y := .ref (a 4)) rfl ?_
        refine lv_iload_n hx hb dX7_refuseSight_35 rfl (lv_at hl 3 rfl) ?_
        refine ro_i (D := D) (va_runV (As := [.int (nI id_2)]) (rest := [.int (nI ig_9)]) ⟨hx, hb, hml, hown, hts⟩ ((x_sightsAt l D k st lo (a 4) (a 5) (a 6) (a 7) (a 8) n0 see0 tm0 g0 id_2 (by omega) (by omega) (by omega)) H.size) (cwV 1 hts (gV tw_626 tw_537 tw_538 tw_81 tw_539) rfl rfl rfl (by decide +kernel) ⟨Nat.le_of_ble_eq_true rfl, Nat.le_of_ble_eq_true rfl⟩) (pV hS hAlo hlo hP hK hDL hZ [2, 3] (by decide) rfl (ci := 5) (q0 := 0) rfl rfl) rfl rfl hl.1 rfl (lv_room (Nat.le_of_ble_eq_true rfl)) dX7_refuseSight_36 ⟨Nat.le_of_ble_eq_true rfl, Nat.le_of_ble_eq_true rfl⟩) hS hA hP (fun r_6 H locs hw_6 hP hS => ?_)
        try dsimp only at hw_6
        obtain ⟨zs_7, rfl, hza_7, hzb_7, hzq_7⟩ := hw_6
        refine lv_icmp_ge (tgt := 46) hx hb dX7_refuseSight_39 (by decide) (fun c_8 => ?_) (fun c_8 => ?_)
        · have c_8 := (nI_leI (a := zs_7) (b := ig_9) (by omega) (by omega)).mp c_8
          refine lv_iconst (v := 0) hx hb dX7_refuseSight_46 (by decide) ?_
          refine lv_istore (lv' := [(5, .int 0), (0, .ref (a 0)), (1, .int 0), (2, .int (nI ir_4)), (3, .int (nI id_2)), (4, .int (nI ig_9))]) hx hb dX7_refuseSight_47 hl (by decide) rfl (fun ls hl => ?_)
          refine lv_iload hx hb dX7_refuseSight_49 (lv_at hl 0 rfl) ?_
          refine lv_if_eq (tgt := 58) hx hb dX7_refuseSight_51 (by decide) (fun _ => ?_) (fun h => absurd (by decide) h)
          refine lv_sipush (v := (-1002)) hx hb dX7_refuseSight_58 (by decide) ?_
          exact W.iret (v := (-1002)) hx hb hr (fun t ht hW => ⟨⟨(-1002), (), rfl, .inr (.inr rfl), trivial⟩, hS.F ht⟩) hS.2.2 dX7_refuseSight_61
        · have c_8 : ¬ (zs_7 ≤ ig_9) := fun h => c_8 ((nI_leI (a := zs_7) (b := ig_9) (by omega) (by omega)).mpr h)
          refine lv_iconst (v := 1) hx hb dX7_refuseSight_42 (by decide) ?_
          refine lv_goto (tgt := 47) hx hb dX7_refuseSight_43 (by decide) ?_
          refine lv_istore (lv' := [(5, .int 1), (0, .ref (a 0)), (1, .int 0), (2, .int (nI ir_4)), (3, .int (nI id_2)), (4, .int (nI ig_9))]) hx hb dX7_refuseSight_47 hl (by decide) rfl (fun ls hl => ?_)
          refine lv_iload hx hb dX7_refuseSight_49 (lv_at hl 0 rfl) ?_
          refine lv_if_eq (tgt := 58) hx hb dX7_refuseSight_51 (by decide) (fun h => absurd h (by decide)) (fun _ => ?_)
          refine lv_iconst (v := 0) hx hb dX7_refuseSight_54 (by decide) ?_
          refine lv_goto (tgt := 61) hx hb dX7_refuseSight_55 (by decide) ?_
          exact W.iret (v := 0) hx hb hr (fun t ht hW => ⟨⟨0, (), rfl, .inl ⟨rfl, .inl ⟨rfl, _, _, _, by omega, by omega, by omega, rfl, rfl, rfl⟩⟩, trivial⟩, hS.F ht⟩) hS.2.2 dX7_refuseSight_61
    · refine lv_if_eq (tgt := 46) hx hb dX7_refuseSight_19 (by decide) (fun _ => ?_) (fun h => absurd (by decide) h)
      refine lv_iconst (v := 0) hx hb dX7_refuseSight_46 (by decide) ?_
      refine lv_istore (lv' := [(5, .int 0), (0, .ref (a 0)), (1, .int 0), (2, .int p1), (3, .int (nI id_2)), (4, .int p3)]) hx hb dX7_refuseSight_47 hl (by decide) rfl (fun ls hl => ?_)
      refine lv_iload hx hb dX7_refuseSight_49 (lv_at hl 0 rfl) ?_
      refine lv_if_eq (tgt := 58) hx hb dX7_refuseSight_51 (by decide) (fun _ => ?_) (fun h => absurd (by decide) h)
      refine lv_sipush (v := (-1002)) hx hb dX7_refuseSight_58 (by decide) ?_
      exact W.iret (v := (-1002)) hx hb hr (fun t ht hW => ⟨⟨(-1002), (), rfl, .inr (.inr rfl), trivial⟩, hS.F ht⟩) hS.2.2 dX7_refuseSight_61
  · refine lv_if_ne (tgt := 13) hx hb dX7_refuseSight_6 (by decide) (fun _ => ?_) (fun h => absurd h (by decide))
    refine lv_aload_n hx hb dX7_refuseSight_13 rfl (lv_at hl 0 rfl) ?_
    refine lv_iload_n hx hb dX7_refuseSight_14 rfl (lv_at hl 1 rfl) ?_
    refine lv_iload_n hx hb dX7_refuseSight_15 rfl (lv_at hl 2 rfl) ?_
    refine ro_i (D := D) (va_runV (As := [.int 1, .int p1]) (rest := []) ⟨hx, hb, hml, hown, hts⟩ ((x_isRound_1 l D k st lo a rk lfa n1 see1 tm1 g1 p1 (by omega)) H.size) (cwV 2 hts (gV tw_613 tw_615 tw_10 tw_79 tw_616) rfl rfl rfl (by decide +kernel) ⟨Nat.le_of_ble_eq_true rfl, Nat.le_of_ble_eq_true rfl⟩) (pV hS hAlo hlo hP hK hDL hZ [0, 1, 4, 5] (by decide) rfl (ci := 7) (q0 := 0) rfl rfl) rfl rfl hl.1 rfl (lv_room (Nat.le_of_ble_eq_true rfl)) dX7_refuseSight_16 ⟨Nat.le_of_ble_eq_true rfl, Nat.le_of_ble_eq_true rfl⟩) hS hA hP (fun r_9 H locs hw_9 hP hS => ?_)
    try dsimp only at hw_9
    rcases hw_9 with ⟨rfl, ir_10, hir_10, rfl⟩ | rfl
    · refine lv_if_eq (tgt := 46) hx hb dX7_refuseSight_19 (by decide) (fun h => absurd h (by decide)) (fun _ => ?_)
      refine lv_iload hx hb dX7_refuseSight_22 (lv_at hl 4 rfl) ?_
      refine lv_if_lt (tgt := 46) hx hb dX7_refuseSight_24 (by decide) (fun c_11 => ?_) (fun c_11 => ?_)
      · refine lv_iconst (v := 0) hx hb dX7_refuseSight_46 (by decide) ?_
        refine lv_istore (lv' := [(5, .int 0), (0, .ref (a 0)), (1, .int 1), (2, .int (nI ir_10)), (3, .int (nI id_2)), (4, .int p3)]) hx hb dX7_refuseSight_47 hl (by decide) rfl (fun ls hl => ?_)
        refine lv_iload hx hb dX7_refuseSight_49 (lv_at hl 0 rfl) ?_
        refine lv_if_eq (tgt := 58) hx hb dX7_refuseSight_51 (by decide) (fun _ => ?_) (fun h => absurd (by decide) h)
        refine lv_sipush (v := (-1002)) hx hb dX7_refuseSight_58 (by decide) ?_
        exact W.iret (v := (-1002)) hx hb hr (fun t ht hW => ⟨⟨(-1002), (), rfl, .inr (.inr rfl), trivial⟩, hS.F ht⟩) hS.2.2 dX7_refuseSight_61
      · obtain ⟨ig_9, hig_9, rfl⟩ := nI_of c_11
        refine lv_iload hx hb dX7_refuseSight_27 (lv_at hl 4 rfl) ?_
        refine lv_aload_n hx hb dX7_refuseSight_29 rfl (lv_at hl 0 rfl) ?_
        refine va_get (D := D) (ci := 7) (v := .ref (a 3)) (C := RX7) (T := TX7) (N := 12) hx hb hts inX7 hown hK hP 0 rfl rfl 1 (by decide) (hts _ tw_306) (fun _ h9 => h9) rfl dX7_refuseSight_30 ?_
        refine lv_iload_n hx hb dX7_refuseSight_33 rfl (lv_at hl 1 rfl) ?_
        refine va_aldq hx hb hK hP 1 3 rfl rfl (by unfold vp_in; decide) dX7_refuseSight_34 ?_
        refine lv_tr (y := .ref (a 9)) rfl ?_
        refine lv_iload_n hx hb dX7_refuseSight_35 rfl (lv_at hl 3 rfl) ?_
        refine ro_i (D := D) (va_runV (As := [.int (nI id_2)]) (rest := [.int (nI ig_9)]) ⟨hx, hb, hml, hown, hts⟩ ((x_sightsAt l D k st lo (a 9) (a 10) (a 11) (a 12) (a 13) n1 see1 tm1 g1 id_2 (by omega) (by omega) (by omega)) H.size) (cwV 1 hts (gV tw_626 tw_537 tw_538 tw_81 tw_539) rfl rfl rfl (by decide +kernel) ⟨Nat.le_of_ble_eq_true rfl, Nat.le_of_ble_eq_true rfl⟩) (pV hS hAlo hlo hP hK hDL hZ [4, 5] (by decide) rfl (ci := 5) (q0 := 0) rfl rfl) rfl rfl hl.1 rfl (lv_room (Nat.le_of_ble_eq_true rfl)) dX7_refuseSight_36 ⟨Nat.le_of_ble_eq_true rfl, Nat.le_of_ble_eq_true rfl⟩) hS hA hP (fun r_12 H locs hw_12 hP hS => ?_)
        try dsimp only at hw_12
        obtain ⟨zs_13, rfl, hza_13, hzb_13, hzq_13⟩ := hw_12
        refine lv_icmp_ge (tgt := 46) hx hb dX7_refuseSight_39 (by decide) (fun c_14 => ?_) (fun c_14 => ?_)
        · have c_14 := (nI_leI (a := zs_13) (b := ig_9) (by omega) (by omega)).mp c_14
          refine lv_iconst (v := 0) hx hb dX7_refuseSight_46 (by decide) ?_
          refine lv_istore (lv' := [(5, .int 0), (0, .ref (a 0)), (1, .int 1), (2, .int (nI ir_10)), (3, .int (nI id_2)), (4, .int (nI ig_9))]) hx hb dX7_refuseSight_47 hl (by decide) rfl (fun ls hl => ?_)
          refine lv_iload hx hb dX7_refuseSight_49 (lv_at hl 0 rfl) ?_
          refine lv_if_eq (tgt := 58) hx hb dX7_refuseSight_51 (by decide) (fun _ => ?_) (fun h => absurd (by decide) h)
          refine lv_sipush (v := (-1002)) hx hb dX7_refuseSight_58 (by decide) ?_
          exact W.iret (v := (-1002)) hx hb hr (fun t ht hW => ⟨⟨(-1002), (), rfl, .inr (.inr rfl), trivial⟩, hS.F ht⟩) hS.2.2 dX7_refuseSight_61
        · have c_14 : ¬ (zs_13 ≤ ig_9) := fun h => c_14 ((nI_leI (a := zs_13) (b := ig_9) (by omega) (by omega)).mpr h)
          refine lv_iconst (v := 1) hx hb dX7_refuseSight_42 (by decide) ?_
          refine lv_goto (tgt := 47) hx hb dX7_refuseSight_43 (by decide) ?_
          refine lv_istore (lv' := [(5, .int 1), (0, .ref (a 0)), (1, .int 1), (2, .int (nI ir_10)), (3, .int (nI id_2)), (4, .int (nI ig_9))]) hx hb dX7_refuseSight_47 hl (by decide) rfl (fun ls hl => ?_)
          refine lv_iload hx hb dX7_refuseSight_49 (lv_at hl 0 rfl) ?_
          refine lv_if_eq (tgt := 58) hx hb dX7_refuseSight_51 (by decide) (fun h => absurd h (by decide)) (fun _ => ?_)
          refine lv_iconst (v := 0) hx hb dX7_refuseSight_54 (by decide) ?_
          refine lv_goto (tgt := 61) hx hb dX7_refuseSight_55 (by decide) ?_
          exact W.iret (v := 0) hx hb hr (fun t ht hW => ⟨⟨0, (), rfl, .inl ⟨rfl, .inr (.inl ⟨rfl, _, _, _, by omega, by omega, by omega, rfl, rfl, rfl⟩)⟩, trivial⟩, hS.F ht⟩) hS.2.2 dX7_refuseSight_61
    · refine lv_if_eq (tgt := 46) hx hb dX7_refuseSight_19 (by decide) (fun _ => ?_) (fun h => absurd (by decide) h)
      refine lv_iconst (v := 0) hx hb dX7_refuseSight_46 (by decide) ?_
      refine lv_istore (lv' := [(5, .int 0), (0, .ref (a 0)), (1, .int 1), (2, .int p1), (3, .int (nI id_2)), (4, .int p3)]) hx hb dX7_refuseSight_47 hl (by decide) rfl (fun ls hl => ?_)
      refine lv_iload hx hb dX7_refuseSight_49 (lv_at hl 0 rfl) ?_
      refine lv_if_eq (tgt := 58) hx hb dX7_refuseSight_51 (by decide) (fun _ => ?_) (fun h => absurd (by decide) h)
      refine lv_sipush (v := (-1002)) hx hb dX7_refuseSight_58 (by decide) ?_
      exact W.iret (v := (-1002)) hx hb hr (fun t ht hW => ⟨⟨(-1002), (), rfl, .inr (.inr rfl), trivial⟩, hS.F ht⟩) hS.2.2 dX7_refuseSight_61
  · refine lv_if_ne (tgt := 13) hx hb dX7_refuseSight_6 (by decide) (fun _ => ?_) (fun h => absurd h (by decide))
    refine lv_aload_n hx hb dX7_refuseSight_13 rfl (lv_at hl 0 rfl) ?_
    refine lv_iload_n hx hb dX7_refuseSight_14 rfl (lv_at hl 1 rfl) ?_
    refine lv_iload_n hx hb dX7_refuseSight_15 rfl (lv_at hl 2 rfl) ?_
    refine ro_i (D := D) (va_runV (As := [.int 2, .int p1]) (rest := []) ⟨hx, hb, hml, hown, hts⟩ ((x_isRound_2 l D k st lo a rk lfa n2 see2 tm2 g2 p1 (by omega)) H.size) (cwV 2 hts (gV tw_613 tw_615 tw_10 tw_79 tw_616) rfl rfl rfl (by decide +kernel) ⟨Nat.le_of_ble_eq_true rfl, Nat.le_of_ble_eq_true rfl⟩) (pV hS hAlo hlo hP hK hDL hZ [0, 1, 6, 7] (by decide) rfl (ci := 7) (q0 := 0) rfl rfl) rfl rfl hl.1 rfl (lv_room (Nat.le_of_ble_eq_true rfl)) dX7_refuseSight_16 ⟨Nat.le_of_ble_eq_true rfl, Nat.le_of_ble_eq_true rfl⟩) hS hA hP (fun r_15 H locs hw_15 hP hS => ?_)
    try dsimp only at hw_15
    rcases hw_15 with ⟨rfl, ir_16, hir_16, rfl⟩ | rfl
    · refine lv_if_eq (tgt := 46) hx hb dX7_refuseSight_19 (by decide) (fun h => absurd h (by decide)) (fun _ => ?_)
      refine lv_iload hx hb dX7_refuseSight_22 (lv_at hl 4 rfl) ?_
      refine lv_if_lt (tgt := 46) hx hb dX7_refuseSight_24 (by decide) (fun c_17 => ?_) (fun c_17 => ?_)
      · refine lv_iconst (v := 0) hx hb dX7_refuseSight_46 (by decide) ?_
        refine lv_istore (lv' := [(5, .int 0), (0, .ref (a 0)), (1, .int 2), (2, .int (nI ir_16)), (3, .int (nI id_2)), (4, .int p3)]) hx hb dX7_refuseSight_47 hl (by decide) rfl (fun ls hl => ?_)
        refine lv_iload hx hb dX7_refuseSight_49 (lv_at hl 0 rfl) ?_
        refine lv_if_eq (tgt := 58) hx hb dX7_refuseSight_51 (by decide) (fun _ => ?_) (fun h => absurd (by decide) h)
        refine lv_sipush (v := (-1002)) hx hb dX7_refuseSight_58 (by decide) ?_
        exact W.iret (v := (-1002)) hx hb hr (fun t ht hW => ⟨⟨(-1002), (), rfl, .inr (.inr rfl), trivial⟩, hS.F ht⟩) hS.2.2 dX7_refuseSight_61
      · obtain ⟨ig_9, hig_9, rfl⟩ := nI_of c_17
        refine lv_iload hx hb dX7_refuseSight_27 (lv_at hl 4 rfl) ?_
        refine lv_aload_n hx hb dX7_refuseSight_29 rfl (lv_at hl 0 rfl) ?_
        refine va_get (D := D) (ci := 7) (v := .ref (a 3)) (C := RX7) (T := TX7) (N := 12) hx hb hts inX7 hown hK hP 0 rfl rfl 1 (by decide) (hts _ tw_306) (fun _ h9 => h9) rfl dX7_refuseSight_30 ?_
        refine lv_iload_n hx hb dX7_refuseSight_33 rfl (lv_at hl 1 rfl) ?_
        refine va_aldq hx hb hK hP 1 3 rfl rfl (by unfold vp_in; decide) dX7_refuseSight_34 ?_
        refine lv_tr (y := .ref (a 14)) rfl ?_
        refine lv_iload_n hx hb dX7_refuseSight_35 rfl (lv_at hl 3 rfl) ?_
        refine ro_i (D := D) (va_runV (As := [.int (nI id_2)]) (rest := [.int (nI ig_9)]) ⟨hx, hb, hml, hown, hts⟩ ((x_sightsAt l D k st lo (a 14) (a 15) (a 16) (a 17) (a 18) n2 see2 tm2 g2 id_2 (by omega) (by omega) (by omega)) H.size) (cwV 1 hts (gV tw_626 tw_537 tw_538 tw_81 tw_539) rfl rfl rfl (by decide +kernel) ⟨Nat.le_of_ble_eq_true rfl, Nat.le_of_ble_eq_true rfl⟩) (pV hS hAlo hlo hP hK hDL hZ [6, 7] (by decide) rfl (ci := 5) (q0 := 0) rfl rfl) rfl rfl hl.1 rfl (lv_room (Nat.le_of_ble_eq_true rfl)) dX7_refuseSight_36 ⟨Nat.le_of_ble_eq_true rfl, Nat.le_of_ble_eq_true rfl⟩) hS hA hP (fun r_18 H locs hw_18 hP hS => ?_)
        try dsimp only at hw_18
        obtain ⟨zs_19, rfl, hza_19, hzb_19, hzq_19⟩ := hw_18
        refine lv_icmp_ge (tgt := 46) hx hb dX7_refuseSight_39 (by decide) (fun c_20 => ?_) (fun c_20 => ?_)
        · have c_20 := (nI_leI (a := zs_19) (b := ig_9) (by omega) (by omega)).mp c_20
          refine lv_iconst (v := 0) hx hb dX7_refuseSight_46 (by decide) ?_
          refine lv_istore (lv' := [(5, .int 0), (0, .ref (a 0)), (1, .int 2), (2, .int (nI ir_16)), (3, .int (nI id_2)), (4, .int (nI ig_9))]) hx hb dX7_refuseSight_47 hl (by decide) rfl (fun ls hl => ?_)
          refine lv_iload hx hb dX7_refuseSight_49 (lv_at hl 0 rfl) ?_
          refine lv_if_eq (tgt := 58) hx hb dX7_refuseSight_51 (by decide) (fun _ => ?_) (fun h => absurd (by decide) h)
          refine lv_sipush (v := (-1002)) hx hb dX7_refuseSight_58 (by decide) ?_
          exact W.iret (v := (-1002)) hx hb hr (fun t ht hW => ⟨⟨(-1002), (), rfl, .inr (.inr rfl), trivial⟩, hS.F ht⟩) hS.2.2 dX7_refuseSight_61
        · have c_20 : ¬ (zs_19 ≤ ig_9) := fun h => c_20 ((nI_leI (a := zs_19) (b := ig_9) (by omega) (by omega)).mpr h)
          refine lv_iconst (v := 1) hx hb dX7_refuseSight_42 (by decide) ?_
          refine lv_goto (tgt := 47) hx hb dX7_refuseSight_43 (by decide) ?_
          refine lv_istore (lv' := [(5, .int 1), (0, .ref (a 0)), (1, .int 2), (2, .int (nI ir_16)), (3, .int (nI id_2)), (4, .int (nI ig_9))]) hx hb dX7_refuseSight_47 hl (by decide) rfl (fun ls hl => ?_)
          refine lv_iload hx hb dX7_refuseSight_49 (lv_at hl 0 rfl) ?_
          refine lv_if_eq (tgt := 58) hx hb dX7_refuseSight_51 (by decide) (fun h => absurd h (by decide)) (fun _ => ?_)
          refine lv_iconst (v := 0) hx hb dX7_refuseSight_54 (by decide) ?_
          refine lv_goto (tgt := 61) hx hb dX7_refuseSight_55 (by decide) ?_
          exact W.iret (v := 0) hx hb hr (fun t ht hW => ⟨⟨0, (), rfl, .inl ⟨rfl, .inr (.inr ⟨rfl, _, _, _, by omega, by omega, by omega, rfl, rfl, rfl⟩)⟩, trivial⟩, hS.F ht⟩) hS.2.2 dX7_refuseSight_61
    · refine lv_if_eq (tgt := 46) hx hb dX7_refuseSight_19 (by decide) (fun _ => ?_) (fun h => absurd (by decide) h)
      refine lv_iconst (v := 0) hx hb dX7_refuseSight_46 (by decide) ?_
      refine lv_istore (lv' := [(5, .int 0), (0, .ref (a 0)), (1, .int 2), (2, .int p1), (3, .int (nI id_2)), (4, .int p3)]) hx hb dX7_refuseSight_47 hl (by decide) rfl (fun ls hl => ?_)
      refine lv_iload hx hb dX7_refuseSight_49 (lv_at hl 0 rfl) ?_
      refine lv_if_eq (tgt := 58) hx hb dX7_refuseSight_51 (by decide) (fun _ => ?_) (fun h => absurd (by decide) h)
      refine lv_sipush (v := (-1002)) hx hb dX7_refuseSight_58 (by decide) ?_
      exact W.iret (v := (-1002)) hx hb hr (fun t ht hW => ⟨⟨(-1002), (), rfl, .inr (.inr rfl), trivial⟩, hS.F ht⟩) hS.2.2 dX7_refuseSight_61
  · refine lv_if_ne (tgt := 13) hx hb dX7_refuseSight_6 (by decide) (fun h => absurd (by decide) h) (fun _ => ?_)
    refine lv_sipush (v := (-1001)) hx hb dX7_refuseSight_9 (by decide) ?_
    exact W.iret (v := (-1001)) hx hb hr (fun t ht hW => ⟨⟨(-1001), (), rfl, .inr (.inl rfl), trivial⟩, hS.F ht⟩) hS.2.2 dX7_refuseSight_12


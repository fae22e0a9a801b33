
set_option maxHeartbeats 4000000 in
set_option maxRecDepth 100000 in
theorem y_refuseSight (l : Launch) (D : va_G) (k : Nat → ClassId) (st : Nat → Nat) (lo : Nat) (a : Nat → Nat) (rk : Nat) (lfa : Int32) (n0 : Nat) (see0 : Nat) (tm0 : Nat) (g0 : Nat → Int32) (n1 : Nat) (see1 : Nat) (tm1 : Nat) (g1 : Nat → Int32) (n2 : Nat) (see2 : Nat) (tm2 : Nat) (g2 : Nat → Int32) (pz : Int32) (p1 : Int32) (p2 : Int32) (p3 : Int32) (hn0 : n0 ≤ 24) (hse0 : see0 ≤ 2) (htm0 : tm0 ≤ 3) (hn1 : n1 ≤ 24) (hse1 : see1 ≤ 2) (htm1 : tm1 ≤ 3) (hn2 : n2 ≤ 24) (hse2 : see2 ≤ 2) (htm2 : tm2 ≤ 3) : CRi l D k st lo yX7_refuseSight cX7_refuseSight 6 (some .int) ({ frames := 3, cells := 0, slots := 0, locals := 81 }) [.ref (a 0), .int pz, .int p1, .int p2, .int p3] [((a 0), .inr (7, (fX7 (a 1) (a 3) (a 19) (a 35) (a 40) (nI rk) lfa (a 53) (a 56) (a 63) (a 64) (a 68)))), ((a 3), .inl (k 3, 3, .inr (.inr (.inr (.inr (a3 (a 4) (a 9) (a 14))))))), ((a 4), .inr (5, (fX5 (a 5) (a 6) (a 7) (a 8)))), (aI k (a 5) 10 (vv n0 see0 tm0 g0)), ((a 9), .inr (5, (fX5 (a 10) (a 11) (a 12) (a 13)))), (aI k (a 10) 10 (vv n1 see1 tm1 g1)), ((a 14), .inr (5, (fX5 (a 15) (a 16) (a 17) (a 18)))), (aI k (a 15) 10 (vv n2 see2 tm2 g2))] (fun r => (r = 0 ∧ ((pz = 0 ∧ ∃ rn i gg : Nat, rn ≤ tm0 ∧ i < n0 ∧ gg < 2 ^ sqN see0 n0 i ∧ p1 = nI rn ∧ p2 = nI i ∧ p3 = nI gg) ∨ (pz = 1 ∧ ∃ rn i gg : Nat, rn ≤ tm1 ∧ i < n1 ∧ gg < 2 ^ sqN see1 n1 i ∧ p1 = nI rn ∧ p2 = nI i ∧ p3 = nI gg) ∨ (pz = 2 ∧ ∃ rn i gg : Nat, rn ≤ tm2 ∧ i < n2 ∧ gg < 2 ^ sqN see2 n2 i ∧ p1 = nI rn ∧ p2 = nI i ∧ p3 = nI gg))) ∨ (r = -1001 ∧ ∀ s, s < 3 → pz = nI s → ∀ i, p2 = nI i → ¬ i < d3 n0 n1 n2 s) ∨ (r = -1002 ∧ ((pz = 0 ∧ ∃ i : Nat, i < n0 ∧ p2 = nI i ∧ ∀ rn gg, rn ≤ tm0 → p1 = nI rn → p3 = nI gg → ¬ gg < 2 ^ sqN see0 n0 i) ∨ (pz = 1 ∧ ∃ i : Nat, i < n1 ∧ p2 = nI i ∧ ∀ rn gg, rn ≤ tm1 → p1 = nI rn → p3 = nI gg → ¬ gg < 2 ^ sqN see1 n1 i) ∨ (pz = 2 ∧ ∃ i : Nat, i < n2 ∧ p2 = nI i ∧ ∀ rn gg, rn ≤ tm2 → p1 = nI rn → p3 = nI gg → ¬ gg < 2 ^ sqN see2 n2 i)))) := by
  intro sz
  refine Met.ofW (cc := cX7_refuseSight) (maxL := 6) (ret := (some .int)) (by decide) rfl ?_
  intro p e s m args below meth c s₁ B hml hv
  obtain ⟨rfl, hsz, hlo, hP, hK, hDL, hZ⟩ := hv
  have hx := B.exec
  have hb := B.bytes
  have hr := B.returns
  have hts := WS_ts B.pre
  have hown : s.vm.findClass RX7 = some m.cls := findClass_of_methodNamed B.named
  have hlocks := B.notSynchronized
  subst hsz
  have hA : ∀ q : Nat, s.heap.size ≤ q → (fun q : Nat => s.heap.size ≤ q) q := fun _ h => h
  have hAlo : ∀ q : Nat, (fun q : Nat => s.heap.size ≤ q) q → lo ≤ q := fun q h => Nat.le_trans hlo h
  have hS : va_S (fun q : Nat => s.heap.size ≤ q) s.heap s.heap [] := va_S.rf
  have hl := lv_entry ([.ref (a 0), .int pz, .int p1, .int p2, .int p3]) (n := 6) (Nat.le_of_ble_eq_true rfl)
  rw [lg_entry_eq]
  generalize (lg_sl ([.ref (a 0), .int pz, .int p1, .int p2, .int p3]) ++ List.replicate (6 - (lg_sl ([.ref (a 0), .int pz, .int p1, .int p2, .int p3])).length) Slot.unset).toArray = ls at hl ⊢
  have hl : lv_has ls 6 [(0, .ref (a 0)), (1, .int pz), (2, .int p1), (3, .int p2), (4, .int p3)] := hl
  refine lv_aload_n hx hb dX7_refuseSight_0 rfl (lv_at hl 0 rfl) ?_
  refine lv_iload_n hx hb dX7_refuseSight_1 rfl (lv_at hl 1 rfl) ?_
  refine lv_iload_n hx hb dX7_refuseSight_2 rfl (lv_at hl 3 rfl) ?_
  refine ro_i (D := D) (va_runV (As := [.int pz, .int p2]) (rest := []) ⟨hx, hb, hml, hown, hts⟩ ((y_isDoor l D k st lo a rk lfa n0 see0 tm0 g0 n1 see1 tm1 g1 n2 see2 tm2 g2 pz p2 (by first | assumption | omega) (by first | assumption | omega) (by first | assumption | omega)) s.heap.size) (cwV 2 hts (gV tw_600 tw_602 tw_9 tw_79 tw_603) rfl rfl rfl (by decide +kernel) ⟨Nat.le_of_ble_eq_true rfl, Nat.le_of_ble_eq_true rfl⟩) (pV hS hAlo hlo hP hK hDL hZ [0, 1, 2, 3, 4, 5, 6, 7] (by decide) rfl (ci := 7) (q := (RX7, TX7, 12)) (q0 := 0) rfl rfl) rfl rfl hl.1 rfl (lv_room (Nat.le_of_ble_eq_true rfl)) dX7_refuseSight_3 ⟨Nat.le_of_ble_eq_true rfl, Nat.le_of_ble_eq_true rfl⟩) hS hA hP (fun r_1 H locs hw_1 hP hS => ?_)
  try dsimp only at hw_1
  rcases hw_1 with ⟨rfl, ⟨rfl, id_2, hid_2, rfl⟩ | ⟨rfl, id_2, hid_2, rfl⟩ | ⟨rfl, id_2, hid_2, rfl⟩⟩ | ⟨rfl, hw_1⟩
  · refine lv_if_ne (tgt := 13) hx hb dX7_refuseSight_6 (by decide) (fun _ => ?_) (fun h => absurd h (by decide))
    refine lv_aload_n hx hb dX7_refuseSight_13 rfl (lv_at hl 0 rfl) ?_
    refine lv_iload_n hx hb dX7_refuseSight_14 rfl (lv_at hl 1 rfl) ?_
    refine lv_iload_n hx hb dX7_refuseSight_15 rfl (lv_at hl 2 rfl) ?_
    refine ro_i (D := D) (va_runV (As := [.int 0, .int p1]) (rest := []) ⟨hx, hb, hml, hown, hts⟩ ((y_isRound_0 l D k st lo a rk lfa n0 see0 tm0 g0 p1 (by first | assumption | omega)) H.size) (cwV 2 hts (gV tw_613 tw_615 tw_10 tw_79 tw_616) rfl rfl rfl (by decide +kernel) ⟨Nat.le_of_ble_eq_true rfl, Nat.le_of_ble_eq_true rfl⟩) (pV hS hAlo hlo hP hK hDL hZ [0, 1, 2, 3] (by decide) rfl (ci := 7) (q := (RX7, TX7, 12)) (q0 := 0) rfl rfl) rfl rfl hl.1 rfl (lv_room (Nat.le_of_ble_eq_true rfl)) dX7_refuseSight_16 ⟨Nat.le_of_ble_eq_true rfl, Nat.le_of_ble_eq_true rfl⟩) hS hA hP (fun r_3 H locs hw_3 hP hS => ?_)
    try dsimp only at hw_3
    rcases hw_3 with ⟨rfl, ir_4, hir_4, rfl⟩ | ⟨rfl, hw_3⟩
    · refine lv_if_eq (tgt := 46) hx hb dX7_refuseSight_19 (by decide) (fun h => absurd h (by decide)) (fun _ => ?_)
      refine lv_iload hx hb dX7_refuseSight_22 (lv_at hl 4 rfl) ?_
      refine lv_if_lt (tgt := 46) hx hb dX7_refuseSight_24 (by decide) (fun c_5 => ?_) (fun c_5 => ?_)
      · refine lv_iconst (v := 0) hx hb dX7_refuseSight_46 (by decide) ?_
        refine lv_istore (lv' := [(5, .int 0), (0, .ref (a 0)), (1, .int 0), (2, .int (nI ir_4)), (3, .int (nI id_2)), (4, .int p3)]) hx hb dX7_refuseSight_47 hl (by decide) rfl (fun ls hl => ?_)
        refine lv_iload hx hb dX7_refuseSight_49 (lv_at hl 0 rfl) ?_
        refine lv_if_eq (tgt := 58) hx hb dX7_refuseSight_51 (by decide) (fun _ => ?_) (fun h => absurd (by decide) h)
        refine lv_sipush (v := (-1002)) hx hb dX7_refuseSight_58 (by decide) ?_
        exact W.iret (v := (-1002)) hx hb hr (fun t ht hW => ⟨⟨(-1002), (), rfl, .inr (.inr ⟨rfl, .inl ⟨rfl, id_2, by omega, rfl, fun rn gg _ _ h3 h4 => absurd c_5 (by rw [h3]; exact Int32.not_lt.mpr (nI_ge0 (by have h8 := (p8 (sq_le (see := see0) (n := n0) (i := id_2) (by omega))).2; omega)))⟩⟩), trivial⟩, hS.F ht⟩) hS.2.2 dX7_refuseSight_61
      · obtain ⟨ig_9, hig_9, rfl⟩ := nI_of c_5
        refine lv_iload hx hb dX7_refuseSight_27 (lv_at hl 4 rfl) ?_
        refine lv_aload_n hx hb dX7_refuseSight_29 rfl (lv_at hl 0 rfl) ?_
        refine va_get (D := D) (ci := 7) (v := .ref (a 3)) (C := RX7) (T := TX7) (N := 12) hx hb hts inX7 hown hK hP 0 rfl rfl 1 (by decide) (hts _ tw_306) (fun _ h9 => h9) rfl dX7_refuseSight_30 ?_
        refine lv_iload_n hx hb dX7_refuseSight_33 rfl (lv_at hl 1 rfl) ?_
        refine va_aldq hx hb hK hP 1 3 rfl rfl (by unfold vp_in; decide) dX7_refuseSight_34 ?_
        refine lv_tr (y := .ref (a 4)) rfl ?_
        refine lv_iload_n hx hb dX7_refuseSight_35 rfl (lv_at hl 3 rfl) ?_
        refine ro_i (D := D) (va_runV (As := [.int (nI id_2)]) (rest := [.int (nI ig_9)]) ⟨hx, hb, hml, hown, hts⟩ ((y_sightsAt l D k st lo (a 4) (a 5) (a 6) (a 7) (a 8) n0 see0 tm0 g0 id_2 (by first | assumption | omega) (by first | assumption | omega) (by first | assumption | omega)) H.size) (cwV 1 hts (gV tw_626 tw_537 tw_538 tw_81 tw_539) rfl rfl rfl (by decide +kernel) ⟨Nat.le_of_ble_eq_true rfl, Nat.le_of_ble_eq_true rfl⟩) (pV hS hAlo hlo hP hK hDL hZ [2, 3] (by decide) rfl (ci := 5) (q := (RX5, TX5, 4)) (q0 := 0) rfl rfl) rfl rfl hl.1 rfl (lv_room (Nat.le_of_ble_eq_true rfl)) dX7_refuseSight_36 ⟨Nat.le_of_ble_eq_true rfl, Nat.le_of_ble_eq_true rfl⟩) hS hA hP (fun r_6 H locs hw_6 hP hS => ?_)
        try dsimp only at hw_6
        obtain ⟨zs_7, ezs_7⟩ : ∃ z : Nat, z = 2 ^ sqN see0 n0 id_2 := ⟨_, rfl⟩
        rw [← ezs_7] at hw_6
        subst hw_6
        have hzs_7 : 1 ≤ zs_7 ∧ zs_7 ≤ 8 := by rw [ezs_7]; exact p8 (sq_le (by omega))
        refine lv_icmp_ge (tgt := 46) hx hb dX7_refuseSight_39 (by decide) (fun c_8 => ?_) (fun c_8 => ?_)
        · have c_8 := (nI_leI (a := zs_7) (b := ig_9) (by omega) (by omega)).mp c_8
          refine lv_iconst (v := 0) hx hb dX7_refuseSight_46 (by decide) ?_
          refine lv_istore (lv' := [(5, .int 0), (0, .ref (a 0)), (1, .int 0), (2, .int (nI ir_4)), (3, .int (nI id_2)), (4, .int (nI ig_9))]) hx hb dX7_refuseSight_47 hl (by decide) rfl (fun ls hl => ?_)
          refine lv_iload hx hb dX7_refuseSight_49 (lv_at hl 0 rfl) ?_
          refine lv_if_eq (tgt := 58) hx hb dX7_refuseSight_51 (by decide) (fun _ => ?_) (fun h => absurd (by decide) h)
          refine lv_sipush (v := (-1002)) hx hb dX7_refuseSight_58 (by decide) ?_
          exact W.iret (v := (-1002)) hx hb hr (fun t ht hW => ⟨⟨(-1002), (), rfl, .inr (.inr ⟨rfl, .inl ⟨rfl, id_2, by omega, rfl, fun rn gg _ _ h3 h4 => by have h8 := (p8 (sq_le (see := see0) (n := n0) (i := id_2) (by omega))).2; have h9 := nI_inj (by omega) (by omega) h3; rw [← ezs_7] at h4; omega⟩⟩), trivial⟩, hS.F ht⟩) hS.2.2 dX7_refuseSight_61
        · have c_8 : ¬ (zs_7 ≤ ig_9) := fun h => c_8 ((nI_leI (a := zs_7) (b := ig_9) (by omega) (by omega)).mpr h)
          refine lv_iconst (v := 1) hx hb dX7_refuseSight_42 (by decide) ?_
          refine lv_goto (tgt := 47) hx hb dX7_refuseSight_43 (by decide) ?_
          refine lv_istore (lv' := [(5, .int 1), (0, .ref (a 0)), (1, .int 0), (2, .int (nI ir_4)), (3, .int (nI id_2)), (4, .int (nI ig_9))]) hx hb dX7_refuseSight_47 hl (by decide) rfl (fun ls hl => ?_)
          refine lv_iload hx hb dX7_refuseSight_49 (lv_at hl 0 rfl) ?_
          refine lv_if_eq (tgt := 58) hx hb dX7_refuseSight_51 (by decide) (fun h => absurd h (by decide)) (fun _ => ?_)
          refine lv_iconst (v := 0) hx hb dX7_refuseSight_54 (by decide) ?_
          refine lv_goto (tgt := 61) hx hb dX7_refuseSight_55 (by decide) ?_
          exact W.iret (v := 0) hx hb hr (fun t ht hW => ⟨⟨0, (), rfl, .inl ⟨rfl, .inl ⟨rfl, ir_4, id_2, ig_9, by omega, by omega, (by rw [← ezs_7]; omega), rfl, rfl, rfl⟩⟩, trivial⟩, hS.F ht⟩) hS.2.2 dX7_refuseSight_61
    · refine lv_if_eq (tgt := 46) hx hb dX7_refuseSight_19 (by decide) (fun _ => ?_) (fun h => absurd (by decide) h)
      refine lv_iconst (v := 0) hx hb dX7_refuseSight_46 (by decide) ?_
      refine lv_istore (lv' := [(5, .int 0), (0, .ref (a 0)), (1, .int 0), (2, .int p1), (3, .int (nI id_2)), (4, .int p3)]) hx hb dX7_refuseSight_47 hl (by decide) rfl (fun ls hl => ?_)
      refine lv_iload hx hb dX7_refuseSight_49 (lv_at hl 0 rfl) ?_
      refine lv_if_eq (tgt := 58) hx hb dX7_refuseSight_51 (by decide) (fun _ => ?_) (fun h => absurd (by decide) h)
      refine lv_sipush (v := (-1002)) hx hb dX7_refuseSight_58 (by decide) ?_
      exact W.iret (v := (-1002)) hx hb hr (fun t ht hW => ⟨⟨(-1002), (), rfl, .inr (.inr ⟨rfl, .inl ⟨rfl, id_2, by omega, rfl, fun rn gg h1 h2 _ _ => hw_3 (by rw [h2]; exact inr h1 (by omega))⟩⟩), trivial⟩, hS.F ht⟩) hS.2.2 dX7_refuseSight_61
  · refine lv_if_ne (tgt := 13) hx hb dX7_refuseSight_6 (by decide) (fun _ => ?_) (fun h => absurd h (by decide))
    refine lv_aload_n hx hb dX7_refuseSight_13 rfl (lv_at hl 0 rfl) ?_
    refine lv_iload_n hx hb dX7_refuseSight_14 rfl (lv_at hl 1 rfl) ?_
    refine lv_iload_n hx hb dX7_refuseSight_15 rfl (lv_at hl 2 rfl) ?_
    refine ro_i (D := D) (va_runV (As := [.int 1, .int p1]) (rest := []) ⟨hx, hb, hml, hown, hts⟩ ((y_isRound_1 l D k st lo a rk lfa n1 see1 tm1 g1 p1 (by first | assumption | omega)) H.size) (cwV 2 hts (gV tw_613 tw_615 tw_10 tw_79 tw_616) rfl rfl rfl (by decide +kernel) ⟨Nat.le_of_ble_eq_true rfl, Nat.le_of_ble_eq_true rfl⟩) (pV hS hAlo hlo hP hK hDL hZ [0, 1, 4, 5] (by decide) rfl (ci := 7) (q := (RX7, TX7, 12)) (q0 := 0) rfl rfl) rfl rfl hl.1 rfl (lv_room (Nat.le_of_ble_eq_true rfl)) dX7_refuseSight_16 ⟨Nat.le_of_ble_eq_true rfl, Nat.le_of_ble_eq_true rfl⟩) hS hA hP (fun r_9 H locs hw_9 hP hS => ?_)
    try dsimp only at hw_9
    rcases hw_9 with ⟨rfl, ir_10, hir_10, rfl⟩ | ⟨rfl, hw_9⟩
    · refine lv_if_eq (tgt := 46) hx hb dX7_refuseSight_19 (by decide) (fun h => absurd h (by decide)) (fun _ => ?_)
      refine lv_iload hx hb dX7_refuseSight_22 (lv_at hl 4 rfl) ?_
      refine lv_if_lt (tgt := 46) hx hb dX7_refuseSight_24 (by decide) (fun c_11 => ?_) (fun c_11 => ?_)
      · refine lv_iconst (v := 0) hx hb dX7_refuseSight_46 (by decide) ?_
        refine lv_istore (lv' := [(5, .int 0), (0, .ref (a 0)), (1, .int 1), (2, .int (nI ir_10)), (3, .int (nI id_2)), (4, .int p3)]) hx hb dX7_refuseSight_47 hl (by decide) rfl (fun ls hl => ?_)
        refine lv_iload hx hb dX7_refuseSight_49 (lv_at hl 0 rfl) ?_
        refine lv_if_eq (tgt := 58) hx hb dX7_refuseSight_51 (by decide) (fun _ => ?_) (fun h => absurd (by decide) h)
        refine lv_sipush (v := (-1002)) hx hb dX7_refuseSight_58 (by decide) ?_
        exact W.iret (v := (-1002)) hx hb hr (fun t ht hW => ⟨⟨(-1002), (), rfl, .inr (.inr ⟨rfl, .inr (.inl ⟨rfl, id_2, by omega, rfl, fun rn gg _ _ h3 h4 => absurd c_11 (by rw [h3]; exact Int32.not_lt.mpr (nI_ge0 (by have h8 := (p8 (sq_le (see := see1) (n := n1) (i := id_2) (by omega))).2; omega)))⟩)⟩), trivial⟩, hS.F ht⟩) hS.2.2 dX7_refuseSight_61
      · obtain ⟨ig_9, hig_9, rfl⟩ := nI_of c_11
        refine lv_iload hx hb dX7_refuseSight_27 (lv_at hl 4 rfl) ?_
        refine lv_aload_n hx hb dX7_refuseSight_29 rfl (lv_at hl 0 rfl) ?_
        refine va_get (D := D) (ci := 7) (v := .ref (a 3)) (C := RX7) (T := TX7) (N := 12) hx hb hts inX7 hown hK hP 0 rfl rfl 1 (by decide) (hts _ tw_306) (fun _ h9 => h9) rfl dX7_refuseSight_30 ?_
        refine lv_iload_n hx hb dX7_refuseSight_33 rfl (lv_at hl 1 rfl) ?_
        refine va_aldq hx hb hK hP 1 3 rfl rfl (by unfold vp_in; decide) dX7_refuseSight_34 ?_
        refine lv_tr (y := .ref (a 9)) rfl ?_
        refine lv_iload_n hx hb dX7_refuseSight_35 rfl (lv_at hl 3 rfl) ?_
        refine ro_i (D := D) (va_runV (As := [.int (nI id_2)]) (rest := [.int (nI ig_9)]) ⟨hx, hb, hml, hown, hts⟩ ((y_sightsAt l D k st lo (a 9) (a 10) (a 11) (a 12) (a 13) n1 see1 tm1 g1 id_2 (by first | assumption | omega) (by first | assumption | omega) (by first | assumption | omega)) H.size) (cwV 1 hts (gV tw_626 tw_537 tw_538 tw_81 tw_539) rfl rfl rfl (by decide +kernel) ⟨Nat.le_of_ble_eq_true rfl, Nat.le_of_ble_eq_true rfl⟩) (pV hS hAlo hlo hP hK hDL hZ [4, 5] (by decide) rfl (ci := 5) (q := (RX5, TX5, 4)) (q0 := 0) rfl rfl) rfl rfl hl.1 rfl (lv_room (Nat.le_of_ble_eq_true rfl)) dX7_refuseSight_36 ⟨Nat.le_of_ble_eq_true rfl, Nat.le_of_ble_eq_true rfl⟩) hS hA hP (fun r_12 H locs hw_12 hP hS => ?_)
        try dsimp only at hw_12
        obtain ⟨zs_13, ezs_13⟩ : ∃ z : Nat, z = 2 ^ sqN see1 n1 id_2 := ⟨_, rfl⟩
        rw [← ezs_13] at hw_12
        subst hw_12
        have hzs_13 : 1 ≤ zs_13 ∧ zs_13 ≤ 8 := by rw [ezs_13]; exact p8 (sq_le (by omega))
        refine lv_icmp_ge (tgt := 46) hx hb dX7_refuseSight_39 (by decide) (fun c_14 => ?_) (fun c_14 => ?_)
        · have c_14 := (nI_leI (a := zs_13) (b := ig_9) (by omega) (by omega)).mp c_14
          refine lv_iconst (v := 0) hx hb dX7_refuseSight_46 (by decide) ?_
          refine lv_istore (lv' := [(5, .int 0), (0, .ref (a 0)), (1, .int 1), (2, .int (nI ir_10)), (3, .int (nI id_2)), (4, .int (nI ig_9))]) hx hb dX7_refuseSight_47 hl (by decide) rfl (fun ls hl => ?_)
          refine lv_iload hx hb dX7_refuseSight_49 (lv_at hl 0 rfl) ?_
          refine lv_if_eq (tgt := 58) hx hb dX7_refuseSight_51 (by decide) (fun _ => ?_) (fun h => absurd (by decide) h)
          refine lv_sipush (v := (-1002)) hx hb dX7_refuseSight_58 (by decide) ?_
          exact W.iret (v := (-1002)) hx hb hr (fun t ht hW => ⟨⟨(-1002), (), rfl, .inr (.inr ⟨rfl, .inr (.inl ⟨rfl, id_2, by omega, rfl, fun rn gg _ _ h3 h4 => by have h8 := (p8 (sq_le (see := see1) (n := n1) (i := id_2) (by omega))).2; have h9 := nI_inj (by omega) (by omega) h3; rw [← ezs_13] at h4; omega⟩)⟩), trivial⟩, hS.F ht⟩) hS.2.2 dX7_refuseSight_61
        · have c_14 : ¬ (zs_13 ≤ ig_9) := fun h => c_14 ((nI_leI (a := zs_13) (b := ig_9) (by omega) (by omega)).mpr h)
          refine lv_iconst (v := 1) hx hb dX7_refuseSight_42 (by decide) ?_
          refine lv_goto (tgt := 47) hx hb dX7_refuseSight_43 (by decide) ?_
          refine lv_istore (lv' := [(5, .int 1), (0, .ref (a 0)), (1, .int 1), (2, .int (nI ir_10)), (3, .int (nI id_2)), (4, .int (nI ig_9))]) hx hb dX7_refuseSight_47 hl (by decide) rfl (fun ls hl => ?_)
          refine lv_iload hx hb dX7_refuseSight_49 (lv_at hl 0 rfl) ?_
          refine lv_if_eq (tgt := 58) hx hb dX7_refuseSight_51 (by decide) (fun h => absurd h (by decide)) (fun _ => ?_)
          refine lv_iconst (v := 0) hx hb dX7_refuseSight_54 (by decide) ?_
          refine lv_goto (tgt := 61) hx hb dX7_refuseSight_55 (by decide) ?_
          exact W.iret (v := 0) hx hb hr (fun t ht hW => ⟨⟨0, (), rfl, .inl ⟨rfl, .inr (.inl ⟨rfl, ir_10, id_2, ig_9, by omega, by omega, (by rw [← ezs_13]; omega), rfl, rfl, rfl⟩)⟩, trivial⟩, hS.F ht⟩) hS.2.2 dX7_refuseSight_61
    · refine lv_if_eq (tgt := 46) hx hb dX7_refuseSight_19 (by decide) (fun _ => ?_) (fun h => absurd (by decide) h)
      refine lv_iconst (v := 0) hx hb dX7_refuseSight_46 (by decide) ?_
      refine lv_istore (lv' := [(5, .int 0), (0, .ref (a 0)), (1, .int 1), (2, .int p1), (3, .int (nI id_2)), (4, .int p3)]) hx hb dX7_refuseSight_47 hl (by decide) rfl (fun ls hl => ?_)
      refine lv_iload hx hb dX7_refuseSight_49 (lv_at hl 0 rfl) ?_
      refine lv_if_eq (tgt := 58) hx hb dX7_refuseSight_51 (by decide) (fun _ => ?_) (fun h => absurd (by decide) h)
      refine lv_sipush (v := (-1002)) hx hb dX7_refuseSight_58 (by decide) ?_
      exact W.iret (v := (-1002)) hx hb hr (fun t ht hW => ⟨⟨(-1002), (), rfl, .inr (.inr ⟨rfl, .inr (.inl ⟨rfl, id_2, by omega, rfl, fun rn gg h1 h2 _ _ => hw_9 (by rw [h2]; exact inr h1 (by omega))⟩)⟩), trivial⟩, hS.F ht⟩) hS.2.2 dX7_refuseSight_61
  · refine lv_if_ne (tgt := 13) hx hb dX7_refuseSight_6 (by decide) (fun _ => ?_) (fun h => absurd h (by decide))
    refine lv_aload_n hx hb dX7_refuseSight_13 rfl (lv_at hl 0 rfl) ?_
    refine lv_iload_n hx hb dX7_refuseSight_14 rfl (lv_at hl 1 rfl) ?_
    refine lv_iload_n hx hb dX7_refuseSight_15 rfl (lv_at hl 2 rfl) ?_
    refine ro_i (D := D) (va_runV (As := [.int 2, .int p1]) (rest := []) ⟨hx, hb, hml, hown, hts⟩ ((y_isRound_2 l D k st lo a rk lfa n2 see2 tm2 g2 p1 (by first | assumption | omega)) H.size) (cwV 2 hts (gV tw_613 tw_615 tw_10 tw_79 tw_616) rfl rfl rfl (by decide +kernel) ⟨Nat.le_of_ble_eq_true rfl, Nat.le_of_ble_eq_true rfl⟩) (pV hS hAlo hlo hP hK hDL hZ [0, 1, 6, 7] (by decide) rfl (ci := 7) (q := (RX7, TX7, 12)) (q0 := 0) rfl rfl) rfl rfl hl.1 rfl (lv_room (Nat.le_of_ble_eq_true rfl)) dX7_refuseSight_16 ⟨Nat.le_of_ble_eq_true rfl, Nat.le_of_ble_eq_true rfl⟩) hS hA hP (fun r_15 H locs hw_15 hP hS => ?_)
    try dsimp only at hw_15
    rcases hw_15 with ⟨rfl, ir_16, hir_16, rfl⟩ | ⟨rfl, hw_15⟩
    · refine lv_if_eq (tgt := 46) hx hb dX7_refuseSight_19 (by decide) (fun h => absurd h (by decide)) (fun _ => ?_)
      refine lv_iload hx hb dX7_refuseSight_22 (lv_at hl 4 rfl) ?_
      refine lv_if_lt (tgt := 46) hx hb dX7_refuseSight_24 (by decide) (fun c_17 => ?_) (fun c_17 => ?_)
      · refine lv_iconst (v := 0) hx hb dX7_refuseSight_46 (by decide) ?_
        refine lv_istore (lv' := [(5, .int 0), (0, .ref (a 0)), (1, .int 2), (2, .int (nI ir_16)), (3, .int (nI id_2)), (4, .int p3)]) hx hb dX7_refuseSight_47 hl (by decide) rfl (fun ls hl => ?_)
        refine lv_iload hx hb dX7_refuseSight_49 (lv_at hl 0 rfl) ?_
        refine lv_if_eq (tgt := 58) hx hb dX7_refuseSight_51 (by decide) (fun _ => ?_) (fun h => absurd (by decide) h)
        refine lv_sipush (v := (-1002)) hx hb dX7_refuseSight_58 (by decide) ?_
        exact W.iret (v := (-1002)) hx hb hr (fun t ht hW => ⟨⟨(-1002), (), rfl, .inr (.inr ⟨rfl, .inr (.inr ⟨rfl, id_2, by omega, rfl, fun rn gg _ _ h3 h4 => absurd c_17 (by rw [h3]; exact Int32.not_lt.mpr (nI_ge0 (by have h8 := (p8 (sq_le (see := see2) (n := n2) (i := id_2) (by omega))).2; omega)))⟩)⟩), trivial⟩, hS.F ht⟩) hS.2.2 dX7_refuseSight_61
      · obtain ⟨ig_9, hig_9, rfl⟩ := nI_of c_17
        refine lv_iload hx hb dX7_refuseSight_27 (lv_at hl 4 rfl) ?_
        refine lv_aload_n hx hb dX7_refuseSight_29 rfl (lv_at hl 0 rfl) ?_
        refine va_get (D := D) (ci := 7) (v := .ref (a 3)) (C := RX7) (T := TX7) (N := 12) hx hb hts inX7 hown hK hP 0 rfl rfl 1 (by decide) (hts _ tw_306) (fun _ h9 => h9) rfl dX7_refuseSight_30 ?_
        refine lv_iload_n hx hb dX7_refuseSight_33 rfl (lv_at hl 1 rfl) ?_
        refine va_aldq hx hb hK hP 1 3 rfl rfl (by unfold vp_in; decide) dX7_refuseSight_34 ?_
        refine lv_tr (y := .ref (a 14)) rfl ?_
        refine lv_iload_n hx hb dX7_refuseSight_35 rfl (lv_at hl 3 rfl) ?_
        refine ro_i (D := D) (va_runV (As := [.int (nI id_2)]) (rest := [.int (nI ig_9)]) ⟨hx, hb, hml, hown, hts⟩ ((y_sightsAt l D k st lo (a 14) (a 15) (a 16) (a 17) (a 18) n2 see2 tm2 g2 id_2 (by first | assumption | omega) (by first | assumption | omega) (by first | assumption | omega)) H.size) (cwV 1 hts (gV tw_626 tw_537 tw_538 tw_81 tw_539) rfl rfl rfl (by decide +kernel) ⟨Nat.le_of_ble_eq_true rfl, Nat.le_of_ble_eq_true rfl⟩) (pV hS hAlo hlo hP hK hDL hZ [6, 7] (by decide) rfl (ci := 5) (q := (RX5, TX5, 4)) (q0 := 0) rfl rfl) rfl rfl hl.1 rfl (lv_room (Nat.le_of_ble_eq_true rfl)) dX7_refuseSight_36 ⟨Nat.le_of_ble_eq_true rfl, Nat.le_of_ble_eq_true rfl⟩) hS hA hP (fun r_18 H locs hw_18 hP hS => ?_)
        try dsimp only at hw_18
        obtain ⟨zs_19, ezs_19⟩ : ∃ z : Nat, z = 2 ^ sqN see2 n2 id_2 := ⟨_, rfl⟩
        rw [← ezs_19] at hw_18
        subst hw_18
        have hzs_19 : 1 ≤ zs_19 ∧ zs_19 ≤ 8 := by rw [ezs_19]; exact p8 (sq_le (by omega))
        refine lv_icmp_ge (tgt := 46) hx hb dX7_refuseSight_39 (by decide) (fun c_20 => ?_) (fun c_20 => ?_)
        · have c_20 := (nI_leI (a := zs_19) (b := ig_9) (by omega) (by omega)).mp c_20
          refine lv_iconst (v := 0) hx hb dX7_refuseSight_46 (by decide) ?_
          refine lv_istore (lv' := [(5, .int 0), (0, .ref (a 0)), (1, .int 2), (2, .int (nI ir_16)), (3, .int (nI id_2)), (4, .int (nI ig_9))]) hx hb dX7_refuseSight_47 hl (by decide) rfl (fun ls hl => ?_)
          refine lv_iload hx hb dX7_refuseSight_49 (lv_at hl 0 rfl) ?_
          refine lv_if_eq (tgt := 58) hx hb dX7_refuseSight_51 (by decide) (fun _ => ?_) (fun h => absurd (by decide) h)
          refine lv_sipush (v := (-1002)) hx hb dX7_refuseSight_58 (by decide) ?_
          exact W.iret (v := (-1002)) hx hb hr (fun t ht hW => ⟨⟨(-1002), (), rfl, .inr (.inr ⟨rfl, .inr (.inr ⟨rfl, id_2, by omega, rfl, fun rn gg _ _ h3 h4 => by have h8 := (p8 (sq_le (see := see2) (n := n2) (i := id_2) (by omega))).2; have h9 := nI_inj (by omega) (by omega) h3; rw [← ezs_19] at h4; omega⟩)⟩), trivial⟩, hS.F ht⟩) hS.2.2 dX7_refuseSight_61
        · have c_20 : ¬ (zs_19 ≤ ig_9) := fun h => c_20 ((nI_leI (a := zs_19) (b := ig_9) (by omega) (by omega)).mpr h)
          refine lv_iconst (v := 1) hx hb dX7_refuseSight_42 (by decide) ?_
          refine lv_goto (tgt := 47) hx hb dX7_refuseSight_43 (by decide) ?_
          refine lv_istore (lv' := [(5, .int 1), (0, .ref (a 0)), (1, .int 2), (2, .int (nI ir_16)), (3, .int (nI id_2)), (4, .int (nI ig_9))]) hx hb dX7_refuseSight_47 hl (by decide) rfl (fun ls hl => ?_)
          refine lv_iload hx hb dX7_refuseSight_49 (lv_at hl 0 rfl) ?_
          refine lv_if_eq (tgt := 58) hx hb dX7_refuseSight_51 (by decide) (fun h => absurd h (by decide)) (fun _ => ?_)
          refine lv_iconst (v := 0) hx hb dX7_refuseSight_54 (by decide) ?_
          refine lv_goto (tgt := 61) hx hb dX7_refuseSight_55 (by decide) ?_
          exact W.iret (v := 0) hx hb hr (fun t ht hW => ⟨⟨0, (), rfl, .inl ⟨rfl, .inr (.inr ⟨rfl, ir_16, id_2, ig_9, by omega, by omega, (by rw [← ezs_19]; omega), rfl, rfl, rfl⟩)⟩, trivial⟩, hS.F ht⟩) hS.2.2 dX7_refuseSight_61
    · refine lv_if_eq (tgt := 46) hx hb dX7_refuseSight_19 (by decide) (fun _ => ?_) (fun h => absurd (by decide) h)
      refine lv_iconst (v := 0) hx hb dX7_refuseSight_46 (by decide) ?_
      refine lv_istore (lv' := [(5, .int 0), (0, .ref (a 0)), (1, .int 2), (2, .int p1), (3, .int (nI id_2)), (4, .int p3)]) hx hb dX7_refuseSight_47 hl (by decide) rfl (fun ls hl => ?_)
      refine lv_iload hx hb dX7_refuseSight_49 (lv_at hl 0 rfl) ?_
      refine lv_if_eq (tgt := 58) hx hb dX7_refuseSight_51 (by decide) (fun _ => ?_) (fun h => absurd (by decide) h)
      refine lv_sipush (v := (-1002)) hx hb dX7_refuseSight_58 (by decide) ?_
      exact W.iret (v := (-1002)) hx hb hr (fun t ht hW => ⟨⟨(-1002), (), rfl, .inr (.inr ⟨rfl, .inr (.inr ⟨rfl, id_2, by omega, rfl, fun rn gg h1 h2 _ _ => hw_15 (by rw [h2]; exact inr h1 (by omega))⟩)⟩), trivial⟩, hS.F ht⟩) hS.2.2 dX7_refuseSight_61
  · refine lv_if_ne (tgt := 13) hx hb dX7_refuseSight_6 (by decide) (fun h => absurd (by decide) h) (fun _ => ?_)
    refine lv_sipush (v := (-1001)) hx hb dX7_refuseSight_9 (by decide) ?_
    exact W.iret (v := (-1001)) hx hb hr (fun t ht hW => ⟨⟨(-1001), (), rfl, .inr (.inl ⟨rfl, hw_1⟩), trivial⟩, hS.F ht⟩) hS.2.2 dX7_refuseSight_12


set_option maxHeartbeats 4000000 in
set_option maxRecDepth 100000 in
theorem y_worth (l : Launch) (D : va_G) (k : Nat → ClassId) (st : Nat → Nat) (lo : Nat) (a : Nat → Nat) (rk : Nat) (lfa : Int32) (n0 : Nat) (see0 : Nat) (tm0 : Nat) (g0 : Nat → Int32) (ff0 : Nat → Int32) (fp0 : Nat → Int32) (fl0 : Nat → Int32) (n1 : Nat) (see1 : Nat) (tm1 : Nat) (g1 : Nat → Int32) (ff1 : Nat → Int32) (fp1 : Nat → Int32) (fl1 : Nat → Int32) (n2 : Nat) (see2 : Nat) (tm2 : Nat) (g2 : Nat → Int32) (ff2 : Nat → Int32) (fp2 : Nat → Int32) (fl2 : Nat → Int32) (on0 : Nat → Int32) (sr0 : Nat → Int32) (en0 : Nat → Int32) (on1 : Nat → Int32) (sr1 : Nat → Int32) (en1 : Nat → Int32) (on2 : Nat → Int32) (sr2 : Nat → Int32) (en2 : Nat → Int32) (p0 : Int32) (p1 : Int32) (p2 : Int32) (p3 : Int32) (hn0 : n0 ≤ 24) (hse0 : see0 ≤ 2) (htm0 : tm0 ≤ 3) (hn1 : n1 ≤ 24) (hse1 : see1 ≤ 2) (htm1 : tm1 ≤ 3) (hn2 : n2 ≤ 24) (hse2 : see2 ≤ 2) (htm2 : tm2 ≤ 3) (hlt : ltP (d3 fl0 fl1 fl2) (d3 (sdX n0 see0 tm0 g0 ff0 fp0) (sdX n1 see1 tm1 g1 ff1 fp1) (sdX n2 see2 tm2 g2 ff2 fp2))) (hwy : wy3 (d3 (sdX n0 see0 tm0 g0 ff0 fp0) (sdX n1 see1 tm1 g1 ff1 fp1) (sdX n2 see2 tm2 g2 ff2 fp2)) (d3 on0 on1 on2) (d3 sr0 sr1 sr2) (d3 en0 en1 en2)) : CRi l D k st lo yX7_worth cX7_worth 6 (some .int) ({ frames := 4, cells := 0, slots := 0, locals := 106 }) [.ref (a 0), .int p0, .int p1, .int p2, .int p3] [((a 0), .inr (7, (fX7 (a 1) (a 3) (a 19) (a 35) (a 40) (nI rk) lfa (a 53) (a 56) (a 63) (a 64) (a 68)))), ((a 3), .inl (k 3, 3, .inr (.inr (.inr (.inr (a3 (a 4) (a 9) (a 14))))))), ((a 19), .inl (k 4, 3, .inr (.inr (.inr (.inr (a3 (a 20) (a 25) (a 30))))))), ((a 4), .inr (5, (fX5 (a 5) (a 6) (a 7) (a 8)))), (aI k (a 5) 10 (vv n0 see0 tm0 g0)), (aI k (a 6) 24 ff0), (aI k (a 7) 24 fp0), (aI k (a 8) 4 fl0), ((a 9), .inr (5, (fX5 (a 10) (a 11) (a 12) (a 13)))), (aI k (a 10) 10 (vv n1 see1 tm1 g1)), (aI k (a 11) 24 ff1), (aI k (a 12) 24 fp1), (aI k (a 13) 4 fl1), ((a 14), .inr (5, (fX5 (a 15) (a 16) (a 17) (a 18)))), (aI k (a 15) 10 (vv n2 see2 tm2 g2)), (aI k (a 16) 24 ff2), (aI k (a 17) 24 fp2), (aI k (a 18) 4 fl2), ((a 20), .inr (0, (fX0 (a 4) (a 21) (a 22) (a 23) (a 24)))), (aI k (a 21) 768 on0), (aI k (a 22) 4 sr0), (aI k (a 23) 4 en0), ((a 25), .inr (0, (fX0 (a 9) (a 26) (a 27) (a 28) (a 29)))), (aI k (a 26) 768 on1), (aI k (a 27) 4 sr1), (aI k (a 28) 4 en1), ((a 30), .inr (0, (fX0 (a 14) (a 31) (a 32) (a 33) (a 34)))), (aI k (a 31) 768 on2), (aI k (a 32) 4 sr2), (aI k (a 33) 4 en2)] (fun r => dqP (d3 (sdX n0 see0 tm0 g0 ff0 fp0) (sdX n1 see1 tm1 g1 ff1 fp1) (sdX n2 see2 tm2 g2 ff2 fp2)) p0 p2 (siA p1 p3 woA) r) := by
  intro sz
  refine Met.ofW (cc := cX7_worth) (maxL := 6) (ret := (some .int)) (by decide) rfl ?_
  intro p e s m args below meth c s₁ B hml hv
  obtain ⟨rfl, hsz, hlo, hP, hK, hDL, hZ⟩ := hv
  have hx := B.exec
  have hb := B.bytes
  have hr := B.returns
  have hts := WS_ts B.pre
  have hown : s.vm.findClass RX7 = some m.cls := findClass_of_methodNamed B.named
  have hlocks := B.notSynchronized
  subst hsz
  have hA : ∀ q : Nat, s.heap.size ≤ q → (fun q : Nat => s.heap.size ≤ q) q := fun _ h => h
  have hAlo : ∀ q : Nat, (fun q : Nat => s.heap.size ≤ q) q → lo ≤ q := fun q h => Nat.le_trans hlo h
  have hS : va_S (fun q : Nat => s.heap.size ≤ q) s.heap s.heap [] := va_S.rf
  have hl := lv_entry ([.ref (a 0), .int p0, .int p1, .int p2, .int p3]) (n := 6) (Nat.le_of_ble_eq_true rfl)
  rw [lg_entry_eq]
  generalize (lg_sl ([.ref (a 0), .int p0, .int p1, .int p2, .int p3]) ++ List.replicate (6 - (lg_sl ([.ref (a 0), .int p0, .int p1, .int p2, .int p3])).length) Slot.unset).toArray = ls at hl ⊢
  have hl : lv_has ls 6 [(0, .ref (a 0)), (1, .int p0), (2, .int p1), (3, .int p2), (4, .int p3)] := hl
  refine lv_aload_n hx hb dX7_worth_0 rfl (lv_at hl 0 rfl) ?_
  refine lv_iload_n hx hb dX7_worth_1 rfl (lv_at hl 1 rfl) ?_
  refine lv_iload_n hx hb dX7_worth_2 rfl (lv_at hl 2 rfl) ?_
  refine lv_iload_n hx hb dX7_worth_3 rfl (lv_at hl 3 rfl) ?_
  refine lv_iload hx hb dX7_worth_4 (lv_at hl 4 rfl) ?_
  refine ro_i (D := D) (va_runV (As := [.int p0, .int p1, .int p2, .int p3]) (rest := []) ⟨hx, hb, hml, hown, hts⟩ ((y_refuseSight l D k st lo a rk lfa n0 see0 tm0 g0 n1 see1 tm1 g1 n2 see2 tm2 g2 p0 p1 p2 p3 (by first | assumption | omega) (by first | assumption | omega) (by first | assumption | omega) (by first | assumption | omega) (by first | assumption | omega) (by first | assumption | omega) (by first | assumption | omega) (by first | assumption | omega) (by first | assumption | omega)) s.heap.size) (cwV 4 hts (gV tw_622 tw_624 tw_11 tw_79 tw_625) rfl rfl rfl (by decide +kernel) ⟨Nat.le_of_ble_eq_true rfl, Nat.le_of_ble_eq_true rfl⟩) (pV hS hAlo hlo hP hK hDL hZ [0, 1, 3, 4, 8, 9, 13, 14] (by decide) rfl (ci := 7) (q := (RX7, TX7, 12)) (q0 := 0) rfl rfl) rfl rfl hl.1 rfl (lv_room (Nat.le_of_ble_eq_true rfl)) dX7_worth_6 ⟨Nat.le_of_ble_eq_true rfl, Nat.le_of_ble_eq_true rfl⟩) hS hA hP (fun r_1 H locs hw_1 hP hS => ?_)
  try dsimp only at hw_1
  rcases hw_1 with ⟨rfl, ⟨rfl, ir_2, id_2, ig_2, hir_2, hid_2, hig_2, rfl, rfl, rfl⟩ | ⟨rfl, ir_2, id_2, ig_2, hir_2, hid_2, hig_2, rfl, rfl, rfl⟩ | ⟨rfl, ir_2, id_2, ig_2, hir_2, hid_2, hig_2, rfl, rfl, rfl⟩⟩ | ⟨rfl, hw_1⟩ | ⟨rfl, ⟨rfl, id_2, hid_2, rfl, hw_1⟩ | ⟨rfl, id_2, hid_2, rfl, hw_1⟩ | ⟨rfl, id_2, hid_2, rfl, hw_1⟩⟩
  · refine lv_istore (lv' := [(5, .int 0), (0, .ref (a 0)), (1, .int 0), (2, .int (nI ir_2)), (3, .int (nI id_2)), (4, .int (nI ig_2))]) hx hb dX7_worth_9 hl (by decide) rfl (fun ls hl => ?_)
    refine lv_iload hx hb dX7_worth_11 (lv_at hl 0 rfl) ?_
    refine lv_if_eq (tgt := 21) hx hb dX7_worth_13 (by decide) (fun _ => ?_) (fun h => absurd (by decide) h)
    have hg8_2 : ig_2 < 8 := by have h8 := (p8 (sq_le (see := see0) (n := n0) (i := id_2) (by omega))).2; omega
    refine lv_aload_n hx hb dX7_worth_21 rfl (lv_at hl 1 rfl) ?_
    refine va_get (D := D) (ci := 7) (v := .ref (a 19)) (C := RX7) (T := TX7) (N := 12) hx hb hts inX7 hown hK hP 0 rfl rfl 2 (by decide) (hts _ tw_307) (fun _ h9 => h9) rfl dX7_worth_22 ?_
    refine lv_iload_n hx hb dX7_worth_25 rfl (lv_at hl 2 rfl) ?_
    refine va_aldq hx hb hK hP 2 4 rfl rfl (by unfold vp_in; decide) dX7_worth_26 ?_
    refine lv_tr (y := .ref (a 20)) rfl ?_
    refine lv_iload_n hx hb dX7_worth_27 rfl (lv_at hl 3 rfl) ?_
    refine lv_iload_n hx hb dX7_worth_28 rfl (lv_at hl 4 rfl) ?_
    refine lv_iload hx hb dX7_worth_29 (lv_at hl 5 rfl) ?_
    refine ro_i (D := D) (va_runV (As := [.int (nI ir_2), .int (nI id_2), .int (nI ig_2)]) (rest := []) ⟨hx, hb, hml, hown, hts⟩ ((y_worthOf l D k st lo (a 4) (a 5) (a 6) (a 7) (a 8) n0 see0 tm0 g0 ff0 fp0 fl0 (a 20) (a 21) (a 22) (a 23) (a 24) on0 ir_2 id_2 ig_2 (by first | assumption | omega) (by first | assumption | omega) (by first | assumption | omega) (by first | assumption | omega) (hlt 0 (by omega))) H.size) (cwV 3 hts (gV tw_627 tw_546 tw_547 tw_85 tw_548) rfl rfl rfl (by decide +kernel) ⟨Nat.le_of_ble_eq_true rfl, Nat.le_of_ble_eq_true rfl⟩) (pV hS hAlo hlo hP hK hDL hZ [3, 4, 5, 6, 7, 18, 19] (by decide) rfl (ci := 0) (q := (RX0, TX0, 5)) (q0 := 5) rfl rfl) rfl rfl hl.1 rfl (lv_room (Nat.le_of_ble_eq_true rfl)) dX7_worth_31 ⟨Nat.le_of_ble_eq_true rfl, Nat.le_of_ble_eq_true rfl⟩) hS hA hP (fun r_3 H locs hw_3 hP hS => ?_)
    try dsimp only at hw_3
    exact W.iret (v := r_3) hx hb hr (fun t ht hW => ⟨⟨r_3, (), rfl, dq_at (s := 0) (by omega) (show n0 ≤ 24 by omega) (show id_2 < n0 by omega) (show siA (nI ir_2) (nI ig_2) woA (sdX n0 see0 tm0 g0 ff0 fp0) id_2 _ from si_at (by rw [tmX (by omega)]; omega) (by rw [seX (by omega)]; omega) (by rw [tmX (by omega)]; omega) (by rw [seX (by omega)]; exact hig_2) (show _ = pW (sdX n0 see0 tm0 g0 ff0 fp0) ir_2 id_2 (wayO (sdX n0 see0 tm0 g0 ff0 fp0) ir_2 id_2 ig_2) ig_2 from hw_3.trans (congrArg (fun z => pW (sdX n0 see0 tm0 g0 ff0 fp0) ir_2 id_2 z ig_2) (wo_of (d := (sdX n0 see0 tm0 g0 ff0 fp0)) (hwy 0 (by omega) (show 0 < n0 by omega)) (by rw [tmX (by omega)]; omega) (show id_2 < n0 by omega) (by rw [seX (by omega)]; exact hig_2))))), trivial⟩, hS.F ht⟩) hS.2.2 dX7_worth_34
  · refine lv_istore (lv' := [(5, .int 0), (0, .ref (a 0)), (1, .int 1), (2, .int (nI ir_2)), (3, .int (nI id_2)), (4, .int (nI ig_2))]) hx hb dX7_worth_9 hl (by decide) rfl (fun ls hl => ?_)
    refine lv_iload hx hb dX7_worth_11 (lv_at hl 0 rfl) ?_
    refine lv_if_eq (tgt := 21) hx hb dX7_worth_13 (by decide) (fun _ => ?_) (fun h => absurd (by decide) h)
    have hg8_2 : ig_2 < 8 := by have h8 := (p8 (sq_le (see := see1) (n := n1) (i := id_2) (by omega))).2; omega
    refine lv_aload_n hx hb dX7_worth_21 rfl (lv_at hl 1 rfl) ?_
    refine va_get (D := D) (ci := 7) (v := .ref (a 19)) (C := RX7) (T := TX7) (N := 12) hx hb hts inX7 hown hK hP 0 rfl rfl 2 (by decide) (hts _ tw_307) (fun _ h9 => h9) rfl dX7_worth_22 ?_
    refine lv_iload_n hx hb dX7_worth_25 rfl (lv_at hl 2 rfl) ?_
    refine va_aldq hx hb hK hP 2 4 rfl rfl (by unfold vp_in; decide) dX7_worth_26 ?_
    refine lv_tr (y := .ref (a 25)) rfl ?_
    refine lv_iload_n hx hb dX7_worth_27 rfl (lv_at hl 3 rfl) ?_
    refine lv_iload_n hx hb dX7_worth_28 rfl (lv_at hl 4 rfl) ?_
    refine lv_iload hx hb dX7_worth_29 (lv_at hl 5 rfl) ?_
    refine ro_i (D := D) (va_runV (As := [.int (nI ir_2), .int (nI id_2), .int (nI ig_2)]) (rest := []) ⟨hx, hb, hml, hown, hts⟩ ((y_worthOf l D k st lo (a 9) (a 10) (a 11) (a 12) (a 13) n1 see1 tm1 g1 ff1 fp1 fl1 (a 25) (a 26) (a 27) (a 28) (a 29) on1 ir_2 id_2 ig_2 (by first | assumption | omega) (by first | assumption | omega) (by first | assumption | omega) (by first | assumption | omega) (hlt 1 (by omega))) H.size) (cwV 3 hts (gV tw_627 tw_546 tw_547 tw_85 tw_548) rfl rfl rfl (by decide +kernel) ⟨Nat.le_of_ble_eq_true rfl, Nat.le_of_ble_eq_true rfl⟩) (pV hS hAlo hlo hP hK hDL hZ [8, 9, 10, 11, 12, 22, 23] (by decide) rfl (ci := 0) (q := (RX0, TX0, 5)) (q0 := 5) rfl rfl) rfl rfl hl.1 rfl (lv_room (Nat.le_of_ble_eq_true rfl)) dX7_worth_31 ⟨Nat.le_of_ble_eq_true rfl, Nat.le_of_ble_eq_true rfl⟩) hS hA hP (fun r_4 H locs hw_4 hP hS => ?_)
    try dsimp only at hw_4
    exact W.iret (v := r_4) hx hb hr (fun t ht hW => ⟨⟨r_4, (), rfl, dq_at (s := 1) (by omega) (show n1 ≤ 24 by omega) (show id_2 < n1 by omega) (show siA (nI ir_2) (nI ig_2) woA (sdX n1 see1 tm1 g1 ff1 fp1) id_2 _ from si_at (by rw [tmX (by omega)]; omega) (by rw [seX (by omega)]; omega) (by rw [tmX (by omega)]; omega) (by rw [seX (by omega)]; exact hig_2) (show _ = pW (sdX n1 see1 tm1 g1 ff1 fp1) ir_2 id_2 (wayO (sdX n1 see1 tm1 g1 ff1 fp1) ir_2 id_2 ig_2) ig_2 from hw_4.trans (congrArg (fun z => pW (sdX n1 see1 tm1 g1 ff1 fp1) ir_2 id_2 z ig_2) (wo_of (d := (sdX n1 see1 tm1 g1 ff1 fp1)) (hwy 1 (by omega) (show 0 < n1 by omega)) (by rw [tmX (by omega)]; omega) (show id_2 < n1 by omega) (by rw [seX (by omega)]; exact hig_2))))), trivial⟩, hS.F ht⟩) hS.2.2 dX7_worth_34
  · refine lv_istore (lv' := [(5, .int 0), (0, .ref (a 0)), (1, .int 2), (2, .int (nI ir_2)), (3, .int (nI id_2)), (4, .int (nI ig_2))]) hx hb dX7_worth_9 hl (by decide) rfl (fun ls hl => ?_)
    refine lv_iload hx hb dX7_worth_11 (lv_at hl 0 rfl) ?_
    refine lv_if_eq (tgt := 21) hx hb dX7_worth_13 (by decide) (fun _ => ?_) (fun h => absurd (by decide) h)
    have hg8_2 : ig_2 < 8 := by have h8 := (p8 (sq_le (see := see2) (n := n2) (i := id_2) (by omega))).2; omega
    refine lv_aload_n hx hb dX7_worth_21 rfl (lv_at hl 1 rfl) ?_
    refine va_get (D := D) (ci := 7) (v := .ref (a 19)) (C := RX7) (T := TX7) (N := 12) hx hb hts inX7 hown hK hP 0 rfl rfl 2 (by decide) (hts _ tw_307) (fun _ h9 => h9) rfl dX7_worth_22 ?_
    refine lv_iload_n hx hb dX7_worth_25 rfl (lv_at hl 2 rfl) ?_
    refine va_aldq hx hb hK hP 2 4 rfl rfl (by unfold vp_in; decide) dX7_worth_26 ?_
    refine lv_tr (y := .ref (a 30)) rfl ?_
    refine lv_iload_n hx hb dX7_worth_27 rfl (lv_at hl 3 rfl) ?_
    refine lv_iload_n hx hb dX7_worth_28 rfl (lv_at hl 4 rfl) ?_
    refine lv_iload hx hb dX7_worth_29 (lv_at hl 5 rfl) ?_
    refine ro_i (D := D) (va_runV (As := [.int (nI ir_2), .int (nI id_2), .int (nI ig_2)]) (rest := []) ⟨hx, hb, hml, hown, hts⟩ ((y_worthOf l D k st lo (a 14) (a 15) (a 16) (a 17) (a 18) n2 see2 tm2 g2 ff2 fp2 fl2 (a 30) (a 31) (a 32) (a 33) (a 34) on2 ir_2 id_2 ig_2 (by first | assumption | omega) (by first | assumption | omega) (by first | assumption | omega) (by first | assumption | omega) (hlt 2 (by omega))) H.size) (cwV 3 hts (gV tw_627 tw_546 tw_547 tw_85 tw_548) rfl rfl rfl (by decide +kernel) ⟨Nat.le_of_ble_eq_true rfl, Nat.le_of_ble_eq_true rfl⟩) (pV hS hAlo hlo hP hK hDL hZ [13, 14, 15, 16, 17, 26, 27] (by decide) rfl (ci := 0) (q := (RX0, TX0, 5)) (q0 := 5) rfl rfl) rfl rfl hl.1 rfl (lv_room (Nat.le_of_ble_eq_true rfl)) dX7_worth_31 ⟨Nat.le_of_ble_eq_true rfl, Nat.le_of_ble_eq_true rfl⟩) hS hA hP (fun r_5 H locs hw_5 hP hS => ?_)
    try dsimp only at hw_5
    exact W.iret (v := r_5) hx hb hr (fun t ht hW => ⟨⟨r_5, (), rfl, dq_at (s := 2) (by omega) (show n2 ≤ 24 by omega) (show id_2 < n2 by omega) (show siA (nI ir_2) (nI ig_2) woA (sdX n2 see2 tm2 g2 ff2 fp2) id_2 _ from si_at (by rw [tmX (by omega)]; omega) (by rw [seX (by omega)]; omega) (by rw [tmX (by omega)]; omega) (by rw [seX (by omega)]; exact hig_2) (show _ = pW (sdX n2 see2 tm2 g2 ff2 fp2) ir_2 id_2 (wayO (sdX n2 see2 tm2 g2 ff2 fp2) ir_2 id_2 ig_2) ig_2 from hw_5.trans (congrArg (fun z => pW (sdX n2 see2 tm2 g2 ff2 fp2) ir_2 id_2 z ig_2) (wo_of (d := (sdX n2 see2 tm2 g2 ff2 fp2)) (hwy 2 (by omega) (show 0 < n2 by omega)) (by rw [tmX (by omega)]; omega) (show id_2 < n2 by omega) (by rw [seX (by omega)]; exact hig_2))))), trivial⟩, hS.F ht⟩) hS.2.2 dX7_worth_34
  · refine lv_istore (lv' := [(5, .int (-1001)), (0, .ref (a 0)), (1, .int p0), (2, .int p1), (3, .int p2), (4, .int p3)]) hx hb dX7_worth_9 hl (by decide) rfl (fun ls hl => ?_)
    refine lv_iload hx hb dX7_worth_11 (lv_at hl 0 rfl) ?_
    refine lv_if_eq (tgt := 21) hx hb dX7_worth_13 (by decide) (fun h => absurd h (by decide)) (fun _ => ?_)
    refine lv_iload hx hb dX7_worth_16 (lv_at hl 0 rfl) ?_
    refine lv_goto (tgt := 34) hx hb dX7_worth_18 (by decide) ?_
    exact W.iret (v := (-1001)) hx hb hr (fun t ht hW => ⟨⟨(-1001), (), rfl, dq_no (fun s h1 h2 i h3 h4 => hw_1 s h1 h2 i h3 (by rw [d3_n] at h4; exact h4)), trivial⟩, hS.F ht⟩) hS.2.2 dX7_worth_34
  · refine lv_istore (lv' := [(5, .int (-1002)), (0, .ref (a 0)), (1, .int 0), (2, .int p1), (3, .int (nI id_2)), (4, .int p3)]) hx hb dX7_worth_9 hl (by decide) rfl (fun ls hl => ?_)
    refine lv_iload hx hb dX7_worth_11 (lv_at hl 0 rfl) ?_
    refine lv_if_eq (tgt := 21) hx hb dX7_worth_13 (by decide) (fun h => absurd h (by decide)) (fun _ => ?_)
    refine lv_iload hx hb dX7_worth_16 (lv_at hl 0 rfl) ?_
    refine lv_goto (tgt := 34) hx hb dX7_worth_18 (by decide) ?_
    exact W.iret (v := (-1002)) hx hb hr (fun t ht hW => ⟨⟨(-1002), (), rfl, dq_at (s := 0) (by omega) (show n0 ≤ 24 by omega) (show id_2 < n0 by omega) (show siA p1 p3 woA (sdX n0 see0 tm0 g0 ff0 fp0) id_2 _ from si_no (fun rn g c => hw_1 rn g (by have h9 := c.2.1; rw [tmX (by omega)] at h9; exact h9) c.1 c.2.2.1 (by have h9 := c.2.2.2; rw [seX (by omega)] at h9; exact h9))), trivial⟩, hS.F ht⟩) hS.2.2 dX7_worth_34
  · refine lv_istore (lv' := [(5, .int (-1002)), (0, .ref (a 0)), (1, .int 1), (2, .int p1), (3, .int (nI id_2)), (4, .int p3)]) hx hb dX7_worth_9 hl (by decide) rfl (fun ls hl => ?_)
    refine lv_iload hx hb dX7_worth_11 (lv_at hl 0 rfl) ?_
    refine lv_if_eq (tgt := 21) hx hb dX7_worth_13 (by decide) (fun h => absurd h (by decide)) (fun _ => ?_)
    refine lv_iload hx hb dX7_worth_16 (lv_at hl 0 rfl) ?_
    refine lv_goto (tgt := 34) hx hb dX7_worth_18 (by decide) ?_
    exact W.iret (v := (-1002)) hx hb hr (fun t ht hW => ⟨⟨(-1002), (), rfl, dq_at (s := 1) (by omega) (show n1 ≤ 24 by omega) (show id_2 < n1 by omega) (show siA p1 p3 woA (sdX n1 see1 tm1 g1 ff1 fp1) id_2 _ from si_no (fun rn g c => hw_1 rn g (by have h9 := c.2.1; rw [tmX (by omega)] at h9; exact h9) c.1 c.2.2.1 (by have h9 := c.2.2.2; rw [seX (by omega)] at h9; exact h9))), trivial⟩, hS.F ht⟩) hS.2.2 dX7_worth_34
  · refine lv_istore (lv' := [(5, .int (-1002)), (0, .ref (a 0)), (1, .int 2), (2, .int p1), (3, .int (nI id_2)), (4, .int p3)]) hx hb dX7_worth_9 hl (by decide) rfl (fun ls hl => ?_)
    refine lv_iload hx hb dX7_worth_11 (lv_at hl 0 rfl) ?_
    refine lv_if_eq (tgt := 21) hx hb dX7_worth_13 (by decide) (fun h => absurd h (by decide)) (fun _ => ?_)
    refine lv_iload hx hb dX7_worth_16 (lv_at hl 0 rfl) ?_
    refine lv_goto (tgt := 34) hx hb dX7_worth_18 (by decide) ?_
    exact W.iret (v := (-1002)) hx hb hr (fun t ht hW => ⟨⟨(-1002), (), rfl, dq_at (s := 2) (by omega) (show n2 ≤ 24 by omega) (show id_2 < n2 by omega) (show siA p1 p3 woA (sdX n2 see2 tm2 g2 ff2 fp2) id_2 _ from si_no (fun rn g c => hw_1 rn g (by have h9 := c.2.1; rw [tmX (by omega)] at h9; exact h9) c.1 c.2.2.1 (by have h9 := c.2.2.2; rw [seX (by omega)] at h9; exact h9))), trivial⟩, hS.F ht⟩) hS.2.2 dX7_worth_34


set_option maxHeartbeats 4000000 in
set_option maxRecDepth 100000 in
theorem y_goingOn (l : Launch) (D : va_G) (k : Nat → ClassId) (st : Nat → Nat) (lo : Nat) (a : Nat → Nat) (rk : Nat) (lfa : Int32) (n0 : Nat) (see0 : Nat) (tm0 : Nat) (g0 : Nat → Int32) (ff0 : Nat → Int32) (fp0 : Nat → Int32) (fl0 : Nat → Int32) (n1 : Nat) (see1 : Nat) (tm1 : Nat) (g1 : Nat → Int32) (ff1 : Nat → Int32) (fp1 : Nat → Int32) (fl1 : Nat → Int32) (n2 : Nat) (see2 : Nat) (tm2 : Nat) (g2 : Nat → Int32) (ff2 : Nat → Int32) (fp2 : Nat → Int32) (fl2 : Nat → Int32) (on0 : Nat → Int32) (sr0 : Nat → Int32) (en0 : Nat → Int32) (on1 : Nat → Int32) (sr1 : Nat → Int32) (en1 : Nat → Int32) (on2 : Nat → Int32) (sr2 : Nat → Int32) (en2 : Nat → Int32) (p0 : Int32) (p1 : Int32) (p2 : Int32) (p3 : Int32) (hn0 : n0 ≤ 24) (hse0 : see0 ≤ 2) (htm0 : tm0 ≤ 3) (hn1 : n1 ≤ 24) (hse1 : see1 ≤ 2) (htm1 : tm1 ≤ 3) (hn2 : n2 ≤ 24) (hse2 : see2 ≤ 2) (htm2 : tm2 ≤ 3) (hlt : ltP (d3 fl0 fl1 fl2) (d3 (sdX n0 see0 tm0 g0 ff0 fp0) (sdX n1 see1 tm1 g1 ff1 fp1) (sdX n2 see2 tm2 g2 ff2 fp2))) (hwy : wy3 (d3 (sdX n0 see0 tm0 g0 ff0 fp0) (sdX n1 see1 tm1 g1 ff1 fp1) (sdX n2 see2 tm2 g2 ff2 fp2)) (d3 on0 on1 on2) (d3 sr0 sr1 sr2) (d3 en0 en1 en2)) : CRi l D k st lo yX7_goingOn cX7_goingOn 6 (some .int) ({ frames := 4, cells := 0, slots := 0, locals := 106 }) [.ref (a 0), .int p0, .int p1, .int p2, .int p3] [((a 0), .inr (7, (fX7 (a 1) (a 3) (a 19) (a 35) (a 40) (nI rk) lfa (a 53) (a 56) (a 63) (a 64) (a 68)))), ((a 3), .inl (k 3, 3, .inr (.inr (.inr (.inr (a3 (a 4) (a 9) (a 14))))))), ((a 19), .inl (k 4, 3, .inr (.inr (.inr (.inr (a3 (a 20) (a 25) (a 30))))))), ((a 4), .inr (5, (fX5 (a 5) (a 6) (a 7) (a 8)))), (aI k (a 5) 10 (vv n0 see0 tm0 g0)), (aI k (a 6) 24 ff0), (aI k (a 7) 24 fp0), (aI k (a 8) 4 fl0), ((a 9), .inr (5, (fX5 (a 10) (a 11) (a 12) (a 13)))), (aI k (a 10) 10 (vv n1 see1 tm1 g1)), (aI k (a 11) 24 ff1), (aI k (a 12) 24 fp1), (aI k (a 13) 4 fl1), ((a 14), .inr (5, (fX5 (a 15) (a 16) (a 17) (a 18)))), (aI k (a 15) 10 (vv n2 see2 tm2 g2)), (aI k (a 16) 24 ff2), (aI k (a 17) 24 fp2), (aI k (a 18) 4 fl2), ((a 20), .inr (0, (fX0 (a 4) (a 21) (a 22) (a 23) (a 24)))), (aI k (a 21) 768 on0), (aI k (a 22) 4 sr0), (aI k (a 23) 4 en0), ((a 25), .inr (0, (fX0 (a 9) (a 26) (a 27) (a 28) (a 29)))), (aI k (a 26) 768 on1), (aI k (a 27) 4 sr1), (aI k (a 28) 4 en1), ((a 30), .inr (0, (fX0 (a 14) (a 31) (a 32) (a 33) (a 34)))), (aI k (a 31) 768 on2), (aI k (a 32) 4 sr2), (aI k (a 33) 4 en2)] (fun r => dqP (d3 (sdX n0 see0 tm0 g0 ff0 fp0) (sdX n1 see1 tm1 g1 ff1 fp1) (sdX n2 see2 tm2 g2 ff2 fp2)) p0 p2 (siA p1 p3 goA) r) := by
  intro sz
  refine Met.ofW (cc := cX7_goingOn) (maxL := 6) (ret := (some .int)) (by decide) rfl ?_
  intro p e s m args below meth c s₁ B hml hv
  obtain ⟨rfl, hsz, hlo, hP, hK, hDL, hZ⟩ := hv
  have hx := B.exec
  have hb := B.bytes
  have hr := B.returns
  have hts := WS_ts B.pre
  have hown : s.vm.findClass RX7 = some m.cls := findClass_of_methodNamed B.named
  have hlocks := B.notSynchronized
  subst hsz
  have hA : ∀ q : Nat, s.heap.size ≤ q → (fun q : Nat => s.heap.size ≤ q) q := fun _ h => h
  have hAlo : ∀ q : Nat, (fun q : Nat => s.heap.size ≤ q) q → lo ≤ q := fun q h => Nat.le_trans hlo h
  have hS : va_S (fun q : Nat => s.heap.size ≤ q) s.heap s.heap [] := va_S.rf
  have hl := lv_entry ([.ref (a 0), .int p0, .int p1, .int p2, .int p3]) (n := 6) (Nat.le_of_ble_eq_true rfl)
  rw [lg_entry_eq]
  generalize (lg_sl ([.ref (a 0), .int p0, .int p1, .int p2, .int p3]) ++ List.replicate (6 - (lg_sl ([.ref (a 0), .int p0, .int p1, .int p2, .int p3])).length) Slot.unset).toArray = ls at hl ⊢
  have hl : lv_has ls 6 [(0, .ref (a 0)), (1, .int p0), (2, .int p1), (3, .int p2), (4, .int p3)] := hl
  refine lv_aload_n hx hb dX7_goingOn_0 rfl (lv_at hl 0 rfl) ?_
  refine lv_iload_n hx hb dX7_goingOn_1 rfl (lv_at hl 1 rfl) ?_
  refine lv_iload_n hx hb dX7_goingOn_2 rfl (lv_at hl 2 rfl) ?_
  refine lv_iload_n hx hb dX7_goingOn_3 rfl (lv_at hl 3 rfl) ?_
  refine lv_iload hx hb dX7_goingOn_4 (lv_at hl 4 rfl) ?_
  refine ro_i (D := D) (va_runV (As := [.int p0, .int p1, .int p2, .int p3]) (rest := []) ⟨hx, hb, hml, hown, hts⟩ ((y_refuseSight l D k st lo a rk lfa n0 see0 tm0 g0 n1 see1 tm1 g1 n2 see2 tm2 g2 p0 p1 p2 p3 (by first | assumption | omega) (by first | assumption | omega) (by first | assumption | omega) (by first | assumption | omega) (by first | assumption | omega) (by first | assumption | omega) (by first | assumption | omega) (by first | assumption | omega) (by first | assumption | omega)) s.heap.size) (cwV 4 hts (gV tw_622 tw_624 tw_11 tw_79 tw_625) rfl rfl rfl (by decide +kernel) ⟨Nat.le_of_ble_eq_true rfl, Nat.le_of_ble_eq_true rfl⟩) (pV hS hAlo hlo hP hK hDL hZ [0, 1, 3, 4, 8, 9, 13, 14] (by decide) rfl (ci := 7) (q := (RX7, TX7, 12)) (q0 := 0) rfl rfl) rfl rfl hl.1 rfl (lv_room (Nat.le_of_ble_eq_true rfl)) dX7_goingOn_6 ⟨Nat.le_of_ble_eq_true rfl, Nat.le_of_ble_eq_true rfl⟩) hS hA hP (fun r_1 H locs hw_1 hP hS => ?_)
  try dsimp only at hw_1
  rcases hw_1 with ⟨rfl, ⟨rfl, ir_2, id_2, ig_2, hir_2, hid_2, hig_2, rfl, rfl, rfl⟩ | ⟨rfl, ir_2, id_2, ig_2, hir_2, hid_2, hig_2, rfl, rfl, rfl⟩ | ⟨rfl, ir_2, id_2, ig_2, hir_2, hid_2, hig_2, rfl, rfl, rfl⟩⟩ | ⟨rfl, hw_1⟩ | ⟨rfl, ⟨rfl, id_2, hid_2, rfl, hw_1⟩ | ⟨rfl, id_2, hid_2, rfl, hw_1⟩ | ⟨rfl, id_2, hid_2, rfl, hw_1⟩⟩
  · refine lv_istore (lv' := [(5, .int 0), (0, .ref (a 0)), (1, .int 0), (2, .int (nI ir_2)), (3, .int (nI id_2)), (4, .int (nI ig_2))]) hx hb dX7_goingOn_9 hl (by decide) rfl (fun ls hl => ?_)
    refine lv_iload hx hb dX7_goingOn_11 (lv_at hl 0 rfl) ?_
    refine lv_if_eq (tgt := 21) hx hb dX7_goingOn_13 (by decide) (fun _ => ?_) (fun h => absurd (by decide) h)
    have hg8_2 : ig_2 < 8 := by have h8 := (p8 (sq_le (see := see0) (n := n0) (i := id_2) (by omega))).2; omega
    refine lv_aload_n hx hb dX7_goingOn_21 rfl (lv_at hl 1 rfl) ?_
    refine va_get (D := D) (ci := 7) (v := .ref (a 19)) (C := RX7) (T := TX7) (N := 12) hx hb hts inX7 hown hK hP 0 rfl rfl 2 (by decide) (hts _ tw_307) (fun _ h9 => h9) rfl dX7_goingOn_22 ?_
    refine lv_iload_n hx hb dX7_goingOn_25 rfl (lv_at hl 2 rfl) ?_
    refine va_aldq hx hb hK hP 2 4 rfl rfl (by unfold vp_in; decide) dX7_goingOn_26 ?_
    refine lv_tr (y := .ref (a 20)) rfl ?_
    refine lv_iload_n hx hb dX7_goingOn_27 rfl (lv_at hl 3 rfl) ?_
    refine lv_iload_n hx hb dX7_goingOn_28 rfl (lv_at hl 4 rfl) ?_
    refine lv_iload hx hb dX7_goingOn_29 (lv_at hl 5 rfl) ?_
    refine ro_i (D := D) (va_runV (As := [.int (nI ir_2), .int (nI id_2), .int (nI ig_2)]) (rest := []) ⟨hx, hb, hml, hown, hts⟩ ((y_onwardOf l D k st lo (a 4) (a 20) (a 21) (a 22) (a 23) (a 24) on0 ir_2 id_2 ig_2 (by first | assumption | omega) (by first | assumption | omega) (by first | assumption | omega)) H.size) (cwV 3 hts (gV tw_632 tw_550 tw_551 tw_85 tw_552) rfl rfl rfl (by decide +kernel) ⟨Nat.le_of_ble_eq_true rfl, Nat.le_of_ble_eq_true rfl⟩) (pV hS hAlo hlo hP hK hDL hZ [18, 19] (by decide) rfl (ci := 0) (q := (RX0, TX0, 5)) (q0 := 0) rfl rfl) rfl rfl hl.1 rfl (lv_room (Nat.le_of_ble_eq_true rfl)) dX7_goingOn_31 ⟨Nat.le_of_ble_eq_true rfl, Nat.le_of_ble_eq_true rfl⟩) hS hA hP (fun r_3 H locs hw_3 hP hS => ?_)
    try dsimp only at hw_3
    exact W.iret (v := r_3) hx hb hr (fun t ht hW => ⟨⟨r_3, (), rfl, dq_at (s := 0) (by omega) (show n0 ≤ 24 by omega) (show id_2 < n0 by omega) (show siA (nI ir_2) (nI ig_2) goA (sdX n0 see0 tm0 g0 ff0 fp0) id_2 _ from si_at (by rw [tmX (by omega)]; omega) (by rw [seX (by omega)]; omega) (by rw [tmX (by omega)]; omega) (by rw [seX (by omega)]; exact hig_2) (hw_3.trans (wo_of (d := (sdX n0 see0 tm0 g0 ff0 fp0)) (hwy 0 (by omega) (show 0 < n0 by omega)) (by rw [tmX (by omega)]; omega) (show id_2 < n0 by omega) (by rw [seX (by omega)]; exact hig_2)))), trivial⟩, hS.F ht⟩) hS.2.2 dX7_goingOn_34
  · refine lv_istore (lv' := [(5, .int 0), (0, .ref (a 0)), (1, .int 1), (2, .int (nI ir_2)), (3, .int (nI id_2)), (4, .int (nI ig_2))]) hx hb dX7_goingOn_9 hl (by decide) rfl (fun ls hl => ?_)
    refine lv_iload hx hb dX7_goingOn_11 (lv_at hl 0 rfl) ?_
    refine lv_if_eq (tgt := 21) hx hb dX7_goingOn_13 (by decide) (fun _ => ?_) (fun h => absurd (by decide) h)
    have hg8_2 : ig_2 < 8 := by have h8 := (p8 (sq_le (see := see1) (n := n1) (i := id_2) (by omega))).2; omega
    refine lv_aload_n hx hb dX7_goingOn_21 rfl (lv_at hl 1 rfl) ?_
    refine va_get (D := D) (ci := 7) (v := .ref (a 19)) (C := RX7) (T := TX7) (N := 12) hx hb hts inX7 hown hK hP 0 rfl rfl 2 (by decide) (hts _ tw_307) (fun _ h9 => h9) rfl dX7_goingOn_22 ?_
    refine lv_iload_n hx hb dX7_goingOn_25 rfl (lv_at hl 2 rfl) ?_
    refine va_aldq hx hb hK hP 2 4 rfl rfl (by unfold vp_in; decide) dX7_goingOn_26 ?_
    refine lv_tr (y := .ref (a 25)) rfl ?_
    refine lv_iload_n hx hb dX7_goingOn_27 rfl (lv_at hl 3 rfl) ?_
    refine lv_iload_n hx hb dX7_goingOn_28 rfl (lv_at hl 4 rfl) ?_
    refine lv_iload hx hb dX7_goingOn_29 (lv_at hl 5 rfl) ?_
    refine ro_i (D := D) (va_runV (As := [.int (nI ir_2), .int (nI id_2), .int (nI ig_2)]) (rest := []) ⟨hx, hb, hml, hown, hts⟩ ((y_onwardOf l D k st lo (a 9) (a 25) (a 26) (a 27) (a 28) (a 29) on1 ir_2 id_2 ig_2 (by first | assumption | omega) (by first | assumption | omega) (by first | assumption | omega)) H.size) (cwV 3 hts (gV tw_632 tw_550 tw_551 tw_85 tw_552) rfl rfl rfl (by decide +kernel) ⟨Nat.le_of_ble_eq_true rfl, Nat.le_of_ble_eq_true rfl⟩) (pV hS hAlo hlo hP hK hDL hZ [22, 23] (by decide) rfl (ci := 0) (q := (RX0, TX0, 5)) (q0 := 0) rfl rfl) rfl rfl hl.1 rfl (lv_room (Nat.le_of_ble_eq_true rfl)) dX7_goingOn_31 ⟨Nat.le_of_ble_eq_true rfl, Nat.le_of_ble_eq_true rfl⟩) hS hA hP (fun r_4 H locs hw_4 hP hS => ?_)
    try dsimp only at hw_4
    exact W.iret (v := r_4) hx hb hr (fun t ht hW => ⟨⟨r_4, (), rfl, dq_at (s := 1) (by omega) (show n1 ≤ 24 by omega) (show id_2 < n1 by omega) (show siA (nI ir_2) (nI ig_2) goA (sdX n1 see1 tm1 g1 ff1 fp1) id_2 _ from si_at (by rw [tmX (by omega)]; omega) (by rw [seX (by omega)]; omega) (by rw [tmX (by omega)]; omega) (by rw [seX (by omega)]; exact hig_2) (hw_4.trans (wo_of (d := (sdX n1 see1 tm1 g1 ff1 fp1)) (hwy 1 (by omega) (show 0 < n1 by omega)) (by rw [tmX (by omega)]; omega) (show id_2 < n1 by omega) (by rw [seX (by omega)]; exact hig_2)))), trivial⟩, hS.F ht⟩) hS.2.2 dX7_goingOn_34
  · refine lv_istore (lv' := [(5, .int 0), (0, .ref (a 0)), (1, .int 2), (2, .int (nI ir_2)), (3, .int (nI id_2)), (4, .int (nI ig_2))]) hx hb dX7_goingOn_9 hl (by decide) rfl (fun ls hl => ?_)
    refine lv_iload hx hb dX7_goingOn_11 (lv_at hl 0 rfl) ?_
    refine lv_if_eq (tgt := 21) hx hb dX7_goingOn_13 (by decide) (fun _ => ?_) (fun h => absurd (by decide) h)
    have hg8_2 : ig_2 < 8 := by have h8 := (p8 (sq_le (see := see2) (n := n2) (i := id_2) (by omega))).2; omega
    refine lv_aload_n hx hb dX7_goingOn_21 rfl (lv_at hl 1 rfl) ?_
    refine va_get (D := D) (ci := 7) (v := .ref (a 19)) (C := RX7) (T := TX7) (N := 12) hx hb hts inX7 hown hK hP 0 rfl rfl 2 (by decide) (hts _ tw_307) (fun _ h9 => h9) rfl dX7_goingOn_22 ?_
    refine lv_iload_n hx hb dX7_goingOn_25 rfl (lv_at hl 2 rfl) ?_
    refine va_aldq hx hb hK hP 2 4 rfl rfl (by unfold vp_in; decide) dX7_goingOn_26 ?_
    refine lv_tr (y := .ref (a 30)) rfl ?_
    refine lv_iload_n hx hb dX7_goingOn_27 rfl (lv_at hl 3 rfl) ?_
    refine lv_iload_n hx hb dX7_goingOn_28 rfl (lv_at hl 4 rfl) ?_
    refine lv_iload hx hb dX7_goingOn_29 (lv_at hl 5 rfl) ?_
    refine ro_i (D := D) (va_runV (As := [.int (nI ir_2), .int (nI id_2), .int (nI ig_2)]) (rest := []) ⟨hx, hb, hml, hown, hts⟩ ((y_onwardOf l D k st lo (a 14) (a 30) (a 31) (a 32) (a 33) (a 34) on2 ir_2 id_2 ig_2 (by first | assumption | omega) (by first | assumption | omega) (by first | assumption | omega)) H.size) (cwV 3 hts (gV tw_632 tw_550 tw_551 tw_85 tw_552) rfl rfl rfl (by decide +kernel) ⟨Nat.le_of_ble_eq_true rfl, Nat.le_of_ble_eq_true rfl⟩) (pV hS hAlo hlo hP hK hDL hZ [26, 27] (by decide) rfl (ci := 0) (q := (RX0, TX0, 5)) (q0 := 0) rfl rfl) rfl rfl hl.1 rfl (lv_room (Nat.le_of_ble_eq_true rfl)) dX7_goingOn_31 ⟨Nat.le_of_ble_eq_true rfl, Nat.le_of_ble_eq_true rfl⟩) hS hA hP (fun r_5 H locs hw_5 hP hS => ?_)
    try dsimp only at hw_5
    exact W.iret (v := r_5) hx hb hr (fun t ht hW => ⟨⟨r_5, (), rfl, dq_at (s := 2) (by omega) (show n2 ≤ 24 by omega) (show id_2 < n2 by omega) (show siA (nI ir_2) (nI ig_2) goA (sdX n2 see2 tm2 g2 ff2 fp2) id_2 _ from si_at (by rw [tmX (by omega)]; omega) (by rw [seX (by omega)]; omega) (by rw [tmX (by omega)]; omega) (by rw [seX (by omega)]; exact hig_2) (hw_5.trans (wo_of (d := (sdX n2 see2 tm2 g2 ff2 fp2)) (hwy 2 (by omega) (show 0 < n2 by omega)) (by rw [tmX (by omega)]; omega) (show id_2 < n2 by omega) (by rw [seX (by omega)]; exact hig_2)))), trivial⟩, hS.F ht⟩) hS.2.2 dX7_goingOn_34
  · refine lv_istore (lv' := [(5, .int (-1001)), (0, .ref (a 0)), (1, .int p0), (2, .int p1), (3, .int p2), (4, .int p3)]) hx hb dX7_goingOn_9 hl (by decide) rfl (fun ls hl => ?_)
    refine lv_iload hx hb dX7_goingOn_11 (lv_at hl 0 rfl) ?_
    refine lv_if_eq (tgt := 21) hx hb dX7_goingOn_13 (by decide) (fun h => absurd h (by decide)) (fun _ => ?_)
    refine lv_iload hx hb dX7_goingOn_16 (lv_at hl 0 rfl) ?_
    refine lv_goto (tgt := 34) hx hb dX7_goingOn_18 (by decide) ?_
    exact W.iret (v := (-1001)) hx hb hr (fun t ht hW => ⟨⟨(-1001), (), rfl, dq_no (fun s h1 h2 i h3 h4 => hw_1 s h1 h2 i h3 (by rw [d3_n] at h4; exact h4)), trivial⟩, hS.F ht⟩) hS.2.2 dX7_goingOn_34
  · refine lv_istore (lv' := [(5, .int (-1002)), (0, .ref (a 0)), (1, .int 0), (2, .int p1), (3, .int (nI id_2)), (4, .int p3)]) hx hb dX7_goingOn_9 hl (by decide) rfl (fun ls hl => ?_)
    refine lv_iload hx hb dX7_goingOn_11 (lv_at hl 0 rfl) ?_
    refine lv_if_eq (tgt := 21) hx hb dX7_goingOn_13 (by decide) (fun h => absurd h (by decide)) (fun _ => ?_)
    refine lv_iload hx hb dX7_goingOn_16 (lv_at hl 0 rfl) ?_
    refine lv_goto (tgt := 34) hx hb dX7_goingOn_18 (by decide) ?_
    exact W.iret (v := (-1002)) hx hb hr (fun t ht hW => ⟨⟨(-1002), (), rfl, dq_at (s := 0) (by omega) (show n0 ≤ 24 by omega) (show id_2 < n0 by omega) (show siA p1 p3 goA (sdX n0 see0 tm0 g0 ff0 fp0) id_2 _ from si_no (fun rn g c => hw_1 rn g (by have h9 := c.2.1; rw [tmX (by omega)] at h9; exact h9) c.1 c.2.2.1 (by have h9 := c.2.2.2; rw [seX (by omega)] at h9; exact h9))), trivial⟩, hS.F ht⟩) hS.2.2 dX7_goingOn_34
  · refine lv_istore (lv' := [(5, .int (-1002)), (0, .ref (a 0)), (1, .int 1), (2, .int p1), (3, .int (nI id_2)), (4, .int p3)]) hx hb dX7_goingOn_9 hl (by decide) rfl (fun ls hl => ?_)
    refine lv_iload hx hb dX7_goingOn_11 (lv_at hl 0 rfl) ?_
    refine lv_if_eq (tgt := 21) hx hb dX7_goingOn_13 (by decide) (fun h => absurd h (by decide)) (fun _ => ?_)
    refine lv_iload hx hb dX7_goingOn_16 (lv_at hl 0 rfl) ?_
    refine lv_goto (tgt := 34) hx hb dX7_goingOn_18 (by decide) ?_
    exact W.iret (v := (-1002)) hx hb hr (fun t ht hW => ⟨⟨(-1002), (), rfl, dq_at (s := 1) (by omega) (show n1 ≤ 24 by omega) (show id_2 < n1 by omega) (show siA p1 p3 goA (sdX n1 see1 tm1 g1 ff1 fp1) id_2 _ from si_no (fun rn g c => hw_1 rn g (by have h9 := c.2.1; rw [tmX (by omega)] at h9; exact h9) c.1 c.2.2.1 (by have h9 := c.2.2.2; rw [seX (by omega)] at h9; exact h9))), trivial⟩, hS.F ht⟩) hS.2.2 dX7_goingOn_34
  · refine lv_istore (lv' := [(5, .int (-1002)), (0, .ref (a 0)), (1, .int 2), (2, .int p1), (3, .int (nI id_2)), (4, .int p3)]) hx hb dX7_goingOn_9 hl (by decide) rfl (fun ls hl => ?_)
    refine lv_iload hx hb dX7_goingOn_11 (lv_at hl 0 rfl) ?_
    refine lv_if_eq (tgt := 21) hx hb dX7_goingOn_13 (by decide) (fun h => absurd h (by decide)) (fun _ => ?_)
    refine lv_iload hx hb dX7_goingOn_16 (lv_at hl 0 rfl) ?_
    refine lv_goto (tgt := 34) hx hb dX7_goingOn_18 (by decide) ?_
    exact W.iret (v := (-1002)) hx hb hr (fun t ht hW => ⟨⟨(-1002), (), rfl, dq_at (s := 2) (by omega) (show n2 ≤ 24 by omega) (show id_2 < n2 by omega) (show siA p1 p3 goA (sdX n2 see2 tm2 g2 ff2 fp2) id_2 _ from si_no (fun rn g c => hw_1 rn g (by have h9 := c.2.1; rw [tmX (by omega)] at h9; exact h9) c.1 c.2.2.1 (by have h9 := c.2.2.2; rw [seX (by omega)] at h9; exact h9))), trivial⟩, hS.F ht⟩) hS.2.2 dX7_goingOn_34


set_option maxHeartbeats 4000000 in
set_option maxRecDepth 100000 in
theorem y_isTaken (l : Launch) (D : va_G) (k : Nat → ClassId) (st : Nat → Nat) (lo : Nat) (h0 : Nat) (h1 : Nat) (h2 : Nat) (h3 : Nat) (h4 : Nat) (n : Nat) (see : Nat) (tm : Nat) (g : Nat → Int32) (ff : Nat → Int32) (fp : Nat → Int32) (fl : Nat → Int32) (w0 : Nat) (w1 : Nat) (w2 : Nat) (w3 : Nat) (w4 : Nat) (on : Nat → Int32) (rn : Nat) (i : Nat) (gg : Nat) (hrn : rn ≤ 3) (hi : i < n) (hn : n ≤ 24) (hg : gg < 8) : CRi l D k st lo yX0_isTaken cX0_isTaken 4 (some .boolean) ({ frames := 2, cells := 0, slots := 0, locals := 45 }) [.ref w0, .int (nI rn), .int (nI i), .int (nI gg)] [(h0, .inr (5, (fX5 h1 h2 h3 h4))), (aI k h1 10 (vv n see tm g)), (aI k h2 24 ff), (aI k h3 24 fp), (aI k h4 4 fl), (w0, .inr (0, (fX0 h0 w1 w2 w3 w4))), (aI k w1 768 on)] (fun r => (r = 1 ∧ (gg % 2 = 1 ∧ fX_taking n g fp fl rn i ≤ on (slN rn i gg))) ∨ (r = 0 ∧ ¬ (gg % 2 = 1 ∧ fX_taking n g fp fl rn i ≤ on (slN rn i gg)))) := by
  intro sz
  refine Met.ofW (cc := cX0_isTaken) (maxL := 4) (ret := (some .boolean)) (by decide) rfl ?_
  intro p e s m args below meth c s₁ B hml hv
  obtain ⟨rfl, hsz, hlo, hP, hK, hDL, hZ⟩ := hv
  have hx := B.exec
  have hb := B.bytes
  have hr := B.returns
  have hts := WS_ts B.pre
  have hown : s.vm.findClass RX0 = some m.cls := findClass_of_methodNamed B.named
  have hlocks := B.notSynchronized
  subst hsz
  have hA : ∀ q : Nat, s.heap.size ≤ q → (fun q : Nat => s.heap.size ≤ q) q := fun _ h => h
  have hAlo : ∀ q : Nat, (fun q : Nat => s.heap.size ≤ q) q → lo ≤ q := fun q h => Nat.le_trans hlo h
  have hS : va_S (fun q : Nat => s.heap.size ≤ q) s.heap s.heap [] := va_S.rf
  have hl := lv_entry ([.ref w0, .int (nI rn), .int (nI i), .int (nI gg)]) (n := 4) (Nat.le_of_ble_eq_true rfl)
  rw [lg_entry_eq]
  generalize (lg_sl ([.ref w0, .int (nI rn), .int (nI i), .int (nI gg)]) ++ List.replicate (4 - (lg_sl ([.ref w0, .int (nI rn), .int (nI i), .int (nI gg)])).length) Slot.unset).toArray = ls at hl ⊢
  have hl : lv_has ls 4 [(0, .ref w0), (1, .int (nI rn)), (2, .int (nI i)), (3, .int (nI gg))] := hl
  refine lv_iload_n hx hb dX0_isTaken_0 rfl (lv_at hl 3 rfl) ?_
  refine lv_iconst (v := 1) hx hb dX0_isTaken_1 (by decide) ?_
  refine lv_iand hx hb dX0_isTaken_2 ?_
  refine lv_topi (fun x_1 ex_1 => ?_)
  refine lv_if_eq (tgt := 29) hx hb dX0_isTaken_3 (by decide) (fun c_2 => ?_) (fun c_2 => ?_)
  · rw [ex_1] at c_2
    refine lv_iconst (v := 0) hx hb dX0_isTaken_29 (by decide) ?_
    exact W.zret (v := 0) (ty := .boolean) hx hb hr rfl (fun t ht hW => ⟨⟨0, (), rfl, .inr ⟨rfl, fun h => ((ev_and gg hg).1).mp c_2 h.1⟩, trivial⟩, hS.F ht⟩) hS.2.2 dX0_isTaken_30
  · rw [ex_1] at c_2
    refine lv_aload_n hx hb dX0_isTaken_6 rfl (lv_at hl 0 rfl) ?_
    refine va_get (D := D) (ci := 0) (v := .ref h0) (C := RX0) (T := TX0) (N := 5) hx hb hts inX0 hown hK hP 5 rfl rfl 0 (by decide) (hts _ tw_266) (fun _ h9 => h9) rfl dX0_isTaken_7 ?_
    refine lv_iload_n hx hb dX0_isTaken_10 rfl (lv_at hl 1 rfl) ?_
    refine lv_iload_n hx hb dX0_isTaken_11 rfl (lv_at hl 2 rfl) ?_
    refine ro_i (D := D) (va_runV (As := [.int (nI rn), .int (nI i)]) (rest := []) ⟨hx, hb, hml, hown, hts⟩ ((y_takingOf l D k st lo h0 h1 h2 h3 h4 n see tm g fp fl rn i (by first | assumption | omega) (by first | assumption | omega)) s.heap.size) (cwV 2 hts (gV tw_556 tw_557 tw_558 tw_81 tw_559) rfl rfl rfl (by decide +kernel) ⟨Nat.le_of_ble_eq_true rfl, Nat.le_of_ble_eq_true rfl⟩) (pV hS hAlo hlo hP hK hDL hZ [0, 1, 3, 4] (by decide) rfl (ci := 5) (q := (RX5, TX5, 4)) (q0 := 0) rfl rfl) rfl rfl hl.1 rfl (lv_room (Nat.le_of_ble_eq_true rfl)) dX0_isTaken_12 ⟨Nat.le_of_ble_eq_true rfl, Nat.le_of_ble_eq_true rfl⟩) hS hA hP (fun r_3 H locs hw_3 hP hS => ?_)
    try dsimp only at hw_3
    refine lv_aload_n hx hb dX0_isTaken_15 rfl (lv_at hl 0 rfl) ?_
    refine lv_iload_n hx hb dX0_isTaken_16 rfl (lv_at hl 1 rfl) ?_
    refine lv_iload_n hx hb dX0_isTaken_17 rfl (lv_at hl 2 rfl) ?_
    refine lv_iload_n hx hb dX0_isTaken_18 rfl (lv_at hl 3 rfl) ?_
    refine ro_i (D := D) (va_runV (As := [.int (nI rn), .int (nI i), .int (nI gg)]) (rest := [.int r_3]) ⟨hx, hb, hml, hown, hts⟩ ((y_onwardOf l D k st lo h0 w0 w1 w2 w3 w4 on rn i gg (by first | assumption | omega) (by first | assumption | omega) (by first | assumption | omega)) H.size) (cwV 3 hts (gV tw_549 tw_550 tw_551 tw_85 tw_552) rfl rfl rfl (by decide +kernel) ⟨Nat.le_of_ble_eq_true rfl, Nat.le_of_ble_eq_true rfl⟩) (pV hS hAlo hlo hP hK hDL hZ [5, 6] (by decide) rfl (ci := 0) (q := (RX0, TX0, 5)) (q0 := 0) rfl rfl) rfl rfl hl.1 rfl (lv_room (Nat.le_of_ble_eq_true rfl)) dX0_isTaken_19 ⟨Nat.le_of_ble_eq_true rfl, Nat.le_of_ble_eq_true rfl⟩) hS hA hP (fun r_4 H locs hw_4 hP hS => ?_)
    try dsimp only at hw_4
    refine lv_icmp_gt (tgt := 29) hx hb dX0_isTaken_22 (by decide) (fun c_5 => ?_) (fun c_5 => ?_)
    · refine lv_iconst (v := 0) hx hb dX0_isTaken_29 (by decide) ?_
      exact W.zret (v := 0) (ty := .boolean) hx hb hr rfl (fun t ht hW => ⟨⟨0, (), rfl, .inr ⟨rfl, fun h => absurd c_5 (Int32.not_lt.mpr (by rw [hw_3, hw_4]; exact h.2))⟩, trivial⟩, hS.F ht⟩) hS.2.2 dX0_isTaken_30
    · refine lv_iconst (v := 1) hx hb dX0_isTaken_25 (by decide) ?_
      refine lv_goto (tgt := 30) hx hb dX0_isTaken_26 (by decide) ?_
      exact W.zret (v := 1) (ty := .boolean) hx hb hr rfl (fun t ht hW => ⟨⟨1, (), rfl, .inl ⟨rfl, Classical.not_not.mp (fun q => c_2 (((ev_and gg hg).1).mpr q)), (by rw [← hw_3, ← hw_4]; exact Int32.not_lt.mp c_5)⟩, trivial⟩, hS.F ht⟩) hS.2.2 dX0_isTaken_30


set_option maxHeartbeats 4000000 in
set_option maxRecDepth 100000 in
theorem y_takes (l : Launch) (D : va_G) (k : Nat → ClassId) (st : Nat → Nat) (lo : Nat) (a : Nat → Nat) (rk : Nat) (lfa : Int32) (n0 : Nat) (see0 : Nat) (tm0 : Nat) (g0 : Nat → Int32) (ff0 : Nat → Int32) (fp0 : Nat → Int32) (fl0 : Nat → Int32) (n1 : Nat) (see1 : Nat) (tm1 : Nat) (g1 : Nat → Int32) (ff1 : Nat → Int32) (fp1 : Nat → Int32) (fl1 : Nat → Int32) (n2 : Nat) (see2 : Nat) (tm2 : Nat) (g2 : Nat → Int32) (ff2 : Nat → Int32) (fp2 : Nat → Int32) (fl2 : Nat → Int32) (on0 : Nat → Int32) (sr0 : Nat → Int32) (en0 : Nat → Int32) (on1 : Nat → Int32) (sr1 : Nat → Int32) (en1 : Nat → Int32) (on2 : Nat → Int32) (sr2 : Nat → Int32) (en2 : Nat → Int32) (p0 : Int32) (p1 : Int32) (p2 : Int32) (p3 : Int32) (hn0 : n0 ≤ 24) (hse0 : see0 ≤ 2) (htm0 : tm0 ≤ 3) (hn1 : n1 ≤ 24) (hse1 : see1 ≤ 2) (htm1 : tm1 ≤ 3) (hn2 : n2 ≤ 24) (hse2 : see2 ≤ 2) (htm2 : tm2 ≤ 3) (hlt : ltP (d3 fl0 fl1 fl2) (d3 (sdX n0 see0 tm0 g0 ff0 fp0) (sdX n1 see1 tm1 g1 ff1 fp1) (sdX n2 see2 tm2 g2 ff2 fp2))) (hwy : wy3 (d3 (sdX n0 see0 tm0 g0 ff0 fp0) (sdX n1 see1 tm1 g1 ff1 fp1) (sdX n2 see2 tm2 g2 ff2 fp2)) (d3 on0 on1 on2) (d3 sr0 sr1 sr2) (d3 en0 en1 en2)) : CRi l D k st lo yX7_takes cX7_takes 6 (some .int) ({ frames := 4, cells := 0, slots := 0, locals := 106 }) [.ref (a 0), .int p0, .int p1, .int p2, .int p3] [((a 0), .inr (7, (fX7 (a 1) (a 3) (a 19) (a 35) (a 40) (nI rk) lfa (a 53) (a 56) (a 63) (a 64) (a 68)))), ((a 3), .inl (k 3, 3, .inr (.inr (.inr (.inr (a3 (a 4) (a 9) (a 14))))))), ((a 19), .inl (k 4, 3, .inr (.inr (.inr (.inr (a3 (a 20) (a 25) (a 30))))))), ((a 4), .inr (5, (fX5 (a 5) (a 6) (a 7) (a 8)))), (aI k (a 5) 10 (vv n0 see0 tm0 g0)), (aI k (a 6) 24 ff0), (aI k (a 7) 24 fp0), (aI k (a 8) 4 fl0), ((a 9), .inr (5, (fX5 (a 10) (a 11) (a 12) (a 13)))), (aI k (a 10) 10 (vv n1 see1 tm1 g1)), (aI k (a 11) 24 ff1), (aI k (a 12) 24 fp1), (aI k (a 13) 4 fl1), ((a 14), .inr (5, (fX5 (a 15) (a 16) (a 17) (a 18)))), (aI k (a 15) 10 (vv n2 see2 tm2 g2)), (aI k (a 16) 24 ff2), (aI k (a 17) 24 fp2), (aI k (a 18) 4 fl2), ((a 20), .inr (0, (fX0 (a 4) (a 21) (a 22) (a 23) (a 24)))), (aI k (a 21) 768 on0), (aI k (a 22) 4 sr0), (aI k (a 23) 4 en0), ((a 25), .inr (0, (fX0 (a 9) (a 26) (a 27) (a 28) (a 29)))), (aI k (a 26) 768 on1), (aI k (a 27) 4 sr1), (aI k (a 28) 4 en1), ((a 30), .inr (0, (fX0 (a 14) (a 31) (a 32) (a 33) (a 34)))), (aI k (a 31) 768 on2), (aI k (a 32) 4 sr2), (aI k (a 33) 4 en2)] (fun r => dqP (d3 (sdX n0 see0 tm0 g0 ff0 fp0) (sdX n1 see1 tm1 g1 ff1 fp1) (sdX n2 see2 tm2 g2 ff2 fp2)) p0 p2 (siA p1 p3 tsA) r) := by
  intro sz
  refine Met.ofW (cc := cX7_takes) (maxL := 6) (ret := (some .int)) (by decide) rfl ?_
  intro p e s m args below meth c s₁ B hml hv
  obtain ⟨rfl, hsz, hlo, hP, hK, hDL, hZ⟩ := hv
  have hx := B.exec
  have hb := B.bytes
  have hr := B.returns
  have hts := WS_ts B.pre
  have hown : s.vm.findClass RX7 = some m.cls := findClass_of_methodNamed B.named
  have hlocks := B.notSynchronized
  subst hsz
  have hA : ∀ q : Nat, s.heap.size ≤ q → (fun q : Nat => s.heap.size ≤ q) q := fun _ h => h
  have hAlo : ∀ q : Nat, (fun q : Nat => s.heap.size ≤ q) q → lo ≤ q := fun q h => Nat.le_trans hlo h
  have hS : va_S (fun q : Nat => s.heap.size ≤ q) s.heap s.heap [] := va_S.rf
  have hl := lv_entry ([.ref (a 0), .int p0, .int p1, .int p2, .int p3]) (n := 6) (Nat.le_of_ble_eq_true rfl)
  rw [lg_entry_eq]
  generalize (lg_sl ([.ref (a 0), .int p0, .int p1, .int p2, .int p3]) ++ List.replicate (6 - (lg_sl ([.ref (a 0), .int p0, .int p1, .int p2, .int p3])).length) Slot.unset).toArray = ls at hl ⊢
  have hl : lv_has ls 6 [(0, .ref (a 0)), (1, .int p0), (2, .int p1), (3, .int p2), (4, .int p3)] := hl
  refine lv_aload_n hx hb dX7_takes_0 rfl (lv_at hl 0 rfl) ?_
  refine lv_iload_n hx hb dX7_takes_1 rfl (lv_at hl 1 rfl) ?_
  refine lv_iload_n hx hb dX7_takes_2 rfl (lv_at hl 2 rfl) ?_
  refine lv_iload_n hx hb dX7_takes_3 rfl (lv_at hl 3 rfl) ?_
  refine lv_iload hx hb dX7_takes_4 (lv_at hl 4 rfl) ?_
  refine ro_i (D := D) (va_runV (As := [.int p0, .int p1, .int p2, .int p3]) (rest := []) ⟨hx, hb, hml, hown, hts⟩ ((y_refuseSight l D k st lo a rk lfa n0 see0 tm0 g0 n1 see1 tm1 g1 n2 see2 tm2 g2 p0 p1 p2 p3 (by first | assumption | omega) (by first | assumption | omega) (by first | assumption | omega) (by first | assumption | omega) (by first | assumption | omega) (by first | assumption | omega) (by first | assumption | omega) (by first | assumption | omega) (by first | assumption | omega)) s.heap.size) (cwV 4 hts (gV tw_622 tw_624 tw_11 tw_79 tw_625) rfl rfl rfl (by decide +kernel) ⟨Nat.le_of_ble_eq_true rfl, Nat.le_of_ble_eq_true rfl⟩) (pV hS hAlo hlo hP hK hDL hZ [0, 1, 3, 4, 8, 9, 13, 14] (by decide) rfl (ci := 7) (q := (RX7, TX7, 12)) (q0 := 0) rfl rfl) rfl rfl hl.1 rfl (lv_room (Nat.le_of_ble_eq_true rfl)) dX7_takes_6 ⟨Nat.le_of_ble_eq_true rfl, Nat.le_of_ble_eq_true rfl⟩) hS hA hP (fun r_1 H locs hw_1 hP hS => ?_)
  try dsimp only at hw_1
  rcases hw_1 with ⟨rfl, ⟨rfl, ir_2, id_2, ig_2, hir_2, hid_2, hig_2, rfl, rfl, rfl⟩ | ⟨rfl, ir_2, id_2, ig_2, hir_2, hid_2, hig_2, rfl, rfl, rfl⟩ | ⟨rfl, ir_2, id_2, ig_2, hir_2, hid_2, hig_2, rfl, rfl, rfl⟩⟩ | ⟨rfl, hw_1⟩ | ⟨rfl, ⟨rfl, id_2, hid_2, rfl, hw_1⟩ | ⟨rfl, id_2, hid_2, rfl, hw_1⟩ | ⟨rfl, id_2, hid_2, rfl, hw_1⟩⟩
  · refine lv_istore (lv' := [(5, .int 0), (0, .ref (a 0)), (1, .int 0), (2, .int (nI ir_2)), (3, .int (nI id_2)), (4, .int (nI ig_2))]) hx hb dX7_takes_9 hl (by decide) rfl (fun ls hl => ?_)
    refine lv_iload hx hb dX7_takes_11 (lv_at hl 0 rfl) ?_
    refine lv_if_eq (tgt := 19) hx hb dX7_takes_13 (by decide) (fun _ => ?_) (fun h => absurd (by decide) h)
    have hg8_2 : ig_2 < 8 := by have h8 := (p8 (sq_le (see := see0) (n := n0) (i := id_2) (by omega))).2; omega
    refine lv_iload hx hb dX7_takes_19 (lv_at hl 5 rfl) ?_
    refine lv_iconst (v := 1) hx hb dX7_takes_21 (by decide) ?_
    refine lv_iand hx hb dX7_takes_22 ?_
    refine lv_topi (fun x_3 ex_3 => ?_)
    refine lv_if_ne (tgt := 30) hx hb dX7_takes_23 (by decide) (fun c_4 => ?_) (fun c_4 => ?_)
    · rw [ex_3] at c_4
      refine lv_aload_n hx hb dX7_takes_30 rfl (lv_at hl 1 rfl) ?_
      refine va_get (D := D) (ci := 7) (v := .ref (a 19)) (C := RX7) (T := TX7) (N := 12) hx hb hts inX7 hown hK hP 0 rfl rfl 2 (by decide) (hts _ tw_307) (fun _ h9 => h9) rfl dX7_takes_31 ?_
      refine lv_iload_n hx hb dX7_takes_34 rfl (lv_at hl 2 rfl) ?_
      refine va_aldq hx hb hK hP 2 4 rfl rfl (by unfold vp_in; decide) dX7_takes_35 ?_
      refine lv_tr (y := .ref (a 20)) rfl ?_
      refine lv_iload_n hx hb dX7_takes_36 rfl (lv_at hl 3 rfl) ?_
      refine lv_iload_n hx hb dX7_takes_37 rfl (lv_at hl 4 rfl) ?_
      refine lv_iload hx hb dX7_takes_38 (lv_at hl 5 rfl) ?_
      refine ro_i (D := D) (va_runV (As := [.int (nI ir_2), .int (nI id_2), .int (nI ig_2)]) (rest := []) ⟨hx, hb, hml, hown, hts⟩ ((y_isTaken l D k st lo (a 4) (a 5) (a 6) (a 7) (a 8) n0 see0 tm0 g0 ff0 fp0 fl0 (a 20) (a 21) (a 22) (a 23) (a 24) on0 ir_2 id_2 ig_2 (by first | assumption | omega) (by first | assumption | omega) (by first | assumption | omega) (by first | assumption | omega)) H.size) (cwV 3 hts (gV tw_637 tw_638 tw_639 tw_85 tw_640) rfl rfl rfl (by decide +kernel) ⟨Nat.le_of_ble_eq_true rfl, Nat.le_of_ble_eq_true rfl⟩) (pV hS hAlo hlo hP hK hDL hZ [3, 4, 5, 6, 7, 18, 19] (by decide) rfl (ci := 0) (q := (RX0, TX0, 5)) (q0 := 5) rfl rfl) rfl rfl hl.1 rfl (lv_room (Nat.le_of_ble_eq_true rfl)) dX7_takes_40 ⟨Nat.le_of_ble_eq_true rfl, Nat.le_of_ble_eq_true rfl⟩) hS hA hP (fun r_5 H locs hw_5 hP hS => ?_)
      try dsimp only at hw_5
      rcases hw_5 with ⟨rfl, hw_5⟩ | ⟨rfl, hw_5⟩
      · refine lv_if_eq (tgt := 50) hx hb dX7_takes_43 (by decide) (fun h => absurd h (by decide)) (fun _ => ?_)
        refine lv_iconst (v := 1) hx hb dX7_takes_46 (by decide) ?_
        refine lv_goto (tgt := 51) hx hb dX7_takes_47 (by decide) ?_
        exact W.iret (v := 1) hx hb hr (fun t ht hW => ⟨⟨1, (), rfl, dq_at (s := 0) (by omega) (show n0 ≤ 24 by omega) (show id_2 < n0 by omega) (show siA (nI ir_2) (nI ig_2) tsA (sdX n0 see0 tm0 g0 ff0 fp0) id_2 _ from si_at (by rw [tmX (by omega)]; omega) (by rw [seX (by omega)]; omega) (by rw [tmX (by omega)]; omega) (by rw [seX (by omega)]; exact hig_2) ⟨fun h => absurd (Classical.not_not.mp (fun z => c_4 (((ev_and ig_2 hg8_2).1).mpr z))) h, fun _ => (by rw [if_pos (show pTake (sdX n0 see0 tm0 g0 ff0 fp0) ir_2 id_2 ≤ wayO (sdX n0 see0 tm0 g0 ff0 fp0) ir_2 id_2 ig_2 by rw [← (xTake (show id_2 < n0 by omega) (hlt 0 (by omega) ir_2 (by omega))), ← (wo_of (d := (sdX n0 see0 tm0 g0 ff0 fp0)) (hwy 0 (by omega) (show 0 < n0 by omega)) (by rw [tmX (by omega)]; omega) (show id_2 < n0 by omega) (by rw [seX (by omega)]; exact hig_2))]; exact hw_5.2)])⟩), trivial⟩, hS.F ht⟩) hS.2.2 dX7_takes_51
      · refine lv_if_eq (tgt := 50) hx hb dX7_takes_43 (by decide) (fun _ => ?_) (fun h => absurd (by decide) h)
        refine lv_iconst (v := 0) hx hb dX7_takes_50 (by decide) ?_
        exact W.iret (v := 0) hx hb hr (fun t ht hW => ⟨⟨0, (), rfl, dq_at (s := 0) (by omega) (show n0 ≤ 24 by omega) (show id_2 < n0 by omega) (show siA (nI ir_2) (nI ig_2) tsA (sdX n0 see0 tm0 g0 ff0 fp0) id_2 _ from si_at (by rw [tmX (by omega)]; omega) (by rw [seX (by omega)]; omega) (by rw [tmX (by omega)]; omega) (by rw [seX (by omega)]; exact hig_2) ⟨fun h => absurd (Classical.not_not.mp (fun z => c_4 (((ev_and ig_2 hg8_2).1).mpr z))) h, fun _ => (by rw [if_neg (show ¬ pTake (sdX n0 see0 tm0 g0 ff0 fp0) ir_2 id_2 ≤ wayO (sdX n0 see0 tm0 g0 ff0 fp0) ir_2 id_2 ig_2 by rw [← (xTake (show id_2 < n0 by omega) (hlt 0 (by omega) ir_2 (by omega))), ← (wo_of (d := (sdX n0 see0 tm0 g0 ff0 fp0)) (hwy 0 (by omega) (show 0 < n0 by omega)) (by rw [tmX (by omega)]; omega) (show id_2 < n0 by omega) (by rw [seX (by omega)]; exact hig_2))]; exact fun q => hw_5 ⟨Classical.not_not.mp (fun z => c_4 (((ev_and ig_2 hg8_2).1).mpr z)), q⟩)])⟩), trivial⟩, hS.F ht⟩) hS.2.2 dX7_takes_51
    · rw [ex_3] at c_4
      refine lv_sipush (v := (-1003)) hx hb dX7_takes_26 (by decide) ?_
      exact W.iret (v := (-1003)) hx hb hr (fun t ht hW => ⟨⟨(-1003), (), rfl, dq_at (s := 0) (by omega) (show n0 ≤ 24 by omega) (show id_2 < n0 by omega) (show siA (nI ir_2) (nI ig_2) tsA (sdX n0 see0 tm0 g0 ff0 fp0) id_2 _ from si_at (by rw [tmX (by omega)]; omega) (by rw [seX (by omega)]; omega) (by rw [tmX (by omega)]; omega) (by rw [seX (by omega)]; exact hig_2) ⟨fun _ => rfl, fun h => absurd h (((ev_and ig_2 hg8_2).1).mp c_4)⟩), trivial⟩, hS.F ht⟩) hS.2.2 dX7_takes_29
  · refine lv_istore (lv' := [(5, .int 0), (0, .ref (a 0)), (1, .int 1), (2, .int (nI ir_2)), (3, .int (nI id_2)), (4, .int (nI ig_2))]) hx hb dX7_takes_9 hl (by decide) rfl (fun ls hl => ?_)
    refine lv_iload hx hb dX7_takes_11 (lv_at hl 0 rfl) ?_
    refine lv_if_eq (tgt := 19) hx hb dX7_takes_13 (by decide) (fun _ => ?_) (fun h => absurd (by decide) h)
    have hg8_2 : ig_2 < 8 := by have h8 := (p8 (sq_le (see := see1) (n := n1) (i := id_2) (by omega))).2; omega
    refine lv_iload hx hb dX7_takes_19 (lv_at hl 5 rfl) ?_
    refine lv_iconst (v := 1) hx hb dX7_takes_21 (by decide) ?_
    refine lv_iand hx hb dX7_takes_22 ?_
    refine lv_topi (fun x_6 ex_6 => ?_)
    refine lv_if_ne (tgt := 30) hx hb dX7_takes_23 (by decide) (fun c_7 => ?_) (fun c_7 => ?_)
    · rw [ex_6] at c_7
      refine lv_aload_n hx hb dX7_takes_30 rfl (lv_at hl 1 rfl) ?_
      refine va_get (D := D) (ci := 7) (v := .ref (a 19)) (C := RX7) (T := TX7) (N := 12) hx hb hts inX7 hown hK hP 0 rfl rfl 2 (by decide) (hts _ tw_307) (fun _ h9 => h9) rfl dX7_takes_31 ?_
      refine lv_iload_n hx hb dX7_takes_34 rfl (lv_at hl 2 rfl) ?_
      refine va_aldq hx hb hK hP 2 4 rfl rfl (by unfold vp_in; decide) dX7_takes_35 ?_
      refine lv_tr (y := .ref (a 25)) rfl ?_
      refine lv_iload_n hx hb dX7_takes_36 rfl (lv_at hl 3 rfl) ?_
      refine lv_iload_n hx hb dX7_takes_37 rfl (lv_at hl 4 rfl) ?_
      refine lv_iload hx hb dX7_takes_38 (lv_at hl 5 rfl) ?_
      refine ro_i (D := D) (va_runV (As := [.int (nI ir_2), .int (nI id_2), .int (nI ig_2)]) (rest := []) ⟨hx, hb, hml, hown, hts⟩ ((y_isTaken l D k st lo (a 9) (a 10) (a 11) (a 12) (a 13) n1 see1 tm1 g1 ff1 fp1 fl1 (a 25) (a 26) (a 27) (a 28) (a 29) on1 ir_2 id_2 ig_2 (by first | assumption | omega) (by first | assumption | omega) (by first | assumption | omega) (by first | assumption | omega)) H.size) (cwV 3 hts (gV tw_637 tw_638 tw_639 tw_85 tw_640) rfl rfl rfl (by decide +kernel) ⟨Nat.le_of_ble_eq_true rfl, Nat.le_of_ble_eq_true rfl⟩) (pV hS hAlo hlo hP hK hDL hZ [8, 9, 10, 11, 12, 22, 23] (by decide) rfl (ci := 0) (q := (RX0, TX0, 5)) (q0 := 5) rfl rfl) rfl rfl hl.1 rfl (lv_room (Nat.le_of_ble_eq_true rfl)) dX7_takes_40 ⟨Nat.le_of_ble_eq_true rfl, Nat.le_of_ble_eq_true rfl⟩) hS hA hP (fun r_8 H locs hw_8 hP hS => ?_)
      try dsimp only at hw_8
      rcases hw_8 with ⟨rfl, hw_8⟩ | ⟨rfl, hw_8⟩
      · refine lv_if_eq (tgt := 50) hx hb dX7_takes_43 (by decide) (fun h => absurd h (by decide)) (fun _ => ?_)
        refine lv_iconst (v := 1) hx hb dX7_takes_46 (by decide) ?_
        refine lv_goto (tgt := 51) hx hb dX7_takes_47 (by decide) ?_
        exact W.iret (v := 1) hx hb hr (fun t ht hW => ⟨⟨1, (), rfl, dq_at (s := 1) (by omega) (show n1 ≤ 24 by omega) (show id_2 < n1 by omega) (show siA (nI ir_2) (nI ig_2) tsA (sdX n1 see1 tm1 g1 ff1 fp1) id_2 _ from si_at (by rw [tmX (by omega)]; omega) (by rw [seX (by omega)]; omega) (by rw [tmX (by omega)]; omega) (by rw [seX (by omega)]; exact hig_2) ⟨fun h => absurd (Classical.not_not.mp (fun z => c_7 (((ev_and ig_2 hg8_2).1).mpr z))) h, fun _ => (by rw [if_pos (show pTake (sdX n1 see1 tm1 g1 ff1 fp1) ir_2 id_2 ≤ wayO (sdX n1 see1 tm1 g1 ff1 fp1) ir_2 id_2 ig_2 by rw [← (xTake (show id_2 < n1 by omega) (hlt 1 (by omega) ir_2 (by omega))), ← (wo_of (d := (sdX n1 see1 tm1 g1 ff1 fp1)) (hwy 1 (by omega) (show 0 < n1 by omega)) (by rw [tmX (by omega)]; omega) (show id_2 < n1 by omega) (by rw [seX (by omega)]; exact hig_2))]; exact hw_8.2)])⟩), trivial⟩, hS.F ht⟩) hS.2.2 dX7_takes_51
      · refine lv_if_eq (tgt := 50) hx hb dX7_takes_43 (by decide) (fun _ => ?_) (fun h => absurd (by decide) h)
        refine lv_iconst (v := 0) hx hb dX7_takes_50 (by decide) ?_
        exact W.iret (v := 0) hx hb hr (fun t ht hW => ⟨⟨0, (), rfl, dq_at (s := 1) (by omega) (show n1 ≤ 24 by omega) (show id_2 < n1 by omega) (show siA (nI ir_2) (nI ig_2) tsA (sdX n1 see1 tm1 g1 ff1 fp1) id_2 _ from si_at (by rw [tmX (by omega)]; omega) (by rw [seX (by omega)]; omega) (by rw [tmX (by omega)]; omega) (by rw [seX (by omega)]; exact hig_2) ⟨fun h => absurd (Classical.not_not.mp (fun z => c_7 (((ev_and ig_2 hg8_2).1).mpr z))) h, fun _ => (by rw [if_neg (show ¬ pTake (sdX n1 see1 tm1 g1 ff1 fp1) ir_2 id_2 ≤ wayO (sdX n1 see1 tm1 g1 ff1 fp1) ir_2 id_2 ig_2 by rw [← (xTake (show id_2 < n1 by omega) (hlt 1 (by omega) ir_2 (by omega))), ← (wo_of (d := (sdX n1 see1 tm1 g1 ff1 fp1)) (hwy 1 (by omega) (show 0 < n1 by omega)) (by rw [tmX (by omega)]; omega) (show id_2 < n1 by omega) (by rw [seX (by omega)]; exact hig_2))]; exact fun q => hw_8 ⟨Classical.not_not.mp (fun z => c_7 (((ev_and ig_2 hg8_2).1).mpr z)), q⟩)])⟩), trivial⟩, hS.F ht⟩) hS.2.2 dX7_takes_51
    · rw [ex_6] at c_7
      refine lv_sipush (v := (-1003)) hx hb dX7_takes_26 (by decide) ?_
      exact W.iret (v := (-1003)) hx hb hr (fun t ht hW => ⟨⟨(-1003), (), rfl, dq_at (s := 1) (by omega) (show n1 ≤ 24 by omega) (show id_2 < n1 by omega) (show siA (nI ir_2) (nI ig_2) tsA (sdX n1 see1 tm1 g1 ff1 fp1) id_2 _ from si_at (by rw [tmX (by omega)]; omega) (by rw [seX (by omega)]; omega) (by rw [tmX (by omega)]; omega) (by rw [seX (by omega)]; exact hig_2) ⟨fun _ => rfl, fun h => absurd h (((ev_and ig_2 hg8_2).1).mp c_7)⟩), trivial⟩, hS.F ht⟩) hS.2.2 dX7_takes_29
  · refine lv_istore (lv' := [(5, .int 0), (0, .ref (a 0)), (1, .int 2), (2, .int (nI ir_2)), (3, .int (nI id_2)), (4, .int (nI ig_2))]) hx hb dX7_takes_9 hl (by decide) rfl (fun ls hl => ?_)
    refine lv_iload hx hb dX7_takes_11 (lv_at hl 0 rfl) ?_
    refine lv_if_eq (tgt := 19) hx hb dX7_takes_13 (by decide) (fun _ => ?_) (fun h => absurd (by decide) h)
    have hg8_2 : ig_2 < 8 := by have h8 := (p8 (sq_le (see := see2) (n := n2) (i := id_2) (by omega))).2; omega
    refine lv_iload hx hb dX7_takes_19 (lv_at hl 5 rfl) ?_
    refine lv_iconst (v := 1) hx hb dX7_takes_21 (by decide) ?_
    refine lv_iand hx hb dX7_takes_22 ?_
    refine lv_topi (fun x_9 ex_9 => ?_)
    refine lv_if_ne (tgt := 30) hx hb dX7_takes_23 (by decide) (fun c_10 => ?_) (fun c_10 => ?_)
    · rw [ex_9] at c_10
      refine lv_aload_n hx hb dX7_takes_30 rfl (lv_at hl 1 rfl) ?_
      refine va_get (D := D) (ci := 7) (v := .ref (a 19)) (C := RX7) (T := TX7) (N := 12) hx hb hts inX7 hown hK hP 0 rfl rfl 2 (by decide) (hts _ tw_307) (fun _ h9 => h9) rfl dX7_takes_31 ?_
      refine lv_iload_n hx hb dX7_takes_34 rfl (lv_at hl 2 rfl) ?_
      refine va_aldq hx hb hK hP 2 4 rfl rfl (by unfold vp_in; decide) dX7_takes_35 ?_
      refine lv_tr (y := .ref (a 30)) rfl ?_
      refine lv_iload_n hx hb dX7_takes_36 rfl (lv_at hl 3 rfl) ?_
      refine lv_iload_n hx hb dX7_takes_37 rfl (lv_at hl 4 rfl) ?_
      refine lv_iload hx hb dX7_takes_38 (lv_at hl 5 rfl) ?_
      refine ro_i (D := D) (va_runV (As := [.int (nI ir_2), .int (nI id_2), .int (nI ig_2)]) (rest := []) ⟨hx, hb, hml, hown, hts⟩ ((y_isTaken l D k st lo (a 14) (a 15) (a 16) (a 17) (a 18) n2 see2 tm2 g2 ff2 fp2 fl2 (a 30) (a 31) (a 32) (a 33) (a 34) on2 ir_2 id_2 ig_2 (by first | assumption | omega) (by first | assumption | omega) (by first | assumption | omega) (by first | assumption | omega)) H.size) (cwV 3 hts (gV tw_637 tw_638 tw_639 tw_85 tw_640) rfl rfl rfl (by decide +kernel) ⟨Nat.le_of_ble_eq_true rfl, Nat.le_of_ble_eq_true rfl⟩) (pV hS hAlo hlo hP hK hDL hZ [13, 14, 15, 16, 17, 26, 27] (by decide) rfl (ci := 0) (q := (RX0, TX0, 5)) (q0 := 5) rfl rfl) rfl rfl hl.1 rfl (lv_room (Nat.le_of_ble_eq_true rfl)) dX7_takes_40 ⟨Nat.le_of_ble_eq_true rfl, Nat.le_of_ble_eq_true rfl⟩) hS hA hP (fun r_11 H locs hw_11 hP hS => ?_)
      try dsimp only at hw_11
      rcases hw_11 with ⟨rfl, hw_11⟩ | ⟨rfl, hw_11⟩
      · refine lv_if_eq (tgt := 50) hx hb dX7_takes_43 (by decide) (fun h => absurd h (by decide)) (fun _ => ?_)
        refine lv_iconst (v := 1) hx hb dX7_takes_46 (by decide) ?_
        refine lv_goto (tgt := 51) hx hb dX7_takes_47 (by decide) ?_
        exact W.iret (v := 1) hx hb hr (fun t ht hW => ⟨⟨1, (), rfl, dq_at (s := 2) (by omega) (show n2 ≤ 24 by omega) (show id_2 < n2 by omega) (show siA (nI ir_2) (nI ig_2) tsA (sdX n2 see2 tm2 g2 ff2 fp2) id_2 _ from si_at (by rw [tmX (by omega)]; omega) (by rw [seX (by omega)]; omega) (by rw [tmX (by omega)]; omega) (by rw [seX (by omega)]; exact hig_2) ⟨fun h => absurd (Classical.not_not.mp (fun z => c_10 (((ev_and ig_2 hg8_2).1).mpr z))) h, fun _ => (by rw [if_pos (show pTake (sdX n2 see2 tm2 g2 ff2 fp2) ir_2 id_2 ≤ wayO (sdX n2 see2 tm2 g2 ff2 fp2) ir_2 id_2 ig_2 by rw [← (xTake (show id_2 < n2 by omega) (hlt 2 (by omega) ir_2 (by omega))), ← (wo_of (d := (sdX n2 see2 tm2 g2 ff2 fp2)) (hwy 2 (by omega) (show 0 < n2 by omega)) (by rw [tmX (by omega)]; omega) (show id_2 < n2 by omega) (by rw [seX (by omega)]; exact hig_2))]; exact hw_11.2)])⟩), trivial⟩, hS.F ht⟩) hS.2.2 dX7_takes_51
      · refine lv_if_eq (tgt := 50) hx hb dX7_takes_43 (by decide) (fun _ => ?_) (fun h => absurd (by decide) h)
        refine lv_iconst (v := 0) hx hb dX7_takes_50 (by decide) ?_
        exact W.iret (v := 0) hx hb hr (fun t ht hW => ⟨⟨0, (), rfl, dq_at (s := 2) (by omega) (show n2 ≤ 24 by omega) (show id_2 < n2 by omega) (show siA (nI ir_2) (nI ig_2) tsA (sdX n2 see2 tm2 g2 ff2 fp2) id_2 _ from si_at (by rw [tmX (by omega)]; omega) (by rw [seX (by omega)]; omega) (by rw [tmX (by omega)]; omega) (by rw [seX (by omega)]; exact hig_2) ⟨fun h => absurd (Classical.not_not.mp (fun z => c_10 (((ev_and ig_2 hg8_2).1).mpr z))) h, fun _ => (by rw [if_neg (show ¬ pTake (sdX n2 see2 tm2 g2 ff2 fp2) ir_2 id_2 ≤ wayO (sdX n2 see2 tm2 g2 ff2 fp2) ir_2 id_2 ig_2 by rw [← (xTake (show id_2 < n2 by omega) (hlt 2 (by omega) ir_2 (by omega))), ← (wo_of (d := (sdX n2 see2 tm2 g2 ff2 fp2)) (hwy 2 (by omega) (show 0 < n2 by omega)) (by rw [tmX (by omega)]; omega) (show id_2 < n2 by omega) (by rw [seX (by omega)]; exact hig_2))]; exact fun q => hw_11 ⟨Classical.not_not.mp (fun z => c_10 (((ev_and ig_2 hg8_2).1).mpr z)), q⟩)])⟩), trivial⟩, hS.F ht⟩) hS.2.2 dX7_takes_51
    · rw [ex_9] at c_10
      refine lv_sipush (v := (-1003)) hx hb dX7_takes_26 (by decide) ?_
      exact W.iret (v := (-1003)) hx hb hr (fun t ht hW => ⟨⟨(-1003), (), rfl, dq_at (s := 2) (by omega) (show n2 ≤ 24 by omega) (show id_2 < n2 by omega) (show siA (nI ir_2) (nI ig_2) tsA (sdX n2 see2 tm2 g2 ff2 fp2) id_2 _ from si_at (by rw [tmX (by omega)]; omega) (by rw [seX (by omega)]; omega) (by rw [tmX (by omega)]; omega) (by rw [seX (by omega)]; exact hig_2) ⟨fun _ => rfl, fun h => absurd h (((ev_and ig_2 hg8_2).1).mp c_10)⟩), trivial⟩, hS.F ht⟩) hS.2.2 dX7_takes_29
  · refine lv_istore (lv' := [(5, .int (-1001)), (0, .ref (a 0)), (1, .int p0), (2, .int p1), (3, .int p2), (4, .int p3)]) hx hb dX7_takes_9 hl (by decide) rfl (fun ls hl => ?_)
    refine lv_iload hx hb dX7_takes_11 (lv_at hl 0 rfl) ?_
    refine lv_if_eq (tgt := 19) hx hb dX7_takes_13 (by decide) (fun h => absurd h (by decide)) (fun _ => ?_)
    refine lv_iload hx hb dX7_takes_16 (lv_at hl 0 rfl) ?_
    exact W.iret (v := (-1001)) hx hb hr (fun t ht hW => ⟨⟨(-1001), (), rfl, dq_no (fun s h1 h2 i h3 h4 => hw_1 s h1 h2 i h3 (by rw [d3_n] at h4; exact h4)), trivial⟩, hS.F ht⟩) hS.2.2 dX7_takes_18
  · refine lv_istore (lv' := [(5, .int (-1002)), (0, .ref (a 0)), (1, .int 0), (2, .int p1), (3, .int (nI id_2)), (4, .int p3)]) hx hb dX7_takes_9 hl (by decide) rfl (fun ls hl => ?_)
    refine lv_iload hx hb dX7_takes_11 (lv_at hl 0 rfl) ?_
    refine lv_if_eq (tgt := 19) hx hb dX7_takes_13 (by decide) (fun h => absurd h (by decide)) (fun _ => ?_)
    refine lv_iload hx hb dX7_takes_16 (lv_at hl 0 rfl) ?_
    exact W.iret (v := (-1002)) hx hb hr (fun t ht hW => ⟨⟨(-1002), (), rfl, dq_at (s := 0) (by omega) (show n0 ≤ 24 by omega) (show id_2 < n0 by omega) (show siA p1 p3 tsA (sdX n0 see0 tm0 g0 ff0 fp0) id_2 _ from si_no (fun rn g c => hw_1 rn g (by have h9 := c.2.1; rw [tmX (by omega)] at h9; exact h9) c.1 c.2.2.1 (by have h9 := c.2.2.2; rw [seX (by omega)] at h9; exact h9))), trivial⟩, hS.F ht⟩) hS.2.2 dX7_takes_18
  · refine lv_istore (lv' := [(5, .int (-1002)), (0, .ref (a 0)), (1, .int 1), (2, .int p1), (3, .int (nI id_2)), (4, .int p3)]) hx hb dX7_takes_9 hl (by decide) rfl (fun ls hl => ?_)
    refine lv_iload hx hb dX7_takes_11 (lv_at hl 0 rfl) ?_
    refine lv_if_eq (tgt := 19) hx hb dX7_takes_13 (by decide) (fun h => absurd h (by decide)) (fun _ => ?_)
    refine lv_iload hx hb dX7_takes_16 (lv_at hl 0 rfl) ?_
    exact W.iret (v := (-1002)) hx hb hr (fun t ht hW => ⟨⟨(-1002), (), rfl, dq_at (s := 1) (by omega) (show n1 ≤ 24 by omega) (show id_2 < n1 by omega) (show siA p1 p3 tsA (sdX n1 see1 tm1 g1 ff1 fp1) id_2 _ from si_no (fun rn g c => hw_1 rn g (by have h9 := c.2.1; rw [tmX (by omega)] at h9; exact h9) c.1 c.2.2.1 (by have h9 := c.2.2.2; rw [seX (by omega)] at h9; exact h9))), trivial⟩, hS.F ht⟩) hS.2.2 dX7_takes_18
  · refine lv_istore (lv' := [(5, .int (-1002)), (0, .ref (a 0)), (1, .int 2), (2, .int p1), (3, .int (nI id_2)), (4, .int p3)]) hx hb dX7_takes_9 hl (by decide) rfl (fun ls hl => ?_)
    refine lv_iload hx hb dX7_takes_11 (lv_at hl 0 rfl) ?_
    refine lv_if_eq (tgt := 19) hx hb dX7_takes_13 (by decide) (fun h => absurd h (by decide)) (fun _ => ?_)
    refine lv_iload hx hb dX7_takes_16 (lv_at hl 0 rfl) ?_
    exact W.iret (v := (-1002)) hx hb hr (fun t ht hW => ⟨⟨(-1002), (), rfl, dq_at (s := 2) (by omega) (show n2 ≤ 24 by omega) (show id_2 < n2 by omega) (show siA p1 p3 tsA (sdX n2 see2 tm2 g2 ff2 fp2) id_2 _ from si_no (fun rn g c => hw_1 rn g (by have h9 := c.2.1; rw [tmX (by omega)] at h9; exact h9) c.1 c.2.2.1 (by have h9 := c.2.2.2; rw [seX (by omega)] at h9; exact h9))), trivial⟩, hS.F ht⟩) hS.2.2 dX7_takes_18


set_option maxHeartbeats 4000000 in
set_option maxRecDepth 100000 in
theorem y_start (l : Launch) (D : va_G) (k : Nat → ClassId) (st : Nat → Nat) (lo : Nat) (a : Nat → Nat) (rk : Nat) (lfa : Int32) (n0 : Nat) (see0 : Nat) (tm0 : Nat) (g0 : Nat → Int32) (ff0 : Nat → Int32) (fp0 : Nat → Int32) (fl0 : Nat → Int32) (n1 : Nat) (see1 : Nat) (tm1 : Nat) (g1 : Nat → Int32) (ff1 : Nat → Int32) (fp1 : Nat → Int32) (fl1 : Nat → Int32) (n2 : Nat) (see2 : Nat) (tm2 : Nat) (g2 : Nat → Int32) (ff2 : Nat → Int32) (fp2 : Nat → Int32) (fl2 : Nat → Int32) (on0 : Nat → Int32) (sr0 : Nat → Int32) (en0 : Nat → Int32) (on1 : Nat → Int32) (sr1 : Nat → Int32) (en1 : Nat → Int32) (on2 : Nat → Int32) (sr2 : Nat → Int32) (en2 : Nat → Int32) (p0 : Int32) (p1 : Int32) (hn0 : n0 ≤ 24) (hse0 : see0 ≤ 2) (htm0 : tm0 ≤ 3) (hn1 : n1 ≤ 24) (hse1 : see1 ≤ 2) (htm1 : tm1 ≤ 3) (hn2 : n2 ≤ 24) (hse2 : see2 ≤ 2) (htm2 : tm2 ≤ 3) (hwy : wy3 (d3 (sdX n0 see0 tm0 g0 ff0 fp0) (sdX n1 see1 tm1 g1 ff1 fp1) (sdX n2 see2 tm2 g2 ff2 fp2)) (d3 on0 on1 on2) (d3 sr0 sr1 sr2) (d3 en0 en1 en2)) : CRi l D k st lo yX7_start cX7_start 3 (some .int) ({ frames := 2, cells := 0, slots := 0, locals := 44 }) [.ref (a 0), .int p0, .int p1] [((a 0), .inr (7, (fX7 (a 1) (a 3) (a 19) (a 35) (a 40) (nI rk) lfa (a 53) (a 56) (a 63) (a 64) (a 68)))), ((a 3), .inl (k 3, 3, .inr (.inr (.inr (.inr (a3 (a 4) (a 9) (a 14))))))), ((a 19), .inl (k 4, 3, .inr (.inr (.inr (.inr (a3 (a 20) (a 25) (a 30))))))), ((a 4), .inr (5, (fX5 (a 5) (a 6) (a 7) (a 8)))), (aI k (a 5) 10 (vv n0 see0 tm0 g0)), (aI k (a 6) 24 ff0), (aI k (a 7) 24 fp0), (aI k (a 8) 4 fl0), ((a 9), .inr (5, (fX5 (a 10) (a 11) (a 12) (a 13)))), (aI k (a 10) 10 (vv n1 see1 tm1 g1)), (aI k (a 11) 24 ff1), (aI k (a 12) 24 fp1), (aI k (a 13) 4 fl1), ((a 14), .inr (5, (fX5 (a 15) (a 16) (a 17) (a 18)))), (aI k (a 15) 10 (vv n2 see2 tm2 g2)), (aI k (a 16) 24 ff2), (aI k (a 17) 24 fp2), (aI k (a 18) 4 fl2), ((a 20), .inr (0, (fX0 (a 4) (a 21) (a 22) (a 23) (a 24)))), (aI k (a 21) 768 on0), (aI k (a 22) 4 sr0), (aI k (a 23) 4 en0), ((a 25), .inr (0, (fX0 (a 9) (a 26) (a 27) (a 28) (a 29)))), (aI k (a 26) 768 on1), (aI k (a 27) 4 sr1), (aI k (a 28) 4 en1), ((a 30), .inr (0, (fX0 (a 14) (a 31) (a 32) (a 33) (a 34)))), (aI k (a 31) 768 on2), (aI k (a 32) 4 sr2), (aI k (a 33) 4 en2)] (fun r => tqP (d3 (sdX n0 see0 tm0 g0 ff0 fp0) (sdX n1 see1 tm1 g1 ff1 fp1) (sdX n2 see2 tm2 g2 ff2 fp2)) p0 (stA p1) r) := by
  intro sz
  refine Met.ofW (cc := cX7_start) (maxL := 3) (ret := (some .int)) (by decide) rfl ?_
  intro p e s m args below meth c s₁ B hml hv
  obtain ⟨rfl, hsz, hlo, hP, hK, hDL, hZ⟩ := hv
  have hx := B.exec
  have hb := B.bytes
  have hr := B.returns
  have hts := WS_ts B.pre
  have hown : s.vm.findClass RX7 = some m.cls := findClass_of_methodNamed B.named
  have hlocks := B.notSynchronized
  subst hsz
  have hA : ∀ q : Nat, s.heap.size ≤ q → (fun q : Nat => s.heap.size ≤ q) q := fun _ h => h
  have hAlo : ∀ q : Nat, (fun q : Nat => s.heap.size ≤ q) q → lo ≤ q := fun q h => Nat.le_trans hlo h
  have hS : va_S (fun q : Nat => s.heap.size ≤ q) s.heap s.heap [] := va_S.rf
  have hl := lv_entry ([.ref (a 0), .int p0, .int p1]) (n := 3) (Nat.le_of_ble_eq_true rfl)
  rw [lg_entry_eq]
  generalize (lg_sl ([.ref (a 0), .int p0, .int p1]) ++ List.replicate (3 - (lg_sl ([.ref (a 0), .int p0, .int p1])).length) Slot.unset).toArray = ls at hl ⊢
  have hl : lv_has ls 3 [(0, .ref (a 0)), (1, .int p0), (2, .int p1)] := hl
  refine lv_aload_n hx hb dX7_start_0 rfl (lv_at hl 0 rfl) ?_
  refine lv_iload_n hx hb dX7_start_1 rfl (lv_at hl 1 rfl) ?_
  refine ro_i (D := D) (va_runV (As := [.int p0]) (rest := []) ⟨hx, hb, hml, hown, hts⟩ ((y_isStreet l D k st lo a rk lfa n0 see0 tm0 g0 n1 see1 tm1 g1 n2 see2 tm2 g2 p0 (by first | assumption | omega) (by first | assumption | omega) (by first | assumption | omega)) s.heap.size) (cwV 1 hts (gV tw_589 tw_591 tw_8 tw_79 tw_592) rfl rfl rfl (by decide +kernel) ⟨Nat.le_of_ble_eq_true rfl, Nat.le_of_ble_eq_true rfl⟩) (pV hS hAlo hlo hP hK hDL hZ [0, 1, 3, 4, 8, 9, 13, 14] (by decide) rfl (ci := 7) (q := (RX7, TX7, 12)) (q0 := 0) rfl rfl) rfl rfl hl.1 rfl (lv_room (Nat.le_of_ble_eq_true rfl)) dX7_start_2 ⟨Nat.le_of_ble_eq_true rfl, Nat.le_of_ble_eq_true rfl⟩) hS hA hP (fun r_1 H locs hw_1 hP hS => ?_)
  try dsimp only at hw_1
  rcases hw_1 with ⟨rfl, ⟨rfl, hw_1⟩ | ⟨rfl, hw_1⟩ | ⟨rfl, hw_1⟩⟩ | ⟨rfl, hw_1⟩
  · refine lv_if_ne (tgt := 12) hx hb dX7_start_5 (by decide) (fun _ => ?_) (fun h => absurd h (by decide))
    refine lv_aload_n hx hb dX7_start_12 rfl (lv_at hl 0 rfl) ?_
    refine lv_iload_n hx hb dX7_start_13 rfl (lv_at hl 1 rfl) ?_
    refine lv_iload_n hx hb dX7_start_14 rfl (lv_at hl 2 rfl) ?_
    refine ro_i (D := D) (va_runV (As := [.int 0, .int p1]) (rest := []) ⟨hx, hb, hml, hown, hts⟩ ((y_isRound_0 l D k st lo a rk lfa n0 see0 tm0 g0 p1 (by first | assumption | omega)) H.size) (cwV 2 hts (gV tw_613 tw_615 tw_10 tw_79 tw_616) rfl rfl rfl (by decide +kernel) ⟨Nat.le_of_ble_eq_true rfl, Nat.le_of_ble_eq_true rfl⟩) (pV hS hAlo hlo hP hK hDL hZ [0, 1, 3, 4] (by decide) rfl (ci := 7) (q := (RX7, TX7, 12)) (q0 := 0) rfl rfl) rfl rfl hl.1 rfl (lv_room (Nat.le_of_ble_eq_true rfl)) dX7_start_15 ⟨Nat.le_of_ble_eq_true rfl, Nat.le_of_ble_eq_true rfl⟩) hS hA hP (fun r_2 H locs hw_2 hP hS => ?_)
    try dsimp only at hw_2
    rcases hw_2 with ⟨rfl, ir_3, hir_3, rfl⟩ | ⟨rfl, hw_2⟩
    · refine lv_if_eq (tgt := 35) hx hb dX7_start_18 (by decide) (fun h => absurd h (by decide)) (fun _ => ?_)
      refine lv_aload_n hx hb dX7_start_21 rfl (lv_at hl 0 rfl) ?_
      refine va_get (D := D) (ci := 7) (v := .ref (a 19)) (C := RX7) (T := TX7) (N := 12) hx hb hts inX7 hown hK hP 0 rfl rfl 2 (by decide) (hts _ tw_307) (fun _ h9 => h9) rfl dX7_start_22 ?_
      refine lv_iload_n hx hb dX7_start_25 rfl (lv_at hl 1 rfl) ?_
      refine va_aldq hx hb hK hP 2 4 rfl rfl (by unfold vp_in; decide) dX7_start_26 ?_
      refine lv_tr (y := .ref (a 20)) rfl ?_
      refine va_get (D := D) (ci := 0) (v := .ref (a 22)) (C := RX0) (T := TX0) (N := 5) hx hb hts inX0 hown hK hP 18 rfl rfl 2 (by decide) (hts _ tw_269) (fun _ h9 => h9) rfl dX7_start_27 ?_
      refine lv_iload_n hx hb dX7_start_30 rfl (lv_at hl 2 rfl) ?_
      refine va_iald hx hb hK hP 20 1 rfl rfl (vp_in_nI (by omega) (by decide)) dX7_start_31 ?_
      refine lv_ti (y := (sr0 ir_3)) (by rw [nI_clamp (by omega)]) ?_
      refine lv_goto (tgt := 38) hx hb dX7_start_32 (by decide) ?_
      exact W.iret (v := (sr0 ir_3)) hx hb hr (fun t ht hW => ⟨⟨(sr0 ir_3), (), rfl, tq_at (s := 0) (by omega) (show 0 < n0 by omega) (show stA (nI ir_3) (sdX n0 see0 tm0 g0 ff0 fp0) _ from st_i (by omega) (by rw [rdX]; exact inr (by omega) (by omega)) ((hwy 0 (by omega) (show 0 < n0 by omega)) ir_3 (Nat.zero_le _) (show ir_3 ≤ tmD (sdX n0 see0 tm0 g0 ff0 fp0) by rw [tmX (by omega)]; omega)).2.1), trivial⟩, hS.F ht⟩) hS.2.2 dX7_start_38
    · refine lv_if_eq (tgt := 35) hx hb dX7_start_18 (by decide) (fun _ => ?_) (fun h => absurd (by decide) h)
      refine lv_sipush (v := (-1002)) hx hb dX7_start_35 (by decide) ?_
      exact W.iret (v := (-1002)) hx hb hr (fun t ht hW => ⟨⟨(-1002), (), rfl, tq_at (s := 0) (by omega) (show 0 < n0 by omega) (show stA p1 (sdX n0 see0 tm0 g0 ff0 fp0) _ from st_o (by rw [rdX]; exact hw_2)), trivial⟩, hS.F ht⟩) hS.2.2 dX7_start_38
  · refine lv_if_ne (tgt := 12) hx hb dX7_start_5 (by decide) (fun _ => ?_) (fun h => absurd h (by decide))
    refine lv_aload_n hx hb dX7_start_12 rfl (lv_at hl 0 rfl) ?_
    refine lv_iload_n hx hb dX7_start_13 rfl (lv_at hl 1 rfl) ?_
    refine lv_iload_n hx hb dX7_start_14 rfl (lv_at hl 2 rfl) ?_
    refine ro_i (D := D) (va_runV (As := [.int 1, .int p1]) (rest := []) ⟨hx, hb, hml, hown, hts⟩ ((y_isRound_1 l D k st lo a rk lfa n1 see1 tm1 g1 p1 (by first | assumption | omega)) H.size) (cwV 2 hts (gV tw_613 tw_615 tw_10 tw_79 tw_616) rfl rfl rfl (by decide +kernel) ⟨Nat.le_of_ble_eq_true rfl, Nat.le_of_ble_eq_true rfl⟩) (pV hS hAlo hlo hP hK hDL hZ [0, 1, 8, 9] (by decide) rfl (ci := 7) (q := (RX7, TX7, 12)) (q0 := 0) rfl rfl) rfl rfl hl.1 rfl (lv_room (Nat.le_of_ble_eq_true rfl)) dX7_start_15 ⟨Nat.le_of_ble_eq_true rfl, Nat.le_of_ble_eq_true rfl⟩) hS hA hP (fun r_4 H locs hw_4 hP hS => ?_)
    try dsimp only at hw_4
    rcases hw_4 with ⟨rfl, ir_5, hir_5, rfl⟩ | ⟨rfl, hw_4⟩
    · refine lv_if_eq (tgt := 35) hx hb dX7_start_18 (by decide) (fun h => absurd h (by decide)) (fun _ => ?_)
      refine lv_aload_n hx hb dX7_start_21 rfl (lv_at hl 0 rfl) ?_
      refine va_get (D := D) (ci := 7) (v := .ref (a 19)) (C := RX7) (T := TX7) (N := 12) hx hb hts inX7 hown hK hP 0 rfl rfl 2 (by decide) (hts _ tw_307) (fun _ h9 => h9) rfl dX7_start_22 ?_
      refine lv_iload_n hx hb dX7_start_25 rfl (lv_at hl 1 rfl) ?_
      refine va_aldq hx hb hK hP 2 4 rfl rfl (by unfold vp_in; decide) dX7_start_26 ?_
      refine lv_tr (y := .ref (a 25)) rfl ?_
      refine va_get (D := D) (ci := 0) (v := .ref (a 27)) (C := RX0) (T := TX0) (N := 5) hx hb hts inX0 hown hK hP 22 rfl rfl 2 (by decide) (hts _ tw_269) (fun _ h9 => h9) rfl dX7_start_27 ?_
      refine lv_iload_n hx hb dX7_start_30 rfl (lv_at hl 2 rfl) ?_
      refine va_iald hx hb hK hP 24 1 rfl rfl (vp_in_nI (by omega) (by decide)) dX7_start_31 ?_
      refine lv_ti (y := (sr1 ir_5)) (by rw [nI_clamp (by omega)]) ?_
      refine lv_goto (tgt := 38) hx hb dX7_start_32 (by decide) ?_
      exact W.iret (v := (sr1 ir_5)) hx hb hr (fun t ht hW => ⟨⟨(sr1 ir_5), (), rfl, tq_at (s := 1) (by omega) (show 0 < n1 by omega) (show stA (nI ir_5) (sdX n1 see1 tm1 g1 ff1 fp1) _ from st_i (by omega) (by rw [rdX]; exact inr (by omega) (by omega)) ((hwy 1 (by omega) (show 0 < n1 by omega)) ir_5 (Nat.zero_le _) (show ir_5 ≤ tmD (sdX n1 see1 tm1 g1 ff1 fp1) by rw [tmX (by omega)]; omega)).2.1), trivial⟩, hS.F ht⟩) hS.2.2 dX7_start_38
    · refine lv_if_eq (tgt := 35) hx hb dX7_start_18 (by decide) (fun _ => ?_) (fun h => absurd (by decide) h)
      refine lv_sipush (v := (-1002)) hx hb dX7_start_35 (by decide) ?_
      exact W.iret (v := (-1002)) hx hb hr (fun t ht hW => ⟨⟨(-1002), (), rfl, tq_at (s := 1) (by omega) (show 0 < n1 by omega) (show stA p1 (sdX n1 see1 tm1 g1 ff1 fp1) _ from st_o (by rw [rdX]; exact hw_4)), trivial⟩, hS.F ht⟩) hS.2.2 dX7_start_38
  · refine lv_if_ne (tgt := 12) hx hb dX7_start_5 (by decide) (fun _ => ?_) (fun h => absurd h (by decide))
    refine lv_aload_n hx hb dX7_start_12 rfl (lv_at hl 0 rfl) ?_
    refine lv_iload_n hx hb dX7_start_13 rfl (lv_at hl 1 rfl) ?_
    refine lv_iload_n hx hb dX7_start_14 rfl (lv_at hl 2 rfl) ?_
    refine ro_i (D := D) (va_runV (As := [.int 2, .int p1]) (rest := []) ⟨hx, hb, hml, hown, hts⟩ ((y_isRound_2 l D k st lo a rk lfa n2 see2 tm2 g2 p1 (by first | assumption | omega)) H.size) (cwV 2 hts (gV tw_613 tw_615 tw_10 tw_79 tw_616) rfl rfl rfl (by decide +kernel) ⟨Nat.le_of_ble_eq_true rfl, Nat.le_of_ble_eq_true rfl⟩) (pV hS hAlo hlo hP hK hDL hZ [0, 1, 13, 14] (by decide) rfl (ci := 7) (q := (RX7, TX7, 12)) (q0 := 0) rfl rfl) rfl rfl hl.1 rfl (lv_room (Nat.le_of_ble_eq_true rfl)) dX7_start_15 ⟨Nat.le_of_ble_eq_true rfl, Nat.le_of_ble_eq_true rfl⟩) hS hA hP (fun r_6 H locs hw_6 hP hS => ?_)
    try dsimp only at hw_6
    rcases hw_6 with ⟨rfl, ir_7, hir_7, rfl⟩ | ⟨rfl, hw_6⟩
    · refine lv_if_eq (tgt := 35) hx hb dX7_start_18 (by decide) (fun h => absurd h (by decide)) (fun _ => ?_)
      refine lv_aload_n hx hb dX7_start_21 rfl (lv_at hl 0 rfl) ?_
      refine va_get (D := D) (ci := 7) (v := .ref (a 19)) (C := RX7) (T := TX7) (N := 12) hx hb hts inX7 hown hK hP 0 rfl rfl 2 (by decide) (hts _ tw_307) (fun _ h9 => h9) rfl dX7_start_22 ?_
      refine lv_iload_n hx hb dX7_start_25 rfl (lv_at hl 1 rfl) ?_
      refine va_aldq hx hb hK hP 2 4 rfl rfl (by unfold vp_in; decide) dX7_start_26 ?_
      refine lv_tr (y := .ref (a 30)) rfl ?_
      refine va_get (D := D) (ci := 0) (v := .ref (a 32)) (C := RX0) (T := TX0) (N := 5) hx hb hts inX0 hown hK hP 26 rfl rfl 2 (by decide) (hts _ tw_269) (fun _ h9 => h9) rfl dX7_start_27 ?_
      refine lv_iload_n hx hb dX7_start_30 rfl (lv_at hl 2 rfl) ?_
      refine va_iald hx hb hK hP 28 1 rfl rfl (vp_in_nI (by omega) (by decide)) dX7_start_31 ?_
      refine lv_ti (y := (sr2 ir_7)) (by rw [nI_clamp (by omega)]) ?_
      refine lv_goto (tgt := 38) hx hb dX7_start_32 (by decide) ?_
      exact W.iret (v := (sr2 ir_7)) hx hb hr (fun t ht hW => ⟨⟨(sr2 ir_7), (), rfl, tq_at (s := 2) (by omega) (show 0 < n2 by omega) (show stA (nI ir_7) (sdX n2 see2 tm2 g2 ff2 fp2) _ from st_i (by omega) (by rw [rdX]; exact inr (by omega) (by omega)) ((hwy 2 (by omega) (show 0 < n2 by omega)) ir_7 (Nat.zero_le _) (show ir_7 ≤ tmD (sdX n2 see2 tm2 g2 ff2 fp2) by rw [tmX (by omega)]; omega)).2.1), trivial⟩, hS.F ht⟩) hS.2.2 dX7_start_38
    · refine lv_if_eq (tgt := 35) hx hb dX7_start_18 (by decide) (fun _ => ?_) (fun h => absurd (by decide) h)
      refine lv_sipush (v := (-1002)) hx hb dX7_start_35 (by decide) ?_
      exact W.iret (v := (-1002)) hx hb hr (fun t ht hW => ⟨⟨(-1002), (), rfl, tq_at (s := 2) (by omega) (show 0 < n2 by omega) (show stA p1 (sdX n2 see2 tm2 g2 ff2 fp2) _ from st_o (by rw [rdX]; exact hw_6)), trivial⟩, hS.F ht⟩) hS.2.2 dX7_start_38
  · refine lv_if_ne (tgt := 12) hx hb dX7_start_5 (by decide) (fun h => absurd (by decide) h) (fun _ => ?_)
    refine lv_sipush (v := (-1001)) hx hb dX7_start_8 (by decide) ?_
    exact W.iret (v := (-1001)) hx hb hr (fun t ht hW => ⟨⟨(-1001), (), rfl, tq_no (fun s h1 h2 h3 => hw_1 s h1 h2 (by rw [d3_n] at h3; exact h3)), trivial⟩, hS.F ht⟩) hS.2.2 dX7_start_11


set_option maxHeartbeats 4000000 in
set_option maxRecDepth 100000 in
theorem y_end (l : Launch) (D : va_G) (k : Nat → ClassId) (st : Nat → Nat) (lo : Nat) (a : Nat → Nat) (rk : Nat) (lfa : Int32) (n0 : Nat) (see0 : Nat) (tm0 : Nat) (g0 : Nat → Int32) (ff0 : Nat → Int32) (fp0 : Nat → Int32) (fl0 : Nat → Int32) (n1 : Nat) (see1 : Nat) (tm1 : Nat) (g1 : Nat → Int32) (ff1 : Nat → Int32) (fp1 : Nat → Int32) (fl1 : Nat → Int32) (n2 : Nat) (see2 : Nat) (tm2 : Nat) (g2 : Nat → Int32) (ff2 : Nat → Int32) (fp2 : Nat → Int32) (fl2 : Nat → Int32) (on0 : Nat → Int32) (sr0 : Nat → Int32) (en0 : Nat → Int32) (on1 : Nat → Int32) (sr1 : Nat → Int32) (en1 : Nat → Int32) (on2 : Nat → Int32) (sr2 : Nat → Int32) (en2 : Nat → Int32) (p0 : Int32) (p1 : Int32) (p2 : Int32) (hn0 : n0 ≤ 24) (hse0 : see0 ≤ 2) (htm0 : tm0 ≤ 3) (hn1 : n1 ≤ 24) (hse1 : see1 ≤ 2) (htm1 : tm1 ≤ 3) (hn2 : n2 ≤ 24) (hse2 : see2 ≤ 2) (htm2 : tm2 ≤ 3) (hlt : ltP (d3 fl0 fl1 fl2) (d3 (sdX n0 see0 tm0 g0 ff0 fp0) (sdX n1 see1 tm1 g1 ff1 fp1) (sdX n2 see2 tm2 g2 ff2 fp2))) (hwy : wy3 (d3 (sdX n0 see0 tm0 g0 ff0 fp0) (sdX n1 see1 tm1 g1 ff1 fp1) (sdX n2 see2 tm2 g2 ff2 fp2)) (d3 on0 on1 on2) (d3 sr0 sr1 sr2) (d3 en0 en1 en2)) : CRi l D k st lo yX7_end cX7_end 4 (some .int) ({ frames := 2, cells := 0, slots := 0, locals := 44 }) [.ref (a 0), .int p0, .int p1, .int p2] [((a 0), .inr (7, (fX7 (a 1) (a 3) (a 19) (a 35) (a 40) (nI rk) lfa (a 53) (a 56) (a 63) (a 64) (a 68)))), ((a 3), .inl (k 3, 3, .inr (.inr (.inr (.inr (a3 (a 4) (a 9) (a 14))))))), ((a 19), .inl (k 4, 3, .inr (.inr (.inr (.inr (a3 (a 20) (a 25) (a 30))))))), ((a 4), .inr (5, (fX5 (a 5) (a 6) (a 7) (a 8)))), (aI k (a 5) 10 (vv n0 see0 tm0 g0)), (aI k (a 6) 24 ff0), (aI k (a 7) 24 fp0), (aI k (a 8) 4 fl0), ((a 9), .inr (5, (fX5 (a 10) (a 11) (a 12) (a 13)))), (aI k (a 10) 10 (vv n1 see1 tm1 g1)), (aI k (a 11) 24 ff1), (aI k (a 12) 24 fp1), (aI k (a 13) 4 fl1), ((a 14), .inr (5, (fX5 (a 15) (a 16) (a 17) (a 18)))), (aI k (a 15) 10 (vv n2 see2 tm2 g2)), (aI k (a 16) 24 ff2), (aI k (a 17) 24 fp2), (aI k (a 18) 4 fl2), ((a 20), .inr (0, (fX0 (a 4) (a 21) (a 22) (a 23) (a 24)))), (aI k (a 21) 768 on0), (aI k (a 22) 4 sr0), (aI k (a 23) 4 en0), ((a 25), .inr (0, (fX0 (a 9) (a 26) (a 27) (a 28) (a 29)))), (aI k (a 26) 768 on1), (aI k (a 27) 4 sr1), (aI k (a 28) 4 en1), ((a 30), .inr (0, (fX0 (a 14) (a 31) (a 32) (a 33) (a 34)))), (aI k (a 31) 768 on2), (aI k (a 32) 4 sr2), (aI k (a 33) 4 en2)] (fun r => tqP (d3 (sdX n0 see0 tm0 g0 ff0 fp0) (sdX n1 see1 tm1 g1 ff1 fp1) (sdX n2 see2 tm2 g2 ff2 fp2)) p0 (enA p1 p2) r) := by
  intro sz
  refine Met.ofW (cc := cX7_end) (maxL := 4) (ret := (some .int)) (by decide) rfl ?_
  intro p e s m args below meth c s₁ B hml hv
  obtain ⟨rfl, hsz, hlo, hP, hK, hDL, hZ⟩ := hv
  have hx := B.exec
  have hb := B.bytes
  have hr := B.returns
  have hts := WS_ts B.pre
  have hown : s.vm.findClass RX7 = some m.cls := findClass_of_methodNamed B.named
  have hlocks := B.notSynchronized
  subst hsz
  have hA : ∀ q : Nat, s.heap.size ≤ q → (fun q : Nat => s.heap.size ≤ q) q := fun _ h => h
  have hAlo : ∀ q : Nat, (fun q : Nat => s.heap.size ≤ q) q → lo ≤ q := fun q h => Nat.le_trans hlo h
  have hS : va_S (fun q : Nat => s.heap.size ≤ q) s.heap s.heap [] := va_S.rf
  have hl := lv_entry ([.ref (a 0), .int p0, .int p1, .int p2]) (n := 4) (Nat.le_of_ble_eq_true rfl)
  rw [lg_entry_eq]
  generalize (lg_sl ([.ref (a 0), .int p0, .int p1, .int p2]) ++ List.replicate (4 - (lg_sl ([.ref (a 0), .int p0, .int p1, .int p2])).length) Slot.unset).toArray = ls at hl ⊢
  have hl : lv_has ls 4 [(0, .ref (a 0)), (1, .int p0), (2, .int p1), (3, .int p2)] := hl
  refine lv_aload_n hx hb dX7_end_0 rfl (lv_at hl 0 rfl) ?_
  refine lv_iload_n hx hb dX7_end_1 rfl (lv_at hl 1 rfl) ?_
  refine ro_i (D := D) (va_runV (As := [.int p0]) (rest := []) ⟨hx, hb, hml, hown, hts⟩ ((y_isStreet l D k st lo a rk lfa n0 see0 tm0 g0 n1 see1 tm1 g1 n2 see2 tm2 g2 p0 (by first | assumption | omega) (by first | assumption | omega) (by first | assumption | omega)) s.heap.size) (cwV 1 hts (gV tw_589 tw_591 tw_8 tw_79 tw_592) rfl rfl rfl (by decide +kernel) ⟨Nat.le_of_ble_eq_true rfl, Nat.le_of_ble_eq_true rfl⟩) (pV hS hAlo hlo hP hK hDL hZ [0, 1, 3, 4, 8, 9, 13, 14] (by decide) rfl (ci := 7) (q := (RX7, TX7, 12)) (q0 := 0) rfl rfl) rfl rfl hl.1 rfl (lv_room (Nat.le_of_ble_eq_true rfl)) dX7_end_2 ⟨Nat.le_of_ble_eq_true rfl, Nat.le_of_ble_eq_true rfl⟩) hS hA hP (fun r_1 H locs hw_1 hP hS => ?_)
  try dsimp only at hw_1
  rcases hw_1 with ⟨rfl, ⟨rfl, hw_1⟩ | ⟨rfl, hw_1⟩ | ⟨rfl, hw_1⟩⟩ | ⟨rfl, hw_1⟩
  · refine lv_if_ne (tgt := 12) hx hb dX7_end_5 (by decide) (fun _ => ?_) (fun h => absurd h (by decide))
    refine lv_aload_n hx hb dX7_end_12 rfl (lv_at hl 0 rfl) ?_
    refine lv_iload_n hx hb dX7_end_13 rfl (lv_at hl 1 rfl) ?_
    refine lv_iload_n hx hb dX7_end_14 rfl (lv_at hl 2 rfl) ?_
    refine ro_i (D := D) (va_runV (As := [.int 0, .int p1]) (rest := []) ⟨hx, hb, hml, hown, hts⟩ ((y_isRound_0 l D k st lo a rk lfa n0 see0 tm0 g0 p1 (by first | assumption | omega)) H.size) (cwV 2 hts (gV tw_613 tw_615 tw_10 tw_79 tw_616) rfl rfl rfl (by decide +kernel) ⟨Nat.le_of_ble_eq_true rfl, Nat.le_of_ble_eq_true rfl⟩) (pV hS hAlo hlo hP hK hDL hZ [0, 1, 3, 4] (by decide) rfl (ci := 7) (q := (RX7, TX7, 12)) (q0 := 0) rfl rfl) rfl rfl hl.1 rfl (lv_room (Nat.le_of_ble_eq_true rfl)) dX7_end_15 ⟨Nat.le_of_ble_eq_true rfl, Nat.le_of_ble_eq_true rfl⟩) hS hA hP (fun r_2 H locs hw_2 hP hS => ?_)
    try dsimp only at hw_2
    rcases hw_2 with ⟨rfl, ir_3, hir_3, rfl⟩ | ⟨rfl, hw_2⟩
    · refine lv_if_eq (tgt := 30) hx hb dX7_end_18 (by decide) (fun h => absurd h (by decide)) (fun _ => ?_)
      refine lv_iload_n hx hb dX7_end_21 rfl (lv_at hl 3 rfl) ?_
      refine lv_iconst (v := 0) hx hb dX7_end_22 (by decide) ?_
      refine lv_iconst (v := 1) hx hb dX7_end_23 (by decide) ?_
      refine ro_i (D := D) (va_runS (As := [.int p2, .int 0, .int 1]) (rest := []) ⟨hx, hb, hml, hown, hts⟩ ((k_isIn l D k st lo p2 0 1) H.size) (va_cwS 3 hts (gS tw_593 tw_594 tw_79 tw_595) rfl rfl rfl (by decide +kernel) ⟨Nat.le_of_ble_eq_true rfl, Nat.le_of_ble_eq_true rfl⟩) (pS hS hAlo hlo hP hK hDL hZ [] (by decide) rfl) rfl rfl hl.1 rfl (lv_room (Nat.le_of_ble_eq_true rfl)) dX7_end_24 ⟨Nat.le_of_ble_eq_true rfl, Nat.le_of_ble_eq_true rfl⟩) hS hA hP (fun r_4 H locs hw_4 hP hS => ?_)
      try dsimp only at hw_4
      rcases hw_4 with ⟨rfl, hw_4⟩ | ⟨rfl, hw_4⟩
      · refine lv_if_ne (tgt := 34) hx hb dX7_end_27 (by decide) (fun _ => ?_) (fun h => absurd h (by decide))
        refine lv_iload_n hx hb dX7_end_34 rfl (lv_at hl 3 rfl) ?_
        refine lv_if_ne (tgt := 50) hx hb dX7_end_35 (by decide) (fun c_5 => ?_) (fun c_5 => ?_)
        · refine lv_aload_n hx hb dX7_end_50 rfl (lv_at hl 0 rfl) ?_
          refine va_get (D := D) (ci := 7) (v := .ref (a 19)) (C := RX7) (T := TX7) (N := 12) hx hb hts inX7 hown hK hP 0 rfl rfl 2 (by decide) (hts _ tw_307) (fun _ h9 => h9) rfl dX7_end_51 ?_
          refine lv_iload_n hx hb dX7_end_54 rfl (lv_at hl 1 rfl) ?_
          refine va_aldq hx hb hK hP 2 4 rfl rfl (by unfold vp_in; decide) dX7_end_55 ?_
          refine lv_tr (y := .ref (a 20)) rfl ?_
          refine va_get (D := D) (ci := 0) (v := .ref (a 23)) (C := RX0) (T := TX0) (N := 5) hx hb hts inX0 hown hK hP 18 rfl rfl 3 (by decide) (hts _ tw_271) (fun _ h9 => h9) rfl dX7_end_56 ?_
          refine lv_iload_n hx hb dX7_end_59 rfl (lv_at hl 2 rfl) ?_
          refine va_iald hx hb hK hP 21 1 rfl rfl (vp_in_nI (by omega) (by decide)) dX7_end_60 ?_
          refine lv_ti (y := (en0 ir_3)) (by rw [nI_clamp (by omega)]) ?_
          refine lv_aload_n hx hb dX7_end_61 rfl (lv_at hl 0 rfl) ?_
          refine va_get (D := D) (ci := 7) (v := .ref (a 3)) (C := RX7) (T := TX7) (N := 12) hx hb hts inX7 hown hK hP 0 rfl rfl 1 (by decide) (hts _ tw_306) (fun _ h9 => h9) rfl dX7_end_62 ?_
          refine lv_iload_n hx hb dX7_end_65 rfl (lv_at hl 1 rfl) ?_
          refine va_aldq hx hb hK hP 1 3 rfl rfl (by unfold vp_in; decide) dX7_end_66 ?_
          refine lv_tr (y := .ref (a 4)) rfl ?_
          refine lv_iload_n hx hb dX7_end_67 rfl (lv_at hl 2 rfl) ?_
          refine ro_i (D := D) (va_runV (As := [.int (nI ir_3)]) (rest := [.int (en0 ir_3)]) ⟨hx, hb, hml, hown, hts⟩ ((y_garageOf l D k st lo (a 4) (a 5) (a 6) (a 7) (a 8) n0 see0 tm0 g0 fl0 ir_3 (by first | assumption | omega)) H.size) (cwV 1 hts (gV tw_649 tw_521 tw_522 tw_81 tw_523) rfl rfl rfl (by decide +kernel) ⟨Nat.le_of_ble_eq_true rfl, Nat.le_of_ble_eq_true rfl⟩) (pV hS hAlo hlo hP hK hDL hZ [3, 4, 7] (by decide) rfl (ci := 5) (q := (RX5, TX5, 4)) (q0 := 0) rfl rfl) rfl rfl hl.1 rfl (lv_room (Nat.le_of_ble_eq_true rfl)) dX7_end_68 ⟨Nat.le_of_ble_eq_true rfl, Nat.le_of_ble_eq_true rfl⟩) hS hA hP (fun r_6 H locs hw_6 hP hS => ?_)
          try dsimp only at hw_6
          refine lv_icmp_ge (tgt := 78) hx hb dX7_end_71 (by decide) (fun c_7 => ?_) (fun c_7 => ?_)
          · refine lv_iconst (v := 0) hx hb dX7_end_78 (by decide) ?_
            exact W.iret (v := 0) hx hb hr (fun t ht hW => ⟨⟨0, (), rfl, tq_at (s := 0) (by omega) (show 0 < n0 by omega) (show enA (nI ir_3) p2 (sdX n0 see0 tm0 g0 ff0 fp0) _ from en_1 (by omega) (by rw [rdX]; exact inr (by omega) (by omega)) (is01 hw_4 c_5) (by rw [if_neg (show ¬ wayE (sdX n0 see0 tm0 g0 ff0 fp0) ir_3 < pGar (sdX n0 see0 tm0 g0 ff0 fp0) ir_3 by rw [← (show en0 ir_3 = wayE (sdX n0 see0 tm0 g0 ff0 fp0) ir_3 from ((hwy 0 (by omega) (show 0 < n0 by omega)) ir_3 (Nat.zero_le _) (show ir_3 ≤ tmD (sdX n0 see0 tm0 g0 ff0 fp0) by rw [tmX (by omega)]; omega)).1), ← xGar (fl := fl0) (hlt 0 (by omega) ir_3 (by omega)), ← hw_6]; exact Int32.not_lt.mpr c_7)])), trivial⟩, hS.F ht⟩) hS.2.2 dX7_end_79
          · refine lv_iconst (v := 1) hx hb dX7_end_74 (by decide) ?_
            refine lv_goto (tgt := 79) hx hb dX7_end_75 (by decide) ?_
            exact W.iret (v := 1) hx hb hr (fun t ht hW => ⟨⟨1, (), rfl, tq_at (s := 0) (by omega) (show 0 < n0 by omega) (show enA (nI ir_3) p2 (sdX n0 see0 tm0 g0 ff0 fp0) _ from en_1 (by omega) (by rw [rdX]; exact inr (by omega) (by omega)) (is01 hw_4 c_5) (by rw [if_pos (show wayE (sdX n0 see0 tm0 g0 ff0 fp0) ir_3 < pGar (sdX n0 see0 tm0 g0 ff0 fp0) ir_3 by rw [← (show en0 ir_3 = wayE (sdX n0 see0 tm0 g0 ff0 fp0) ir_3 from ((hwy 0 (by omega) (show 0 < n0 by omega)) ir_3 (Nat.zero_le _) (show ir_3 ≤ tmD (sdX n0 see0 tm0 g0 ff0 fp0) by rw [tmX (by omega)]; omega)).1), ← xGar (fl := fl0) (hlt 0 (by omega) ir_3 (by omega)), ← hw_6]; exact Int32.not_le.mp c_7)])), trivial⟩, hS.F ht⟩) hS.2.2 dX7_end_79
        · refine lv_aload_n hx hb dX7_end_38 rfl (lv_at hl 0 rfl) ?_
          refine va_get (D := D) (ci := 7) (v := .ref (a 19)) (C := RX7) (T := TX7) (N := 12) hx hb hts inX7 hown hK hP 0 rfl rfl 2 (by decide) (hts _ tw_307) (fun _ h9 => h9) rfl dX7_end_39 ?_
          refine lv_iload_n hx hb dX7_end_42 rfl (lv_at hl 1 rfl) ?_
          refine va_aldq hx hb hK hP 2 4 rfl rfl (by unfold vp_in; decide) dX7_end_43 ?_
          refine lv_tr (y := .ref (a 20)) rfl ?_
          refine va_get (D := D) (ci := 0) (v := .ref (a 23)) (C := RX0) (T := TX0) (N := 5) hx hb hts inX0 hown hK hP 18 rfl rfl 3 (by decide) (hts _ tw_271) (fun _ h9 => h9) rfl dX7_end_44 ?_
          refine lv_iload_n hx hb dX7_end_47 rfl (lv_at hl 2 rfl) ?_
          refine va_iald hx hb hK hP 21 1 rfl rfl (vp_in_nI (by omega) (by decide)) dX7_end_48 ?_
          refine lv_ti (y := (en0 ir_3)) (by rw [nI_clamp (by omega)]) ?_
          exact W.iret (v := (en0 ir_3)) hx hb hr (fun t ht hW => ⟨⟨(en0 ir_3), (), rfl, tq_at (s := 0) (by omega) (show 0 < n0 by omega) (show enA (nI ir_3) p2 (sdX n0 see0 tm0 g0 ff0 fp0) _ from en_0 (by omega) (by rw [rdX]; exact inr (by omega) (by omega)) c_5 ((hwy 0 (by omega) (show 0 < n0 by omega)) ir_3 (Nat.zero_le _) (show ir_3 ≤ tmD (sdX n0 see0 tm0 g0 ff0 fp0) by rw [tmX (by omega)]; omega)).1), trivial⟩, hS.F ht⟩) hS.2.2 dX7_end_49
      · refine lv_if_ne (tgt := 34) hx hb dX7_end_27 (by decide) (fun h => absurd (by decide) h) (fun _ => ?_)
        refine lv_sipush (v := (-1002)) hx hb dX7_end_30 (by decide) ?_
        exact W.iret (v := (-1002)) hx hb hr (fun t ht hW => ⟨⟨(-1002), (), rfl, tq_at (s := 0) (by omega) (show 0 < n0 by omega) (show enA (nI ir_3) p2 (sdX n0 see0 tm0 g0 ff0 fp0) _ from en_o (fun h => absurd h.2 hw_4)), trivial⟩, hS.F ht⟩) hS.2.2 dX7_end_33
    · refine lv_if_eq (tgt := 30) hx hb dX7_end_18 (by decide) (fun _ => ?_) (fun h => absurd (by decide) h)
      refine lv_sipush (v := (-1002)) hx hb dX7_end_30 (by decide) ?_
      exact W.iret (v := (-1002)) hx hb hr (fun t ht hW => ⟨⟨(-1002), (), rfl, tq_at (s := 0) (by omega) (show 0 < n0 by omega) (show enA p1 p2 (sdX n0 see0 tm0 g0 ff0 fp0) _ from en_o (fun h => absurd h.1 (by rw [rdX]; exact hw_2))), trivial⟩, hS.F ht⟩) hS.2.2 dX7_end_33
  · refine lv_if_ne (tgt := 12) hx hb dX7_end_5 (by decide) (fun _ => ?_) (fun h => absurd h (by decide))
    refine lv_aload_n hx hb dX7_end_12 rfl (lv_at hl 0 rfl) ?_
    refine lv_iload_n hx hb dX7_end_13 rfl (lv_at hl 1 rfl) ?_
    refine lv_iload_n hx hb dX7_end_14 rfl (lv_at hl 2 rfl) ?_
    refine ro_i (D := D) (va_runV (As := [.int 1, .int p1]) (rest := []) ⟨hx, hb, hml, hown, hts⟩ ((y_isRound_1 l D k st lo a rk lfa n1 see1 tm1 g1 p1 (by first | assumption | omega)) H.size) (cwV 2 hts (gV tw_613 tw_615 tw_10 tw_79 tw_616) rfl rfl rfl (by decide +kernel) ⟨Nat.le_of_ble_eq_true rfl, Nat.le_of_ble_eq_true rfl⟩) (pV hS hAlo hlo hP hK hDL hZ [0, 1, 8, 9] (by decide) rfl (ci := 7) (q := (RX7, TX7, 12)) (q0 := 0) rfl rfl) rfl rfl hl.1 rfl (lv_room (Nat.le_of_ble_eq_true rfl)) dX7_end_15 ⟨Nat.le_of_ble_eq_true rfl, Nat.le_of_ble_eq_true rfl⟩) hS hA hP (fun r_8 H locs hw_8 hP hS => ?_)
    try dsimp only at hw_8
    rcases hw_8 with ⟨rfl, ir_9, hir_9, rfl⟩ | ⟨rfl, hw_8⟩
    · refine lv_if_eq (tgt := 30) hx hb dX7_end_18 (by decide) (fun h => absurd h (by decide)) (fun _ => ?_)
      refine lv_iload_n hx hb dX7_end_21 rfl (lv_at hl 3 rfl) ?_
      refine lv_iconst (v := 0) hx hb dX7_end_22 (by decide) ?_
      refine lv_iconst (v := 1) hx hb dX7_end_23 (by decide) ?_
      refine ro_i (D := D) (va_runS (As := [.int p2, .int 0, .int 1]) (rest := []) ⟨hx, hb, hml, hown, hts⟩ ((k_isIn l D k st lo p2 0 1) H.size) (va_cwS 3 hts (gS tw_593 tw_594 tw_79 tw_595) rfl rfl rfl (by decide +kernel) ⟨Nat.le_of_ble_eq_true rfl, Nat.le_of_ble_eq_true rfl⟩) (pS hS hAlo hlo hP hK hDL hZ [] (by decide) rfl) rfl rfl hl.1 rfl (lv_room (Nat.le_of_ble_eq_true rfl)) dX7_end_24 ⟨Nat.le_of_ble_eq_true rfl, Nat.le_of_ble_eq_true rfl⟩) hS hA hP (fun r_10 H locs hw_10 hP hS => ?_)
      try dsimp only at hw_10
      rcases hw_10 with ⟨rfl, hw_10⟩ | ⟨rfl, hw_10⟩
      · refine lv_if_ne (tgt := 34) hx hb dX7_end_27 (by decide) (fun _ => ?_) (fun h => absurd h (by decide))
        refine lv_iload_n hx hb dX7_end_34 rfl (lv_at hl 3 rfl) ?_
        refine lv_if_ne (tgt := 50) hx hb dX7_end_35 (by decide) (fun c_11 => ?_) (fun c_11 => ?_)
        · refine lv_aload_n hx hb dX7_end_50 rfl (lv_at hl 0 rfl) ?_
          refine va_get (D := D) (ci := 7) (v := .ref (a 19)) (C := RX7) (T := TX7) (N := 12) hx hb hts inX7 hown hK hP 0 rfl rfl 2 (by decide) (hts _ tw_307) (fun _ h9 => h9) rfl dX7_end_51 ?_
          refine lv_iload_n hx hb dX7_end_54 rfl (lv_at hl 1 rfl) ?_
          refine va_aldq hx hb hK hP 2 4 rfl rfl (by unfold vp_in; decide) dX7_end_55 ?_
          refine lv_tr (y := .ref (a 25)) rfl ?_
          refine va_get (D := D) (ci := 0) (v := .ref (a 28)) (C := RX0) (T := TX0) (N := 5) hx hb hts inX0 hown hK hP 22 rfl rfl 3 (by decide) (hts _ tw_271) (fun _ h9 => h9) rfl dX7_end_56 ?_
          refine lv_iload_n hx hb dX7_end_59 rfl (lv_at hl 2 rfl) ?_
          refine va_iald hx hb hK hP 25 1 rfl rfl (vp_in_nI (by omega) (by decide)) dX7_end_60 ?_
          refine lv_ti (y := (en1 ir_9)) (by rw [nI_clamp (by omega)]) ?_
          refine lv_aload_n hx hb dX7_end_61 rfl (lv_at hl 0 rfl) ?_
          refine va_get (D := D) (ci := 7) (v := .ref (a 3)) (C := RX7) (T := TX7) (N := 12) hx hb hts inX7 hown hK hP 0 rfl rfl 1 (by decide) (hts _ tw_306) (fun _ h9 => h9) rfl dX7_end_62 ?_
          refine lv_iload_n hx hb dX7_end_65 rfl (lv_at hl 1 rfl) ?_
          refine va_aldq hx hb hK hP 1 3 rfl rfl (by unfold vp_in; decide) dX7_end_66 ?_
          refine lv_tr (y := .ref (a 9)) rfl ?_
          refine lv_iload_n hx hb dX7_end_67 rfl (lv_at hl 2 rfl) ?_
          refine ro_i (D := D) (va_runV (As := [.int (nI ir_9)]) (rest := [.int (en1 ir_9)]) ⟨hx, hb, hml, hown, hts⟩ ((y_garageOf l D k st lo (a 9) (a 10) (a 11) (a 12) (a 13) n1 see1 tm1 g1 fl1 ir_9 (by first | assumption | omega)) H.size) (cwV 1 hts (gV tw_649 tw_521 tw_522 tw_81 tw_523) rfl rfl rfl (by decide +kernel) ⟨Nat.le_of_ble_eq_true rfl, Nat.le_of_ble_eq_true rfl⟩) (pV hS hAlo hlo hP hK hDL hZ [8, 9, 12] (by decide) rfl (ci := 5) (q := (RX5, TX5, 4)) (q0 := 0) rfl rfl) rfl rfl hl.1 rfl (lv_room (Nat.le_of_ble_eq_true rfl)) dX7_end_68 ⟨Nat.le_of_ble_eq_true rfl, Nat.le_of_ble_eq_true rfl⟩) hS hA hP (fun r_12 H locs hw_12 hP hS => ?_)
          try dsimp only at hw_12
          refine lv_icmp_ge (tgt := 78) hx hb dX7_end_71 (by decide) (fun c_13 => ?_) (fun c_13 => ?_)
          · refine lv_iconst (v := 0) hx hb dX7_end_78 (by decide) ?_
            exact W.iret (v := 0) hx hb hr (fun t ht hW => ⟨⟨0, (), rfl, tq_at (s := 1) (by omega) (show 0 < n1 by omega) (show enA (nI ir_9) p2 (sdX n1 see1 tm1 g1 ff1 fp1) _ from en_1 (by omega) (by rw [rdX]; exact inr (by omega) (by omega)) (is01 hw_10 c_11) (by rw [if_neg (show ¬ wayE (sdX n1 see1 tm1 g1 ff1 fp1) ir_9 < pGar (sdX n1 see1 tm1 g1 ff1 fp1) ir_9 by rw [← (show en1 ir_9 = wayE (sdX n1 see1 tm1 g1 ff1 fp1) ir_9 from ((hwy 1 (by omega) (show 0 < n1 by omega)) ir_9 (Nat.zero_le _) (show ir_9 ≤ tmD (sdX n1 see1 tm1 g1 ff1 fp1) by rw [tmX (by omega)]; omega)).1), ← xGar (fl := fl1) (hlt 1 (by omega) ir_9 (by omega)), ← hw_12]; exact Int32.not_lt.mpr c_13)])), trivial⟩, hS.F ht⟩) hS.2.2 dX7_end_79
          · refine lv_iconst (v := 1) hx hb dX7_end_74 (by decide) ?_
            refine lv_goto (tgt := 79) hx hb dX7_end_75 (by decide) ?_
            exact W.iret (v := 1) hx hb hr (fun t ht hW => ⟨⟨1, (), rfl, tq_at (s := 1) (by omega) (show 0 < n1 by omega) (show enA (nI ir_9) p2 (sdX n1 see1 tm1 g1 ff1 fp1) _ from en_1 (by omega) (by rw [rdX]; exact inr (by omega) (by omega)) (is01 hw_10 c_11) (by rw [if_pos (show wayE (sdX n1 see1 tm1 g1 ff1 fp1) ir_9 < pGar (sdX n1 see1 tm1 g1 ff1 fp1) ir_9 by rw [← (show en1 ir_9 = wayE (sdX n1 see1 tm1 g1 ff1 fp1) ir_9 from ((hwy 1 (by omega) (show 0 < n1 by omega)) ir_9 (Nat.zero_le _) (show ir_9 ≤ tmD (sdX n1 see1 tm1 g1 ff1 fp1) by rw [tmX (by omega)]; omega)).1), ← xGar (fl := fl1) (hlt 1 (by omega) ir_9 (by omega)), ← hw_12]; exact Int32.not_le.mp c_13)])), trivial⟩, hS.F ht⟩) hS.2.2 dX7_end_79
        · refine lv_aload_n hx hb dX7_end_38 rfl (lv_at hl 0 rfl) ?_
          refine va_get (D := D) (ci := 7) (v := .ref (a 19)) (C := RX7) (T := TX7) (N := 12) hx hb hts inX7 hown hK hP 0 rfl rfl 2 (by decide) (hts _ tw_307) (fun _ h9 => h9) rfl dX7_end_39 ?_
          refine lv_iload_n hx hb dX7_end_42 rfl (lv_at hl 1 rfl) ?_
          refine va_aldq hx hb hK hP 2 4 rfl rfl (by unfold vp_in; decide) dX7_end_43 ?_
          refine lv_tr (y := .ref (a 25)) rfl ?_
          refine va_get (D := D) (ci := 0) (v := .ref (a 28)) (C := RX0) (T := TX0) (N := 5) hx hb hts inX0 hown hK hP 22 rfl rfl 3 (by decide) (hts _ tw_271) (fun _ h9 => h9) rfl dX7_end_44 ?_
          refine lv_iload_n hx hb dX7_end_47 rfl (lv_at hl 2 rfl) ?_
          refine va_iald hx hb hK hP 25 1 rfl rfl (vp_in_nI (by omega) (by decide)) dX7_end_48 ?_
          refine lv_ti (y := (en1 ir_9)) (by rw [nI_clamp (by omega)]) ?_
          exact W.iret (v := (en1 ir_9)) hx hb hr (fun t ht hW => ⟨⟨(en1 ir_9), (), rfl, tq_at (s := 1) (by omega) (show 0 < n1 by omega) (show enA (nI ir_9) p2 (sdX n1 see1 tm1 g1 ff1 fp1) _ from en_0 (by omega) (by rw [rdX]; exact inr (by omega) (by omega)) c_11 ((hwy 1 (by omega) (show 0 < n1 by omega)) ir_9 (Nat.zero_le _) (show ir_9 ≤ tmD (sdX n1 see1 tm1 g1 ff1 fp1) by rw [tmX (by omega)]; omega)).1), trivial⟩, hS.F ht⟩) hS.2.2 dX7_end_49
      · refine lv_if_ne (tgt := 34) hx hb dX7_end_27 (by decide) (fun h => absurd (by decide) h) (fun _ => ?_)
        refine lv_sipush (v := (-1002)) hx hb dX7_end_30 (by decide) ?_
        exact W.iret (v := (-1002)) hx hb hr (fun t ht hW => ⟨⟨(-1002), (), rfl, tq_at (s := 1) (by omega) (show 0 < n1 by omega) (show enA (nI ir_9) p2 (sdX n1 see1 tm1 g1 ff1 fp1) _ from en_o (fun h => absurd h.2 hw_10)), trivial⟩, hS.F ht⟩) hS.2.2 dX7_end_33
    · refine lv_if_eq (tgt := 30) hx hb dX7_end_18 (by decide) (fun _ => ?_) (fun h => absurd (by decide) h)
      refine lv_sipush (v := (-1002)) hx hb dX7_end_30 (by decide) ?_
      exact W.iret (v := (-1002)) hx hb hr (fun t ht hW => ⟨⟨(-1002), (), rfl, tq_at (s := 1) (by omega) (show 0 < n1 by omega) (show enA p1 p2 (sdX n1 see1 tm1 g1 ff1 fp1) _ from en_o (fun h => absurd h.1 (by rw [rdX]; exact hw_8))), trivial⟩, hS.F ht⟩) hS.2.2 dX7_end_33
  · refine lv_if_ne (tgt := 12) hx hb dX7_end_5 (by decide) (fun _ => ?_) (fun h => absurd h (by decide))
    refine lv_aload_n hx hb dX7_end_12 rfl (lv_at hl 0 rfl) ?_
    refine lv_iload_n hx hb dX7_end_13 rfl (lv_at hl 1 rfl) ?_
    refine lv_iload_n hx hb dX7_end_14 rfl (lv_at hl 2 rfl) ?_
    refine ro_i (D := D) (va_runV (As := [.int 2, .int p1]) (rest := []) ⟨hx, hb, hml, hown, hts⟩ ((y_isRound_2 l D k st lo a rk lfa n2 see2 tm2 g2 p1 (by first | assumption | omega)) H.size) (cwV 2 hts (gV tw_613 tw_615 tw_10 tw_79 tw_616) rfl rfl rfl (by decide +kernel) ⟨Nat.le_of_ble_eq_true rfl, Nat.le_of_ble_eq_true rfl⟩) (pV hS hAlo hlo hP hK hDL hZ [0, 1, 13, 14] (by decide) rfl (ci := 7) (q := (RX7, TX7, 12)) (q0 := 0) rfl rfl) rfl rfl hl.1 rfl (lv_room (Nat.le_of_ble_eq_true rfl)) dX7_end_15 ⟨Nat.le_of_ble_eq_true rfl, Nat.le_of_ble_eq_true rfl⟩) hS hA hP (fun r_14 H locs hw_14 hP hS => ?_)
    try dsimp only at hw_14
    rcases hw_14 with ⟨rfl, ir_15, hir_15, rfl⟩ | ⟨rfl, hw_14⟩
    · refine lv_if_eq (tgt := 30) hx hb dX7_end_18 (by decide) (fun h => absurd h (by decide)) (fun _ => ?_)
      refine lv_iload_n hx hb dX7_end_21 rfl (lv_at hl 3 rfl) ?_
      refine lv_iconst (v := 0) hx hb dX7_end_22 (by decide) ?_
      refine lv_iconst (v := 1) hx hb dX7_end_23 (by decide) ?_
      refine ro_i (D := D) (va_runS (As := [.int p2, .int 0, .int 1]) (rest := []) ⟨hx, hb, hml, hown, hts⟩ ((k_isIn l D k st lo p2 0 1) H.size) (va_cwS 3 hts (gS tw_593 tw_594 tw_79 tw_595) rfl rfl rfl (by decide +kernel) ⟨Nat.le_of_ble_eq_true rfl, Nat.le_of_ble_eq_true rfl⟩) (pS hS hAlo hlo hP hK hDL hZ [] (by decide) rfl) rfl rfl hl.1 rfl (lv_room (Nat.le_of_ble_eq_true rfl)) dX7_end_24 ⟨Nat.le_of_ble_eq_true rfl, Nat.le_of_ble_eq_true rfl⟩) hS hA hP (fun r_16 H locs hw_16 hP hS => ?_)
      try dsimp only at hw_16
      rcases hw_16 with ⟨rfl, hw_16⟩ | ⟨rfl, hw_16⟩
      · refine lv_if_ne (tgt := 34) hx hb dX7_end_27 (by decide) (fun _ => ?_) (fun h => absurd h (by decide))
        refine lv_iload_n hx hb dX7_end_34 rfl (lv_at hl 3 rfl) ?_
        refine lv_if_ne (tgt := 50) hx hb dX7_end_35 (by decide) (fun c_17 => ?_) (fun c_17 => ?_)
        · refine lv_aload_n hx hb dX7_end_50 rfl (lv_at hl 0 rfl) ?_
          refine va_get (D := D) (ci := 7) (v := .ref (a 19)) (C := RX7) (T := TX7) (N := 12) hx hb hts inX7 hown hK hP 0 rfl rfl 2 (by decide) (hts _ tw_307) (fun _ h9 => h9) rfl dX7_end_51 ?_
          refine lv_iload_n hx hb dX7_end_54 rfl (lv_at hl 1 rfl) ?_
          refine va_aldq hx hb hK hP 2 4 rfl rfl (by unfold vp_in; decide) dX7_end_55 ?_
          refine lv_tr (y := .ref (a 30)) rfl ?_
          refine va_get (D := D) (ci := 0) (v := .ref (a 33)) (C := RX0) (T := TX0) (N := 5) hx hb hts inX0 hown hK hP 26 rfl rfl 3 (by decide) (hts _ tw_271) (fun _ h9 => h9) rfl dX7_end_56 ?_
          refine lv_iload_n hx hb dX7_end_59 rfl (lv_at hl 2 rfl) ?_
          refine va_iald hx hb hK hP 29 1 rfl rfl (vp_in_nI (by omega) (by decide)) dX7_end_60 ?_
          refine lv_ti (y := (en2 ir_15)) (by rw [nI_clamp (by omega)]) ?_
          refine lv_aload_n hx hb dX7_end_61 rfl (lv_at hl 0 rfl) ?_
          refine va_get (D := D) (ci := 7) (v := .ref (a 3)) (C := RX7) (T := TX7) (N := 12) hx hb hts inX7 hown hK hP 0 rfl rfl 1 (by decide) (hts _ tw_306) (fun _ h9 => h9) rfl dX7_end_62 ?_
          refine lv_iload_n hx hb dX7_end_65 rfl (lv_at hl 1 rfl) ?_
          refine va_aldq hx hb hK hP 1 3 rfl rfl (by unfold vp_in; decide) dX7_end_66 ?_
          refine lv_tr (y := .ref (a 14)) rfl ?_
          refine lv_iload_n hx hb dX7_end_67 rfl (lv_at hl 2 rfl) ?_
          refine ro_i (D := D) (va_runV (As := [.int (nI ir_15)]) (rest := [.int (en2 ir_15)]) ⟨hx, hb, hml, hown, hts⟩ ((y_garageOf l D k st lo (a 14) (a 15) (a 16) (a 17) (a 18) n2 see2 tm2 g2 fl2 ir_15 (by first | assumption | omega)) H.size) (cwV 1 hts (gV tw_649 tw_521 tw_522 tw_81 tw_523) rfl rfl rfl (by decide +kernel) ⟨Nat.le_of_ble_eq_true rfl, Nat.le_of_ble_eq_true rfl⟩) (pV hS hAlo hlo hP hK hDL hZ [13, 14, 17] (by decide) rfl (ci := 5) (q := (RX5, TX5, 4)) (q0 := 0) rfl rfl) rfl rfl hl.1 rfl (lv_room (Nat.le_of_ble_eq_true rfl)) dX7_end_68 ⟨Nat.le_of_ble_eq_true rfl, Nat.le_of_ble_eq_true rfl⟩) hS hA hP (fun r_18 H locs hw_18 hP hS => ?_)
          try dsimp only at hw_18
          refine lv_icmp_ge (tgt := 78) hx hb dX7_end_71 (by decide) (fun c_19 => ?_) (fun c_19 => ?_)
          · refine lv_iconst (v := 0) hx hb dX7_end_78 (by decide) ?_
            exact W.iret (v := 0) hx hb hr (fun t ht hW => ⟨⟨0, (), rfl, tq_at (s := 2) (by omega) (show 0 < n2 by omega) (show enA (nI ir_15) p2 (sdX n2 see2 tm2 g2 ff2 fp2) _ from en_1 (by omega) (by rw [rdX]; exact inr (by omega) (by omega)) (is01 hw_16 c_17) (by rw [if_neg (show ¬ wayE (sdX n2 see2 tm2 g2 ff2 fp2) ir_15 < pGar (sdX n2 see2 tm2 g2 ff2 fp2) ir_15 by rw [← (show en2 ir_15 = wayE (sdX n2 see2 tm2 g2 ff2 fp2) ir_15 from ((hwy 2 (by omega) (show 0 < n2 by omega)) ir_15 (Nat.zero_le _) (show ir_15 ≤ tmD (sdX n2 see2 tm2 g2 ff2 fp2) by rw [tmX (by omega)]; omega)).1), ← xGar (fl := fl2) (hlt 2 (by omega) ir_15 (by omega)), ← hw_18]; exact Int32.not_lt.mpr c_19)])), trivial⟩, hS.F ht⟩) hS.2.2 dX7_end_79
          · refine lv_iconst (v := 1) hx hb dX7_end_74 (by decide) ?_
            refine lv_goto (tgt := 79) hx hb dX7_end_75 (by decide) ?_
            exact W.iret (v := 1) hx hb hr (fun t ht hW => ⟨⟨1, (), rfl, tq_at (s := 2) (by omega) (show 0 < n2 by omega) (show enA (nI ir_15) p2 (sdX n2 see2 tm2 g2 ff2 fp2) _ from en_1 (by omega) (by rw [rdX]; exact inr (by omega) (by omega)) (is01 hw_16 c_17) (by rw [if_pos (show wayE (sdX n2 see2 tm2 g2 ff2 fp2) ir_15 < pGar (sdX n2 see2 tm2 g2 ff2 fp2) ir_15 by rw [← (show en2 ir_15 = wayE (sdX n2 see2 tm2 g2 ff2 fp2) ir_15 from ((hwy 2 (by omega) (show 0 < n2 by omega)) ir_15 (Nat.zero_le _) (show ir_15 ≤ tmD (sdX n2 see2 tm2 g2 ff2 fp2) by rw [tmX (by omega)]; omega)).1), ← xGar (fl := fl2) (hlt 2 (by omega) ir_15 (by omega)), ← hw_18]; exact Int32.not_le.mp c_19)])), trivial⟩, hS.F ht⟩) hS.2.2 dX7_end_79
        · refine lv_aload_n hx hb dX7_end_38 rfl (lv_at hl 0 rfl) ?_
          refine va_get (D := D) (ci := 7) (v := .ref (a 19)) (C := RX7) (T := TX7) (N := 12) hx hb hts inX7 hown hK hP 0 rfl rfl 2 (by decide) (hts _ tw_307) (fun _ h9 => h9) rfl dX7_end_39 ?_
          refine lv_iload_n hx hb dX7_end_42 rfl (lv_at hl 1 rfl) ?_
          refine va_aldq hx hb hK hP 2 4 rfl rfl (by unfold vp_in; decide) dX7_end_43 ?_
          refine lv_tr (y := .ref (a 30)) rfl ?_
          refine va_get (D := D) (ci := 0) (v := .ref (a 33)) (C := RX0) (T := TX0) (N := 5) hx hb hts inX0 hown hK hP 26 rfl rfl 3 (by decide) (hts _ tw_271) (fun _ h9 => h9) rfl dX7_end_44 ?_
          refine lv_iload_n hx hb dX7_end_47 rfl (lv_at hl 2 rfl) ?_
          refine va_iald hx hb hK hP 29 1 rfl rfl (vp_in_nI (by omega) (by decide)) dX7_end_48 ?_
          refine lv_ti (y := (en2 ir_15)) (by rw [nI_clamp (by omega)]) ?_
          exact W.iret (v := (en2 ir_15)) hx hb hr (fun t ht hW => ⟨⟨(en2 ir_15), (), rfl, tq_at (s := 2) (by omega) (show 0 < n2 by omega) (show enA (nI ir_15) p2 (sdX n2 see2 tm2 g2 ff2 fp2) _ from en_0 (by omega) (by rw [rdX]; exact inr (by omega) (by omega)) c_17 ((hwy 2 (by omega) (show 0 < n2 by omega)) ir_15 (Nat.zero_le _) (show ir_15 ≤ tmD (sdX n2 see2 tm2 g2 ff2 fp2) by rw [tmX (by omega)]; omega)).1), trivial⟩, hS.F ht⟩) hS.2.2 dX7_end_49
      · refine lv_if_ne (tgt := 34) hx hb dX7_end_27 (by decide) (fun h => absurd (by decide) h) (fun _ => ?_)
        refine lv_sipush (v := (-1002)) hx hb dX7_end_30 (by decide) ?_
        exact W.iret (v := (-1002)) hx hb hr (fun t ht hW => ⟨⟨(-1002), (), rfl, tq_at (s := 2) (by omega) (show 0 < n2 by omega) (show enA (nI ir_15) p2 (sdX n2 see2 tm2 g2 ff2 fp2) _ from en_o (fun h => absurd h.2 hw_16)), trivial⟩, hS.F ht⟩) hS.2.2 dX7_end_33
    · refine lv_if_eq (tgt := 30) hx hb dX7_end_18 (by decide) (fun _ => ?_) (fun h => absurd (by decide) h)
      refine lv_sipush (v := (-1002)) hx hb dX7_end_30 (by decide) ?_
      exact W.iret (v := (-1002)) hx hb hr (fun t ht hW => ⟨⟨(-1002), (), rfl, tq_at (s := 2) (by omega) (show 0 < n2 by omega) (show enA p1 p2 (sdX n2 see2 tm2 g2 ff2 fp2) _ from en_o (fun h => absurd h.1 (by rw [rdX]; exact hw_14))), trivial⟩, hS.F ht⟩) hS.2.2 dX7_end_33
  · refine lv_if_ne (tgt := 12) hx hb dX7_end_5 (by decide) (fun h => absurd (by decide) h) (fun _ => ?_)
    refine lv_sipush (v := (-1001)) hx hb dX7_end_8 (by decide) ?_
    exact W.iret (v := (-1001)) hx hb hr (fun t ht hW => ⟨⟨(-1001), (), rfl, tq_no (fun s h1 h2 h3 => hw_1 s h1 h2 (by rw [d3_n] at h3; exact h3)), trivial⟩, hS.F ht⟩) hS.2.2 dX7_end_11



set_option maxHeartbeats 4000000 in
set_option maxRecDepth 100000 in
theorem y_refuseSight (l : Launch) (D : va_G) (k : Nat → ClassId) (st : Nat → Nat) (lo : Nat) (a : Nat → Nat) (rk : Nat) (lfa : Int32) (n0 : Nat) (see0 : Nat) (tm0 : Nat) (g0 : Nat → Int32) (n1 : Nat) (see1 : Nat) (tm1 : Nat) (g1 : Nat → Int32) (n2 : Nat) (see2 : Nat) (tm2 : Nat) (g2 : Nat → Int32) (pz : Int32) (p1 : Int32) (p2 : Int32) (p3 : Int32) (hn0 : n0 ≤ 24) (hse0 : see0 ≤ 2) (htm0 : tm0 ≤ 3) (hn1 : n1 ≤ 24) (hse1 : see1 ≤ 2) (htm1 : tm1 ≤ 3) (hn2 : n2 ≤ 24) (hse2 : see2 ≤ 2) (htm2 : tm2 ≤ 3) : CRi l D k st lo yX7_refuseSight cX7_refuseSight 6 (some .int) ({ frames := 3, cells := 0, slots := 0, locals := 81 }) [.ref (a 0), .int pz, .int p1, .int p2, .int p3] [((a 0), .inr (7, (fX7 (a 1) (a 3) (a 19) (a 35) (a 40) (nI rk) lfa (a 53) (a 56) (a 63) (a 64) (a 68)))), ((a 3), .inl (k 3, 3, .inr (.inr (.inr (.inr (a3 (a 4) (a 9) (a 14))))))), ((a 4), .inr (5, (fX5 (a 5) (a 6) (a 7) (a 8)))), (aI k (a 5) 10 (vv n0 see0 tm0 g0)), ((a 9), .inr (5, (fX5 (a 10) (a 11) (a 12) (a 13)))), (aI k (a 10) 10 (vv n1 see1 tm1 g1)), ((a 14), .inr (5, (fX5 (a 15) (a 16) (a 17) (a 18)))), (aI k (a 15) 10 (vv n2 see2 tm2 g2))] (fun r => (r = 0 ∧ ((pz = 0 ∧ ∃ rn i gg : Nat, rn ≤ tm0 ∧ i < n0 ∧ gg < 2 ^ sqN see0 n0 i ∧ p1 = nI rn ∧ p2 = nI i ∧ p3 = nI gg) ∨ (pz = 1 ∧ ∃ rn i gg : Nat, rn ≤ tm1 ∧ i < n1 ∧ gg < 2 ^ sqN see1 n1 i ∧ p1 = nI rn ∧ p2 = nI i ∧ p3 = nI gg) ∨ (pz = 2 ∧ ∃ rn i gg : Nat, rn ≤ tm2 ∧ i < n2 ∧ gg < 2 ^ sqN see2 n2 i ∧ p1 = nI rn ∧ p2 = nI i ∧ p3 = nI gg))) ∨ (r = -1001 ∧ ∀ s, s < 3 → pz = nI s → ∀ i, p2 = nI i → ¬ i < d3 n0 n1 n2 s) ∨ (r = -1002 ∧ ((pz = 0 ∧ ∃ i : Nat, i < n0 ∧ p2 = nI i ∧ ∀ rn gg, rn ≤ tm0 → p1 = nI rn → p3 = nI gg → ¬ gg < 2 ^ sqN see0 n0 i) ∨ (pz = 1 ∧ ∃ i : Nat, i < n1 ∧ p2 = nI i ∧ ∀ rn gg, rn ≤ tm1 → p1 = nI rn → p3 = nI gg → ¬ gg < 2 ^ sqN see1 n1 i) ∨ (pz = 2 ∧ ∃ i : Nat, i < n2 ∧ p2 = nI i ∧ ∀ rn gg, rn ≤ tm2 → p1 = nI rn → p3 = nI gg → ¬ gg < 2 ^ sqN see2 n2 i)))) := by
  intro sz
  refine Met.ofW (cc := cX7_refuseSight) (maxL := 6) (ret := (some .int)) (by decide) rfl ?_
  intro p e s m args below meth c s₁ B hml hv
  obtain ⟨rfl, hsz, hlo, hP, hK, hDL, hZ⟩ := hv
  have hx := B.exec
  have hb := B.bytes
  have hr := B.returns
  have hts := WS_ts B.pre
  have hown : s.vm.findClass RX7 = some m.cls := findClass_of_methodNamed B.named
  have hlocks := B.notSynchronized
  subst hsz
  have hA : ∀ q : Nat, s.heap.size ≤ q → (fun q : Nat => s.heap.size ≤ q) q := fun _ h => h
  have hAlo : ∀ q : Nat, (fun q : Nat => s.heap.size ≤ q) q → lo ≤ q := fun q h => Nat.le_trans hlo h
  have hS : va_S (fun q : Nat => s.heap.size ≤ q) s.heap s.heap [] := va_S.rf
  have hl := lv_entry ([.ref (a 0), .int pz, .int p1, .int p2, .int p3]) (n := 6) (Nat.le_of_ble_eq_true rfl)
  rw [lg_entry_eq]
  generalize (lg_sl ([.ref (a 0), .int pz, .int p1, .int p2, .int p3]) ++ List.replicate (6 - (lg_sl ([.ref (a 0), .int pz, .int p1, .int p2, .int p3])).length) Slot.unset).toArray = ls at hl ⊢
  have hl : lv_has ls 6 [(0, .ref (a 0)), (1, .int pz), (2, .int p1), (3, .int p2), (4, .int p3)] := hl
  refine lv_aload_n hx hb dX7_refuseSight_0 rfl (lv_at hl 0 rfl) ?_
  refine lv_iload_n hx hb dX7_refuseSight_1 rfl (lv_at hl 1 rfl) ?_
  refine lv_iload_n hx hb dX7_refuseSight_2 rfl (lv_at hl 3 rfl) ?_
  refine ro_i (D := D) (va_runV (As := [.int pz, .int p2]) (rest := []) ⟨hx, hb, hml, hown, hts⟩ ((y_isDoor l D k st lo a rk lfa n0 see0 tm0 g0 n1 see1 tm1 g1 n2 see2 tm2 g2 pz p2 (by first | assumption | omega) (by first | assumption | omega) (by first | assumption | omega)) s.heap.size) (cwV 2 hts (gV tw_600 tw_602 tw_9 tw_79 tw_603) rfl rfl rfl (by decide +kernel) ⟨Nat.le_of_ble_eq_true rfl, Nat.le_of_ble_eq_true rfl⟩) (pV hS hAlo hlo hP hK hDL hZ [0, 1, 2, 3, 4, 5, 6, 7] (by decide) rfl (ci := 7) (q := (RX7, TX7, 12)) (q0 := 0) rfl rfl) rfl rfl hl.1 rfl (lv_room (Nat.le_of_ble_eq_true rfl)) dX7_refuseSight_3 ⟨Nat.le_of_ble_eq_true rfl, Nat.le_of_ble_eq_true rfl⟩) hS hA hP (fun r_1 H locs hw_1 hP hS => ?_)
  try dsimp only at hw_1
  rcases hw_1 with ⟨rfl, ⟨rfl, id_2, hid_2, rfl⟩ | ⟨rfl, id_2, hid_2, rfl⟩ | ⟨rfl, id_2, hid_2, rfl⟩⟩ | ⟨rfl, hw_1⟩
  · refine lv_if_ne (tgt := 13) hx hb dX7_refuseSight_6 (by decide) (fun _ => ?_) (fun h => absurd h (by decide))
    refine lv_aload_n hx hb dX7_refuseSight_13 rfl (lv_at hl 0 rfl) ?_
    refine lv_iload_n hx hb dX7_refuseSight_14 rfl (lv_at hl 1 rfl) ?_
    refine lv_iload_n hx hb dX7_refuseSight_15 rfl (lv_at hl 2 rfl) ?_
    refine ro_i (D := D) (va_runV (As := [.int 0, .int p1]) (rest := []) ⟨hx, hb, hml, hown, hts⟩ ((y_isRound_0 l D k st lo a rk lfa n0 see0 tm0 g0 p1 (by first | assumption | omega)) H.size) (cwV 2 hts (gV tw_613 tw_615 tw_10 tw_79 tw_616) rfl rfl rfl (by decide +kernel) ⟨Nat.le_of_ble_eq_true rfl, Nat.le_of_ble_eq_true rfl⟩) (pV hS hAlo hlo hP hK hDL hZ [0, 1, 2, 3] (by decide) rfl (ci := 7) (q := (RX7, TX7, 12)) (q0 := 0) rfl rfl) rfl rfl hl.1 rfl (lv_room (Nat.le_of_ble_eq_true rfl)) dX7_refuseSight_16 ⟨Nat.le_of_ble_eq_true rfl, Nat.le_of_ble_eq_true rfl⟩) hS hA hP (fun r_3 H locs hw_3 hP hS => ?_)
    try dsimp only at hw_3
    rcases hw_3 with ⟨rfl, ir_4, hir_4, rfl⟩ | ⟨rfl, hw_3⟩
    · refine lv_if_eq (tgt := 46) hx hb dX7_refuseSight_19 (by decide) (fun h => absurd h (by decide)) (fun _ => ?_)
      refine lv_iload hx hb dX7_refuseSight_22 (lv_at hl 4 rfl) ?_
      refine lv_if_lt (tgt := 46) hx hb dX7_refuseSight_24 (by decide) (fun c_5 => ?_) (fun c_5 => ?_)
      · refine lv_iconst (v := 0) hx hb dX7_refuseSight_46 (by decide) ?_
        refine lv_istore (lv' := [(5, .int 0), (0, .ref (a 0)), (1, .int 0), (2, .int (nI ir_4)), (3, .int (nI id_2)), (4, .int p3)]) hx hb dX7_refuseSight_47 hl (by decide) rfl (fun ls hl => ?_)
        refine lv_iload hx hb dX7_refuseSight_49 (lv_at hl 0 rfl) ?_
        refine lv_if_eq (tgt := 58) hx hb dX7_refuseSight_51 (by decide) (fun _ => ?_) (fun h => absurd (by decide) h)
        refine lv_sipush (v := (-1002)) hx hb dX7_refuseSight_58 (by decide) ?_
        exact W.iret (v := (-1002)) hx hb hr (fun t ht hW => ⟨⟨(-1002), (), rfl, .inr (.inr ⟨rfl, .inl ⟨rfl, id_2, by omega, rfl, fun rn gg _ _ h3 h4 => absurd c_5 (by rw [h3]; exact Int32.not_lt.mpr (nI_ge0 (by have h8 := (p8 (sq_le (see := see0) (n := n0) (i := id_2) (by omega))).2; omega)))⟩⟩), trivial⟩, hS.F ht⟩) hS.2.2 dX7_refuseSight_61
      · obtain ⟨ig_9, hig_9, rfl⟩ := nI_of c_5
        refine lv_iload hx hb dX7_refuseSight_27 (lv_at hl 4 rfl) ?_
        refine lv_aload_n hx hb dX7_refuseSight_29 rfl (lv_at hl 0 rfl) ?_
        refine va_get (D := D) (ci := 7) (v := .ref (a 3)) (C := RX7) (T := TX7) (N := 12) hx hb hts inX7 hown hK hP 0 rfl rfl 1 (by decide) (hts _ tw_306) (fun _ h9 => h9) rfl dX7_refuseSight_30 ?_
        refine lv_iload_n hx hb dX7_refuseSight_33 rfl (lv_at hl 1 rfl) ?_
        refine va_aldq hx hb hK hP 1 3 rfl rfl (by unfold vp_in; decide) dX7_refuseSight_34 ?_
        refine lv_tr (y := .ref (a 4)) rfl ?_
        refine lv_iload_n hx hb dX7_refuseSight_35 rfl (lv_at hl 3 rfl) ?_
        refine ro_i (D := D) (va_runV (As := [.int (nI id_2)]) (rest := [.int (nI ig_9)]) ⟨hx, hb, hml, hown, hts⟩ ((y_sightsAt l D k st lo (a 4) (a 5) (a 6) (a 7) (a 8) n0 see0 tm0 g0 id_2 (by first | assumption | omega) (by first | assumption | omega) (by first | assumption | omega)) H.size) (cwV 1 hts (gV tw_626 tw_537 tw_538 tw_81 tw_539) rfl rfl rfl (by decide +kernel) ⟨Nat.le_of_ble_eq_true rfl, Nat.le_of_ble_eq_true rfl⟩) (pV hS hAlo hlo hP hK hDL hZ [2, 3] (by decide) rfl (ci := 5) (q := (RX5, TX5, 4)) (q0 := 0) rfl rfl) rfl rfl hl.1 rfl (lv_room (Nat.le_of_ble_eq_true rfl)) dX7_refuseSight_36 ⟨Nat.le_of_ble_eq_true rfl, Nat.le_of_ble_eq_true rfl⟩) hS hA hP (fun r_6 H locs hw_6 hP hS => ?_)
        try dsimp only at hw_6
        obtain ⟨zs_7, ezs_7⟩ : ∃ z : Nat, z = 2 ^ sqN see0 n0 id_2 := ⟨_, rfl⟩
        rw [← ezs_7] at hw_6
        subst hw_6
        have hzs_7 : 1 ≤ zs_7 ∧ zs_7 ≤ 8 := by rw [ezs_7]; exact p8 (sq_le (by omega))
        refine lv_icmp_ge (tgt := 46) hx hb dX7_refuseSight_39 (by decide) (fun c_8 => ?_) (fun c_8 => ?_)
        · have c_8 := (nI_leI (a := zs_7) (b := ig_9) (by omega) (by omega)).mp c_8
          refine lv_iconst (v := 0) hx hb dX7_refuseSight_46 (by decide) ?_
          refine lv_istore (lv' := [(5, .int 0), (0, .ref (a 0)), (1, .int 0), (2, .int (nI ir_4)), (3, .int (nI id_2)), (4, .int (nI ig_9))]) hx hb dX7_refuseSight_47 hl (by decide) rfl (fun ls hl => ?_)
          refine lv_iload hx hb dX7_refuseSight_49 (lv_at hl 0 rfl) ?_
          refine lv_if_eq (tgt := 58) hx hb dX7_refuseSight_51 (by decide) (fun _ => ?_) (fun h => absurd (by decide) h)
          refine lv_sipush (v := (-1002)) hx hb dX7_refuseSight_58 (by decide) ?_
          exact W.iret (v := (-1002)) hx hb hr (fun t ht hW => ⟨⟨(-1002), (), rfl, .inr (.inr ⟨rfl, .inl ⟨rfl, id_2, by omega, rfl, fun rn gg _ _ h3 h4 => by have h8 := (p8 (sq_le (see := see0) (n := n0) (i := id_2) (by omega))).2; have h9 := nI_inj (by omega) (by omega) h3; rw [← ezs_7] at h4; omega⟩⟩), trivial⟩, hS.F ht⟩) hS.2.2 dX7_refuseSight_61
        · have c_8 : ¬ (zs_7 ≤ ig_9) := fun h => c_8 ((nI_leI (a := zs_7) (b := ig_9) (by omega) (by omega)).mpr h)
          refine lv_iconst (v := 1) hx hb dX7_refuseSight_42 (by decide) ?_
          refine lv_goto (tgt := 47) hx hb dX7_refuseSight_43 (by decide) ?_
          refine lv_istore (lv' := [(5, .int 1), (0, .ref (a 0)), (1, .int 0), (2, .int (nI ir_4)), (3, .int (nI id_2)), (4, .int (nI ig_9))]) hx hb dX7_refuseSight_47 hl (by decide) rfl (fun ls hl => ?_)
          refine lv_iload hx hb dX7_refuseSight_49 (lv_at hl 0 rfl) ?_
          refine lv_if_eq (tgt := 58) hx hb dX7_refuseSight_51 (by decide) (fun h => absurd h (by decide)) (fun _ => ?_)
          refine lv_iconst (v := 0) hx hb dX7_refuseSight_54 (by decide) ?_
          refine lv_goto (tgt := 61) hx hb dX7_refuseSight_55 (by decide) ?_
          exact W.iret (v := 0) hx hb hr (fun t ht hW => ⟨⟨0, (), rfl, .inl ⟨rfl, .inl ⟨rfl, ir_4, id_2, ig_9, by omega, by omega, (by rw [← ezs_7]; omega), rfl, rfl, rfl⟩⟩, trivial⟩, hS.F ht⟩) hS.2.2 dX7_refuseSight_61
    · refine lv_if_eq (tgt := 46) hx hb dX7_refuseSight_19 (by decide) (fun _ => ?_) (fun h => absurd (by decide) h)
      refine lv_iconst (v := 0) hx hb dX7_refuseSight_46 (by decide) ?_
      refine lv_istore (lv' := [(5, .int 0), (0, .ref (a 0)), (1, .int 0), (2, .int p1), (3, .int (nI id_2)), (4, .int p3)]) hx hb dX7_refuseSight_47 hl (by decide) rfl (fun ls hl => ?_)
      refine lv_iload hx hb dX7_refuseSight_49 (lv_at hl 0 rfl) ?_
      refine lv_if_eq (tgt := 58) hx hb dX7_refuseSight_51 (by decide) (fun _ => ?_) (fun h => absurd (by decide) h)
      refine lv_sipush (v := (-1002)) hx hb dX7_refuseSight_58 (by decide) ?_
      exact W.iret (v := (-1002)) hx hb hr (fun t ht hW => ⟨⟨(-1002), (), rfl, .inr (.inr ⟨rfl, .inl ⟨rfl, id_2, by omega, rfl, fun rn gg h1 h2 _ _ => hw_3 (by rw [h2]; exact inr h1 (by omega))⟩⟩), trivial⟩, hS.F ht⟩) hS.2.2 dX7_refuseSight_61
  · refine lv_if_ne (tgt := 13) hx hb dX7_refuseSight_6 (by decide) (fun _ => ?_) (fun h => absurd h (by decide))
    refine lv_aload_n hx hb dX7_refuseSight_13 rfl (lv_at hl 0 rfl) ?_
    refine lv_iload_n hx hb dX7_refuseSight_14 rfl (lv_at hl 1 rfl) ?_
    refine lv_iload_n hx hb dX7_refuseSight_15 rfl (lv_at hl 2 rfl) ?_
    refine ro_i (D := D) (va_runV (As := [.int 1, .int p1]) (rest := []) ⟨hx, hb, hml, hown, hts⟩ ((y_isRound_1 l D k st lo a rk lfa n1 see1 tm1 g1 p1 (by first | assumption | omega)) H.size) (cwV 2 hts (gV tw_613 tw_615 tw_10 tw_79 tw_616) rfl rfl rfl (by decide +kernel) ⟨Nat.le_of_ble_eq_true rfl, Nat.le_of_ble_eq_true rfl⟩) (pV hS hAlo hlo hP hK hDL hZ [0, 1, 4, 5] (by decide) rfl (ci := 7) (q := (RX7, TX7, 12)) (q0 := 0) rfl rfl) rfl rfl hl.1 rfl (lv_room (Nat.le_of_ble_eq_true rfl)) dX7_refuseSight_16 ⟨Nat.le_of_ble_eq_true rfl, Nat.le_of_ble_eq_true rfl⟩) hS hA hP (fun r_9 H locs hw_9 hP hS => ?_)
    try dsimp only at hw_9
    rcases hw_9 with ⟨rfl, ir_10, hir_10, rfl⟩ | ⟨rfl, hw_9⟩
    · refine lv_if_eq (tgt := 46) hx hb dX7_refuseSight_19 (by decide) (fun h => absurd h (by decide)) (fun _ => ?_)
      refine lv_iload hx hb dX7_refuseSight_22 (lv_at hl 4 rfl) ?_
      refine lv_if_lt (tgt := 46) hx hb dX7_refuseSight_24 (by decide) (fun c_11 => ?_) (fun c_11 => ?_)
      · refine lv_iconst (v := 0) hx hb dX7_refuseSight_46 (by decide) ?_
        refine lv_istore (lv' := [(5, .int 0), (0, .ref (a 0)), (1, .int 1), (2, .int (nI ir_10)), (3, .int (nI id_2)), (4, .int p3)]) hx hb dX7_refuseSight_47 hl (by decide) rfl (fun ls hl => ?_)
        refine lv_iload hx hb dX7_refuseSight_49 (lv_at hl 0 rfl) ?_
        refine lv_if_eq (tgt := 58) hx hb dX7_refuseSight_51 (by decide) (fun _ => ?_) (fun h => absurd (by decide) h)
        refine lv_sipush (v := (-1002)) hx hb dX7_refuseSight_58 (by decide) ?_
        exact W.iret (v := (-1002)) hx hb hr (fun t ht hW => ⟨⟨(-1002), (), rfl, .inr (.inr ⟨rfl, .inr (.inl ⟨rfl, id_2, by omega, rfl, fun rn gg _ _ h3 h4 => absurd c_11 (by rw [h3]; exact Int32.not_lt.mpr (nI_ge0 (by have h8 := (p8 (sq_le (see := see1) (n := n1) (i := id_2) (by omega))).2; omega)))⟩)⟩), trivial⟩, hS.F ht⟩) hS.2.2 dX7_refuseSight_61
      · obtain ⟨ig_9, hig_9, rfl⟩ := nI_of c_11
        refine lv_iload hx hb dX7_refuseSight_27 (lv_at hl 4 rfl) ?_
        refine lv_aload_n hx hb dX7_refuseSight_29 rfl (lv_at hl 0 rfl) ?_
        refine va_get (D := D) (ci := 7) (v := .ref (a 3)) (C := RX7) (T := TX7) (N := 12) hx hb hts inX7 hown hK hP 0 rfl rfl 1 (by decide) (hts _ tw_306) (fun _ h9 => h9) rfl dX7_refuseSight_30 ?_
        refine lv_iload_n hx hb dX7_refuseSight_33 rfl (lv_at hl 1 rfl) ?_
        refine va_aldq hx hb hK hP 1 3 rfl rfl (by unfold vp_in; decide) dX7_refuseSight_34 ?_
        refine lv_tr (y := .ref (a 9)) rfl ?_
        refine lv_iload_n hx hb dX7_refuseSight_35 rfl (lv_at hl 3 rfl) ?_
        refine ro_i (D := D) (va_runV (As := [.int (nI id_2)]) (rest := [.int (nI ig_9)]) ⟨hx, hb, hml, hown, hts⟩ ((y_sightsAt l D k st lo (a 9) (a 10) (a 11) (a 12) (a 13) n1 see1 tm1 g1 id_2 (by first | assumption | omega) (by first | assumption | omega) (by first | assumption | omega)) H.size) (cwV 1 hts (gV tw_626 tw_537 tw_538 tw_81 tw_539) rfl rfl rfl (by decide +kernel) ⟨Nat.le_of_ble_eq_true rfl, Nat.le_of_ble_eq_true rfl⟩) (pV hS hAlo hlo hP hK hDL hZ [4, 5] (by decide) rfl (ci := 5) (q := (RX5, TX5, 4)) (q0 := 0) rfl rfl) rfl rfl hl.1 rfl (lv_room (Nat.le_of_ble_eq_true rfl)) dX7_refuseSight_36 ⟨Nat.le_of_ble_eq_true rfl, Nat.le_of_ble_eq_true rfl⟩) hS hA hP (fun r_12 H locs hw_12 hP hS => ?_)
        try dsimp only at hw_12
        obtain ⟨zs_13, ezs_13⟩ : ∃ z : Nat, z = 2 ^ sqN see1 n1 id_2 := ⟨_, rfl⟩
        rw [← ezs_13] at hw_12
        subst hw_12
        have hzs_13 : 1 ≤ zs_13 ∧ zs_13 ≤ 8 := by rw [ezs_13]; exact p8 (sq_le (by omega))
        refine lv_icmp_ge (tgt := 46) hx hb dX7_refuseSight_39 (by decide) (fun c_14 => ?_) (fun c_14 => ?_)
        · have c_14 := (nI_leI (a := zs_13) (b := ig_9) (by omega) (by omega)).mp c_14
          refine lv_iconst (v := 0) hx hb dX7_refuseSight_46 (by decide) ?_
          refine lv_istore (lv' := [(5, .int 0), (0, .ref (a 0)), (1, .int 1), (2, .int (nI ir_10)), (3, .int (nI id_2)), (4, .int (nI ig_9))]) hx hb dX7_refuseSight_47 hl (by decide) rfl (fun ls hl => ?_)
          refine lv_iload hx hb dX7_refuseSight_49 (lv_at hl 0 rfl) ?_
          refine lv_if_eq (tgt := 58) hx hb dX7_refuseSight_51 (by decide) (fun _ => ?_) (fun h => absurd (by decide) h)
          refine lv_sipush (v := (-1002)) hx hb dX7_refuseSight_58 (by decide) ?_
          exact W.iret (v := (-1002)) hx hb hr (fun t ht hW => ⟨⟨(-1002), (), rfl, .inr (.inr ⟨rfl, .inr (.inl ⟨rfl, id_2, by omega, rfl, fun rn gg _ _ h3 h4 => by have h8 := (p8 (sq_le (see := see1) (n := n1) (i := id_2) (by omega))).2; have h9 := nI_inj (by omega) (by omega) h3; rw [← ezs_13] at h4; omega⟩)⟩), trivial⟩, hS.F ht⟩) hS.2.2 dX7_refuseSight_61
        · have c_14 : ¬ (zs_13 ≤ ig_9) := fun h => c_14 ((nI_leI (a := zs_13) (b := ig_9) (by omega) (by omega)).mpr h)
          refine lv_iconst (v := 1) hx hb dX7_refuseSight_42 (by decide) ?_
          refine lv_goto (tgt := 47) hx hb dX7_refuseSight_43 (by decide) ?_
          refine lv_istore (lv' := [(5, .int 1), (0, .ref (a 0)), (1, .int 1), (2, .int (nI ir_10)), (3, .int (nI id_2)), (4, .int (nI ig_9))]) hx hb dX7_refuseSight_47 hl (by decide) rfl (fun ls hl => ?_)
          refine lv_iload hx hb dX7_refuseSight_49 (lv_at hl 0 rfl) ?_
          refine lv_if_eq (tgt := 58) hx hb dX7_refuseSight_51 (by decide) (fun h => absurd h (by decide)) (fun _ => ?_)
          refine lv_iconst (v := 0) hx hb dX7_refuseSight_54 (by decide) ?_
          refine lv_goto (tgt := 61) hx hb dX7_refuseSight_55 (by decide) ?_
          exact W.iret (v := 0) hx hb hr (fun t ht hW => ⟨⟨0, (), rfl, .inl ⟨rfl, .inr (.inl ⟨rfl, ir_10, id_2, ig_9, by omega, by omega, (by rw [← ezs_13]; omega), rfl, rfl, rfl⟩)⟩, trivial⟩, hS.F ht⟩) hS.2.2 dX7_refuseSight_61
    · refine lv_if_eq (tgt := 46) hx hb dX7_refuseSight_19 (by decide) (fun _ => ?_) (fun h => absurd (by decide) h)
      refine lv_iconst (v := 0) hx hb dX7_refuseSight_46 (by decide) ?_
      refine lv_istore (lv' := [(5, .int 0), (0, .ref (a 0)), (1, .int 1), (2, .int p1), (3, .int (nI id_2)), (4, .int p3)]) hx hb dX7_refuseSight_47 hl (by decide) rfl (fun ls hl => ?_)
      refine lv_iload hx hb dX7_refuseSight_49 (lv_at hl 0 rfl) ?_
      refine lv_if_eq (tgt := 58) hx hb dX7_refuseSight_51 (by decide) (fun _ => ?_) (fun h => absurd (by decide) h)
      refine lv_sipush (v := (-1002)) hx hb dX7_refuseSight_58 (by decide) ?_
      exact W.iret (v := (-1002)) hx hb hr (fun t ht hW => ⟨⟨(-1002), (), rfl, .inr (.inr ⟨rfl, .inr (.inl ⟨rfl, id_2, by omega, rfl, fun rn gg h1 h2 _ _ => hw_9 (by rw [h2]; exact inr h1 (by omega))⟩)⟩), trivial⟩, hS.F ht⟩) hS.2.2 dX7_refuseSight_61
  · refine lv_if_ne (tgt := 13) hx hb dX7_refuseSight_6 (by decide) (fun _ => ?_) (fun h => absurd h (by decide))
    refine lv_aload_n hx hb dX7_refuseSight_13 rfl (lv_at hl 0 rfl) ?_
    refine lv_iload_n hx hb dX7_refuseSight_14 rfl (lv_at hl 1 rfl) ?_
    refine lv_iload_n hx hb dX7_refuseSight_15 rfl (lv_at hl 2 rfl) ?_
    refine ro_i (D := D) (va_runV (As := [.int 2, .int p1]) (rest := []) ⟨hx, hb, hml, hown, hts⟩ ((y_isRound_2 l D k st lo a rk lfa n2 see2 tm2 g2 p1 (by first | assumption | omega)) H.size) (cwV 2 hts (gV tw_613 tw_615 tw_10 tw_79 tw_616) rfl rfl rfl (by decide +kernel) ⟨Nat.le_of_ble_eq_true rfl, Nat.le_of_ble_eq_true rfl⟩) (pV hS hAlo hlo hP hK hDL hZ [0, 1, 6, 7] (by decide) rfl (ci := 7) (q := (RX7, TX7, 12)) (q0 := 0) rfl rfl) rfl rfl hl.1 rfl (lv_room (Nat.le_of_ble_eq_true rfl)) dX7_refuseSight_16 ⟨Nat.le_of_ble_eq_true rfl, Nat.le_of_ble_eq_true rfl⟩) hS hA hP (fun r_15 H locs hw_15 hP hS => ?_)
    try dsimp only at hw_15
    rcases hw_15 with ⟨rfl, ir_16, hir_16, rfl⟩ | ⟨rfl, hw_15⟩
    · refine lv_if_eq (tgt := 46) hx hb dX7_refuseSight_19 (by decide) (fun h => absurd h (by decide)) (fun _ => ?_)
      refine lv_iload hx hb dX7_refuseSight_22 (lv_at hl 4 rfl) ?_
      refine lv_if_lt (tgt := 46) hx hb dX7_refuseSight_24 (by decide) (fun c_17 => ?_) (fun c_17 => ?_)
      · refine lv_iconst (v := 0) hx hb dX7_refuseSight_46 (by decide) ?_
        refine lv_istore (lv' := [(5, .int 0), (0, .ref (a 0)), (1, .int 2), (2, .int (nI ir_16)), (3, .int (nI id_2)), (4, .int p3)]) hx hb dX7_refuseSight_47 hl (by decide) rfl (fun ls hl => ?_)
        refine lv_iload hx hb dX7_refuseSight_49 (lv_at hl 0 rfl) ?_
        refine lv_if_eq (tgt := 58) hx hb dX7_refuseSight_51 (by decide) (fun _ => ?_) (fun h => absurd (by decide) h)
        refine lv_sipush (v := (-1002)) hx hb dX7_refuseSight_58 (by decide) ?_
        exact W.iret (v := (-1002)) hx hb hr (fun t ht hW => ⟨⟨(-1002), (), rfl, .inr (.inr ⟨rfl, .inr (.inr ⟨rfl, id_2, by omega, rfl, fun rn gg _ _ h3 h4 => absurd c_17 (by rw [h3]; exact Int32.not_lt.mpr (nI_ge0 (by have h8 := (p8 (sq_le (see := see2) (n := n2) (i := id_2) (by omega))).2; omega)))⟩)⟩), trivial⟩, hS.F ht⟩) hS.2.2 dX7_refuseSight_61
      · obtain ⟨ig_9, hig_9, rfl⟩ := nI_of c_17
        refine lv_iload hx hb dX7_refuseSight_27 (lv_at hl 4 rfl) ?_
        refine lv_aload_n hx hb dX7_refuseSight_29 rfl (lv_at hl 0 rfl) ?_
        refine va_get (D := D) (ci := 7) (v := .ref (a 3)) (C := RX7) (T := TX7) (N := 12) hx hb hts inX7 hown hK hP 0 rfl rfl 1 (by decide) (hts _ tw_306) (fun _ h9 => h9) rfl dX7_refuseSight_30 ?_
        refine lv_iload_n hx hb dX7_refuseSight_33 rfl (lv_at hl 1 rfl) ?_
        refine va_aldq hx hb hK hP 1 3 rfl rfl (by unfold vp_in; decide) dX7_refuseSight_34 ?_
        refine lv_tr (y := .ref (a 14)) rfl ?_
        refine lv_iload_n hx hb dX7_refuseSight_35 rfl (lv_at hl 3 rfl) ?_
        refine ro_i (D := D) (va_runV (As := [.int (nI id_2)]) (rest := [.int (nI ig_9)]) ⟨hx, hb, hml, hown, hts⟩ ((y_sightsAt l D k st lo (a 14) (a 15) (a 16) (a 17) (a 18) n2 see2 tm2 g2 id_2 (by first | assumption | omega) (by first | assumption | omega) (by first | assumption | omega)) H.size) (cwV 1 hts (gV tw_626 tw_537 tw_538 tw_81 tw_539) rfl rfl rfl (by decide +kernel) ⟨Nat.le_of_ble_eq_true rfl, Nat.le_of_ble_eq_true rfl⟩) (pV hS hAlo hlo hP hK hDL hZ [6, 7] (by decide) rfl (ci := 5) (q := (RX5, TX5, 4)) (q0 := 0) rfl rfl) rfl rfl hl.1 rfl (lv_room (Nat.le_of_ble_eq_true rfl)) dX7_refuseSight_36 ⟨Nat.le_of_ble_eq_true rfl, Nat.le_of_ble_eq_true rfl⟩) hS hA hP (fun r_18 H locs hw_18 hP hS => ?_)
        try dsimp only at hw_18
        obtain ⟨zs_19, ezs_19⟩ : ∃ z : Nat, z = 2 ^ sqN see2 n2 id_2 := ⟨_, rfl⟩
        rw [← ezs_19] at hw_18
        subst hw_18
        have hzs_19 : 1 ≤ zs_19 ∧ zs_19 ≤ 8 := by rw [ezs_19]; exact p8 (sq_le (by omega))
        refine lv_icmp_ge (tgt := 46) hx hb dX7_refuseSight_39 (by decide) (fun c_20 => ?_) (fun c_20 => ?_)
        · have c_20 := (nI_leI (a := zs_19) (b := ig_9) (by omega) (by omega)).mp c_20
          refine lv_iconst (v := 0) hx hb dX7_refuseSight_46 (by decide) ?_
          refine lv_istore (lv' := [(5, .int 0), (0, .ref (a 0)), (1, .int 2), (2, .int (nI ir_16)), (3, .int (nI id_2)), (4, .int (nI ig_9))]) hx hb dX7_refuseSight_47 hl (by decide) rfl (fun ls hl => ?_)
          refine lv_iload hx hb dX7_refuseSight_49 (lv_at hl 0 rfl) ?_
          refine lv_if_eq (tgt := 58) hx hb dX7_refuseSight_51 (by decide) (fun _ => ?_) (fun h => absurd (by decide) h)
          refine lv_sipush (v := (-1002)) hx hb dX7_refuseSight_58 (by decide) ?_
          exact W.iret (v := (-1002)) hx hb hr (fun t ht hW => ⟨⟨(-1002), (), rfl, .inr (.inr ⟨rfl, .inr (.inr ⟨rfl, id_2, by omega, rfl, fun rn gg _ _ h3 h4 => by have h8 := (p8 (sq_le (see := see2) (n := n2) (i := id_2) (by omega))).2; have h9 := nI_inj (by omega) (by omega) h3; rw [← ezs_19] at h4; omega⟩)⟩), trivial⟩, hS.F ht⟩) hS.2.2 dX7_refuseSight_61
        · have c_20 : ¬ (zs_19 ≤ ig_9) := fun h => c_20 ((nI_leI (a := zs_19) (b := ig_9) (by omega) (by omega)).mpr h)
          refine lv_iconst (v := 1) hx hb dX7_refuseSight_42 (by decide) ?_
          refine lv_goto (tgt := 47) hx hb dX7_refuseSight_43 (by decide) ?_
          refine lv_istore (lv' := [(5, .int 1), (0, .ref (a 0)), (1, .int 2), (2, .int (nI ir_16)), (3, .int (nI id_2)), (4, .int (nI ig_9))]) hx hb dX7_refuseSight_47 hl (by decide) rfl (fun ls hl => ?_)
          refine lv_iload hx hb dX7_refuseSight_49 (lv_at hl 0 rfl) ?_
          refine lv_if_eq (tgt := 58) hx hb dX7_refuseSight_51 (by decide) (fun h => absurd h (by decide)) (fun _ => ?_)
          refine lv_iconst (v := 0) hx hb dX7_refuseSight_54 (by decide) ?_
          refine lv_goto (tgt := 61) hx hb dX7_refuseSight_55 (by decide) ?_
          exact W.iret (v := 0) hx hb hr (fun t ht hW => ⟨⟨0, (), rfl, .inl ⟨rfl, .inr (.inr ⟨rfl, ir_16, id_2, ig_9, by omega, by omega, (by rw [← ezs_19]; omega), rfl, rfl, rfl⟩)⟩, trivial⟩, hS.F ht⟩) hS.2.2 dX7_refuseSight_61
    · refine lv_if_eq (tgt := 46) hx hb dX7_refuseSight_19 (by decide) (fun _ => ?_) (fun h => absurd (by decide) h)
      refine lv_iconst (v := 0) hx hb dX7_refuseSight_46 (by decide) ?_
      refine lv_istore (lv' := [(5, .int 0), (0, .ref (a 0)), (1, .int 2), (2, .int p1), (3, .int (nI id_2)), (4, .int p3)]) hx hb dX7_refuseSight_47 hl (by decide) rfl (fun ls hl => ?_)
      refine lv_iload hx hb dX7_refuseSight_49 (lv_at hl 0 rfl) ?_
      refine lv_if_eq (tgt := 58) hx hb dX7_refuseSight_51 (by decide) (fun _ => ?_) (fun h => absurd (by decide) h)
      refine lv_sipush (v := (-1002)) hx hb dX7_refuseSight_58 (by decide) ?_
      exact W.iret (v := (-1002)) hx hb hr (fun t ht hW => ⟨⟨(-1002), (), rfl, .inr (.inr ⟨rfl, .inr (.inr ⟨rfl, id_2, by omega, rfl, fun rn gg h1 h2 _ _ => hw_15 (by rw [h2]; exact inr h1 (by omega))⟩)⟩), trivial⟩, hS.F ht⟩) hS.2.2 dX7_refuseSight_61
  · refine lv_if_ne (tgt := 13) hx hb dX7_refuseSight_6 (by decide) (fun h => absurd (by decide) h) (fun _ => ?_)
    refine lv_sipush (v := (-1001)) hx hb dX7_refuseSight_9 (by decide) ?_
    exact W.iret (v := (-1001)) hx hb hr (fun t ht hW => ⟨⟨(-1001), (), rfl, .inr (.inl ⟨rfl, hw_1⟩), trivial⟩, hS.F ht⟩) hS.2.2 dX7_refuseSight_12


set_option maxHeartbeats 4000000 in
set_option maxRecDepth 100000 in
theorem y_worth (l : Launch) (D : va_G) (k : Nat → ClassId) (st : Nat → Nat) (lo : Nat) (a : Nat → Nat) (rk : Nat) (lfa : Int32) (n0 : Nat) (see0 : Nat) (tm0 : Nat) (g0 : Nat → Int32) (ff0 : Nat → Int32) (fp0 : Nat → Int32) (fl0 : Nat → Int32) (n1 : Nat) (see1 : Nat) (tm1 : Nat) (g1 : Nat → Int32) (ff1 : Nat → Int32) (fp1 : Nat → Int32) (fl1 : Nat → Int32) (n2 : Nat) (see2 : Nat) (tm2 : Nat) (g2 : Nat → Int32) (ff2 : Nat → Int32) (fp2 : Nat → Int32) (fl2 : Nat → Int32) (on0 : Nat → Int32) (sr0 : Nat → Int32) (en0 : Nat → Int32) (on1 : Nat → Int32) (sr1 : Nat → Int32) (en1 : Nat → Int32) (on2 : Nat → Int32) (sr2 : Nat → Int32) (en2 : Nat → Int32) (p0 : Int32) (p1 : Int32) (p2 : Int32) (p3 : Int32) (hn0 : n0 ≤ 24) (hse0 : see0 ≤ 2) (htm0 : tm0 ≤ 3) (hn1 : n1 ≤ 24) (hse1 : see1 ≤ 2) (htm1 : tm1 ≤ 3) (hn2 : n2 ≤ 24) (hse2 : see2 ≤ 2) (htm2 : tm2 ≤ 3) (hlt : ltP (d3 fl0 fl1 fl2) (d3 (sdX n0 see0 tm0 g0 ff0 fp0) (sdX n1 see1 tm1 g1 ff1 fp1) (sdX n2 see2 tm2 g2 ff2 fp2))) (hwy : wy3 (d3 (sdX n0 see0 tm0 g0 ff0 fp0) (sdX n1 see1 tm1 g1 ff1 fp1) (sdX n2 see2 tm2 g2 ff2 fp2)) (d3 on0 on1 on2) (d3 sr0 sr1 sr2) (d3 en0 en1 en2)) : CRi l D k st lo yX7_worth cX7_worth 6 (some .int) ({ frames := 4, cells := 0, slots := 0, locals := 106 }) [.ref (a 0), .int p0, .int p1, .int p2, .int p3] [((a 0), .inr (7, (fX7 (a 1) (a 3) (a 19) (a 35) (a 40) (nI rk) lfa (a 53) (a 56) (a 63) (a 64) (a 68)))), ((a 3), .inl (k 3, 3, .inr (.inr (.inr (.inr (a3 (a 4) (a 9) (a 14))))))), ((a 19), .inl (k 4, 3, .inr (.inr (.inr (.inr (a3 (a 20) (a 25) (a 30))))))), ((a 4), .inr (5, (fX5 (a 5) (a 6) (a 7) (a 8)))), (aI k (a 5) 10 (vv n0 see0 tm0 g0)), (aI k (a 6) 24 ff0), (aI k (a 7) 24 fp0), (aI k (a 8) 4 fl0), ((a 9), .inr (5, (fX5 (a 10) (a 11) (a 12) (a 13)))), (aI k (a 10) 10 (vv n1 see1 tm1 g1)), (aI k (a 11) 24 ff1), (aI k (a 12) 24 fp1), (aI k (a 13) 4 fl1), ((a 14), .inr (5, (fX5 (a 15) (a 16) (a 17) (a 18)))), (aI k (a 15) 10 (vv n2 see2 tm2 g2)), (aI k (a 16) 24 ff2), (aI k (a 17) 24 fp2), (aI k (a 18) 4 fl2), ((a 20), .inr (0, (fX0 (a 4) (a 21) (a 22) (a 23) (a 24)))), (aI k (a 21) 768 on0), (aI k (a 22) 4 sr0), (aI k (a 23) 4 en0), ((a 25), .inr (0, (fX0 (a 9) (a 26) (a 27) (a 28) (a 29)))), (aI k (a 26) 768 on1), (aI k (a 27) 4 sr1), (aI k (a 28) 4 en1), ((a 30), .inr (0, (fX0 (a 14) (a 31) (a 32) (a 33) (a 34)))), (aI k (a 31) 768 on2), (aI k (a 32) 4 sr2), (aI k (a 33) 4 en2)] (fun r => dqP (d3 (sdX n0 see0 tm0 g0 ff0 fp0) (sdX n1 see1 tm1 g1 ff1 fp1) (sdX n2 see2 tm2 g2 ff2 fp2)) p0 p2 (siA p1 p3 woA) r) := by
  intro sz
  refine Met.ofW (cc := cX7_worth) (maxL := 6) (ret := (some .int)) (by decide) rfl ?_
  intro p e s m args below meth c s₁ B hml hv
  obtain ⟨rfl, hsz, hlo, hP, hK, hDL, hZ⟩ := hv
  have hx := B.exec
  have hb := B.bytes
  have hr := B.returns
  have hts := WS_ts B.pre
  have hown : s.vm.findClass RX7 = some m.cls := findClass_of_methodNamed B.named
  have hlocks := B.notSynchronized
  subst hsz
  have hA : ∀ q : Nat, s.heap.size ≤ q → (fun q : Nat => s.heap.size ≤ q) q := fun _ h => h
  have hAlo : ∀ q : Nat, (fun q : Nat => s.heap.size ≤ q) q → lo ≤ q := fun q h => Nat.le_trans hlo h
  have hS : va_S (fun q : Nat => s.heap.size ≤ q) s.heap s.heap [] := va_S.rf
  have hl := lv_entry ([.ref (a 0), .int p0, .int p1, .int p2, .int p3]) (n := 6) (Nat.le_of_ble_eq_true rfl)
  rw [lg_entry_eq]
  generalize (lg_sl ([.ref (a 0), .int p0, .int p1, .int p2, .int p3]) ++ List.replicate (6 - (lg_sl ([.ref (a 0), .int p0, .int p1, .int p2, .int p3])).length) Slot.unset).toArray = ls at hl ⊢
  have hl : lv_has ls 6 [(0, .ref (a 0)), (1, .int p0), (2, .int p1), (3, .int p2), (4, .int p3)] := hl
  refine lv_aload_n hx hb dX7_worth_0 rfl (lv_at hl 0 rfl) ?_
  refine lv_iload_n hx hb dX7_worth_1 rfl (lv_at hl 1 rfl) ?_
  refine lv_iload_n hx hb dX7_worth_2 rfl (lv_at hl 2 rfl) ?_
  refine lv_iload_n hx hb dX7_worth_3 rfl (lv_at hl 3 rfl) ?_
  refine lv_iload hx hb dX7_worth_4 (lv_at hl 4 rfl) ?_
  refine ro_i (D := D) (va_runV (As := [.int p0, .int p1, .int p2, .int p3]) (rest := []) ⟨hx, hb, hml, hown, hts⟩ ((y_refuseSight l D k st lo a rk lfa n0 see0 tm0 g0 n1 see1 tm1 g1 n2 see2 tm2 g2 p0 p1 p2 p3 (by first | assumption | omega) (by first | assumption | omega) (by first | assumption | omega) (by first | assumption | omega) (by first | assumption | omega) (by first | assumption | omega) (by first | assumption | omega) (by first | assumption | omega) (by first | assumption | omega)) s.heap.size) (cwV 4 hts (gV tw_622 tw_624 tw_11 tw_79 tw_625) rfl rfl rfl (by decide +kernel) ⟨Nat.le_of_ble_eq_true rfl, Nat.le_of_ble_eq_true rfl⟩) (pV hS hAlo hlo hP hK hDL hZ [0, 1, 3, 4, 8, 9, 13, 14] (by decide) rfl (ci := 7) (q := (RX7, TX7, 12)) (q0 := 0) rfl rfl) rfl rfl hl.1 rfl (lv_room (Nat.le_of_ble_eq_true rfl)) dX7_worth_6 ⟨Nat.le_of_ble_eq_true rfl, Nat.le_of_ble_eq_true rfl⟩) hS hA hP (fun r_1 H locs hw_1 hP hS => ?_)
  try dsimp only at hw_1
  rcases hw_1 with ⟨rfl, ⟨rfl, ir_2, id_2, ig_2, hir_2, hid_2, hig_2, rfl, rfl, rfl⟩ | ⟨rfl, ir_2, id_2, ig_2, hir_2, hid_2, hig_2, rfl, rfl, rfl⟩ | ⟨rfl, ir_2, id_2, ig_2, hir_2, hid_2, hig_2, rfl, rfl, rfl⟩⟩ | ⟨rfl, hw_1⟩ | ⟨rfl, ⟨rfl, id_2, hid_2, rfl, hw_1⟩ | ⟨rfl, id_2, hid_2, rfl, hw_1⟩ | ⟨rfl, id_2, hid_2, rfl, hw_1⟩⟩
  · refine lv_istore (lv' := [(5, .int 0), (0, .ref (a 0)), (1, .int 0), (2, .int (nI ir_2)), (3, .int (nI id_2)), (4, .int (nI ig_2))]) hx hb dX7_worth_9 hl (by decide) rfl (fun ls hl => ?_)
    refine lv_iload hx hb dX7_worth_11 (lv_at hl 0 rfl) ?_
    refine lv_if_eq (tgt := 21) hx hb dX7_worth_13 (by decide) (fun _ => ?_) (fun h => absurd (by decide) h)
    have hg8_2 : ig_2 < 8 := by have h8 := (p8 (sq_le (see := see0) (n := n0) (i := id_2) (by omega))).2; omega
    refine lv_aload_n hx hb dX7_worth_21 rfl (lv_at hl 1 rfl) ?_
    refine va_get (D := D) (ci := 7) (v := .ref (a 19)) (C := RX7) (T := TX7) (N := 12) hx hb hts inX7 hown hK hP 0 rfl rfl 2 (by decide) (hts _ tw_307) (fun _ h9 => h9) rfl dX7_worth_22 ?_
    refine lv_iload_n hx hb dX7_worth_25 rfl (lv_at hl 2 rfl) ?_
    refine va_aldq hx hb hK hP 2 4 rfl rfl (by unfold vp_in; decide) dX7_worth_26 ?_
    refine lv_tr (y := .ref (a 20)) rfl ?_
    refine lv_iload_n hx hb dX7_worth_27 rfl (lv_at hl 3 rfl) ?_
    refine lv_iload_n hx hb dX7_worth_28 rfl (lv_at hl 4 rfl) ?_
    refine lv_iload hx hb dX7_worth_29 (lv_at hl 5 rfl) ?_
    refine ro_i (D := D) (va_runV (As := [.int (nI ir_2), .int (nI id_2), .int (nI ig_2)]) (rest := []) ⟨hx, hb, hml, hown, hts⟩ ((y_worthOf l D k st lo (a 4) (a 5) (a 6) (a 7) (a 8) n0 see0 tm0 g0 ff0 fp0 fl0 (a 20) (a 21) (a 22) (a 23) (a 24) on0 ir_2 id_2 ig_2 (by first | assumption | omega) (by first | assumption | omega) (by first | assumption | omega) (by first | assumption | omega) (hlt 0 (by omega))) H.size) (cwV 3 hts (gV tw_627 tw_546 tw_547 tw_85 tw_548) rfl rfl rfl (by decide +kernel) ⟨Nat.le_of_ble_eq_true rfl, Nat.le_of_ble_eq_true rfl⟩) (pV hS hAlo hlo hP hK hDL hZ [3, 4, 5, 6, 7, 18, 19] (by decide) rfl (ci := 0) (q := (RX0, TX0, 5)) (q0 := 5) rfl rfl) rfl rfl hl.1 rfl (lv_room (Nat.le_of_ble_eq_true rfl)) dX7_worth_31 ⟨Nat.le_of_ble_eq_true rfl, Nat.le_of_ble_eq_true rfl⟩) hS hA hP (fun r_3 H locs hw_3 hP hS => ?_)
    try dsimp only at hw_3
    exact W.iret (v := r_3) hx hb hr (fun t ht hW => ⟨⟨r_3, (), rfl, dq_at (s := 0) (by omega) (show n0 ≤ 24 by omega) (show id_2 < n0 by omega) (show siA (nI ir_2) (nI ig_2) woA (sdX n0 see0 tm0 g0 ff0 fp0) id_2 _ from si_at (by rw [tmX (by omega)]; omega) (by rw [seX (by omega)]; omega) (by rw [tmX (by omega)]; omega) (by rw [seX (by omega)]; exact hig_2) (show _ = pW (sdX n0 see0 tm0 g0 ff0 fp0) ir_2 id_2 (wayO (sdX n0 see0 tm0 g0 ff0 fp0) ir_2 id_2 ig_2) ig_2 from hw_3.trans (congrArg (fun z => pW (sdX n0 see0 tm0 g0 ff0 fp0) ir_2 id_2 z ig_2) (wo_of (d := (sdX n0 see0 tm0 g0 ff0 fp0)) (hwy 0 (by omega) (show 0 < n0 by omega)) (by rw [tmX (by omega)]; omega) (show id_2 < n0 by omega) (by rw [seX (by omega)]; exact hig_2))))), trivial⟩, hS.F ht⟩) hS.2.2 dX7_worth_34
  · refine lv_istore (lv' := [(5, .int 0), (0, .ref (a 0)), (1, .int 1), (2, .int (nI ir_2)), (3, .int (nI id_2)), (4, .int (nI ig_2))]) hx hb dX7_worth_9 hl (by decide) rfl (fun ls hl => ?_)
    refine lv_iload hx hb dX7_worth_11 (lv_at hl 0 rfl) ?_
    refine lv_if_eq (tgt := 21) hx hb dX7_worth_13 (by decide) (fun _ => ?_) (fun h => absurd (by decide) h)
    have hg8_2 : ig_2 < 8 := by have h8 := (p8 (sq_le (see := see1) (n := n1) (i := id_2) (by omega))).2; omega
    refine lv_aload_n hx hb dX7_worth_21 rfl (lv_at hl 1 rfl) ?_
    refine va_get (D := D) (ci := 7) (v := .ref (a 19)) (C := RX7) (T := TX7) (N := 12) hx hb hts inX7 hown hK hP 0 rfl rfl 2 (by decide) (hts _ tw_307) (fun _ h9 => h9) rfl dX7_worth_22 ?_
    refine lv_iload_n hx hb dX7_worth_25 rfl (lv_at hl 2 rfl) ?_
    refine va_aldq hx hb hK hP 2 4 rfl rfl (by unfold vp_in; decide) dX7_worth_26 ?_
    refine lv_tr (y := .ref (a 25)) rfl ?_
    refine lv_iload_n hx hb dX7_worth_27 rfl (lv_at hl 3 rfl) ?_
    refine lv_iload_n hx hb dX7_worth_28 rfl (lv_at hl 4 rfl) ?_
    refine lv_iload hx hb dX7_worth_29 (lv_at hl 5 rfl) ?_
    refine ro_i (D := D) (va_runV (As := [.int (nI ir_2), .int (nI id_2), .int (nI ig_2)]) (rest := []) ⟨hx, hb, hml, hown, hts⟩ ((y_worthOf l D k st lo (a 9) (a 10) (a 11) (a 12) (a 13) n1 see1 tm1 g1 ff1 fp1 fl1 (a 25) (a 26) (a 27) (a 28) (a 29) on1 ir_2 id_2 ig_2 (by first | assumption | omega) (by first | assumption | omega) (by first | assumption | omega) (by first | assumption | omega) (hlt 1 (by omega))) H.size) (cwV 3 hts (gV tw_627 tw_546 tw_547 tw_85 tw_548) rfl rfl rfl (by decide +kernel) ⟨Nat.le_of_ble_eq_true rfl, Nat.le_of_ble_eq_true rfl⟩) (pV hS hAlo hlo hP hK hDL hZ [8, 9, 10, 11, 12, 22, 23] (by decide) rfl (ci := 0) (q := (RX0, TX0, 5)) (q0 := 5) rfl rfl) rfl rfl hl.1 rfl (lv_room (Nat.le_of_ble_eq_true rfl)) dX7_worth_31 ⟨Nat.le_of_ble_eq_true rfl, Nat.le_of_ble_eq_true rfl⟩) hS hA hP (fun r_4 H locs hw_4 hP hS => ?_)
    try dsimp only at hw_4
    exact W.iret (v := r_4) hx hb hr (fun t ht hW => ⟨⟨r_4, (), rfl, dq_at (s := 1) (by omega) (show n1 ≤ 24 by omega) (show id_2 < n1 by omega) (show siA (nI ir_2) (nI ig_2) woA (sdX n1 see1 tm1 g1 ff1 fp1) id_2 _ from si_at (by rw [tmX (by omega)]; omega) (by rw [seX (by omega)]; omega) (by rw [tmX (by omega)]; omega) (by rw [seX (by omega)]; exact hig_2) (show _ = pW (sdX n1 see1 tm1 g1 ff1 fp1) ir_2 id_2 (wayO (sdX n1 see1 tm1 g1 ff1 fp1) ir_2 id_2 ig_2) ig_2 from hw_4.trans (congrArg (fun z => pW (sdX n1 see1 tm1 g1 ff1 fp1) ir_2 id_2 z ig_2) (wo_of (d := (sdX n1 see1 tm1 g1 ff1 fp1)) (hwy 1 (by omega) (show 0 < n1 by omega)) (by rw [tmX (by omega)]; omega) (show id_2 < n1 by omega) (by rw [seX (by omega)]; exact hig_2))))), trivial⟩, hS.F ht⟩) hS.2.2 dX7_worth_34
  · refine lv_istore (lv' := [(5, .int 0), (0, .ref (a 0)), (1, .int 2), (2, .int (nI ir_2)), (3, .int (nI id_2)), (4, .int (nI ig_2))]) hx hb dX7_worth_9 hl (by decide) rfl (fun ls hl => ?_)
    refine lv_iload hx hb dX7_worth_11 (lv_at hl 0 rfl) ?_
    refine lv_if_eq (tgt := 21) hx hb dX7_worth_13 (by decide) (fun _ => ?_) (fun h => absurd (by decide) h)
    have hg8_2 : ig_2 < 8 := by have h8 := (p8 (sq_le (see := see2) (n := n2) (i := id_2) (by omega))).2; omega
    refine lv_aload_n hx hb dX7_worth_21 rfl (lv_at hl 1 rfl) ?_
    refine va_get (D := D) (ci := 7) (v := .ref (a 19)) (C := RX7) (T := TX7) (N := 12) hx hb hts inX7 hown hK hP 0 rfl rfl 2 (by decide) (hts _ tw_307) (fun _ h9 => h9) rfl dX7_worth_22 ?_
    refine lv_iload_n hx hb dX7_worth_25 rfl (lv_at hl 2 rfl) ?_
    refine va_aldq hx hb hK hP 2 4 rfl rfl (by unfold vp_in; decide) dX7_worth_26 ?_
    refine lv_tr (y := .ref (a 30)) rfl ?_
    refine lv_iload_n hx hb dX7_worth_27 rfl (lv_at hl 3 rfl) ?_
    refine lv_iload_n hx hb dX7_worth_28 rfl (lv_at hl 4 rfl) ?_
    refine lv_iload hx hb dX7_worth_29 (lv_at hl 5 rfl) ?_
    refine ro_i (D := D) (va_runV (As := [.int (nI ir_2), .int (nI id_2), .int (nI ig_2)]) (rest := []) ⟨hx, hb, hml, hown, hts⟩ ((y_worthOf l D k st lo (a 14) (a 15) (a 16) (a 17) (a 18) n2 see2 tm2 g2 ff2 fp2 fl2 (a 30) (a 31) (a 32) (a 33) (a 34) on2 ir_2 id_2 ig_2 (by first | assumption | omega) (by first | assumption | omega) (by first | assumption | omega) (by first | assumption | omega) (hlt 2 (by omega))) H.size) (cwV 3 hts (gV tw_627 tw_546 tw_547 tw_85 tw_548) rfl rfl rfl (by decide +kernel) ⟨Nat.le_of_ble_eq_true rfl, Nat.le_of_ble_eq_true rfl⟩) (pV hS hAlo hlo hP hK hDL hZ [13, 14, 15, 16, 17, 26, 27] (by decide) rfl (ci := 0) (q := (RX0, TX0, 5)) (q0 := 5) rfl rfl) rfl rfl hl.1 rfl (lv_room (Nat.le_of_ble_eq_true rfl)) dX7_worth_31 ⟨Nat.le_of_ble_eq_true rfl, Nat.le_of_ble_eq_true rfl⟩) hS hA hP (fun r_5 H locs hw_5 hP hS => ?_)
    try dsimp only at hw_5
    exact W.iret (v := r_5) hx hb hr (fun t ht hW => ⟨⟨r_5, (), rfl, dq_at (s := 2) (by omega) (show n2 ≤ 24 by omega) (show id_2 < n2 by omega) (show siA (nI ir_2) (nI ig_2) woA (sdX n2 see2 tm2 g2 ff2 fp2) id_2 _ from si_at (by rw [tmX (by omega)]; omega) (by rw [seX (by omega)]; omega) (by rw [tmX (by omega)]; omega) (by rw [seX (by omega)]; exact hig_2) (show _ = pW (sdX n2 see2 tm2 g2 ff2 fp2) ir_2 id_2 (wayO (sdX n2 see2 tm2 g2 ff2 fp2) ir_2 id_2 ig_2) ig_2 from hw_5.trans (congrArg (fun z => pW (sdX n2 see2 tm2 g2 ff2 fp2) ir_2 id_2 z ig_2) (wo_of (d := (sdX n2 see2 tm2 g2 ff2 fp2)) (hwy 2 (by omega) (show 0 < n2 by omega)) (by rw [tmX (by omega)]; omega) (show id_2 < n2 by omega) (by rw [seX (by omega)]; exact hig_2))))), trivial⟩, hS.F ht⟩) hS.2.2 dX7_worth_34
  · refine lv_istore (lv' := [(5, .int (-1001)), (0, .ref (a 0)), (1, .int p0), (2, .int p1), (3, .int p2), (4, .int p3)]) hx hb dX7_worth_9 hl (by decide) rfl (fun ls hl => ?_)
    refine lv_iload hx hb dX7_worth_11 (lv_at hl 0 rfl) ?_
    refine lv_if_eq (tgt := 21) hx hb dX7_worth_13 (by decide) (fun h => absurd h (by decide)) (fun _ => ?_)
    refine lv_iload hx hb dX7_worth_16 (lv_at hl 0 rfl) ?_
    refine lv_goto (tgt := 34) hx hb dX7_worth_18 (by decide) ?_
    exact W.iret (v := (-1001)) hx hb hr (fun t ht hW => ⟨⟨(-1001), (), rfl, dq_no (fun s h1 h2 i h3 h4 => hw_1 s h1 h2 i h3 (by rw [d3_n] at h4; exact h4)), trivial⟩, hS.F ht⟩) hS.2.2 dX7_worth_34
  · refine lv_istore (lv' := [(5, .int (-1002)), (0, .ref (a 0)), (1, .int 0), (2, .int p1), (3, .int (nI id_2)), (4, .int p3)]) hx hb dX7_worth_9 hl (by decide) rfl (fun ls hl => ?_)
    refine lv_iload hx hb dX7_worth_11 (lv_at hl 0 rfl) ?_
    refine lv_if_eq (tgt := 21) hx hb dX7_worth_13 (by decide) (fun h => absurd h (by decide)) (fun _ => ?_)
    refine lv_iload hx hb dX7_worth_16 (lv_at hl 0 rfl) ?_
    refine lv_goto (tgt := 34) hx hb dX7_worth_18 (by decide) ?_
    exact W.iret (v := (-1002)) hx hb hr (fun t ht hW => ⟨⟨(-1002), (), rfl, dq_at (s := 0) (by omega) (show n0 ≤ 24 by omega) (show id_2 < n0 by omega) (show siA p1 p3 woA (sdX n0 see0 tm0 g0 ff0 fp0) id_2 _ from si_no (fun rn g c => hw_1 rn g (by have h9 := c.2.1; rw [tmX (by omega)] at h9; exact h9) c.1 c.2.2.1 (by have h9 := c.2.2.2; rw [seX (by omega)] at h9; exact h9))), trivial⟩, hS.F ht⟩) hS.2.2 dX7_worth_34
  · refine lv_istore (lv' := [(5, .int (-1002)), (0, .ref (a 0)), (1, .int 1), (2, .int p1), (3, .int (nI id_2)), (4, .int p3)]) hx hb dX7_worth_9 hl (by decide) rfl (fun ls hl => ?_)
    refine lv_iload hx hb dX7_worth_11 (lv_at hl 0 rfl) ?_
    refine lv_if_eq (tgt := 21) hx hb dX7_worth_13 (by decide) (fun h => absurd h (by decide)) (fun _ => ?_)
    refine lv_iload hx hb dX7_worth_16 (lv_at hl 0 rfl) ?_
    refine lv_goto (tgt := 34) hx hb dX7_worth_18 (by decide) ?_
    exact W.iret (v := (-1002)) hx hb hr (fun t ht hW => ⟨⟨(-1002), (), rfl, dq_at (s := 1) (by omega) (show n1 ≤ 24 by omega) (show id_2 < n1 by omega) (show siA p1 p3 woA (sdX n1 see1 tm1 g1 ff1 fp1) id_2 _ from si_no (fun rn g c => hw_1 rn g (by have h9 := c.2.1; rw [tmX (by omega)] at h9; exact h9) c.1 c.2.2.1 (by have h9 := c.2.2.2; rw [seX (by omega)] at h9; exact h9))), trivial⟩, hS.F ht⟩) hS.2.2 dX7_worth_34
  · refine lv_istore (lv' := [(5, .int (-1002)), (0, .ref (a 0)), (1, .int 2), (2, .int p1), (3, .int (nI id_2)), (4, .int p3)]) hx hb dX7_worth_9 hl (by decide) rfl (fun ls hl => ?_)
    refine lv_iload hx hb dX7_worth_11 (lv_at hl 0 rfl) ?_
    refine lv_if_eq (tgt := 21) hx hb dX7_worth_13 (by decide) (fun h => absurd h (by decide)) (fun _ => ?_)
    refine lv_iload hx hb dX7_worth_16 (lv_at hl 0 rfl) ?_
    refine lv_goto (tgt := 34) hx hb dX7_worth_18 (by decide) ?_
    exact W.iret (v := (-1002)) hx hb hr (fun t ht hW => ⟨⟨(-1002), (), rfl, dq_at (s := 2) (by omega) (show n2 ≤ 24 by omega) (show id_2 < n2 by omega) (show siA p1 p3 woA (sdX n2 see2 tm2 g2 ff2 fp2) id_2 _ from si_no (fun rn g c => hw_1 rn g (by have h9 := c.2.1; rw [tmX (by omega)] at h9; exact h9) c.1 c.2.2.1 (by have h9 := c.2.2.2; rw [seX (by omega)] at h9; exact h9))), trivial⟩, hS.F ht⟩) hS.2.2 dX7_worth_34


set_option maxHeartbeats 4000000 in
set_option maxRecDepth 100000 in
theorem y_goingOn (l : Launch) (D : va_G) (k : Nat → ClassId) (st : Nat → Nat) (lo : Nat) (a : Nat → Nat) (rk : Nat) (lfa : Int32) (n0 : Nat) (see0 : Nat) (tm0 : Nat) (g0 : Nat → Int32) (ff0 : Nat → Int32) (fp0 : Nat → Int32) (fl0 : Nat → Int32) (n1 : Nat) (see1 : Nat) (tm1 : Nat) (g1 : Nat → Int32) (ff1 : Nat → Int32) (fp1 : Nat → Int32) (fl1 : Nat → Int32) (n2 : Nat) (see2 : Nat) (tm2 : Nat) (g2 : Nat → Int32) (ff2 : Nat → Int32) (fp2 : Nat → Int32) (fl2 : Nat → Int32) (on0 : Nat → Int32) (sr0 : Nat → Int32) (en0 : Nat → Int32) (on1 : Nat → Int32) (sr1 : Nat → Int32) (en1 : Nat → Int32) (on2 : Nat → Int32) (sr2 : Nat → Int32) (en2 : Nat → Int32) (p0 : Int32) (p1 : Int32) (p2 : Int32) (p3 : Int32) (hn0 : n0 ≤ 24) (hse0 : see0 ≤ 2) (htm0 : tm0 ≤ 3) (hn1 : n1 ≤ 24) (hse1 : see1 ≤ 2) (htm1 : tm1 ≤ 3) (hn2 : n2 ≤ 24) (hse2 : see2 ≤ 2) (htm2 : tm2 ≤ 3) (hlt : ltP (d3 fl0 fl1 fl2) (d3 (sdX n0 see0 tm0 g0 ff0 fp0) (sdX n1 see1 tm1 g1 ff1 fp1) (sdX n2 see2 tm2 g2 ff2 fp2))) (hwy : wy3 (d3 (sdX n0 see0 tm0 g0 ff0 fp0) (sdX n1 see1 tm1 g1 ff1 fp1) (sdX n2 see2 tm2 g2 ff2 fp2)) (d3 on0 on1 on2) (d3 sr0 sr1 sr2) (d3 en0 en1 en2)) : CRi l D k st lo yX7_goingOn cX7_goingOn 6 (some .int) ({ frames := 4, cells := 0, slots := 0, locals := 106 }) [.ref (a 0), .int p0, .int p1, .int p2, .int p3] [((a 0), .inr (7, (fX7 (a 1) (a 3) (a 19) (a 35) (a 40) (nI rk) lfa (a 53) (a 56) (a 63) (a 64) (a 68)))), ((a 3), .inl (k 3, 3, .inr (.inr (.inr (.inr (a3 (a 4) (a 9) (a 14))))))), ((a 19), .inl (k 4, 3, .inr (.inr (.inr (.inr (a3 (a 20) (a 25) (a 30))))))), ((a 4), .inr (5, (fX5 (a 5) (a 6) (a 7) (a 8)))), (aI k (a 5) 10 (vv n0 see0 tm0 g0)), (aI k (a 6) 24 ff0), (aI k (a 7) 24 fp0), (aI k (a 8) 4 fl0), ((a 9), .inr (5, (fX5 (a 10) (a 11) (a 12) (a 13)))), (aI k (a 10) 10 (vv n1 see1 tm1 g1)), (aI k (a 11) 24 ff1), (aI k (a 12) 24 fp1), (aI k (a 13) 4 fl1), ((a 14), .inr (5, (fX5 (a 15) (a 16) (a 17) (a 18)))), (aI k (a 15) 10 (vv n2 see2 tm2 g2)), (aI k (a 16) 24 ff2), (aI k (a 17) 24 fp2), (aI k (a 18) 4 fl2), ((a 20), .inr (0, (fX0 (a 4) (a 21) (a 22) (a 23) (a 24)))), (aI k (a 21) 768 on0), (aI k (a 22) 4 sr0), (aI k (a 23) 4 en0), ((a 25), .inr (0, (fX0 (a 9) (a 26) (a 27) (a 28) (a 29)))), (aI k (a 26) 768 on1), (aI k (a 27) 4 sr1), (aI k (a 28) 4 en1), ((a 30), .inr (0, (fX0 (a 14) (a 31) (a 32) (a 33) (a 34)))), (aI k (a 31) 768 on2), (aI k (a 32) 4 sr2), (aI k (a 33) 4 en2)] (fun r => dqP (d3 (sdX n0 see0 tm0 g0 ff0 fp0) (sdX n1 see1 tm1 g1 ff1 fp1) (sdX n2 see2 tm2 g2 ff2 fp2)) p0 p2 (siA p1 p3 goA) r) := by
  intro sz
  refine Met.ofW (cc := cX7_goingOn) (maxL := 6) (ret := (some .int)) (by decide) rfl ?_
  intro p e s m args below meth c s₁ B hml hv
  obtain ⟨rfl, hsz, hlo, hP, hK, hDL, hZ⟩ := hv
  have hx := B.exec
  have hb := B.bytes
  have hr := B.returns
  have hts := WS_ts B.pre
  have hown : s.vm.findClass RX7 = some m.cls := findClass_of_methodNamed B.named
  have hlocks := B.notSynchronized
  subst hsz
  have hA : ∀ q : Nat, s.heap.size ≤ q → (fun q : Nat => s.heap.size ≤ q) q := fun _ h => h
  have hAlo : ∀ q : Nat, (fun q : Nat => s.heap.size ≤ q) q → lo ≤ q := fun q h => Nat.le_trans hlo h
  have hS : va_S (fun q : Nat => s.heap.size ≤ q) s.heap s.heap [] := va_S.rf
  have hl := lv_entry ([.ref (a 0), .int p0, .int p1, .int p2, .int p3]) (n := 6) (Nat.le_of_ble_eq_true rfl)
  rw [lg_entry_eq]
  generalize (lg_sl ([.ref (a 0), .int p0, .int p1, .int p2, .int p3]) ++ List.replicate (6 - (lg_sl ([.ref (a 0), .int p0, .int p1, .int p2, .int p3])).length) Slot.unset).toArray = ls at hl ⊢
  have hl : lv_has ls 6 [(0, .ref (a 0)), (1, .int p0), (2, .int p1), (3, .int p2), (4, .int p3)] := hl
  refine lv_aload_n hx hb dX7_goingOn_0 rfl (lv_at hl 0 rfl) ?_
  refine lv_iload_n hx hb dX7_goingOn_1 rfl (lv_at hl 1 rfl) ?_
  refine lv_iload_n hx hb dX7_goingOn_2 rfl (lv_at hl 2 rfl) ?_
  refine lv_iload_n hx hb dX7_goingOn_3 rfl (lv_at hl 3 rfl) ?_
  refine lv_iload hx hb dX7_goingOn_4 (lv_at hl 4 rfl) ?_
  refine ro_i (D := D) (va_runV (As := [.int p0, .int p1, .int p2, .int p3]) (rest := []) ⟨hx, hb, hml, hown, hts⟩ ((y_refuseSight l D k st lo a rk lfa n0 see0 tm0 g0 n1 see1 tm1 g1 n2 see2 tm2 g2 p0 p1 p2 p3 (by first | assumption | omega) (by first | assumption | omega) (by first | assumption | omega) (by first | assumption | omega) (by first | assumption | omega) (by first | assumption | omega) (by first | assumption | omega) (by first | assumption | omega) (by first | assumption | omega)) s.heap.size) (cwV 4 hts (gV tw_622 tw_624 tw_11 tw_79 tw_625) rfl rfl rfl (by decide +kernel) ⟨Nat.le_of_ble_eq_true rfl, Nat.le_of_ble_eq_true rfl⟩) (pV hS hAlo hlo hP hK hDL hZ [0, 1, 3, 4, 8, 9, 13, 14] (by decide) rfl (ci := 7) (q := (RX7, TX7, 12)) (q0 := 0) rfl rfl) rfl rfl hl.1 rfl (lv_room (Nat.le_of_ble_eq_true rfl)) dX7_goingOn_6 ⟨Nat.le_of_ble_eq_true rfl, Nat.le_of_ble_eq_true rfl⟩) hS hA hP (fun r_1 H locs hw_1 hP hS => ?_)
  try dsimp only at hw_1
  rcases hw_1 with ⟨rfl, ⟨rfl, ir_2, id_2, ig_2, hir_2, hid_2, hig_2, rfl, rfl, rfl⟩ | ⟨rfl, ir_2, id_2, ig_2, hir_2, hid_2, hig_2, rfl, rfl, rfl⟩ | ⟨rfl, ir_2, id_2, ig_2, hir_2, hid_2, hig_2, rfl, rfl, rfl⟩⟩ | ⟨rfl, hw_1⟩ | ⟨rfl, ⟨rfl, id_2, hid_2, rfl, hw_1⟩ | ⟨rfl, id_2, hid_2, rfl, hw_1⟩ | ⟨rfl, id_2, hid_2, rfl, hw_1⟩⟩
  · refine lv_istore (lv' := [(5, .int 0), (0, .ref (a 0)), (1, .int 0), (2, .int (nI ir_2)), (3, .int (nI id_2)), (4, .int (nI ig_2))]) hx hb dX7_goingOn_9 hl (by decide) rfl (fun ls hl => ?_)
    refine lv_iload hx hb dX7_goingOn_11 (lv_at hl 0 rfl) ?_
    refine lv_if_eq (tgt := 21) hx hb dX7_goingOn_13 (by decide) (fun _ => ?_) (fun h => absurd (by decide) h)
    have hg8_2 : ig_2 < 8 := by have h8 := (p8 (sq_le (see := see0) (n := n0) (i := id_2) (by omega))).2; omega
    refine lv_aload_n hx hb dX7_goingOn_21 rfl (lv_at hl 1 rfl) ?_
    refine va_get (D := D) (ci := 7) (v := .ref (a 19)) (C := RX7) (T := TX7) (N := 12) hx hb hts inX7 hown hK hP 0 rfl rfl 2 (by decide) (hts _ tw_307) (fun _ h9 => h9) rfl dX7_goingOn_22 ?_
    refine lv_iload_n hx hb dX7_goingOn_25 rfl (lv_at hl 2 rfl) ?_
    refine va_aldq hx hb hK hP 2 4 rfl rfl (by unfold vp_in; decide) dX7_goingOn_26 ?_
    refine lv_tr (y := .ref (a 20)) rfl ?_
    refine lv_iload_n hx hb dX7_goingOn_27 rfl (lv_at hl 3 rfl) ?_
    refine lv_iload_n hx hb dX7_goingOn_28 rfl (lv_at hl 4 rfl) ?_
    refine lv_iload hx hb dX7_goingOn_29 (lv_at hl 5 rfl) ?_
    refine ro_i (D := D) (va_runV (As := [.int (nI ir_2), .int (nI id_2), .int (nI ig_2)]) (rest := []) ⟨hx, hb, hml, hown, hts⟩ ((y_onwardOf l D k st lo (a 4) (a 20) (a 21) (a 22) (a 23) (a 24) on0 ir_2 id_2 ig_2 (by first | assumption | omega) (by first | assumption | omega) (by first | assumption | omega)) H.size) (cwV 3 hts (gV tw_632 tw_550 tw_551 tw_85 tw_552) rfl rfl rfl (by decide +kernel) ⟨Nat.le_of_ble_eq_true rfl, Nat.le_of_ble_eq_true rfl⟩) (pV hS hAlo hlo hP hK hDL hZ [18, 19] (by decide) rfl (ci := 0) (q := (RX0, TX0, 5)) (q0 := 0) rfl rfl) rfl rfl hl.1 rfl (lv_room (Nat.le_of_ble_eq_true rfl)) dX7_goingOn_31 ⟨Nat.le_of_ble_eq_true rfl, Nat.le_of_ble_eq_true rfl⟩) hS hA hP (fun r_3 H locs hw_3 hP hS => ?_)
    try dsimp only at hw_3
    exact W.iret (v := r_3) hx hb hr (fun t ht hW => ⟨⟨r_3, (), rfl, dq_at (s := 0) (by omega) (show n0 ≤ 24 by omega) (show id_2 < n0 by omega) (show siA (nI ir_2) (nI ig_2) goA (sdX n0 see0 tm0 g0 ff0 fp0) id_2 _ from si_at (by rw [tmX (by omega)]; omega) (by rw [seX (by omega)]; omega) (by rw [tmX (by omega)]; omega) (by rw [seX (by omega)]; exact hig_2) (hw_3.trans (wo_of (d := (sdX n0 see0 tm0 g0 ff0 fp0)) (hwy 0 (by omega) (show 0 < n0 by omega)) (by rw [tmX (by omega)]; omega) (show id_2 < n0 by omega) (by rw [seX (by omega)]; exact hig_2)))), trivial⟩, hS.F ht⟩) hS.2.2 dX7_goingOn_34
  · refine lv_istore (lv' := [(5, .int 0), (0, .ref (a 0)), (1, .int 1), (2, .int (nI ir_2)), (3, .int (nI id_2)), (4, .int (nI ig_2))]) hx hb dX7_goingOn_9 hl (by decide) rfl (fun ls hl => ?_)
    refine lv_iload hx hb dX7_goingOn_11 (lv_at hl 0 rfl) ?_
    refine lv_if_eq (tgt := 21) hx hb dX7_goingOn_13 (by decide) (fun _ => ?_) (fun h => absurd (by decide) h)
    have hg8_2 : ig_2 < 8 := by have h8 := (p8 (sq_le (see := see1) (n := n1) (i := id_2) (by omega))).2; omega
    refine lv_aload_n hx hb dX7_goingOn_21 rfl (lv_at hl 1 rfl) ?_
    refine va_get (D := D) (ci := 7) (v := .ref (a 19)) (C := RX7) (T := TX7) (N := 12) hx hb hts inX7 hown hK hP 0 rfl rfl 2 (by decide) (hts _ tw_307) (fun _ h9 => h9) rfl dX7_goingOn_22 ?_
    refine lv_iload_n hx hb dX7_goingOn_25 rfl (lv_at hl 2 rfl) ?_
    refine va_aldq hx hb hK hP 2 4 rfl rfl (by unfold vp_in; decide) dX7_goingOn_26 ?_
    refine lv_tr (y := .ref (a 25)) rfl ?_
    refine lv_iload_n hx hb dX7_goingOn_27 rfl (lv_at hl 3 rfl) ?_
    refine lv_iload_n hx hb dX7_goingOn_28 rfl (lv_at hl 4 rfl) ?_
    refine lv_iload hx hb dX7_goingOn_29 (lv_at hl 5 rfl) ?_
    refine ro_i (D := D) (va_runV (As := [.int (nI ir_2), .int (nI id_2), .int (nI ig_2)]) (rest := []) ⟨hx, hb, hml, hown, hts⟩ ((y_onwardOf l D k st lo (a 9) (a 25) (a 26) (a 27) (a 28) (a 29) on1 ir_2 id_2 ig_2 (by first | assumption | omega) (by first | assumption | omega) (by first | assumption | omega)) H.size) (cwV 3 hts (gV tw_632 tw_550 tw_551 tw_85 tw_552) rfl rfl rfl (by decide +kernel) ⟨Nat.le_of_ble_eq_true rfl, Nat.le_of_ble_eq_true rfl⟩) (pV hS hAlo hlo hP hK hDL hZ [22, 23] (by decide) rfl (ci := 0) (q := (RX0, TX0, 5)) (q0 := 0) rfl rfl) rfl rfl hl.1 rfl (lv_room (Nat.le_of_ble_eq_true rfl)) dX7_goingOn_31 ⟨Nat.le_of_ble_eq_true rfl, Nat.le_of_ble_eq_true rfl⟩) hS hA hP (fun r_4 H locs hw_4 hP hS => ?_)
    try dsimp only at hw_4
    exact W.iret (v := r_4) hx hb hr (fun t ht hW => ⟨⟨r_4, (), rfl, dq_at (s := 1) (by omega) (show n1 ≤ 24 by omega) (show id_2 < n1 by omega) (show siA (nI ir_2) (nI ig_2) goA (sdX n1 see1 tm1 g1 ff1 fp1) id_2 _ from si_at (by rw [tmX (by omega)]; omega) (by rw [seX (by omega)]; omega) (by rw [tmX (by omega)]; omega) (by rw [seX (by omega)]; exact hig_2) (hw_4.trans (wo_of (d := (sdX n1 see1 tm1 g1 ff1 fp1)) (hwy 1 (by omega) (show 0 < n1 by omega)) (by rw [tmX (by omega)]; omega) (show id_2 < n1 by omega) (by rw [seX (by omega)]; exact hig_2)))), trivial⟩, hS.F ht⟩) hS.2.2 dX7_goingOn_34
  · refine lv_istore (lv' := [(5, .int 0), (0, .ref (a 0)), (1, .int 2), (2, .int (nI ir_2)), (3, .int (nI id_2)), (4, .int (nI ig_2))]) hx hb dX7_goingOn_9 hl (by decide) rfl (fun ls hl => ?_)
    refine lv_iload hx hb dX7_goingOn_11 (lv_at hl 0 rfl) ?_
    refine lv_if_eq (tgt := 21) hx hb dX7_goingOn_13 (by decide) (fun _ => ?_) (fun h => absurd (by decide) h)
    have hg8_2 : ig_2 < 8 := by have h8 := (p8 (sq_le (see := see2) (n := n2) (i := id_2) (by omega))).2; omega
    refine lv_aload_n hx hb dX7_goingOn_21 rfl (lv_at hl 1 rfl) ?_
    refine va_get (D := D) (ci := 7) (v := .ref (a 19)) (C := RX7) (T := TX7) (N := 12) hx hb hts inX7 hown hK hP 0 rfl rfl 2 (by decide) (hts _ tw_307) (fun _ h9 => h9) rfl dX7_goingOn_22 ?_
    refine lv_iload_n hx hb dX7_goingOn_25 rfl (lv_at hl 2 rfl) ?_
    refine va_aldq hx hb hK hP 2 4 rfl rfl (by unfold vp_in; decide) dX7_goingOn_26 ?_
    refine lv_tr (y := .ref (a 30)) rfl ?_
    refine lv_iload_n hx hb dX7_goingOn_27 rfl (lv_at hl 3 rfl) ?_
    refine lv_iload_n hx hb dX7_goingOn_28 rfl (lv_at hl 4 rfl) ?_
    refine lv_iload hx hb dX7_goingOn_29 (lv_at hl 5 rfl) ?_
    refine ro_i (D := D) (va_runV (As := [.int (nI ir_2), .int (nI id_2), .int (nI ig_2)]) (rest := []) ⟨hx, hb, hml, hown, hts⟩ ((y_onwardOf l D k st lo (a 14) (a 30) (a 31) (a 32) (a 33) (a 34) on2 ir_2 id_2 ig_2 (by first | assumption | omega) (by first | assumption | omega) (by first | assumption | omega)) H.size) (cwV 3 hts (gV tw_632 tw_550 tw_551 tw_85 tw_552) rfl rfl rfl (by decide +kernel) ⟨Nat.le_of_ble_eq_true rfl, Nat.le_of_ble_eq_true rfl⟩) (pV hS hAlo hlo hP hK hDL hZ [26, 27] (by decide) rfl (ci := 0) (q := (RX0, TX0, 5)) (q0 := 0) rfl rfl) rfl rfl hl.1 rfl (lv_room (Nat.le_of_ble_eq_true rfl)) dX7_goingOn_31 ⟨Nat.le_of_ble_eq_true rfl, Nat.le_of_ble_eq_true rfl⟩) hS hA hP (fun r_5 H locs hw_5 hP hS => ?_)
    try dsimp only at hw_5
    exact W.iret (v := r_5) hx hb hr (fun t ht hW => ⟨⟨r_5, (), rfl, dq_at (s := 2) (by omega) (show n2 ≤ 24 by omega) (show id_2 < n2 by omega) (show siA (nI ir_2) (nI ig_2) goA (sdX n2 see2 tm2 g2 ff2 fp2) id_2 _ from si_at (by rw [tmX (by omega)]; omega) (by rw [seX (by omega)]; omega) (by rw [tmX (by omega)]; omega) (by rw [seX (by omega)]; exact hig_2) (hw_5.trans (wo_of (d := (sdX n2 see2 tm2 g2 ff2 fp2)) (hwy 2 (by omega) (show 0 < n2 by omega)) (by rw [tmX (by omega)]; omega) (show id_2 < n2 by omega) (by rw [seX (by omega)]; exact hig_2)))), trivial⟩, hS.F ht⟩) hS.2.2 dX7_goingOn_34
  · refine lv_istore (lv' := [(5, .int (-1001)), (0, .ref (a 0)), (1, .int p0), (2, .int p1), (3, .int p2), (4, .int p3)]) hx hb dX7_goingOn_9 hl (by decide) rfl (fun ls hl => ?_)
    refine lv_iload hx hb dX7_goingOn_11 (lv_at hl 0 rfl) ?_
    refine lv_if_eq (tgt := 21) hx hb dX7_goingOn_13 (by decide) (fun h => absurd h (by decide)) (fun _ => ?_)
    refine lv_iload hx hb dX7_goingOn_16 (lv_at hl 0 rfl) ?_
    refine lv_goto (tgt := 34) hx hb dX7_goingOn_18 (by decide) ?_
    exact W.iret (v := (-1001)) hx hb hr (fun t ht hW => ⟨⟨(-1001), (), rfl, dq_no (fun s h1 h2 i h3 h4 => hw_1 s h1 h2 i h3 (by rw [d3_n] at h4; exact h4)), trivial⟩, hS.F ht⟩) hS.2.2 dX7_goingOn_34
  · refine lv_istore (lv' := [(5, .int (-1002)), (0, .ref (a 0)), (1, .int 0), (2, .int p1), (3, .int (nI id_2)), (4, .int p3)]) hx hb dX7_goingOn_9 hl (by decide) rfl (fun ls hl => ?_)
    refine lv_iload hx hb dX7_goingOn_11 (lv_at hl 0 rfl) ?_
    refine lv_if_eq (tgt := 21) hx hb dX7_goingOn_13 (by decide) (fun h => absurd h (by decide)) (fun _ => ?_)
    refine lv_iload hx hb dX7_goingOn_16 (lv_at hl 0 rfl) ?_
    refine lv_goto (tgt := 34) hx hb dX7_goingOn_18 (by decide) ?_
    exact W.iret (v := (-1002)) hx hb hr (fun t ht hW => ⟨⟨(-1002), (), rfl, dq_at (s := 0) (by omega) (show n0 ≤ 24 by omega) (show id_2 < n0 by omega) (show siA p1 p3 goA (sdX n0 see0 tm0 g0 ff0 fp0) id_2 _ from si_no (fun rn g c => hw_1 rn g (by have h9 := c.2.1; rw [tmX (by omega)] at h9; exact h9) c.1 c.2.2.1 (by have h9 := c.2.2.2; rw [seX (by omega)] at h9; exact h9))), trivial⟩, hS.F ht⟩) hS.2.2 dX7_goingOn_34
  · refine lv_istore (lv' := [(5, .int (-1002)), (0, .ref (a 0)), (1, .int 1), (2, .int p1), (3, .int (nI id_2)), (4, .int p3)]) hx hb dX7_goingOn_9 hl (by decide) rfl (fun ls hl => ?_)
    refine lv_iload hx hb dX7_goingOn_11 (lv_at hl 0 rfl) ?_
    refine lv_if_eq (tgt := 21) hx hb dX7_goingOn_13 (by decide) (fun h => absurd h (by decide)) (fun _ => ?_)
    refine lv_iload hx hb dX7_goingOn_16 (lv_at hl 0 rfl) ?_
    refine lv_goto (tgt := 34) hx hb dX7_goingOn_18 (by decide) ?_
    exact W.iret (v := (-1002)) hx hb hr (fun t ht hW => ⟨⟨(-1002), (), rfl, dq_at (s := 1) (by omega) (show n1 ≤ 24 by omega) (show id_2 < n1 by omega) (show siA p1 p3 goA (sdX n1 see1 tm1 g1 ff1 fp1) id_2 _ from si_no (fun rn g c => hw_1 rn g (by have h9 := c.2.1; rw [tmX (by omega)] at h9; exact h9) c.1 c.2.2.1 (by have h9 := c.2.2.2; rw [seX (by omega)] at h9; exact h9))), trivial⟩, hS.F ht⟩) hS.2.2 dX7_goingOn_34
  · refine lv_istore (lv' := [(5, .int (-1002)), (0, .ref (a 0)), (1, .int 2), (2, .int p1), (3, .int (nI id_2)), (4, .int p3)]) hx hb dX7_goingOn_9 hl (by decide) rfl (fun ls hl => ?_)
    refine lv_iload hx hb dX7_goingOn_11 (lv_at hl 0 rfl) ?_
    refine lv_if_eq (tgt := 21) hx hb dX7_goingOn_13 (by decide) (fun h => absurd h (by decide)) (fun _ => ?_)
    refine lv_iload hx hb dX7_goingOn_16 (lv_at hl 0 rfl) ?_
    refine lv_goto (tgt := 34) hx hb dX7_goingOn_18 (by decide) ?_
    exact W.iret (v := (-1002)) hx hb hr (fun t ht hW => ⟨⟨(-1002), (), rfl, dq_at (s := 2) (by omega) (show n2 ≤ 24 by omega) (show id_2 < n2 by omega) (show siA p1 p3 goA (sdX n2 see2 tm2 g2 ff2 fp2) id_2 _ from si_no (fun rn g c => hw_1 rn g (by have h9 := c.2.1; rw [tmX (by omega)] at h9; exact h9) c.1 c.2.2.1 (by have h9 := c.2.2.2; rw [seX (by omega)] at h9; exact h9))), trivial⟩, hS.F ht⟩) hS.2.2 dX7_goingOn_34


set_option maxHeartbeats 4000000 in
set_option maxRecDepth 100000 in
theorem y_isTaken (l : Launch) (D : va_G) (k : Nat → ClassId) (st : Nat → Nat) (lo : Nat) (h0 : Nat) (h1 : Nat) (h2 : Nat) (h3 : Nat) (h4 : Nat) (n : Nat) (see : Nat) (tm : Nat) (g : Nat → Int32) (ff : Nat → Int32) (fp : Nat → Int32) (fl : Nat → Int32) (w0 : Nat) (w1 : Nat) (w2 : Nat) (w3 : Nat) (w4 : Nat) (on : Nat → Int32) (rn : Nat) (i : Nat) (gg : Nat) (hrn : rn ≤ 3) (hi : i < n) (hn : n ≤ 24) (hg : gg < 8) : CRi l D k st lo yX0_isTaken cX0_isTaken 4 (some .boolean) ({ frames := 2, cells := 0, slots := 0, locals := 45 }) [.ref w0, .int (nI rn), .int (nI i), .int (nI gg)] [(h0, .inr (5, (fX5 h1 h2 h3 h4))), (aI k h1 10 (vv n see tm g)), (aI k h2 24 ff), (aI k h3 24 fp), (aI k h4 4 fl), (w0, .inr (0, (fX0 h0 w1 w2 w3 w4))), (aI k w1 768 on)] (fun r => (r = 1 ∧ (gg % 2 = 1 ∧ fX_taking n g fp fl rn i ≤ on (slN rn i gg))) ∨ (r = 0 ∧ ¬ (gg % 2 = 1 ∧ fX_taking n g fp fl rn i ≤ on (slN rn i gg)))) := by
  intro sz
  refine Met.ofW (cc := cX0_isTaken) (maxL := 4) (ret := (some .boolean)) (by decide) rfl ?_
  intro p e s m args below meth c s₁ B hml hv
  obtain ⟨rfl, hsz, hlo, hP, hK, hDL, hZ⟩ := hv
  have hx := B.exec
  have hb := B.bytes
  have hr := B.returns
  have hts := WS_ts B.pre
  have hown : s.vm.findClass RX0 = some m.cls := findClass_of_methodNamed B.named
  have hlocks := B.notSynchronized
  subst hsz
  have hA : ∀ q : Nat, s.heap.size ≤ q → (fun q : Nat => s.heap.size ≤ q) q := fun _ h => h
  have hAlo : ∀ q : Nat, (fun q : Nat => s.heap.size ≤ q) q → lo ≤ q := fun q h => Nat.le_trans hlo h
  have hS : va_S (fun q : Nat => s.heap.size ≤ q) s.heap s.heap [] := va_S.rf
  have hl := lv_entry ([.ref w0, .int (nI rn), .int (nI i), .int (nI gg)]) (n := 4) (Nat.le_of_ble_eq_true rfl)
  rw [lg_entry_eq]
  generalize (lg_sl ([.ref w0, .int (nI rn), .int (nI i), .int (nI gg)]) ++ List.replicate (4 - (lg_sl ([.ref w0, .int (nI rn), .int (nI i), .int (nI gg)])).length) Slot.unset).toArray = ls at hl ⊢
  have hl : lv_has ls 4 [(0, .ref w0), (1, .int (nI rn)), (2, .int (nI i)), (3, .int (nI gg))] := hl
  refine lv_iload_n hx hb dX0_isTaken_0 rfl (lv_at hl 3 rfl) ?_
  refine lv_iconst (v := 1) hx hb dX0_isTaken_1 (by decide) ?_
  refine lv_iand hx hb dX0_isTaken_2 ?_
  refine lv_topi (fun x_1 ex_1 => ?_)
  refine lv_if_eq (tgt := 29) hx hb dX0_isTaken_3 (by decide) (fun c_2 => ?_) (fun c_2 => ?_)
  · rw [ex_1] at c_2
    refine lv_iconst (v := 0) hx hb dX0_isTaken_29 (by decide) ?_
    exact W.zret (v := 0) (ty := .boolean) hx hb hr rfl (fun t ht hW => ⟨⟨0, (), rfl, .inr ⟨rfl, fun h => ((ev_and gg hg).1).mp c_2 h.1⟩, trivial⟩, hS.F ht⟩) hS.2.2 dX0_isTaken_30
  · rw [ex_1] at c_2
    refine lv_aload_n hx hb dX0_isTaken_6 rfl (lv_at hl 0 rfl) ?_
    refine va_get (D := D) (ci := 0) (v := .ref h0) (C := RX0) (T := TX0) (N := 5) hx hb hts inX0 hown hK hP 5 rfl rfl 0 (by decide) (hts _ tw_266) (fun _ h9 => h9) rfl dX0_isTaken_7 ?_
    refine lv_iload_n hx hb dX0_isTaken_10 rfl (lv_at hl 1 rfl) ?_
    refine lv_iload_n hx hb dX0_isTaken_11 rfl (lv_at hl 2 rfl) ?_
    refine ro_i (D := D) (va_runV (As := [.int (nI rn), .int (nI i)]) (rest := []) ⟨hx, hb, hml, hown, hts⟩ ((y_takingOf l D k st lo h0 h1 h2 h3 h4 n see tm g fp fl rn i (by first | assumption | omega) (by first | assumption | omega)) s.heap.size) (cwV 2 hts (gV tw_556 tw_557 tw_558 tw_81 tw_559) rfl rfl rfl (by decide +kernel) ⟨Nat.le_of_ble_eq_true rfl, Nat.le_of_ble_eq_true rfl⟩) (pV hS hAlo hlo hP hK hDL hZ [0, 1, 3, 4] (by decide) rfl (ci := 5) (q := (RX5, TX5, 4)) (q0 := 0) rfl rfl) rfl rfl hl.1 rfl (lv_room (Nat.le_of_ble_eq_true rfl)) dX0_isTaken_12 ⟨Nat.le_of_ble_eq_true rfl, Nat.le_of_ble_eq_true rfl⟩) hS hA hP (fun r_3 H locs hw_3 hP hS => ?_)
    try dsimp only at hw_3
    refine lv_aload_n hx hb dX0_isTaken_15 rfl (lv_at hl 0 rfl) ?_
    refine lv_iload_n hx hb dX0_isTaken_16 rfl (lv_at hl 1 rfl) ?_
    refine lv_iload_n hx hb dX0_isTaken_17 rfl (lv_at hl 2 rfl) ?_
    refine lv_iload_n hx hb dX0_isTaken_18 rfl (lv_at hl 3 rfl) ?_
    refine ro_i (D := D) (va_runV (As := [.int (nI rn), .int (nI i), .int (nI gg)]) (rest := [.int r_3]) ⟨hx, hb, hml, hown, hts⟩ ((y_onwardOf l D k st lo h0 w0 w1 w2 w3 w4 on rn i gg (by first | assumption | omega) (by first | assumption | omega) (by first | assumption | omega)) H.size) (cwV 3 hts (gV tw_549 tw_550 tw_551 tw_85 tw_552) rfl rfl rfl (by decide +kernel) ⟨Nat.le_of_ble_eq_true rfl, Nat.le_of_ble_eq_true rfl⟩) (pV hS hAlo hlo hP hK hDL hZ [5, 6] (by decide) rfl (ci := 0) (q := (RX0, TX0, 5)) (q0 := 0) rfl rfl) rfl rfl hl.1 rfl (lv_room (Nat.le_of_ble_eq_true rfl)) dX0_isTaken_19 ⟨Nat.le_of_ble_eq_true rfl, Nat.le_of_ble_eq_true rfl⟩) hS hA hP (fun r_4 H locs hw_4 hP hS => ?_)
    try dsimp only at hw_4
    refine lv_icmp_gt (tgt := 29) hx hb dX0_isTaken_22 (by decide) (fun c_5 => ?_) (fun c_5 => ?_)
    · refine lv_iconst (v := 0) hx hb dX0_isTaken_29 (by decide) ?_
      exact W.zret (v := 0) (ty := .boolean) hx hb hr rfl (fun t ht hW => ⟨⟨0, (), rfl, .inr ⟨rfl, fun h => absurd c_5 (Int32.not_lt.mpr (by rw [hw_3, hw_4]; exact h.2))⟩, trivial⟩, hS.F ht⟩) hS.2.2 dX0_isTaken_30
    · refine lv_iconst (v := 1) hx hb dX0_isTaken_25 (by decide) ?_
      refine lv_goto (tgt := 30) hx hb dX0_isTaken_26 (by decide) ?_
      exact W.zret (v := 1) (ty := .boolean) hx hb hr rfl (fun t ht hW => ⟨⟨1, (), rfl, .inl ⟨rfl, Classical.not_not.mp (fun q => c_2 (((ev_and gg hg).1).mpr q)), (by rw [← hw_3, ← hw_4]; exact Int32.not_lt.mp c_5)⟩, trivial⟩, hS.F ht⟩) hS.2.2 dX0_isTaken_30


set_option maxHeartbeats 4000000 in
set_option maxRecDepth 100000 in
theorem y_takes (l : Launch) (D : va_G) (k : Nat → ClassId) (st : Nat → Nat) (lo : Nat) (a : Nat → Nat) (rk : Nat) (lfa : Int32) (n0 : Nat) (see0 : Nat) (tm0 : Nat) (g0 : Nat → Int32) (ff0 : Nat → Int32) (fp0 : Nat → Int32) (fl0 : Nat → Int32) (n1 : Nat) (see1 : Nat) (tm1 : Nat) (g1 : Nat → Int32) (ff1 : Nat → Int32) (fp1 : Nat → Int32) (fl1 : Nat → Int32) (n2 : Nat) (see2 : Nat) (tm2 : Nat) (g2 : Nat → Int32) (ff2 : Nat → Int32) (fp2 : Nat → Int32) (fl2 : Nat → Int32) (on0 : Nat → Int32) (sr0 : Nat → Int32) (en0 : Nat → Int32) (on1 : Nat → Int32) (sr1 : Nat → Int32) (en1 : Nat → Int32) (on2 : Nat → Int32) (sr2 : Nat → Int32) (en2 : Nat → Int32) (p0 : Int32) (p1 : Int32) (p2 : Int32) (p3 : Int32) (hn0 : n0 ≤ 24) (hse0 : see0 ≤ 2) (htm0 : tm0 ≤ 3) (hn1 : n1 ≤ 24) (hse1 : see1 ≤ 2) (htm1 : tm1 ≤ 3) (hn2 : n2 ≤ 24) (hse2 : see2 ≤ 2) (htm2 : tm2 ≤ 3) (hlt : ltP (d3 fl0 fl1 fl2) (d3 (sdX n0 see0 tm0 g0 ff0 fp0) (sdX n1 see1 tm1 g1 ff1 fp1) (sdX n2 see2 tm2 g2 ff2 fp2))) (hwy : wy3 (d3 (sdX n0 see0 tm0 g0 ff0 fp0) (sdX n1 see1 tm1 g1 ff1 fp1) (sdX n2 see2 tm2 g2 ff2 fp2)) (d3 on0 on1 on2) (d3 sr0 sr1 sr2) (d3 en0 en1 en2)) : CRi l D k st lo yX7_takes cX7_takes 6 (some .int) ({ frames := 4, cells := 0, slots := 0, locals := 106 }) [.ref (a 0), .int p0, .int p1, .int p2, .int p3] [((a 0), .inr (7, (fX7 (a 1) (a 3) (a 19) (a 35) (a 40) (nI rk) lfa (a 53) (a 56) (a 63) (a 64) (a 68)))), ((a 3), .inl (k 3, 3, .inr (.inr (.inr (.inr (a3 (a 4) (a 9) (a 14))))))), ((a 19), .inl (k 4, 3, .inr (.inr (.inr (.inr (a3 (a 20) (a 25) (a 30))))))), ((a 4), .inr (5, (fX5 (a 5) (a 6) (a 7) (a 8)))), (aI k (a 5) 10 (vv n0 see0 tm0 g0)), (aI k (a 6) 24 ff0), (aI k (a 7) 24 fp0), (aI k (a 8) 4 fl0), ((a 9), .inr (5, (fX5 (a 10) (a 11) (a 12) (a 13)))), (aI k (a 10) 10 (vv n1 see1 tm1 g1)), (aI k (a 11) 24 ff1), (aI k (a 12) 24 fp1), (aI k (a 13) 4 fl1), ((a 14), .inr (5, (fX5 (a 15) (a 16) (a 17) (a 18)))), (aI k (a 15) 10 (vv n2 see2 tm2 g2)), (aI k (a 16) 24 ff2), (aI k (a 17) 24 fp2), (aI k (a 18) 4 fl2), ((a 20), .inr (0, (fX0 (a 4) (a 21) (a 22) (a 23) (a 24)))), (aI k (a 21) 768 on0), (aI k (a 22) 4 sr0), (aI k (a 23) 4 en0), ((a 25), .inr (0, (fX0 (a 9) (a 26) (a 27) (a 28) (a 29)))), (aI k (a 26) 768 on1), (aI k (a 27) 4 sr1), (aI k (a 28) 4 en1), ((a 30), .inr (0, (fX0 (a 14) (a 31) (a 32) (a 33) (a 34)))), (aI k (a 31) 768 on2), (aI k (a 32) 4 sr2), (aI k (a 33) 4 en2)] (fun r => dqP (d3 (sdX n0 see0 tm0 g0 ff0 fp0) (sdX n1 see1 tm1 g1 ff1 fp1) (sdX n2 see2 tm2 g2 ff2 fp2)) p0 p2 (siA p1 p3 tsA) r) := by
  intro sz
  refine Met.ofW (cc := cX7_takes) (maxL := 6) (ret := (some .int)) (by decide) rfl ?_
  intro p e s m args below meth c s₁ B hml hv
  obtain ⟨rfl, hsz, hlo, hP, hK, hDL, hZ⟩ := hv
  have hx := B.exec
  have hb := B.bytes
  have hr := B.returns
  have hts := WS_ts B.pre
  have hown : s.vm.findClass RX7 = some m.cls := findClass_of_methodNamed B.named
  have hlocks := B.notSynchronized
  subst hsz
  have hA : ∀ q : Nat, s.heap.size ≤ q → (fun q : Nat => s.heap.size ≤ q) q := fun _ h => h
  have hAlo : ∀ q : Nat, (fun q : Nat => s.heap.size ≤ q) q → lo ≤ q := fun q h => Nat.le_trans hlo h
  have hS : va_S (fun q : Nat => s.heap.size ≤ q) s.heap s.heap [] := va_S.rf
  have hl := lv_entry ([.ref (a 0), .int p0, .int p1, .int p2, .int p3]) (n := 6) (Nat.le_of_ble_eq_true rfl)
  rw [lg_entry_eq]
  generalize (lg_sl ([.ref (a 0), .int p0, .int p1, .int p2, .int p3]) ++ List.replicate (6 - (lg_sl ([.ref (a 0), .int p0, .int p1, .int p2, .int p3])).length) Slot.unset).toArray = ls at hl ⊢
  have hl : lv_has ls 6 [(0, .ref (a 0)), (1, .int p0), (2, .int p1), (3, .int p2), (4, .int p3)] := hl
  refine lv_aload_n hx hb dX7_takes_0 rfl (lv_at hl 0 rfl) ?_
  refine lv_iload_n hx hb dX7_takes_1 rfl (lv_at hl 1 rfl) ?_
  refine lv_iload_n hx hb dX7_takes_2 rfl (lv_at hl 2 rfl) ?_
  refine lv_iload_n hx hb dX7_takes_3 rfl (lv_at hl 3 rfl) ?_
  refine lv_iload hx hb dX7_takes_4 (lv_at hl 4 rfl) ?_
  refine ro_i (D := D) (va_runV (As := [.int p0, .int p1, .int p2, .int p3]) (rest := []) ⟨hx, hb, hml, hown, hts⟩ ((y_refuseSight l D k st lo a rk lfa n0 see0 tm0 g0 n1 see1 tm1 g1 n2 see2 tm2 g2 p0 p1 p2 p3 (by first | assumption | omega) (by first | assumption | omega) (by first | assumption | omega) (by first | assumption | omega) (by first | assumption | omega) (by first | assumption | omega) (by first | assumption | omega) (by first | assumption | omega) (by first | assumption | omega)) s.heap.size) (cwV 4 hts (gV tw_622 tw_624 tw_11 tw_79 tw_625) rfl rfl rfl (by decide +kernel) ⟨Nat.le_of_ble_eq_true rfl, Nat.le_of_ble_eq_true rfl⟩) (pV hS hAlo hlo hP hK hDL hZ [0, 1, 3, 4, 8, 9, 13, 14] (by decide) rfl (ci := 7) (q := (RX7, TX7, 12)) (q0 := 0) rfl rfl) rfl rfl hl.1 rfl (lv_room (Nat.le_of_ble_eq_true rfl)) dX7_takes_6 ⟨Nat.le_of_ble_eq_true rfl, Nat.le_of_ble_eq_true rfl⟩) hS hA hP (fun r_1 H locs hw_1 hP hS => ?_)
  try dsimp only at hw_1
  rcases hw_1 with ⟨rfl, ⟨rfl, ir_2, id_2, ig_2, hir_2, hid_2, hig_2, rfl, rfl, rfl⟩ | ⟨rfl, ir_2, id_2, ig_2, hir_2, hid_2, hig_2, rfl, rfl, rfl⟩ | ⟨rfl, ir_2, id_2, ig_2, hir_2, hid_2, hig_2, rfl, rfl, rfl⟩⟩ | ⟨rfl, hw_1⟩ | ⟨rfl, ⟨rfl, id_2, hid_2, rfl, hw_1⟩ | ⟨rfl, id_2, hid_2, rfl, hw_1⟩ | ⟨rfl, id_2, hid_2, rfl, hw_1⟩⟩
  · refine lv_istore (lv' := [(5, .int 0), (0, .ref (a 0)), (1, .int 0), (2, .int (nI ir_2)), (3, .int (nI id_2)), (4, .int (nI ig_2))]) hx hb dX7_takes_9 hl (by decide) rfl (fun ls hl => ?_)
    refine lv_iload hx hb dX7_takes_11 (lv_at hl 0 rfl) ?_
    refine lv_if_eq (tgt := 19) hx hb dX7_takes_13 (by decide) (fun _ => ?_) (fun h => absurd (by decide) h)
    have hg8_2 : ig_2 < 8 := by have h8 := (p8 (sq_le (see := see0) (n := n0) (i := id_2) (by omega))).2; omega
    refine lv_iload hx hb dX7_takes_19 (lv_at hl 5 rfl) ?_
    refine lv_iconst (v := 1) hx hb dX7_takes_21 (by decide) ?_
    refine lv_iand hx hb dX7_takes_22 ?_
    refine lv_topi (fun x_3 ex_3 => ?_)
    refine lv_if_ne (tgt := 30) hx hb dX7_takes_23 (by decide) (fun c_4 => ?_) (fun c_4 => ?_)
    · rw [ex_3] at c_4
      refine lv_aload_n hx hb dX7_takes_30 rfl (lv_at hl 1 rfl) ?_
      refine va_get (D := D) (ci := 7) (v := .ref (a 19)) (C := RX7) (T := TX7) (N := 12) hx hb hts inX7 hown hK hP 0 rfl rfl 2 (by decide) (hts _ tw_307) (fun _ h9 => h9) rfl dX7_takes_31 ?_
      refine lv_iload_n hx hb dX7_takes_34 rfl (lv_at hl 2 rfl) ?_
      refine va_aldq hx hb hK hP 2 4 rfl rfl (by unfold vp_in; decide) dX7_takes_35 ?_
      refine lv_tr (y := .ref (a 20)) rfl ?_
      refine lv_iload_n hx hb dX7_takes_36 rfl (lv_at hl 3 rfl) ?_
      refine lv_iload_n hx hb dX7_takes_37 rfl (lv_at hl 4 rfl) ?_
      refine lv_iload hx hb dX7_takes_38 (lv_at hl 5 rfl) ?_
      refine ro_i (D := D) (va_runV (As := [.int (nI ir_2), .int (nI id_2), .int (nI ig_2)]) (rest := []) ⟨hx, hb, hml, hown, hts⟩ ((y_isTaken l D k st lo (a 4) (a 5) (a 6) (a 7) (a 8) n0 see0 tm0 g0 ff0 fp0 fl0 (a 20) (a 21) (a 22) (a 23) (a 24) on0 ir_2 id_2 ig_2 (by first | assumption | omega) (by first | assumption | omega) (by first | assumption | omega) (by first | assumption | omega)) H.size) (cwV 3 hts (gV tw_637 tw_638 tw_639 tw_85 tw_640) rfl rfl rfl (by decide +kernel) ⟨Nat.le_of_ble_eq_true rfl, Nat.le_of_ble_eq_true rfl⟩) (pV hS hAlo hlo hP hK hDL hZ [3, 4, 5, 6, 7, 18, 19] (by decide) rfl (ci := 0) (q := (RX0, TX0, 5)) (q0 := 5) rfl rfl) rfl rfl hl.1 rfl (lv_room (Nat.le_of_ble_eq_true rfl)) dX7_takes_40 ⟨Nat.le_of_ble_eq_true rfl, Nat.le_of_ble_eq_true rfl⟩) hS hA hP (fun r_5 H locs hw_5 hP hS => ?_)
      try dsimp only at hw_5
      rcases hw_5 with ⟨rfl, hw_5⟩ | ⟨rfl, hw_5⟩
      · refine lv_if_eq (tgt := 50) hx hb dX7_takes_43 (by decide) (fun h => absurd h (by decide)) (fun _ => ?_)
        refine lv_iconst (v := 1) hx hb dX7_takes_46 (by decide) ?_
        refine lv_goto (tgt := 51) hx hb dX7_takes_47 (by decide) ?_
        exact W.iret (v := 1) hx hb hr (fun t ht hW => ⟨⟨1, (), rfl, dq_at (s := 0) (by omega) (show n0 ≤ 24 by omega) (show id_2 < n0 by omega) (show siA (nI ir_2) (nI ig_2) tsA (sdX n0 see0 tm0 g0 ff0 fp0) id_2 _ from si_at (by rw [tmX (by omega)]; omega) (by rw [seX (by omega)]; omega) (by rw [tmX (by omega)]; omega) (by rw [seX (by omega)]; exact hig_2) ⟨fun h => absurd (Classical.not_not.mp (fun z => c_4 (((ev_and ig_2 hg8_2).1).mpr z))) h, fun _ => (by rw [if_pos (show pTake (sdX n0 see0 tm0 g0 ff0 fp0) ir_2 id_2 ≤ wayO (sdX n0 see0 tm0 g0 ff0 fp0) ir_2 id_2 ig_2 by rw [← (xTake (show id_2 < n0 by omega) (hlt 0 (by omega) ir_2 (by omega))), ← (wo_of (d := (sdX n0 see0 tm0 g0 ff0 fp0)) (hwy 0 (by omega) (show 0 < n0 by omega)) (by rw [tmX (by omega)]; omega) (show id_2 < n0 by omega) (by rw [seX (by omega)]; exact hig_2))]; exact hw_5.2)])⟩), trivial⟩, hS.F ht⟩) hS.2.2 dX7_takes_51
      · refine lv_if_eq (tgt := 50) hx hb dX7_takes_43 (by decide) (fun _ => ?_) (fun h => absurd (by decide) h)
        refine lv_iconst (v := 0) hx hb dX7_takes_50 (by decide) ?_
        exact W.iret (v := 0) hx hb hr (fun t ht hW => ⟨⟨0, (), rfl, dq_at (s := 0) (by omega) (show n0 ≤ 24 by omega) (show id_2 < n0 by omega) (show siA (nI ir_2) (nI ig_2) tsA (sdX n0 see0 tm0 g0 ff0 fp0) id_2 _ from si_at (by rw [tmX (by omega)]; omega) (by rw [seX (by omega)]; omega) (by rw [tmX (by omega)]; omega) (by rw [seX (by omega)]; exact hig_2) ⟨fun h => absurd (Classical.not_not.mp (fun z => c_4 (((ev_and ig_2 hg8_2).1).mpr z))) h, fun _ => (by rw [if_neg (show ¬ pTake (sdX n0 see0 tm0 g0 ff0 fp0) ir_2 id_2 ≤ wayO (sdX n0 see0 tm0 g0 ff0 fp0) ir_2 id_2 ig_2 by rw [← (xTake (show id_2 < n0 by omega) (hlt 0 (by omega) ir_2 (by omega))), ← (wo_of (d := (sdX n0 see0 tm0 g0 ff0 fp0)) (hwy 0 (by omega) (show 0 < n0 by omega)) (by rw [tmX (by omega)]; omega) (show id_2 < n0 by omega) (by rw [seX (by omega)]; exact hig_2))]; exact fun q => hw_5 ⟨Classical.not_not.mp (fun z => c_4 (((ev_and ig_2 hg8_2).1).mpr z)), q⟩)])⟩), trivial⟩, hS.F ht⟩) hS.2.2 dX7_takes_51
    · rw [ex_3] at c_4
      refine lv_sipush (v := (-1003)) hx hb dX7_takes_26 (by decide) ?_
      exact W.iret (v := (-1003)) hx hb hr (fun t ht hW => ⟨⟨(-1003), (), rfl, dq_at (s := 0) (by omega) (show n0 ≤ 24 by omega) (show id_2 < n0 by omega) (show siA (nI ir_2) (nI ig_2) tsA (sdX n0 see0 tm0 g0 ff0 fp0) id_2 _ from si_at (by rw [tmX (by omega)]; omega) (by rw [seX (by omega)]; omega) (by rw [tmX (by omega)]; omega) (by rw [seX (by omega)]; exact hig_2) ⟨fun _ => rfl, fun h => absurd h (((ev_and ig_2 hg8_2).1).mp c_4)⟩), trivial⟩, hS.F ht⟩) hS.2.2 dX7_takes_29
  · refine lv_istore (lv' := [(5, .int 0), (0, .ref (a 0)), (1, .int 1), (2, .int (nI ir_2)), (3, .int (nI id_2)), (4, .int (nI ig_2))]) hx hb dX7_takes_9 hl (by decide) rfl (fun ls hl => ?_)
    refine lv_iload hx hb dX7_takes_11 (lv_at hl 0 rfl) ?_
    refine lv_if_eq (tgt := 19) hx hb dX7_takes_13 (by decide) (fun _ => ?_) (fun h => absurd (by decide) h)
    have hg8_2 : ig_2 < 8 := by have h8 := (p8 (sq_le (see := see1) (n := n1) (i := id_2) (by omega))).2; omega
    refine lv_iload hx hb dX7_takes_19 (lv_at hl 5 rfl) ?_
    refine lv_iconst (v := 1) hx hb dX7_takes_21 (by decide) ?_
    refine lv_iand hx hb dX7_takes_22 ?_
    refine lv_topi (fun x_6 ex_6 => ?_)
    refine lv_if_ne (tgt := 30) hx hb dX7_takes_23 (by decide) (fun c_7 => ?_) (fun c_7 => ?_)
    · rw [ex_6] at c_7
      refine lv_aload_n hx hb dX7_takes_30 rfl (lv_at hl 1 rfl) ?_
      refine va_get (D := D) (ci := 7) (v := .ref (a 19)) (C := RX7) (T := TX7) (N := 12) hx hb hts inX7 hown hK hP 0 rfl rfl 2 (by decide) (hts _ tw_307) (fun _ h9 => h9) rfl dX7_takes_31 ?_
      refine lv_iload_n hx hb dX7_takes_34 rfl (lv_at hl 2 rfl) ?_
      refine va_aldq hx hb hK hP 2 4 rfl rfl (by unfold vp_in; decide) dX7_takes_35 ?_
      refine lv_tr (y := .ref (a 25)) rfl ?_
      refine lv_iload_n hx hb dX7_takes_36 rfl (lv_at hl 3 rfl) ?_
      refine lv_iload_n hx hb dX7_takes_37 rfl (lv_at hl 4 rfl) ?_
      refine lv_iload hx hb dX7_takes_38 (lv_at hl 5 rfl) ?_
      refine ro_i (D := D) (va_runV (As := [.int (nI ir_2), .int (nI id_2), .int (nI ig_2)]) (rest := []) ⟨hx, hb, hml, hown, hts⟩ ((y_isTaken l D k st lo (a 9) (a 10) (a 11) (a 12) (a 13) n1 see1 tm1 g1 ff1 fp1 fl1 (a 25) (a 26) (a 27) (a 28) (a 29) on1 ir_2 id_2 ig_2 (by first | assumption | omega) (by first | assumption | omega) (by first | assumption | omega) (by first | assumption | omega)) H.size) (cwV 3 hts (gV tw_637 tw_638 tw_639 tw_85 tw_640) rfl rfl rfl (by decide +kernel) ⟨Nat.le_of_ble_eq_true rfl, Nat.le_of_ble_eq_true rfl⟩) (pV hS hAlo hlo hP hK hDL hZ [8, 9, 10, 11, 12, 22, 23] (by decide) rfl (ci := 0) (q := (RX0, TX0, 5)) (q0 := 5) rfl rfl) rfl rfl hl.1 rfl (lv_room (Nat.le_of_ble_eq_true rfl)) dX7_takes_40 ⟨Nat.le_of_ble_eq_true rfl, Nat.le_of_ble_eq_true rfl⟩) hS hA hP (fun r_8 H locs hw_8 hP hS => ?_)
      try dsimp only at hw_8
      rcases hw_8 with ⟨rfl, hw_8⟩ | ⟨rfl, hw_8⟩
      · refine lv_if_eq (tgt := 50) hx hb dX7_takes_43 (by decide) (fun h => absurd h (by decide)) (fun _ => ?_)
        refine lv_iconst (v := 1) hx hb dX7_takes_46 (by decide) ?_
        refine lv_goto (tgt := 51) hx hb dX7_takes_47 (by decide) ?_
        exact W.iret (v := 1) hx hb hr (fun t ht hW => ⟨⟨1, (), rfl, dq_at (s := 1) (by omega) (show n1 ≤ 24 by omega) (show id_2 < n1 by omega) (show siA (nI ir_2) (nI ig_2) tsA (sdX n1 see1 tm1 g1 ff1 fp1) id_2 _ from si_at (by rw [tmX (by omega)]; omega) (by rw [seX (by omega)]; omega) (by rw [tmX (by omega)]; omega) (by rw [seX (by omega)]; exact hig_2) ⟨fun h => absurd (Classical.not_not.mp (fun z => c_7 (((ev_and ig_2 hg8_2).1).mpr z))) h, fun _ => (by rw [if_pos (show pTake (sdX n1 see1 tm1 g1 ff1 fp1) ir_2 id_2 ≤ wayO (sdX n1 see1 tm1 g1 ff1 fp1) ir_2 id_2 ig_2 by rw [← (xTake (show id_2 < n1 by omega) (hlt 1 (by omega) ir_2 (by omega))), ← (wo_of (d := (sdX n1 see1 tm1 g1 ff1 fp1)) (hwy 1 (by omega) (show 0 < n1 by omega)) (by rw [tmX (by omega)]; omega) (show id_2 < n1 by omega) (by rw [seX (by omega)]; exact hig_2))]; exact hw_8.2)])⟩), trivial⟩, hS.F ht⟩) hS.2.2 dX7_takes_51
      · refine lv_if_eq (tgt := 50) hx hb dX7_takes_43 (by decide) (fun _ => ?_) (fun h => absurd (by decide) h)
        refine lv_iconst (v := 0) hx hb dX7_takes_50 (by decide) ?_
        exact W.iret (v := 0) hx hb hr (fun t ht hW => ⟨⟨0, (), rfl, dq_at (s := 1) (by omega) (show n1 ≤ 24 by omega) (show id_2 < n1 by omega) (show siA (nI ir_2) (nI ig_2) tsA (sdX n1 see1 tm1 g1 ff1 fp1) id_2 _ from si_at (by rw [tmX (by omega)]; omega) (by rw [seX (by omega)]; omega) (by rw [tmX (by omega)]; omega) (by rw [seX (by omega)]; exact hig_2) ⟨fun h => absurd (Classical.not_not.mp (fun z => c_7 (((ev_and ig_2 hg8_2).1).mpr z))) h, fun _ => (by rw [if_neg (show ¬ pTake (sdX n1 see1 tm1 g1 ff1 fp1) ir_2 id_2 ≤ wayO (sdX n1 see1 tm1 g1 ff1 fp1) ir_2 id_2 ig_2 by rw [← (xTake (show id_2 < n1 by omega) (hlt 1 (by omega) ir_2 (by omega))), ← (wo_of (d := (sdX n1 see1 tm1 g1 ff1 fp1)) (hwy 1 (by omega) (show 0 < n1 by omega)) (by rw [tmX (by omega)]; omega) (show id_2 < n1 by omega) (by rw [seX (by omega)]; exact hig_2))]; exact fun q => hw_8 ⟨Classical.not_not.mp (fun z => c_7 (((ev_and ig_2 hg8_2).1).mpr z)), q⟩)])⟩), trivial⟩, hS.F ht⟩) hS.2.2 dX7_takes_51
    · rw [ex_6] at c_7
      refine lv_sipush (v := (-1003)) hx hb dX7_takes_26 (by decide) ?_
      exact W.iret (v := (-1003)) hx hb hr (fun t ht hW => ⟨⟨(-1003), (), rfl, dq_at (s := 1) (by omega) (show n1 ≤ 24 by omega) (show id_2 < n1 by omega) (show siA (nI ir_2) (nI ig_2) tsA (sdX n1 see1 tm1 g1 ff1 fp1) id_2 _ from si_at (by rw [tmX (by omega)]; omega) (by rw [seX (by omega)]; omega) (by rw [tmX (by omega)]; omega) (by rw [seX (by omega)]; exact hig_2) ⟨fun _ => rfl, fun h => absurd h (((ev_and ig_2 hg8_2).1).mp c_7)⟩), trivial⟩, hS.F ht⟩) hS.2.2 dX7_takes_29
  · refine lv_istore (lv' := [(5, .int 0), (0, .ref (a 0)), (1, .int 2), (2, .int (nI ir_2)), (3, .int (nI id_2)), (4, .int (nI ig_2))]) hx hb dX7_takes_9 hl (by decide) rfl (fun ls hl => ?_)
    refine lv_iload hx hb dX7_takes_11 (lv_at hl 0 rfl) ?_
    refine lv_if_eq (tgt := 19) hx hb dX7_takes_13 (by decide) (fun _ => ?_) (fun h => absurd (by decide) h)
    have hg8_2 : ig_2 < 8 := by have h8 := (p8 (sq_le (see := see2) (n := n2) (i := id_2) (by omega))).2; omega
    refine lv_iload hx hb dX7_takes_19 (lv_at hl 5 rfl) ?_
    refine lv_iconst (v := 1) hx hb dX7_takes_21 (by decide) ?_
    refine lv_iand hx hb dX7_takes_22 ?_
    refine lv_topi (fun x_9 ex_9 => ?_)
    refine lv_if_ne (tgt := 30) hx hb dX7_takes_23 (by decide) (fun c_10 => ?_) (fun c_10 => ?_)
    · rw [ex_9] at c_10
      refine lv_aload_n hx hb dX7_takes_30 rfl (lv_at hl 1 rfl) ?_
      refine va_get (D := D) (ci := 7) (v := .ref (a 19)) (C := RX7) (T := TX7) (N := 12) hx hb hts inX7 hown hK hP 0 rfl rfl 2 (by decide) (hts _ tw_307) (fun _ h9 => h9) rfl dX7_takes_31 ?_
      refine lv_iload_n hx hb dX7_takes_34 rfl (lv_at hl 2 rfl) ?_
      refine va_aldq hx hb hK hP 2 4 rfl rfl (by unfold vp_in; decide) dX7_takes_35 ?_
      refine lv_tr (y := .ref (a 30)) rfl ?_
      refine lv_iload_n hx hb dX7_takes_36 rfl (lv_at hl 3 rfl) ?_
      refine lv_iload_n hx hb dX7_takes_37 rfl (lv_at hl 4 rfl) ?_
      refine lv_iload hx hb dX7_takes_38 (lv_at hl 5 rfl) ?_
      refine ro_i (D := D) (va_runV (As := [.int (nI ir_2), .int (nI id_2), .int (nI ig_2)]) (rest := []) ⟨hx, hb, hml, hown, hts⟩ ((y_isTaken l D k st lo (a 14) (a 15) (a 16) (a 17) (a 18) n2 see2 tm2 g2 ff2 fp2 fl2 (a 30) (a 31) (a 32) (a 33) (a 34) on2 ir_2 id_2 ig_2 (by first | assumption | omega) (by first | assumption | omega) (by first | assumption | omega) (by first | assumption | omega)) H.size) (cwV 3 hts (gV tw_637 tw_638 tw_639 tw_85 tw_640) rfl rfl rfl (by decide +kernel) ⟨Nat.le_of_ble_eq_true rfl, Nat.le_of_ble_eq_true rfl⟩) (pV hS hAlo hlo hP hK hDL hZ [13, 14, 15, 16, 17, 26, 27] (by decide) rfl (ci := 0) (q := (RX0, TX0, 5)) (q0 := 5) rfl rfl) rfl rfl hl.1 rfl (lv_room (Nat.le_of_ble_eq_true rfl)) dX7_takes_40 ⟨Nat.le_of_ble_eq_true rfl, Nat.le_of_ble_eq_true rfl⟩) hS hA hP (fun r_11 H locs hw_11 hP hS => ?_)
      try dsimp only at hw_11
      rcases hw_11 with ⟨rfl, hw_11⟩ | ⟨rfl, hw_11⟩
      · refine lv_if_eq (tgt := 50) hx hb dX7_takes_43 (by decide) (fun h => absurd h (by decide)) (fun _ => ?_)
        refine lv_iconst (v := 1) hx hb dX7_takes_46 (by decide) ?_
        refine lv_goto (tgt := 51) hx hb dX7_takes_47 (by decide) ?_
        exact W.iret (v := 1) hx hb hr (fun t ht hW => ⟨⟨1, (), rfl, dq_at (s := 2) (by omega) (show n2 ≤ 24 by omega) (show id_2 < n2 by omega) (show siA (nI ir_2) (nI ig_2) tsA (sdX n2 see2 tm2 g2 ff2 fp2) id_2 _ from si_at (by rw [tmX (by omega)]; omega) (by rw [seX (by omega)]; omega) (by rw [tmX (by omega)]; omega) (by rw [seX (by omega)]; exact hig_2) ⟨fun h => absurd (Classical.not_not.mp (fun z => c_10 (((ev_and ig_2 hg8_2).1).mpr z))) h, fun _ => (by rw [if_pos (show pTake (sdX n2 see2 tm2 g2 ff2 fp2) ir_2 id_2 ≤ wayO (sdX n2 see2 tm2 g2 ff2 fp2) ir_2 id_2 ig_2 by rw [← (xTake (show id_2 < n2 by omega) (hlt 2 (by omega) ir_2 (by omega))), ← (wo_of (d := (sdX n2 see2 tm2 g2 ff2 fp2)) (hwy 2 (by omega) (show 0 < n2 by omega)) (by rw [tmX (by omega)]; omega) (show id_2 < n2 by omega) (by rw [seX (by omega)]; exact hig_2))]; exact hw_11.2)])⟩), trivial⟩, hS.F ht⟩) hS.2.2 dX7_takes_51
      · refine lv_if_eq (tgt := 50) hx hb dX7_takes_43 (by decide) (fun _ => ?_) (fun h => absurd (by decide) h)
        refine lv_iconst (v := 0) hx hb dX7_takes_50 (by decide) ?_
        exact W.iret (v := 0) hx hb hr (fun t ht hW => ⟨⟨0, (), rfl, dq_at (s := 2) (by omega) (show n2 ≤ 24 by omega) (show id_2 < n2 by omega) (show siA (nI ir_2) (nI ig_2) tsA (sdX n2 see2 tm2 g2 ff2 fp2) id_2 _ from si_at (by rw [tmX (by omega)]; omega) (by rw [seX (by omega)]; omega) (by rw [tmX (by omega)]; omega) (by rw [seX (by omega)]; exact hig_2) ⟨fun h => absurd (Classical.not_not.mp (fun z => c_10 (((ev_and ig_2 hg8_2).1).mpr z))) h, fun _ => (by rw [if_neg (show ¬ pTake (sdX n2 see2 tm2 g2 ff2 fp2) ir_2 id_2 ≤ wayO (sdX n2 see2 tm2 g2 ff2 fp2) ir_2 id_2 ig_2 by rw [← (xTake (show id_2 < n2 by omega) (hlt 2 (by omega) ir_2 (by omega))), ← (wo_of (d := (sdX n2 see2 tm2 g2 ff2 fp2)) (hwy 2 (by omega) (show 0 < n2 by omega)) (by rw [tmX (by omega)]; omega) (show id_2 < n2 by omega) (by rw [seX (by omega)]; exact hig_2))]; exact fun q => hw_11 ⟨Classical.not_not.mp (fun z => c_10 (((ev_and ig_2 hg8_2).1).mpr z)), q⟩)])⟩), trivial⟩, hS.F ht⟩) hS.2.2 dX7_takes_51
    · rw [ex_9] at c_10
      refine lv_sipush (v := (-1003)) hx hb dX7_takes_26 (by decide) ?_
      exact W.iret (v := (-1003)) hx hb hr (fun t ht hW => ⟨⟨(-1003), (), rfl, dq_at (s := 2) (by omega) (show n2 ≤ 24 by omega) (show id_2 < n2 by omega) (show siA (nI ir_2) (nI ig_2) tsA (sdX n2 see2 tm2 g2 ff2 fp2) id_2 _ from si_at (by rw [tmX (by omega)]; omega) (by rw [seX (by omega)]; omega) (by rw [tmX (by omega)]; omega) (by rw [seX (by omega)]; exact hig_2) ⟨fun _ => rfl, fun h => absurd h (((ev_and ig_2 hg8_2).1).mp c_10)⟩), trivial⟩, hS.F ht⟩) hS.2.2 dX7_takes_29
  · refine lv_istore (lv' := [(5, .int (-1001)), (0, .ref (a 0)), (1, .int p0), (2, .int p1), (3, .int p2), (4, .int p3)]) hx hb dX7_takes_9 hl (by decide) rfl (fun ls hl => ?_)
    refine lv_iload hx hb dX7_takes_11 (lv_at hl 0 rfl) ?_
    refine lv_if_eq (tgt := 19) hx hb dX7_takes_13 (by decide) (fun h => absurd h (by decide)) (fun _ => ?_)
    refine lv_iload hx hb dX7_takes_16 (lv_at hl 0 rfl) ?_
    exact W.iret (v := (-1001)) hx hb hr (fun t ht hW => ⟨⟨(-1001), (), rfl, dq_no (fun s h1 h2 i h3 h4 => hw_1 s h1 h2 i h3 (by rw [d3_n] at h4; exact h4)), trivial⟩, hS.F ht⟩) hS.2.2 dX7_takes_18
  · refine lv_istore (lv' := [(5, .int (-1002)), (0, .ref (a 0)), (1, .int 0), (2, .int p1), (3, .int (nI id_2)), (4, .int p3)]) hx hb dX7_takes_9 hl (by decide) rfl (fun ls hl => ?_)
    refine lv_iload hx hb dX7_takes_11 (lv_at hl 0 rfl) ?_
    refine lv_if_eq (tgt := 19) hx hb dX7_takes_13 (by decide) (fun h => absurd h (by decide)) (fun _ => ?_)
    refine lv_iload hx hb dX7_takes_16 (lv_at hl 0 rfl) ?_
    exact W.iret (v := (-1002)) hx hb hr (fun t ht hW => ⟨⟨(-1002), (), rfl, dq_at (s := 0) (by omega) (show n0 ≤ 24 by omega) (show id_2 < n0 by omega) (show siA p1 p3 tsA (sdX n0 see0 tm0 g0 ff0 fp0) id_2 _ from si_no (fun rn g c => hw_1 rn g (by have h9 := c.2.1; rw [tmX (by omega)] at h9; exact h9) c.1 c.2.2.1 (by have h9 := c.2.2.2; rw [seX (by omega)] at h9; exact h9))), trivial⟩, hS.F ht⟩) hS.2.2 dX7_takes_18
  · refine lv_istore (lv' := [(5, .int (-1002)), (0, .ref (a 0)), (1, .int 1), (2, .int p1), (3, .int (nI id_2)), (4, .int p3)]) hx hb dX7_takes_9 hl (by decide) rfl (fun ls hl => ?_)
    refine lv_iload hx hb dX7_takes_11 (lv_at hl 0 rfl) ?_
    refine lv_if_eq (tgt := 19) hx hb dX7_takes_13 (by decide) (fun h => absurd h (by decide)) (fun _ => ?_)
    refine lv_iload hx hb dX7_takes_16 (lv_at hl 0 rfl) ?_
    exact W.iret (v := (-1002)) hx hb hr (fun t ht hW => ⟨⟨(-1002), (), rfl, dq_at (s := 1) (by omega) (show n1 ≤ 24 by omega) (show id_2 < n1 by omega) (show siA p1 p3 tsA (sdX n1 see1 tm1 g1 ff1 fp1) id_2 _ from si_no (fun rn g c => hw_1 rn g (by have h9 := c.2.1; rw [tmX (by omega)] at h9; exact h9) c.1 c.2.2.1 (by have h9 := c.2.2.2; rw [seX (by omega)] at h9; exact h9))), trivial⟩, hS.F ht⟩) hS.2.2 dX7_takes_18
  · refine lv_istore (lv' := [(5, .int (-1002)), (0, .ref (a 0)), (1, .int 2), (2, .int p1), (3, .int (nI id_2)), (4, .int p3)]) hx hb dX7_takes_9 hl (by decide) rfl (fun ls hl => ?_)
    refine lv_iload hx hb dX7_takes_11 (lv_at hl 0 rfl) ?_
    refine lv_if_eq (tgt := 19) hx hb dX7_takes_13 (by decide) (fun h => absurd h (by decide)) (fun _ => ?_)
    refine lv_iload hx hb dX7_takes_16 (lv_at hl 0 rfl) ?_
    exact W.iret (v := (-1002)) hx hb hr (fun t ht hW => ⟨⟨(-1002), (), rfl, dq_at (s := 2) (by omega) (show n2 ≤ 24 by omega) (show id_2 < n2 by omega) (show siA p1 p3 tsA (sdX n2 see2 tm2 g2 ff2 fp2) id_2 _ from si_no (fun rn g c => hw_1 rn g (by have h9 := c.2.1; rw [tmX (by omega)] at h9; exact h9) c.1 c.2.2.1 (by have h9 := c.2.2.2; rw [seX (by omega)] at h9; exact h9))), trivial⟩, hS.F ht⟩) hS.2.2 dX7_takes_18


set_option maxHeartbeats 4000000 in
set_option maxRecDepth 100000 in
theorem y_start (l : Launch) (D : va_G) (k : Nat → ClassId) (st : Nat → Nat) (lo : Nat) (a : Nat → Nat) (rk : Nat) (lfa : Int32) (n0 : Nat) (see0 : Nat) (tm0 : Nat) (g0 : Nat → Int32) (ff0 : Nat → Int32) (fp0 : Nat → Int32) (fl0 : Nat → Int32) (n1 : Nat) (see1 : Nat) (tm1 : Nat) (g1 : Nat → Int32) (ff1 : Nat → Int32) (fp1 : Nat → Int32) (fl1 : Nat → Int32) (n2 : Nat) (see2 : Nat) (tm2 : Nat) (g2 : Nat → Int32) (ff2 : Nat → Int32) (fp2 : Nat → Int32) (fl2 : Nat → Int32) (on0 : Nat → Int32) (sr0 : Nat → Int32) (en0 : Nat → Int32) (on1 : Nat → Int32) (sr1 : Nat → Int32) (en1 : Nat → Int32) (on2 : Nat → Int32) (sr2 : Nat → Int32) (en2 : Nat → Int32) (p0 : Int32) (p1 : Int32) (hn0 : n0 ≤ 24) (hse0 : see0 ≤ 2) (htm0 : tm0 ≤ 3) (hn1 : n1 ≤ 24) (hse1 : see1 ≤ 2) (htm1 : tm1 ≤ 3) (hn2 : n2 ≤ 24) (hse2 : see2 ≤ 2) (htm2 : tm2 ≤ 3) (hwy : wy3 (d3 (sdX n0 see0 tm0 g0 ff0 fp0) (sdX n1 see1 tm1 g1 ff1 fp1) (sdX n2 see2 tm2 g2 ff2 fp2)) (d3 on0 on1 on2) (d3 sr0 sr1 sr2) (d3 en0 en1 en2)) : CRi l D k st lo yX7_start cX7_start 3 (some .int) ({ frames := 2, cells := 0, slots := 0, locals := 44 }) [.ref (a 0), .int p0, .int p1] [((a 0), .inr (7, (fX7 (a 1) (a 3) (a 19) (a 35) (a 40) (nI rk) lfa (a 53) (a 56) (a 63) (a 64) (a 68)))), ((a 3), .inl (k 3, 3, .inr (.inr (.inr (.inr (a3 (a 4) (a 9) (a 14))))))), ((a 19), .inl (k 4, 3, .inr (.inr (.inr (.inr (a3 (a 20) (a 25) (a 30))))))), ((a 4), .inr (5, (fX5 (a 5) (a 6) (a 7) (a 8)))), (aI k (a 5) 10 (vv n0 see0 tm0 g0)), (aI k (a 6) 24 ff0), (aI k (a 7) 24 fp0), (aI k (a 8) 4 fl0), ((a 9), .inr (5, (fX5 (a 10) (a 11) (a 12) (a 13)))), (aI k (a 10) 10 (vv n1 see1 tm1 g1)), (aI k (a 11) 24 ff1), (aI k (a 12) 24 fp1), (aI k (a 13) 4 fl1), ((a 14), .inr (5, (fX5 (a 15) (a 16) (a 17) (a 18)))), (aI k (a 15) 10 (vv n2 see2 tm2 g2)), (aI k (a 16) 24 ff2), (aI k (a 17) 24 fp2), (aI k (a 18) 4 fl2), ((a 20), .inr (0, (fX0 (a 4) (a 21) (a 22) (a 23) (a 24)))), (aI k (a 21) 768 on0), (aI k (a 22) 4 sr0), (aI k (a 23) 4 en0), ((a 25), .inr (0, (fX0 (a 9) (a 26) (a 27) (a 28) (a 29)))), (aI k (a 26) 768 on1), (aI k (a 27) 4 sr1), (aI k (a 28) 4 en1), ((a 30), .inr (0, (fX0 (a 14) (a 31) (a 32) (a 33) (a 34)))), (aI k (a 31) 768 on2), (aI k (a 32) 4 sr2), (aI k (a 33) 4 en2)] (fun r => tqP (d3 (sdX n0 see0 tm0 g0 ff0 fp0) (sdX n1 see1 tm1 g1 ff1 fp1) (sdX n2 see2 tm2 g2 ff2 fp2)) p0 (stA p1) r) := by
  intro sz
  refine Met.ofW (cc := cX7_start) (maxL := 3) (ret := (some .int)) (by decide) rfl ?_
  intro p e s m args below meth c s₁ B hml hv
  obtain ⟨rfl, hsz, hlo, hP, hK, hDL, hZ⟩ := hv
  have hx := B.exec
  have hb := B.bytes
  have hr := B.returns
  have hts := WS_ts B.pre
  have hown : s.vm.findClass RX7 = some m.cls := findClass_of_methodNamed B.named
  have hlocks := B.notSynchronized
  subst hsz
  have hA : ∀ q : Nat, s.heap.size ≤ q → (fun q : Nat => s.heap.size ≤ q) q := fun _ h => h
  have hAlo : ∀ q : Nat, (fun q : Nat => s.heap.size ≤ q) q → lo ≤ q := fun q h => Nat.le_trans hlo h
  have hS : va_S (fun q : Nat => s.heap.size ≤ q) s.heap s.heap [] := va_S.rf
  have hl := lv_entry ([.ref (a 0), .int p0, .int p1]) (n := 3) (Nat.le_of_ble_eq_true rfl)
  rw [lg_entry_eq]
  generalize (lg_sl ([.ref (a 0), .int p0, .int p1]) ++ List.replicate (3 - (lg_sl ([.ref (a 0), .int p0, .int p1])).length) Slot.unset).toArray = ls at hl ⊢
  have hl : lv_has ls 3 [(0, .ref (a 0)), (1, .int p0), (2, .int p1)] := hl
  refine lv_aload_n hx hb dX7_start_0 rfl (lv_at hl 0 rfl) ?_
  refine lv_iload_n hx hb dX7_start_1 rfl (lv_at hl 1 rfl) ?_
  refine ro_i (D := D) (va_runV (As := [.int p0]) (rest := []) ⟨hx, hb, hml, hown, hts⟩ ((y_isStreet l D k st lo a rk lfa n0 see0 tm0 g0 n1 see1 tm1 g1 n2 see2 tm2 g2 p0 (by first | assumption | omega) (by first | assumption | omega) (by first | assumption | omega)) s.heap.size) (cwV 1 hts (gV tw_589 tw_591 tw_8 tw_79 tw_592) rfl rfl rfl (by decide +kernel) ⟨Nat.le_of_ble_eq_true rfl, Nat.le_of_ble_eq_true rfl⟩) (pV hS hAlo hlo hP hK hDL hZ [0, 1, 3, 4, 8, 9, 13, 14] (by decide) rfl (ci := 7) (q := (RX7, TX7, 12)) (q0 := 0) rfl rfl) rfl rfl hl.1 rfl (lv_room (Nat.le_of_ble_eq_true rfl)) dX7_start_2 ⟨Nat.le_of_ble_eq_true rfl, Nat.le_of_ble_eq_true rfl⟩) hS hA hP (fun r_1 H locs hw_1 hP hS => ?_)
  try dsimp only at hw_1
  rcases hw_1 with ⟨rfl, ⟨rfl, hw_1⟩ | ⟨rfl, hw_1⟩ | ⟨rfl, hw_1⟩⟩ | ⟨rfl, hw_1⟩
  · refine lv_if_ne (tgt := 12) hx hb dX7_start_5 (by decide) (fun _ => ?_) (fun h => absurd h (by decide))
    refine lv_aload_n hx hb dX7_start_12 rfl (lv_at hl 0 rfl) ?_
    refine lv_iload_n hx hb dX7_start_13 rfl (lv_at hl 1 rfl) ?_
    refine lv_iload_n hx hb dX7_start_14 rfl (lv_at hl 2 rfl) ?_
    refine ro_i (D := D) (va_runV (As := [.int 0, .int p1]) (rest := []) ⟨hx, hb, hml, hown, hts⟩ ((y_isRound_0 l D k st lo a rk lfa n0 see0 tm0 g0 p1 (by first | assumption | omega)) H.size) (cwV 2 hts (gV tw_613 tw_615 tw_10 tw_79 tw_616) rfl rfl rfl (by decide +kernel) ⟨Nat.le_of_ble_eq_true rfl, Nat.le_of_ble_eq_true rfl⟩) (pV hS hAlo hlo hP hK hDL hZ [0, 1, 3, 4] (by decide) rfl (ci := 7) (q := (RX7, TX7, 12)) (q0 := 0) rfl rfl) rfl rfl hl.1 rfl (lv_room (Nat.le_of_ble_eq_true rfl)) dX7_start_15 ⟨Nat.le_of_ble_eq_true rfl, Nat.le_of_ble_eq_true rfl⟩) hS hA hP (fun r_2 H locs hw_2 hP hS => ?_)
    try dsimp only at hw_2
    rcases hw_2 with ⟨rfl, ir_3, hir_3, rfl⟩ | ⟨rfl, hw_2⟩
    · refine lv_if_eq (tgt := 35) hx hb dX7_start_18 (by decide) (fun h => absurd h (by decide)) (fun _ => ?_)
      refine lv_aload_n hx hb dX7_start_21 rfl (lv_at hl 0 rfl) ?_
      refine va_get (D := D) (ci := 7) (v := .ref (a 19)) (C := RX7) (T := TX7) (N := 12) hx hb hts inX7 hown hK hP 0 rfl rfl 2 (by decide) (hts _ tw_307) (fun _ h9 => h9) rfl dX7_start_22 ?_
      refine lv_iload_n hx hb dX7_start_25 rfl (lv_at hl 1 rfl) ?_
      refine va_aldq hx hb hK hP 2 4 rfl rfl (by unfold vp_in; decide) dX7_start_26 ?_
      refine lv_tr (y := .ref (a 20)) rfl ?_
      refine va_get (D := D) (ci := 0) (v := .ref (a 22)) (C := RX0) (T := TX0) (N := 5) hx hb hts inX0 hown hK hP 18 rfl rfl 2 (by decide) (hts _ tw_269) (fun _ h9 => h9) rfl dX7_start_27 ?_
      refine lv_iload_n hx hb dX7_start_30 rfl (lv_at hl 2 rfl) ?_
      refine va_iald hx hb hK hP 20 1 rfl rfl (vp_in_nI (by omega) (by decide)) dX7_start_31 ?_
      refine lv_ti (y := (sr0 ir_3)) (by rw [nI_clamp (by omega)]) ?_
      refine lv_goto (tgt := 38) hx hb dX7_start_32 (by decide) ?_
      exact W.iret (v := (sr0 ir_3)) hx hb hr (fun t ht hW => ⟨⟨(sr0 ir_3), (), rfl, tq_at (s := 0) (by omega) (show 0 < n0 by omega) (show stA (nI ir_3) (sdX n0 see0 tm0 g0 ff0 fp0) _ from st_i (by omega) (by rw [rdX]; exact inr (by omega) (by omega)) ((hwy 0 (by omega) (show 0 < n0 by omega)) ir_3 (Nat.zero_le _) (show ir_3 ≤ tmD (sdX n0 see0 tm0 g0 ff0 fp0) by rw [tmX (by omega)]; omega)).2.1), trivial⟩, hS.F ht⟩) hS.2.2 dX7_start_38
    · refine lv_if_eq (tgt := 35) hx hb dX7_start_18 (by decide) (fun _ => ?_) (fun h => absurd (by decide) h)
      refine lv_sipush (v := (-1002)) hx hb dX7_start_35 (by decide) ?_
      exact W.iret (v := (-1002)) hx hb hr (fun t ht hW => ⟨⟨(-1002), (), rfl, tq_at (s := 0) (by omega) (show 0 < n0 by omega) (show stA p1 (sdX n0 see0 tm0 g0 ff0 fp0) _ from st_o (by rw [rdX]; exact hw_2)), trivial⟩, hS.F ht⟩) hS.2.2 dX7_start_38
  · refine lv_if_ne (tgt := 12) hx hb dX7_start_5 (by decide) (fun _ => ?_) (fun h => absurd h (by decide))
    refine lv_aload_n hx hb dX7_start_12 rfl (lv_at hl 0 rfl) ?_
    refine lv_iload_n hx hb dX7_start_13 rfl (lv_at hl 1 rfl) ?_
    refine lv_iload_n hx hb dX7_start_14 rfl (lv_at hl 2 rfl) ?_
    refine ro_i (D := D) (va_runV (As := [.int 1, .int p1]) (rest := []) ⟨hx, hb, hml, hown, hts⟩ ((y_isRound_1 l D k st lo a rk lfa n1 see1 tm1 g1 p1 (by first | assumption | omega)) H.size) (cwV 2 hts (gV tw_613 tw_615 tw_10 tw_79 tw_616) rfl rfl rfl (by decide +kernel) ⟨Nat.le_of_ble_eq_true rfl, Nat.le_of_ble_eq_true rfl⟩) (pV hS hAlo hlo hP hK hDL hZ [0, 1, 8, 9] (by decide) rfl (ci := 7) (q := (RX7, TX7, 12)) (q0 := 0) rfl rfl) rfl rfl hl.1 rfl (lv_room (Nat.le_of_ble_eq_true rfl)) dX7_start_15 ⟨Nat.le_of_ble_eq_true rfl, Nat.le_of_ble_eq_true rfl⟩) hS hA hP (fun r_4 H locs hw_4 hP hS => ?_)
    try dsimp only at hw_4
    rcases hw_4 with ⟨rfl, ir_5, hir_5, rfl⟩ | ⟨rfl, hw_4⟩
    · refine lv_if_eq (tgt := 35) hx hb dX7_start_18 (by decide) (fun h => absurd h (by decide)) (fun _ => ?_)
      refine lv_aload_n hx hb dX7_start_21 rfl (lv_at hl 0 rfl) ?_
      refine va_get (D := D) (ci := 7) (v := .ref (a 19)) (C := RX7) (T := TX7) (N := 12) hx hb hts inX7 hown hK hP 0 rfl rfl 2 (by decide) (hts _ tw_307) (fun _ h9 => h9) rfl dX7_start_22 ?_
      refine lv_iload_n hx hb dX7_start_25 rfl (lv_at hl 1 rfl) ?_
      refine va_aldq hx hb hK hP 2 4 rfl rfl (by unfold vp_in; decide) dX7_start_26 ?_
      refine lv_tr (y := .ref (a 25)) rfl ?_
      refine va_get (D := D) (ci := 0) (v := .ref (a 27)) (C := RX0) (T := TX0) (N := 5) hx hb hts inX0 hown hK hP 22 rfl rfl 2 (by decide) (hts _ tw_269) (fun _ h9 => h9) rfl dX7_start_27 ?_
      refine lv_iload_n hx hb dX7_start_30 rfl (lv_at hl 2 rfl) ?_
      refine va_iald hx hb hK hP 24 1 rfl rfl (vp_in_nI (by omega) (by decide)) dX7_start_31 ?_
      refine lv_ti (y := (sr1 ir_5)) (by rw [nI_clamp (by omega)]) ?_
      refine lv_goto (tgt := 38) hx hb dX7_start_32 (by decide) ?_
      exact W.iret (v := (sr1 ir_5)) hx hb hr (fun t ht hW => ⟨⟨(sr1 ir_5), (), rfl, tq_at (s := 1) (by omega) (show 0 < n1 by omega) (show stA (nI ir_5) (sdX n1 see1 tm1 g1 ff1 fp1) _ from st_i (by omega) (by rw [rdX]; exact inr (by omega) (by omega)) ((hwy 1 (by omega) (show 0 < n1 by omega)) ir_5 (Nat.zero_le _) (show ir_5 ≤ tmD (sdX n1 see1 tm1 g1 ff1 fp1) by rw [tmX (by omega)]; omega)).2.1), trivial⟩, hS.F ht⟩) hS.2.2 dX7_start_38
    · refine lv_if_eq (tgt := 35) hx hb dX7_start_18 (by decide) (fun _ => ?_) (fun h => absurd (by decide) h)
      refine lv_sipush (v := (-1002)) hx hb dX7_start_35 (by decide) ?_
      exact W.iret (v := (-1002)) hx hb hr (fun t ht hW => ⟨⟨(-1002), (), rfl, tq_at (s := 1) (by omega) (show 0 < n1 by omega) (show stA p1 (sdX n1 see1 tm1 g1 ff1 fp1) _ from st_o (by rw [rdX]; exact hw_4)), trivial⟩, hS.F ht⟩) hS.2.2 dX7_start_38
  · refine lv_if_ne (tgt := 12) hx hb dX7_start_5 (by decide) (fun _ => ?_) (fun h => absurd h (by decide))
    refine lv_aload_n hx hb dX7_start_12 rfl (lv_at hl 0 rfl) ?_
    refine lv_iload_n hx hb dX7_start_13 rfl (lv_at hl 1 rfl) ?_
    refine lv_iload_n hx hb dX7_start_14 rfl (lv_at hl 2 rfl) ?_
    refine ro_i (D := D) (va_runV (As := [.int 2, .int p1]) (rest := []) ⟨hx, hb, hml, hown, hts⟩ ((y_isRound_2 l D k st lo a rk lfa n2 see2 tm2 g2 p1 (by first | assumption | omega)) H.size) (cwV 2 hts (gV tw_613 tw_615 tw_10 tw_79 tw_616) rfl rfl rfl (by decide +kernel) ⟨Nat.le_of_ble_eq_true rfl, Nat.le_of_ble_eq_true rfl⟩) (pV hS hAlo hlo hP hK hDL hZ [0, 1, 13, 14] (by decide) rfl (ci := 7) (q := (RX7, TX7, 12)) (q0 := 0) rfl rfl) rfl rfl hl.1 rfl (lv_room (Nat.le_of_ble_eq_true rfl)) dX7_start_15 ⟨Nat.le_of_ble_eq_true rfl, Nat.le_of_ble_eq_true rfl⟩) hS hA hP (fun r_6 H locs hw_6 hP hS => ?_)
    try dsimp only at hw_6
    rcases hw_6 with ⟨rfl, ir_7, hir_7, rfl⟩ | ⟨rfl, hw_6⟩
    · refine lv_if_eq (tgt := 35) hx hb dX7_start_18 (by decide) (fun h => absurd h (by decide)) (fun _ => ?_)
      refine lv_aload_n hx hb dX7_start_21 rfl (lv_at hl 0 rfl) ?_
      refine va_get (D := D) (ci := 7) (v := .ref (a 19)) (C := RX7) (T := TX7) (N := 12) hx hb hts inX7 hown hK hP 0 rfl rfl 2 (by decide) (hts _ tw_307) (fun _ h9 => h9) rfl dX7_start_22 ?_
      refine lv_iload_n hx hb dX7_start_25 rfl (lv_at hl 1 rfl) ?_
      refine va_aldq hx hb hK hP 2 4 rfl rfl (by unfold vp_in; decide) dX7_start_26 ?_
      refine lv_tr (y := .ref (a 30)) rfl ?_
      refine va_get (D := D) (ci := 0) (v := .ref (a 32)) (C := RX0) (T := TX0) (N := 5) hx hb hts inX0 hown hK hP 26 rfl rfl 2 (by decide) (hts _ tw_269) (fun _ h9 => h9) rfl dX7_start_27 ?_
      refine lv_iload_n hx hb dX7_start_30 rfl (lv_at hl 2 rfl) ?_
      refine va_iald hx hb hK hP 28 1 rfl rfl (vp_in_nI (by omega) (by decide)) dX7_start_31 ?_
      refine lv_ti (y := (sr2 ir_7)) (by rw [nI_clamp (by omega)]) ?_
      refine lv_goto (tgt := 38) hx hb dX7_start_32 (by decide) ?_
      exact W.iret (v := (sr2 ir_7)) hx hb hr (fun t ht hW => ⟨⟨(sr2 ir_7), (), rfl, tq_at (s := 2) (by omega) (show 0 < n2 by omega) (show stA (nI ir_7) (sdX n2 see2 tm2 g2 ff2 fp2) _ from st_i (by omega) (by rw [rdX]; exact inr (by omega) (by omega)) ((hwy 2 (by omega) (show 0 < n2 by omega)) ir_7 (Nat.zero_le _) (show ir_7 ≤ tmD (sdX n2 see2 tm2 g2 ff2 fp2) by rw [tmX (by omega)]; omega)).2.1), trivial⟩, hS.F ht⟩) hS.2.2 dX7_start_38
    · refine lv_if_eq (tgt := 35) hx hb dX7_start_18 (by decide) (fun _ => ?_) (fun h => absurd (by decide) h)
      refine lv_sipush (v := (-1002)) hx hb dX7_start_35 (by decide) ?_
      exact W.iret (v := (-1002)) hx hb hr (fun t ht hW => ⟨⟨(-1002), (), rfl, tq_at (s := 2) (by omega) (show 0 < n2 by omega) (show stA p1 (sdX n2 see2 tm2 g2 ff2 fp2) _ from st_o (by rw [rdX]; exact hw_6)), trivial⟩, hS.F ht⟩) hS.2.2 dX7_start_38
  · refine lv_if_ne (tgt := 12) hx hb dX7_start_5 (by decide) (fun h => absurd (by decide) h) (fun _ => ?_)
    refine lv_sipush (v := (-1001)) hx hb dX7_start_8 (by decide) ?_
    exact W.iret (v := (-1001)) hx hb hr (fun t ht hW => ⟨⟨(-1001), (), rfl, tq_no (fun s h1 h2 h3 => hw_1 s h1 h2 (by rw [d3_n] at h3; exact h3)), trivial⟩, hS.F ht⟩) hS.2.2 dX7_start_11


set_option maxHeartbeats 4000000 in
set_option maxRecDepth 100000 in
theorem y_end (l : Launch) (D : va_G) (k : Nat → ClassId) (st : Nat → Nat) (lo : Nat) (a : Nat → Nat) (rk : Nat) (lfa : Int32) (n0 : Nat) (see0 : Nat) (tm0 : Nat) (g0 : Nat → Int32) (ff0 : Nat → Int32) (fp0 : Nat → Int32) (fl0 : Nat → Int32) (n1 : Nat) (see1 : Nat) (tm1 : Nat) (g1 : Nat → Int32) (ff1 : Nat → Int32) (fp1 : Nat → Int32) (fl1 : Nat → Int32) (n2 : Nat) (see2 : Nat) (tm2 : Nat) (g2 : Nat → Int32) (ff2 : Nat → Int32) (fp2 : Nat → Int32) (fl2 : Nat → Int32) (on0 : Nat → Int32) (sr0 : Nat → Int32) (en0 : Nat → Int32) (on1 : Nat → Int32) (sr1 : Nat → Int32) (en1 : Nat → Int32) (on2 : Nat → Int32) (sr2 : Nat → Int32) (en2 : Nat → Int32) (p0 : Int32) (p1 : Int32) (p2 : Int32) (hn0 : n0 ≤ 24) (hse0 : see0 ≤ 2) (htm0 : tm0 ≤ 3) (hn1 : n1 ≤ 24) (hse1 : see1 ≤ 2) (htm1 : tm1 ≤ 3) (hn2 : n2 ≤ 24) (hse2 : see2 ≤ 2) (htm2 : tm2 ≤ 3) (hlt : ltP (d3 fl0 fl1 fl2) (d3 (sdX n0 see0 tm0 g0 ff0 fp0) (sdX n1 see1 tm1 g1 ff1 fp1) (sdX n2 see2 tm2 g2 ff2 fp2))) (hwy : wy3 (d3 (sdX n0 see0 tm0 g0 ff0 fp0) (sdX n1 see1 tm1 g1 ff1 fp1) (sdX n2 see2 tm2 g2 ff2 fp2)) (d3 on0 on1 on2) (d3 sr0 sr1 sr2) (d3 en0 en1 en2)) : CRi l D k st lo yX7_end cX7_end 4 (some .int) ({ frames := 2, cells := 0, slots := 0, locals := 44 }) [.ref (a 0), .int p0, .int p1, .int p2] [((a 0), .inr (7, (fX7 (a 1) (a 3) (a 19) (a 35) (a 40) (nI rk) lfa (a 53) (a 56) (a 63) (a 64) (a 68)))), ((a 3), .inl (k 3, 3, .inr (.inr (.inr (.inr (a3 (a 4) (a 9) (a 14))))))), ((a 19), .inl (k 4, 3, .inr (.inr (.inr (.inr (a3 (a 20) (a 25) (a 30))))))), ((a 4), .inr (5, (fX5 (a 5) (a 6) (a 7) (a 8)))), (aI k (a 5) 10 (vv n0 see0 tm0 g0)), (aI k (a 6) 24 ff0), (aI k (a 7) 24 fp0), (aI k (a 8) 4 fl0), ((a 9), .inr (5, (fX5 (a 10) (a 11) (a 12) (a 13)))), (aI k (a 10) 10 (vv n1 see1 tm1 g1)), (aI k (a 11) 24 ff1), (aI k (a 12) 24 fp1), (aI k (a 13) 4 fl1), ((a 14), .inr (5, (fX5 (a 15) (a 16) (a 17) (a 18)))), (aI k (a 15) 10 (vv n2 see2 tm2 g2)), (aI k (a 16) 24 ff2), (aI k (a 17) 24 fp2), (aI k (a 18) 4 fl2), ((a 20), .inr (0, (fX0 (a 4) (a 21) (a 22) (a 23) (a 24)))), (aI k (a 21) 768 on0), (aI k (a 22) 4 sr0), (aI k (a 23) 4 en0), ((a 25), .inr (0, (fX0 (a 9) (a 26) (a 27) (a 28) (a 29)))), (aI k (a 26) 768 on1), (aI k (a 27) 4 sr1), (aI k (a 28) 4 en1), ((a 30), .inr (0, (fX0 (a 14) (a 31) (a 32) (a 33) (a 34)))), (aI k (a 31) 768 on2), (aI k (a 32) 4 sr2), (aI k (a 33) 4 en2)] (fun r => tqP (d3 (sdX n0 see0 tm0 g0 ff0 fp0) (sdX n1 see1 tm1 g1 ff1 fp1) (sdX n2 see2 tm2 g2 ff2 fp2)) p0 (enA p1 p2) r) := by
  intro sz
  refine Met.ofW (cc := cX7_end) (maxL := 4) (ret := (some .int)) (by decide) rfl ?_
  intro p e s m args below meth c s₁ B hml hv
  obtain ⟨rfl, hsz, hlo, hP, hK, hDL, hZ⟩ := hv
  have hx := B.exec
  have hb := B.bytes
  have hr := B.returns
  have hts := WS_ts B.pre
  have hown : s.vm.findClass RX7 = some m.cls := findClass_of_methodNamed B.named
  have hlocks := B.notSynchronized
  subst hsz
  have hA : ∀ q : Nat, s.heap.size ≤ q → (fun q : Nat => s.heap.size ≤ q) q := fun _ h => h
  have hAlo : ∀ q : Nat, (fun q : Nat => s.heap.size ≤ q) q → lo ≤ q := fun q h => Nat.le_trans hlo h
  have hS : va_S (fun q : Nat => s.heap.size ≤ q) s.heap s.heap [] := va_S.rf
  have hl := lv_entry ([.ref (a 0), .int p0, .int p1, .int p2]) (n := 4) (Nat.le_of_ble_eq_true rfl)
  rw [lg_entry_eq]
  generalize (lg_sl ([.ref (a 0), .int p0, .int p1, .int p2]) ++ List.replicate (4 - (lg_sl ([.ref (a 0), .int p0, .int p1, .int p2])).length) Slot.unset).toArray = ls at hl ⊢
  have hl : lv_has ls 4 [(0, .ref (a 0)), (1, .int p0), (2, .int p1), (3, .int p2)] := hl
  refine lv_aload_n hx hb dX7_end_0 rfl (lv_at hl 0 rfl) ?_
  refine lv_iload_n hx hb dX7_end_1 rfl (lv_at hl 1 rfl) ?_
  refine ro_i (D := D) (va_runV (As := [.int p0]) (rest := []) ⟨hx, hb, hml, hown, hts⟩ ((y_isStreet l D k st lo a rk lfa n0 see0 tm0 g0 n1 see1 tm1 g1 n2 see2 tm2 g2 p0 (by first | assumption | omega) (by first | assumption | omega) (by first | assumption | omega)) s.heap.size) (cwV 1 hts (gV tw_589 tw_591 tw_8 tw_79 tw_592) rfl rfl rfl (by decide +kernel) ⟨Nat.le_of_ble_eq_true rfl, Nat.le_of_ble_eq_true rfl⟩) (pV hS hAlo hlo hP hK hDL hZ [0, 1, 3, 4, 8, 9, 13, 14] (by decide) rfl (ci := 7) (q := (RX7, TX7, 12)) (q0 := 0) rfl rfl) rfl rfl hl.1 rfl (lv_room (Nat.le_of_ble_eq_true rfl)) dX7_end_2 ⟨Nat.le_of_ble_eq_true rfl, Nat.le_of_ble_eq_true rfl⟩) hS hA hP (fun r_1 H locs hw_1 hP hS => ?_)
  try dsimp only at hw_1
  rcases hw_1 with ⟨rfl, ⟨rfl, hw_1⟩ | ⟨rfl, hw_1⟩ | ⟨rfl, hw_1⟩⟩ | ⟨rfl, hw_1⟩
  · refine lv_if_ne (tgt := 12) hx hb dX7_end_5 (by decide) (fun _ => ?_) (fun h => absurd h (by decide))
    refine lv_aload_n hx hb dX7_end_12 rfl (lv_at hl 0 rfl) ?_
    refine lv_iload_n hx hb dX7_end_13 rfl (lv_at hl 1 rfl) ?_
    refine lv_iload_n hx hb dX7_end_14 rfl (lv_at hl 2 rfl) ?_
    refine ro_i (D := D) (va_runV (As := [.int 0, .int p1]) (rest := []) ⟨hx, hb, hml, hown, hts⟩ ((y_isRound_0 l D k st lo a rk lfa n0 see0 tm0 g0 p1 (by first | assumption | omega)) H.size) (cwV 2 hts (gV tw_613 tw_615 tw_10 tw_79 tw_616) rfl rfl rfl (by decide +kernel) ⟨Nat.le_of_ble_eq_true rfl, Nat.le_of_ble_eq_true rfl⟩) (pV hS hAlo hlo hP hK hDL hZ [0, 1, 3, 4] (by decide) rfl (ci := 7) (q := (RX7, TX7, 12)) (q0 := 0) rfl rfl) rfl rfl hl.1 rfl (lv_room (Nat.le_of_ble_eq_true rfl)) dX7_end_15 ⟨Nat.le_of_ble_eq_true rfl, Nat.le_of_ble_eq_true rfl⟩) hS hA hP (fun r_2 H locs hw_2 hP hS => ?_)
    try dsimp only at hw_2
    rcases hw_2 with ⟨rfl, ir_3, hir_3, rfl⟩ | ⟨rfl, hw_2⟩
    · refine lv_if_eq (tgt := 30) hx hb dX7_end_18 (by decide) (fun h => absurd h (by decide)) (fun _ => ?_)
      refine lv_iload_n hx hb dX7_end_21 rfl (lv_at hl 3 rfl) ?_
      refine lv_iconst (v := 0) hx hb dX7_end_22 (by decide) ?_
      refine lv_iconst (v := 1) hx hb dX7_end_23 (by decide) ?_
      refine ro_i (D := D) (va_runS (As := [.int p2, .int 0, .int 1]) (rest := []) ⟨hx, hb, hml, hown, hts⟩ ((k_isIn l D k st lo p2 0 1) H.size) (va_cwS 3 hts (gS tw_593 tw_594 tw_79 tw_595) rfl rfl rfl (by decide +kernel) ⟨Nat.le_of_ble_eq_true rfl, Nat.le_of_ble_eq_true rfl⟩) (pS hS hAlo hlo hP hK hDL hZ [] (by decide) rfl) rfl rfl hl.1 rfl (lv_room (Nat.le_of_ble_eq_true rfl)) dX7_end_24 ⟨Nat.le_of_ble_eq_true rfl, Nat.le_of_ble_eq_true rfl⟩) hS hA hP (fun r_4 H locs hw_4 hP hS => ?_)
      try dsimp only at hw_4
      rcases hw_4 with ⟨rfl, hw_4⟩ | ⟨rfl, hw_4⟩
      · refine lv_if_ne (tgt := 34) hx hb dX7_end_27 (by decide) (fun _ => ?_) (fun h => absurd h (by decide))
        refine lv_iload_n hx hb dX7_end_34 rfl (lv_at hl 3 rfl) ?_
        refine lv_if_ne (tgt := 50) hx hb dX7_end_35 (by decide) (fun c_5 => ?_) (fun c_5 => ?_)
        · refine lv_aload_n hx hb dX7_end_50 rfl (lv_at hl 0 rfl) ?_
          refine va_get (D := D) (ci := 7) (v := .ref (a 19)) (C := RX7) (T := TX7) (N := 12) hx hb hts inX7 hown hK hP 0 rfl rfl 2 (by decide) (hts _ tw_307) (fun _ h9 => h9) rfl dX7_end_51 ?_
          refine lv_iload_n hx hb dX7_end_54 rfl (lv_at hl 1 rfl) ?_
          refine va_aldq hx hb hK hP 2 4 rfl rfl (by unfold vp_in; decide) dX7_end_55 ?_
          refine lv_tr (y := .ref (a 20)) rfl ?_
          refine va_get (D := D) (ci := 0) (v := .ref (a 23)) (C := RX0) (T := TX0) (N := 5) hx hb hts inX0 hown hK hP 18 rfl rfl 3 (by decide) (hts _ tw_271) (fun _ h9 => h9) rfl dX7_end_56 ?_
          refine lv_iload_n hx hb dX7_end_59 rfl (lv_at hl 2 rfl) ?_
          refine va_iald hx hb hK hP 21 1 rfl rfl (vp_in_nI (by omega) (by decide)) dX7_end_60 ?_
          refine lv_ti (y := (en0 ir_3)) (by rw [nI_clamp (by omega)]) ?_
          refine lv_aload_n hx hb dX7_end_61 rfl (lv_at hl 0 rfl) ?_
          refine va_get (D := D) (ci := 7) (v := .ref (a 3)) (C := RX7) (T := TX7) (N := 12) hx hb hts inX7 hown hK hP 0 rfl rfl 1 (by decide) (hts _ tw_306) (fun _ h9 => h9) rfl dX7_end_62 ?_
          refine lv_iload_n hx hb dX7_end_65 rfl (lv_at hl 1 rfl) ?_
          refine va_aldq hx hb hK hP 1 3 rfl rfl (by unfold vp_in; decide) dX7_end_66 ?_
          refine lv_tr (y := .ref (a 4)) rfl ?_
          refine lv_iload_n hx hb dX7_end_67 rfl (lv_at hl 2 rfl) ?_
          refine ro_i (D := D) (va_runV (As := [.int (nI ir_3)]) (rest := [.int (en0 ir_3)]) ⟨hx, hb, hml, hown, hts⟩ ((y_garageOf l D k st lo (a 4) (a 5) (a 6) (a 7) (a 8) n0 see0 tm0 g0 fl0 ir_3 (by first | assumption | omega)) H.size) (cwV 1 hts (gV tw_649 tw_521 tw_522 tw_81 tw_523) rfl rfl rfl (by decide +kernel) ⟨Nat.le_of_ble_eq_true rfl, Nat.le_of_ble_eq_true rfl⟩) (pV hS hAlo hlo hP hK hDL hZ [3, 4, 7] (by decide) rfl (ci := 5) (q := (RX5, TX5, 4)) (q0 := 0) rfl rfl) rfl rfl hl.1 rfl (lv_room (Nat.le_of_ble_eq_true rfl)) dX7_end_68 ⟨Nat.le_of_ble_eq_true rfl, Nat.le_of_ble_eq_true rfl⟩) hS hA hP (fun r_6 H locs hw_6 hP hS => ?_)
          try dsimp only at hw_6
          refine lv_icmp_ge (tgt := 78) hx hb dX7_end_71 (by decide) (fun c_7 => ?_) (fun c_7 => ?_)
          · refine lv_iconst (v := 0) hx hb dX7_end_78 (by decide) ?_
            exact W.iret (v := 0) hx hb hr (fun t ht hW => ⟨⟨0, (), rfl, tq_at (s := 0) (by omega) (show 0 < n0 by omega) (show enA (nI ir_3) p2 (sdX n0 see0 tm0 g0 ff0 fp0) _ from en_1 (by omega) (by rw [rdX]; exact inr (by omega) (by omega)) (is01 hw_4 c_5) (by rw [if_neg (show ¬ wayE (sdX n0 see0 tm0 g0 ff0 fp0) ir_3 < pGar (sdX n0 see0 tm0 g0 ff0 fp0) ir_3 by rw [← (show en0 ir_3 = wayE (sdX n0 see0 tm0 g0 ff0 fp0) ir_3 from ((hwy 0 (by omega) (show 0 < n0 by omega)) ir_3 (Nat.zero_le _) (show ir_3 ≤ tmD (sdX n0 see0 tm0 g0 ff0 fp0) by rw [tmX (by omega)]; omega)).1), ← xGar (fl := fl0) (hlt 0 (by omega) ir_3 (by omega)), ← hw_6]; exact Int32.not_lt.mpr c_7)])), trivial⟩, hS.F ht⟩) hS.2.2 dX7_end_79
          · refine lv_iconst (v := 1) hx hb dX7_end_74 (by decide) ?_
            refine lv_goto (tgt := 79) hx hb dX7_end_75 (by decide) ?_
            exact W.iret (v := 1) hx hb hr (fun t ht hW => ⟨⟨1, (), rfl, tq_at (s := 0) (by omega) (show 0 < n0 by omega) (show enA (nI ir_3) p2 (sdX n0 see0 tm0 g0 ff0 fp0) _ from en_1 (by omega) (by rw [rdX]; exact inr (by omega) (by omega)) (is01 hw_4 c_5) (by rw [if_pos (show wayE (sdX n0 see0 tm0 g0 ff0 fp0) ir_3 < pGar (sdX n0 see0 tm0 g0 ff0 fp0) ir_3 by rw [← (show en0 ir_3 = wayE (sdX n0 see0 tm0 g0 ff0 fp0) ir_3 from ((hwy 0 (by omega) (show 0 < n0 by omega)) ir_3 (Nat.zero_le _) (show ir_3 ≤ tmD (sdX n0 see0 tm0 g0 ff0 fp0) by rw [tmX (by omega)]; omega)).1), ← xGar (fl := fl0) (hlt 0 (by omega) ir_3 (by omega)), ← hw_6]; exact Int32.not_le.mp c_7)])), trivial⟩, hS.F ht⟩) hS.2.2 dX7_end_79
        · refine lv_aload_n hx hb dX7_end_38 rfl (lv_at hl 0 rfl) ?_
          refine va_get (D := D) (ci := 7) (v := .ref (a 19)) (C := RX7) (T := TX7) (N := 12) hx hb hts inX7 hown hK hP 0 rfl rfl 2 (by decide) (hts _ tw_307) (fun _ h9 => h9) rfl dX7_end_39 ?_
          refine lv_iload_n hx hb dX7_end_42 rfl (lv_at hl 1 rfl) ?_
          refine va_aldq hx hb hK hP 2 4 rfl rfl (by unfold vp_in; decide) dX7_end_43 ?_
          refine lv_tr (y := .ref (a 20)) rfl ?_
          refine va_get (D := D) (ci := 0) (v := .ref (a 23)) (C := RX0) (T := TX0) (N := 5) hx hb hts inX0 hown hK hP 18 rfl rfl 3 (by decide) (hts _ tw_271) (fun _ h9 => h9) rfl dX7_end_44 ?_
          refine lv_iload_n hx hb dX7_end_47 rfl (lv_at hl 2 rfl) ?_
          refine va_iald hx hb hK hP 21 1 rfl rfl (vp_in_nI (by omega) (by decide)) dX7_end_48 ?_
          refine lv_ti (y := (en0 ir_3)) (by rw [nI_clamp (by omega)]) ?_
          exact W.iret (v := (en0 ir_3)) hx hb hr (fun t ht hW => ⟨⟨(en0 ir_3), (), rfl, tq_at (s := 0) (by omega) (show 0 < n0 by omega) (show enA (nI ir_3) p2 (sdX n0 see0 tm0 g0 ff0 fp0) _ from en_0 (by omega) (by rw [rdX]; exact inr (by omega) (by omega)) c_5 ((hwy 0 (by omega) (show 0 < n0 by omega)) ir_3 (Nat.zero_le _) (show ir_3 ≤ tmD (sdX n0 see0 tm0 g0 ff0 fp0) by rw [tmX (by omega)]; omega)).1), trivial⟩, hS.F ht⟩) hS.2.2 dX7_end_49
      · refine lv_if_ne (tgt := 34) hx hb dX7_end_27 (by decide) (fun h => absurd (by decide) h) (fun _ => ?_)
        refine lv_sipush (v := (-1002)) hx hb dX7_end_30 (by decide) ?_
        exact W.iret (v := (-1002)) hx hb hr (fun t ht hW => ⟨⟨(-1002), (), rfl, tq_at (s := 0) (by omega) (show 0 < n0 by omega) (show enA (nI ir_3) p2 (sdX n0 see0 tm0 g0 ff0 fp0) _ from en_o (fun h => absurd h.2 hw_4)), trivial⟩, hS.F ht⟩) hS.2.2 dX7_end_33
    · refine lv_if_eq (tgt := 30) hx hb dX7_end_18 (by decide) (fun _ => ?_) (fun h => absurd (by decide) h)
      refine lv_sipush (v := (-1002)) hx hb dX7_end_30 (by decide) ?_
      exact W.iret (v := (-1002)) hx hb hr (fun t ht hW => ⟨⟨(-1002), (), rfl, tq_at (s := 0) (by omega) (show 0 < n0 by omega) (show enA p1 p2 (sdX n0 see0 tm0 g0 ff0 fp0) _ from en_o (fun h => absurd h.1 (by rw [rdX]; exact hw_2))), trivial⟩, hS.F ht⟩) hS.2.2 dX7_end_33
  · refine lv_if_ne (tgt := 12) hx hb dX7_end_5 (by decide) (fun _ => ?_) (fun h => absurd h (by decide))
    refine lv_aload_n hx hb dX7_end_12 rfl (lv_at hl 0 rfl) ?_
    refine lv_iload_n hx hb dX7_end_13 rfl (lv_at hl 1 rfl) ?_
    refine lv_iload_n hx hb dX7_end_14 rfl (lv_at hl 2 rfl) ?_
    refine ro_i (D := D) (va_runV (As := [.int 1, .int p1]) (rest := []) ⟨hx, hb, hml, hown, hts⟩ ((y_isRound_1 l D k st lo a rk lfa n1 see1 tm1 g1 p1 (by first | assumption | omega)) H.size) (cwV 2 hts (gV tw_613 tw_615 tw_10 tw_79 tw_616) rfl rfl rfl (by decide +kernel) ⟨Nat.le_of_ble_eq_true rfl, Nat.le_of_ble_eq_true rfl⟩) (pV hS hAlo hlo hP hK hDL hZ [0, 1, 8, 9] (by decide) rfl (ci := 7) (q := (RX7, TX7, 12)) (q0 := 0) rfl rfl) rfl rfl hl.1 rfl (lv_room (Nat.le_of_ble_eq_true rfl)) dX7_end_15 ⟨Nat.le_of_ble_eq_true rfl, Nat.le_of_ble_eq_true rfl⟩) hS hA hP (fun r_8 H locs hw_8 hP hS => ?_)
    try dsimp only at hw_8
    rcases hw_8 with ⟨rfl, ir_9, hir_9, rfl⟩ | ⟨rfl, hw_8⟩
    · refine lv_if_eq (tgt := 30) hx hb dX7_end_18 (by decide) (fun h => absurd h (by decide)) (fun _ => ?_)
      refine lv_iload_n hx hb dX7_end_21 rfl (lv_at hl 3 rfl) ?_
      refine lv_iconst (v := 0) hx hb dX7_end_22 (by decide) ?_
      refine lv_iconst (v := 1) hx hb dX7_end_23 (by decide) ?_
      refine ro_i (D := D) (va_runS (As := [.int p2, .int 0, .int 1]) (rest := []) ⟨hx, hb, hml, hown, hts⟩ ((k_isIn l D k st lo p2 0 1) H.size) (va_cwS 3 hts (gS tw_593 tw_594 tw_79 tw_595) rfl rfl rfl (by decide +kernel) ⟨Nat.le_of_ble_eq_true rfl, Nat.le_of_ble_eq_true rfl⟩) (pS hS hAlo hlo hP hK hDL hZ [] (by decide) rfl) rfl rfl hl.1 rfl (lv_room (Nat.le_of_ble_eq_true rfl)) dX7_end_24 ⟨Nat.le_of_ble_eq_true rfl, Nat.le_of_ble_eq_true rfl⟩) hS hA hP (fun r_10 H locs hw_10 hP hS => ?_)
      try dsimp only at hw_10
      rcases hw_10 with ⟨rfl, hw_10⟩ | ⟨rfl, hw_10⟩
      · refine lv_if_ne (tgt := 34) hx hb dX7_end_27 (by decide) (fun _ => ?_) (fun h => absurd h (by decide))
        refine lv_iload_n hx hb dX7_end_34 rfl (lv_at hl 3 rfl) ?_
        refine lv_if_ne (tgt := 50) hx hb dX7_end_35 (by decide) (fun c_11 => ?_) (fun c_11 => ?_)
        · refine lv_aload_n hx hb dX7_end_50 rfl (lv_at hl 0 rfl) ?_
          refine va_get (D := D) (ci := 7) (v := .ref (a 19)) (C := RX7) (T := TX7) (N := 12) hx hb hts inX7 hown hK hP 0 rfl rfl 2 (by decide) (hts _ tw_307) (fun _ h9 => h9) rfl dX7_end_51 ?_
          refine lv_iload_n hx hb dX7_end_54 rfl (lv_at hl 1 rfl) ?_
          refine va_aldq hx hb hK hP 2 4 rfl rfl (by unfold vp_in; decide) dX7_end_55 ?_
          refine lv_tr (y := .ref (a 25)) rfl ?_
          refine va_get (D := D) (ci := 0) (v := .ref (a 28)) (C := RX0) (T := TX0) (N := 5) hx hb hts inX0 hown hK hP 22 rfl rfl 3 (by decide) (hts _ tw_271) (fun _ h9 => h9) rfl dX7_end_56 ?_
          refine lv_iload_n hx hb dX7_end_59 rfl (lv_at hl 2 rfl) ?_
          refine va_iald hx hb hK hP 25 1 rfl rfl (vp_in_nI (by omega) (by decide)) dX7_end_60 ?_
          refine lv_ti (y := (en1 ir_9)) (by rw [nI_clamp (by omega)]) ?_
          refine lv_aload_n hx hb dX7_end_61 rfl (lv_at hl 0 rfl) ?_
          refine va_get (D := D) (ci := 7) (v := .ref (a 3)) (C := RX7) (T := TX7) (N := 12) hx hb hts inX7 hown hK hP 0 rfl rfl 1 (by decide) (hts _ tw_306) (fun _ h9 => h9) rfl dX7_end_62 ?_
          refine lv_iload_n hx hb dX7_end_65 rfl (lv_at hl 1 rfl) ?_
          refine va_aldq hx hb hK hP 1 3 rfl rfl (by unfold vp_in; decide) dX7_end_66 ?_
          refine lv_tr (y := .ref (a 9)) rfl ?_
          refine lv_iload_n hx hb dX7_end_67 rfl (lv_at hl 2 rfl) ?_
          refine ro_i (D := D) (va_runV (As := [.int (nI ir_9)]) (rest := [.int (en1 ir_9)]) ⟨hx, hb, hml, hown, hts⟩ ((y_garageOf l D k st lo (a 9) (a 10) (a 11) (a 12) (a 13) n1 see1 tm1 g1 fl1 ir_9 (by first | assumption | omega)) H.size) (cwV 1 hts (gV tw_649 tw_521 tw_522 tw_81 tw_523) rfl rfl rfl (by decide +kernel) ⟨Nat.le_of_ble_eq_true rfl, Nat.le_of_ble_eq_true rfl⟩) (pV hS hAlo hlo hP hK hDL hZ [8, 9, 12] (by decide) rfl (ci := 5) (q := (RX5, TX5, 4)) (q0 := 0) rfl rfl) rfl rfl hl.1 rfl (lv_room (Nat.le_of_ble_eq_true rfl)) dX7_end_68 ⟨Nat.le_of_ble_eq_true rfl, Nat.le_of_ble_eq_true rfl⟩) hS hA hP (fun r_12 H locs hw_12 hP hS => ?_)
          try dsimp only at hw_12
          refine lv_icmp_ge (tgt := 78) hx hb dX7_end_71 (by decide) (fun c_13 => ?_) (fun c_13 => ?_)
          · refine lv_iconst (v := 0) hx hb dX7_end_78 (by decide) ?_
            exact W.iret (v := 0) hx hb hr (fun t ht hW => ⟨⟨0, (), rfl, tq_at (s := 1) (by omega) (show 0 < n1 by omega) (show enA (nI ir_9) p2 (sdX n1 see1 tm1 g1 ff1 fp1) _ from en_1 (by omega) (by rw [rdX]; exact inr (by omega) (by omega)) (is01 hw_10 c_11) (by rw [if_neg (show ¬ wayE (sdX n1 see1 tm1 g1 ff1 fp1) ir_9 < pGar (sdX n1 see1 tm1 g1 ff1 fp1) ir_9 by rw [← (show en1 ir_9 = wayE (sdX n1 see1 tm1 g1 ff1 fp1) ir_9 from ((hwy 1 (by omega) (show 0 < n1 by omega)) ir_9 (Nat.zero_le _) (show ir_9 ≤ tmD (sdX n1 see1 tm1 g1 ff1 fp1) by rw [tmX (by omega)]; omega)).1), ← xGar (fl := fl1) (hlt 1 (by omega) ir_9 (by omega)), ← hw_12]; exact Int32.not_lt.mpr c_13)])), trivial⟩, hS.F ht⟩) hS.2.2 dX7_end_79
          · refine lv_iconst (v := 1) hx hb dX7_end_74 (by decide) ?_
            refine lv_goto (tgt := 79) hx hb dX7_end_75 (by decide) ?_
            exact W.iret (v := 1) hx hb hr (fun t ht hW => ⟨⟨1, (), rfl, tq_at (s := 1) (by omega) (show 0 < n1 by omega) (show enA (nI ir_9) p2 (sdX n1 see1 tm1 g1 ff1 fp1) _ from en_1 (by omega) (by rw [rdX]; exact inr (by omega) (by omega)) (is01 hw_10 c_11) (by rw [if_pos (show wayE (sdX n1 see1 tm1 g1 ff1 fp1) ir_9 < pGar (sdX n1 see1 tm1 g1 ff1 fp1) ir_9 by rw [← (show en1 ir_9 = wayE (sdX n1 see1 tm1 g1 ff1 fp1) ir_9 from ((hwy 1 (by omega) (show 0 < n1 by omega)) ir_9 (Nat.zero_le _) (show ir_9 ≤ tmD (sdX n1 see1 tm1 g1 ff1 fp1) by rw [tmX (by omega)]; omega)).1), ← xGar (fl := fl1) (hlt 1 (by omega) ir_9 (by omega)), ← hw_12]; exact Int32.not_le.mp c_13)])), trivial⟩, hS.F ht⟩) hS.2.2 dX7_end_79
        · refine lv_aload_n hx hb dX7_end_38 rfl (lv_at hl 0 rfl) ?_
          refine va_get (D := D) (ci := 7) (v := .ref (a 19)) (C := RX7) (T := TX7) (N := 12) hx hb hts inX7 hown hK hP 0 rfl rfl 2 (by decide) (hts _ tw_307) (fun _ h9 => h9) rfl dX7_end_39 ?_
          refine lv_iload_n hx hb dX7_end_42 rfl (lv_at hl 1 rfl) ?_
          refine va_aldq hx hb hK hP 2 4 rfl rfl (by unfold vp_in; decide) dX7_end_43 ?_
          refine lv_tr (y := .ref (a 25)) rfl ?_
          refine va_get (D := D) (ci := 0) (v := .ref (a 28)) (C := RX0) (T := TX0) (N := 5) hx hb hts inX0 hown hK hP 22 rfl rfl 3 (by decide) (hts _ tw_271) (fun _ h9 => h9) rfl dX7_end_44 ?_
          refine lv_iload_n hx hb dX7_end_47 rfl (lv_at hl 2 rfl) ?_
          refine va_iald hx hb hK hP 25 1 rfl rfl (vp_in_nI (by omega) (by decide)) dX7_end_48 ?_
          refine lv_ti (y := (en1 ir_9)) (by rw [nI_clamp (by omega)]) ?_
          exact W.iret (v := (en1 ir_9)) hx hb hr (fun t ht hW => ⟨⟨(en1 ir_9), (), rfl, tq_at (s := 1) (by omega) (show 0 < n1 by omega) (show enA (nI ir_9) p2 (sdX n1 see1 tm1 g1 ff1 fp1) _ from en_0 (by omega) (by rw [rdX]; exact inr (by omega) (by omega)) c_11 ((hwy 1 (by omega) (show 0 < n1 by omega)) ir_9 (Nat.zero_le _) (show ir_9 ≤ tmD (sdX n1 see1 tm1 g1 ff1 fp1) by rw [tmX (by omega)]; omega)).1), trivial⟩, hS.F ht⟩) hS.2.2 dX7_end_49
      · refine lv_if_ne (tgt := 34) hx hb dX7_end_27 (by decide) (fun h => absurd (by decide) h) (fun _ => ?_)
        refine lv_sipush (v := (-1002)) hx hb dX7_end_30 (by decide) ?_
        exact W.iret (v := (-1002)) hx hb hr (fun t ht hW => ⟨⟨(-1002), (), rfl, tq_at (s := 1) (by omega) (show 0 < n1 by omega) (show enA (nI ir_9) p2 (sdX n1 see1 tm1 g1 ff1 fp1) _ from en_o (fun h => absurd h.2 hw_10)), trivial⟩, hS.F ht⟩) hS.2.2 dX7_end_33
    · refine lv_if_eq (tgt := 30) hx hb dX7_end_18 (by decide) (fun _ => ?_) (fun h => absurd (by decide) h)
      refine lv_sipush (v := (-1002)) hx hb dX7_end_30 (by decide) ?_
      exact W.iret (v := (-1002)) hx hb hr (fun t ht hW => ⟨⟨(-1002), (), rfl, tq_at (s := 1) (by omega) (show 0 < n1 by omega) (show enA p1 p2 (sdX n1 see1 tm1 g1 ff1 fp1) _ from en_o (fun h => absurd h.1 (by rw [rdX]; exact hw_8))), trivial⟩, hS.F ht⟩) hS.2.2 dX7_end_33
  · refine lv_if_ne (tgt := 12) hx hb dX7_end_5 (by decide) (fun _ => ?_) (fun h => absurd h (by decide))
    refine lv_aload_n hx hb dX7_end_12 rfl (lv_at hl 0 rfl) ?_
    refine lv_iload_n hx hb dX7_end_13 rfl (lv_at hl 1 rfl) ?_
    refine lv_iload_n hx hb dX7_end_14 rfl (lv_at hl 2 rfl) ?_
    refine ro_i (D := D) (va_runV (As := [.int 2, .int p1]) (rest := []) ⟨hx, hb, hml, hown, hts⟩ ((y_isRound_2 l D k st lo a rk lfa n2 see2 tm2 g2 p1 (by first | assumption | omega)) H.size) (cwV 2 hts (gV tw_613 tw_615 tw_10 tw_79 tw_616) rfl rfl rfl (by decide +kernel) ⟨Nat.le_of_ble_eq_true rfl, Nat.le_of_ble_eq_true rfl⟩) (pV hS hAlo hlo hP hK hDL hZ [0, 1, 13, 14] (by decide) rfl (ci := 7) (q := (RX7, TX7, 12)) (q0 := 0) rfl rfl) rfl rfl hl.1 rfl (lv_room (Nat.le_of_ble_eq_true rfl)) dX7_end_15 ⟨Nat.le_of_ble_eq_true rfl, Nat.le_of_ble_eq_true rfl⟩) hS hA hP (fun r_14 H locs hw_14 hP hS => ?_)
    try dsimp only at hw_14
    rcases hw_14 with ⟨rfl, ir_15, hir_15, rfl⟩ | ⟨rfl, hw_14⟩
    · refine lv_if_eq (tgt := 30) hx hb dX7_end_18 (by decide) (fun h => absurd h (by decide)) (fun _ => ?_)
      refine lv_iload_n hx hb dX7_end_21 rfl (lv_at hl 3 rfl) ?_
      refine lv_iconst (v := 0) hx hb dX7_end_22 (by decide) ?_
      refine lv_iconst (v := 1) hx hb dX7_end_23 (by decide) ?_
      refine ro_i (D := D) (va_runS (As := [.int p2, .int 0, .int 1]) (rest := []) ⟨hx, hb, hml, hown, hts⟩ ((k_isIn l D k st lo p2 0 1) H.size) (va_cwS 3 hts (gS tw_593 tw_594 tw_79 tw_595) rfl rfl rfl (by decide +kernel) ⟨Nat.le_of_ble_eq_true rfl, Nat.le_of_ble_eq_true rfl⟩) (pS hS hAlo hlo hP hK hDL hZ [] (by decide) rfl) rfl rfl hl.1 rfl (lv_room (Nat.le_of_ble_eq_true rfl)) dX7_end_24 ⟨Nat.le_of_ble_eq_true rfl, Nat.le_of_ble_eq_true rfl⟩) hS hA hP (fun r_16 H locs hw_16 hP hS => ?_)
      try dsimp only at hw_16
      rcases hw_16 with ⟨rfl, hw_16⟩ | ⟨rfl, hw_16⟩
      · refine lv_if_ne (tgt := 34) hx hb dX7_end_27 (by decide) (fun _ => ?_) (fun h => absurd h (by decide))
        refine lv_iload_n hx hb dX7_end_34 rfl (lv_at hl 3 rfl) ?_
        refine lv_if_ne (tgt := 50) hx hb dX7_end_35 (by decide) (fun c_17 => ?_) (fun c_17 => ?_)
        · refine lv_aload_n hx hb dX7_end_50 rfl (lv_at hl 0 rfl) ?_
          refine va_get (D := D) (ci := 7) (v := .ref (a 19)) (C := RX7) (T := TX7) (N := 12) hx hb hts inX7 hown hK hP 0 rfl rfl 2 (by decide) (hts _ tw_307) (fun _ h9 => h9) rfl dX7_end_51 ?_
          refine lv_iload_n hx hb dX7_end_54 rfl (lv_at hl 1 rfl) ?_
          refine va_aldq hx hb hK hP 2 4 rfl rfl (by unfold vp_in; decide) dX7_end_55 ?_
          refine lv_tr (y := .ref (a 30)) rfl ?_
          refine va_get (D := D) (ci := 0) (v := .ref (a 33)) (C := RX0) (T := TX0) (N := 5) hx hb hts inX0 hown hK hP 26 rfl rfl 3 (by decide) (hts _ tw_271) (fun _ h9 => h9) rfl dX7_end_56 ?_
          refine lv_iload_n hx hb dX7_end_59 rfl (lv_at hl 2 rfl) ?_
          refine va_iald hx hb hK hP 29 1 rfl rfl (vp_in_nI (by omega) (by decide)) dX7_end_60 ?_
          refine lv_ti (y := (en2 ir_15)) (by rw [nI_clamp (by omega)]) ?_
          refine lv_aload_n hx hb dX7_end_61 rfl (lv_at hl 0 rfl) ?_
          refine va_get (D := D) (ci := 7) (v := .ref (a 3)) (C := RX7) (T := TX7) (N := 12) hx hb hts inX7 hown hK hP 0 rfl rfl 1 (by decide) (hts _ tw_306) (fun _ h9 => h9) rfl dX7_end_62 ?_
          refine lv_iload_n hx hb dX7_end_65 rfl (lv_at hl 1 rfl) ?_
          refine va_aldq hx hb hK hP 1 3 rfl rfl (by unfold vp_in; decide) dX7_end_66 ?_
          refine lv_tr (y := .ref (a 14)) rfl ?_
          refine lv_iload_n hx hb dX7_end_67 rfl (lv_at hl 2 rfl) ?_
          refine ro_i (D := D) (va_runV (As := [.int (nI ir_15)]) (rest := [.int (en2 ir_15)]) ⟨hx, hb, hml, hown, hts⟩ ((y_garageOf l D k st lo (a 14) (a 15) (a 16) (a 17) (a 18) n2 see2 tm2 g2 fl2 ir_15 (by first | assumption | omega)) H.size) (cwV 1 hts (gV tw_649 tw_521 tw_522 tw_81 tw_523) rfl rfl rfl (by decide +kernel) ⟨Nat.le_of_ble_eq_true rfl, Nat.le_of_ble_eq_true rfl⟩) (pV hS hAlo hlo hP hK hDL hZ [13, 14, 17] (by decide) rfl (ci := 5) (q := (RX5, TX5, 4)) (q0 := 0) rfl rfl) rfl rfl hl.1 rfl (lv_room (Nat.le_of_ble_eq_true rfl)) dX7_end_68 ⟨Nat.le_of_ble_eq_true rfl, Nat.le_of_ble_eq_true rfl⟩) hS hA hP (fun r_18 H locs hw_18 hP hS => ?_)
          try dsimp only at hw_18
          refine lv_icmp_ge (tgt := 78) hx hb dX7_end_71 (by decide) (fun c_19 => ?_) (fun c_19 => ?_)
          · refine lv_iconst (v := 0) hx hb dX7_end_78 (by decide) ?_
            exact W.iret (v := 0) hx hb hr (fun t ht hW => ⟨⟨0, (), rfl, tq_at (s := 2) (by omega) (show 0 < n2 by omega) (show enA (nI ir_15) p2 (sdX n2 see2 tm2 g2 ff2 fp2) _ from en_1 (by omega) (by rw [rdX]; exact inr (by omega) (by omega)) (is01 hw_16 c_17) (by rw [if_neg (show ¬ wayE (sdX n2 see2 tm2 g2 ff2 fp2) ir_15 < pGar (sdX n2 see2 tm2 g2 ff2 fp2) ir_15 by rw [← (show en2 ir_15 = wayE (sdX n2 see2 tm2 g2 ff2 fp2) ir_15 from ((hwy 2 (by omega) (show 0 < n2 by omega)) ir_15 (Nat.zero_le _) (show ir_15 ≤ tmD (sdX n2 see2 tm2 g2 ff2 fp2) by rw [tmX (by omega)]; omega)).1), ← xGar (fl := fl2) (hlt 2 (by omega) ir_15 (by omega)), ← hw_18]; exact Int32.not_lt.mpr c_19)])), trivial⟩, hS.F ht⟩) hS.2.2 dX7_end_79
          · refine lv_iconst (v := 1) hx hb dX7_end_74 (by decide) ?_
            refine lv_goto (tgt := 79) hx hb dX7_end_75 (by decide) ?_
            exact W.iret (v := 1) hx hb hr (fun t ht hW => ⟨⟨1, (), rfl, tq_at (s := 2) (by omega) (show 0 < n2 by omega) (show enA (nI ir_15) p2 (sdX n2 see2 tm2 g2 ff2 fp2) _ from en_1 (by omega) (by rw [rdX]; exact inr (by omega) (by omega)) (is01 hw_16 c_17) (by rw [if_pos (show wayE (sdX n2 see2 tm2 g2 ff2 fp2) ir_15 < pGar (sdX n2 see2 tm2 g2 ff2 fp2) ir_15 by rw [← (show en2 ir_15 = wayE (sdX n2 see2 tm2 g2 ff2 fp2) ir_15 from ((hwy 2 (by omega) (show 0 < n2 by omega)) ir_15 (Nat.zero_le _) (show ir_15 ≤ tmD (sdX n2 see2 tm2 g2 ff2 fp2) by rw [tmX (by omega)]; omega)).1), ← xGar (fl := fl2) (hlt 2 (by omega) ir_15 (by omega)), ← hw_18]; exact Int32.not_le.mp c_19)])), trivial⟩, hS.F ht⟩) hS.2.2 dX7_end_79
        · refine lv_aload_n hx hb dX7_end_38 rfl (lv_at hl 0 rfl) ?_
          refine va_get (D := D) (ci := 7) (v := .ref (a 19)) (C := RX7) (T := TX7) (N := 12) hx hb hts inX7 hown hK hP 0 rfl rfl 2 (by decide) (hts _ tw_307) (fun _ h9 => h9) rfl dX7_end_39 ?_
          refine lv_iload_n hx hb dX7_end_42 rfl (lv_at hl 1 rfl) ?_
          refine va_aldq hx hb hK hP 2 4 rfl rfl (by unfold vp_in; decide) dX7_end_43 ?_
          refine lv_tr (y := .ref (a 30)) rfl ?_
          refine va_get (D := D) (ci := 0) (v := .ref (a 33)) (C := RX0) (T := TX0) (N := 5) hx hb hts inX0 hown hK hP 26 rfl rfl 3 (by decide) (hts _ tw_271) (fun _ h9 => h9) rfl dX7_end_44 ?_
          refine lv_iload_n hx hb dX7_end_47 rfl (lv_at hl 2 rfl) ?_
          refine va_iald hx hb hK hP 29 1 rfl rfl (vp_in_nI (by omega) (by decide)) dX7_end_48 ?_
          refine lv_ti (y := (en2 ir_15)) (by rw [nI_clamp (by omega)]) ?_
          exact W.iret (v := (en2 ir_15)) hx hb hr (fun t ht hW => ⟨⟨(en2 ir_15), (), rfl, tq_at (s := 2) (by omega) (show 0 < n2 by omega) (show enA (nI ir_15) p2 (sdX n2 see2 tm2 g2 ff2 fp2) _ from en_0 (by omega) (by rw [rdX]; exact inr (by omega) (by omega)) c_17 ((hwy 2 (by omega) (show 0 < n2 by omega)) ir_15 (Nat.zero_le _) (show ir_15 ≤ tmD (sdX n2 see2 tm2 g2 ff2 fp2) by rw [tmX (by omega)]; omega)).1), trivial⟩, hS.F ht⟩) hS.2.2 dX7_end_49
      · refine lv_if_ne (tgt := 34) hx hb dX7_end_27 (by decide) (fun h => absurd (by decide) h) (fun _ => ?_)
        refine lv_sipush (v := (-1002)) hx hb dX7_end_30 (by decide) ?_
        exact W.iret (v := (-1002)) hx hb hr (fun t ht hW => ⟨⟨(-1002), (), rfl, tq_at (s := 2) (by omega) (show 0 < n2 by omega) (show enA (nI ir_15) p2 (sdX n2 see2 tm2 g2 ff2 fp2) _ from en_o (fun h => absurd h.2 hw_16)), trivial⟩, hS.F ht⟩) hS.2.2 dX7_end_33
    · refine lv_if_eq (tgt := 30) hx hb dX7_end_18 (by decide) (fun _ => ?_) (fun h => absurd (by decide) h)
      refine lv_sipush (v := (-1002)) hx hb dX7_end_30 (by decide) ?_
      exact W.iret (v := (-1002)) hx hb hr (fun t ht hW => ⟨⟨(-1002), (), rfl, tq_at (s := 2) (by omega) (show 0 < n2 by omega) (show enA p1 p2 (sdX n2 see2 tm2 g2 ff2 fp2) _ from en_o (fun h => absurd h.1 (by rw [rdX]; exact hw_14))), trivial⟩, hS.F ht⟩) hS.2.2 dX7_end_33
  · refine lv_if_ne (tgt := 12) hx hb dX7_end_5 (by decide) (fun h => absurd (by decide) h) (fun _ => ?_)
    refine lv_sipush (v := (-1001)) hx hb dX7_end_8 (by decide) ?_
    exact W.iret (v := (-1001)) hx hb hr (fun t ht hW => ⟨⟨(-1001), (), rfl, tq_no (fun s h1 h2 h3 => hw_1 s h1 h2 (by rw [d3_n] at h3; exact h3)), trivial⟩, hS.F ht⟩) hS.2.2 dX7_end_11


set_option maxHeartbeats 4000000 in
set_option maxRecDepth 100000 in
theorem y_which (l : Launch) (D : va_G) (k : Nat → ClassId) (st : Nat → Nat) (lo : Nat) (a : Nat → Nat) (rk : Nat) (lfa : Int32) (n0 : Nat) (see0 : Nat) (tm0 : Nat) (g0 : Nat → Int32) (ff0 : Nat → Int32) (fp0 : Nat → Int32) (fl0 : Nat → Int32) (n1 : Nat) (see1 : Nat) (tm1 : Nat) (g1 : Nat → Int32) (ff1 : Nat → Int32) (fp1 : Nat → Int32) (fl1 : Nat → Int32) (n2 : Nat) (see2 : Nat) (tm2 : Nat) (g2 : Nat → Int32) (ff2 : Nat → Int32) (fp2 : Nat → Int32) (fl2 : Nat → Int32) (on0 : Nat → Int32) (sr0 : Nat → Int32) (en0 : Nat → Int32) (on1 : Nat → Int32) (sr1 : Nat → Int32) (en1 : Nat → Int32) (on2 : Nat → Int32) (sr2 : Nat → Int32) (en2 : Nat → Int32) (p0 : Int32) (p1 : Int32) (hn0 : n0 ≤ 24) (hse0 : see0 ≤ 2) (htm0 : tm0 ≤ 3) (hn1 : n1 ≤ 24) (hse1 : see1 ≤ 2) (htm1 : tm1 ≤ 3) (hn2 : n2 ≤ 24) (hse2 : see2 ≤ 2) (htm2 : tm2 ≤ 3) (hwy : wy3 (d3 (sdX n0 see0 tm0 g0 ff0 fp0) (sdX n1 see1 tm1 g1 ff1 fp1) (sdX n2 see2 tm2 g2 ff2 fp2)) (d3 on0 on1 on2) (d3 sr0 sr1 sr2) (d3 en0 en1 en2)) : CRi l D k st lo yX7_which cX7_which 3 (some .int) ({ frames := 2, cells := 0, slots := 0, locals := 41 }) [.ref (a 0), .int p0, .int p1] [((a 0), .inr (7, (fX7 (a 1) (a 3) (a 19) (a 35) (a 40) (nI rk) lfa (a 53) (a 56) (a 63) (a 64) (a 68)))), ((a 3), .inl (k 3, 3, .inr (.inr (.inr (.inr (a3 (a 4) (a 9) (a 14))))))), ((a 19), .inl (k 4, 3, .inr (.inr (.inr (.inr (a3 (a 20) (a 25) (a 30))))))), ((a 4), .inr (5, (fX5 (a 5) (a 6) (a 7) (a 8)))), (aI k (a 5) 10 (vv n0 see0 tm0 g0)), (aI k (a 6) 24 ff0), (aI k (a 7) 24 fp0), (aI k (a 8) 4 fl0), ((a 9), .inr (5, (fX5 (a 10) (a 11) (a 12) (a 13)))), (aI k (a 10) 10 (vv n1 see1 tm1 g1)), (aI k (a 11) 24 ff1), (aI k (a 12) 24 fp1), (aI k (a 13) 4 fl1), ((a 14), .inr (5, (fX5 (a 15) (a 16) (a 17) (a 18)))), (aI k (a 15) 10 (vv n2 see2 tm2 g2)), (aI k (a 16) 24 ff2), (aI k (a 17) 24 fp2), (aI k (a 18) 4 fl2), ((a 20), .inr (0, (fX0 (a 4) (a 21) (a 22) (a 23) (a 24)))), (aI k (a 21) 768 on0), (aI k (a 22) 4 sr0), (aI k (a 23) 4 en0), ((a 25), .inr (0, (fX0 (a 9) (a 26) (a 27) (a 28) (a 29)))), (aI k (a 26) 768 on1), (aI k (a 27) 4 sr1), (aI k (a 28) 4 en1), ((a 30), .inr (0, (fX0 (a 14) (a 31) (a 32) (a 33) (a 34)))), (aI k (a 31) 768 on2), (aI k (a 32) 4 sr2), (aI k (a 33) 4 en2)] (fun r => wcP (d3 (sdX n0 see0 tm0 g0 ff0 fp0) (sdX n1 see1 tm1 g1 ff1 fp1) (sdX n2 see2 tm2 g2 ff2 fp2)) p0 p1 r) := by
  intro sz
  refine Met.ofW (cc := cX7_which) (maxL := 3) (ret := (some .int)) (by decide) rfl ?_
  intro p e s m args below meth c s₁ B hml hv
  obtain ⟨rfl, hsz, hlo, hP, hK, hDL, hZ⟩ := hv
  have hx := B.exec
  have hb := B.bytes
  have hr := B.returns
  have hts := WS_ts B.pre
  have hown : s.vm.findClass RX7 = some m.cls := findClass_of_methodNamed B.named
  have hlocks := B.notSynchronized
  subst hsz
  have hA : ∀ q : Nat, s.heap.size ≤ q → (fun q : Nat => s.heap.size ≤ q) q := fun _ h => h
  have hAlo : ∀ q : Nat, (fun q : Nat => s.heap.size ≤ q) q → lo ≤ q := fun q h => Nat.le_trans hlo h
  have hS : va_S (fun q : Nat => s.heap.size ≤ q) s.heap s.heap [] := va_S.rf
  have hl := lv_entry ([.ref (a 0), .int p0, .int p1]) (n := 3) (Nat.le_of_ble_eq_true rfl)
  rw [lg_entry_eq]
  generalize (lg_sl ([.ref (a 0), .int p0, .int p1]) ++ List.replicate (3 - (lg_sl ([.ref (a 0), .int p0, .int p1])).length) Slot.unset).toArray = ls at hl ⊢
  have hl : lv_has ls 3 [(0, .ref (a 0)), (1, .int p0), (2, .int p1)] := hl
  refine lv_aload_n hx hb dX7_which_0 rfl (lv_at hl 0 rfl) ?_
  refine lv_iload_n hx hb dX7_which_1 rfl (lv_at hl 1 rfl) ?_
  refine ro_i (D := D) (va_runV (As := [.int p0]) (rest := []) ⟨hx, hb, hml, hown, hts⟩ ((y_isStreet l D k st lo a rk lfa n0 see0 tm0 g0 n1 see1 tm1 g1 n2 see2 tm2 g2 p0 (by first | assumption | omega) (by first | assumption | omega) (by first | assumption | omega)) s.heap.size) (cwV 1 hts (gV tw_589 tw_591 tw_8 tw_79 tw_592) rfl rfl rfl (by decide +kernel) ⟨Nat.le_of_ble_eq_true rfl, Nat.le_of_ble_eq_true rfl⟩) (pV hS hAlo hlo hP hK hDL hZ [0, 1, 3, 4, 8, 9, 13, 14] (by decide) rfl (ci := 7) (q := (RX7, TX7, 12)) (q0 := 0) rfl rfl) rfl rfl hl.1 rfl (lv_room (Nat.le_of_ble_eq_true rfl)) dX7_which_2 ⟨Nat.le_of_ble_eq_true rfl, Nat.le_of_ble_eq_true rfl⟩) hS hA hP (fun r_1 H locs hw_1 hP hS => ?_)
  try dsimp only at hw_1
  rcases hw_1 with ⟨rfl, ⟨rfl, hw_1⟩ | ⟨rfl, hw_1⟩ | ⟨rfl, hw_1⟩⟩ | ⟨rfl, hw_1⟩
  · refine lv_if_eq (tgt := 16) hx hb dX7_which_5 (by decide) (fun h => absurd h (by decide)) (fun _ => ?_)
    refine lv_aload_n hx hb dX7_which_8 rfl (lv_at hl 0 rfl) ?_
    refine lv_iload_n hx hb dX7_which_9 rfl (lv_at hl 2 rfl) ?_
    refine ro_i (D := D) (va_runV (As := [.int p1]) (rest := []) ⟨hx, hb, hml, hown, hts⟩ ((y_isStreet l D k st lo a rk lfa n0 see0 tm0 g0 n1 see1 tm1 g1 n2 see2 tm2 g2 p1 (by first | assumption | omega) (by first | assumption | omega) (by first | assumption | omega)) H.size) (cwV 1 hts (gV tw_589 tw_591 tw_8 tw_79 tw_592) rfl rfl rfl (by decide +kernel) ⟨Nat.le_of_ble_eq_true rfl, Nat.le_of_ble_eq_true rfl⟩) (pV hS hAlo hlo hP hK hDL hZ [0, 1, 3, 4, 8, 9, 13, 14] (by decide) rfl (ci := 7) (q := (RX7, TX7, 12)) (q0 := 0) rfl rfl) rfl rfl hl.1 rfl (lv_room (Nat.le_of_ble_eq_true rfl)) dX7_which_10 ⟨Nat.le_of_ble_eq_true rfl, Nat.le_of_ble_eq_true rfl⟩) hS hA hP (fun r_2 H locs hw_2 hP hS => ?_)
    try dsimp only at hw_2
    rcases hw_2 with ⟨rfl, ⟨rfl, hw_2⟩ | ⟨rfl, hw_2⟩ | ⟨rfl, hw_2⟩⟩ | ⟨rfl, hw_2⟩
    · refine lv_if_ne (tgt := 20) hx hb dX7_which_13 (by decide) (fun _ => ?_) (fun h => absurd h (by decide))
      refine lv_aload_n hx hb dX7_which_20 rfl (lv_at hl 0 rfl) ?_
      refine va_get (D := D) (ci := 7) (v := .ref (a 19)) (C := RX7) (T := TX7) (N := 12) hx hb hts inX7 hown hK hP 0 rfl rfl 2 (by decide) (hts _ tw_307) (fun _ h9 => h9) rfl dX7_which_21 ?_
      refine lv_iload_n hx hb dX7_which_24 rfl (lv_at hl 2 rfl) ?_
      refine va_aldq hx hb hK hP 2 4 rfl rfl (by unfold vp_in; decide) dX7_which_25 ?_
      refine lv_tr (y := .ref (a 20)) rfl ?_
      refine va_get (D := D) (ci := 0) (v := .ref (a 22)) (C := RX0) (T := TX0) (N := 5) hx hb hts inX0 hown hK hP 18 rfl rfl 2 (by decide) (hts _ tw_269) (fun _ h9 => h9) rfl dX7_which_26 ?_
      refine lv_iconst (v := 0) hx hb dX7_which_29 (by decide) ?_
      refine va_iald hx hb hK hP 20 1 rfl rfl (by unfold vp_in; decide) dX7_which_30 ?_
      refine lv_ti (y := (sr0 0)) (by rfl) ?_
      refine lv_aload_n hx hb dX7_which_31 rfl (lv_at hl 0 rfl) ?_
      refine va_get (D := D) (ci := 7) (v := .ref (a 19)) (C := RX7) (T := TX7) (N := 12) hx hb hts inX7 hown hK hP 0 rfl rfl 2 (by decide) (hts _ tw_307) (fun _ h9 => h9) rfl dX7_which_32 ?_
      refine lv_iload_n hx hb dX7_which_35 rfl (lv_at hl 1 rfl) ?_
      refine va_aldq hx hb hK hP 2 4 rfl rfl (by unfold vp_in; decide) dX7_which_36 ?_
      refine lv_tr (y := .ref (a 20)) rfl ?_
      refine va_get (D := D) (ci := 0) (v := .ref (a 22)) (C := RX0) (T := TX0) (N := 5) hx hb hts inX0 hown hK hP 18 rfl rfl 2 (by decide) (hts _ tw_269) (fun _ h9 => h9) rfl dX7_which_37 ?_
      refine lv_iconst (v := 0) hx hb dX7_which_40 (by decide) ?_
      refine va_iald hx hb hK hP 20 1 rfl rfl (by unfold vp_in; decide) dX7_which_41 ?_
      refine lv_ti (y := (sr0 0)) (by rfl) ?_
      refine lv_icmp_ge (tgt := 49) hx hb dX7_which_42 (by decide) (fun c_3 => ?_) (fun c_3 => ?_)
      · refine lv_iload_n hx hb dX7_which_49 rfl (lv_at hl 1 rfl) ?_
        exact W.iret (v := 0) hx hb hr (fun t ht hW => ⟨⟨0, (), rfl, wc_at (s := 0) (t := 0) (by omega) (by omega) (show 0 < n0 by omega) (show 0 < n0 by omega) (by show _ = if wayS (sdX n0 see0 tm0 g0 ff0 fp0) 0 < wayS (sdX n0 see0 tm0 g0 ff0 fp0) 0 then nI 0 else nI 0; rw [if_neg (show ¬ wayS (sdX n0 see0 tm0 g0 ff0 fp0) 0 < wayS (sdX n0 see0 tm0 g0 ff0 fp0) 0 by rw [← (show sr0 0 = wayS (sdX n0 see0 tm0 g0 ff0 fp0) 0 from ((hwy 0 (by omega) (show 0 < n0 by omega)) 0 (Nat.zero_le _) (Nat.zero_le _)).2.1)]; exact Int32.not_lt.mpr c_3)]; rfl), trivial⟩, hS.F ht⟩) hS.2.2 dX7_which_50
      · refine lv_iload_n hx hb dX7_which_45 rfl (lv_at hl 2 rfl) ?_
        refine lv_goto (tgt := 50) hx hb dX7_which_46 (by decide) ?_
        exact W.iret (v := 0) hx hb hr (fun t ht hW => ⟨⟨0, (), rfl, wc_at (s := 0) (t := 0) (by omega) (by omega) (show 0 < n0 by omega) (show 0 < n0 by omega) (by show _ = if wayS (sdX n0 see0 tm0 g0 ff0 fp0) 0 < wayS (sdX n0 see0 tm0 g0 ff0 fp0) 0 then nI 0 else nI 0; rw [if_pos (show wayS (sdX n0 see0 tm0 g0 ff0 fp0) 0 < wayS (sdX n0 see0 tm0 g0 ff0 fp0) 0 by rw [← (show sr0 0 = wayS (sdX n0 see0 tm0 g0 ff0 fp0) 0 from ((hwy 0 (by omega) (show 0 < n0 by omega)) 0 (Nat.zero_le _) (Nat.zero_le _)).2.1)]; exact Int32.not_le.mp c_3)]; rfl), trivial⟩, hS.F ht⟩) hS.2.2 dX7_which_50
    · refine lv_if_ne (tgt := 20) hx hb dX7_which_13 (by decide) (fun _ => ?_) (fun h => absurd h (by decide))
      refine lv_aload_n hx hb dX7_which_20 rfl (lv_at hl 0 rfl) ?_
      refine va_get (D := D) (ci := 7) (v := .ref (a 19)) (C := RX7) (T := TX7) (N := 12) hx hb hts inX7 hown hK hP 0 rfl rfl 2 (by decide) (hts _ tw_307) (fun _ h9 => h9) rfl dX7_which_21 ?_
      refine lv_iload_n hx hb dX7_which_24 rfl (lv_at hl 2 rfl) ?_
      refine va_aldq hx hb hK hP 2 4 rfl rfl (by unfold vp_in; decide) dX7_which_25 ?_
      refine lv_tr (y := .ref (a 25)) rfl ?_
      refine va_get (D := D) (ci := 0) (v := .ref (a 27)) (C := RX0) (T := TX0) (N := 5) hx hb hts inX0 hown hK hP 22 rfl rfl 2 (by decide) (hts _ tw_269) (fun _ h9 => h9) rfl dX7_which_26 ?_
      refine lv_iconst (v := 0) hx hb dX7_which_29 (by decide) ?_
      refine va_iald hx hb hK hP 24 1 rfl rfl (by unfold vp_in; decide) dX7_which_30 ?_
      refine lv_ti (y := (sr1 0)) (by rfl) ?_
      refine lv_aload_n hx hb dX7_which_31 rfl (lv_at hl 0 rfl) ?_
      refine va_get (D := D) (ci := 7) (v := .ref (a 19)) (C := RX7) (T := TX7) (N := 12) hx hb hts inX7 hown hK hP 0 rfl rfl 2 (by decide) (hts _ tw_307) (fun _ h9 => h9) rfl dX7_which_32 ?_
      refine lv_iload_n hx hb dX7_which_35 rfl (lv_at hl 1 rfl) ?_
      refine va_aldq hx hb hK hP 2 4 rfl rfl (by unfold vp_in; decide) dX7_which_36 ?_
      refine lv_tr (y := .ref (a 20)) rfl ?_
      refine va_get (D := D) (ci := 0) (v := .ref (a 22)) (C := RX0) (T := TX0) (N := 5) hx hb hts inX0 hown hK hP 18 rfl rfl 2 (by decide) (hts _ tw_269) (fun _ h9 => h9) rfl dX7_which_37 ?_
      refine lv_iconst (v := 0) hx hb dX7_which_40 (by decide) ?_
      refine va_iald hx hb hK hP 20 1 rfl rfl (by unfold vp_in; decide) dX7_which_41 ?_
      refine lv_ti (y := (sr0 0)) (by rfl) ?_
      refine lv_icmp_ge (tgt := 49) hx hb dX7_which_42 (by decide) (fun c_4 => ?_) (fun c_4 => ?_)
      · refine lv_iload_n hx hb dX7_which_49 rfl (lv_at hl 1 rfl) ?_
        exact W.iret (v := 0) hx hb hr (fun t ht hW => ⟨⟨0, (), rfl, wc_at (s := 0) (t := 1) (by omega) (by omega) (show 0 < n0 by omega) (show 0 < n1 by omega) (by show _ = if wayS (sdX n1 see1 tm1 g1 ff1 fp1) 0 < wayS (sdX n0 see0 tm0 g0 ff0 fp0) 0 then nI 1 else nI 0; rw [if_neg (show ¬ wayS (sdX n1 see1 tm1 g1 ff1 fp1) 0 < wayS (sdX n0 see0 tm0 g0 ff0 fp0) 0 by rw [← (show sr1 0 = wayS (sdX n1 see1 tm1 g1 ff1 fp1) 0 from ((hwy 1 (by omega) (show 0 < n1 by omega)) 0 (Nat.zero_le _) (Nat.zero_le _)).2.1), ← (show sr0 0 = wayS (sdX n0 see0 tm0 g0 ff0 fp0) 0 from ((hwy 0 (by omega) (show 0 < n0 by omega)) 0 (Nat.zero_le _) (Nat.zero_le _)).2.1)]; exact Int32.not_lt.mpr c_4)]; rfl), trivial⟩, hS.F ht⟩) hS.2.2 dX7_which_50
      · refine lv_iload_n hx hb dX7_which_45 rfl (lv_at hl 2 rfl) ?_
        refine lv_goto (tgt := 50) hx hb dX7_which_46 (by decide) ?_
        exact W.iret (v := 1) hx hb hr (fun t ht hW => ⟨⟨1, (), rfl, wc_at (s := 0) (t := 1) (by omega) (by omega) (show 0 < n0 by omega) (show 0 < n1 by omega) (by show _ = if wayS (sdX n1 see1 tm1 g1 ff1 fp1) 0 < wayS (sdX n0 see0 tm0 g0 ff0 fp0) 0 then nI 1 else nI 0; rw [if_pos (show wayS (sdX n1 see1 tm1 g1 ff1 fp1) 0 < wayS (sdX n0 see0 tm0 g0 ff0 fp0) 0 by rw [← (show sr1 0 = wayS (sdX n1 see1 tm1 g1 ff1 fp1) 0 from ((hwy 1 (by omega) (show 0 < n1 by omega)) 0 (Nat.zero_le _) (Nat.zero_le _)).2.1), ← (show sr0 0 = wayS (sdX n0 see0 tm0 g0 ff0 fp0) 0 from ((hwy 0 (by omega) (show 0 < n0 by omega)) 0 (Nat.zero_le _) (Nat.zero_le _)).2.1)]; exact Int32.not_le.mp c_4)]; rfl), trivial⟩, hS.F ht⟩) hS.2.2 dX7_which_50
    · refine lv_if_ne (tgt := 20) hx hb dX7_which_13 (by decide) (fun _ => ?_) (fun h => absurd h (by decide))
      refine lv_aload_n hx hb dX7_which_20 rfl (lv_at hl 0 rfl) ?_
      refine va_get (D := D) (ci := 7) (v := .ref (a 19)) (C := RX7) (T := TX7) (N := 12) hx hb hts inX7 hown hK hP 0 rfl rfl 2 (by decide) (hts _ tw_307) (fun _ h9 => h9) rfl dX7_which_21 ?_
      refine lv_iload_n hx hb dX7_which_24 rfl (lv_at hl 2 rfl) ?_
      refine va_aldq hx hb hK hP 2 4 rfl rfl (by unfold vp_in; decide) dX7_which_25 ?_
      refine lv_tr (y := .ref (a 30)) rfl ?_
      refine va_get (D := D) (ci := 0) (v := .ref (a 32)) (C := RX0) (T := TX0) (N := 5) hx hb hts inX0 hown hK hP 26 rfl rfl 2 (by decide) (hts _ tw_269) (fun _ h9 => h9) rfl dX7_which_26 ?_
      refine lv_iconst (v := 0) hx hb dX7_which_29 (by decide) ?_
      refine va_iald hx hb hK hP 28 1 rfl rfl (by unfold vp_in; decide) dX7_which_30 ?_
      refine lv_ti (y := (sr2 0)) (by rfl) ?_
      refine lv_aload_n hx hb dX7_which_31 rfl (lv_at hl 0 rfl) ?_
      refine va_get (D := D) (ci := 7) (v := .ref (a 19)) (C := RX7) (T := TX7) (N := 12) hx hb hts inX7 hown hK hP 0 rfl rfl 2 (by decide) (hts _ tw_307) (fun _ h9 => h9) rfl dX7_which_32 ?_
      refine lv_iload_n hx hb dX7_which_35 rfl (lv_at hl 1 rfl) ?_
      refine va_aldq hx hb hK hP 2 4 rfl rfl (by unfold vp_in; decide) dX7_which_36 ?_
      refine lv_tr (y := .ref (a 20)) rfl ?_
      refine va_get (D := D) (ci := 0) (v := .ref (a 22)) (C := RX0) (T := TX0) (N := 5) hx hb hts inX0 hown hK hP 18 rfl rfl 2 (by decide) (hts _ tw_269) (fun _ h9 => h9) rfl dX7_which_37 ?_
      refine lv_iconst (v := 0) hx hb dX7_which_40 (by decide) ?_
      refine va_iald hx hb hK hP 20 1 rfl rfl (by unfold vp_in; decide) dX7_which_41 ?_
      refine lv_ti (y := (sr0 0)) (by rfl) ?_
      refine lv_icmp_ge (tgt := 49) hx hb dX7_which_42 (by decide) (fun c_5 => ?_) (fun c_5 => ?_)
      · refine lv_iload_n hx hb dX7_which_49 rfl (lv_at hl 1 rfl) ?_
        exact W.iret (v := 0) hx hb hr (fun t ht hW => ⟨⟨0, (), rfl, wc_at (s := 0) (t := 2) (by omega) (by omega) (show 0 < n0 by omega) (show 0 < n2 by omega) (by show _ = if wayS (sdX n2 see2 tm2 g2 ff2 fp2) 0 < wayS (sdX n0 see0 tm0 g0 ff0 fp0) 0 then nI 2 else nI 0; rw [if_neg (show ¬ wayS (sdX n2 see2 tm2 g2 ff2 fp2) 0 < wayS (sdX n0 see0 tm0 g0 ff0 fp0) 0 by rw [← (show sr2 0 = wayS (sdX n2 see2 tm2 g2 ff2 fp2) 0 from ((hwy 2 (by omega) (show 0 < n2 by omega)) 0 (Nat.zero_le _) (Nat.zero_le _)).2.1), ← (show sr0 0 = wayS (sdX n0 see0 tm0 g0 ff0 fp0) 0 from ((hwy 0 (by omega) (show 0 < n0 by omega)) 0 (Nat.zero_le _) (Nat.zero_le _)).2.1)]; exact Int32.not_lt.mpr c_5)]; rfl), trivial⟩, hS.F ht⟩) hS.2.2 dX7_which_50
      · refine lv_iload_n hx hb dX7_which_45 rfl (lv_at hl 2 rfl) ?_
        refine lv_goto (tgt := 50) hx hb dX7_which_46 (by decide) ?_
        exact W.iret (v := 2) hx hb hr (fun t ht hW => ⟨⟨2, (), rfl, wc_at (s := 0) (t := 2) (by omega) (by omega) (show 0 < n0 by omega) (show 0 < n2 by omega) (by show _ = if wayS (sdX n2 see2 tm2 g2 ff2 fp2) 0 < wayS (sdX n0 see0 tm0 g0 ff0 fp0) 0 then nI 2 else nI 0; rw [if_pos (show wayS (sdX n2 see2 tm2 g2 ff2 fp2) 0 < wayS (sdX n0 see0 tm0 g0 ff0 fp0) 0 by rw [← (show sr2 0 = wayS (sdX n2 see2 tm2 g2 ff2 fp2) 0 from ((hwy 2 (by omega) (show 0 < n2 by omega)) 0 (Nat.zero_le _) (Nat.zero_le _)).2.1), ← (show sr0 0 = wayS (sdX n0 see0 tm0 g0 ff0 fp0) 0 from ((hwy 0 (by omega) (show 0 < n0 by omega)) 0 (Nat.zero_le _) (Nat.zero_le _)).2.1)]; exact Int32.not_le.mp c_5)]; rfl), trivial⟩, hS.F ht⟩) hS.2.2 dX7_which_50
    · refine lv_if_ne (tgt := 20) hx hb dX7_which_13 (by decide) (fun h => absurd (by decide) h) (fun _ => ?_)
      refine lv_sipush (v := (-1001)) hx hb dX7_which_16 (by decide) ?_
      exact W.iret (v := (-1001)) hx hb hr (fun t ht hW => ⟨⟨(-1001), (), rfl, wc_no1 (fun s h1 h2 h3 => hw_2 s h1 h2 (by rw [d3_n] at h3; exact h3)), trivial⟩, hS.F ht⟩) hS.2.2 dX7_which_19
  · refine lv_if_eq (tgt := 16) hx hb dX7_which_5 (by decide) (fun h => absurd h (by decide)) (fun _ => ?_)
    refine lv_aload_n hx hb dX7_which_8 rfl (lv_at hl 0 rfl) ?_
    refine lv_iload_n hx hb dX7_which_9 rfl (lv_at hl 2 rfl) ?_
    refine ro_i (D := D) (va_runV (As := [.int p1]) (rest := []) ⟨hx, hb, hml, hown, hts⟩ ((y_isStreet l D k st lo a rk lfa n0 see0 tm0 g0 n1 see1 tm1 g1 n2 see2 tm2 g2 p1 (by first | assumption | omega) (by first | assumption | omega) (by first | assumption | omega)) H.size) (cwV 1 hts (gV tw_589 tw_591 tw_8 tw_79 tw_592) rfl rfl rfl (by decide +kernel) ⟨Nat.le_of_ble_eq_true rfl, Nat.le_of_ble_eq_true rfl⟩) (pV hS hAlo hlo hP hK hDL hZ [0, 1, 3, 4, 8, 9, 13, 14] (by decide) rfl (ci := 7) (q := (RX7, TX7, 12)) (q0 := 0) rfl rfl) rfl rfl hl.1 rfl (lv_room (Nat.le_of_ble_eq_true rfl)) dX7_which_10 ⟨Nat.le_of_ble_eq_true rfl, Nat.le_of_ble_eq_true rfl⟩) hS hA hP (fun r_6 H locs hw_6 hP hS => ?_)
    try dsimp only at hw_6
    rcases hw_6 with ⟨rfl, ⟨rfl, hw_6⟩ | ⟨rfl, hw_6⟩ | ⟨rfl, hw_6⟩⟩ | ⟨rfl, hw_6⟩
    · refine lv_if_ne (tgt := 20) hx hb dX7_which_13 (by decide) (fun _ => ?_) (fun h => absurd h (by decide))
      refine lv_aload_n hx hb dX7_which_20 rfl (lv_at hl 0 rfl) ?_
      refine va_get (D := D) (ci := 7) (v := .ref (a 19)) (C := RX7) (T := TX7) (N := 12) hx hb hts inX7 hown hK hP 0 rfl rfl 2 (by decide) (hts _ tw_307) (fun _ h9 => h9) rfl dX7_which_21 ?_
      refine lv_iload_n hx hb dX7_which_24 rfl (lv_at hl 2 rfl) ?_
      refine va_aldq hx hb hK hP 2 4 rfl rfl (by unfold vp_in; decide) dX7_which_25 ?_
      refine lv_tr (y := .ref (a 20)) rfl ?_
      refine va_get (D := D) (ci := 0) (v := .ref (a 22)) (C := RX0) (T := TX0) (N := 5) hx hb hts inX0 hown hK hP 18 rfl rfl 2 (by decide) (hts _ tw_269) (fun _ h9 => h9) rfl dX7_which_26 ?_
      refine lv_iconst (v := 0) hx hb dX7_which_29 (by decide) ?_
      refine va_iald hx hb hK hP 20 1 rfl rfl (by unfold vp_in; decide) dX7_which_30 ?_
      refine lv_ti (y := (sr0 0)) (by rfl) ?_
      refine lv_aload_n hx hb dX7_which_31 rfl (lv_at hl 0 rfl) ?_
      refine va_get (D := D) (ci := 7) (v := .ref (a 19)) (C := RX7) (T := TX7) (N := 12) hx hb hts inX7 hown hK hP 0 rfl rfl 2 (by decide) (hts _ tw_307) (fun _ h9 => h9) rfl dX7_which_32 ?_
      refine lv_iload_n hx hb dX7_which_35 rfl (lv_at hl 1 rfl) ?_
      refine va_aldq hx hb hK hP 2 4 rfl rfl (by unfold vp_in; decide) dX7_which_36 ?_
      refine lv_tr (y := .ref (a 25)) rfl ?_
      refine va_get (D := D) (ci := 0) (v := .ref (a 27)) (C := RX0) (T := TX0) (N := 5) hx hb hts inX0 hown hK hP 22 rfl rfl 2 (by decide) (hts _ tw_269) (fun _ h9 => h9) rfl dX7_which_37 ?_
      refine lv_iconst (v := 0) hx hb dX7_which_40 (by decide) ?_
      refine va_iald hx hb hK hP 24 1 rfl rfl (by unfold vp_in; decide) dX7_which_41 ?_
      refine lv_ti (y := (sr1 0)) (by rfl) ?_
      refine lv_icmp_ge (tgt := 49) hx hb dX7_which_42 (by decide) (fun c_7 => ?_) (fun c_7 => ?_)
      · refine lv_iload_n hx hb dX7_which_49 rfl (lv_at hl 1 rfl) ?_
        exact W.iret (v := 1) hx hb hr (fun t ht hW => ⟨⟨1, (), rfl, wc_at (s := 1) (t := 0) (by omega) (by omega) (show 0 < n1 by omega) (show 0 < n0 by omega) (by show _ = if wayS (sdX n0 see0 tm0 g0 ff0 fp0) 0 < wayS (sdX n1 see1 tm1 g1 ff1 fp1) 0 then nI 0 else nI 1; rw [if_neg (show ¬ wayS (sdX n0 see0 tm0 g0 ff0 fp0) 0 < wayS (sdX n1 see1 tm1 g1 ff1 fp1) 0 by rw [← (show sr0 0 = wayS (sdX n0 see0 tm0 g0 ff0 fp0) 0 from ((hwy 0 (by omega) (show 0 < n0 by omega)) 0 (Nat.zero_le _) (Nat.zero_le _)).2.1), ← (show sr1 0 = wayS (sdX n1 see1 tm1 g1 ff1 fp1) 0 from ((hwy 1 (by omega) (show 0 < n1 by omega)) 0 (Nat.zero_le _) (Nat.zero_le _)).2.1)]; exact Int32.not_lt.mpr c_7)]; rfl), trivial⟩, hS.F ht⟩) hS.2.2 dX7_which_50
      · refine lv_iload_n hx hb dX7_which_45 rfl (lv_at hl 2 rfl) ?_
        refine lv_goto (tgt := 50) hx hb dX7_which_46 (by decide) ?_
        exact W.iret (v := 0) hx hb hr (fun t ht hW => ⟨⟨0, (), rfl, wc_at (s := 1) (t := 0) (by omega) (by omega) (show 0 < n1 by omega) (show 0 < n0 by omega) (by show _ = if wayS (sdX n0 see0 tm0 g0 ff0 fp0) 0 < wayS (sdX n1 see1 tm1 g1 ff1 fp1) 0 then nI 0 else nI 1; rw [if_pos (show wayS (sdX n0 see0 tm0 g0 ff0 fp0) 0 < wayS (sdX n1 see1 tm1 g1 ff1 fp1) 0 by rw [← (show sr0 0 = wayS (sdX n0 see0 tm0 g0 ff0 fp0) 0 from ((hwy 0 (by omega) (show 0 < n0 by omega)) 0 (Nat.zero_le _) (Nat.zero_le _)).2.1), ← (show sr1 0 = wayS (sdX n1 see1 tm1 g1 ff1 fp1) 0 from ((hwy 1 (by omega) (show 0 < n1 by omega)) 0 (Nat.zero_le _) (Nat.zero_le _)).2.1)]; exact Int32.not_le.mp c_7)]; rfl), trivial⟩, hS.F ht⟩) hS.2.2 dX7_which_50
    · refine lv_if_ne (tgt := 20) hx hb dX7_which_13 (by decide) (fun _ => ?_) (fun h => absurd h (by decide))
      refine lv_aload_n hx hb dX7_which_20 rfl (lv_at hl 0 rfl) ?_
      refine va_get (D := D) (ci := 7) (v := .ref (a 19)) (C := RX7) (T := TX7) (N := 12) hx hb hts inX7 hown hK hP 0 rfl rfl 2 (by decide) (hts _ tw_307) (fun _ h9 => h9) rfl dX7_which_21 ?_
      refine lv_iload_n hx hb dX7_which_24 rfl (lv_at hl 2 rfl) ?_
      refine va_aldq hx hb hK hP 2 4 rfl rfl (by unfold vp_in; decide) dX7_which_25 ?_
      refine lv_tr (y := .ref (a 25)) rfl ?_
      refine va_get (D := D) (ci := 0) (v := .ref (a 27)) (C := RX0) (T := TX0) (N := 5) hx hb hts inX0 hown hK hP 22 rfl rfl 2 (by decide) (hts _ tw_269) (fun _ h9 => h9) rfl dX7_which_26 ?_
      refine lv_iconst (v := 0) hx hb dX7_which_29 (by decide) ?_
      refine va_iald hx hb hK hP 24 1 rfl rfl (by unfold vp_in; decide) dX7_which_30 ?_
      refine lv_ti (y := (sr1 0)) (by rfl) ?_
      refine lv_aload_n hx hb dX7_which_31 rfl (lv_at hl 0 rfl) ?_
      refine va_get (D := D) (ci := 7) (v := .ref (a 19)) (C := RX7) (T := TX7) (N := 12) hx hb hts inX7 hown hK hP 0 rfl rfl 2 (by decide) (hts _ tw_307) (fun _ h9 => h9) rfl dX7_which_32 ?_
      refine lv_iload_n hx hb dX7_which_35 rfl (lv_at hl 1 rfl) ?_
      refine va_aldq hx hb hK hP 2 4 rfl rfl (by unfold vp_in; decide) dX7_which_36 ?_
      refine lv_tr (y := .ref (a 25)) rfl ?_
      refine va_get (D := D) (ci := 0) (v := .ref (a 27)) (C := RX0) (T := TX0) (N := 5) hx hb hts inX0 hown hK hP 22 rfl rfl 2 (by decide) (hts _ tw_269) (fun _ h9 => h9) rfl dX7_which_37 ?_
      refine lv_iconst (v := 0) hx hb dX7_which_40 (by decide) ?_
      refine va_iald hx hb hK hP 24 1 rfl rfl (by unfold vp_in; decide) dX7_which_41 ?_
      refine lv_ti (y := (sr1 0)) (by rfl) ?_
      refine lv_icmp_ge (tgt := 49) hx hb dX7_which_42 (by decide) (fun c_8 => ?_) (fun c_8 => ?_)
      · refine lv_iload_n hx hb dX7_which_49 rfl (lv_at hl 1 rfl) ?_
        exact W.iret (v := 1) hx hb hr (fun t ht hW => ⟨⟨1, (), rfl, wc_at (s := 1) (t := 1) (by omega) (by omega) (show 0 < n1 by omega) (show 0 < n1 by omega) (by show _ = if wayS (sdX n1 see1 tm1 g1 ff1 fp1) 0 < wayS (sdX n1 see1 tm1 g1 ff1 fp1) 0 then nI 1 else nI 1; rw [if_neg (show ¬ wayS (sdX n1 see1 tm1 g1 ff1 fp1) 0 < wayS (sdX n1 see1 tm1 g1 ff1 fp1) 0 by rw [← (show sr1 0 = wayS (sdX n1 see1 tm1 g1 ff1 fp1) 0 from ((hwy 1 (by omega) (show 0 < n1 by omega)) 0 (Nat.zero_le _) (Nat.zero_le _)).2.1)]; exact Int32.not_lt.mpr c_8)]; rfl), trivial⟩, hS.F ht⟩) hS.2.2 dX7_which_50
      · refine lv_iload_n hx hb dX7_which_45 rfl (lv_at hl 2 rfl) ?_
        refine lv_goto (tgt := 50) hx hb dX7_which_46 (by decide) ?_
        exact W.iret (v := 1) hx hb hr (fun t ht hW => ⟨⟨1, (), rfl, wc_at (s := 1) (t := 1) (by omega) (by omega) (show 0 < n1 by omega) (show 0 < n1 by omega) (by show _ = if wayS (sdX n1 see1 tm1 g1 ff1 fp1) 0 < wayS (sdX n1 see1 tm1 g1 ff1 fp1) 0 then nI 1 else nI 1; rw [if_pos (show wayS (sdX n1 see1 tm1 g1 ff1 fp1) 0 < wayS (sdX n1 see1 tm1 g1 ff1 fp1) 0 by rw [← (show sr1 0 = wayS (sdX n1 see1 tm1 g1 ff1 fp1) 0 from ((hwy 1 (by omega) (show 0 < n1 by omega)) 0 (Nat.zero_le _) (Nat.zero_le _)).2.1)]; exact Int32.not_le.mp c_8)]; rfl), trivial⟩, hS.F ht⟩) hS.2.2 dX7_which_50
    · refine lv_if_ne (tgt := 20) hx hb dX7_which_13 (by decide) (fun _ => ?_) (fun h => absurd h (by decide))
      refine lv_aload_n hx hb dX7_which_20 rfl (lv_at hl 0 rfl) ?_
      refine va_get (D := D) (ci := 7) (v := .ref (a 19)) (C := RX7) (T := TX7) (N := 12) hx hb hts inX7 hown hK hP 0 rfl rfl 2 (by decide) (hts _ tw_307) (fun _ h9 => h9) rfl dX7_which_21 ?_
      refine lv_iload_n hx hb dX7_which_24 rfl (lv_at hl 2 rfl) ?_
      refine va_aldq hx hb hK hP 2 4 rfl rfl (by unfold vp_in; decide) dX7_which_25 ?_
      refine lv_tr (y := .ref (a 30)) rfl ?_
      refine va_get (D := D) (ci := 0) (v := .ref (a 32)) (C := RX0) (T := TX0) (N := 5) hx hb hts inX0 hown hK hP 26 rfl rfl 2 (by decide) (hts _ tw_269) (fun _ h9 => h9) rfl dX7_which_26 ?_
      refine lv_iconst (v := 0) hx hb dX7_which_29 (by decide) ?_
      refine va_iald hx hb hK hP 28 1 rfl rfl (by unfold vp_in; decide) dX7_which_30 ?_
      refine lv_ti (y := (sr2 0)) (by rfl) ?_
      refine lv_aload_n hx hb dX7_which_31 rfl (lv_at hl 0 rfl) ?_
      refine va_get (D := D) (ci := 7) (v := .ref (a 19)) (C := RX7) (T := TX7) (N := 12) hx hb hts inX7 hown hK hP 0 rfl rfl 2 (by decide) (hts _ tw_307) (fun _ h9 => h9) rfl dX7_which_32 ?_
      refine lv_iload_n hx hb dX7_which_35 rfl (lv_at hl 1 rfl) ?_
      refine va_aldq hx hb hK hP 2 4 rfl rfl (by unfold vp_in; decide) dX7_which_36 ?_
      refine lv_tr (y := .ref (a 25)) rfl ?_
      refine va_get (D := D) (ci := 0) (v := .ref (a 27)) (C := RX0) (T := TX0) (N := 5) hx hb hts inX0 hown hK hP 22 rfl rfl 2 (by decide) (hts _ tw_269) (fun _ h9 => h9) rfl dX7_which_37 ?_
      refine lv_iconst (v := 0) hx hb dX7_which_40 (by decide) ?_
      refine va_iald hx hb hK hP 24 1 rfl rfl (by unfold vp_in; decide) dX7_which_41 ?_
      refine lv_ti (y := (sr1 0)) (by rfl) ?_
      refine lv_icmp_ge (tgt := 49) hx hb dX7_which_42 (by decide) (fun c_9 => ?_) (fun c_9 => ?_)
      · refine lv_iload_n hx hb dX7_which_49 rfl (lv_at hl 1 rfl) ?_
        exact W.iret (v := 1) hx hb hr (fun t ht hW => ⟨⟨1, (), rfl, wc_at (s := 1) (t := 2) (by omega) (by omega) (show 0 < n1 by omega) (show 0 < n2 by omega) (by show _ = if wayS (sdX n2 see2 tm2 g2 ff2 fp2) 0 < wayS (sdX n1 see1 tm1 g1 ff1 fp1) 0 then nI 2 else nI 1; rw [if_neg (show ¬ wayS (sdX n2 see2 tm2 g2 ff2 fp2) 0 < wayS (sdX n1 see1 tm1 g1 ff1 fp1) 0 by rw [← (show sr2 0 = wayS (sdX n2 see2 tm2 g2 ff2 fp2) 0 from ((hwy 2 (by omega) (show 0 < n2 by omega)) 0 (Nat.zero_le _) (Nat.zero_le _)).2.1), ← (show sr1 0 = wayS (sdX n1 see1 tm1 g1 ff1 fp1) 0 from ((hwy 1 (by omega) (show 0 < n1 by omega)) 0 (Nat.zero_le _) (Nat.zero_le _)).2.1)]; exact Int32.not_lt.mpr c_9)]; rfl), trivial⟩, hS.F ht⟩) hS.2.2 dX7_which_50
      · refine lv_iload_n hx hb dX7_which_45 rfl (lv_at hl 2 rfl) ?_
        refine lv_goto (tgt := 50) hx hb dX7_which_46 (by decide) ?_
        exact W.iret (v := 2) hx hb hr (fun t ht hW => ⟨⟨2, (), rfl, wc_at (s := 1) (t := 2) (by omega) (by omega) (show 0 < n1 by omega) (show 0 < n2 by omega) (by show _ = if wayS (sdX n2 see2 tm2 g2 ff2 fp2) 0 < wayS (sdX n1 see1 tm1 g1 ff1 fp1) 0 then nI 2 else nI 1; rw [if_pos (show wayS (sdX n2 see2 tm2 g2 ff2 fp2) 0 < wayS (sdX n1 see1 tm1 g1 ff1 fp1) 0 by rw [← (show sr2 0 = wayS (sdX n2 see2 tm2 g2 ff2 fp2) 0 from ((hwy 2 (by omega) (show 0 < n2 by omega)) 0 (Nat.zero_le _) (Nat.zero_le _)).2.1), ← (show sr1 0 = wayS (sdX n1 see1 tm1 g1 ff1 fp1) 0 from ((hwy 1 (by omega) (show 0 < n1 by omega)) 0 (Nat.zero_le _) (Nat.zero_le _)).2.1)]; exact Int32.not_le.mp c_9)]; rfl), trivial⟩, hS.F ht⟩) hS.2.2 dX7_which_50
    · refine lv_if_ne (tgt := 20) hx hb dX7_which_13 (by decide) (fun h => absurd (by decide) h) (fun _ => ?_)
      refine lv_sipush (v := (-1001)) hx hb dX7_which_16 (by decide) ?_
      exact W.iret (v := (-1001)) hx hb hr (fun t ht hW => ⟨⟨(-1001), (), rfl, wc_no1 (fun s h1 h2 h3 => hw_6 s h1 h2 (by rw [d3_n] at h3; exact h3)), trivial⟩, hS.F ht⟩) hS.2.2 dX7_which_19
  · refine lv_if_eq (tgt := 16) hx hb dX7_which_5 (by decide) (fun h => absurd h (by decide)) (fun _ => ?_)
    refine lv_aload_n hx hb dX7_which_8 rfl (lv_at hl 0 rfl) ?_
    refine lv_iload_n hx hb dX7_which_9 rfl (lv_at hl 2 rfl) ?_
    refine ro_i (D := D) (va_runV (As := [.int p1]) (rest := []) ⟨hx, hb, hml, hown, hts⟩ ((y_isStreet l D k st lo a rk lfa n0 see0 tm0 g0 n1 see1 tm1 g1 n2 see2 tm2 g2 p1 (by first | assumption | omega) (by first | assumption | omega) (by first | assumption | omega)) H.size) (cwV 1 hts (gV tw_589 tw_591 tw_8 tw_79 tw_592) rfl rfl rfl (by decide +kernel) ⟨Nat.le_of_ble_eq_true rfl, Nat.le_of_ble_eq_true rfl⟩) (pV hS hAlo hlo hP hK hDL hZ [0, 1, 3, 4, 8, 9, 13, 14] (by decide) rfl (ci := 7) (q := (RX7, TX7, 12)) (q0 := 0) rfl rfl) rfl rfl hl.1 rfl (lv_room (Nat.le_of_ble_eq_true rfl)) dX7_which_10 ⟨Nat.le_of_ble_eq_true rfl, Nat.le_of_ble_eq_true rfl⟩) hS hA hP (fun r_10 H locs hw_10 hP hS => ?_)
    try dsimp only at hw_10
    rcases hw_10 with ⟨rfl, ⟨rfl, hw_10⟩ | ⟨rfl, hw_10⟩ | ⟨rfl, hw_10⟩⟩ | ⟨rfl, hw_10⟩
    · refine lv_if_ne (tgt := 20) hx hb dX7_which_13 (by decide) (fun _ => ?_) (fun h => absurd h (by decide))
      refine lv_aload_n hx hb dX7_which_20 rfl (lv_at hl 0 rfl) ?_
      refine va_get (D := D) (ci := 7) (v := .ref (a 19)) (C := RX7) (T := TX7) (N := 12) hx hb hts inX7 hown hK hP 0 rfl rfl 2 (by decide) (hts _ tw_307) (fun _ h9 => h9) rfl dX7_which_21 ?_
      refine lv_iload_n hx hb dX7_which_24 rfl (lv_at hl 2 rfl) ?_
      refine va_aldq hx hb hK hP 2 4 rfl rfl (by unfold vp_in; decide) dX7_which_25 ?_
      refine lv_tr (y := .ref (a 20)) rfl ?_
      refine va_get (D := D) (ci := 0) (v := .ref (a 22)) (C := RX0) (T := TX0) (N := 5) hx hb hts inX0 hown hK hP 18 rfl rfl 2 (by decide) (hts _ tw_269) (fun _ h9 => h9) rfl dX7_which_26 ?_
      refine lv_iconst (v := 0) hx hb dX7_which_29 (by decide) ?_
      refine va_iald hx hb hK hP 20 1 rfl rfl (by unfold vp_in; decide) dX7_which_30 ?_
      refine lv_ti (y := (sr0 0)) (by rfl) ?_
      refine lv_aload_n hx hb dX7_which_31 rfl (lv_at hl 0 rfl) ?_
      refine va_get (D := D) (ci := 7) (v := .ref (a 19)) (C := RX7) (T := TX7) (N := 12) hx hb hts inX7 hown hK hP 0 rfl rfl 2 (by decide) (hts _ tw_307) (fun _ h9 => h9) rfl dX7_which_32 ?_
      refine lv_iload_n hx hb dX7_which_35 rfl (lv_at hl 1 rfl) ?_
      refine va_aldq hx hb hK hP 2 4 rfl rfl (by unfold vp_in; decide) dX7_which_36 ?_
      refine lv_tr (y := .ref (a 30)) rfl ?_
      refine va_get (D := D) (ci := 0) (v := .ref (a 32)) (C := RX0) (T := TX0) (N := 5) hx hb hts inX0 hown hK hP 26 rfl rfl 2 (by decide) (hts _ tw_269) (fun _ h9 => h9) rfl dX7_which_37 ?_
      refine lv_iconst (v := 0) hx hb dX7_which_40 (by decide) ?_
      refine va_iald hx hb hK hP 28 1 rfl rfl (by unfold vp_in; decide) dX7_which_41 ?_
      refine lv_ti (y := (sr2 0)) (by rfl) ?_
      refine lv_icmp_ge (tgt := 49) hx hb dX7_which_42 (by decide) (fun c_11 => ?_) (fun c_11 => ?_)
      · refine lv_iload_n hx hb dX7_which_49 rfl (lv_at hl 1 rfl) ?_
        exact W.iret (v := 2) hx hb hr (fun t ht hW => ⟨⟨2, (), rfl, wc_at (s := 2) (t := 0) (by omega) (by omega) (show 0 < n2 by omega) (show 0 < n0 by omega) (by show _ = if wayS (sdX n0 see0 tm0 g0 ff0 fp0) 0 < wayS (sdX n2 see2 tm2 g2 ff2 fp2) 0 then nI 0 else nI 2; rw [if_neg (show ¬ wayS (sdX n0 see0 tm0 g0 ff0 fp0) 0 < wayS (sdX n2 see2 tm2 g2 ff2 fp2) 0 by rw [← (show sr0 0 = wayS (sdX n0 see0 tm0 g0 ff0 fp0) 0 from ((hwy 0 (by omega) (show 0 < n0 by omega)) 0 (Nat.zero_le _) (Nat.zero_le _)).2.1), ← (show sr2 0 = wayS (sdX n2 see2 tm2 g2 ff2 fp2) 0 from ((hwy 2 (by omega) (show 0 < n2 by omega)) 0 (Nat.zero_le _) (Nat.zero_le _)).2.1)]; exact Int32.not_lt.mpr c_11)]; rfl), trivial⟩, hS.F ht⟩) hS.2.2 dX7_which_50
      · refine lv_iload_n hx hb dX7_which_45 rfl (lv_at hl 2 rfl) ?_
        refine lv_goto (tgt := 50) hx hb dX7_which_46 (by decide) ?_
        exact W.iret (v := 0) hx hb hr (fun t ht hW => ⟨⟨0, (), rfl, wc_at (s := 2) (t := 0) (by omega) (by omega) (show 0 < n2 by omega) (show 0 < n0 by omega) (by show _ = if wayS (sdX n0 see0 tm0 g0 ff0 fp0) 0 < wayS (sdX n2 see2 tm2 g2 ff2 fp2) 0 then nI 0 else nI 2; rw [if_pos (show wayS (sdX n0 see0 tm0 g0 ff0 fp0) 0 < wayS (sdX n2 see2 tm2 g2 ff2 fp2) 0 by rw [← (show sr0 0 = wayS (sdX n0 see0 tm0 g0 ff0 fp0) 0 from ((hwy 0 (by omega) (show 0 < n0 by omega)) 0 (Nat.zero_le _) (Nat.zero_le _)).2.1), ← (show sr2 0 = wayS (sdX n2 see2 tm2 g2 ff2 fp2) 0 from ((hwy 2 (by omega) (show 0 < n2 by omega)) 0 (Nat.zero_le _) (Nat.zero_le _)).2.1)]; exact Int32.not_le.mp c_11)]; rfl), trivial⟩, hS.F ht⟩) hS.2.2 dX7_which_50
    · refine lv_if_ne (tgt := 20) hx hb dX7_which_13 (by decide) (fun _ => ?_) (fun h => absurd h (by decide))
      refine lv_aload_n hx hb dX7_which_20 rfl (lv_at hl 0 rfl) ?_
      refine va_get (D := D) (ci := 7) (v := .ref (a 19)) (C := RX7) (T := TX7) (N := 12) hx hb hts inX7 hown hK hP 0 rfl rfl 2 (by decide) (hts _ tw_307) (fun _ h9 => h9) rfl dX7_which_21 ?_
      refine lv_iload_n hx hb dX7_which_24 rfl (lv_at hl 2 rfl) ?_
      refine va_aldq hx hb hK hP 2 4 rfl rfl (by unfold vp_in; decide) dX7_which_25 ?_
      refine lv_tr (y := .ref (a 25)) rfl ?_
      refine va_get (D := D) (ci := 0) (v := .ref (a 27)) (C := RX0) (T := TX0) (N := 5) hx hb hts inX0 hown hK hP 22 rfl rfl 2 (by decide) (hts _ tw_269) (fun _ h9 => h9) rfl dX7_which_26 ?_
      refine lv_iconst (v := 0) hx hb dX7_which_29 (by decide) ?_
      refine va_iald hx hb hK hP 24 1 rfl rfl (by unfold vp_in; decide) dX7_which_30 ?_
      refine lv_ti (y := (sr1 0)) (by rfl) ?_
      refine lv_aload_n hx hb dX7_which_31 rfl (lv_at hl 0 rfl) ?_
      refine va_get (D := D) (ci := 7) (v := .ref (a 19)) (C := RX7) (T := TX7) (N := 12) hx hb hts inX7 hown hK hP 0 rfl rfl 2 (by decide) (hts _ tw_307) (fun _ h9 => h9) rfl dX7_which_32 ?_
      refine lv_iload_n hx hb dX7_which_35 rfl (lv_at hl 1 rfl) ?_
      refine va_aldq hx hb hK hP 2 4 rfl rfl (by unfold vp_in; decide) dX7_which_36 ?_
      refine lv_tr (y := .ref (a 30)) rfl ?_
      refine va_get (D := D) (ci := 0) (v := .ref (a 32)) (C := RX0) (T := TX0) (N := 5) hx hb hts inX0 hown hK hP 26 rfl rfl 2 (by decide) (hts _ tw_269) (fun _ h9 => h9) rfl dX7_which_37 ?_
      refine lv_iconst (v := 0) hx hb dX7_which_40 (by decide) ?_
      refine va_iald hx hb hK hP 28 1 rfl rfl (by unfold vp_in; decide) dX7_which_41 ?_
      refine lv_ti (y := (sr2 0)) (by rfl) ?_
      refine lv_icmp_ge (tgt := 49) hx hb dX7_which_42 (by decide) (fun c_12 => ?_) (fun c_12 => ?_)
      · refine lv_iload_n hx hb dX7_which_49 rfl (lv_at hl 1 rfl) ?_
        exact W.iret (v := 2) hx hb hr (fun t ht hW => ⟨⟨2, (), rfl, wc_at (s := 2) (t := 1) (by omega) (by omega) (show 0 < n2 by omega) (show 0 < n1 by omega) (by show _ = if wayS (sdX n1 see1 tm1 g1 ff1 fp1) 0 < wayS (sdX n2 see2 tm2 g2 ff2 fp2) 0 then nI 1 else nI 2; rw [if_neg (show ¬ wayS (sdX n1 see1 tm1 g1 ff1 fp1) 0 < wayS (sdX n2 see2 tm2 g2 ff2 fp2) 0 by rw [← (show sr1 0 = wayS (sdX n1 see1 tm1 g1 ff1 fp1) 0 from ((hwy 1 (by omega) (show 0 < n1 by omega)) 0 (Nat.zero_le _) (Nat.zero_le _)).2.1), ← (show sr2 0 = wayS (sdX n2 see2 tm2 g2 ff2 fp2) 0 from ((hwy 2 (by omega) (show 0 < n2 by omega)) 0 (Nat.zero_le _) (Nat.zero_le _)).2.1)]; exact Int32.not_lt.mpr c_12)]; rfl), trivial⟩, hS.F ht⟩) hS.2.2 dX7_which_50
      · refine lv_iload_n hx hb dX7_which_45 rfl (lv_at hl 2 rfl) ?_
        refine lv_goto (tgt := 50) hx hb dX7_which_46 (by decide) ?_
        exact W.iret (v := 1) hx hb hr (fun t ht hW => ⟨⟨1, (), rfl, wc_at (s := 2) (t := 1) (by omega) (by omega) (show 0 < n2 by omega) (show 0 < n1 by omega) (by show _ = if wayS (sdX n1 see1 tm1 g1 ff1 fp1) 0 < wayS (sdX n2 see2 tm2 g2 ff2 fp2) 0 then nI 1 else nI 2; rw [if_pos (show wayS (sdX n1 see1 tm1 g1 ff1 fp1) 0 < wayS (sdX n2 see2 tm2 g2 ff2 fp2) 0 by rw [← (show sr1 0 = wayS (sdX n1 see1 tm1 g1 ff1 fp1) 0 from ((hwy 1 (by omega) (show 0 < n1 by omega)) 0 (Nat.zero_le _) (Nat.zero_le _)).2.1), ← (show sr2 0 = wayS (sdX n2 see2 tm2 g2 ff2 fp2) 0 from ((hwy 2 (by omega) (show 0 < n2 by omega)) 0 (Nat.zero_le _) (Nat.zero_le _)).2.1)]; exact Int32.not_le.mp c_12)]; rfl), trivial⟩, hS.F ht⟩) hS.2.2 dX7_which_50
    · refine lv_if_ne (tgt := 20) hx hb dX7_which_13 (by decide) (fun _ => ?_) (fun h => absurd h (by decide))
      refine lv_aload_n hx hb dX7_which_20 rfl (lv_at hl 0 rfl) ?_
      refine va_get (D := D) (ci := 7) (v := .ref (a 19)) (C := RX7) (T := TX7) (N := 12) hx hb hts inX7 hown hK hP 0 rfl rfl 2 (by decide) (hts _ tw_307) (fun _ h9 => h9) rfl dX7_which_21 ?_
      refine lv_iload_n hx hb dX7_which_24 rfl (lv_at hl 2 rfl) ?_
      refine va_aldq hx hb hK hP 2 4 rfl rfl (by unfold vp_in; decide) dX7_which_25 ?_
      refine lv_tr (y := .ref (a 30)) rfl ?_
      refine va_get (D := D) (ci := 0) (v := .ref (a 32)) (C := RX0) (T := TX0) (N := 5) hx hb hts inX0 hown hK hP 26 rfl rfl 2 (by decide) (hts _ tw_269) (fun _ h9 => h9) rfl dX7_which_26 ?_
      refine lv_iconst (v := 0) hx hb dX7_which_29 (by decide) ?_
      refine va_iald hx hb hK hP 28 1 rfl rfl (by unfold vp_in; decide) dX7_which_30 ?_
      refine lv_ti (y := (sr2 0)) (by rfl) ?_
      refine lv_aload_n hx hb dX7_which_31 rfl (lv_at hl 0 rfl) ?_
      refine va_get (D := D) (ci := 7) (v := .ref (a 19)) (C := RX7) (T := TX7) (N := 12) hx hb hts inX7 hown hK hP 0 rfl rfl 2 (by decide) (hts _ tw_307) (fun _ h9 => h9) rfl dX7_which_32 ?_
      refine lv_iload_n hx hb dX7_which_35 rfl (lv_at hl 1 rfl) ?_
      refine va_aldq hx hb hK hP 2 4 rfl rfl (by unfold vp_in; decide) dX7_which_36 ?_
      refine lv_tr (y := .ref (a 30)) rfl ?_
      refine va_get (D := D) (ci := 0) (v := .ref (a 32)) (C := RX0) (T := TX0) (N := 5) hx hb hts inX0 hown hK hP 26 rfl rfl 2 (by decide) (hts _ tw_269) (fun _ h9 => h9) rfl dX7_which_37 ?_
      refine lv_iconst (v := 0) hx hb dX7_which_40 (by decide) ?_
      refine va_iald hx hb hK hP 28 1 rfl rfl (by unfold vp_in; decide) dX7_which_41 ?_
      refine lv_ti (y := (sr2 0)) (by rfl) ?_
      refine lv_icmp_ge (tgt := 49) hx hb dX7_which_42 (by decide) (fun c_13 => ?_) (fun c_13 => ?_)
      · refine lv_iload_n hx hb dX7_which_49 rfl (lv_at hl 1 rfl) ?_
        exact W.iret (v := 2) hx hb hr (fun t ht hW => ⟨⟨2, (), rfl, wc_at (s := 2) (t := 2) (by omega) (by omega) (show 0 < n2 by omega) (show 0 < n2 by omega) (by show _ = if wayS (sdX n2 see2 tm2 g2 ff2 fp2) 0 < wayS (sdX n2 see2 tm2 g2 ff2 fp2) 0 then nI 2 else nI 2; rw [if_neg (show ¬ wayS (sdX n2 see2 tm2 g2 ff2 fp2) 0 < wayS (sdX n2 see2 tm2 g2 ff2 fp2) 0 by rw [← (show sr2 0 = wayS (sdX n2 see2 tm2 g2 ff2 fp2) 0 from ((hwy 2 (by omega) (show 0 < n2 by omega)) 0 (Nat.zero_le _) (Nat.zero_le _)).2.1)]; exact Int32.not_lt.mpr c_13)]; rfl), trivial⟩, hS.F ht⟩) hS.2.2 dX7_which_50
      · refine lv_iload_n hx hb dX7_which_45 rfl (lv_at hl 2 rfl) ?_
        refine lv_goto (tgt := 50) hx hb dX7_which_46 (by decide) ?_
        exact W.iret (v := 2) hx hb hr (fun t ht hW => ⟨⟨2, (), rfl, wc_at (s := 2) (t := 2) (by omega) (by omega) (show 0 < n2 by omega) (show 0 < n2 by omega) (by show _ = if wayS (sdX n2 see2 tm2 g2 ff2 fp2) 0 < wayS (sdX n2 see2 tm2 g2 ff2 fp2) 0 then nI 2 else nI 2; rw [if_pos (show wayS (sdX n2 see2 tm2 g2 ff2 fp2) 0 < wayS (sdX n2 see2 tm2 g2 ff2 fp2) 0 by rw [← (show sr2 0 = wayS (sdX n2 see2 tm2 g2 ff2 fp2) 0 from ((hwy 2 (by omega) (show 0 < n2 by omega)) 0 (Nat.zero_le _) (Nat.zero_le _)).2.1)]; exact Int32.not_le.mp c_13)]; rfl), trivial⟩, hS.F ht⟩) hS.2.2 dX7_which_50
    · refine lv_if_ne (tgt := 20) hx hb dX7_which_13 (by decide) (fun h => absurd (by decide) h) (fun _ => ?_)
      refine lv_sipush (v := (-1001)) hx hb dX7_which_16 (by decide) ?_
      exact W.iret (v := (-1001)) hx hb hr (fun t ht hW => ⟨⟨(-1001), (), rfl, wc_no1 (fun s h1 h2 h3 => hw_10 s h1 h2 (by rw [d3_n] at h3; exact h3)), trivial⟩, hS.F ht⟩) hS.2.2 dX7_which_19
  · refine lv_if_eq (tgt := 16) hx hb dX7_which_5 (by decide) (fun _ => ?_) (fun h => absurd (by decide) h)
    refine lv_sipush (v := (-1001)) hx hb dX7_which_16 (by decide) ?_
    exact W.iret (v := (-1001)) hx hb hr (fun t ht hW => ⟨⟨(-1001), (), rfl, wc_no0 (fun s h1 h2 h3 => hw_1 s h1 h2 (by rw [d3_n] at h3; exact h3)), trivial⟩, hS.F ht⟩) hS.2.2 dX7_which_19

theorem f_glueP18 : True := trivial
theorem wmw_of {d : SDt} {on wo sr en gr : Nat → Int32} {r i g : Nat} (h : wmOK d (seD d) (tmD d) 0 on wo sr en gr) (hr : r ≤ tmD d) (hi : i < d.1) (hg : g < 2 ^ sqN (seD d) d.1 i) : wo (192 * r + 8 * i + g) = wayW d r i g ∧ on (192 * r + 8 * i + g) = wayO d r i g := by
  obtain ⟨-, -, -, h4, h5⟩ := h r (Nat.zero_le r) hr
  rw [show 192 * r + 8 * i + g = slN r i g by unfold slN; omega]
  exact ⟨h5 i (Nat.zero_le i) hi g hg, h4 i (Nat.zero_le i) hi g hg⟩
theorem grd_1 {d : SDt} {r : Nat} {x : Int32} (h : x = grV d (seD d) (tmD d) r) (c : ¬ x = 0) : (1 : Int32) = if wayE d r < pGar d r then 1 else 0 := by
  rw [h] at c
  unfold grV at c
  by_cases q : pEr d (seD d) (tmD d) r < pGar d r
  · exact (if_pos q).symm
  · rw [if_neg q] at c
    exact absurd rfl c
theorem grd_0 {d : SDt} {r : Nat} {x : Int32} (h : x = grV d (seD d) (tmD d) r) (c : x = 0) : (0 : Int32) = if wayE d r < pGar d r then 1 else 0 := by
  rw [h] at c
  unfold grV at c
  by_cases q : pEr d (seD d) (tmD d) r < pGar d r
  · rw [if_pos q] at c
    exact absurd c (by decide)
  · exact (if_neg q).symm


set_option maxHeartbeats 4000000 in
set_option maxRecDepth 100000 in
theorem n_isSight (l : Launch) (D : va_G) (k : Nat → ClassId) (st : Nat → Nat) (lo : Nat) (a : Nat → Nat) (tx : Nat) (t0 : Nat) (we : Nat) (rd : Nat) (ru : Nat) (rw : Nat) (ca : Nat) (fp : Int32) (wd : Int64) (nu : Int32) (na : Int32) (ts : Int32) (df : Int32) (db : Int32) (sd : Int32) (dn : Nat → Nat) (se : Nat → Nat) (tm : Nat → Nat) (gs : Nat → Int32) (sn : Nat) (i : Nat) (pz : Int32) (hdn : ∀ j, dn j ≤ 24) (hse : ∀ j, se j ≤ 2) (hs : sn < 3) (hi : i < dn sn) : CRi l D k st lo yX8_isSight cX8_isSight 4 (some .boolean) ({ frames := 2, cells := 0, slots := 0, locals := 45 }) [.ref (a 0), .int (nI sn), .int (nI i), .int pz] [((a 0), .inr (8, (fX8 a (nI tx) fp (nI t0) wd (nI we) nu na (nI rd) ts (nI ru) (nI rw) (nI ca) df db sd))), (aI k (a 1) 3 (nF dn)), (aI k (a 4) 27 (sg se tm gs))] (fun r => (r = 1 ∧ ∃ j : Nat, j < 2 ^ sqN (se sn) (dn sn) i ∧ pz = nI j ∧ True) ∨ (r = 0 ∧ ∀ j, pz = nI j → ¬ j < 2 ^ sqN (se sn) (dn sn) i)) := by
  intro sz
  refine Met.ofW (cc := cX8_isSight) (maxL := 4) (ret := (some .boolean)) (by decide) rfl ?_
  intro p e s m args below meth c s₁ B hml hv
  obtain ⟨rfl, hsz, hlo, hP, hK, hDL, hZ⟩ := hv
  have hx := B.exec
  have hb := B.bytes
  have hr := B.returns
  have hts := WS_ts B.pre
  have hown : s.vm.findClass RX8 = some m.cls := findClass_of_methodNamed B.named
  have hlocks := B.notSynchronized
  subst hsz
  have hA : ∀ q : Nat, s.heap.size ≤ q → (fun q : Nat => s.heap.size ≤ q) q := fun _ h => h
  have hAlo : ∀ q : Nat, (fun q : Nat => s.heap.size ≤ q) q → lo ≤ q := fun q h => Nat.le_trans hlo h
  have hS : va_S (fun q : Nat => s.heap.size ≤ q) s.heap s.heap [] := va_S.rf
  have hl := lv_entry ([.ref (a 0), .int (nI sn), .int (nI i), .int pz]) (n := 4) (Nat.le_of_ble_eq_true rfl)
  rw [lg_entry_eq]
  generalize (lg_sl ([.ref (a 0), .int (nI sn), .int (nI i), .int pz]) ++ List.replicate (4 - (lg_sl ([.ref (a 0), .int (nI sn), .int (nI i), .int pz])).length) Slot.unset).toArray = ls at hl ⊢
  have hl : lv_has ls 4 [(0, .ref (a 0)), (1, .int (nI sn)), (2, .int (nI i)), (3, .int pz)] := hl
  have hd_9 := hdn sn
  have hd_8 := hse sn
  refine lv_iload_n hx hb dX8_isSight_0 rfl (lv_at hl 3 rfl) ?_
  refine lv_i2l (v := pz.toInt64) hx hb dX8_isSight_1 rfl ?_
  refine lv_lconst (v := (0 : Int32).toInt64) hx hb dX8_isSight_2 (by decide) ?_
  refine lv_iconst (v := 1) hx hb dX8_isSight_3 (by decide) ?_
  refine lv_aload_n hx hb dX8_isSight_4 rfl (lv_at hl 0 rfl) ?_
  refine lv_iload_n hx hb dX8_isSight_5 rfl (lv_at hl 1 rfl) ?_
  refine lv_iload_n hx hb dX8_isSight_6 rfl (lv_at hl 2 rfl) ?_
  refine ro_i (D := D) (va_runV (As := [.int (nI sn), .int (nI i)]) (rest := [.int 1, .long ((0 : Int32).toInt64), .long (pz.toInt64)]) ⟨hx, hb, hml, hown, hts⟩ ((n_seen l D k st lo a tx t0 we rd ru rw ca fp wd nu na ts df db sd dn se tm gs sn i hdn hse (by first | assumption | omega) (by first | assumption | omega)) s.heap.size) (cwV 2 hts (gV tw_1246 tw_1248 tw_48 tw_87 tw_1249) rfl rfl rfl (by decide +kernel) ⟨Nat.le_of_ble_eq_true rfl, Nat.le_of_ble_eq_true rfl⟩) (pV hS hAlo hlo hP hK hDL hZ [0, 1, 2] (by decide) rfl (ci := 8) (q := (RX8, TX8, 44)) (q0 := 0) rfl rfl) rfl rfl hl.1 rfl (lv_room (Nat.le_of_ble_eq_true rfl)) dX8_isSight_7 ⟨Nat.le_of_ble_eq_true rfl, Nat.le_of_ble_eq_true rfl⟩) hS hA hP (fun r_1 H locs hw_1 hP hS => ?_)
  try dsimp only at hw_1
  obtain ⟨sv_2, esv_2⟩ : ∃ z : Nat, z = sqN (se sn) (dn sn) i := ⟨_, rfl⟩
  rw [← esv_2] at hw_1
  subst hw_1
  have hsv_2 : sv_2 ≤ 3 ∧ sv_2 ≤ dn sn - i ∧ sv_2 ≤ se sn + 1 ∧ (0 < dn sn - i → 1 ≤ sv_2) := by have hse9 := hse sn; rw [esv_2]; unfold sqN; omega
  have hpv_2 := p8 (show sv_2 ≤ 3 by omega)
  have hpe_2 : 2 ^ sv_2 = 2 ^ sqN (se sn) (dn sn) i := by rw [esv_2]
  refine lv_ishl hx hb dX8_isSight_10 ?_
  refine lv_ti (y := (nI (2 ^ sv_2))) (shl1 sv_2 (by omega)) ?_
  refine lv_iconst (v := 1) hx hb dX8_isSight_11 (by decide) ?_
  refine lv_isub hx hb dX8_isSight_12 ?_
  refine lv_topi (fun x_3 ex_3 => ?_)
  refine lv_i2l (v := x_3.toInt64) hx hb dX8_isSight_13 rfl ?_
  refine ro_i (D := D) (va_runS (As := [.long (pz.toInt64), .long ((0 : Int32).toInt64), .long (x_3.toInt64)]) (rest := []) ⟨hx, hb, hml, hown, hts⟩ ((k_in l D k st lo pz (0 : Int32) x_3) H.size) (va_cwS 3 hts (gS tw_1111 tw_1112 tw_87 tw_1113) rfl rfl rfl (by decide +kernel) ⟨Nat.le_of_ble_eq_true rfl, Nat.le_of_ble_eq_true rfl⟩) (pS hS hAlo hlo hP hK hDL hZ [] (by decide) rfl) rfl rfl hl.1 rfl (lv_room (Nat.le_of_ble_eq_true rfl)) dX8_isSight_14 ⟨Nat.le_of_ble_eq_true rfl, Nat.le_of_ble_eq_true rfl⟩) hS hA hP (fun r_4 H locs hw_4 hP hS => ?_)
  try dsimp only at hw_4
  rcases hw_4 with ⟨rfl, hw_4⟩ | ⟨rfl, hw_4⟩
  · exact W.zret (v := 1) (ty := .boolean) hx hb hr rfl (fun t ht hW => ⟨⟨1, (), rfl, .inl ⟨rfl, (by rw [ex_3] at hw_4; obtain ⟨j, hj, e⟩ := inB_of1 (by have h8 := (p8 (show sv_2 ≤ 3 by omega)).2; omega) hw_4; exact ⟨j, by rw [← esv_2]; exact hj, e, trivial⟩)⟩, trivial⟩, hS.F ht⟩) hS.2.2 dX8_isSight_17
  · exact W.zret (v := 0) (ty := .boolean) hx hb hr rfl (fun t ht hW => ⟨⟨0, (), rfl, .inr ⟨rfl, fun j e hj => hw_4 (by rw [e, ex_3]; exact in0n (by rw [esv_2]; exact hj) (by have h8 := (p8 (show sv_2 ≤ 3 by omega)).2; omega))⟩, trivial⟩, hS.F ht⟩) hS.2.2 dX8_isSight_17


set_option maxHeartbeats 4000000 in
set_option maxRecDepth 100000 in
theorem n_worth (l : Launch) (D : va_G) (k : Nat → ClassId) (st : Nat → Nat) (lo : Nat) (a : Nat → Nat) (tx : Nat) (t0 : Nat) (we : Nat) (rd : Nat) (ru : Nat) (rw : Nat) (ca : Nat) (fp : Int32) (wd : Int64) (nu : Int32) (na : Int32) (ts : Int32) (df : Int32) (db : Int32) (sd : Int32) (dn : Nat → Nat) (se : Nat → Nat) (tm : Nat → Nat) (gs : Nat → Int32) (ffrees : Nat → Int32) (fprices : Nat → Int32) (fons : Nat → Int32) (fworths : Nat → Int32) (fstarts : Nat → Int32) (fends : Nat → Int32) (fgoesRound : Nat → Int32) (fbegin : Nat → Int32) (p0 : Int32) (p1 : Int32) (p2 : Int32) (p3 : Int32) (hdn : ∀ j, dn j ≤ 24) (hse : ∀ j, se j ≤ 2) (htm : ∀ j, tm j ≤ 3) : CWi l D k st lo yX8_worth cX8_worth 5 (some .int) ({ frames := 6, cells := 0, slots := 0, locals := 144 }) 0 0 [.ref (a 0), .int p0, .int p1, .int p2, .int p3] [((a 0), .inr (8, (fX8 a (nI tx) fp (nI t0) wd (nI we) nu na (nI rd) ts (nI ru) (nI rw) (nI ca) df db sd))), (aI k (a 1) 3 (nF dn)), (aI k (a 4) 27 (sg se tm gs)), (aI k (a 2) 72 ffrees), (aI k (a 3) 72 fprices), (aI k (a 18) 768 fons), (aI k (a 19) 768 fworths), (aI k (a 20) 5 fstarts), (aI k (a 21) 4 fends), (aZ k (a 22) 4 fgoesRound), (aI k (a 23) 8 fbegin)] (fun (r : Int32) (u : (Nat → Int32) × (Nat → Int32) × (Nat → Int32) × (Nat → Int32) × (Nat → Int32) × (Nat → Int32)) => match u with | (fons_, fworths_, fstarts_, fends_, fgoesRound_, fbegin_) => dqP (sdM dn (sg se tm gs) ffrees fprices) p0 p2 (siA p1 p3 woA) r) (fun (u : (Nat → Int32) × (Nat → Int32) × (Nat → Int32) × (Nat → Int32) × (Nat → Int32) × (Nat → Int32)) => match u with | (fons_, fworths_, fstarts_, fends_, fgoesRound_, fbegin_) => [((a 0), .inr (8, (fX8 a (nI tx) fp (nI t0) wd (nI we) nu na (nI rd) ts (nI ru) (nI rw) (nI ca) df db sd))), (aI k (a 1) 3 (nF dn)), (aI k (a 4) 27 (sg se tm gs)), (aI k (a 2) 72 ffrees), (aI k (a 3) 72 fprices), (aI k (a 18) 768 fons_), (aI k (a 19) 768 fworths_), (aI k (a 20) 5 fstarts_), (aI k (a 21) 4 fends_), (aZ k (a 22) 4 fgoesRound_), (aI k (a 23) 8 fbegin_)]) := by
  intro sz
  refine Met.ofW (cc := cX8_worth) (maxL := 5) (ret := (some .int)) (by decide) rfl ?_
  intro p e s m args below meth c s₁ B hml hv
  obtain ⟨rfl, hsz, hlo, hP, hK, hDL, hZ⟩ := hv
  have hx := B.exec
  have hb := B.bytes
  have hr := B.returns
  have hts := WS_ts B.pre
  have hown : s.vm.findClass RX8 = some m.cls := findClass_of_methodNamed B.named
  have hlocks := B.notSynchronized
  subst hsz
  have hD := hDL.self (sz := s.heap.size)
  have hAlo := A_lo hDL hlo
  generalize hAe : va_A [((a 0), .inr (8, (fX8 a (nI tx) fp (nI t0) wd (nI we) nu na (nI rd) ts (nI ru) (nI rw) (nI ca) df db sd))), (aI k (a 1) 3 (nF dn)), (aI k (a 4) 27 (sg se tm gs)), (aI k (a 2) 72 ffrees), (aI k (a 3) 72 fprices), (aI k (a 18) 768 fons), (aI k (a 19) 768 fworths), (aI k (a 20) 5 fstarts), (aI k (a 21) 4 fends), (aZ k (a 22) 4 fgoesRound), (aI k (a 23) 8 fbegin)] s.heap.size = A at hD hAlo ⊢
  have hA : ∀ q : Nat, s.heap.size ≤ q → A q := fun q h => by rw [← hAe]; exact Or.inr h
  have hS : va_S A s.heap s.heap [] := va_S.rf
  have hl := lv_entry ([.ref (a 0), .int p0, .int p1, .int p2, .int p3]) (n := 5) (Nat.le_of_ble_eq_true rfl)
  rw [lg_entry_eq]
  generalize (lg_sl ([.ref (a 0), .int p0, .int p1, .int p2, .int p3]) ++ List.replicate (5 - (lg_sl ([.ref (a 0), .int p0, .int p1, .int p2, .int p3])).length) Slot.unset).toArray = ls at hl ⊢
  have hl : lv_has ls 5 [(0, .ref (a 0)), (1, .int p0), (2, .int p1), (3, .int p2), (4, .int p3)] := hl
  refine lv_aload_n hx hb dX8_worth_0 rfl (lv_at hl 0 rfl) ?_
  refine lv_iload_n hx hb dX8_worth_1 rfl (lv_at hl 1 rfl) ?_
  refine ro_i (D := D) (va_runV (As := [.int p0]) (rest := []) ⟨hx, hb, hml, hown, hts⟩ ((n_isStreet l D k st lo a tx t0 we rd ru rw ca fp wd nu na ts df db sd dn p0 hdn) s.heap.size) (cwV 1 hts (gV tw_1189 tw_1191 tw_38 tw_87 tw_1192) rfl rfl rfl (by decide +kernel) ⟨Nat.le_of_ble_eq_true rfl, Nat.le_of_ble_eq_true rfl⟩) (pV hS hAlo hlo hP hK (va_Dlo hD hAlo) hZ [0, 1] (by decide) rfl (ci := 8) (q := (RX8, TX8, 44)) (q0 := 0) rfl rfl) rfl rfl hl.1 rfl (lv_room (Nat.le_of_ble_eq_true rfl)) dX8_worth_2 ⟨Nat.le_of_ble_eq_true rfl, Nat.le_of_ble_eq_true rfl⟩) hS hA hP (fun r_1 H locs hw_1 hP hS => ?_)
  try dsimp only at hw_1
  rcases hw_1 with ⟨rfl, j_2, hj_2, rfl, hw_1⟩ | ⟨rfl, hw_1⟩
  · have hdj_2 := hdn j_2
    have htj_2 := htm j_2
    refine lv_if_eq (tgt := 17) hx hb dX8_worth_5 (by decide) (fun h => absurd h (by decide)) (fun _ => ?_)
    refine lv_aload_n hx hb dX8_worth_8 rfl (lv_at hl 0 rfl) ?_
    refine lv_iload_n hx hb dX8_worth_9 rfl (lv_at hl 1 rfl) ?_
    refine lv_iload_n hx hb dX8_worth_10 rfl (lv_at hl 3 rfl) ?_
    refine ro_i (D := D) (va_runV (As := [.int (nI j_2), .int p2]) (rest := []) ⟨hx, hb, hml, hown, hts⟩ ((n_isDoor l D k st lo a tx t0 we rd ru rw ca fp wd nu na ts df db sd dn j_2 p2 hdn (by first | assumption | omega)) H.size) (cwV 2 hts (gV tw_1202 tw_1204 tw_40 tw_87 tw_1205) rfl rfl rfl (by decide +kernel) ⟨Nat.le_of_ble_eq_true rfl, Nat.le_of_ble_eq_true rfl⟩) (pV hS hAlo hlo hP hK (va_Dlo hD hAlo) hZ [0, 1] (by decide) rfl (ci := 8) (q := (RX8, TX8, 44)) (q0 := 0) rfl rfl) rfl rfl hl.1 rfl (lv_room (Nat.le_of_ble_eq_true rfl)) dX8_worth_11 ⟨Nat.le_of_ble_eq_true rfl, Nat.le_of_ble_eq_true rfl⟩) hS hA hP (fun r_3 H locs hw_3 hP hS => ?_)
    try dsimp only at hw_3
    rcases hw_3 with ⟨rfl, j_4, hj_4, rfl, hw_3⟩ | ⟨rfl, hw_3⟩
    · refine lv_if_ne (tgt := 21) hx hb dX8_worth_14 (by decide) (fun _ => ?_) (fun h => absurd h (by decide))
      refine lv_aload_n hx hb dX8_worth_21 rfl (lv_at hl 0 rfl) ?_
      refine lv_iload_n hx hb dX8_worth_22 rfl (lv_at hl 1 rfl) ?_
      refine lv_iload_n hx hb dX8_worth_23 rfl (lv_at hl 2 rfl) ?_
      refine ro_i (D := D) (va_runV (As := [.int (nI j_2), .int p1]) (rest := []) ⟨hx, hb, hml, hown, hts⟩ ((n_isRound l D k st lo a tx t0 we rd ru rw ca fp wd nu na ts df db sd se tm gs j_2 p1 htm (by first | assumption | omega)) H.size) (cwV 2 hts (gV tw_1218 tw_1220 tw_42 tw_87 tw_1221) rfl rfl rfl (by decide +kernel) ⟨Nat.le_of_ble_eq_true rfl, Nat.le_of_ble_eq_true rfl⟩) (pV hS hAlo hlo hP hK (va_Dlo hD hAlo) hZ [0, 2] (by decide) rfl (ci := 8) (q := (RX8, TX8, 44)) (q0 := 0) rfl rfl) rfl rfl hl.1 rfl (lv_room (Nat.le_of_ble_eq_true rfl)) dX8_worth_24 ⟨Nat.le_of_ble_eq_true rfl, Nat.le_of_ble_eq_true rfl⟩) hS hA hP (fun r_5 H locs hw_5 hP hS => ?_)
      try dsimp only at hw_5
      rcases hw_5 with ⟨rfl, j_6, hj_6, rfl, hw_5⟩ | ⟨rfl, hw_5⟩
      · refine lv_if_eq (tgt := 41) hx hb dX8_worth_27 (by decide) (fun h => absurd h (by decide)) (fun _ => ?_)
        refine lv_aload_n hx hb dX8_worth_30 rfl (lv_at hl 0 rfl) ?_
        refine lv_iload_n hx hb dX8_worth_31 rfl (lv_at hl 1 rfl) ?_
        refine lv_iload_n hx hb dX8_worth_32 rfl (lv_at hl 3 rfl) ?_
        refine lv_iload hx hb dX8_worth_33 (lv_at hl 4 rfl) ?_
        refine ro_i (D := D) (va_runV (As := [.int (nI j_2), .int (nI j_4), .int p3]) (rest := []) ⟨hx, hb, hml, hown, hts⟩ ((n_isSight l D k st lo a tx t0 we rd ru rw ca fp wd nu na ts df db sd dn se tm gs j_2 j_4 p3 hdn hse (by first | assumption | omega) (by first | assumption | omega)) H.size) (cwV 3 hts (gV tw_1242 tw_1244 tw_47 tw_87 tw_1245) rfl rfl rfl (by decide +kernel) ⟨Nat.le_of_ble_eq_true rfl, Nat.le_of_ble_eq_true rfl⟩) (pV hS hAlo hlo hP hK (va_Dlo hD hAlo) hZ [0, 1, 2] (by decide) rfl (ci := 8) (q := (RX8, TX8, 44)) (q0 := 0) rfl rfl) rfl rfl hl.1 rfl (lv_room (Nat.le_of_ble_eq_true rfl)) dX8_worth_35 ⟨Nat.le_of_ble_eq_true rfl, Nat.le_of_ble_eq_true rfl⟩) hS hA hP (fun r_7 H locs hw_7 hP hS => ?_)
        try dsimp only at hw_7
        rcases hw_7 with ⟨rfl, j_8, hj_8, rfl, hw_7⟩ | ⟨rfl, hw_7⟩
        · have hg8_8 : j_8 < 8 := by have h8 := (p8 (sq_le (see := se j_2) (n := dn j_2) (i := j_4) (hse _))).2; omega
          refine lv_if_ne (tgt := 45) hx hb dX8_worth_38 (by decide) (fun _ => ?_) (fun h => absurd h (by decide))
          refine lv_aload_n hx hb dX8_worth_45 rfl (lv_at hl 0 rfl) ?_
          refine lv_iload_n hx hb dX8_worth_46 rfl (lv_at hl 1 rfl) ?_
          refine rw_v (D := D) (wr := []) (va_runV (As := [.int (nI j_2)]) (rest := []) ⟨hx, hb, hml, hown, hts⟩ ((n_findWay l D k st lo a tx t0 we rd ru rw ca fp wd nu na ts df db sd dn se tm gs ffrees fprices fons fworths fstarts fends fgoesRound fbegin j_2 hdn hse htm (by first | assumption | omega) (by first | assumption | omega)) H.size) (cwV 1 hts (gV tw_1250 tw_1252 tw_49 tw_87 tw_1253) rfl rfl rfl (by decide +kernel) ⟨Nat.le_of_ble_eq_true rfl, Nat.le_of_ble_eq_true rfl⟩) (pV hS hAlo hlo hP hK (va_Dlo hD hAlo) hZ [0, 1, 2, 3, 4, 5, 6, 7, 8, 9, 10] (by decide +kernel) rfl (ci := 8) (q := (RX8, TX8, 44)) (q0 := 0) rfl rfl) rfl rfl hl.1 rfl (lv_room (Nat.le_of_ble_eq_true rfl)) dX8_worth_47 ⟨Nat.le_of_ble_eq_true rfl, Nat.le_of_ble_eq_true rfl⟩) hS hA hP hD [0, 1, 2, 3, 4, 5, 6, 7, 8, 9, 10] [] rfl rfl (by decide +kernel) (by decide +kernel) (fun u H locs hw_9 hP hD hS => ?_)
          obtain ⟨fons__9, fworths__9, fstarts__9, fends__9, fgoesRound__9, fbegin__9⟩ := u
          have hQ9 := pd_mk [((a 0), .inr (8, (fX8 a (nI tx) fp (nI t0) wd (nI we) nu na (nI rd) ts (nI ru) (nI rw) (nI ca) df db sd))), (aI k (a 1) 3 (nF dn)), (aI k (a 4) 27 (sg se tm gs)), (aI k (a 2) 72 ffrees), (aI k (a 3) 72 fprices), (aI k (a 18) 768 fons__9), (aI k (a 19) 768 fworths__9), (aI k (a 20) 5 fstarts__9), (aI k (a 21) 4 fends__9), (aZ k (a 22) 4 fgoesRound__9), (aI k (a 23) 8 fbegin__9)] hP hD
          clear hP hD
          obtain ⟨hP, hD⟩ := hQ9
          try dsimp only at hw_9
          refine lv_aload_n hx hb dX8_worth_50 rfl (lv_at hl 0 rfl) ?_
          refine va_get (D := D) (ci := 8) (v := .ref (a 19)) (C := RX8) (T := TX8) (N := 44) hx hb hts inX8 hown hK hP 0 rfl rfl 18 (by decide) (hts _ tw_991) (fun _ h9 => h9) rfl dX8_worth_51 ?_
          refine lv_iload_n hx hb dX8_worth_54 rfl (lv_at hl 2 rfl) ?_
          refine lv_iload_n hx hb dX8_worth_55 rfl (lv_at hl 3 rfl) ?_
          refine lv_iload hx hb dX8_worth_56 (lv_at hl 4 rfl) ?_
          refine ro_i (D := D) (va_runS (As := [.int (nI j_6), .int (nI j_4), .int (nI j_8)]) (rest := [.ref (a 19)]) ⟨hx, hb, hml, hown, hts⟩ ((m_at l D k st lo j_6 j_4 j_8) H.size) (va_cwS 3 hts (gS tw_1266 tw_1267 tw_87 tw_1268) rfl rfl rfl (by decide +kernel) ⟨Nat.le_of_ble_eq_true rfl, Nat.le_of_ble_eq_true rfl⟩) (pS hS hAlo hlo hP hK (va_Dlo hD hAlo) hZ [] (by decide) rfl) rfl rfl hl.1 rfl (lv_room (Nat.le_of_ble_eq_true rfl)) dX8_worth_58 ⟨Nat.le_of_ble_eq_true rfl, Nat.le_of_ble_eq_true rfl⟩) hS hA hP (fun r_10 H locs hw_10 hP hS => ?_)
          try dsimp only at hw_10
          subst hw_10
          refine va_iald hx hb hK hP 6 1 rfl rfl (vp_in_nI (by omega) (by decide)) dX8_worth_61 ?_
          refine lv_ti (y := (fworths__9 (192 * j_6 + 8 * j_4 + j_8))) (by rw [nI_clamp (by omega)]) ?_
          obtain ⟨hP9, hD9⟩ := pd_sub [((a 0), .inr (8, (fX8 a (nI tx) fp (nI t0) wd (nI we) nu na (nI rd) ts (nI ru) (nI rw) (nI ca) df db sd))), (aI k (a 1) 3 (nF dn)), (aI k (a 4) 27 (sg se tm gs)), (aI k (a 2) 72 ffrees), (aI k (a 3) 72 fprices), (aI k (a 18) 768 fons__9), (aI k (a 19) 768 fworths__9), (aI k (a 20) 5 fstarts__9), (aI k (a 21) 4 fends__9), (aZ k (a 22) 4 fgoesRound__9), (aI k (a 23) 8 fbegin__9)] [0, 1, 2, 3, 4, 5, 6, 7, 8, 9, 10] hP hD (by decide +kernel) rfl
          exact W.iret (v := (fworths__9 (192 * j_6 + 8 * j_4 + j_8))) hx hb hr (fun t ht hW => ⟨⟨(fworths__9 (192 * j_6 + 8 * j_4 + j_8)), (fons__9, fworths__9, fstarts__9, fends__9, fgoesRound__9, fbegin__9), rfl, dq_at (s := j_2) (by omega) (show dn j_2 ≤ 24 by omega) (show j_4 < dn j_2 by omega) (show siA (nI j_6) (nI j_8) woA (sdM dn (sg se tm gs) ffrees fprices j_2) j_4 _ from si_at (by rw [tmM (htm _)]; exact htm _) (by rw [seM (hse _)]; exact hse _) (by rw [tmM (htm _)]; omega) (by rw [seM (hse _)]; exact hj_8) (wmw_of (wm_of (hse _) (htm _) hw_9) (show j_6 ≤ tmD (sdM dn (sg se tm gs) ffrees fprices j_2) by rw [tmM (htm _)]; omega) (show j_4 < dn j_2 by omega) (show j_8 < 2 ^ sqN (seD (sdM dn (sg se tm gs) ffrees fprices j_2)) (dn j_2) j_4 by rw [seM (hse _)]; exact hj_8)).1), by rw [ht]; exact hP9, hD9⟩, hS.F ht⟩) hS.2.2 dX8_worth_62
        · refine lv_if_ne (tgt := 45) hx hb dX8_worth_38 (by decide) (fun h => absurd (by decide) h) (fun _ => ?_)
          refine lv_sipush (v := (-1002)) hx hb dX8_worth_41 (by decide) ?_
          obtain ⟨hP9, hD9⟩ := pd_sub [((a 0), .inr (8, (fX8 a (nI tx) fp (nI t0) wd (nI we) nu na (nI rd) ts (nI ru) (nI rw) (nI ca) df db sd))), (aI k (a 1) 3 (nF dn)), (aI k (a 4) 27 (sg se tm gs)), (aI k (a 2) 72 ffrees), (aI k (a 3) 72 fprices), (aI k (a 18) 768 fons), (aI k (a 19) 768 fworths), (aI k (a 20) 5 fstarts), (aI k (a 21) 4 fends), (aZ k (a 22) 4 fgoesRound), (aI k (a 23) 8 fbegin)] [0, 1, 2, 3, 4, 5, 6, 7, 8, 9, 10] hP hD (by decide +kernel) rfl
          exact W.iret (v := (-1002)) hx hb hr (fun t ht hW => ⟨⟨(-1002), (fons, fworths, fstarts, fends, fgoesRound, fbegin), rfl, dq_at (s := j_2) (by omega) (show dn j_2 ≤ 24 by omega) (show j_4 < dn j_2 by omega) (show siA (nI j_6) p3 woA (sdM dn (sg se tm gs) ffrees fprices j_2) j_4 _ from si_no (fun rn g c => hw_7 g c.2.2.1 (by have h9 := c.2.2.2; rw [seM (hse _)] at h9; exact h9))), by rw [ht]; exact hP9, hD9⟩, hS.F ht⟩) hS.2.2 dX8_worth_44
      · refine lv_if_eq (tgt := 41) hx hb dX8_worth_27 (by decide) (fun _ => ?_) (fun h => absurd (by decide) h)
        refine lv_sipush (v := (-1002)) hx hb dX8_worth_41 (by decide) ?_
        obtain ⟨hP9, hD9⟩ := pd_sub [((a 0), .inr (8, (fX8 a (nI tx) fp (nI t0) wd (nI we) nu na (nI rd) ts (nI ru) (nI rw) (nI ca) df db sd))), (aI k (a 1) 3 (nF dn)), (aI k (a 4) 27 (sg se tm gs)), (aI k (a 2) 72 ffrees), (aI k (a 3) 72 fprices), (aI k (a 18) 768 fons), (aI k (a 19) 768 fworths), (aI k (a 20) 5 fstarts), (aI k (a 21) 4 fends), (aZ k (a 22) 4 fgoesRound), (aI k (a 23) 8 fbegin)] [0, 1, 2, 3, 4, 5, 6, 7, 8, 9, 10] hP hD (by decide +kernel) rfl
        exact W.iret (v := (-1002)) hx hb hr (fun t ht hW => ⟨⟨(-1002), (fons, fworths, fstarts, fends, fgoesRound, fbegin), rfl, dq_at (s := j_2) (by omega) (show dn j_2 ≤ 24 by omega) (show j_4 < dn j_2 by omega) (show siA p1 p3 woA (sdM dn (sg se tm gs) ffrees fprices j_2) j_4 _ from si_no (fun rn g c => hw_5 (by rw [c.1]; exact inr (by have h9 := c.2.1; rw [tmM (htm _)] at h9; exact h9) (htm _)))), by rw [ht]; exact hP9, hD9⟩, hS.F ht⟩) hS.2.2 dX8_worth_44
    · refine lv_if_ne (tgt := 21) hx hb dX8_worth_14 (by decide) (fun h => absurd (by decide) h) (fun _ => ?_)
      refine lv_sipush (v := (-1001)) hx hb dX8_worth_17 (by decide) ?_
      obtain ⟨hP9, hD9⟩ := pd_sub [((a 0), .inr (8, (fX8 a (nI tx) fp (nI t0) wd (nI we) nu na (nI rd) ts (nI ru) (nI rw) (nI ca) df db sd))), (aI k (a 1) 3 (nF dn)), (aI k (a 4) 27 (sg se tm gs)), (aI k (a 2) 72 ffrees), (aI k (a 3) 72 fprices), (aI k (a 18) 768 fons), (aI k (a 19) 768 fworths), (aI k (a 20) 5 fstarts), (aI k (a 21) 4 fends), (aZ k (a 22) 4 fgoesRound), (aI k (a 23) 8 fbegin)] [0, 1, 2, 3, 4, 5, 6, 7, 8, 9, 10] hP hD (by decide +kernel) rfl
      exact W.iret (v := (-1001)) hx hb hr (fun t ht hW => ⟨⟨(-1001), (fons, fworths, fstarts, fends, fgoesRound, fbegin), rfl, dq_no (fun s h1 h2 i h3 h4 => by have h9 := nI_inj (by omega) (by omega) h2; subst h9; exact hw_3 i h3 h4), by rw [ht]; exact hP9, hD9⟩, hS.F ht⟩) hS.2.2 dX8_worth_20
  · refine lv_if_eq (tgt := 17) hx hb dX8_worth_5 (by decide) (fun _ => ?_) (fun h => absurd (by decide) h)
    refine lv_sipush (v := (-1001)) hx hb dX8_worth_17 (by decide) ?_
    obtain ⟨hP9, hD9⟩ := pd_sub [((a 0), .inr (8, (fX8 a (nI tx) fp (nI t0) wd (nI we) nu na (nI rd) ts (nI ru) (nI rw) (nI ca) df db sd))), (aI k (a 1) 3 (nF dn)), (aI k (a 4) 27 (sg se tm gs)), (aI k (a 2) 72 ffrees), (aI k (a 3) 72 fprices), (aI k (a 18) 768 fons), (aI k (a 19) 768 fworths), (aI k (a 20) 5 fstarts), (aI k (a 21) 4 fends), (aZ k (a 22) 4 fgoesRound), (aI k (a 23) 8 fbegin)] [0, 1, 2, 3, 4, 5, 6, 7, 8, 9, 10] hP hD (by decide +kernel) rfl
    exact W.iret (v := (-1001)) hx hb hr (fun t ht hW => ⟨⟨(-1001), (fons, fworths, fstarts, fends, fgoesRound, fbegin), rfl, dq_no (fun s h1 h2 i h3 h4 => hw_1 s h1 h2 (by show 0 < dn s; replace h4 : i < dn s := h4; omega)), by rw [ht]; exact hP9, hD9⟩, hS.F ht⟩) hS.2.2 dX8_worth_20


set_option maxHeartbeats 4000000 in
set_option maxRecDepth 100000 in
theorem n_goingOn (l : Launch) (D : va_G) (k : Nat → ClassId) (st : Nat → Nat) (lo : Nat) (a : Nat → Nat) (tx : Nat) (t0 : Nat) (we : Nat) (rd : Nat) (ru : Nat) (rw : Nat) (ca : Nat) (fp : Int32) (wd : Int64) (nu : Int32) (na : Int32) (ts : Int32) (df : Int32) (db : Int32) (sd : Int32) (dn : Nat → Nat) (se : Nat → Nat) (tm : Nat → Nat) (gs : Nat → Int32) (ffrees : Nat → Int32) (fprices : Nat → Int32) (fons : Nat → Int32) (fworths : Nat → Int32) (fstarts : Nat → Int32) (fends : Nat → Int32) (fgoesRound : Nat → Int32) (fbegin : Nat → Int32) (p0 : Int32) (p1 : Int32) (p2 : Int32) (p3 : Int32) (hdn : ∀ j, dn j ≤ 24) (hse : ∀ j, se j ≤ 2) (htm : ∀ j, tm j ≤ 3) : CWi l D k st lo yX8_goingOn cX8_goingOn 5 (some .int) ({ frames := 6, cells := 0, slots := 0, locals := 144 }) 0 0 [.ref (a 0), .int p0, .int p1, .int p2, .int p3] [((a 0), .inr (8, (fX8 a (nI tx) fp (nI t0) wd (nI we) nu na (nI rd) ts (nI ru) (nI rw) (nI ca) df db sd))), (aI k (a 1) 3 (nF dn)), (aI k (a 4) 27 (sg se tm gs)), (aI k (a 2) 72 ffrees), (aI k (a 3) 72 fprices), (aI k (a 18) 768 fons), (aI k (a 19) 768 fworths), (aI k (a 20) 5 fstarts), (aI k (a 21) 4 fends), (aZ k (a 22) 4 fgoesRound), (aI k (a 23) 8 fbegin)] (fun (r : Int32) (u : (Nat → Int32) × (Nat → Int32) × (Nat → Int32) × (Nat → Int32) × (Nat → Int32) × (Nat → Int32)) => match u with | (fons_, fworths_, fstarts_, fends_, fgoesRound_, fbegin_) => dqP (sdM dn (sg se tm gs) ffrees fprices) p0 p2 (siA p1 p3 goA) r) (fun (u : (Nat → Int32) × (Nat → Int32) × (Nat → Int32) × (Nat → Int32) × (Nat → Int32) × (Nat → Int32)) => match u with | (fons_, fworths_, fstarts_, fends_, fgoesRound_, fbegin_) => [((a 0), .inr (8, (fX8 a (nI tx) fp (nI t0) wd (nI we) nu na (nI rd) ts (nI ru) (nI rw) (nI ca) df db sd))), (aI k (a 1) 3 (nF dn)), (aI k (a 4) 27 (sg se tm gs)), (aI k (a 2) 72 ffrees), (aI k (a 3) 72 fprices), (aI k (a 18) 768 fons_), (aI k (a 19) 768 fworths_), (aI k (a 20) 5 fstarts_), (aI k (a 21) 4 fends_), (aZ k (a 22) 4 fgoesRound_), (aI k (a 23) 8 fbegin_)]) := by
  intro sz
  refine Met.ofW (cc := cX8_goingOn) (maxL := 5) (ret := (some .int)) (by decide) rfl ?_
  intro p e s m args below meth c s₁ B hml hv
  obtain ⟨rfl, hsz, hlo, hP, hK, hDL, hZ⟩ := hv
  have hx := B.exec
  have hb := B.bytes
  have hr := B.returns
  have hts := WS_ts B.pre
  have hown : s.vm.findClass RX8 = some m.cls := findClass_of_methodNamed B.named
  have hlocks := B.notSynchronized
  subst hsz
  have hD := hDL.self (sz := s.heap.size)
  have hAlo := A_lo hDL hlo
  generalize hAe : va_A [((a 0), .inr (8, (fX8 a (nI tx) fp (nI t0) wd (nI we) nu na (nI rd) ts (nI ru) (nI rw) (nI ca) df db sd))), (aI k (a 1) 3 (nF dn)), (aI k (a 4) 27 (sg se tm gs)), (aI k (a 2) 72 ffrees), (aI k (a 3) 72 fprices), (aI k (a 18) 768 fons), (aI k (a 19) 768 fworths), (aI k (a 20) 5 fstarts), (aI k (a 21) 4 fends), (aZ k (a 22) 4 fgoesRound), (aI k (a 23) 8 fbegin)] s.heap.size = A at hD hAlo ⊢
  have hA : ∀ q : Nat, s.heap.size ≤ q → A q := fun q h => by rw [← hAe]; exact Or.inr h
  have hS : va_S A s.heap s.heap [] := va_S.rf
  have hl := lv_entry ([.ref (a 0), .int p0, .int p1, .int p2, .int p3]) (n := 5) (Nat.le_of_ble_eq_true rfl)
  rw [lg_entry_eq]
  generalize (lg_sl ([.ref (a 0), .int p0, .int p1, .int p2, .int p3]) ++ List.replicate (5 - (lg_sl ([.ref (a 0), .int p0, .int p1, .int p2, .int p3])).length) Slot.unset).toArray = ls at hl ⊢
  have hl : lv_has ls 5 [(0, .ref (a 0)), (1, .int p0), (2, .int p1), (3, .int p2), (4, .int p3)] := hl
  refine lv_aload_n hx hb dX8_goingOn_0 rfl (lv_at hl 0 rfl) ?_
  refine lv_iload_n hx hb dX8_goingOn_1 rfl (lv_at hl 1 rfl) ?_
  refine ro_i (D := D) (va_runV (As := [.int p0]) (rest := []) ⟨hx, hb, hml, hown, hts⟩ ((n_isStreet l D k st lo a tx t0 we rd ru rw ca fp wd nu na ts df db sd dn p0 hdn) s.heap.size) (cwV 1 hts (gV tw_1189 tw_1191 tw_38 tw_87 tw_1192) rfl rfl rfl (by decide +kernel) ⟨Nat.le_of_ble_eq_true rfl, Nat.le_of_ble_eq_true rfl⟩) (pV hS hAlo hlo hP hK (va_Dlo hD hAlo) hZ [0, 1] (by decide) rfl (ci := 8) (q := (RX8, TX8, 44)) (q0 := 0) rfl rfl) rfl rfl hl.1 rfl (lv_room (Nat.le_of_ble_eq_true rfl)) dX8_goingOn_2 ⟨Nat.le_of_ble_eq_true rfl, Nat.le_of_ble_eq_true rfl⟩) hS hA hP (fun r_1 H locs hw_1 hP hS => ?_)
  try dsimp only at hw_1
  rcases hw_1 with ⟨rfl, j_2, hj_2, rfl, hw_1⟩ | ⟨rfl, hw_1⟩
  · have hdj_2 := hdn j_2
    have htj_2 := htm j_2
    refine lv_if_eq (tgt := 17) hx hb dX8_goingOn_5 (by decide) (fun h => absurd h (by decide)) (fun _ => ?_)
    refine lv_aload_n hx hb dX8_goingOn_8 rfl (lv_at hl 0 rfl) ?_
    refine lv_iload_n hx hb dX8_goingOn_9 rfl (lv_at hl 1 rfl) ?_
    refine lv_iload_n hx hb dX8_goingOn_10 rfl (lv_at hl 3 rfl) ?_
    refine ro_i (D := D) (va_runV (As := [.int (nI j_2), .int p2]) (rest := []) ⟨hx, hb, hml, hown, hts⟩ ((n_isDoor l D k st lo a tx t0 we rd ru rw ca fp wd nu na ts df db sd dn j_2 p2 hdn (by first | assumption | omega)) H.size) (cwV 2 hts (gV tw_1202 tw_1204 tw_40 tw_87 tw_1205) rfl rfl rfl (by decide +kernel) ⟨Nat.le_of_ble_eq_true rfl, Nat.le_of_ble_eq_true rfl⟩) (pV hS hAlo hlo hP hK (va_Dlo hD hAlo) hZ [0, 1] (by decide) rfl (ci := 8) (q := (RX8, TX8, 44)) (q0 := 0) rfl rfl) rfl rfl hl.1 rfl (lv_room (Nat.le_of_ble_eq_true rfl)) dX8_goingOn_11 ⟨Nat.le_of_ble_eq_true rfl, Nat.le_of_ble_eq_true rfl⟩) hS hA hP (fun r_3 H locs hw_3 hP hS => ?_)
    try dsimp only at hw_3
    rcases hw_3 with ⟨rfl, j_4, hj_4, rfl, hw_3⟩ | ⟨rfl, hw_3⟩
    · refine lv_if_ne (tgt := 21) hx hb dX8_goingOn_14 (by decide) (fun _ => ?_) (fun h => absurd h (by decide))
      refine lv_aload_n hx hb dX8_goingOn_21 rfl (lv_at hl 0 rfl) ?_
      refine lv_iload_n hx hb dX8_goingOn_22 rfl (lv_at hl 1 rfl) ?_
      refine lv_iload_n hx hb dX8_goingOn_23 rfl (lv_at hl 2 rfl) ?_
      refine ro_i (D := D) (va_runV (As := [.int (nI j_2), .int p1]) (rest := []) ⟨hx, hb, hml, hown, hts⟩ ((n_isRound l D k st lo a tx t0 we rd ru rw ca fp wd nu na ts df db sd se tm gs j_2 p1 htm (by first | assumption | omega)) H.size) (cwV 2 hts (gV tw_1218 tw_1220 tw_42 tw_87 tw_1221) rfl rfl rfl (by decide +kernel) ⟨Nat.le_of_ble_eq_true rfl, Nat.le_of_ble_eq_true rfl⟩) (pV hS hAlo hlo hP hK (va_Dlo hD hAlo) hZ [0, 2] (by decide) rfl (ci := 8) (q := (RX8, TX8, 44)) (q0 := 0) rfl rfl) rfl rfl hl.1 rfl (lv_room (Nat.le_of_ble_eq_true rfl)) dX8_goingOn_24 ⟨Nat.le_of_ble_eq_true rfl, Nat.le_of_ble_eq_true rfl⟩) hS hA hP (fun r_5 H locs hw_5 hP hS => ?_)
      try dsimp only at hw_5
      rcases hw_5 with ⟨rfl, j_6, hj_6, rfl, hw_5⟩ | ⟨rfl, hw_5⟩
      · refine lv_if_eq (tgt := 41) hx hb dX8_goingOn_27 (by decide) (fun h => absurd h (by decide)) (fun _ => ?_)
        refine lv_aload_n hx hb dX8_goingOn_30 rfl (lv_at hl 0 rfl) ?_
        refine lv_iload_n hx hb dX8_goingOn_31 rfl (lv_at hl 1 rfl) ?_
        refine lv_iload_n hx hb dX8_goingOn_32 rfl (lv_at hl 3 rfl) ?_
        refine lv_iload hx hb dX8_goingOn_33 (lv_at hl 4 rfl) ?_
        refine ro_i (D := D) (va_runV (As := [.int (nI j_2), .int (nI j_4), .int p3]) (rest := []) ⟨hx, hb, hml, hown, hts⟩ ((n_isSight l D k st lo a tx t0 we rd ru rw ca fp wd nu na ts df db sd dn se tm gs j_2 j_4 p3 hdn hse (by first | assumption | omega) (by first | assumption | omega)) H.size) (cwV 3 hts (gV tw_1242 tw_1244 tw_47 tw_87 tw_1245) rfl rfl rfl (by decide +kernel) ⟨Nat.le_of_ble_eq_true rfl, Nat.le_of_ble_eq_true rfl⟩) (pV hS hAlo hlo hP hK (va_Dlo hD hAlo) hZ [0, 1, 2] (by decide) rfl (ci := 8) (q := (RX8, TX8, 44)) (q0 := 0) rfl rfl) rfl rfl hl.1 rfl (lv_room (Nat.le_of_ble_eq_true rfl)) dX8_goingOn_35 ⟨Nat.le_of_ble_eq_true rfl, Nat.le_of_ble_eq_true rfl⟩) hS hA hP (fun r_7 H locs hw_7 hP hS => ?_)
        try dsimp only at hw_7
        rcases hw_7 with ⟨rfl, j_8, hj_8, rfl, hw_7⟩ | ⟨rfl, hw_7⟩
        · have hg8_8 : j_8 < 8 := by have h8 := (p8 (sq_le (see := se j_2) (n := dn j_2) (i := j_4) (hse _))).2; omega
          refine lv_if_ne (tgt := 45) hx hb dX8_goingOn_38 (by decide) (fun _ => ?_) (fun h => absurd h (by decide))
          refine lv_aload_n hx hb dX8_goingOn_45 rfl (lv_at hl 0 rfl) ?_
          refine lv_iload_n hx hb dX8_goingOn_46 rfl (lv_at hl 1 rfl) ?_
          refine rw_v (D := D) (wr := []) (va_runV (As := [.int (nI j_2)]) (rest := []) ⟨hx, hb, hml, hown, hts⟩ ((n_findWay l D k st lo a tx t0 we rd ru rw ca fp wd nu na ts df db sd dn se tm gs ffrees fprices fons fworths fstarts fends fgoesRound fbegin j_2 hdn hse htm (by first | assumption | omega) (by first | assumption | omega)) H.size) (cwV 1 hts (gV tw_1250 tw_1252 tw_49 tw_87 tw_1253) rfl rfl rfl (by decide +kernel) ⟨Nat.le_of_ble_eq_true rfl, Nat.le_of_ble_eq_true rfl⟩) (pV hS hAlo hlo hP hK (va_Dlo hD hAlo) hZ [0, 1, 2, 3, 4, 5, 6, 7, 8, 9, 10] (by decide +kernel) rfl (ci := 8) (q := (RX8, TX8, 44)) (q0 := 0) rfl rfl) rfl rfl hl.1 rfl (lv_room (Nat.le_of_ble_eq_true rfl)) dX8_goingOn_47 ⟨Nat.le_of_ble_eq_true rfl, Nat.le_of_ble_eq_true rfl⟩) hS hA hP hD [0, 1, 2, 3, 4, 5, 6, 7, 8, 9, 10] [] rfl rfl (by decide +kernel) (by decide +kernel) (fun u H locs hw_9 hP hD hS => ?_)
          obtain ⟨fons__9, fworths__9, fstarts__9, fends__9, fgoesRound__9, fbegin__9⟩ := u
          have hQ9 := pd_mk [((a 0), .inr (8, (fX8 a (nI tx) fp (nI t0) wd (nI we) nu na (nI rd) ts (nI ru) (nI rw) (nI ca) df db sd))), (aI k (a 1) 3 (nF dn)), (aI k (a 4) 27 (sg se tm gs)), (aI k (a 2) 72 ffrees), (aI k (a 3) 72 fprices), (aI k (a 18) 768 fons__9), (aI k (a 19) 768 fworths__9), (aI k (a 20) 5 fstarts__9), (aI k (a 21) 4 fends__9), (aZ k (a 22) 4 fgoesRound__9), (aI k (a 23) 8 fbegin__9)] hP hD
          clear hP hD
          obtain ⟨hP, hD⟩ := hQ9
          try dsimp only at hw_9
          refine lv_aload_n hx hb dX8_goingOn_50 rfl (lv_at hl 0 rfl) ?_
          refine va_get (D := D) (ci := 8) (v := .ref (a 18)) (C := RX8) (T := TX8) (N := 44) hx hb hts inX8 hown hK hP 0 rfl rfl 17 (by decide) (hts _ tw_990) (fun _ h9 => h9) rfl dX8_goingOn_51 ?_
          refine lv_iload_n hx hb dX8_goingOn_54 rfl (lv_at hl 2 rfl) ?_
          refine lv_iload_n hx hb dX8_goingOn_55 rfl (lv_at hl 3 rfl) ?_
          refine lv_iload hx hb dX8_goingOn_56 (lv_at hl 4 rfl) ?_
          refine ro_i (D := D) (va_runS (As := [.int (nI j_6), .int (nI j_4), .int (nI j_8)]) (rest := [.ref (a 18)]) ⟨hx, hb, hml, hown, hts⟩ ((m_at l D k st lo j_6 j_4 j_8) H.size) (va_cwS 3 hts (gS tw_1266 tw_1267 tw_87 tw_1268) rfl rfl rfl (by decide +kernel) ⟨Nat.le_of_ble_eq_true rfl, Nat.le_of_ble_eq_true rfl⟩) (pS hS hAlo hlo hP hK (va_Dlo hD hAlo) hZ [] (by decide) rfl) rfl rfl hl.1 rfl (lv_room (Nat.le_of_ble_eq_true rfl)) dX8_goingOn_58 ⟨Nat.le_of_ble_eq_true rfl, Nat.le_of_ble_eq_true rfl⟩) hS hA hP (fun r_10 H locs hw_10 hP hS => ?_)
          try dsimp only at hw_10
          subst hw_10
          refine va_iald hx hb hK hP 5 1 rfl rfl (vp_in_nI (by omega) (by decide)) dX8_goingOn_61 ?_
          refine lv_ti (y := (fons__9 (192 * j_6 + 8 * j_4 + j_8))) (by rw [nI_clamp (by omega)]) ?_
          obtain ⟨hP9, hD9⟩ := pd_sub [((a 0), .inr (8, (fX8 a (nI tx) fp (nI t0) wd (nI we) nu na (nI rd) ts (nI ru) (nI rw) (nI ca) df db sd))), (aI k (a 1) 3 (nF dn)), (aI k (a 4) 27 (sg se tm gs)), (aI k (a 2) 72 ffrees), (aI k (a 3) 72 fprices), (aI k (a 18) 768 fons__9), (aI k (a 19) 768 fworths__9), (aI k (a 20) 5 fstarts__9), (aI k (a 21) 4 fends__9), (aZ k (a 22) 4 fgoesRound__9), (aI k (a 23) 8 fbegin__9)] [0, 1, 2, 3, 4, 5, 6, 7, 8, 9, 10] hP hD (by decide +kernel) rfl
          exact W.iret (v := (fons__9 (192 * j_6 + 8 * j_4 + j_8))) hx hb hr (fun t ht hW => ⟨⟨(fons__9 (192 * j_6 + 8 * j_4 + j_8)), (fons__9, fworths__9, fstarts__9, fends__9, fgoesRound__9, fbegin__9), rfl, dq_at (s := j_2) (by omega) (show dn j_2 ≤ 24 by omega) (show j_4 < dn j_2 by omega) (show siA (nI j_6) (nI j_8) goA (sdM dn (sg se tm gs) ffrees fprices j_2) j_4 _ from si_at (by rw [tmM (htm _)]; exact htm _) (by rw [seM (hse _)]; exact hse _) (by rw [tmM (htm _)]; omega) (by rw [seM (hse _)]; exact hj_8) (wmw_of (wm_of (hse _) (htm _) hw_9) (show j_6 ≤ tmD (sdM dn (sg se tm gs) ffrees fprices j_2) by rw [tmM (htm _)]; omega) (show j_4 < dn j_2 by omega) (show j_8 < 2 ^ sqN (seD (sdM dn (sg se tm gs) ffrees fprices j_2)) (dn j_2) j_4 by rw [seM (hse _)]; exact hj_8)).2), by rw [ht]; exact hP9, hD9⟩, hS.F ht⟩) hS.2.2 dX8_goingOn_62
        · refine lv_if_ne (tgt := 45) hx hb dX8_goingOn_38 (by decide) (fun h => absurd (by decide) h) (fun _ => ?_)
          refine lv_sipush (v := (-1002)) hx hb dX8_goingOn_41 (by decide) ?_
          obtain ⟨hP9, hD9⟩ := pd_sub [((a 0), .inr (8, (fX8 a (nI tx) fp (nI t0) wd (nI we) nu na (nI rd) ts (nI ru) (nI rw) (nI ca) df db sd))), (aI k (a 1) 3 (nF dn)), (aI k (a 4) 27 (sg se tm gs)), (aI k (a 2) 72 ffrees), (aI k (a 3) 72 fprices), (aI k (a 18) 768 fons), (aI k (a 19) 768 fworths), (aI k (a 20) 5 fstarts), (aI k (a 21) 4 fends), (aZ k (a 22) 4 fgoesRound), (aI k (a 23) 8 fbegin)] [0, 1, 2, 3, 4, 5, 6, 7, 8, 9, 10] hP hD (by decide +kernel) rfl
          exact W.iret (v := (-1002)) hx hb hr (fun t ht hW => ⟨⟨(-1002), (fons, fworths, fstarts, fends, fgoesRound, fbegin), rfl, dq_at (s := j_2) (by omega) (show dn j_2 ≤ 24 by omega) (show j_4 < dn j_2 by omega) (show siA (nI j_6) p3 goA (sdM dn (sg se tm gs) ffrees fprices j_2) j_4 _ from si_no (fun rn g c => hw_7 g c.2.2.1 (by have h9 := c.2.2.2; rw [seM (hse _)] at h9; exact h9))), by rw [ht]; exact hP9, hD9⟩, hS.F ht⟩) hS.2.2 dX8_goingOn_44
      · refine lv_if_eq (tgt := 41) hx hb dX8_goingOn_27 (by decide) (fun _ => ?_) (fun h => absurd (by decide) h)
        refine lv_sipush (v := (-1002)) hx hb dX8_goingOn_41 (by decide) ?_
        obtain ⟨hP9, hD9⟩ := pd_sub [((a 0), .inr (8, (fX8 a (nI tx) fp (nI t0) wd (nI we) nu na (nI rd) ts (nI ru) (nI rw) (nI ca) df db sd))), (aI k (a 1) 3 (nF dn)), (aI k (a 4) 27 (sg se tm gs)), (aI k (a 2) 72 ffrees), (aI k (a 3) 72 fprices), (aI k (a 18) 768 fons), (aI k (a 19) 768 fworths), (aI k (a 20) 5 fstarts), (aI k (a 21) 4 fends), (aZ k (a 22) 4 fgoesRound), (aI k (a 23) 8 fbegin)] [0, 1, 2, 3, 4, 5, 6, 7, 8, 9, 10] hP hD (by decide +kernel) rfl
        exact W.iret (v := (-1002)) hx hb hr (fun t ht hW => ⟨⟨(-1002), (fons, fworths, fstarts, fends, fgoesRound, fbegin), rfl, dq_at (s := j_2) (by omega) (show dn j_2 ≤ 24 by omega) (show j_4 < dn j_2 by omega) (show siA p1 p3 goA (sdM dn (sg se tm gs) ffrees fprices j_2) j_4 _ from si_no (fun rn g c => hw_5 (by rw [c.1]; exact inr (by have h9 := c.2.1; rw [tmM (htm _)] at h9; exact h9) (htm _)))), by rw [ht]; exact hP9, hD9⟩, hS.F ht⟩) hS.2.2 dX8_goingOn_44
    · refine lv_if_ne (tgt := 21) hx hb dX8_goingOn_14 (by decide) (fun h => absurd (by decide) h) (fun _ => ?_)
      refine lv_sipush (v := (-1001)) hx hb dX8_goingOn_17 (by decide) ?_
      obtain ⟨hP9, hD9⟩ := pd_sub [((a 0), .inr (8, (fX8 a (nI tx) fp (nI t0) wd (nI we) nu na (nI rd) ts (nI ru) (nI rw) (nI ca) df db sd))), (aI k (a 1) 3 (nF dn)), (aI k (a 4) 27 (sg se tm gs)), (aI k (a 2) 72 ffrees), (aI k (a 3) 72 fprices), (aI k (a 18) 768 fons), (aI k (a 19) 768 fworths), (aI k (a 20) 5 fstarts), (aI k (a 21) 4 fends), (aZ k (a 22) 4 fgoesRound), (aI k (a 23) 8 fbegin)] [0, 1, 2, 3, 4, 5, 6, 7, 8, 9, 10] hP hD (by decide +kernel) rfl
      exact W.iret (v := (-1001)) hx hb hr (fun t ht hW => ⟨⟨(-1001), (fons, fworths, fstarts, fends, fgoesRound, fbegin), rfl, dq_no (fun s h1 h2 i h3 h4 => by have h9 := nI_inj (by omega) (by omega) h2; subst h9; exact hw_3 i h3 h4), by rw [ht]; exact hP9, hD9⟩, hS.F ht⟩) hS.2.2 dX8_goingOn_20
  · refine lv_if_eq (tgt := 17) hx hb dX8_goingOn_5 (by decide) (fun _ => ?_) (fun h => absurd (by decide) h)
    refine lv_sipush (v := (-1001)) hx hb dX8_goingOn_17 (by decide) ?_
    obtain ⟨hP9, hD9⟩ := pd_sub [((a 0), .inr (8, (fX8 a (nI tx) fp (nI t0) wd (nI we) nu na (nI rd) ts (nI ru) (nI rw) (nI ca) df db sd))), (aI k (a 1) 3 (nF dn)), (aI k (a 4) 27 (sg se tm gs)), (aI k (a 2) 72 ffrees), (aI k (a 3) 72 fprices), (aI k (a 18) 768 fons), (aI k (a 19) 768 fworths), (aI k (a 20) 5 fstarts), (aI k (a 21) 4 fends), (aZ k (a 22) 4 fgoesRound), (aI k (a 23) 8 fbegin)] [0, 1, 2, 3, 4, 5, 6, 7, 8, 9, 10] hP hD (by decide +kernel) rfl
    exact W.iret (v := (-1001)) hx hb hr (fun t ht hW => ⟨⟨(-1001), (fons, fworths, fstarts, fends, fgoesRound, fbegin), rfl, dq_no (fun s h1 h2 i h3 h4 => hw_1 s h1 h2 (by show 0 < dn s; replace h4 : i < dn s := h4; omega)), by rw [ht]; exact hP9, hD9⟩, hS.F ht⟩) hS.2.2 dX8_goingOn_20


set_option maxHeartbeats 4000000 in
set_option maxRecDepth 100000 in
theorem n_isTaking (l : Launch) (D : va_G) (k : Nat → ClassId) (st : Nat → Nat) (lo : Nat) (a : Nat → Nat) (tx : Nat) (t0 : Nat) (we : Nat) (rd : Nat) (ru : Nat) (rw : Nat) (ca : Nat) (fp : Int32) (wd : Int64) (nu : Int32) (na : Int32) (ts : Int32) (df : Int32) (db : Int32) (sd : Int32) (dn : Nat → Nat) (se : Nat → Nat) (tm : Nat → Nat) (gs : Nat → Int32) (fprices : Nat → Int32) (fons : Nat → Int32) (sn : Nat) (rn : Nat) (i : Nat) (g : Nat)  (hs : sn < 3) (hrn : rn ≤ 3) (hi : i < 24) (hg : g < 8) : CRi l D k st lo yX8_isTaking cX8_isTaking 5 (some .boolean) ({ frames := 4, cells := 0, slots := 0, locals := 93 }) [.ref (a 0), .int (nI sn), .int (nI rn), .int (nI i), .int (nI g)] [((a 0), .inr (8, (fX8 a (nI tx) fp (nI t0) wd (nI we) nu na (nI rd) ts (nI ru) (nI rw) (nI ca) df db sd))), (aI k (a 1) 3 (nF dn)), (aI k (a 4) 27 (sg se tm gs)), (aI k (a 3) 72 fprices), (aI k (a 18) 768 fons)] (fun r => (r = 1 ∧ (g % 2 = 1 ∧ fM_taking dn se tm gs fprices sn i (nI rn) ≤ fons (192 * rn + 8 * i + g))) ∨ (r = 0 ∧ ¬ (g % 2 = 1 ∧ fM_taking dn se tm gs fprices sn i (nI rn) ≤ fons (192 * rn + 8 * i + g)))) := by
  intro sz
  refine Met.ofW (cc := cX8_isTaking) (maxL := 5) (ret := (some .boolean)) (by decide) rfl ?_
  intro p e s m args below meth c s₁ B hml hv
  obtain ⟨rfl, hsz, hlo, hP, hK, hDL, hZ⟩ := hv
  have hx := B.exec
  have hb := B.bytes
  have hr := B.returns
  have hts := WS_ts B.pre
  have hown : s.vm.findClass RX8 = some m.cls := findClass_of_methodNamed B.named
  have hlocks := B.notSynchronized
  subst hsz
  have hA : ∀ q : Nat, s.heap.size ≤ q → (fun q : Nat => s.heap.size ≤ q) q := fun _ h => h
  have hAlo : ∀ q : Nat, (fun q : Nat => s.heap.size ≤ q) q → lo ≤ q := fun q h => Nat.le_trans hlo h
  have hS : va_S (fun q : Nat => s.heap.size ≤ q) s.heap s.heap [] := va_S.rf
  have hl := lv_entry ([.ref (a 0), .int (nI sn), .int (nI rn), .int (nI i), .int (nI g)]) (n := 5) (Nat.le_of_ble_eq_true rfl)
  rw [lg_entry_eq]
  generalize (lg_sl ([.ref (a 0), .int (nI sn), .int (nI rn), .int (nI i), .int (nI g)]) ++ List.replicate (5 - (lg_sl ([.ref (a 0), .int (nI sn), .int (nI rn), .int (nI i), .int (nI g)])).length) Slot.unset).toArray = ls at hl ⊢
  have hl : lv_has ls 5 [(0, .ref (a 0)), (1, .int (nI sn)), (2, .int (nI rn)), (3, .int (nI i)), (4, .int (nI g))] := hl
  refine lv_iload hx hb dX8_isTaking_0 (lv_at hl 4 rfl) ?_
  refine lv_iconst (v := 1) hx hb dX8_isTaking_2 (by decide) ?_
  refine lv_iand hx hb dX8_isTaking_3 ?_
  refine lv_topi (fun x_1 ex_1 => ?_)
  refine lv_iconst (v := 1) hx hb dX8_isTaking_4 (by decide) ?_
  refine lv_icmp_ne (tgt := 34) hx hb dX8_isTaking_5 (by decide) (fun c_2 => ?_) (fun c_2 => ?_)
  · rw [ex_1] at c_2
    refine lv_iconst (v := 0) hx hb dX8_isTaking_34 (by decide) ?_
    exact W.zret (v := 0) (ty := .boolean) hx hb hr rfl (fun t ht hW => ⟨⟨0, (), rfl, .inr ⟨rfl, fun h => c_2 (((ev_and g hg).2).mpr h.1)⟩, trivial⟩, hS.F ht⟩) hS.2.2 dX8_isTaking_35
  · rw [ex_1] at c_2
    refine lv_aload_n hx hb dX8_isTaking_8 rfl (lv_at hl 0 rfl) ?_
    refine lv_iload_n hx hb dX8_isTaking_9 rfl (lv_at hl 1 rfl) ?_
    refine lv_iload_n hx hb dX8_isTaking_10 rfl (lv_at hl 2 rfl) ?_
    refine lv_iload_n hx hb dX8_isTaking_11 rfl (lv_at hl 3 rfl) ?_
    refine ro_i (D := D) (va_runV (As := [.int (nI sn), .int (nI rn), .int (nI i)]) (rest := []) ⟨hx, hb, hml, hown, hts⟩ ((n_takingOf l D k st lo a tx t0 we rd ru rw ca fp wd nu na ts df db sd dn se tm gs fprices sn i (nI rn) (by first | assumption | omega) (by first | assumption | omega)) s.heap.size) (cwV 3 hts (gV tw_1222 tw_1224 tw_43 tw_87 tw_1225) rfl rfl rfl (by decide +kernel) ⟨Nat.le_of_ble_eq_true rfl, Nat.le_of_ble_eq_true rfl⟩) (pV hS hAlo hlo hP hK hDL hZ [0, 1, 2, 3] (by decide) rfl (ci := 8) (q := (RX8, TX8, 44)) (q0 := 0) rfl rfl) rfl rfl hl.1 rfl (lv_room (Nat.le_of_ble_eq_true rfl)) dX8_isTaking_12 ⟨Nat.le_of_ble_eq_true rfl, Nat.le_of_ble_eq_true rfl⟩) hS hA hP (fun r_3 H locs hw_3 hP hS => ?_)
    try dsimp only at hw_3
    refine lv_aload_n hx hb dX8_isTaking_15 rfl (lv_at hl 0 rfl) ?_
    refine va_get (D := D) (ci := 8) (v := .ref (a 18)) (C := RX8) (T := TX8) (N := 44) hx hb hts inX8 hown hK hP 0 rfl rfl 17 (by decide) (hts _ tw_990) (fun _ h9 => h9) rfl dX8_isTaking_16 ?_
    refine lv_iload_n hx hb dX8_isTaking_19 rfl (lv_at hl 2 rfl) ?_
    refine lv_iload_n hx hb dX8_isTaking_20 rfl (lv_at hl 3 rfl) ?_
    refine lv_iload hx hb dX8_isTaking_21 (lv_at hl 4 rfl) ?_
    refine ro_i (D := D) (va_runS (As := [.int (nI rn), .int (nI i), .int (nI g)]) (rest := [.ref (a 18), .int r_3]) ⟨hx, hb, hml, hown, hts⟩ ((m_at l D k st lo rn i g) H.size) (va_cwS 3 hts (gS tw_1266 tw_1267 tw_87 tw_1268) rfl rfl rfl (by decide +kernel) ⟨Nat.le_of_ble_eq_true rfl, Nat.le_of_ble_eq_true rfl⟩) (pS hS hAlo hlo hP hK hDL hZ [] (by decide) rfl) rfl rfl hl.1 rfl (lv_room (Nat.le_of_ble_eq_true rfl)) dX8_isTaking_23 ⟨Nat.le_of_ble_eq_true rfl, Nat.le_of_ble_eq_true rfl⟩) hS hA hP (fun r_4 H locs hw_4 hP hS => ?_)
    try dsimp only at hw_4
    subst hw_4
    refine va_iald hx hb hK hP 4 1 rfl rfl (vp_in_nI (by omega) (by decide)) dX8_isTaking_26 ?_
    refine lv_ti (y := (fons (192 * rn + 8 * i + g))) (by rw [nI_clamp (by omega)]) ?_
    refine lv_icmp_gt (tgt := 34) hx hb dX8_isTaking_27 (by decide) (fun c_5 => ?_) (fun c_5 => ?_)
    · refine lv_iconst (v := 0) hx hb dX8_isTaking_34 (by decide) ?_
      exact W.zret (v := 0) (ty := .boolean) hx hb hr rfl (fun t ht hW => ⟨⟨0, (), rfl, .inr ⟨rfl, fun h => absurd c_5 (Int32.not_lt.mpr (by rw [hw_3]; exact h.2))⟩, trivial⟩, hS.F ht⟩) hS.2.2 dX8_isTaking_35
    · refine lv_iconst (v := 1) hx hb dX8_isTaking_30 (by decide) ?_
      refine lv_goto (tgt := 35) hx hb dX8_isTaking_31 (by decide) ?_
      exact W.zret (v := 1) (ty := .boolean) hx hb hr rfl (fun t ht hW => ⟨⟨1, (), rfl, .inl ⟨rfl, ((ev_and g hg).2).mp c_2, (by rw [← hw_3]; exact Int32.not_lt.mp c_5)⟩, trivial⟩, hS.F ht⟩) hS.2.2 dX8_isTaking_35


set_option maxHeartbeats 4000000 in
set_option maxRecDepth 100000 in
theorem n_takes (l : Launch) (D : va_G) (k : Nat → ClassId) (st : Nat → Nat) (lo : Nat) (a : Nat → Nat) (tx : Nat) (t0 : Nat) (we : Nat) (rd : Nat) (ru : Nat) (rw : Nat) (ca : Nat) (fp : Int32) (wd : Int64) (nu : Int32) (na : Int32) (ts : Int32) (df : Int32) (db : Int32) (sd : Int32) (dn : Nat → Nat) (se : Nat → Nat) (tm : Nat → Nat) (gs : Nat → Int32) (ffrees : Nat → Int32) (fprices : Nat → Int32) (fons : Nat → Int32) (fworths : Nat → Int32) (fstarts : Nat → Int32) (fends : Nat → Int32) (fgoesRound : Nat → Int32) (fbegin : Nat → Int32) (p0 : Int32) (p1 : Int32) (p2 : Int32) (p3 : Int32) (hdn : ∀ j, dn j ≤ 24) (hse : ∀ j, se j ≤ 2) (htm : ∀ j, tm j ≤ 3) : CWi l D k st lo yX8_takes cX8_takes 5 (some .int) ({ frames := 6, cells := 0, slots := 0, locals := 144 }) 0 0 [.ref (a 0), .int p0, .int p1, .int p2, .int p3] [((a 0), .inr (8, (fX8 a (nI tx) fp (nI t0) wd (nI we) nu na (nI rd) ts (nI ru) (nI rw) (nI ca) df db sd))), (aI k (a 1) 3 (nF dn)), (aI k (a 4) 27 (sg se tm gs)), (aI k (a 2) 72 ffrees), (aI k (a 3) 72 fprices), (aI k (a 18) 768 fons), (aI k (a 19) 768 fworths), (aI k (a 20) 5 fstarts), (aI k (a 21) 4 fends), (aZ k (a 22) 4 fgoesRound), (aI k (a 23) 8 fbegin)] (fun (r : Int32) (u : (Nat → Int32) × (Nat → Int32) × (Nat → Int32) × (Nat → Int32) × (Nat → Int32) × (Nat → Int32)) => match u with | (fons_, fworths_, fstarts_, fends_, fgoesRound_, fbegin_) => dqP (sdM dn (sg se tm gs) ffrees fprices) p0 p2 (siA p1 p3 tsA) r) (fun (u : (Nat → Int32) × (Nat → Int32) × (Nat → Int32) × (Nat → Int32) × (Nat → Int32) × (Nat → Int32)) => match u with | (fons_, fworths_, fstarts_, fends_, fgoesRound_, fbegin_) => [((a 0), .inr (8, (fX8 a (nI tx) fp (nI t0) wd (nI we) nu na (nI rd) ts (nI ru) (nI rw) (nI ca) df db sd))), (aI k (a 1) 3 (nF dn)), (aI k (a 4) 27 (sg se tm gs)), (aI k (a 2) 72 ffrees), (aI k (a 3) 72 fprices), (aI k (a 18) 768 fons_), (aI k (a 19) 768 fworths_), (aI k (a 20) 5 fstarts_), (aI k (a 21) 4 fends_), (aZ k (a 22) 4 fgoesRound_), (aI k (a 23) 8 fbegin_)]) := by
  intro sz
  refine Met.ofW (cc := cX8_takes) (maxL := 5) (ret := (some .int)) (by decide) rfl ?_
  intro p e s m args below meth c s₁ B hml hv
  obtain ⟨rfl, hsz, hlo, hP, hK, hDL, hZ⟩ := hv
  have hx := B.exec
  have hb := B.bytes
  have hr := B.returns
  have hts := WS_ts B.pre
  have hown : s.vm.findClass RX8 = some m.cls := findClass_of_methodNamed B.named
  have hlocks := B.notSynchronized
  subst hsz
  have hD := hDL.self (sz := s.heap.size)
  have hAlo := A_lo hDL hlo
  generalize hAe : va_A [((a 0), .inr (8, (fX8 a (nI tx) fp (nI t0) wd (nI we) nu na (nI rd) ts (nI ru) (nI rw) (nI ca) df db sd))), (aI k (a 1) 3 (nF dn)), (aI k (a 4) 27 (sg se tm gs)), (aI k (a 2) 72 ffrees), (aI k (a 3) 72 fprices), (aI k (a 18) 768 fons), (aI k (a 19) 768 fworths), (aI k (a 20) 5 fstarts), (aI k (a 21) 4 fends), (aZ k (a 22) 4 fgoesRound), (aI k (a 23) 8 fbegin)] s.heap.size = A at hD hAlo ⊢
  have hA : ∀ q : Nat, s.heap.size ≤ q → A q := fun q h => by rw [← hAe]; exact Or.inr h
  have hS : va_S A s.heap s.heap [] := va_S.rf
  have hl := lv_entry ([.ref (a 0), .int p0, .int p1, .int p2, .int p3]) (n := 5) (Nat.le_of_ble_eq_true rfl)
  rw [lg_entry_eq]
  generalize (lg_sl ([.ref (a 0), .int p0, .int p1, .int p2, .int p3]) ++ List.replicate (5 - (lg_sl ([.ref (a 0), .int p0, .int p1, .int p2, .int p3])).length) Slot.unset).toArray = ls at hl ⊢
  have hl : lv_has ls 5 [(0, .ref (a 0)), (1, .int p0), (2, .int p1), (3, .int p2), (4, .int p3)] := hl
  refine lv_aload_n hx hb dX8_takes_0 rfl (lv_at hl 0 rfl) ?_
  refine lv_iload_n hx hb dX8_takes_1 rfl (lv_at hl 1 rfl) ?_
  refine ro_i (D := D) (va_runV (As := [.int p0]) (rest := []) ⟨hx, hb, hml, hown, hts⟩ ((n_isStreet l D k st lo a tx t0 we rd ru rw ca fp wd nu na ts df db sd dn p0 hdn) s.heap.size) (cwV 1 hts (gV tw_1189 tw_1191 tw_38 tw_87 tw_1192) rfl rfl rfl (by decide +kernel) ⟨Nat.le_of_ble_eq_true rfl, Nat.le_of_ble_eq_true rfl⟩) (pV hS hAlo hlo hP hK (va_Dlo hD hAlo) hZ [0, 1] (by decide) rfl (ci := 8) (q := (RX8, TX8, 44)) (q0 := 0) rfl rfl) rfl rfl hl.1 rfl (lv_room (Nat.le_of_ble_eq_true rfl)) dX8_takes_2 ⟨Nat.le_of_ble_eq_true rfl, Nat.le_of_ble_eq_true rfl⟩) hS hA hP (fun r_1 H locs hw_1 hP hS => ?_)
  try dsimp only at hw_1
  rcases hw_1 with ⟨rfl, j_2, hj_2, rfl, hw_1⟩ | ⟨rfl, hw_1⟩
  · have hdj_2 := hdn j_2
    have htj_2 := htm j_2
    refine lv_if_eq (tgt := 17) hx hb dX8_takes_5 (by decide) (fun h => absurd h (by decide)) (fun _ => ?_)
    refine lv_aload_n hx hb dX8_takes_8 rfl (lv_at hl 0 rfl) ?_
    refine lv_iload_n hx hb dX8_takes_9 rfl (lv_at hl 1 rfl) ?_
    refine lv_iload_n hx hb dX8_takes_10 rfl (lv_at hl 3 rfl) ?_
    refine ro_i (D := D) (va_runV (As := [.int (nI j_2), .int p2]) (rest := []) ⟨hx, hb, hml, hown, hts⟩ ((n_isDoor l D k st lo a tx t0 we rd ru rw ca fp wd nu na ts df db sd dn j_2 p2 hdn (by first | assumption | omega)) H.size) (cwV 2 hts (gV tw_1202 tw_1204 tw_40 tw_87 tw_1205) rfl rfl rfl (by decide +kernel) ⟨Nat.le_of_ble_eq_true rfl, Nat.le_of_ble_eq_true rfl⟩) (pV hS hAlo hlo hP hK (va_Dlo hD hAlo) hZ [0, 1] (by decide) rfl (ci := 8) (q := (RX8, TX8, 44)) (q0 := 0) rfl rfl) rfl rfl hl.1 rfl (lv_room (Nat.le_of_ble_eq_true rfl)) dX8_takes_11 ⟨Nat.le_of_ble_eq_true rfl, Nat.le_of_ble_eq_true rfl⟩) hS hA hP (fun r_3 H locs hw_3 hP hS => ?_)
    try dsimp only at hw_3
    rcases hw_3 with ⟨rfl, j_4, hj_4, rfl, hw_3⟩ | ⟨rfl, hw_3⟩
    · refine lv_if_ne (tgt := 21) hx hb dX8_takes_14 (by decide) (fun _ => ?_) (fun h => absurd h (by decide))
      refine lv_aload_n hx hb dX8_takes_21 rfl (lv_at hl 0 rfl) ?_
      refine lv_iload_n hx hb dX8_takes_22 rfl (lv_at hl 1 rfl) ?_
      refine lv_iload_n hx hb dX8_takes_23 rfl (lv_at hl 2 rfl) ?_
      refine ro_i (D := D) (va_runV (As := [.int (nI j_2), .int p1]) (rest := []) ⟨hx, hb, hml, hown, hts⟩ ((n_isRound l D k st lo a tx t0 we rd ru rw ca fp wd nu na ts df db sd se tm gs j_2 p1 htm (by first | assumption | omega)) H.size) (cwV 2 hts (gV tw_1218 tw_1220 tw_42 tw_87 tw_1221) rfl rfl rfl (by decide +kernel) ⟨Nat.le_of_ble_eq_true rfl, Nat.le_of_ble_eq_true rfl⟩) (pV hS hAlo hlo hP hK (va_Dlo hD hAlo) hZ [0, 2] (by decide) rfl (ci := 8) (q := (RX8, TX8, 44)) (q0 := 0) rfl rfl) rfl rfl hl.1 rfl (lv_room (Nat.le_of_ble_eq_true rfl)) dX8_takes_24 ⟨Nat.le_of_ble_eq_true rfl, Nat.le_of_ble_eq_true rfl⟩) hS hA hP (fun r_5 H locs hw_5 hP hS => ?_)
      try dsimp only at hw_5
      rcases hw_5 with ⟨rfl, j_6, hj_6, rfl, hw_5⟩ | ⟨rfl, hw_5⟩
      · refine lv_if_eq (tgt := 41) hx hb dX8_takes_27 (by decide) (fun h => absurd h (by decide)) (fun _ => ?_)
        refine lv_aload_n hx hb dX8_takes_30 rfl (lv_at hl 0 rfl) ?_
        refine lv_iload_n hx hb dX8_takes_31 rfl (lv_at hl 1 rfl) ?_
        refine lv_iload_n hx hb dX8_takes_32 rfl (lv_at hl 3 rfl) ?_
        refine lv_iload hx hb dX8_takes_33 (lv_at hl 4 rfl) ?_
        refine ro_i (D := D) (va_runV (As := [.int (nI j_2), .int (nI j_4), .int p3]) (rest := []) ⟨hx, hb, hml, hown, hts⟩ ((n_isSight l D k st lo a tx t0 we rd ru rw ca fp wd nu na ts df db sd dn se tm gs j_2 j_4 p3 hdn hse (by first | assumption | omega) (by first | assumption | omega)) H.size) (cwV 3 hts (gV tw_1242 tw_1244 tw_47 tw_87 tw_1245) rfl rfl rfl (by decide +kernel) ⟨Nat.le_of_ble_eq_true rfl, Nat.le_of_ble_eq_true rfl⟩) (pV hS hAlo hlo hP hK (va_Dlo hD hAlo) hZ [0, 1, 2] (by decide) rfl (ci := 8) (q := (RX8, TX8, 44)) (q0 := 0) rfl rfl) rfl rfl hl.1 rfl (lv_room (Nat.le_of_ble_eq_true rfl)) dX8_takes_35 ⟨Nat.le_of_ble_eq_true rfl, Nat.le_of_ble_eq_true rfl⟩) hS hA hP (fun r_7 H locs hw_7 hP hS => ?_)
        try dsimp only at hw_7
        rcases hw_7 with ⟨rfl, j_8, hj_8, rfl, hw_7⟩ | ⟨rfl, hw_7⟩
        · have hg8_8 : j_8 < 8 := by have h8 := (p8 (sq_le (see := se j_2) (n := dn j_2) (i := j_4) (hse _))).2; omega
          refine lv_if_ne (tgt := 45) hx hb dX8_takes_38 (by decide) (fun _ => ?_) (fun h => absurd h (by decide))
          refine lv_iload hx hb dX8_takes_45 (lv_at hl 4 rfl) ?_
          refine lv_iconst (v := 1) hx hb dX8_takes_47 (by decide) ?_
          refine lv_iand hx hb dX8_takes_48 ?_
          refine lv_topi (fun x_9 ex_9 => ?_)
          refine lv_if_ne (tgt := 56) hx hb dX8_takes_49 (by decide) (fun c_10 => ?_) (fun c_10 => ?_)
          · rw [ex_9] at c_10
            refine lv_aload_n hx hb dX8_takes_56 rfl (lv_at hl 0 rfl) ?_
            refine lv_iload_n hx hb dX8_takes_57 rfl (lv_at hl 1 rfl) ?_
            refine rw_v (D := D) (wr := []) (va_runV (As := [.int (nI j_2)]) (rest := []) ⟨hx, hb, hml, hown, hts⟩ ((n_findWay l D k st lo a tx t0 we rd ru rw ca fp wd nu na ts df db sd dn se tm gs ffrees fprices fons fworths fstarts fends fgoesRound fbegin j_2 hdn hse htm (by first | assumption | omega) (by first | assumption | omega)) H.size) (cwV 1 hts (gV tw_1250 tw_1252 tw_49 tw_87 tw_1253) rfl rfl rfl (by decide +kernel) ⟨Nat.le_of_ble_eq_true rfl, Nat.le_of_ble_eq_true rfl⟩) (pV hS hAlo hlo hP hK (va_Dlo hD hAlo) hZ [0, 1, 2, 3, 4, 5, 6, 7, 8, 9, 10] (by decide +kernel) rfl (ci := 8) (q := (RX8, TX8, 44)) (q0 := 0) rfl rfl) rfl rfl hl.1 rfl (lv_room (Nat.le_of_ble_eq_true rfl)) dX8_takes_58 ⟨Nat.le_of_ble_eq_true rfl, Nat.le_of_ble_eq_true rfl⟩) hS hA hP hD [0, 1, 2, 3, 4, 5, 6, 7, 8, 9, 10] [] rfl rfl (by decide +kernel) (by decide +kernel) (fun u H locs hw_11 hP hD hS => ?_)
            obtain ⟨fons__11, fworths__11, fstarts__11, fends__11, fgoesRound__11, fbegin__11⟩ := u
            have hQ9 := pd_mk [((a 0), .inr (8, (fX8 a (nI tx) fp (nI t0) wd (nI we) nu na (nI rd) ts (nI ru) (nI rw) (nI ca) df db sd))), (aI k (a 1) 3 (nF dn)), (aI k (a 4) 27 (sg se tm gs)), (aI k (a 2) 72 ffrees), (aI k (a 3) 72 fprices), (aI k (a 18) 768 fons__11), (aI k (a 19) 768 fworths__11), (aI k (a 20) 5 fstarts__11), (aI k (a 21) 4 fends__11), (aZ k (a 22) 4 fgoesRound__11), (aI k (a 23) 8 fbegin__11)] hP hD
            clear hP hD
            obtain ⟨hP, hD⟩ := hQ9
            try dsimp only at hw_11
            refine lv_aload_n hx hb dX8_takes_61 rfl (lv_at hl 0 rfl) ?_
            refine lv_iload_n hx hb dX8_takes_62 rfl (lv_at hl 1 rfl) ?_
            refine lv_iload_n hx hb dX8_takes_63 rfl (lv_at hl 2 rfl) ?_
            refine lv_iload_n hx hb dX8_takes_64 rfl (lv_at hl 3 rfl) ?_
            refine lv_iload hx hb dX8_takes_65 (lv_at hl 4 rfl) ?_
            refine ro_i (D := D) (va_runV (As := [.int (nI j_2), .int (nI j_6), .int (nI j_4), .int (nI j_8)]) (rest := []) ⟨hx, hb, hml, hown, hts⟩ ((n_isTaking l D k st lo a tx t0 we rd ru rw ca fp wd nu na ts df db sd dn se tm gs fprices fons__11 j_2 j_6 j_4 j_8 (by first | assumption | omega) (by first | assumption | omega) (by first | assumption | omega) (by first | assumption | omega)) H.size) (cwV 4 hts (gV tw_1285 tw_1287 tw_54 tw_87 tw_1288) rfl rfl rfl (by decide +kernel) ⟨Nat.le_of_ble_eq_true rfl, Nat.le_of_ble_eq_true rfl⟩) (pV hS hAlo hlo hP hK (va_Dlo hD hAlo) hZ [0, 1, 2, 4, 5] (by decide) rfl (ci := 8) (q := (RX8, TX8, 44)) (q0 := 0) rfl rfl) rfl rfl hl.1 rfl (lv_room (Nat.le_of_ble_eq_true rfl)) dX8_takes_67 ⟨Nat.le_of_ble_eq_true rfl, Nat.le_of_ble_eq_true rfl⟩) hS hA hP (fun r_12 H locs hw_12 hP hS => ?_)
            try dsimp only at hw_12
            rcases hw_12 with ⟨rfl, hw_12⟩ | ⟨rfl, hw_12⟩
            · refine lv_if_eq (tgt := 77) hx hb dX8_takes_70 (by decide) (fun h => absurd h (by decide)) (fun _ => ?_)
              refine lv_iconst (v := 1) hx hb dX8_takes_73 (by decide) ?_
              refine lv_goto (tgt := 78) hx hb dX8_takes_74 (by decide) ?_
              obtain ⟨hP9, hD9⟩ := pd_sub [((a 0), .inr (8, (fX8 a (nI tx) fp (nI t0) wd (nI we) nu na (nI rd) ts (nI ru) (nI rw) (nI ca) df db sd))), (aI k (a 1) 3 (nF dn)), (aI k (a 4) 27 (sg se tm gs)), (aI k (a 2) 72 ffrees), (aI k (a 3) 72 fprices), (aI k (a 18) 768 fons__11), (aI k (a 19) 768 fworths__11), (aI k (a 20) 5 fstarts__11), (aI k (a 21) 4 fends__11), (aZ k (a 22) 4 fgoesRound__11), (aI k (a 23) 8 fbegin__11)] [0, 1, 2, 3, 4, 5, 6, 7, 8, 9, 10] hP hD (by decide +kernel) rfl
              exact W.iret (v := 1) hx hb hr (fun t ht hW => ⟨⟨1, (fons__11, fworths__11, fstarts__11, fends__11, fgoesRound__11, fbegin__11), rfl, dq_at (s := j_2) (by omega) (show dn j_2 ≤ 24 by omega) (show j_4 < dn j_2 by omega) (show siA (nI j_6) (nI j_8) tsA (sdM dn (sg se tm gs) ffrees fprices j_2) j_4 _ from si_at (by rw [tmM (htm _)]; exact htm _) (by rw [seM (hse _)]; exact hse _) (by rw [tmM (htm _)]; omega) (by rw [seM (hse _)]; exact hj_8) ⟨fun h => absurd (Classical.not_not.mp (fun z => c_10 (((ev_and j_8 hg8_8).1).mpr z))) h, fun _ => (by rw [if_pos (show pTake (sdM dn (sg se tm gs) ffrees fprices j_2) j_6 j_4 ≤ wayO (sdM dn (sg se tm gs) ffrees fprices j_2) j_6 j_4 j_8 by rw [← (mTake (dn := dn) (se := se) (tm := tm) (gs := gs) (ffr := ffrees) (fpr := fprices) (r := j_6) (show j_4 < dn j_2 by omega)), ← (wmw_of (wm_of (hse _) (htm _) hw_11) (show j_6 ≤ tmD (sdM dn (sg se tm gs) ffrees fprices j_2) by rw [tmM (htm _)]; omega) (show j_4 < dn j_2 by omega) (show j_8 < 2 ^ sqN (seD (sdM dn (sg se tm gs) ffrees fprices j_2)) (dn j_2) j_4 by rw [seM (hse _)]; exact hj_8)).2]; exact hw_12.2)])⟩), by rw [ht]; exact hP9, hD9⟩, hS.F ht⟩) hS.2.2 dX8_takes_78
            · refine lv_if_eq (tgt := 77) hx hb dX8_takes_70 (by decide) (fun _ => ?_) (fun h => absurd (by decide) h)
              refine lv_iconst (v := 0) hx hb dX8_takes_77 (by decide) ?_
              obtain ⟨hP9, hD9⟩ := pd_sub [((a 0), .inr (8, (fX8 a (nI tx) fp (nI t0) wd (nI we) nu na (nI rd) ts (nI ru) (nI rw) (nI ca) df db sd))), (aI k (a 1) 3 (nF dn)), (aI k (a 4) 27 (sg se tm gs)), (aI k (a 2) 72 ffrees), (aI k (a 3) 72 fprices), (aI k (a 18) 768 fons__11), (aI k (a 19) 768 fworths__11), (aI k (a 20) 5 fstarts__11), (aI k (a 21) 4 fends__11), (aZ k (a 22) 4 fgoesRound__11), (aI k (a 23) 8 fbegin__11)] [0, 1, 2, 3, 4, 5, 6, 7, 8, 9, 10] hP hD (by decide +kernel) rfl
              exact W.iret (v := 0) hx hb hr (fun t ht hW => ⟨⟨0, (fons__11, fworths__11, fstarts__11, fends__11, fgoesRound__11, fbegin__11), rfl, dq_at (s := j_2) (by omega) (show dn j_2 ≤ 24 by omega) (show j_4 < dn j_2 by omega) (show siA (nI j_6) (nI j_8) tsA (sdM dn (sg se tm gs) ffrees fprices j_2) j_4 _ from si_at (by rw [tmM (htm _)]; exact htm _) (by rw [seM (hse _)]; exact hse _) (by rw [tmM (htm _)]; omega) (by rw [seM (hse _)]; exact hj_8) ⟨fun h => absurd (Classical.not_not.mp (fun z => c_10 (((ev_and j_8 hg8_8).1).mpr z))) h, fun _ => (by rw [if_neg (show ¬ pTake (sdM dn (sg se tm gs) ffrees fprices j_2) j_6 j_4 ≤ wayO (sdM dn (sg se tm gs) ffrees fprices j_2) j_6 j_4 j_8 by rw [← (mTake (dn := dn) (se := se) (tm := tm) (gs := gs) (ffr := ffrees) (fpr := fprices) (r := j_6) (show j_4 < dn j_2 by omega)), ← (wmw_of (wm_of (hse _) (htm _) hw_11) (show j_6 ≤ tmD (sdM dn (sg se tm gs) ffrees fprices j_2) by rw [tmM (htm _)]; omega) (show j_4 < dn j_2 by omega) (show j_8 < 2 ^ sqN (seD (sdM dn (sg se tm gs) ffrees fprices j_2)) (dn j_2) j_4 by rw [seM (hse _)]; exact hj_8)).2]; exact fun q => hw_12 ⟨Classical.not_not.mp (fun z => c_10 (((ev_and j_8 hg8_8).1).mpr z)), q⟩)])⟩), by rw [ht]; exact hP9, hD9⟩, hS.F ht⟩) hS.2.2 dX8_takes_78
          · rw [ex_9] at c_10
            refine lv_sipush (v := (-1003)) hx hb dX8_takes_52 (by decide) ?_
            obtain ⟨hP9, hD9⟩ := pd_sub [((a 0), .inr (8, (fX8 a (nI tx) fp (nI t0) wd (nI we) nu na (nI rd) ts (nI ru) (nI rw) (nI ca) df db sd))), (aI k (a 1) 3 (nF dn)), (aI k (a 4) 27 (sg se tm gs)), (aI k (a 2) 72 ffrees), (aI k (a 3) 72 fprices), (aI k (a 18) 768 fons), (aI k (a 19) 768 fworths), (aI k (a 20) 5 fstarts), (aI k (a 21) 4 fends), (aZ k (a 22) 4 fgoesRound), (aI k (a 23) 8 fbegin)] [0, 1, 2, 3, 4, 5, 6, 7, 8, 9, 10] hP hD (by decide +kernel) rfl
            exact W.iret (v := (-1003)) hx hb hr (fun t ht hW => ⟨⟨(-1003), (fons, fworths, fstarts, fends, fgoesRound, fbegin), rfl, dq_at (s := j_2) (by omega) (show dn j_2 ≤ 24 by omega) (show j_4 < dn j_2 by omega) (show siA (nI j_6) (nI j_8) tsA (sdM dn (sg se tm gs) ffrees fprices j_2) j_4 _ from si_at (by rw [tmM (htm _)]; exact htm _) (by rw [seM (hse _)]; exact hse _) (by rw [tmM (htm _)]; omega) (by rw [seM (hse _)]; exact hj_8) ⟨fun _ => rfl, fun h => absurd h (((ev_and j_8 hg8_8).1).mp c_10)⟩), by rw [ht]; exact hP9, hD9⟩, hS.F ht⟩) hS.2.2 dX8_takes_55
        · refine lv_if_ne (tgt := 45) hx hb dX8_takes_38 (by decide) (fun h => absurd (by decide) h) (fun _ => ?_)
          refine lv_sipush (v := (-1002)) hx hb dX8_takes_41 (by decide) ?_
          obtain ⟨hP9, hD9⟩ := pd_sub [((a 0), .inr (8, (fX8 a (nI tx) fp (nI t0) wd (nI we) nu na (nI rd) ts (nI ru) (nI rw) (nI ca) df db sd))), (aI k (a 1) 3 (nF dn)), (aI k (a 4) 27 (sg se tm gs)), (aI k (a 2) 72 ffrees), (aI k (a 3) 72 fprices), (aI k (a 18) 768 fons), (aI k (a 19) 768 fworths), (aI k (a 20) 5 fstarts), (aI k (a 21) 4 fends), (aZ k (a 22) 4 fgoesRound), (aI k (a 23) 8 fbegin)] [0, 1, 2, 3, 4, 5, 6, 7, 8, 9, 10] hP hD (by decide +kernel) rfl
          exact W.iret (v := (-1002)) hx hb hr (fun t ht hW => ⟨⟨(-1002), (fons, fworths, fstarts, fends, fgoesRound, fbegin), rfl, dq_at (s := j_2) (by omega) (show dn j_2 ≤ 24 by omega) (show j_4 < dn j_2 by omega) (show siA (nI j_6) p3 tsA (sdM dn (sg se tm gs) ffrees fprices j_2) j_4 _ from si_no (fun rn g c => hw_7 g c.2.2.1 (by have h9 := c.2.2.2; rw [seM (hse _)] at h9; exact h9))), by rw [ht]; exact hP9, hD9⟩, hS.F ht⟩) hS.2.2 dX8_takes_44
      · refine lv_if_eq (tgt := 41) hx hb dX8_takes_27 (by decide) (fun _ => ?_) (fun h => absurd (by decide) h)
        refine lv_sipush (v := (-1002)) hx hb dX8_takes_41 (by decide) ?_
        obtain ⟨hP9, hD9⟩ := pd_sub [((a 0), .inr (8, (fX8 a (nI tx) fp (nI t0) wd (nI we) nu na (nI rd) ts (nI ru) (nI rw) (nI ca) df db sd))), (aI k (a 1) 3 (nF dn)), (aI k (a 4) 27 (sg se tm gs)), (aI k (a 2) 72 ffrees), (aI k (a 3) 72 fprices), (aI k (a 18) 768 fons), (aI k (a 19) 768 fworths), (aI k (a 20) 5 fstarts), (aI k (a 21) 4 fends), (aZ k (a 22) 4 fgoesRound), (aI k (a 23) 8 fbegin)] [0, 1, 2, 3, 4, 5, 6, 7, 8, 9, 10] hP hD (by decide +kernel) rfl
        exact W.iret (v := (-1002)) hx hb hr (fun t ht hW => ⟨⟨(-1002), (fons, fworths, fstarts, fends, fgoesRound, fbegin), rfl, dq_at (s := j_2) (by omega) (show dn j_2 ≤ 24 by omega) (show j_4 < dn j_2 by omega) (show siA p1 p3 tsA (sdM dn (sg se tm gs) ffrees fprices j_2) j_4 _ from si_no (fun rn g c => hw_5 (by rw [c.1]; exact inr (by have h9 := c.2.1; rw [tmM (htm _)] at h9; exact h9) (htm _)))), by rw [ht]; exact hP9, hD9⟩, hS.F ht⟩) hS.2.2 dX8_takes_44
    · refine lv_if_ne (tgt := 21) hx hb dX8_takes_14 (by decide) (fun h => absurd (by decide) h) (fun _ => ?_)
      refine lv_sipush (v := (-1001)) hx hb dX8_takes_17 (by decide) ?_
      obtain ⟨hP9, hD9⟩ := pd_sub [((a 0), .inr (8, (fX8 a (nI tx) fp (nI t0) wd (nI we) nu na (nI rd) ts (nI ru) (nI rw) (nI ca) df db sd))), (aI k (a 1) 3 (nF dn)), (aI k (a 4) 27 (sg se tm gs)), (aI k (a 2) 72 ffrees), (aI k (a 3) 72 fprices), (aI k (a 18) 768 fons), (aI k (a 19) 768 fworths), (aI k (a 20) 5 fstarts), (aI k (a 21) 4 fends), (aZ k (a 22) 4 fgoesRound), (aI k (a 23) 8 fbegin)] [0, 1, 2, 3, 4, 5, 6, 7, 8, 9, 10] hP hD (by decide +kernel) rfl
      exact W.iret (v := (-1001)) hx hb hr (fun t ht hW => ⟨⟨(-1001), (fons, fworths, fstarts, fends, fgoesRound, fbegin), rfl, dq_no (fun s h1 h2 i h3 h4 => by have h9 := nI_inj (by omega) (by omega) h2; subst h9; exact hw_3 i h3 h4), by rw [ht]; exact hP9, hD9⟩, hS.F ht⟩) hS.2.2 dX8_takes_20
  · refine lv_if_eq (tgt := 17) hx hb dX8_takes_5 (by decide) (fun _ => ?_) (fun h => absurd (by decide) h)
    refine lv_sipush (v := (-1001)) hx hb dX8_takes_17 (by decide) ?_
    obtain ⟨hP9, hD9⟩ := pd_sub [((a 0), .inr (8, (fX8 a (nI tx) fp (nI t0) wd (nI we) nu na (nI rd) ts (nI ru) (nI rw) (nI ca) df db sd))), (aI k (a 1) 3 (nF dn)), (aI k (a 4) 27 (sg se tm gs)), (aI k (a 2) 72 ffrees), (aI k (a 3) 72 fprices), (aI k (a 18) 768 fons), (aI k (a 19) 768 fworths), (aI k (a 20) 5 fstarts), (aI k (a 21) 4 fends), (aZ k (a 22) 4 fgoesRound), (aI k (a 23) 8 fbegin)] [0, 1, 2, 3, 4, 5, 6, 7, 8, 9, 10] hP hD (by decide +kernel) rfl
    exact W.iret (v := (-1001)) hx hb hr (fun t ht hW => ⟨⟨(-1001), (fons, fworths, fstarts, fends, fgoesRound, fbegin), rfl, dq_no (fun s h1 h2 i h3 h4 => hw_1 s h1 h2 (by show 0 < dn s; replace h4 : i < dn s := h4; omega)), by rw [ht]; exact hP9, hD9⟩, hS.F ht⟩) hS.2.2 dX8_takes_20


set_option maxHeartbeats 4000000 in
set_option maxRecDepth 100000 in
theorem n_start (l : Launch) (D : va_G) (k : Nat → ClassId) (st : Nat → Nat) (lo : Nat) (a : Nat → Nat) (tx : Nat) (t0 : Nat) (we : Nat) (rd : Nat) (ru : Nat) (rw : Nat) (ca : Nat) (fp : Int32) (wd : Int64) (nu : Int32) (na : Int32) (ts : Int32) (df : Int32) (db : Int32) (sd : Int32) (dn : Nat → Nat) (se : Nat → Nat) (tm : Nat → Nat) (gs : Nat → Int32) (ffrees : Nat → Int32) (fprices : Nat → Int32) (fons : Nat → Int32) (fworths : Nat → Int32) (fstarts : Nat → Int32) (fends : Nat → Int32) (fgoesRound : Nat → Int32) (fbegin : Nat → Int32) (p0 : Int32) (p1 : Int32) (hdn : ∀ j, dn j ≤ 24) (hse : ∀ j, se j ≤ 2) (htm : ∀ j, tm j ≤ 3) : CWi l D k st lo yX8_start cX8_start 3 (some .int) ({ frames := 6, cells := 0, slots := 0, locals := 144 }) 0 0 [.ref (a 0), .int p0, .int p1] [((a 0), .inr (8, (fX8 a (nI tx) fp (nI t0) wd (nI we) nu na (nI rd) ts (nI ru) (nI rw) (nI ca) df db sd))), (aI k (a 1) 3 (nF dn)), (aI k (a 4) 27 (sg se tm gs)), (aI k (a 2) 72 ffrees), (aI k (a 3) 72 fprices), (aI k (a 18) 768 fons), (aI k (a 19) 768 fworths), (aI k (a 20) 5 fstarts), (aI k (a 21) 4 fends), (aZ k (a 22) 4 fgoesRound), (aI k (a 23) 8 fbegin)] (fun (r : Int32) (u : (Nat → Int32) × (Nat → Int32) × (Nat → Int32) × (Nat → Int32) × (Nat → Int32) × (Nat → Int32)) => match u with | (fons_, fworths_, fstarts_, fends_, fgoesRound_, fbegin_) => tqP (sdM dn (sg se tm gs) ffrees fprices) p0 (stA p1) r) (fun (u : (Nat → Int32) × (Nat → Int32) × (Nat → Int32) × (Nat → Int32) × (Nat → Int32) × (Nat → Int32)) => match u with | (fons_, fworths_, fstarts_, fends_, fgoesRound_, fbegin_) => [((a 0), .inr (8, (fX8 a (nI tx) fp (nI t0) wd (nI we) nu na (nI rd) ts (nI ru) (nI rw) (nI ca) df db sd))), (aI k (a 1) 3 (nF dn)), (aI k (a 4) 27 (sg se tm gs)), (aI k (a 2) 72 ffrees), (aI k (a 3) 72 fprices), (aI k (a 18) 768 fons_), (aI k (a 19) 768 fworths_), (aI k (a 20) 5 fstarts_), (aI k (a 21) 4 fends_), (aZ k (a 22) 4 fgoesRound_), (aI k (a 23) 8 fbegin_)]) := by
  intro sz
  refine Met.ofW (cc := cX8_start) (maxL := 3) (ret := (some .int)) (by decide) rfl ?_
  intro p e s m args below meth c s₁ B hml hv
  obtain ⟨rfl, hsz, hlo, hP, hK, hDL, hZ⟩ := hv
  have hx := B.exec
  have hb := B.bytes
  have hr := B.returns
  have hts := WS_ts B.pre
  have hown : s.vm.findClass RX8 = some m.cls := findClass_of_methodNamed B.named
  have hlocks := B.notSynchronized
  subst hsz
  have hD := hDL.self (sz := s.heap.size)
  have hAlo := A_lo hDL hlo
  generalize hAe : va_A [((a 0), .inr (8, (fX8 a (nI tx) fp (nI t0) wd (nI we) nu na (nI rd) ts (nI ru) (nI rw) (nI ca) df db sd))), (aI k (a 1) 3 (nF dn)), (aI k (a 4) 27 (sg se tm gs)), (aI k (a 2) 72 ffrees), (aI k (a 3) 72 fprices), (aI k (a 18) 768 fons), (aI k (a 19) 768 fworths), (aI k (a 20) 5 fstarts), (aI k (a 21) 4 fends), (aZ k (a 22) 4 fgoesRound), (aI k (a 23) 8 fbegin)] s.heap.size = A at hD hAlo ⊢
  have hA : ∀ q : Nat, s.heap.size ≤ q → A q := fun q h => by rw [← hAe]; exact Or.inr h
  have hS : va_S A s.heap s.heap [] := va_S.rf
  have hl := lv_entry ([.ref (a 0), .int p0, .int p1]) (n := 3) (Nat.le_of_ble_eq_true rfl)
  rw [lg_entry_eq]
  generalize (lg_sl ([.ref (a 0), .int p0, .int p1]) ++ List.replicate (3 - (lg_sl ([.ref (a 0), .int p0, .int p1])).length) Slot.unset).toArray = ls at hl ⊢
  have hl : lv_has ls 3 [(0, .ref (a 0)), (1, .int p0), (2, .int p1)] := hl
  refine lv_aload_n hx hb dX8_start_0 rfl (lv_at hl 0 rfl) ?_
  refine lv_iload_n hx hb dX8_start_1 rfl (lv_at hl 1 rfl) ?_
  refine ro_i (D := D) (va_runV (As := [.int p0]) (rest := []) ⟨hx, hb, hml, hown, hts⟩ ((n_isStreet l D k st lo a tx t0 we rd ru rw ca fp wd nu na ts df db sd dn p0 hdn) s.heap.size) (cwV 1 hts (gV tw_1189 tw_1191 tw_38 tw_87 tw_1192) rfl rfl rfl (by decide +kernel) ⟨Nat.le_of_ble_eq_true rfl, Nat.le_of_ble_eq_true rfl⟩) (pV hS hAlo hlo hP hK (va_Dlo hD hAlo) hZ [0, 1] (by decide) rfl (ci := 8) (q := (RX8, TX8, 44)) (q0 := 0) rfl rfl) rfl rfl hl.1 rfl (lv_room (Nat.le_of_ble_eq_true rfl)) dX8_start_2 ⟨Nat.le_of_ble_eq_true rfl, Nat.le_of_ble_eq_true rfl⟩) hS hA hP (fun r_1 H locs hw_1 hP hS => ?_)
  try dsimp only at hw_1
  rcases hw_1 with ⟨rfl, j_2, hj_2, rfl, hw_1⟩ | ⟨rfl, hw_1⟩
  · have hdj_2 := hdn j_2
    have htj_2 := htm j_2
    refine lv_if_ne (tgt := 12) hx hb dX8_start_5 (by decide) (fun _ => ?_) (fun h => absurd h (by decide))
    refine lv_aload_n hx hb dX8_start_12 rfl (lv_at hl 0 rfl) ?_
    refine lv_iload_n hx hb dX8_start_13 rfl (lv_at hl 1 rfl) ?_
    refine lv_iload_n hx hb dX8_start_14 rfl (lv_at hl 2 rfl) ?_
    refine ro_i (D := D) (va_runV (As := [.int (nI j_2), .int p1]) (rest := []) ⟨hx, hb, hml, hown, hts⟩ ((n_isRound l D k st lo a tx t0 we rd ru rw ca fp wd nu na ts df db sd se tm gs j_2 p1 htm (by first | assumption | omega)) H.size) (cwV 2 hts (gV tw_1218 tw_1220 tw_42 tw_87 tw_1221) rfl rfl rfl (by decide +kernel) ⟨Nat.le_of_ble_eq_true rfl, Nat.le_of_ble_eq_true rfl⟩) (pV hS hAlo hlo hP hK (va_Dlo hD hAlo) hZ [0, 2] (by decide) rfl (ci := 8) (q := (RX8, TX8, 44)) (q0 := 0) rfl rfl) rfl rfl hl.1 rfl (lv_room (Nat.le_of_ble_eq_true rfl)) dX8_start_15 ⟨Nat.le_of_ble_eq_true rfl, Nat.le_of_ble_eq_true rfl⟩) hS hA hP (fun r_3 H locs hw_3 hP hS => ?_)
    try dsimp only at hw_3
    rcases hw_3 with ⟨rfl, j_4, hj_4, rfl, hw_3⟩ | ⟨rfl, hw_3⟩
    · refine lv_if_ne (tgt := 25) hx hb dX8_start_18 (by decide) (fun _ => ?_) (fun h => absurd h (by decide))
      refine lv_aload_n hx hb dX8_start_25 rfl (lv_at hl 0 rfl) ?_
      refine lv_iload_n hx hb dX8_start_26 rfl (lv_at hl 1 rfl) ?_
      refine rw_v (D := D) (wr := []) (va_runV (As := [.int (nI j_2)]) (rest := []) ⟨hx, hb, hml, hown, hts⟩ ((n_findWay l D k st lo a tx t0 we rd ru rw ca fp wd nu na ts df db sd dn se tm gs ffrees fprices fons fworths fstarts fends fgoesRound fbegin j_2 hdn hse htm (by first | assumption | omega) (by first | assumption | omega)) H.size) (cwV 1 hts (gV tw_1250 tw_1252 tw_49 tw_87 tw_1253) rfl rfl rfl (by decide +kernel) ⟨Nat.le_of_ble_eq_true rfl, Nat.le_of_ble_eq_true rfl⟩) (pV hS hAlo hlo hP hK (va_Dlo hD hAlo) hZ [0, 1, 2, 3, 4, 5, 6, 7, 8, 9, 10] (by decide +kernel) rfl (ci := 8) (q := (RX8, TX8, 44)) (q0 := 0) rfl rfl) rfl rfl hl.1 rfl (lv_room (Nat.le_of_ble_eq_true rfl)) dX8_start_27 ⟨Nat.le_of_ble_eq_true rfl, Nat.le_of_ble_eq_true rfl⟩) hS hA hP hD [0, 1, 2, 3, 4, 5, 6, 7, 8, 9, 10] [] rfl rfl (by decide +kernel) (by decide +kernel) (fun u H locs hw_5 hP hD hS => ?_)
      obtain ⟨fons__5, fworths__5, fstarts__5, fends__5, fgoesRound__5, fbegin__5⟩ := u
      have hQ9 := pd_mk [((a 0), .inr (8, (fX8 a (nI tx) fp (nI t0) wd (nI we) nu na (nI rd) ts (nI ru) (nI rw) (nI ca) df db sd))), (aI k (a 1) 3 (nF dn)), (aI k (a 4) 27 (sg se tm gs)), (aI k (a 2) 72 ffrees), (aI k (a 3) 72 fprices), (aI k (a 18) 768 fons__5), (aI k (a 19) 768 fworths__5), (aI k (a 20) 5 fstarts__5), (aI k (a 21) 4 fends__5), (aZ k (a 22) 4 fgoesRound__5), (aI k (a 23) 8 fbegin__5)] hP hD
      clear hP hD
      obtain ⟨hP, hD⟩ := hQ9
      try dsimp only at hw_5
      refine lv_aload_n hx hb dX8_start_30 rfl (lv_at hl 0 rfl) ?_
      refine va_get (D := D) (ci := 8) (v := .ref (a 20)) (C := RX8) (T := TX8) (N := 44) hx hb hts inX8 hown hK hP 0 rfl rfl 19 (by decide) (hts _ tw_992) (fun _ h9 => h9) rfl dX8_start_31 ?_
      refine lv_iload_n hx hb dX8_start_34 rfl (lv_at hl 2 rfl) ?_
      refine va_iald hx hb hK hP 7 1 rfl rfl (vp_in_nI (by omega) (by decide)) dX8_start_35 ?_
      refine lv_ti (y := (fstarts__5 j_4)) (by rw [nI_clamp (by omega)]) ?_
      obtain ⟨hP9, hD9⟩ := pd_sub [((a 0), .inr (8, (fX8 a (nI tx) fp (nI t0) wd (nI we) nu na (nI rd) ts (nI ru) (nI rw) (nI ca) df db sd))), (aI k (a 1) 3 (nF dn)), (aI k (a 4) 27 (sg se tm gs)), (aI k (a 2) 72 ffrees), (aI k (a 3) 72 fprices), (aI k (a 18) 768 fons__5), (aI k (a 19) 768 fworths__5), (aI k (a 20) 5 fstarts__5), (aI k (a 21) 4 fends__5), (aZ k (a 22) 4 fgoesRound__5), (aI k (a 23) 8 fbegin__5)] [0, 1, 2, 3, 4, 5, 6, 7, 8, 9, 10] hP hD (by decide +kernel) rfl
      exact W.iret (v := (fstarts__5 j_4)) hx hb hr (fun t ht hW => ⟨⟨(fstarts__5 j_4), (fons__5, fworths__5, fstarts__5, fends__5, fgoesRound__5, fbegin__5), rfl, tq_at (s := j_2) (by omega) (show 0 < dn j_2 by omega) (st_i (by omega) (by rw [rdM]; exact inr (by omega) (htm _)) ((wm_of (hse _) (htm _) hw_5) j_4 (Nat.zero_le _) (show j_4 ≤ tmD (sdM dn (sg se tm gs) ffrees fprices j_2) by rw [tmM (htm _)]; omega)).2.1), by rw [ht]; exact hP9, hD9⟩, hS.F ht⟩) hS.2.2 dX8_start_36
    · refine lv_if_ne (tgt := 25) hx hb dX8_start_18 (by decide) (fun h => absurd (by decide) h) (fun _ => ?_)
      refine lv_sipush (v := (-1002)) hx hb dX8_start_21 (by decide) ?_
      obtain ⟨hP9, hD9⟩ := pd_sub [((a 0), .inr (8, (fX8 a (nI tx) fp (nI t0) wd (nI we) nu na (nI rd) ts (nI ru) (nI rw) (nI ca) df db sd))), (aI k (a 1) 3 (nF dn)), (aI k (a 4) 27 (sg se tm gs)), (aI k (a 2) 72 ffrees), (aI k (a 3) 72 fprices), (aI k (a 18) 768 fons), (aI k (a 19) 768 fworths), (aI k (a 20) 5 fstarts), (aI k (a 21) 4 fends), (aZ k (a 22) 4 fgoesRound), (aI k (a 23) 8 fbegin)] [0, 1, 2, 3, 4, 5, 6, 7, 8, 9, 10] hP hD (by decide +kernel) rfl
      exact W.iret (v := (-1002)) hx hb hr (fun t ht hW => ⟨⟨(-1002), (fons, fworths, fstarts, fends, fgoesRound, fbegin), rfl, tq_at (s := j_2) (by omega) (show 0 < dn j_2 by omega) (st_o (by rw [rdM]; exact hw_3)), by rw [ht]; exact hP9, hD9⟩, hS.F ht⟩) hS.2.2 dX8_start_24
  · refine lv_if_ne (tgt := 12) hx hb dX8_start_5 (by decide) (fun h => absurd (by decide) h) (fun _ => ?_)
    refine lv_sipush (v := (-1001)) hx hb dX8_start_8 (by decide) ?_
    obtain ⟨hP9, hD9⟩ := pd_sub [((a 0), .inr (8, (fX8 a (nI tx) fp (nI t0) wd (nI we) nu na (nI rd) ts (nI ru) (nI rw) (nI ca) df db sd))), (aI k (a 1) 3 (nF dn)), (aI k (a 4) 27 (sg se tm gs)), (aI k (a 2) 72 ffrees), (aI k (a 3) 72 fprices), (aI k (a 18) 768 fons), (aI k (a 19) 768 fworths), (aI k (a 20) 5 fstarts), (aI k (a 21) 4 fends), (aZ k (a 22) 4 fgoesRound), (aI k (a 23) 8 fbegin)] [0, 1, 2, 3, 4, 5, 6, 7, 8, 9, 10] hP hD (by decide +kernel) rfl
    exact W.iret (v := (-1001)) hx hb hr (fun t ht hW => ⟨⟨(-1001), (fons, fworths, fstarts, fends, fgoesRound, fbegin), rfl, tq_no (fun s h1 h2 h3 => hw_1 s h1 h2 h3), by rw [ht]; exact hP9, hD9⟩, hS.F ht⟩) hS.2.2 dX8_start_11


set_option maxHeartbeats 4000000 in
set_option maxRecDepth 100000 in
theorem n_end (l : Launch) (D : va_G) (k : Nat → ClassId) (st : Nat → Nat) (lo : Nat) (a : Nat → Nat) (tx : Nat) (t0 : Nat) (we : Nat) (rd : Nat) (ru : Nat) (rw : Nat) (ca : Nat) (fp : Int32) (wd : Int64) (nu : Int32) (na : Int32) (ts : Int32) (df : Int32) (db : Int32) (sd : Int32) (dn : Nat → Nat) (se : Nat → Nat) (tm : Nat → Nat) (gs : Nat → Int32) (ffrees : Nat → Int32) (fprices : Nat → Int32) (fons : Nat → Int32) (fworths : Nat → Int32) (fstarts : Nat → Int32) (fends : Nat → Int32) (fgoesRound : Nat → Int32) (fbegin : Nat → Int32) (p0 : Int32) (p1 : Int32) (p2 : Int32) (hdn : ∀ j, dn j ≤ 24) (hse : ∀ j, se j ≤ 2) (htm : ∀ j, tm j ≤ 3) : CWi l D k st lo yX8_end cX8_end 4 (some .int) ({ frames := 6, cells := 0, slots := 0, locals := 144 }) 0 0 [.ref (a 0), .int p0, .int p1, .int p2] [((a 0), .inr (8, (fX8 a (nI tx) fp (nI t0) wd (nI we) nu na (nI rd) ts (nI ru) (nI rw) (nI ca) df db sd))), (aI k (a 1) 3 (nF dn)), (aI k (a 4) 27 (sg se tm gs)), (aI k (a 2) 72 ffrees), (aI k (a 3) 72 fprices), (aI k (a 18) 768 fons), (aI k (a 19) 768 fworths), (aI k (a 20) 5 fstarts), (aI k (a 21) 4 fends), (aZ k (a 22) 4 fgoesRound), (aI k (a 23) 8 fbegin)] (fun (r : Int32) (u : (Nat → Int32) × (Nat → Int32) × (Nat → Int32) × (Nat → Int32) × (Nat → Int32) × (Nat → Int32)) => match u with | (fons_, fworths_, fstarts_, fends_, fgoesRound_, fbegin_) => tqP (sdM dn (sg se tm gs) ffrees fprices) p0 (enA p1 p2) r) (fun (u : (Nat → Int32) × (Nat → Int32) × (Nat → Int32) × (Nat → Int32) × (Nat → Int32) × (Nat → Int32)) => match u with | (fons_, fworths_, fstarts_, fends_, fgoesRound_, fbegin_) => [((a 0), .inr (8, (fX8 a (nI tx) fp (nI t0) wd (nI we) nu na (nI rd) ts (nI ru) (nI rw) (nI ca) df db sd))), (aI k (a 1) 3 (nF dn)), (aI k (a 4) 27 (sg se tm gs)), (aI k (a 2) 72 ffrees), (aI k (a 3) 72 fprices), (aI k (a 18) 768 fons_), (aI k (a 19) 768 fworths_), (aI k (a 20) 5 fstarts_), (aI k (a 21) 4 fends_), (aZ k (a 22) 4 fgoesRound_), (aI k (a 23) 8 fbegin_)]) := by
  intro sz
  refine Met.ofW (cc := cX8_end) (maxL := 4) (ret := (some .int)) (by decide) rfl ?_
  intro p e s m args below meth c s₁ B hml hv
  obtain ⟨rfl, hsz, hlo, hP, hK, hDL, hZ⟩ := hv
  have hx := B.exec
  have hb := B.bytes
  have hr := B.returns
  have hts := WS_ts B.pre
  have hown : s.vm.findClass RX8 = some m.cls := findClass_of_methodNamed B.named
  have hlocks := B.notSynchronized
  subst hsz
  have hD := hDL.self (sz := s.heap.size)
  have hAlo := A_lo hDL hlo
  generalize hAe : va_A [((a 0), .inr (8, (fX8 a (nI tx) fp (nI t0) wd (nI we) nu na (nI rd) ts (nI ru) (nI rw) (nI ca) df db sd))), (aI k (a 1) 3 (nF dn)), (aI k (a 4) 27 (sg se tm gs)), (aI k (a 2) 72 ffrees), (aI k (a 3) 72 fprices), (aI k (a 18) 768 fons), (aI k (a 19) 768 fworths), (aI k (a 20) 5 fstarts), (aI k (a 21) 4 fends), (aZ k (a 22) 4 fgoesRound), (aI k (a 23) 8 fbegin)] s.heap.size = A at hD hAlo ⊢
  have hA : ∀ q : Nat, s.heap.size ≤ q → A q := fun q h => by rw [← hAe]; exact Or.inr h
  have hS : va_S A s.heap s.heap [] := va_S.rf
  have hl := lv_entry ([.ref (a 0), .int p0, .int p1, .int p2]) (n := 4) (Nat.le_of_ble_eq_true rfl)
  rw [lg_entry_eq]
  generalize (lg_sl ([.ref (a 0), .int p0, .int p1, .int p2]) ++ List.replicate (4 - (lg_sl ([.ref (a 0), .int p0, .int p1, .int p2])).length) Slot.unset).toArray = ls at hl ⊢
  have hl : lv_has ls 4 [(0, .ref (a 0)), (1, .int p0), (2, .int p1), (3, .int p2)] := hl
  refine lv_aload_n hx hb dX8_end_0 rfl (lv_at hl 0 rfl) ?_
  refine lv_iload_n hx hb dX8_end_1 rfl (lv_at hl 1 rfl) ?_
  refine ro_i (D := D) (va_runV (As := [.int p0]) (rest := []) ⟨hx, hb, hml, hown, hts⟩ ((n_isStreet l D k st lo a tx t0 we rd ru rw ca fp wd nu na ts df db sd dn p0 hdn) s.heap.size) (cwV 1 hts (gV tw_1189 tw_1191 tw_38 tw_87 tw_1192) rfl rfl rfl (by decide +kernel) ⟨Nat.le_of_ble_eq_true rfl, Nat.le_of_ble_eq_true rfl⟩) (pV hS hAlo hlo hP hK (va_Dlo hD hAlo) hZ [0, 1] (by decide) rfl (ci := 8) (q := (RX8, TX8, 44)) (q0 := 0) rfl rfl) rfl rfl hl.1 rfl (lv_room (Nat.le_of_ble_eq_true rfl)) dX8_end_2 ⟨Nat.le_of_ble_eq_true rfl, Nat.le_of_ble_eq_true rfl⟩) hS hA hP (fun r_1 H locs hw_1 hP hS => ?_)
  try dsimp only at hw_1
  rcases hw_1 with ⟨rfl, j_2, hj_2, rfl, hw_1⟩ | ⟨rfl, hw_1⟩
  · have hdj_2 := hdn j_2
    have htj_2 := htm j_2
    refine lv_if_ne (tgt := 12) hx hb dX8_end_5 (by decide) (fun _ => ?_) (fun h => absurd h (by decide))
    refine lv_aload_n hx hb dX8_end_12 rfl (lv_at hl 0 rfl) ?_
    refine lv_iload_n hx hb dX8_end_13 rfl (lv_at hl 1 rfl) ?_
    refine lv_iload_n hx hb dX8_end_14 rfl (lv_at hl 2 rfl) ?_
    refine ro_i (D := D) (va_runV (As := [.int (nI j_2), .int p1]) (rest := []) ⟨hx, hb, hml, hown, hts⟩ ((n_isRound l D k st lo a tx t0 we rd ru rw ca fp wd nu na ts df db sd se tm gs j_2 p1 htm (by first | assumption | omega)) H.size) (cwV 2 hts (gV tw_1218 tw_1220 tw_42 tw_87 tw_1221) rfl rfl rfl (by decide +kernel) ⟨Nat.le_of_ble_eq_true rfl, Nat.le_of_ble_eq_true rfl⟩) (pV hS hAlo hlo hP hK (va_Dlo hD hAlo) hZ [0, 2] (by decide) rfl (ci := 8) (q := (RX8, TX8, 44)) (q0 := 0) rfl rfl) rfl rfl hl.1 rfl (lv_room (Nat.le_of_ble_eq_true rfl)) dX8_end_15 ⟨Nat.le_of_ble_eq_true rfl, Nat.le_of_ble_eq_true rfl⟩) hS hA hP (fun r_3 H locs hw_3 hP hS => ?_)
    try dsimp only at hw_3
    rcases hw_3 with ⟨rfl, j_4, hj_4, rfl, hw_3⟩ | ⟨rfl, hw_3⟩
    · refine lv_if_eq (tgt := 31) hx hb dX8_end_18 (by decide) (fun h => absurd h (by decide)) (fun _ => ?_)
      refine lv_iload_n hx hb dX8_end_21 rfl (lv_at hl 3 rfl) ?_
      refine lv_i2l (v := p2.toInt64) hx hb dX8_end_22 rfl ?_
      refine lv_lconst (v := (0 : Int32).toInt64) hx hb dX8_end_23 (by decide) ?_
      refine lv_lconst (v := (1 : Int32).toInt64) hx hb dX8_end_24 (by decide) ?_
      refine ro_i (D := D) (va_runS (As := [.long (p2.toInt64), .long ((0 : Int32).toInt64), .long ((1 : Int32).toInt64)]) (rest := []) ⟨hx, hb, hml, hown, hts⟩ ((k_in l D k st lo p2 (0 : Int32) (1 : Int32)) H.size) (va_cwS 3 hts (gS tw_1111 tw_1112 tw_87 tw_1113) rfl rfl rfl (by decide +kernel) ⟨Nat.le_of_ble_eq_true rfl, Nat.le_of_ble_eq_true rfl⟩) (pS hS hAlo hlo hP hK (va_Dlo hD hAlo) hZ [] (by decide) rfl) rfl rfl hl.1 rfl (lv_room (Nat.le_of_ble_eq_true rfl)) dX8_end_25 ⟨Nat.le_of_ble_eq_true rfl, Nat.le_of_ble_eq_true rfl⟩) hS hA hP (fun r_5 H locs hw_5 hP hS => ?_)
      try dsimp only at hw_5
      rcases hw_5 with ⟨rfl, hw_5⟩ | ⟨rfl, hw_5⟩
      · refine lv_if_ne (tgt := 35) hx hb dX8_end_28 (by decide) (fun _ => ?_) (fun h => absurd h (by decide))
        refine lv_aload_n hx hb dX8_end_35 rfl (lv_at hl 0 rfl) ?_
        refine lv_iload_n hx hb dX8_end_36 rfl (lv_at hl 1 rfl) ?_
        refine rw_v (D := D) (wr := []) (va_runV (As := [.int (nI j_2)]) (rest := []) ⟨hx, hb, hml, hown, hts⟩ ((n_findWay l D k st lo a tx t0 we rd ru rw ca fp wd nu na ts df db sd dn se tm gs ffrees fprices fons fworths fstarts fends fgoesRound fbegin j_2 hdn hse htm (by first | assumption | omega) (by first | assumption | omega)) H.size) (cwV 1 hts (gV tw_1250 tw_1252 tw_49 tw_87 tw_1253) rfl rfl rfl (by decide +kernel) ⟨Nat.le_of_ble_eq_true rfl, Nat.le_of_ble_eq_true rfl⟩) (pV hS hAlo hlo hP hK (va_Dlo hD hAlo) hZ [0, 1, 2, 3, 4, 5, 6, 7, 8, 9, 10] (by decide +kernel) rfl (ci := 8) (q := (RX8, TX8, 44)) (q0 := 0) rfl rfl) rfl rfl hl.1 rfl (lv_room (Nat.le_of_ble_eq_true rfl)) dX8_end_37 ⟨Nat.le_of_ble_eq_true rfl, Nat.le_of_ble_eq_true rfl⟩) hS hA hP hD [0, 1, 2, 3, 4, 5, 6, 7, 8, 9, 10] [] rfl rfl (by decide +kernel) (by decide +kernel) (fun u H locs hw_6 hP hD hS => ?_)
        obtain ⟨fons__6, fworths__6, fstarts__6, fends__6, fgoesRound__6, fbegin__6⟩ := u
        have hQ9 := pd_mk [((a 0), .inr (8, (fX8 a (nI tx) fp (nI t0) wd (nI we) nu na (nI rd) ts (nI ru) (nI rw) (nI ca) df db sd))), (aI k (a 1) 3 (nF dn)), (aI k (a 4) 27 (sg se tm gs)), (aI k (a 2) 72 ffrees), (aI k (a 3) 72 fprices), (aI k (a 18) 768 fons__6), (aI k (a 19) 768 fworths__6), (aI k (a 20) 5 fstarts__6), (aI k (a 21) 4 fends__6), (aZ k (a 22) 4 fgoesRound__6), (aI k (a 23) 8 fbegin__6)] hP hD
        clear hP hD
        obtain ⟨hP, hD⟩ := hQ9
        try dsimp only at hw_6
        refine lv_iload_n hx hb dX8_end_40 rfl (lv_at hl 3 rfl) ?_
        refine lv_if_ne (tgt := 53) hx hb dX8_end_41 (by decide) (fun c_7 => ?_) (fun c_7 => ?_)
        · refine lv_aload_n hx hb dX8_end_53 rfl (lv_at hl 0 rfl) ?_
          refine va_get (D := D) (ci := 8) (v := .ref (a 22)) (C := RX8) (T := TX8) (N := 44) hx hb hts inX8 hown hK hP 0 rfl rfl 21 (by decide) (hts _ tw_994) (fun _ h9 => h9) rfl dX8_end_54 ?_
          refine lv_iload_n hx hb dX8_end_57 rfl (lv_at hl 2 rfl) ?_
          refine va_zald hx hb hK hP 9 2 rfl rfl (vp_in_nI (by omega) (by decide)) dX8_end_58 ?_
          refine lv_ti (y := (fgoesRound__6 j_4)) (by rw [nI_clamp (by omega)]) ?_
          refine lv_if_eq (tgt := 66) hx hb dX8_end_59 (by decide) (fun c_8 => ?_) (fun c_8 => ?_)
          · refine lv_iconst (v := 0) hx hb dX8_end_66 (by decide) ?_
            obtain ⟨hP9, hD9⟩ := pd_sub [((a 0), .inr (8, (fX8 a (nI tx) fp (nI t0) wd (nI we) nu na (nI rd) ts (nI ru) (nI rw) (nI ca) df db sd))), (aI k (a 1) 3 (nF dn)), (aI k (a 4) 27 (sg se tm gs)), (aI k (a 2) 72 ffrees), (aI k (a 3) 72 fprices), (aI k (a 18) 768 fons__6), (aI k (a 19) 768 fworths__6), (aI k (a 20) 5 fstarts__6), (aI k (a 21) 4 fends__6), (aZ k (a 22) 4 fgoesRound__6), (aI k (a 23) 8 fbegin__6)] [0, 1, 2, 3, 4, 5, 6, 7, 8, 9, 10] hP hD (by decide +kernel) rfl
            exact W.iret (v := 0) hx hb hr (fun t ht hW => ⟨⟨0, (fons__6, fworths__6, fstarts__6, fends__6, fgoesRound__6, fbegin__6), rfl, tq_at (s := j_2) (by omega) (show 0 < dn j_2 by omega) (en_1 (by omega) (by rw [rdM]; exact inr (by omega) (htm _)) (is01 hw_5 c_7) (grd_0 ((wm_of (hse _) (htm _) hw_6) j_4 (Nat.zero_le _) (show j_4 ≤ tmD (sdM dn (sg se tm gs) ffrees fprices j_2) by rw [tmM (htm _)]; omega)).2.2.1 c_8)), by rw [ht]; exact hP9, hD9⟩, hS.F ht⟩) hS.2.2 dX8_end_67
          · refine lv_iconst (v := 1) hx hb dX8_end_62 (by decide) ?_
            refine lv_goto (tgt := 67) hx hb dX8_end_63 (by decide) ?_
            obtain ⟨hP9, hD9⟩ := pd_sub [((a 0), .inr (8, (fX8 a (nI tx) fp (nI t0) wd (nI we) nu na (nI rd) ts (nI ru) (nI rw) (nI ca) df db sd))), (aI k (a 1) 3 (nF dn)), (aI k (a 4) 27 (sg se tm gs)), (aI k (a 2) 72 ffrees), (aI k (a 3) 72 fprices), (aI k (a 18) 768 fons__6), (aI k (a 19) 768 fworths__6), (aI k (a 20) 5 fstarts__6), (aI k (a 21) 4 fends__6), (aZ k (a 22) 4 fgoesRound__6), (aI k (a 23) 8 fbegin__6)] [0, 1, 2, 3, 4, 5, 6, 7, 8, 9, 10] hP hD (by decide +kernel) rfl
            exact W.iret (v := 1) hx hb hr (fun t ht hW => ⟨⟨1, (fons__6, fworths__6, fstarts__6, fends__6, fgoesRound__6, fbegin__6), rfl, tq_at (s := j_2) (by omega) (show 0 < dn j_2 by omega) (en_1 (by omega) (by rw [rdM]; exact inr (by omega) (htm _)) (is01 hw_5 c_7) (grd_1 ((wm_of (hse _) (htm _) hw_6) j_4 (Nat.zero_le _) (show j_4 ≤ tmD (sdM dn (sg se tm gs) ffrees fprices j_2) by rw [tmM (htm _)]; omega)).2.2.1 c_8)), by rw [ht]; exact hP9, hD9⟩, hS.F ht⟩) hS.2.2 dX8_end_67
        · refine lv_aload_n hx hb dX8_end_44 rfl (lv_at hl 0 rfl) ?_
          refine va_get (D := D) (ci := 8) (v := .ref (a 21)) (C := RX8) (T := TX8) (N := 44) hx hb hts inX8 hown hK hP 0 rfl rfl 20 (by decide) (hts _ tw_993) (fun _ h9 => h9) rfl dX8_end_45 ?_
          refine lv_iload_n hx hb dX8_end_48 rfl (lv_at hl 2 rfl) ?_
          refine va_iald hx hb hK hP 8 1 rfl rfl (vp_in_nI (by omega) (by decide)) dX8_end_49 ?_
          refine lv_ti (y := (fends__6 j_4)) (by rw [nI_clamp (by omega)]) ?_
          refine lv_goto (tgt := 67) hx hb dX8_end_50 (by decide) ?_
          obtain ⟨hP9, hD9⟩ := pd_sub [((a 0), .inr (8, (fX8 a (nI tx) fp (nI t0) wd (nI we) nu na (nI rd) ts (nI ru) (nI rw) (nI ca) df db sd))), (aI k (a 1) 3 (nF dn)), (aI k (a 4) 27 (sg se tm gs)), (aI k (a 2) 72 ffrees), (aI k (a 3) 72 fprices), (aI k (a 18) 768 fons__6), (aI k (a 19) 768 fworths__6), (aI k (a 20) 5 fstarts__6), (aI k (a 21) 4 fends__6), (aZ k (a 22) 4 fgoesRound__6), (aI k (a 23) 8 fbegin__6)] [0, 1, 2, 3, 4, 5, 6, 7, 8, 9, 10] hP hD (by decide +kernel) rfl
          exact W.iret (v := (fends__6 j_4)) hx hb hr (fun t ht hW => ⟨⟨(fends__6 j_4), (fons__6, fworths__6, fstarts__6, fends__6, fgoesRound__6, fbegin__6), rfl, tq_at (s := j_2) (by omega) (show 0 < dn j_2 by omega) (en_0 (by omega) (by rw [rdM]; exact inr (by omega) (htm _)) c_7 ((wm_of (hse _) (htm _) hw_6) j_4 (Nat.zero_le _) (show j_4 ≤ tmD (sdM dn (sg se tm gs) ffrees fprices j_2) by rw [tmM (htm _)]; omega)).1), by rw [ht]; exact hP9, hD9⟩, hS.F ht⟩) hS.2.2 dX8_end_67
      · refine lv_if_ne (tgt := 35) hx hb dX8_end_28 (by decide) (fun h => absurd (by decide) h) (fun _ => ?_)
        refine lv_sipush (v := (-1002)) hx hb dX8_end_31 (by decide) ?_
        obtain ⟨hP9, hD9⟩ := pd_sub [((a 0), .inr (8, (fX8 a (nI tx) fp (nI t0) wd (nI we) nu na (nI rd) ts (nI ru) (nI rw) (nI ca) df db sd))), (aI k (a 1) 3 (nF dn)), (aI k (a 4) 27 (sg se tm gs)), (aI k (a 2) 72 ffrees), (aI k (a 3) 72 fprices), (aI k (a 18) 768 fons), (aI k (a 19) 768 fworths), (aI k (a 20) 5 fstarts), (aI k (a 21) 4 fends), (aZ k (a 22) 4 fgoesRound), (aI k (a 23) 8 fbegin)] [0, 1, 2, 3, 4, 5, 6, 7, 8, 9, 10] hP hD (by decide +kernel) rfl
        exact W.iret (v := (-1002)) hx hb hr (fun t ht hW => ⟨⟨(-1002), (fons, fworths, fstarts, fends, fgoesRound, fbegin), rfl, tq_at (s := j_2) (by omega) (show 0 < dn j_2 by omega) (en_o (fun h => absurd h.2 hw_5)), by rw [ht]; exact hP9, hD9⟩, hS.F ht⟩) hS.2.2 dX8_end_34
    · refine lv_if_eq (tgt := 31) hx hb dX8_end_18 (by decide) (fun _ => ?_) (fun h => absurd (by decide) h)
      refine lv_sipush (v := (-1002)) hx hb dX8_end_31 (by decide) ?_
      obtain ⟨hP9, hD9⟩ := pd_sub [((a 0), .inr (8, (fX8 a (nI tx) fp (nI t0) wd (nI we) nu na (nI rd) ts (nI ru) (nI rw) (nI ca) df db sd))), (aI k (a 1) 3 (nF dn)), (aI k (a 4) 27 (sg se tm gs)), (aI k (a 2) 72 ffrees), (aI k (a 3) 72 fprices), (aI k (a 18) 768 fons), (aI k (a 19) 768 fworths), (aI k (a 20) 5 fstarts), (aI k (a 21) 4 fends), (aZ k (a 22) 4 fgoesRound), (aI k (a 23) 8 fbegin)] [0, 1, 2, 3, 4, 5, 6, 7, 8, 9, 10] hP hD (by decide +kernel) rfl
      exact W.iret (v := (-1002)) hx hb hr (fun t ht hW => ⟨⟨(-1002), (fons, fworths, fstarts, fends, fgoesRound, fbegin), rfl, tq_at (s := j_2) (by omega) (show 0 < dn j_2 by omega) (en_o (fun h => absurd h.1 (by rw [rdM]; exact hw_3))), by rw [ht]; exact hP9, hD9⟩, hS.F ht⟩) hS.2.2 dX8_end_34
  · refine lv_if_ne (tgt := 12) hx hb dX8_end_5 (by decide) (fun h => absurd (by decide) h) (fun _ => ?_)
    refine lv_sipush (v := (-1001)) hx hb dX8_end_8 (by decide) ?_
    obtain ⟨hP9, hD9⟩ := pd_sub [((a 0), .inr (8, (fX8 a (nI tx) fp (nI t0) wd (nI we) nu na (nI rd) ts (nI ru) (nI rw) (nI ca) df db sd))), (aI k (a 1) 3 (nF dn)), (aI k (a 4) 27 (sg se tm gs)), (aI k (a 2) 72 ffrees), (aI k (a 3) 72 fprices), (aI k (a 18) 768 fons), (aI k (a 19) 768 fworths), (aI k (a 20) 5 fstarts), (aI k (a 21) 4 fends), (aZ k (a 22) 4 fgoesRound), (aI k (a 23) 8 fbegin)] [0, 1, 2, 3, 4, 5, 6, 7, 8, 9, 10] hP hD (by decide +kernel) rfl
    exact W.iret (v := (-1001)) hx hb hr (fun t ht hW => ⟨⟨(-1001), (fons, fworths, fstarts, fends, fgoesRound, fbegin), rfl, tq_no (fun s h1 h2 h3 => hw_1 s h1 h2 h3), by rw [ht]; exact hP9, hD9⟩, hS.F ht⟩) hS.2.2 dX8_end_11


set_option maxHeartbeats 4000000 in
set_option maxRecDepth 100000 in
theorem n_which (l : Launch) (D : va_G) (k : Nat → ClassId) (st : Nat → Nat) (lo : Nat) (a : Nat → Nat) (tx : Nat) (t0 : Nat) (we : Nat) (rd : Nat) (ru : Nat) (rw : Nat) (ca : Nat) (fp : Int32) (wd : Int64) (nu : Int32) (na : Int32) (ts : Int32) (df : Int32) (db : Int32) (sd : Int32) (dn : Nat → Nat) (se : Nat → Nat) (tm : Nat → Nat) (gs : Nat → Int32) (ffrees : Nat → Int32) (fprices : Nat → Int32) (fons : Nat → Int32) (fworths : Nat → Int32) (fstarts : Nat → Int32) (fends : Nat → Int32) (fgoesRound : Nat → Int32) (fbegin : Nat → Int32) (p0 : Int32) (p1 : Int32) (hdn : ∀ j, dn j ≤ 24) (hse : ∀ j, se j ≤ 2) (htm : ∀ j, tm j ≤ 3) : CWi l D k st lo yX8_which cX8_which 4 (some .int) ({ frames := 6, cells := 0, slots := 0, locals := 144 }) 0 0 [.ref (a 0), .int p0, .int p1] [((a 0), .inr (8, (fX8 a (nI tx) fp (nI t0) wd (nI we) nu na (nI rd) ts (nI ru) (nI rw) (nI ca) df db sd))), (aI k (a 1) 3 (nF dn)), (aI k (a 4) 27 (sg se tm gs)), (aI k (a 2) 72 ffrees), (aI k (a 3) 72 fprices), (aI k (a 18) 768 fons), (aI k (a 19) 768 fworths), (aI k (a 20) 5 fstarts), (aI k (a 21) 4 fends), (aZ k (a 22) 4 fgoesRound), (aI k (a 23) 8 fbegin)] (fun (r : Int32) (u : (Nat → Int32) × (Nat → Int32) × (Nat → Int32) × (Nat → Int32) × (Nat → Int32) × (Nat → Int32)) => match u with | (fons_, fworths_, fstarts_, fends_, fgoesRound_, fbegin_) => wcP (sdM dn (sg se tm gs) ffrees fprices) p0 p1 r) (fun (u : (Nat → Int32) × (Nat → Int32) × (Nat → Int32) × (Nat → Int32) × (Nat → Int32) × (Nat → Int32)) => match u with | (fons_, fworths_, fstarts_, fends_, fgoesRound_, fbegin_) => [((a 0), .inr (8, (fX8 a (nI tx) fp (nI t0) wd (nI we) nu na (nI rd) ts (nI ru) (nI rw) (nI ca) df db sd))), (aI k (a 1) 3 (nF dn)), (aI k (a 4) 27 (sg se tm gs)), (aI k (a 2) 72 ffrees), (aI k (a 3) 72 fprices), (aI k (a 18) 768 fons_), (aI k (a 19) 768 fworths_), (aI k (a 20) 5 fstarts_), (aI k (a 21) 4 fends_), (aZ k (a 22) 4 fgoesRound_), (aI k (a 23) 8 fbegin_)]) := by
  intro sz
  refine Met.ofW (cc := cX8_which) (maxL := 4) (ret := (some .int)) (by decide) rfl ?_
  intro p e s m args below meth c s₁ B hml hv
  obtain ⟨rfl, hsz, hlo, hP, hK, hDL, hZ⟩ := hv
  have hx := B.exec
  have hb := B.bytes
  have hr := B.returns
  have hts := WS_ts B.pre
  have hown : s.vm.findClass RX8 = some m.cls := findClass_of_methodNamed B.named
  have hlocks := B.notSynchronized
  subst hsz
  have hD := hDL.self (sz := s.heap.size)
  have hAlo := A_lo hDL hlo
  generalize hAe : va_A [((a 0), .inr (8, (fX8 a (nI tx) fp (nI t0) wd (nI we) nu na (nI rd) ts (nI ru) (nI rw) (nI ca) df db sd))), (aI k (a 1) 3 (nF dn)), (aI k (a 4) 27 (sg se tm gs)), (aI k (a 2) 72 ffrees), (aI k (a 3) 72 fprices), (aI k (a 18) 768 fons), (aI k (a 19) 768 fworths), (aI k (a 20) 5 fstarts), (aI k (a 21) 4 fends), (aZ k (a 22) 4 fgoesRound), (aI k (a 23) 8 fbegin)] s.heap.size = A at hD hAlo ⊢
  have hA : ∀ q : Nat, s.heap.size ≤ q → A q := fun q h => by rw [← hAe]; exact Or.inr h
  have hS : va_S A s.heap s.heap [] := va_S.rf
  have hl := lv_entry ([.ref (a 0), .int p0, .int p1]) (n := 4) (Nat.le_of_ble_eq_true rfl)
  rw [lg_entry_eq]
  generalize (lg_sl ([.ref (a 0), .int p0, .int p1]) ++ List.replicate (4 - (lg_sl ([.ref (a 0), .int p0, .int p1])).length) Slot.unset).toArray = ls at hl ⊢
  have hl : lv_has ls 4 [(0, .ref (a 0)), (1, .int p0), (2, .int p1)] := hl
  refine lv_aload_n hx hb dX8_which_0 rfl (lv_at hl 0 rfl) ?_
  refine lv_iload_n hx hb dX8_which_1 rfl (lv_at hl 1 rfl) ?_
  refine ro_i (D := D) (va_runV (As := [.int p0]) (rest := []) ⟨hx, hb, hml, hown, hts⟩ ((n_isStreet l D k st lo a tx t0 we rd ru rw ca fp wd nu na ts df db sd dn p0 hdn) s.heap.size) (cwV 1 hts (gV tw_1189 tw_1191 tw_38 tw_87 tw_1192) rfl rfl rfl (by decide +kernel) ⟨Nat.le_of_ble_eq_true rfl, Nat.le_of_ble_eq_true rfl⟩) (pV hS hAlo hlo hP hK (va_Dlo hD hAlo) hZ [0, 1] (by decide) rfl (ci := 8) (q := (RX8, TX8, 44)) (q0 := 0) rfl rfl) rfl rfl hl.1 rfl (lv_room (Nat.le_of_ble_eq_true rfl)) dX8_which_2 ⟨Nat.le_of_ble_eq_true rfl, Nat.le_of_ble_eq_true rfl⟩) hS hA hP (fun r_1 H locs hw_1 hP hS => ?_)
  try dsimp only at hw_1
  rcases hw_1 with ⟨rfl, j_2, hj_2, rfl, hw_1⟩ | ⟨rfl, hw_1⟩
  · have hdj_2 := hdn j_2
    have htj_2 := htm j_2
    refine lv_if_eq (tgt := 16) hx hb dX8_which_5 (by decide) (fun h => absurd h (by decide)) (fun _ => ?_)
    refine lv_aload_n hx hb dX8_which_8 rfl (lv_at hl 0 rfl) ?_
    refine lv_iload_n hx hb dX8_which_9 rfl (lv_at hl 2 rfl) ?_
    refine ro_i (D := D) (va_runV (As := [.int p1]) (rest := []) ⟨hx, hb, hml, hown, hts⟩ ((n_isStreet l D k st lo a tx t0 we rd ru rw ca fp wd nu na ts df db sd dn p1 hdn) H.size) (cwV 1 hts (gV tw_1189 tw_1191 tw_38 tw_87 tw_1192) rfl rfl rfl (by decide +kernel) ⟨Nat.le_of_ble_eq_true rfl, Nat.le_of_ble_eq_true rfl⟩) (pV hS hAlo hlo hP hK (va_Dlo hD hAlo) hZ [0, 1] (by decide) rfl (ci := 8) (q := (RX8, TX8, 44)) (q0 := 0) rfl rfl) rfl rfl hl.1 rfl (lv_room (Nat.le_of_ble_eq_true rfl)) dX8_which_10 ⟨Nat.le_of_ble_eq_true rfl, Nat.le_of_ble_eq_true rfl⟩) hS hA hP (fun r_3 H locs hw_3 hP hS => ?_)
    try dsimp only at hw_3
    rcases hw_3 with ⟨rfl, j_4, hj_4, rfl, hw_3⟩ | ⟨rfl, hw_3⟩
    · have hdj_4 := hdn j_4
      have htj_4 := htm j_4
      refine lv_if_ne (tgt := 20) hx hb dX8_which_13 (by decide) (fun _ => ?_) (fun h => absurd h (by decide))
      refine lv_aload_n hx hb dX8_which_20 rfl (lv_at hl 0 rfl) ?_
      refine lv_iload_n hx hb dX8_which_21 rfl (lv_at hl 1 rfl) ?_
      refine rw_v (D := D) (wr := []) (va_runV (As := [.int (nI j_2)]) (rest := []) ⟨hx, hb, hml, hown, hts⟩ ((n_findWay l D k st lo a tx t0 we rd ru rw ca fp wd nu na ts df db sd dn se tm gs ffrees fprices fons fworths fstarts fends fgoesRound fbegin j_2 hdn hse htm (by first | assumption | omega) (by first | assumption | omega)) H.size) (cwV 1 hts (gV tw_1250 tw_1252 tw_49 tw_87 tw_1253) rfl rfl rfl (by decide +kernel) ⟨Nat.le_of_ble_eq_true rfl, Nat.le_of_ble_eq_true rfl⟩) (pV hS hAlo hlo hP hK (va_Dlo hD hAlo) hZ [0, 1, 2, 3, 4, 5, 6, 7, 8, 9, 10] (by decide +kernel) rfl (ci := 8) (q := (RX8, TX8, 44)) (q0 := 0) rfl rfl) rfl rfl hl.1 rfl (lv_room (Nat.le_of_ble_eq_true rfl)) dX8_which_22 ⟨Nat.le_of_ble_eq_true rfl, Nat.le_of_ble_eq_true rfl⟩) hS hA hP hD [0, 1, 2, 3, 4, 5, 6, 7, 8, 9, 10] [] rfl rfl (by decide +kernel) (by decide +kernel) (fun u H locs hw_5 hP hD hS => ?_)
      obtain ⟨fons__5, fworths__5, fstarts__5, fends__5, fgoesRound__5, fbegin__5⟩ := u
      have hQ9 := pd_mk [((a 0), .inr (8, (fX8 a (nI tx) fp (nI t0) wd (nI we) nu na (nI rd) ts (nI ru) (nI rw) (nI ca) df db sd))), (aI k (a 1) 3 (nF dn)), (aI k (a 4) 27 (sg se tm gs)), (aI k (a 2) 72 ffrees), (aI k (a 3) 72 fprices), (aI k (a 18) 768 fons__5), (aI k (a 19) 768 fworths__5), (aI k (a 20) 5 fstarts__5), (aI k (a 21) 4 fends__5), (aZ k (a 22) 4 fgoesRound__5), (aI k (a 23) 8 fbegin__5)] hP hD
      clear hP hD
      obtain ⟨hP, hD⟩ := hQ9
      try dsimp only at hw_5
      refine lv_aload_n hx hb dX8_which_25 rfl (lv_at hl 0 rfl) ?_
      refine va_get (D := D) (ci := 8) (v := .ref (a 20)) (C := RX8) (T := TX8) (N := 44) hx hb hts inX8 hown hK hP 0 rfl rfl 19 (by decide) (hts _ tw_992) (fun _ h9 => h9) rfl dX8_which_26 ?_
      refine lv_iconst (v := 0) hx hb dX8_which_29 (by decide) ?_
      refine va_iald hx hb hK hP 7 1 rfl rfl (by unfold vp_in; decide) dX8_which_30 ?_
      refine lv_ti (y := (fstarts__5 0)) (by rfl) ?_
      refine lv_istore_n (lv' := [(3, .int (fstarts__5 0)), (0, .ref (a 0)), (1, .int (nI j_2)), (2, .int (nI j_4))]) hx hb dX8_which_31 rfl hl (by decide) rfl (fun ls hl => ?_)
      refine lv_aload_n hx hb dX8_which_32 rfl (lv_at hl 1 rfl) ?_
      refine lv_iload_n hx hb dX8_which_33 rfl (lv_at hl 3 rfl) ?_
      refine rw_v (D := D) (wr := []) (va_runV (As := [.int (nI j_4)]) (rest := []) ⟨hx, hb, hml, hown, hts⟩ ((n_findWay l D k st lo a tx t0 we rd ru rw ca fp wd nu na ts df db sd dn se tm gs ffrees fprices fons__5 fworths__5 fstarts__5 fends__5 fgoesRound__5 fbegin__5 j_4 hdn hse htm (by first | assumption | omega) (by first | assumption | omega)) H.size) (cwV 1 hts (gV tw_1250 tw_1252 tw_49 tw_87 tw_1253) rfl rfl rfl (by decide +kernel) ⟨Nat.le_of_ble_eq_true rfl, Nat.le_of_ble_eq_true rfl⟩) (pV hS hAlo hlo hP hK (va_Dlo hD hAlo) hZ [0, 1, 2, 3, 4, 5, 6, 7, 8, 9, 10] (by decide +kernel) rfl (ci := 8) (q := (RX8, TX8, 44)) (q0 := 0) rfl rfl) rfl rfl hl.1 rfl (lv_room (Nat.le_of_ble_eq_true rfl)) dX8_which_34 ⟨Nat.le_of_ble_eq_true rfl, Nat.le_of_ble_eq_true rfl⟩) hS hA hP hD [0, 1, 2, 3, 4, 5, 6, 7, 8, 9, 10] [] rfl rfl (by decide +kernel) (by decide +kernel) (fun u H locs hw_6 hP hD hS => ?_)
      obtain ⟨fons__6, fworths__6, fstarts__6, fends__6, fgoesRound__6, fbegin__6⟩ := u
      have hQ9 := pd_mk [((a 0), .inr (8, (fX8 a (nI tx) fp (nI t0) wd (nI we) nu na (nI rd) ts (nI ru) (nI rw) (nI ca) df db sd))), (aI k (a 1) 3 (nF dn)), (aI k (a 4) 27 (sg se tm gs)), (aI k (a 2) 72 ffrees), (aI k (a 3) 72 fprices), (aI k (a 18) 768 fons__6), (aI k (a 19) 768 fworths__6), (aI k (a 20) 5 fstarts__6), (aI k (a 21) 4 fends__6), (aZ k (a 22) 4 fgoesRound__6), (aI k (a 23) 8 fbegin__6)] hP hD
      clear hP hD
      obtain ⟨hP, hD⟩ := hQ9
      try dsimp only at hw_6
      refine lv_aload_n hx hb dX8_which_37 rfl (lv_at hl 1 rfl) ?_
      refine va_get (D := D) (ci := 8) (v := .ref (a 20)) (C := RX8) (T := TX8) (N := 44) hx hb hts inX8 hown hK hP 0 rfl rfl 19 (by decide) (hts _ tw_992) (fun _ h9 => h9) rfl dX8_which_38 ?_
      refine lv_iconst (v := 0) hx hb dX8_which_41 (by decide) ?_
      refine va_iald hx hb hK hP 7 1 rfl rfl (by unfold vp_in; decide) dX8_which_42 ?_
      refine lv_ti (y := (fstarts__6 0)) (by rfl) ?_
      refine lv_iload_n hx hb dX8_which_43 rfl (lv_at hl 0 rfl) ?_
      refine lv_icmp_ge (tgt := 51) hx hb dX8_which_44 (by decide) (fun c_7 => ?_) (fun c_7 => ?_)
      · refine lv_iload_n hx hb dX8_which_51 rfl (lv_at hl 2 rfl) ?_
        obtain ⟨hP9, hD9⟩ := pd_sub [((a 0), .inr (8, (fX8 a (nI tx) fp (nI t0) wd (nI we) nu na (nI rd) ts (nI ru) (nI rw) (nI ca) df db sd))), (aI k (a 1) 3 (nF dn)), (aI k (a 4) 27 (sg se tm gs)), (aI k (a 2) 72 ffrees), (aI k (a 3) 72 fprices), (aI k (a 18) 768 fons__6), (aI k (a 19) 768 fworths__6), (aI k (a 20) 5 fstarts__6), (aI k (a 21) 4 fends__6), (aZ k (a 22) 4 fgoesRound__6), (aI k (a 23) 8 fbegin__6)] [0, 1, 2, 3, 4, 5, 6, 7, 8, 9, 10] hP hD (by decide +kernel) rfl
        exact W.iret (v := (nI j_2)) hx hb hr (fun t ht hW => ⟨⟨(nI j_2), (fons__6, fworths__6, fstarts__6, fends__6, fgoesRound__6, fbegin__6), rfl, wc_at (s := j_2) (t := j_4) (by omega) (by omega) (show 0 < dn j_2 by omega) (show 0 < dn j_4 by omega) (by have h8 : _ = wayS (sdM dn (sg se tm gs) ffrees fprices j_2) 0 := ((wm_of (hse _) (htm _) hw_5) 0 (Nat.zero_le _) (Nat.zero_le _)).2.1; have h9 : _ = wayS (sdM dn (sg se tm gs) ffrees fprices j_4) 0 := ((wm_of (hse _) (htm _) hw_6) 0 (Nat.zero_le _) (Nat.zero_le _)).2.1; rw [if_neg (show ¬ wayS (sdM dn (sg se tm gs) ffrees fprices j_4) 0 < wayS (sdM dn (sg se tm gs) ffrees fprices j_2) 0 by rw [← h8, ← h9]; exact Int32.not_lt.mpr c_7)]), by rw [ht]; exact hP9, hD9⟩, hS.F ht⟩) hS.2.2 dX8_which_52
      · refine lv_iload_n hx hb dX8_which_47 rfl (lv_at hl 3 rfl) ?_
        refine lv_goto (tgt := 52) hx hb dX8_which_48 (by decide) ?_
        obtain ⟨hP9, hD9⟩ := pd_sub [((a 0), .inr (8, (fX8 a (nI tx) fp (nI t0) wd (nI we) nu na (nI rd) ts (nI ru) (nI rw) (nI ca) df db sd))), (aI k (a 1) 3 (nF dn)), (aI k (a 4) 27 (sg se tm gs)), (aI k (a 2) 72 ffrees), (aI k (a 3) 72 fprices), (aI k (a 18) 768 fons__6), (aI k (a 19) 768 fworths__6), (aI k (a 20) 5 fstarts__6), (aI k (a 21) 4 fends__6), (aZ k (a 22) 4 fgoesRound__6), (aI k (a 23) 8 fbegin__6)] [0, 1, 2, 3, 4, 5, 6, 7, 8, 9, 10] hP hD (by decide +kernel) rfl
        exact W.iret (v := (nI j_4)) hx hb hr (fun t ht hW => ⟨⟨(nI j_4), (fons__6, fworths__6, fstarts__6, fends__6, fgoesRound__6, fbegin__6), rfl, wc_at (s := j_2) (t := j_4) (by omega) (by omega) (show 0 < dn j_2 by omega) (show 0 < dn j_4 by omega) (by have h8 : _ = wayS (sdM dn (sg se tm gs) ffrees fprices j_2) 0 := ((wm_of (hse _) (htm _) hw_5) 0 (Nat.zero_le _) (Nat.zero_le _)).2.1; have h9 : _ = wayS (sdM dn (sg se tm gs) ffrees fprices j_4) 0 := ((wm_of (hse _) (htm _) hw_6) 0 (Nat.zero_le _) (Nat.zero_le _)).2.1; rw [if_pos (show wayS (sdM dn (sg se tm gs) ffrees fprices j_4) 0 < wayS (sdM dn (sg se tm gs) ffrees fprices j_2) 0 by rw [← h8, ← h9]; exact Int32.not_le.mp c_7)]), by rw [ht]; exact hP9, hD9⟩, hS.F ht⟩) hS.2.2 dX8_which_52
    · refine lv_if_ne (tgt := 20) hx hb dX8_which_13 (by decide) (fun h => absurd (by decide) h) (fun _ => ?_)
      refine lv_sipush (v := (-1001)) hx hb dX8_which_16 (by decide) ?_
      obtain ⟨hP9, hD9⟩ := pd_sub [((a 0), .inr (8, (fX8 a (nI tx) fp (nI t0) wd (nI we) nu na (nI rd) ts (nI ru) (nI rw) (nI ca) df db sd))), (aI k (a 1) 3 (nF dn)), (aI k (a 4) 27 (sg se tm gs)), (aI k (a 2) 72 ffrees), (aI k (a 3) 72 fprices), (aI k (a 18) 768 fons), (aI k (a 19) 768 fworths), (aI k (a 20) 5 fstarts), (aI k (a 21) 4 fends), (aZ k (a 22) 4 fgoesRound), (aI k (a 23) 8 fbegin)] [0, 1, 2, 3, 4, 5, 6, 7, 8, 9, 10] hP hD (by decide +kernel) rfl
      exact W.iret (v := (-1001)) hx hb hr (fun t ht hW => ⟨⟨(-1001), (fons, fworths, fstarts, fends, fgoesRound, fbegin), rfl, wc_no1 (fun s h1 h2 h3 => hw_3 s h1 h2 h3), by rw [ht]; exact hP9, hD9⟩, hS.F ht⟩) hS.2.2 dX8_which_19
  · refine lv_if_eq (tgt := 16) hx hb dX8_which_5 (by decide) (fun _ => ?_) (fun h => absurd (by decide) h)
    refine lv_sipush (v := (-1001)) hx hb dX8_which_16 (by decide) ?_
    obtain ⟨hP9, hD9⟩ := pd_sub [((a 0), .inr (8, (fX8 a (nI tx) fp (nI t0) wd (nI we) nu na (nI rd) ts (nI ru) (nI rw) (nI ca) df db sd))), (aI k (a 1) 3 (nF dn)), (aI k (a 4) 27 (sg se tm gs)), (aI k (a 2) 72 ffrees), (aI k (a 3) 72 fprices), (aI k (a 18) 768 fons), (aI k (a 19) 768 fworths), (aI k (a 20) 5 fstarts), (aI k (a 21) 4 fends), (aZ k (a 22) 4 fgoesRound), (aI k (a 23) 8 fbegin)] [0, 1, 2, 3, 4, 5, 6, 7, 8, 9, 10] hP hD (by decide +kernel) rfl
    exact W.iret (v := (-1001)) hx hb hr (fun t ht hW => ⟨⟨(-1001), (fons, fworths, fstarts, fends, fgoesRound, fbegin), rfl, wc_no0 (fun s h1 h2 h3 => hw_1 s h1 h2 h3), by rw [ht]; exact hP9, hD9⟩, hS.F ht⟩) hS.2.2 dX8_which_19

theorem f_glueP19 : True := trivial
/-! whether the way is a bar -/
def isBa (n : Nat) (S : Nat → Nat) (T : Nat → Nat → Prop) (b : Nat) : Prop := ∀ i, i < n → ∀ g, g < S i → g % 2 = 1 → (T i g ↔ b ≤ i)
def baP (n : Nat) (S : Nat → Nat) (T : Nat → Nat → Prop) (x : Int32) : Prop := (∀ b, b ≤ n → isBa n S T b → x = nI b) ∧ ((∀ b, b ≤ n → ¬ isBa n S T b) → x = -1)
theorem baP_fun {n : Nat} {S : Nat → Nat} {T : Nat → Nat → Prop} {x y : Int32} (h : baP n S T x) (k : baP n S T y) : x = y := by
  rcases Classical.em (∃ b, b ≤ n ∧ isBa n S T b) with ⟨b, h1, h2⟩ | c
  · exact (h.1 b h1 h2).trans (k.1 b h1 h2).symm
  · exact (h.2 (fun b h1 h2 => c ⟨b, h1, h2⟩)).trans (k.2 (fun b h1 h2 => c ⟨b, h1, h2⟩)).symm
theorem isBa_u {n a b : Nat} {S : Nat → Nat} {T : Nat → Nat → Prop} (hS : ∀ i, i < n → 2 ≤ S i) (ha : a ≤ n) (hb : b ≤ n) (h : isBa n S T a) (k : isBa n S T b) : a = b := by
  rcases Nat.lt_trichotomy a b with c | c | c
  · have h1 := h a (by omega) 1 (by have := hS a (by omega); omega) rfl
    have k1 := k a (by omega) 1 (by have := hS a (by omega); omega) rfl
    exact absurd (k1.mp (h1.mpr (Nat.le_refl a))) (by omega)
  · exact c
  · have h1 := h b (by omega) 1 (by have := hS b (by omega); omega) rfl
    have k1 := k b (by omega) 1 (by have := hS b (by omega); omega) rfl
    exact absurd (h1.mp (k1.mpr (Nat.le_refl b))) (by omega)
theorem ba_yes {n b : Nat} {S : Nat → Nat} {T : Nat → Nat → Prop} (hS : ∀ i, i < n → 2 ≤ S i) (hb : b ≤ n) (h : isBa n S T b) : baP n S T (nI b) := ⟨fun a ha k => by rw [isBa_u hS ha hb k h], fun q => absurd h (q b hb)⟩
theorem ba_no {n : Nat} {S : Nat → Nat} {T : Nat → Nat → Prop} (h : ∀ b, b ≤ n → ¬ isBa n S T b) : baP n S T (-1) := ⟨fun b hb k => absurd k (h b hb), fun _ => rfl⟩
theorem bx_yes {n b : Nat} {S : Nat → Nat} {T : Nat → Nat → Prop} (h1 : ∀ i, b ≤ i → i < n → ∀ g, g < S i → g % 2 = 1 → T i g) (h2 : ∀ i, i < b → ∀ g, g < S i → g % 2 = 1 → ¬ T i g) : isBa n S T b := by
  intro i hi g hg ho
  rcases Nat.lt_or_ge i b with c | c
  · exact ⟨fun t => absurd t (h2 i c g hg ho), fun t => absurd t (by omega)⟩
  · exact ⟨fun _ => c, fun _ => h1 i c hi g hg ho⟩
theorem bx_no {n b i : Nat} {S : Nat → Nat} {T : Nat → Nat → Prop} (hb : b ≤ n) (hnb : b = 0 ∨ ∃ g, g < S (b - 1) ∧ g % 2 = 1 ∧ ¬ T (b - 1) g) (hi : i < b) (ha : ∃ g, g < S i ∧ g % 2 = 1 ∧ T i g) : ∀ a, a ≤ n → ¬ isBa n S T a := by
  intro a _ k
  rcases hnb with h | ⟨g, h1, h2, h3⟩
  · omega
  · obtain ⟨q, k1, k2, k3⟩ := ha
    have c1 := (k i (by omega) q k1 k2).mp k3
    have c2 : ¬ a ≤ b - 1 := fun z => h3 ((k (b - 1) (by omega) g h1 h2).mpr z)
    omega
theorem baP_congr {n : Nat} {S : Nat → Nat} {T T2 : Nat → Nat → Prop} {x : Int32} (h : ∀ i, i < n → ∀ g, g < S i → (T i g ↔ T2 i g)) (k : baP n S T x) : baP n S T2 x := by
  have e : ∀ b, isBa n S T2 b → isBa n S T b := fun b q i hi g hg ho => (h i hi g hg).trans (q i hi g hg ho)
  have e2 : ∀ b, isBa n S T b → isBa n S T2 b := fun b q i hi g hg ho => (h i hi g hg).symm.trans (q i hi g hg ho)
  exact ⟨fun b hb q => k.1 b hb (e b q), fun q => k.2 (fun b hb z => q b hb (e2 b z))⟩
theorem sq2 {see n i : Nat} (h : i < n) : 2 ≤ 2 ^ sqN see n i := by
  have h1 : 1 ≤ sqN see n i := by
    unfold sqN
    omega
  exact Nat.pow_le_pow_right (n := 2) (by omega) h1
def baA (p1 : Int32) (d : SDt) (r : Int32) : Prop := (¬ inB p1 0 (d.2.1 8) → r = -1002) ∧ ∀ k : Nat, k < 2 ^ 31 → p1 = nI k → inB p1 0 (d.2.1 8) → baP d.1 (fun i => 2 ^ sqN (seD d) d.1 i) (fun i g => pTake d k i ≤ wayO d k i g) r
theorem baA_fun {p1 : Int32} (d : SDt) (x y : Int32) (h : baA p1 d x) (g : baA p1 d y) : x = y := by
  rcases Classical.em (inB p1 0 (d.2.1 8)) with c | c
  · obtain ⟨k, h2, e⟩ := nI_of (Int32.not_lt.mpr c.1)
    exact baP_fun (h.2 k h2 e c) (g.2 k h2 e c)
  · exact (h.1 c).trans (g.1 c).symm
theorem bq_o {p1 : Int32} {d : SDt} (h : ¬ inB p1 0 (d.2.1 8)) : baA p1 d (-1002) := ⟨fun _ => rfl, fun _ _ _ c => absurd c h⟩
theorem bq_i {k : Nat} {d : SDt} {r : Int32} (hk : k ≤ 3) (hi : inB (nI k) 0 (d.2.1 8)) (h : baP d.1 (fun i => 2 ^ sqN (seD d) d.1 i) (fun i g => pTake d k i ≤ wayO d k i g) r) : baA (nI k) d r := by
  refine ⟨fun c => absurd hi c, fun q hq e _ => ?_⟩
  have := nI_inj (by omega) hq e
  subst this
  exact h


set_option maxHeartbeats 4000000 in
set_option maxRecDepth 100000 in
theorem y_isTakenByAll (l : Launch) (D : va_G) (k : Nat → ClassId) (st : Nat → Nat) (lo : Nat) (h0 : Nat) (h1 : Nat) (h2 : Nat) (h3 : Nat) (h4 : Nat) (n : Nat) (see : Nat) (tm : Nat) (g : Nat → Int32) (ff : Nat → Int32) (fp : Nat → Int32) (fl : Nat → Int32) (w0 : Nat) (w1 : Nat) (w2 : Nat) (w3 : Nat) (w4 : Nat) (on : Nat → Int32) (rn : Nat) (i : Nat) (hn : n ≤ 24) (hsee : see ≤ 2) (hrn : rn ≤ 3) (hi : i < n) : CRi l D k st lo yX0_isTakenByAll cX0_isTakenByAll 4 (some .boolean) ({ frames := 3, cells := 0, slots := 0, locals := 81 }) [.ref w0, .int (nI rn), .int (nI i)] [(h0, .inr (5, (fX5 h1 h2 h3 h4))), (aI k h1 10 (vv n see tm g)), (aI k h2 24 ff), (aI k h3 24 fp), (aI k h4 4 fl), (w0, .inr (0, (fX0 h0 w1 w2 w3 w4))), (aI k w1 768 on)] (fun r => (r = 1 ∧ ∀ gg, gg < 2 ^ sqN see n i → gg % 2 = 1 → fX_taking n g fp fl rn i ≤ on (slN rn i gg)) ∨ (r = 0 ∧ ∃ gg, gg < 2 ^ sqN see n i ∧ gg % 2 = 1 ∧ ¬ (fX_taking n g fp fl rn i ≤ on (slN rn i gg)))) := by
  intro sz
  refine Met.ofW (cc := cX0_isTakenByAll) (maxL := 4) (ret := (some .boolean)) (by decide) rfl ?_
  intro p e s m args below meth c s₁ B hml hv
  obtain ⟨rfl, hsz, hlo, hP, hK, hDL, hZ⟩ := hv
  have hx := B.exec
  have hb := B.bytes
  have hr := B.returns
  have hts := WS_ts B.pre
  have hown : s.vm.findClass RX0 = some m.cls := findClass_of_methodNamed B.named
  have hlocks := B.notSynchronized
  subst hsz
  have hA : ∀ q : Nat, s.heap.size ≤ q → (fun q : Nat => s.heap.size ≤ q) q := fun _ h => h
  have hAlo : ∀ q : Nat, (fun q : Nat => s.heap.size ≤ q) q → lo ≤ q := fun q h => Nat.le_trans hlo h
  have hS : va_S (fun q : Nat => s.heap.size ≤ q) s.heap s.heap [] := va_S.rf
  have hl := lv_entry ([.ref w0, .int (nI rn), .int (nI i)]) (n := 4) (Nat.le_of_ble_eq_true rfl)
  rw [lg_entry_eq]
  generalize (lg_sl ([.ref w0, .int (nI rn), .int (nI i)]) ++ List.replicate (4 - (lg_sl ([.ref w0, .int (nI rn), .int (nI i)])).length) Slot.unset).toArray = ls at hl ⊢
  have hl : lv_has ls 4 [(0, .ref w0), (1, .int (nI rn)), (2, .int (nI i))] := hl
  refine lv_iconst (v := 1) hx hb dX0_isTakenByAll_0 (by decide) ?_
  refine lv_istore_n (lv' := [(3, .int 1), (0, .ref w0), (1, .int (nI rn)), (2, .int (nI i))]) hx hb dX0_isTakenByAll_1 rfl hl (by decide) rfl (fun ls hl => ?_)
  refine W_loop (σ := Nat) (fun (n_ : Nat) (g2_1 : Nat) (H : Heap) (locs : List Loc) (ls : Array Slot) => n_ = 10 - g2_1 ∧ (g2_1 ≤ 9 ∧ g2_1 % 2 = 1 ∧ ∀ q, q < g2_1 → q % 2 = 1 → (fX_taking n g fp fl rn i ≤ on (slN rn i q))) ∧ va_P D classes [(h0, .inr (5, (fX5 h1 h2 h3 h4))), (aI k h1 10 (vv n see tm g)), (aI k h2 24 ff), (aI k h3 24 fp), (aI k h4 4 fl), (w0, .inr (0, (fX0 h0 w1 w2 w3 w4))), (aI k w1 768 on)] H ∧ va_S (fun q : Nat => s.heap.size ≤ q) s.heap H locs ∧ lv_has ls 4 [(3, .int (nI g2_1)), (0, .ref w0), (1, .int (nI rn)), (2, .int (nI i))]) (fun n_1 x_1 H locs ls hI ih_1 => ?_) _ 1 ⟨rfl, ⟨by omega, by omega, fun q hq ho => absurd hq (by omega)⟩, hP, hS, (lv_sub hl [0, 1, 2, 3] rfl)⟩
  obtain ⟨g2_1, rfl⟩ : ∃ z, z = x_1 := ⟨_, rfl⟩
  obtain ⟨hm_1, hv_1, hP, hS, hl⟩ := hI
  subst hm_1
  refine lv_iload_n hx hb dX0_isTakenByAll_2 rfl (lv_at hl 0 rfl) ?_
  refine lv_aload_n hx hb dX0_isTakenByAll_3 rfl (lv_at hl 1 rfl) ?_
  refine va_get (D := D) (ci := 0) (v := .ref h0) (C := RX0) (T := TX0) (N := 5) hx hb hts inX0 hown hK hP 5 rfl rfl 0 (by decide) (hts _ tw_266) (fun _ h9 => h9) rfl dX0_isTakenByAll_4 ?_
  refine lv_iload_n hx hb dX0_isTakenByAll_7 rfl (lv_at hl 3 rfl) ?_
  refine ro_i (D := D) (va_runV (As := [.int (nI i)]) (rest := [.int (nI g2_1)]) ⟨hx, hb, hml, hown, hts⟩ ((y_sightsAt l D k st lo h0 h1 h2 h3 h4 n see tm g i (by first | assumption | omega) (by first | assumption | omega) (by first | assumption | omega)) H.size) (cwV 1 hts (gV tw_536 tw_537 tw_538 tw_81 tw_539) rfl rfl rfl (by decide +kernel) ⟨Nat.le_of_ble_eq_true rfl, Nat.le_of_ble_eq_true rfl⟩) (pV hS hAlo hlo hP hK hDL hZ [0, 1] (by decide) rfl (ci := 5) (q := (RX5, TX5, 4)) (q0 := 0) rfl rfl) rfl rfl hl.1 rfl (lv_room (Nat.le_of_ble_eq_true rfl)) dX0_isTakenByAll_8 ⟨Nat.le_of_ble_eq_true rfl, Nat.le_of_ble_eq_true rfl⟩) hS hA hP (fun r_2 H locs hw_2 hP hS => ?_)
  try dsimp only at hw_2
  obtain ⟨zs_3, ezs_3⟩ : ∃ z : Nat, z = 2 ^ sqN see n i := ⟨_, rfl⟩
  rw [← ezs_3] at hw_2
  subst hw_2
  have hzs_3 : 1 ≤ zs_3 ∧ zs_3 ≤ 8 := by rw [ezs_3]; exact p8 (sq_le (by omega))
  refine lv_icmp_ge (tgt := 32) hx hb dX0_isTakenByAll_11 (by decide) (fun c_4 => ?_) (fun c_4 => ?_)
  · have c_4 := (nI_leI (a := zs_3) (b := g2_1) (by omega) (by omega)).mp c_4
    refine lv_iconst (v := 1) hx hb dX0_isTakenByAll_32 (by decide) ?_
    exact W.zret (v := 1) (ty := .boolean) hx hb hr rfl (fun t ht hW => ⟨⟨1, (), rfl, .inl ⟨rfl, fun gg h1 h2 => hv_1.2.2 gg (by rw [← ezs_3] at h1; omega) h2⟩, trivial⟩, hS.F ht⟩) hS.2.2 dX0_isTakenByAll_33
  · have c_4 : ¬ (zs_3 ≤ g2_1) := fun h => c_4 ((nI_leI (a := zs_3) (b := g2_1) (by omega) (by omega)).mpr h)
    refine lv_aload_n hx hb dX0_isTakenByAll_14 rfl (lv_at hl 1 rfl) ?_
    refine lv_iload_n hx hb dX0_isTakenByAll_15 rfl (lv_at hl 2 rfl) ?_
    refine lv_iload_n hx hb dX0_isTakenByAll_16 rfl (lv_at hl 3 rfl) ?_
    refine lv_iload_n hx hb dX0_isTakenByAll_17 rfl (lv_at hl 0 rfl) ?_
    refine ro_i (D := D) (va_runV (As := [.int (nI rn), .int (nI i), .int (nI g2_1)]) (rest := []) ⟨hx, hb, hml, hown, hts⟩ ((y_isTaken l D k st lo h0 h1 h2 h3 h4 n see tm g ff fp fl w0 w1 w2 w3 w4 on rn i g2_1 (by first | assumption | omega) (by first | assumption | omega) (by first | assumption | omega) (by first | assumption | omega)) H.size) (cwV 3 hts (gV tw_662 tw_638 tw_639 tw_85 tw_640) rfl rfl rfl (by decide +kernel) ⟨Nat.le_of_ble_eq_true rfl, Nat.le_of_ble_eq_true rfl⟩) (pV hS hAlo hlo hP hK hDL hZ [0, 1, 2, 3, 4, 5, 6] (by decide) rfl (ci := 0) (q := (RX0, TX0, 5)) (q0 := 5) rfl rfl) rfl rfl hl.1 rfl (lv_room (Nat.le_of_ble_eq_true rfl)) dX0_isTakenByAll_18 ⟨Nat.le_of_ble_eq_true rfl, Nat.le_of_ble_eq_true rfl⟩) hS hA hP (fun r_5 H locs hw_5 hP hS => ?_)
    try dsimp only at hw_5
    rcases hw_5 with ⟨rfl, hw_5⟩ | ⟨rfl, hw_5⟩
    · refine lv_if_ne (tgt := 26) hx hb dX0_isTakenByAll_21 (by decide) (fun _ => ?_) (fun h => absurd h (by decide))
      refine lv_iinc (v := (nI (g2_1 + 2))) (lv' := [(3, .int (nI (g2_1 + 2))), (0, .ref w0), (1, .int (nI rn)), (2, .int (nI i))]) hx hb dX0_isTakenByAll_26 hl (k := 0) rfl (nI_add g2_1 2) (by decide) rfl (fun ls hl => ?_)
      refine lv_goto (tgt := 2) hx hb dX0_isTakenByAll_29 (by decide) ?_
      exact ih_1 _ (g2_1 + 2) _ _ _ (by omega) ⟨rfl, ⟨by omega, by omega, fun q hq ho => by rcases Nat.lt_or_ge q g2_1 with h | h; exact hv_1.2.2 q h ho; rw [show q = g2_1 by omega]; exact hw_5.2⟩, hP, hS, (lv_sub hl [0, 1, 2, 3] rfl)⟩
    · refine lv_if_ne (tgt := 26) hx hb dX0_isTakenByAll_21 (by decide) (fun h => absurd (by decide) h) (fun _ => ?_)
      refine lv_iconst (v := 0) hx hb dX0_isTakenByAll_24 (by decide) ?_
      exact W.zret (v := 0) (ty := .boolean) hx hb hr rfl (fun t ht hW => ⟨⟨0, (), rfl, .inr ⟨rfl, g2_1, by rw [← ezs_3]; omega, hv_1.2.1, fun z => hw_5 ⟨hv_1.2.1, z⟩⟩, trivial⟩, hS.F ht⟩) hS.2.2 dX0_isTakenByAll_25


set_option maxHeartbeats 4000000 in
set_option maxRecDepth 100000 in
theorem y_isTakenByAny (l : Launch) (D : va_G) (k : Nat → ClassId) (st : Nat → Nat) (lo : Nat) (h0 : Nat) (h1 : Nat) (h2 : Nat) (h3 : Nat) (h4 : Nat) (n : Nat) (see : Nat) (tm : Nat) (g : Nat → Int32) (ff : Nat → Int32) (fp : Nat → Int32) (fl : Nat → Int32) (w0 : Nat) (w1 : Nat) (w2 : Nat) (w3 : Nat) (w4 : Nat) (on : Nat → Int32) (rn : Nat) (i : Nat) (hn : n ≤ 24) (hsee : see ≤ 2) (hrn : rn ≤ 3) (hi : i < n) : CRi l D k st lo yX0_isTakenByAny cX0_isTakenByAny 4 (some .boolean) ({ frames := 3, cells := 0, slots := 0, locals := 81 }) [.ref w0, .int (nI rn), .int (nI i)] [(h0, .inr (5, (fX5 h1 h2 h3 h4))), (aI k h1 10 (vv n see tm g)), (aI k h2 24 ff), (aI k h3 24 fp), (aI k h4 4 fl), (w0, .inr (0, (fX0 h0 w1 w2 w3 w4))), (aI k w1 768 on)] (fun r => (r = 1 ∧ ∃ gg, gg < 2 ^ sqN see n i ∧ gg % 2 = 1 ∧ fX_taking n g fp fl rn i ≤ on (slN rn i gg)) ∨ (r = 0 ∧ ∀ gg, gg < 2 ^ sqN see n i → gg % 2 = 1 → ¬ (fX_taking n g fp fl rn i ≤ on (slN rn i gg)))) := by
  intro sz
  refine Met.ofW (cc := cX0_isTakenByAny) (maxL := 4) (ret := (some .boolean)) (by decide) rfl ?_
  intro p e s m args below meth c s₁ B hml hv
  obtain ⟨rfl, hsz, hlo, hP, hK, hDL, hZ⟩ := hv
  have hx := B.exec
  have hb := B.bytes
  have hr := B.returns
  have hts := WS_ts B.pre
  have hown : s.vm.findClass RX0 = some m.cls := findClass_of_methodNamed B.named
  have hlocks := B.notSynchronized
  subst hsz
  have hA : ∀ q : Nat, s.heap.size ≤ q → (fun q : Nat => s.heap.size ≤ q) q := fun _ h => h
  have hAlo : ∀ q : Nat, (fun q : Nat => s.heap.size ≤ q) q → lo ≤ q := fun q h => Nat.le_trans hlo h
  have hS : va_S (fun q : Nat => s.heap.size ≤ q) s.heap s.heap [] := va_S.rf
  have hl := lv_entry ([.ref w0, .int (nI rn), .int (nI i)]) (n := 4) (Nat.le_of_ble_eq_true rfl)
  rw [lg_entry_eq]
  generalize (lg_sl ([.ref w0, .int (nI rn), .int (nI i)]) ++ List.replicate (4 - (lg_sl ([.ref w0, .int (nI rn), .int (nI i)])).length) Slot.unset).toArray = ls at hl ⊢
  have hl : lv_has ls 4 [(0, .ref w0), (1, .int (nI rn)), (2, .int (nI i))] := hl
  refine lv_iconst (v := 1) hx hb dX0_isTakenByAny_0 (by decide) ?_
  refine lv_istore_n (lv' := [(3, .int 1), (0, .ref w0), (1, .int (nI rn)), (2, .int (nI i))]) hx hb dX0_isTakenByAny_1 rfl hl (by decide) rfl (fun ls hl => ?_)
  refine W_loop (σ := Nat) (fun (n_ : Nat) (g2_1 : Nat) (H : Heap) (locs : List Loc) (ls : Array Slot) => n_ = 10 - g2_1 ∧ (g2_1 ≤ 9 ∧ g2_1 % 2 = 1 ∧ ∀ q, q < g2_1 → q % 2 = 1 → ¬ (fX_taking n g fp fl rn i ≤ on (slN rn i q))) ∧ va_P D classes [(h0, .inr (5, (fX5 h1 h2 h3 h4))), (aI k h1 10 (vv n see tm g)), (aI k h2 24 ff), (aI k h3 24 fp), (aI k h4 4 fl), (w0, .inr (0, (fX0 h0 w1 w2 w3 w4))), (aI k w1 768 on)] H ∧ va_S (fun q : Nat => s.heap.size ≤ q) s.heap H locs ∧ lv_has ls 4 [(3, .int (nI g2_1)), (0, .ref w0), (1, .int (nI rn)), (2, .int (nI i))]) (fun n_1 x_1 H locs ls hI ih_1 => ?_) _ 1 ⟨rfl, ⟨by omega, by omega, fun q hq ho => absurd hq (by omega)⟩, hP, hS, (lv_sub hl [0, 1, 2, 3] rfl)⟩
  obtain ⟨g2_1, rfl⟩ : ∃ z, z = x_1 := ⟨_, rfl⟩
  obtain ⟨hm_1, hv_1, hP, hS, hl⟩ := hI
  subst hm_1
  refine lv_iload_n hx hb dX0_isTakenByAny_2 rfl (lv_at hl 0 rfl) ?_
  refine lv_aload_n hx hb dX0_isTakenByAny_3 rfl (lv_at hl 1 rfl) ?_
  refine va_get (D := D) (ci := 0) (v := .ref h0) (C := RX0) (T := TX0) (N := 5) hx hb hts inX0 hown hK hP 5 rfl rfl 0 (by decide) (hts _ tw_266) (fun _ h9 => h9) rfl dX0_isTakenByAny_4 ?_
  refine lv_iload_n hx hb dX0_isTakenByAny_7 rfl (lv_at hl 3 rfl) ?_
  refine ro_i (D := D) (va_runV (As := [.int (nI i)]) (rest := [.int (nI g2_1)]) ⟨hx, hb, hml, hown, hts⟩ ((y_sightsAt l D k st lo h0 h1 h2 h3 h4 n see tm g i (by first | assumption | omega) (by first | assumption | omega) (by first | assumption | omega)) H.size) (cwV 1 hts (gV tw_536 tw_537 tw_538 tw_81 tw_539) rfl rfl rfl (by decide +kernel) ⟨Nat.le_of_ble_eq_true rfl, Nat.le_of_ble_eq_true rfl⟩) (pV hS hAlo hlo hP hK hDL hZ [0, 1] (by decide) rfl (ci := 5) (q := (RX5, TX5, 4)) (q0 := 0) rfl rfl) rfl rfl hl.1 rfl (lv_room (Nat.le_of_ble_eq_true rfl)) dX0_isTakenByAny_8 ⟨Nat.le_of_ble_eq_true rfl, Nat.le_of_ble_eq_true rfl⟩) hS hA hP (fun r_2 H locs hw_2 hP hS => ?_)
  try dsimp only at hw_2
  obtain ⟨zs_3, ezs_3⟩ : ∃ z : Nat, z = 2 ^ sqN see n i := ⟨_, rfl⟩
  rw [← ezs_3] at hw_2
  subst hw_2
  have hzs_3 : 1 ≤ zs_3 ∧ zs_3 ≤ 8 := by rw [ezs_3]; exact p8 (sq_le (by omega))
  refine lv_icmp_ge (tgt := 32) hx hb dX0_isTakenByAny_11 (by decide) (fun c_4 => ?_) (fun c_4 => ?_)
  · have c_4 := (nI_leI (a := zs_3) (b := g2_1) (by omega) (by omega)).mp c_4
    refine lv_iconst (v := 0) hx hb dX0_isTakenByAny_32 (by decide) ?_
    exact W.zret (v := 0) (ty := .boolean) hx hb hr rfl (fun t ht hW => ⟨⟨0, (), rfl, .inr ⟨rfl, fun gg h1 h2 => hv_1.2.2 gg (by rw [← ezs_3] at h1; omega) h2⟩, trivial⟩, hS.F ht⟩) hS.2.2 dX0_isTakenByAny_33
  · have c_4 : ¬ (zs_3 ≤ g2_1) := fun h => c_4 ((nI_leI (a := zs_3) (b := g2_1) (by omega) (by omega)).mpr h)
    refine lv_aload_n hx hb dX0_isTakenByAny_14 rfl (lv_at hl 1 rfl) ?_
    refine lv_iload_n hx hb dX0_isTakenByAny_15 rfl (lv_at hl 2 rfl) ?_
    refine lv_iload_n hx hb dX0_isTakenByAny_16 rfl (lv_at hl 3 rfl) ?_
    refine lv_iload_n hx hb dX0_isTakenByAny_17 rfl (lv_at hl 0 rfl) ?_
    refine ro_i (D := D) (va_runV (As := [.int (nI rn), .int (nI i), .int (nI g2_1)]) (rest := []) ⟨hx, hb, hml, hown, hts⟩ ((y_isTaken l D k st lo h0 h1 h2 h3 h4 n see tm g ff fp fl w0 w1 w2 w3 w4 on rn i g2_1 (by first | assumption | omega) (by first | assumption | omega) (by first | assumption | omega) (by first | assumption | omega)) H.size) (cwV 3 hts (gV tw_662 tw_638 tw_639 tw_85 tw_640) rfl rfl rfl (by decide +kernel) ⟨Nat.le_of_ble_eq_true rfl, Nat.le_of_ble_eq_true rfl⟩) (pV hS hAlo hlo hP hK hDL hZ [0, 1, 2, 3, 4, 5, 6] (by decide) rfl (ci := 0) (q := (RX0, TX0, 5)) (q0 := 5) rfl rfl) rfl rfl hl.1 rfl (lv_room (Nat.le_of_ble_eq_true rfl)) dX0_isTakenByAny_18 ⟨Nat.le_of_ble_eq_true rfl, Nat.le_of_ble_eq_true rfl⟩) hS hA hP (fun r_5 H locs hw_5 hP hS => ?_)
    try dsimp only at hw_5
    rcases hw_5 with ⟨rfl, hw_5⟩ | ⟨rfl, hw_5⟩
    · refine lv_if_eq (tgt := 26) hx hb dX0_isTakenByAny_21 (by decide) (fun h => absurd h (by decide)) (fun _ => ?_)
      refine lv_iconst (v := 1) hx hb dX0_isTakenByAny_24 (by decide) ?_
      exact W.zret (v := 1) (ty := .boolean) hx hb hr rfl (fun t ht hW => ⟨⟨1, (), rfl, .inl ⟨rfl, g2_1, by rw [← ezs_3]; omega, hv_1.2.1, hw_5.2⟩, trivial⟩, hS.F ht⟩) hS.2.2 dX0_isTakenByAny_25
    · refine lv_if_eq (tgt := 26) hx hb dX0_isTakenByAny_21 (by decide) (fun _ => ?_) (fun h => absurd (by decide) h)
      refine lv_iinc (v := (nI (g2_1 + 2))) (lv' := [(3, .int (nI (g2_1 + 2))), (0, .ref w0), (1, .int (nI rn)), (2, .int (nI i))]) hx hb dX0_isTakenByAny_26 hl (k := 0) rfl (nI_add g2_1 2) (by decide) rfl (fun ls hl => ?_)
      refine lv_goto (tgt := 2) hx hb dX0_isTakenByAny_29 (by decide) ?_
      exact ih_1 _ (g2_1 + 2) _ _ _ (by omega) ⟨rfl, ⟨by omega, by omega, fun q hq ho => by rcases Nat.lt_or_ge q g2_1 with h | h; exact hv_1.2.2 q h ho; rw [show q = g2_1 by omega]; exact fun z => hw_5 ⟨hv_1.2.1, z⟩⟩, hP, hS, (lv_sub hl [0, 1, 2, 3] rfl)⟩


set_option maxHeartbeats 4000000 in
set_option maxRecDepth 100000 in
theorem y_barOf (l : Launch) (D : va_G) (k : Nat → ClassId) (st : Nat → Nat) (lo : Nat) (h0 : Nat) (h1 : Nat) (h2 : Nat) (h3 : Nat) (h4 : Nat) (n : Nat) (see : Nat) (tm : Nat) (g : Nat → Int32) (ff : Nat → Int32) (fp : Nat → Int32) (fl : Nat → Int32) (w0 : Nat) (w1 : Nat) (w2 : Nat) (w3 : Nat) (w4 : Nat) (on : Nat → Int32) (rn : Nat) (hn : n ≤ 24) (hsee : see ≤ 2) (hrn : rn ≤ 3) : CRi l D k st lo yX0_barOf cX0_barOf 4 (some .int) ({ frames := 4, cells := 0, slots := 0, locals := 104 }) [.ref w0, .int (nI rn)] [(h0, .inr (5, (fX5 h1 h2 h3 h4))), (aI k h1 10 (vv n see tm g)), (aI k h2 24 ff), (aI k h3 24 fp), (aI k h4 4 fl), (w0, .inr (0, (fX0 h0 w1 w2 w3 w4))), (aI k w1 768 on)] (fun r => baP n (fun i => 2 ^ sqN see n i) (fun i gg => fX_taking n g fp fl rn i ≤ on (slN rn i gg)) r) := by
  intro sz
  refine Met.ofW (cc := cX0_barOf) (maxL := 4) (ret := (some .int)) (by decide) rfl ?_
  intro p e s m args below meth c s₁ B hml hv
  obtain ⟨rfl, hsz, hlo, hP, hK, hDL, hZ⟩ := hv
  have hx := B.exec
  have hb := B.bytes
  have hr := B.returns
  have hts := WS_ts B.pre
  have hown : s.vm.findClass RX0 = some m.cls := findClass_of_methodNamed B.named
  have hlocks := B.notSynchronized
  subst hsz
  have hA : ∀ q : Nat, s.heap.size ≤ q → (fun q : Nat => s.heap.size ≤ q) q := fun _ h => h
  have hAlo : ∀ q : Nat, (fun q : Nat => s.heap.size ≤ q) q → lo ≤ q := fun q h => Nat.le_trans hlo h
  have hS : va_S (fun q : Nat => s.heap.size ≤ q) s.heap s.heap [] := va_S.rf
  have hl := lv_entry ([.ref w0, .int (nI rn)]) (n := 4) (Nat.le_of_ble_eq_true rfl)
  rw [lg_entry_eq]
  generalize (lg_sl ([.ref w0, .int (nI rn)]) ++ List.replicate (4 - (lg_sl ([.ref w0, .int (nI rn)])).length) Slot.unset).toArray = ls at hl ⊢
  have hl : lv_has ls 4 [(0, .ref w0), (1, .int (nI rn))] := hl
  refine lv_aload_n hx hb dX0_barOf_0 rfl (lv_at hl 0 rfl) ?_
  refine va_get (D := D) (ci := 0) (v := .ref h0) (C := RX0) (T := TX0) (N := 5) hx hb hts inX0 hown hK hP 5 rfl rfl 0 (by decide) (hts _ tw_266) (fun _ h9 => h9) rfl dX0_barOf_1 ?_
  refine ro_i (D := D) (va_runV (As := []) (rest := []) ⟨hx, hb, hml, hown, hts⟩ ((x_doors l D k st lo h0 h1 h2 h3 h4 n see tm g) s.heap.size) (cwV 0 hts (gV tw_531 tw_478 tw_479 tw_81 tw_480) rfl rfl rfl (by decide +kernel) ⟨Nat.le_of_ble_eq_true rfl, Nat.le_of_ble_eq_true rfl⟩) (pV hS hAlo hlo hP hK hDL hZ [0, 1] (by decide) rfl (ci := 5) (q := (RX5, TX5, 4)) (q0 := 0) rfl rfl) rfl rfl hl.1 rfl (lv_room (Nat.le_of_ble_eq_true rfl)) dX0_barOf_4 ⟨Nat.le_of_ble_eq_true rfl, Nat.le_of_ble_eq_true rfl⟩) hS hA hP (fun r_1 H locs hw_1 hP hS => ?_)
  try dsimp only at hw_1
  subst hw_1
  refine lv_istore_n (lv' := [(2, .int (nI n)), (0, .ref w0), (1, .int (nI rn))]) hx hb dX0_barOf_7 rfl hl (by decide) rfl (fun ls hl => ?_)
  refine W_loop (σ := Nat) (fun (n_ : Nat) (bb_2 : Nat) (H : Heap) (locs : List Loc) (ls : Array Slot) => n_ = 2 * bb_2 ∧ (bb_2 ≤ n ∧ ∀ i, bb_2 ≤ i → i < n → ∀ gg, gg < 2 ^ sqN see n i → gg % 2 = 1 → fX_taking n g fp fl rn i ≤ on (slN rn i gg)) ∧ va_P D classes [(h0, .inr (5, (fX5 h1 h2 h3 h4))), (aI k h1 10 (vv n see tm g)), (aI k h2 24 ff), (aI k h3 24 fp), (aI k h4 4 fl), (w0, .inr (0, (fX0 h0 w1 w2 w3 w4))), (aI k w1 768 on)] H ∧ va_S (fun q : Nat => s.heap.size ≤ q) s.heap H locs ∧ lv_has ls 4 [(2, .int (nI bb_2)), (0, .ref w0), (1, .int (nI rn))]) (fun n_2 x_2 H locs ls hI ih_2 => ?_) _ n ⟨rfl, ⟨by omega, fun i h1 h2 => absurd h2 (by omega)⟩, hP, hS, (lv_sub hl [0, 1, 2] rfl)⟩
  obtain ⟨bb_2, rfl⟩ : ∃ z, z = x_2 := ⟨_, rfl⟩
  obtain ⟨hm_2, hv_2, hP, hS, hl⟩ := hI
  subst hm_2
  refine lv_iload_n hx hb dX0_barOf_8 rfl (lv_at hl 0 rfl) ?_
  refine lv_if_le (tgt := 29) hx hb dX0_barOf_9 (by decide) (fun c_3 => ?_) (fun c_3 => ?_)
  · have c_3 := (nI_leI (a := bb_2) (b := 0) (by omega) (by omega)).mp c_3
    refine lv_iconst (v := 0) hx hb dX0_barOf_29 (by decide) ?_
    refine lv_istore_n (lv' := [(3, .int 0), (2, .int (nI bb_2)), (0, .ref w0), (1, .int (nI rn))]) hx hb dX0_barOf_30 rfl hl (by decide) rfl (fun ls hl => ?_)
    refine W_loop (σ := Nat) (fun (n_ : Nat) (ii_4 : Nat) (H : Heap) (locs : List Loc) (ls : Array Slot) => n_ = 25 - ii_4 ∧ (ii_4 ≤ bb_2 ∧ ∀ i, i < ii_4 → ∀ gg, gg < 2 ^ sqN see n i → gg % 2 = 1 → ¬ (fX_taking n g fp fl rn i ≤ on (slN rn i gg))) ∧ va_P D classes [(h0, .inr (5, (fX5 h1 h2 h3 h4))), (aI k h1 10 (vv n see tm g)), (aI k h2 24 ff), (aI k h3 24 fp), (aI k h4 4 fl), (w0, .inr (0, (fX0 h0 w1 w2 w3 w4))), (aI k w1 768 on)] H ∧ va_S (fun q : Nat => s.heap.size ≤ q) s.heap H locs ∧ lv_has ls 4 [(3, .int (nI ii_4)), (2, .int (nI bb_2)), (0, .ref w0), (1, .int (nI rn))]) (fun n_4 x_4 H locs ls hI ih_4 => ?_) _ 0 ⟨rfl, ⟨by omega, fun i h => absurd h (Nat.not_lt_zero i)⟩, hP, hS, (lv_sub hl [0, 1, 2, 3] rfl)⟩
    obtain ⟨ii_4, rfl⟩ : ∃ z, z = x_4 := ⟨_, rfl⟩
    obtain ⟨hm_4, hv_4, hP, hS, hl⟩ := hI
    subst hm_4
    refine lv_iload_n hx hb dX0_barOf_31 rfl (lv_at hl 0 rfl) ?_
    refine lv_iload_n hx hb dX0_barOf_32 rfl (lv_at hl 1 rfl) ?_
    refine lv_icmp_ge (tgt := 53) hx hb dX0_barOf_33 (by decide) (fun c_5 => ?_) (fun c_5 => ?_)
    · have c_5 := (nI_leI (a := bb_2) (b := ii_4) (by omega) (by omega)).mp c_5
      refine lv_iload_n hx hb dX0_barOf_53 rfl (lv_at hl 1 rfl) ?_
      exact W.iret (v := (nI bb_2)) hx hb hr (fun t ht hW => ⟨⟨(nI bb_2), (), rfl, ba_yes (S := (fun i => 2 ^ sqN see n i)) (T := (fun i gg => fX_taking n g fp fl rn i ≤ on (slN rn i gg))) (fun i hi => sq2 hi) (by omega) (bx_yes (S := (fun i => 2 ^ sqN see n i)) (T := (fun i gg => fX_taking n g fp fl rn i ≤ on (slN rn i gg))) hv_2.2 (fun i hi => hv_4.2 i (by omega))), trivial⟩, hS.F ht⟩) hS.2.2 dX0_barOf_54
    · have c_5 : ¬ (bb_2 ≤ ii_4) := fun h => c_5 ((nI_leI (a := bb_2) (b := ii_4) (by omega) (by omega)).mpr h)
      refine lv_aload_n hx hb dX0_barOf_36 rfl (lv_at hl 2 rfl) ?_
      refine lv_iload_n hx hb dX0_barOf_37 rfl (lv_at hl 3 rfl) ?_
      refine lv_iload_n hx hb dX0_barOf_38 rfl (lv_at hl 0 rfl) ?_
      refine ro_i (D := D) (va_runV (As := [.int (nI rn), .int (nI ii_4)]) (rest := []) ⟨hx, hb, hml, hown, hts⟩ ((y_isTakenByAny l D k st lo h0 h1 h2 h3 h4 n see tm g ff fp fl w0 w1 w2 w3 w4 on rn ii_4 (by first | assumption | omega) (by first | assumption | omega) (by first | assumption | omega) (by first | assumption | omega)) H.size) (cwV 2 hts (gV tw_663 tw_665 tw_13 tw_85 tw_666) rfl rfl rfl (by decide +kernel) ⟨Nat.le_of_ble_eq_true rfl, Nat.le_of_ble_eq_true rfl⟩) (pV hS hAlo hlo hP hK hDL hZ [0, 1, 2, 3, 4, 5, 6] (by decide) rfl (ci := 0) (q := (RX0, TX0, 5)) (q0 := 5) rfl rfl) rfl rfl hl.1 rfl (lv_room (Nat.le_of_ble_eq_true rfl)) dX0_barOf_39 ⟨Nat.le_of_ble_eq_true rfl, Nat.le_of_ble_eq_true rfl⟩) hS hA hP (fun r_6 H locs hw_6 hP hS => ?_)
      try dsimp only at hw_6
      rcases hw_6 with ⟨rfl, hw_6⟩ | ⟨rfl, hw_6⟩
      · refine lv_if_eq (tgt := 47) hx hb dX0_barOf_42 (by decide) (fun h => absurd h (by decide)) (fun _ => ?_)
        refine lv_iconst (v := (-1)) hx hb dX0_barOf_45 (by decide) ?_
        exact W.iret (v := (-1)) hx hb hr (fun t ht hW => ⟨⟨(-1), (), rfl, ba_no (bx_no (S := (fun i => 2 ^ sqN see n i)) (T := (fun i gg => fX_taking n g fp fl rn i ≤ on (slN rn i gg))) (b := bb_2) (by omega) (.inl (by omega)) (i := ii_4) (by omega) hw_6), trivial⟩, hS.F ht⟩) hS.2.2 dX0_barOf_46
      · refine lv_if_eq (tgt := 47) hx hb dX0_barOf_42 (by decide) (fun _ => ?_) (fun h => absurd (by decide) h)
        refine lv_iinc (v := (nI (ii_4 + 1))) (lv' := [(3, .int (nI (ii_4 + 1))), (2, .int (nI bb_2)), (0, .ref w0), (1, .int (nI rn))]) hx hb dX0_barOf_47 hl (k := 0) rfl (nI_add ii_4 1) (by decide) rfl (fun ls hl => ?_)
        refine lv_goto (tgt := 31) hx hb dX0_barOf_50 (by decide) ?_
        exact ih_4 _ (ii_4 + 1) _ _ _ (by omega) ⟨rfl, ⟨by omega, fun i h gg h3 h4 => by rcases (show i = ii_4 ∨ i < ii_4 by omega) with e | h9; subst e; exact hw_6 gg h3 h4; exact hv_4.2 i h9 gg h3 h4⟩, hP, hS, (lv_sub hl [0, 1, 2, 3] rfl)⟩
  · have c_3 : ¬ (bb_2 ≤ 0) := fun h => c_3 ((nI_leI (a := bb_2) (b := 0) (by omega) (by omega)).mpr h)
    refine lv_aload_n hx hb dX0_barOf_12 rfl (lv_at hl 1 rfl) ?_
    refine lv_iload_n hx hb dX0_barOf_13 rfl (lv_at hl 2 rfl) ?_
    refine lv_iload_n hx hb dX0_barOf_14 rfl (lv_at hl 0 rfl) ?_
    refine lv_iconst (v := 1) hx hb dX0_barOf_15 (by decide) ?_
    refine lv_isub hx hb dX0_barOf_16 ?_
    refine lv_ti (y := (nI (bb_2 - 1))) (pk_sub (a := bb_2) (b := 1) (by omega)) ?_
    refine ro_i (D := D) (va_runV (As := [.int (nI rn), .int (nI (bb_2 - 1))]) (rest := []) ⟨hx, hb, hml, hown, hts⟩ ((y_isTakenByAll l D k st lo h0 h1 h2 h3 h4 n see tm g ff fp fl w0 w1 w2 w3 w4 on rn (bb_2 - 1) (by first | assumption | omega) (by first | assumption | omega) (by first | assumption | omega) (by first | assumption | omega)) H.size) (cwV 2 hts (gV tw_658 tw_660 tw_12 tw_85 tw_661) rfl rfl rfl (by decide +kernel) ⟨Nat.le_of_ble_eq_true rfl, Nat.le_of_ble_eq_true rfl⟩) (pV hS hAlo hlo hP hK hDL hZ [0, 1, 2, 3, 4, 5, 6] (by decide) rfl (ci := 0) (q := (RX0, TX0, 5)) (q0 := 5) rfl rfl) rfl rfl hl.1 rfl (lv_room (Nat.le_of_ble_eq_true rfl)) dX0_barOf_17 ⟨Nat.le_of_ble_eq_true rfl, Nat.le_of_ble_eq_true rfl⟩) hS hA hP (fun r_7 H locs hw_7 hP hS => ?_)
    try dsimp only at hw_7
    rcases hw_7 with ⟨rfl, hw_7⟩ | ⟨rfl, hw_7⟩
    · refine lv_if_eq (tgt := 29) hx hb dX0_barOf_20 (by decide) (fun h => absurd h (by decide)) (fun _ => ?_)
      refine lv_iinc (v := (nI (bb_2 - 1))) (lv' := [(2, .int (nI (bb_2 - 1))), (0, .ref w0), (1, .int (nI rn))]) hx hb dX0_barOf_23 hl (k := 0) rfl (by rw [dn1]; exact pk_sub (a := bb_2) (b := 1) (by omega)) (by decide) rfl (fun ls hl => ?_)
      refine lv_goto (tgt := 8) hx hb dX0_barOf_26 (by decide) ?_
      exact ih_2 _ (bb_2 - 1) _ _ _ (by omega) ⟨rfl, ⟨by omega, fun i h1 h2 gg h3 h4 => by rcases (show i = bb_2 - 1 ∨ bb_2 ≤ i by omega) with e | h; subst e; exact hw_7 gg h3 h4; exact hv_2.2 i h h2 gg h3 h4⟩, hP, hS, (lv_sub hl [0, 1, 2] rfl)⟩
    · refine lv_if_eq (tgt := 29) hx hb dX0_barOf_20 (by decide) (fun _ => ?_) (fun h => absurd (by decide) h)
      refine lv_iconst (v := 0) hx hb dX0_barOf_29 (by decide) ?_
      refine lv_istore_n (lv' := [(3, .int 0), (2, .int (nI bb_2)), (0, .ref w0), (1, .int (nI rn))]) hx hb dX0_barOf_30 rfl hl (by decide) rfl (fun ls hl => ?_)
      refine W_loop (σ := Nat) (fun (n_ : Nat) (ii_8 : Nat) (H : Heap) (locs : List Loc) (ls : Array Slot) => n_ = 25 - ii_8 ∧ (ii_8 ≤ bb_2 ∧ ∀ i, i < ii_8 → ∀ gg, gg < 2 ^ sqN see n i → gg % 2 = 1 → ¬ (fX_taking n g fp fl rn i ≤ on (slN rn i gg))) ∧ va_P D classes [(h0, .inr (5, (fX5 h1 h2 h3 h4))), (aI k h1 10 (vv n see tm g)), (aI k h2 24 ff), (aI k h3 24 fp), (aI k h4 4 fl), (w0, .inr (0, (fX0 h0 w1 w2 w3 w4))), (aI k w1 768 on)] H ∧ va_S (fun q : Nat => s.heap.size ≤ q) s.heap H locs ∧ lv_has ls 4 [(3, .int (nI ii_8)), (2, .int (nI bb_2)), (0, .ref w0), (1, .int (nI rn))]) (fun n_8 x_8 H locs ls hI ih_8 => ?_) _ 0 ⟨rfl, ⟨by omega, fun i h => absurd h (Nat.not_lt_zero i)⟩, hP, hS, (lv_sub hl [0, 1, 2, 3] rfl)⟩
      obtain ⟨ii_8, rfl⟩ : ∃ z, z = x_8 := ⟨_, rfl⟩
      obtain ⟨hm_8, hv_8, hP, hS, hl⟩ := hI
      subst hm_8
      refine lv_iload_n hx hb dX0_barOf_31 rfl (lv_at hl 0 rfl) ?_
      refine lv_iload_n hx hb dX0_barOf_32 rfl (lv_at hl 1 rfl) ?_
      refine lv_icmp_ge (tgt := 53) hx hb dX0_barOf_33 (by decide) (fun c_9 => ?_) (fun c_9 => ?_)
      · have c_9 := (nI_leI (a := bb_2) (b := ii_8) (by omega) (by omega)).mp c_9
        refine lv_iload_n hx hb dX0_barOf_53 rfl (lv_at hl 1 rfl) ?_
        exact W.iret (v := (nI bb_2)) hx hb hr (fun t ht hW => ⟨⟨(nI bb_2), (), rfl, ba_yes (S := (fun i => 2 ^ sqN see n i)) (T := (fun i gg => fX_taking n g fp fl rn i ≤ on (slN rn i gg))) (fun i hi => sq2 hi) (by omega) (bx_yes (S := (fun i => 2 ^ sqN see n i)) (T := (fun i gg => fX_taking n g fp fl rn i ≤ on (slN rn i gg))) hv_2.2 (fun i hi => hv_8.2 i (by omega))), trivial⟩, hS.F ht⟩) hS.2.2 dX0_barOf_54
      · have c_9 : ¬ (bb_2 ≤ ii_8) := fun h => c_9 ((nI_leI (a := bb_2) (b := ii_8) (by omega) (by omega)).mpr h)
        refine lv_aload_n hx hb dX0_barOf_36 rfl (lv_at hl 2 rfl) ?_
        refine lv_iload_n hx hb dX0_barOf_37 rfl (lv_at hl 3 rfl) ?_
        refine lv_iload_n hx hb dX0_barOf_38 rfl (lv_at hl 0 rfl) ?_
        refine ro_i (D := D) (va_runV (As := [.int (nI rn), .int (nI ii_8)]) (rest := []) ⟨hx, hb, hml, hown, hts⟩ ((y_isTakenByAny l D k st lo h0 h1 h2 h3 h4 n see tm g ff fp fl w0 w1 w2 w3 w4 on rn ii_8 (by first | assumption | omega) (by first | assumption | omega) (by first | assumption | omega) (by first | assumption | omega)) H.size) (cwV 2 hts (gV tw_663 tw_665 tw_13 tw_85 tw_666) rfl rfl rfl (by decide +kernel) ⟨Nat.le_of_ble_eq_true rfl, Nat.le_of_ble_eq_true rfl⟩) (pV hS hAlo hlo hP hK hDL hZ [0, 1, 2, 3, 4, 5, 6] (by decide) rfl (ci := 0) (q := (RX0, TX0, 5)) (q0 := 5) rfl rfl) rfl rfl hl.1 rfl (lv_room (Nat.le_of_ble_eq_true rfl)) dX0_barOf_39 ⟨Nat.le_of_ble_eq_true rfl, Nat.le_of_ble_eq_true rfl⟩) hS hA hP (fun r_10 H locs hw_10 hP hS => ?_)
        try dsimp only at hw_10
        rcases hw_10 with ⟨rfl, hw_10⟩ | ⟨rfl, hw_10⟩
        · refine lv_if_eq (tgt := 47) hx hb dX0_barOf_42 (by decide) (fun h => absurd h (by decide)) (fun _ => ?_)
          refine lv_iconst (v := (-1)) hx hb dX0_barOf_45 (by decide) ?_
          exact W.iret (v := (-1)) hx hb hr (fun t ht hW => ⟨⟨(-1), (), rfl, ba_no (bx_no (S := (fun i => 2 ^ sqN see n i)) (T := (fun i gg => fX_taking n g fp fl rn i ≤ on (slN rn i gg))) (b := bb_2) (by omega) (.inr hw_7) (i := ii_8) (by omega) hw_10), trivial⟩, hS.F ht⟩) hS.2.2 dX0_barOf_46
        · refine lv_if_eq (tgt := 47) hx hb dX0_barOf_42 (by decide) (fun _ => ?_) (fun h => absurd (by decide) h)
          refine lv_iinc (v := (nI (ii_8 + 1))) (lv' := [(3, .int (nI (ii_8 + 1))), (2, .int (nI bb_2)), (0, .ref w0), (1, .int (nI rn))]) hx hb dX0_barOf_47 hl (k := 0) rfl (nI_add ii_8 1) (by decide) rfl (fun ls hl => ?_)
          refine lv_goto (tgt := 31) hx hb dX0_barOf_50 (by decide) ?_
          exact ih_8 _ (ii_8 + 1) _ _ _ (by omega) ⟨rfl, ⟨by omega, fun i h gg h3 h4 => by rcases (show i = ii_8 ∨ i < ii_8 by omega) with e | h9; subst e; exact hw_10 gg h3 h4; exact hv_8.2 i h9 gg h3 h4⟩, hP, hS, (lv_sub hl [0, 1, 2, 3] rfl)⟩


set_option maxHeartbeats 4000000 in
set_option maxRecDepth 100000 in
theorem y_bar (l : Launch) (D : va_G) (k : Nat → ClassId) (st : Nat → Nat) (lo : Nat) (a : Nat → Nat) (rk : Nat) (lfa : Int32) (n0 : Nat) (see0 : Nat) (tm0 : Nat) (g0 : Nat → Int32) (ff0 : Nat → Int32) (fp0 : Nat → Int32) (fl0 : Nat → Int32) (n1 : Nat) (see1 : Nat) (tm1 : Nat) (g1 : Nat → Int32) (ff1 : Nat → Int32) (fp1 : Nat → Int32) (fl1 : Nat → Int32) (n2 : Nat) (see2 : Nat) (tm2 : Nat) (g2 : Nat → Int32) (ff2 : Nat → Int32) (fp2 : Nat → Int32) (fl2 : Nat → Int32) (on0 : Nat → Int32) (sr0 : Nat → Int32) (en0 : Nat → Int32) (on1 : Nat → Int32) (sr1 : Nat → Int32) (en1 : Nat → Int32) (on2 : Nat → Int32) (sr2 : Nat → Int32) (en2 : Nat → Int32) (p0 : Int32) (p1 : Int32) (hn0 : n0 ≤ 24) (hse0 : see0 ≤ 2) (htm0 : tm0 ≤ 3) (hn1 : n1 ≤ 24) (hse1 : see1 ≤ 2) (htm1 : tm1 ≤ 3) (hn2 : n2 ≤ 24) (hse2 : see2 ≤ 2) (htm2 : tm2 ≤ 3) (hlt : ltP (d3 fl0 fl1 fl2) (d3 (sdX n0 see0 tm0 g0 ff0 fp0) (sdX n1 see1 tm1 g1 ff1 fp1) (sdX n2 see2 tm2 g2 ff2 fp2))) (hwy : wy3 (d3 (sdX n0 see0 tm0 g0 ff0 fp0) (sdX n1 see1 tm1 g1 ff1 fp1) (sdX n2 see2 tm2 g2 ff2 fp2)) (d3 on0 on1 on2) (d3 sr0 sr1 sr2) (d3 en0 en1 en2)) : CRi l D k st lo yX7_bar cX7_bar 3 (some .int) ({ frames := 5, cells := 0, slots := 0, locals := 127 }) [.ref (a 0), .int p0, .int p1] [((a 0), .inr (7, (fX7 (a 1) (a 3) (a 19) (a 35) (a 40) (nI rk) lfa (a 53) (a 56) (a 63) (a 64) (a 68)))), ((a 3), .inl (k 3, 3, .inr (.inr (.inr (.inr (a3 (a 4) (a 9) (a 14))))))), ((a 19), .inl (k 4, 3, .inr (.inr (.inr (.inr (a3 (a 20) (a 25) (a 30))))))), ((a 4), .inr (5, (fX5 (a 5) (a 6) (a 7) (a 8)))), (aI k (a 5) 10 (vv n0 see0 tm0 g0)), (aI k (a 6) 24 ff0), (aI k (a 7) 24 fp0), (aI k (a 8) 4 fl0), ((a 9), .inr (5, (fX5 (a 10) (a 11) (a 12) (a 13)))), (aI k (a 10) 10 (vv n1 see1 tm1 g1)), (aI k (a 11) 24 ff1), (aI k (a 12) 24 fp1), (aI k (a 13) 4 fl1), ((a 14), .inr (5, (fX5 (a 15) (a 16) (a 17) (a 18)))), (aI k (a 15) 10 (vv n2 see2 tm2 g2)), (aI k (a 16) 24 ff2), (aI k (a 17) 24 fp2), (aI k (a 18) 4 fl2), ((a 20), .inr (0, (fX0 (a 4) (a 21) (a 22) (a 23) (a 24)))), (aI k (a 21) 768 on0), (aI k (a 22) 4 sr0), (aI k (a 23) 4 en0), ((a 25), .inr (0, (fX0 (a 9) (a 26) (a 27) (a 28) (a 29)))), (aI k (a 26) 768 on1), (aI k (a 27) 4 sr1), (aI k (a 28) 4 en1), ((a 30), .inr (0, (fX0 (a 14) (a 31) (a 32) (a 33) (a 34)))), (aI k (a 31) 768 on2), (aI k (a 32) 4 sr2), (aI k (a 33) 4 en2)] (fun r => tqP (d3 (sdX n0 see0 tm0 g0 ff0 fp0) (sdX n1 see1 tm1 g1 ff1 fp1) (sdX n2 see2 tm2 g2 ff2 fp2)) p0 (baA p1) r) := by
  intro sz
  refine Met.ofW (cc := cX7_bar) (maxL := 3) (ret := (some .int)) (by decide) rfl ?_
  intro p e s m args below meth c s₁ B hml hv
  obtain ⟨rfl, hsz, hlo, hP, hK, hDL, hZ⟩ := hv
  have hx := B.exec
  have hb := B.bytes
  have hr := B.returns
  have hts := WS_ts B.pre
  have hown : s.vm.findClass RX7 = some m.cls := findClass_of_methodNamed B.named
  have hlocks := B.notSynchronized
  subst hsz
  have hA : ∀ q : Nat, s.heap.size ≤ q → (fun q : Nat => s.heap.size ≤ q) q := fun _ h => h
  have hAlo : ∀ q : Nat, (fun q : Nat => s.heap.size ≤ q) q → lo ≤ q := fun q h => Nat.le_trans hlo h
  have hS : va_S (fun q : Nat => s.heap.size ≤ q) s.heap s.heap [] := va_S.rf
  have hl := lv_entry ([.ref (a 0), .int p0, .int p1]) (n := 3) (Nat.le_of_ble_eq_true rfl)
  rw [lg_entry_eq]
  generalize (lg_sl ([.ref (a 0), .int p0, .int p1]) ++ List.replicate (3 - (lg_sl ([.ref (a 0), .int p0, .int p1])).length) Slot.unset).toArray = ls at hl ⊢
  have hl : lv_has ls 3 [(0, .ref (a 0)), (1, .int p0), (2, .int p1)] := hl
  refine lv_aload_n hx hb dX7_bar_0 rfl (lv_at hl 0 rfl) ?_
  refine lv_iload_n hx hb dX7_bar_1 rfl (lv_at hl 1 rfl) ?_
  refine ro_i (D := D) (va_runV (As := [.int p0]) (rest := []) ⟨hx, hb, hml, hown, hts⟩ ((y_isStreet l D k st lo a rk lfa n0 see0 tm0 g0 n1 see1 tm1 g1 n2 see2 tm2 g2 p0 (by first | assumption | omega) (by first | assumption | omega) (by first | assumption | omega)) s.heap.size) (cwV 1 hts (gV tw_589 tw_591 tw_8 tw_79 tw_592) rfl rfl rfl (by decide +kernel) ⟨Nat.le_of_ble_eq_true rfl, Nat.le_of_ble_eq_true rfl⟩) (pV hS hAlo hlo hP hK hDL hZ [0, 1, 3, 4, 8, 9, 13, 14] (by decide) rfl (ci := 7) (q := (RX7, TX7, 12)) (q0 := 0) rfl rfl) rfl rfl hl.1 rfl (lv_room (Nat.le_of_ble_eq_true rfl)) dX7_bar_2 ⟨Nat.le_of_ble_eq_true rfl, Nat.le_of_ble_eq_true rfl⟩) hS hA hP (fun r_1 H locs hw_1 hP hS => ?_)
  try dsimp only at hw_1
  rcases hw_1 with ⟨rfl, ⟨rfl, hw_1⟩ | ⟨rfl, hw_1⟩ | ⟨rfl, hw_1⟩⟩ | ⟨rfl, hw_1⟩
  · refine lv_if_ne (tgt := 12) hx hb dX7_bar_5 (by decide) (fun _ => ?_) (fun h => absurd h (by decide))
    refine lv_aload_n hx hb dX7_bar_12 rfl (lv_at hl 0 rfl) ?_
    refine lv_iload_n hx hb dX7_bar_13 rfl (lv_at hl 1 rfl) ?_
    refine lv_iload_n hx hb dX7_bar_14 rfl (lv_at hl 2 rfl) ?_
    refine ro_i (D := D) (va_runV (As := [.int 0, .int p1]) (rest := []) ⟨hx, hb, hml, hown, hts⟩ ((y_isRound_0 l D k st lo a rk lfa n0 see0 tm0 g0 p1 (by first | assumption | omega)) H.size) (cwV 2 hts (gV tw_613 tw_615 tw_10 tw_79 tw_616) rfl rfl rfl (by decide +kernel) ⟨Nat.le_of_ble_eq_true rfl, Nat.le_of_ble_eq_true rfl⟩) (pV hS hAlo hlo hP hK hDL hZ [0, 1, 3, 4] (by decide) rfl (ci := 7) (q := (RX7, TX7, 12)) (q0 := 0) rfl rfl) rfl rfl hl.1 rfl (lv_room (Nat.le_of_ble_eq_true rfl)) dX7_bar_15 ⟨Nat.le_of_ble_eq_true rfl, Nat.le_of_ble_eq_true rfl⟩) hS hA hP (fun r_2 H locs hw_2 hP hS => ?_)
    try dsimp only at hw_2
    rcases hw_2 with ⟨rfl, ir_3, hir_3, rfl⟩ | ⟨rfl, hw_2⟩
    · refine lv_if_eq (tgt := 34) hx hb dX7_bar_18 (by decide) (fun h => absurd h (by decide)) (fun _ => ?_)
      refine lv_aload_n hx hb dX7_bar_21 rfl (lv_at hl 0 rfl) ?_
      refine va_get (D := D) (ci := 7) (v := .ref (a 19)) (C := RX7) (T := TX7) (N := 12) hx hb hts inX7 hown hK hP 0 rfl rfl 2 (by decide) (hts _ tw_307) (fun _ h9 => h9) rfl dX7_bar_22 ?_
      refine lv_iload_n hx hb dX7_bar_25 rfl (lv_at hl 1 rfl) ?_
      refine va_aldq hx hb hK hP 2 4 rfl rfl (by unfold vp_in; decide) dX7_bar_26 ?_
      refine lv_tr (y := .ref (a 20)) rfl ?_
      refine lv_iload_n hx hb dX7_bar_27 rfl (lv_at hl 2 rfl) ?_
      refine ro_i (D := D) (va_runV (As := [.int (nI ir_3)]) (rest := []) ⟨hx, hb, hml, hown, hts⟩ ((y_barOf l D k st lo (a 4) (a 5) (a 6) (a 7) (a 8) n0 see0 tm0 g0 ff0 fp0 fl0 (a 20) (a 21) (a 22) (a 23) (a 24) on0 ir_3 (by first | assumption | omega) (by first | assumption | omega) (by first | assumption | omega)) H.size) (cwV 1 hts (gV tw_654 tw_655 tw_656 tw_85 tw_657) rfl rfl rfl (by decide +kernel) ⟨Nat.le_of_ble_eq_true rfl, Nat.le_of_ble_eq_true rfl⟩) (pV hS hAlo hlo hP hK hDL hZ [3, 4, 5, 6, 7, 18, 19] (by decide) rfl (ci := 0) (q := (RX0, TX0, 5)) (q0 := 5) rfl rfl) rfl rfl hl.1 rfl (lv_room (Nat.le_of_ble_eq_true rfl)) dX7_bar_28 ⟨Nat.le_of_ble_eq_true rfl, Nat.le_of_ble_eq_true rfl⟩) hS hA hP (fun r_4 H locs hw_4 hP hS => ?_)
      try dsimp only at hw_4
      refine lv_goto (tgt := 37) hx hb dX7_bar_31 (by decide) ?_
      exact W.iret (v := r_4) hx hb hr (fun t ht hW => ⟨⟨r_4, (), rfl, tq_at (s := 0) (by omega) (show 0 < n0 by omega) (show baA (nI ir_3) (sdX n0 see0 tm0 g0 ff0 fp0) _ from bq_i (by omega) (by rw [rdX]; exact inr (by omega) (by omega)) (by rw [seX (by omega)]; exact baP_congr (fun i hi g hg => by rw [← xTake (show i < n0 from hi) (hlt 0 (by omega) ir_3 (by omega)), ← wo_of (d := (sdX n0 see0 tm0 g0 ff0 fp0)) (hwy 0 (by omega) (show 0 < n0 by omega)) (by rw [tmX (by omega)]; omega) (show i < n0 from hi) (by rw [seX (by omega)]; exact hg)]; exact Iff.rfl) hw_4)), trivial⟩, hS.F ht⟩) hS.2.2 dX7_bar_37
    · refine lv_if_eq (tgt := 34) hx hb dX7_bar_18 (by decide) (fun _ => ?_) (fun h => absurd (by decide) h)
      refine lv_sipush (v := (-1002)) hx hb dX7_bar_34 (by decide) ?_
      exact W.iret (v := (-1002)) hx hb hr (fun t ht hW => ⟨⟨(-1002), (), rfl, tq_at (s := 0) (by omega) (show 0 < n0 by omega) (show baA p1 (sdX n0 see0 tm0 g0 ff0 fp0) _ from bq_o (by rw [rdX]; exact hw_2)), trivial⟩, hS.F ht⟩) hS.2.2 dX7_bar_37
  · refine lv_if_ne (tgt := 12) hx hb dX7_bar_5 (by decide) (fun _ => ?_) (fun h => absurd h (by decide))
    refine lv_aload_n hx hb dX7_bar_12 rfl (lv_at hl 0 rfl) ?_
    refine lv_iload_n hx hb dX7_bar_13 rfl (lv_at hl 1 rfl) ?_
    refine lv_iload_n hx hb dX7_bar_14 rfl (lv_at hl 2 rfl) ?_
    refine ro_i (D := D) (va_runV (As := [.int 1, .int p1]) (rest := []) ⟨hx, hb, hml, hown, hts⟩ ((y_isRound_1 l D k st lo a rk lfa n1 see1 tm1 g1 p1 (by first | assumption | omega)) H.size) (cwV 2 hts (gV tw_613 tw_615 tw_10 tw_79 tw_616) rfl rfl rfl (by decide +kernel) ⟨Nat.le_of_ble_eq_true rfl, Nat.le_of_ble_eq_true rfl⟩) (pV hS hAlo hlo hP hK hDL hZ [0, 1, 8, 9] (by decide) rfl (ci := 7) (q := (RX7, TX7, 12)) (q0 := 0) rfl rfl) rfl rfl hl.1 rfl (lv_room (Nat.le_of_ble_eq_true rfl)) dX7_bar_15 ⟨Nat.le_of_ble_eq_true rfl, Nat.le_of_ble_eq_true rfl⟩) hS hA hP (fun r_5 H locs hw_5 hP hS => ?_)
    try dsimp only at hw_5
    rcases hw_5 with ⟨rfl, ir_6, hir_6, rfl⟩ | ⟨rfl, hw_5⟩
    · refine lv_if_eq (tgt := 34) hx hb dX7_bar_18 (by decide) (fun h => absurd h (by decide)) (fun _ => ?_)
      refine lv_aload_n hx hb dX7_bar_21 rfl (lv_at hl 0 rfl) ?_
      refine va_get (D := D) (ci := 7) (v := .ref (a 19)) (C := RX7) (T := TX7) (N := 12) hx hb hts inX7 hown hK hP 0 rfl rfl 2 (by decide) (hts _ tw_307) (fun _ h9 => h9) rfl dX7_bar_22 ?_
      refine lv_iload_n hx hb dX7_bar_25 rfl (lv_at hl 1 rfl) ?_
      refine va_aldq hx hb hK hP 2 4 rfl rfl (by unfold vp_in; decide) dX7_bar_26 ?_
      refine lv_tr (y := .ref (a 25)) rfl ?_
      refine lv_iload_n hx hb dX7_bar_27 rfl (lv_at hl 2 rfl) ?_
      refine ro_i (D := D) (va_runV (As := [.int (nI ir_6)]) (rest := []) ⟨hx, hb, hml, hown, hts⟩ ((y_barOf l D k st lo (a 9) (a 10) (a 11) (a 12) (a 13) n1 see1 tm1 g1 ff1 fp1 fl1 (a 25) (a 26) (a 27) (a 28) (a 29) on1 ir_6 (by first | assumption | omega) (by first | assumption | omega) (by first | assumption | omega)) H.size) (cwV 1 hts (gV tw_654 tw_655 tw_656 tw_85 tw_657) rfl rfl rfl (by decide +kernel) ⟨Nat.le_of_ble_eq_true rfl, Nat.le_of_ble_eq_true rfl⟩) (pV hS hAlo hlo hP hK hDL hZ [8, 9, 10, 11, 12, 22, 23] (by decide) rfl (ci := 0) (q := (RX0, TX0, 5)) (q0 := 5) rfl rfl) rfl rfl hl.1 rfl (lv_room (Nat.le_of_ble_eq_true rfl)) dX7_bar_28 ⟨Nat.le_of_ble_eq_true rfl, Nat.le_of_ble_eq_true rfl⟩) hS hA hP (fun r_7 H locs hw_7 hP hS => ?_)
      try dsimp only at hw_7
      refine lv_goto (tgt := 37) hx hb dX7_bar_31 (by decide) ?_
      exact W.iret (v := r_7) hx hb hr (fun t ht hW => ⟨⟨r_7, (), rfl, tq_at (s := 1) (by omega) (show 0 < n1 by omega) (show baA (nI ir_6) (sdX n1 see1 tm1 g1 ff1 fp1) _ from bq_i (by omega) (by rw [rdX]; exact inr (by omega) (by omega)) (by rw [seX (by omega)]; exact baP_congr (fun i hi g hg => by rw [← xTake (show i < n1 from hi) (hlt 1 (by omega) ir_6 (by omega)), ← wo_of (d := (sdX n1 see1 tm1 g1 ff1 fp1)) (hwy 1 (by omega) (show 0 < n1 by omega)) (by rw [tmX (by omega)]; omega) (show i < n1 from hi) (by rw [seX (by omega)]; exact hg)]; exact Iff.rfl) hw_7)), trivial⟩, hS.F ht⟩) hS.2.2 dX7_bar_37
    · refine lv_if_eq (tgt := 34) hx hb dX7_bar_18 (by decide) (fun _ => ?_) (fun h => absurd (by decide) h)
      refine lv_sipush (v := (-1002)) hx hb dX7_bar_34 (by decide) ?_
      exact W.iret (v := (-1002)) hx hb hr (fun t ht hW => ⟨⟨(-1002), (), rfl, tq_at (s := 1) (by omega) (show 0 < n1 by omega) (show baA p1 (sdX n1 see1 tm1 g1 ff1 fp1) _ from bq_o (by rw [rdX]; exact hw_5)), trivial⟩, hS.F ht⟩) hS.2.2 dX7_bar_37
  · refine lv_if_ne (tgt := 12) hx hb dX7_bar_5 (by decide) (fun _ => ?_) (fun h => absurd h (by decide))
    refine lv_aload_n hx hb dX7_bar_12 rfl (lv_at hl 0 rfl) ?_
    refine lv_iload_n hx hb dX7_bar_13 rfl (lv_at hl 1 rfl) ?_
    refine lv_iload_n hx hb dX7_bar_14 rfl (lv_at hl 2 rfl) ?_
    refine ro_i (D := D) (va_runV (As := [.int 2, .int p1]) (rest := []) ⟨hx, hb, hml, hown, hts⟩ ((y_isRound_2 l D k st lo a rk lfa n2 see2 tm2 g2 p1 (by first | assumption | omega)) H.size) (cwV 2 hts (gV tw_613 tw_615 tw_10 tw_79 tw_616) rfl rfl rfl (by decide +kernel) ⟨Nat.le_of_ble_eq_true rfl, Nat.le_of_ble_eq_true rfl⟩) (pV hS hAlo hlo hP hK hDL hZ [0, 1, 13, 14] (by decide) rfl (ci := 7) (q := (RX7, TX7, 12)) (q0 := 0) rfl rfl) rfl rfl hl.1 rfl (lv_room (Nat.le_of_ble_eq_true rfl)) dX7_bar_15 ⟨Nat.le_of_ble_eq_true rfl, Nat.le_of_ble_eq_true rfl⟩) hS hA hP (fun r_8 H locs hw_8 hP hS => ?_)
    try dsimp only at hw_8
    rcases hw_8 with ⟨rfl, ir_9, hir_9, rfl⟩ | ⟨rfl, hw_8⟩
    · refine lv_if_eq (tgt := 34) hx hb dX7_bar_18 (by decide) (fun h => absurd h (by decide)) (fun _ => ?_)
      refine lv_aload_n hx hb dX7_bar_21 rfl (lv_at hl 0 rfl) ?_
      refine va_get (D := D) (ci := 7) (v := .ref (a 19)) (C := RX7) (T := TX7) (N := 12) hx hb hts inX7 hown hK hP 0 rfl rfl 2 (by decide) (hts _ tw_307) (fun _ h9 => h9) rfl dX7_bar_22 ?_
      refine lv_iload_n hx hb dX7_bar_25 rfl (lv_at hl 1 rfl) ?_
      refine va_aldq hx hb hK hP 2 4 rfl rfl (by unfold vp_in; decide) dX7_bar_26 ?_
      refine lv_tr (y := .ref (a 30)) rfl ?_
      refine lv_iload_n hx hb dX7_bar_27 rfl (lv_at hl 2 rfl) ?_
      refine ro_i (D := D) (va_runV (As := [.int (nI ir_9)]) (rest := []) ⟨hx, hb, hml, hown, hts⟩ ((y_barOf l D k st lo (a 14) (a 15) (a 16) (a 17) (a 18) n2 see2 tm2 g2 ff2 fp2 fl2 (a 30) (a 31) (a 32) (a 33) (a 34) on2 ir_9 (by first | assumption | omega) (by first | assumption | omega) (by first | assumption | omega)) H.size) (cwV 1 hts (gV tw_654 tw_655 tw_656 tw_85 tw_657) rfl rfl rfl (by decide +kernel) ⟨Nat.le_of_ble_eq_true rfl, Nat.le_of_ble_eq_true rfl⟩) (pV hS hAlo hlo hP hK hDL hZ [13, 14, 15, 16, 17, 26, 27] (by decide) rfl (ci := 0) (q := (RX0, TX0, 5)) (q0 := 5) rfl rfl) rfl rfl hl.1 rfl (lv_room (Nat.le_of_ble_eq_true rfl)) dX7_bar_28 ⟨Nat.le_of_ble_eq_true rfl, Nat.le_of_ble_eq_true rfl⟩) hS hA hP (fun r_10 H locs hw_10 hP hS => ?_)
      try dsimp only at hw_10
      refine lv_goto (tgt := 37) hx hb dX7_bar_31 (by decide) ?_
      exact W.iret (v := r_10) hx hb hr (fun t ht hW => ⟨⟨r_10, (), rfl, tq_at (s := 2) (by omega) (show 0 < n2 by omega) (show baA (nI ir_9) (sdX n2 see2 tm2 g2 ff2 fp2) _ from bq_i (by omega) (by rw [rdX]; exact inr (by omega) (by omega)) (by rw [seX (by omega)]; exact baP_congr (fun i hi g hg => by rw [← xTake (show i < n2 from hi) (hlt 2 (by omega) ir_9 (by omega)), ← wo_of (d := (sdX n2 see2 tm2 g2 ff2 fp2)) (hwy 2 (by omega) (show 0 < n2 by omega)) (by rw [tmX (by omega)]; omega) (show i < n2 from hi) (by rw [seX (by omega)]; exact hg)]; exact Iff.rfl) hw_10)), trivial⟩, hS.F ht⟩) hS.2.2 dX7_bar_37
    · refine lv_if_eq (tgt := 34) hx hb dX7_bar_18 (by decide) (fun _ => ?_) (fun h => absurd (by decide) h)
      refine lv_sipush (v := (-1002)) hx hb dX7_bar_34 (by decide) ?_
      exact W.iret (v := (-1002)) hx hb hr (fun t ht hW => ⟨⟨(-1002), (), rfl, tq_at (s := 2) (by omega) (show 0 < n2 by omega) (show baA p1 (sdX n2 see2 tm2 g2 ff2 fp2) _ from bq_o (by rw [rdX]; exact hw_8)), trivial⟩, hS.F ht⟩) hS.2.2 dX7_bar_37
  · refine lv_if_ne (tgt := 12) hx hb dX7_bar_5 (by decide) (fun h => absurd (by decide) h) (fun _ => ?_)
    refine lv_sipush (v := (-1001)) hx hb dX7_bar_8 (by decide) ?_
    exact W.iret (v := (-1001)) hx hb hr (fun t ht hW => ⟨⟨(-1001), (), rfl, tq_no (fun s h1 h2 h3 => hw_1 s h1 h2 (by rw [d3_n] at h3; exact h3)), trivial⟩, hS.F ht⟩) hS.2.2 dX7_bar_11


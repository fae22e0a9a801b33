
set_option maxHeartbeats 4000000 in
set_option maxRecDepth 100000 in
theorem y_countRests (l : Launch) (D : va_G) (k : Nat → ClassId) (st : Nat → Nat) (lo : Nat) (c0 : Nat) (z0 : Nat) (z1 : Nat) (z2 : Nat) (z3 : Nat) (pn : Nat) (pf : Nat) (pd : Int32) (pe : Int32) (pb : Nat → Nat) (pco : Nat → Int32) (c1 : Nat) (c2 : Nat) (cc : Nat) (rz : Nat) (ro : Int32) (sd : Int32) (hpn : pn ≤ 24) (hcc : cc ≤ 4) (hpb : ∀ j, pb j ≤ 24) (hpf : pf < 16777216) (hc2 : cc ≤ 2) : CWi l D k st lo yX1_countRests cX1_countRests 6 (some .int) ({ frames := 4, cells := 0, slots := 0, locals := 95 }) 0 0 [.ref z0] [(z0, .inr (1, (fX1 c0 z1 z2 z3 (nI pn) (nI pf) pd pe))), (aI k z1 4 (nF pb)), (aI k z2 100 pco), (c0, .inr (4, (fX4 c1 c2 (nI cc) (nI rz) ro sd)))] (fun (r : Int32) (pb_ : (Nat → Nat)) => r = nI (crO (rsA pn cc pf (kx pco pd pe pn)) (crM 1 cc pn + 1) (crM 0 cc pn + 1)) ∧ (∀ j, pb_ j ≤ 24)) (fun (pb_ : (Nat → Nat)) => [(z0, .inr (1, (fX1 c0 z1 z2 z3 (nI pn) (nI pf) pd pe))), (aI k z1 4 (nF pb_)), (aI k z2 100 pco), (c0, .inr (4, (fX4 c1 c2 (nI cc) (nI rz) ro sd)))]) := by
  intro sz
  refine Met.ofW (cc := cX1_countRests) (maxL := 6) (ret := (some .int)) (by decide) rfl ?_
  intro p e s m args below meth c s₁ B hml hv
  obtain ⟨rfl, hsz, hlo, hP, hK, hDL, hZ⟩ := hv
  have hx := B.exec
  have hb := B.bytes
  have hr := B.returns
  have hts := WS_ts B.pre
  have hown : s.vm.findClass RX1 = some m.cls := findClass_of_methodNamed B.named
  have hlocks := B.notSynchronized
  subst hsz
  have hD := hDL.self (sz := s.heap.size)
  have hAlo := A_lo hDL hlo
  generalize hAe : va_A [(z0, .inr (1, (fX1 c0 z1 z2 z3 (nI pn) (nI pf) pd pe))), (aI k z1 4 (nF pb)), (aI k z2 100 pco), (c0, .inr (4, (fX4 c1 c2 (nI cc) (nI rz) ro sd)))] s.heap.size = A at hD hAlo ⊢
  have hA : ∀ q : Nat, s.heap.size ≤ q → A q := fun q h => by rw [← hAe]; exact Or.inr h
  have hS : va_S A s.heap s.heap [] := va_S.rf
  have hl := lv_entry ([.ref z0]) (n := 6) (Nat.le_of_ble_eq_true rfl)
  rw [lg_entry_eq]
  generalize (lg_sl ([.ref z0]) ++ List.replicate (6 - (lg_sl ([.ref z0])).length) Slot.unset).toArray = ls at hl ⊢
  have hl : lv_has ls 6 [(0, .ref z0)] := hl
  refine lv_aload_n hx hb dX1_countRests_0 rfl (lv_at hl 0 rfl) ?_
  refine va_get (D := D) (ci := 1) (v := .ref c0) (C := RX1) (T := TX1) (N := 8) hx hb hts inX1 hown hK hP 0 rfl rfl 0 (by decide) (hts _ tw_235) (fun _ h9 => h9) rfl dX1_countRests_1 ?_
  refine va_get (D := D) (ci := 4) (v := .int (nI cc)) (C := RX4) (T := TX4) (N := 6) hx hb hts inX4 hown hK hP 3 rfl rfl 2 (by decide) (hts _ tw_179) (fun _ h9 => h9) rfl dX1_countRests_4 ?_
  refine lv_if_le (tgt := 17) hx hb dX1_countRests_7 (by decide) (fun c_1 => ?_) (fun c_1 => ?_)
  · have c_1 := (nI_leI (a := cc) (b := 0) (by omega) (by omega)).mp c_1
    refine lv_iconst (v := 0) hx hb dX1_countRests_17 (by decide) ?_
    refine lv_istore_n (lv' := [(1, .int 0), (0, .ref z0)]) hx hb dX1_countRests_18 rfl hl (by decide) rfl (fun ls hl => ?_)
    refine lv_aload_n hx hb dX1_countRests_19 rfl (lv_at hl 1 rfl) ?_
    refine va_get (D := D) (ci := 1) (v := .ref c0) (C := RX1) (T := TX1) (N := 8) hx hb hts inX1 hown hK hP 0 rfl rfl 0 (by decide) (hts _ tw_235) (fun _ h9 => h9) rfl dX1_countRests_20 ?_
    refine va_get (D := D) (ci := 4) (v := .int (nI cc)) (C := RX4) (T := TX4) (N := 6) hx hb hts inX4 hown hK hP 3 rfl rfl 2 (by decide) (hts _ tw_179) (fun _ h9 => h9) rfl dX1_countRests_23 ?_
    refine lv_iconst (v := 1) hx hb dX1_countRests_26 (by decide) ?_
    refine lv_icmp_le (tgt := 37) hx hb dX1_countRests_27 (by decide) (fun _ => ?_) (fun h => absurd ((nI_leI (a := cc) (b := 1) (by omega) (by omega)).mpr (by omega)) h)
    refine lv_iconst (v := 0) hx hb dX1_countRests_37 (by decide) ?_
    refine lv_istore_n (lv' := [(2, .int 0), (1, .int 0), (0, .ref z0)]) hx hb dX1_countRests_38 rfl hl (by decide) rfl (fun ls hl => ?_)
    refine lv_iconst (v := 0) hx hb dX1_countRests_39 (by decide) ?_
    refine lv_istore_n (lv' := [(3, .int 0), (2, .int 0), (1, .int 0), (0, .ref z0)]) hx hb dX1_countRests_40 rfl hl (by decide) rfl (fun ls hl => ?_)
    refine lv_iconst (v := 0) hx hb dX1_countRests_41 (by decide) ?_
    refine lv_istore (lv' := [(4, .int 0), (3, .int 0), (2, .int 0), (1, .int 0), (0, .ref z0)]) hx hb dX1_countRests_42 hl (by decide) rfl (fun ls hl => ?_)
    refine W_loop (σ := Nat × Nat × (Nat → Nat)) (fun (n_ : Nat) (x_ : Nat × Nat × (Nat → Nat)) (H : Heap) (locs : List Loc) (ls : Array Slot) => match x_ with | (aa_3, rs2_3, pb2_3) => n_ = 26 - aa_3 ∧ (aa_3 ≤ 0 + 1 ∧ rs2_3 = crO (rsA pn cc pf (kx pco pd pe pn)) (0 + 1) aa_3 ∧ (∀ j, pb2_3 j ≤ 24)) ∧ va_P D classes [(z0, .inr (1, (fX1 c0 z1 z2 z3 (nI pn) (nI pf) pd pe))), (aI k z1 4 (nF pb2_3)), (aI k z2 100 pco), (c0, .inr (4, (fX4 c1 c2 (nI cc) (nI rz) ro sd)))] H ∧ va_D A [(z0, .inr (1, (fX1 c0 z1 z2 z3 (nI pn) (nI pf) pd pe))), (aI k z1 4 (nF pb2_3)), (aI k z2 100 pco), (c0, .inr (4, (fX4 c1 c2 (nI cc) (nI rz) ro sd)))] ∧ va_S A s.heap H locs ∧ lv_has ls 6 [(4, .int (nI aa_3)), (3, .int (nI rs2_3)), (2, .int 0), (1, .int 0), (0, .ref z0)]) (fun n_3 x_3 H locs ls hI ih_3 => ?_) _ (0, 0, pb) ⟨rfl, ⟨by omega, rfl, hpb⟩, hP, hD, hS, (lv_sub hl [0, 1, 2, 3, 4] rfl)⟩
    obtain ⟨aa_3, rs2_3, pb2_3⟩ := x_3
    obtain ⟨hm_3, hv_3, hP, hD, hS, hl⟩ := hI
    subst hm_3
    have hpl_3 := hv_3.2.2
    refine lv_iload hx hb dX1_countRests_44 (lv_at hl 0 rfl) ?_
    refine lv_iload_n hx hb dX1_countRests_46 rfl (lv_at hl 3 rfl) ?_
    refine lv_icmp_gt (tgt := 102) hx hb dX1_countRests_47 (by decide) (fun c_4 => ?_) (fun c_4 => ?_)
    · have c_4 := (nI_ltI (a := 0) (b := aa_3) (by omega) (by omega)).mp c_4
      refine lv_iload_n hx hb dX1_countRests_102 rfl (lv_at hl 1 rfl) ?_
      have hP9 := hP.sub (ws' := [(z0, .inr (1, (fX1 c0 z1 z2 z3 (nI pn) (nI pf) pd pe))), (aI k z1 4 (nF pb2_3)), (aI k z2 100 pco), (c0, .inr (4, (fX4 c1 c2 (nI cc) (nI rz) ro sd)))]) [0, 1, 2, 3] rfl
      have hD9 := hD.sub (ws' := [(z0, .inr (1, (fX1 c0 z1 z2 z3 (nI pn) (nI pf) pd pe))), (aI k z1 4 (nF pb2_3)), (aI k z2 100 pco), (c0, .inr (4, (fX4 c1 c2 (nI cc) (nI rz) ro sd)))]) [0, 1, 2, 3] (by decide) rfl
      exact W.iret (v := (nI rs2_3)) hx hb hr (fun t ht hW => ⟨⟨(nI rs2_3), pb2_3, rfl, ⟨congrArg nI (by rw [hv_3.2.1, show aa_3 = 0 + 1 by omega, show crM 0 cc pn = 0 from if_neg (by omega), show crM 1 cc pn = 0 from if_neg (by omega)]), hpl_3⟩, by rw [ht]; exact hP9, hD9⟩, hS.F ht⟩) hS.2.2 dX1_countRests_103
    · have c_4 : ¬ (0 < aa_3) := fun h => c_4 ((nI_ltI (a := 0) (b := aa_3) (by omega) (by omega)).mpr h)
      refine lv_iconst (v := 0) hx hb dX1_countRests_50 (by decide) ?_
      refine lv_istore (lv' := [(5, .int 0), (4, .int (nI aa_3)), (3, .int (nI rs2_3)), (2, .int 0), (1, .int 0), (0, .ref z0)]) hx hb dX1_countRests_51 hl (by decide) rfl (fun ls hl => ?_)
      refine W_loop (σ := Nat × Nat × (Nat → Nat)) (fun (n_ : Nat) (x_ : Nat × Nat × (Nat → Nat)) (H : Heap) (locs : List Loc) (ls : Array Slot) => match x_ with | (b3_5, rs3_5, pb3_5) => n_ = 26 - b3_5 ∧ (b3_5 ≤ 0 + 1 ∧ rs3_5 = crO (rsA pn cc pf (kx pco pd pe pn)) (0 + 1) aa_3 + crI ((rsA pn cc pf (kx pco pd pe pn)) aa_3) b3_5 ∧ (∀ j, pb3_5 j ≤ 24)) ∧ va_P D classes [(z0, .inr (1, (fX1 c0 z1 z2 z3 (nI pn) (nI pf) pd pe))), (aI k z1 4 (nF pb3_5)), (aI k z2 100 pco), (c0, .inr (4, (fX4 c1 c2 (nI cc) (nI rz) ro sd)))] H ∧ va_D A [(z0, .inr (1, (fX1 c0 z1 z2 z3 (nI pn) (nI pf) pd pe))), (aI k z1 4 (nF pb3_5)), (aI k z2 100 pco), (c0, .inr (4, (fX4 c1 c2 (nI cc) (nI rz) ro sd)))] ∧ va_S A s.heap H locs ∧ lv_has ls 6 [(5, .int (nI b3_5)), (4, .int (nI aa_3)), (3, .int (nI rs3_5)), (2, .int 0), (1, .int 0), (0, .ref z0)]) (fun n_5 x_5 H locs ls hI ih_5 => ?_) _ (0, rs2_3, pb2_3) ⟨rfl, ⟨by omega, hv_3.2.1, hpl_3⟩, hP, hD, hS, (lv_sub hl [0, 1, 2, 3, 4, 5] rfl)⟩
      obtain ⟨b3_5, rs3_5, pb3_5⟩ := x_5
      obtain ⟨hm_5, hv_5, hP, hD, hS, hl⟩ := hI
      subst hm_5
      have hpl_5 := hv_5.2.2
      refine lv_iload hx hb dX1_countRests_53 (lv_at hl 0 rfl) ?_
      refine lv_iload_n hx hb dX1_countRests_55 rfl (lv_at hl 3 rfl) ?_
      refine lv_icmp_gt (tgt := 96) hx hb dX1_countRests_56 (by decide) (fun c_6 => ?_) (fun c_6 => ?_)
      · have c_6 := (nI_ltI (a := 0) (b := b3_5) (by omega) (by omega)).mp c_6
        refine lv_iinc (v := (nI (aa_3 + 1))) (lv' := [(4, .int (nI (aa_3 + 1))), (5, .int (nI b3_5)), (3, .int (nI rs3_5)), (2, .int 0), (1, .int 0), (0, .ref z0)]) hx hb dX1_countRests_96 hl (k := 1) rfl (nI_add aa_3 1) (by decide) rfl (fun ls hl => ?_)
        refine lv_goto (tgt := 44) hx hb dX1_countRests_99 (by decide) ?_
        exact ih_3 _ (aa_3 + 1, rs3_5, pb3_5) _ _ _ (by omega) ⟨rfl, ⟨by omega, (by show _ = crO (rsA pn cc pf (kx pco pd pe pn)) (0 + 1) aa_3 + crI ((rsA pn cc pf (kx pco pd pe pn)) aa_3) (0 + 1); rw [hv_5.2.1, show b3_5 = 0 + 1 by omega]), hv_5.2.2⟩, hP, hD, hS, (lv_sub hl [0, 2, 3, 4, 5] rfl)⟩
      · have c_6 : ¬ (0 < b3_5) := fun h => c_6 ((nI_ltI (a := 0) (b := b3_5) (by omega) (by omega)).mpr h)
        refine lv_aload_n hx hb dX1_countRests_59 rfl (lv_at hl 5 rfl) ?_
        refine va_get (D := D) (ci := 1) (v := .ref z1) (C := RX1) (T := TX1) (N := 8) hx hb hts inX1 hown hK hP 0 rfl rfl 1 (by decide) (hts _ tw_236) (fun _ h9 => h9) rfl dX1_countRests_60 ?_
        refine lv_iconst (v := 0) hx hb dX1_countRests_63 (by decide) ?_
        refine lv_iload hx hb dX1_countRests_64 (lv_at hl 1 rfl) ?_
        refine va_iast hx hb hK hP hD hS 1 1 rfl rfl (by unfold vp_in; decide) dX1_countRests_66 (fun H locs hP hD hS => ?_)
        replace hP : va_P D classes [(z0, .inr (1, (fX1 c0 z1 z2 z3 (nI pn) (nI pf) pd pe))), (aI k z1 4 (upd (nF pb3_5) (Int32.toNatClampNeg 0) (nI aa_3))), (aI k z2 100 pco), (c0, .inr (4, (fX4 c1 c2 (nI cc) (nI rz) ro sd)))] H := hP
        replace hD : va_D A [(z0, .inr (1, (fX1 c0 z1 z2 z3 (nI pn) (nI pf) pd pe))), (aI k z1 4 (upd (nF pb3_5) (Int32.toNatClampNeg 0) (nI aa_3))), (aI k z2 100 pco), (c0, .inr (4, (fX4 c1 c2 (nI cc) (nI rz) ro sd)))] := hD
        rw [show upd (nF pb3_5) (Int32.toNatClampNeg 0) (nI aa_3) = nF (fun j => if j = 0 then aa_3 else pb3_5 j) from nF_upd _ _ _] at hP hD
        obtain ⟨d_8, hd_8⟩ : ∃ z : Nat → Nat, z = (fun j => if j = 0 then aa_3 else pb3_5 j) := ⟨_, rfl⟩
        rw [← hd_8] at hP hD
        have hbb_8 : ∀ j, d_8 j ≤ 24 := by rw [hd_8]; exact up_le hpl_5 (by omega)
        refine lv_aload_n hx hb dX1_countRests_67 rfl (lv_at hl 5 rfl) ?_
        refine va_get (D := D) (ci := 1) (v := .ref z1) (C := RX1) (T := TX1) (N := 8) hx hb hts inX1 hown hK hP 0 rfl rfl 1 (by decide) (hts _ tw_236) (fun _ h9 => h9) rfl dX1_countRests_68 ?_
        refine lv_iconst (v := 1) hx hb dX1_countRests_71 (by decide) ?_
        refine lv_iload hx hb dX1_countRests_72 (lv_at hl 0 rfl) ?_
        refine va_iast hx hb hK hP hD hS 1 1 rfl rfl (by unfold vp_in; decide) dX1_countRests_74 (fun H locs hP hD hS => ?_)
        replace hP : va_P D classes [(z0, .inr (1, (fX1 c0 z1 z2 z3 (nI pn) (nI pf) pd pe))), (aI k z1 4 (upd (nF d_8) (Int32.toNatClampNeg 1) (nI b3_5))), (aI k z2 100 pco), (c0, .inr (4, (fX4 c1 c2 (nI cc) (nI rz) ro sd)))] H := hP
        replace hD : va_D A [(z0, .inr (1, (fX1 c0 z1 z2 z3 (nI pn) (nI pf) pd pe))), (aI k z1 4 (upd (nF d_8) (Int32.toNatClampNeg 1) (nI b3_5))), (aI k z2 100 pco), (c0, .inr (4, (fX4 c1 c2 (nI cc) (nI rz) ro sd)))] := hD
        rw [show upd (nF d_8) (Int32.toNatClampNeg 1) (nI b3_5) = nF (fun j => if j = 1 then b3_5 else d_8 j) from nF_upd _ _ _] at hP hD
        obtain ⟨d_10, hd_10⟩ : ∃ z : Nat → Nat, z = (fun j => if j = 1 then b3_5 else d_8 j) := ⟨_, rfl⟩
        rw [← hd_10] at hP hD
        have hbb_10 : ∀ j, d_10 j ≤ 24 := by rw [hd_10]; exact up_le hbb_8 (by omega)
        have hbn_11 : ∀ j, j < cc → d_10 j ≤ pn := by intro j hj; rcases (show j = 0 ∨ j = 1 by omega) with e | e; rw [e, hd_10, hd_8]; show aa_3 ≤ pn; omega; rw [e, hd_10]; show b3_5 ≤ pn; omega
        have hvc_11 : ∀ j, j < cc → d_10 j = vc aa_3 b3_5 j := by intro j hj; rcases (show j = 0 ∨ j = 1 by omega) with e | e; rw [e, hd_10, hd_8]; rfl; rw [e, hd_10]; rfl
        refine lv_iload_n hx hb dX1_countRests_75 rfl (lv_at hl 2 rfl) ?_
        refine lv_aload_n hx hb dX1_countRests_76 rfl (lv_at hl 5 rfl) ?_
        refine ro_i (D := D) (va_runV (As := []) (rest := [.int (nI rs3_5)]) ⟨hx, hb, hml, hown, hts⟩ ((y_isAtRest l D k st lo c0 z0 z1 z2 z3 pn pf pd pe d_10 pco c1 c2 cc rz ro sd (by first | assumption | omega) (by first | assumption | omega) hbb_10 (by first | assumption | omega) hbn_11) H.size) (cwV 0 hts (gV tw_892 tw_855 tw_856 tw_84 tw_857) rfl rfl rfl (by decide +kernel) ⟨Nat.le_of_ble_eq_true rfl, Nat.le_of_ble_eq_true rfl⟩) (pV hS hAlo hlo hP hK (va_Dlo hD hAlo) hZ [0, 1, 2, 3] (by decide) rfl (ci := 1) (q := (RX1, TX1, 8)) (q0 := 0) rfl rfl) rfl rfl hl.1 rfl (lv_room (Nat.le_of_ble_eq_true rfl)) dX1_countRests_77 ⟨Nat.le_of_ble_eq_true rfl, Nat.le_of_ble_eq_true rfl⟩) hS hA hP (fun r_12 H locs hw_12 hP hS => ?_)
        try dsimp only at hw_12
        rcases hw_12 with ⟨rfl, hw_12⟩ | ⟨rfl, hw_12⟩
        · refine lv_if_eq (tgt := 87) hx hb dX1_countRests_80 (by decide) (fun h => absurd h (by decide)) (fun _ => ?_)
          refine lv_iconst (v := 1) hx hb dX1_countRests_83 (by decide) ?_
          refine lv_goto (tgt := 88) hx hb dX1_countRests_84 (by decide) ?_
          refine lv_iadd hx hb dX1_countRests_88 ?_
          refine lv_ti (y := (nI (rs3_5 + 1))) (nI_add rs3_5 1) ?_
          refine lv_istore_n (lv' := [(3, .int (nI (rs3_5 + 1))), (5, .int (nI b3_5)), (4, .int (nI aa_3)), (2, .int 0), (1, .int 0), (0, .ref z0)]) hx hb dX1_countRests_89 rfl hl (by decide) rfl (fun ls hl => ?_)
          refine lv_iinc (v := (nI (b3_5 + 1))) (lv' := [(5, .int (nI (b3_5 + 1))), (3, .int (nI (rs3_5 + 1))), (4, .int (nI aa_3)), (2, .int 0), (1, .int 0), (0, .ref z0)]) hx hb dX1_countRests_90 hl (k := 1) rfl (nI_add b3_5 1) (by decide) rfl (fun ls hl => ?_)
          refine lv_goto (tgt := 53) hx hb dX1_countRests_93 (by decide) ?_
          exact ih_5 _ (b3_5 + 1, rs3_5 + 1, d_10) _ _ _ (by omega) ⟨rfl, ⟨by omega, (by show _ = crO (rsA pn cc pf (kx pco pd pe pn)) (0 + 1) aa_3 + (crI ((rsA pn cc pf (kx pco pd pe pn)) aa_3) b3_5 + rsB (rsP pn cc pf (kx pco pd pe pn) (vc aa_3 b3_5))); rw [rsB_1 (rsP_congr (fun _ _ _ _ => rfl) hvc_11 hw_12), hv_5.2.1, Nat.add_assoc]), hbb_10⟩, hP, hD, hS, (lv_sub hl [0, 2, 1, 3, 4, 5] rfl)⟩
        · refine lv_if_eq (tgt := 87) hx hb dX1_countRests_80 (by decide) (fun _ => ?_) (fun h => absurd (by decide) h)
          refine lv_iconst (v := 0) hx hb dX1_countRests_87 (by decide) ?_
          refine lv_iadd hx hb dX1_countRests_88 ?_
          refine lv_ti (y := (nI (rs3_5 + 0))) (nI_add rs3_5 0) ?_
          refine lv_istore_n (lv' := [(3, .int (nI (rs3_5 + 0))), (5, .int (nI b3_5)), (4, .int (nI aa_3)), (2, .int 0), (1, .int 0), (0, .ref z0)]) hx hb dX1_countRests_89 rfl hl (by decide) rfl (fun ls hl => ?_)
          refine lv_iinc (v := (nI (b3_5 + 1))) (lv' := [(5, .int (nI (b3_5 + 1))), (3, .int (nI (rs3_5 + 0))), (4, .int (nI aa_3)), (2, .int 0), (1, .int 0), (0, .ref z0)]) hx hb dX1_countRests_90 hl (k := 1) rfl (nI_add b3_5 1) (by decide) rfl (fun ls hl => ?_)
          refine lv_goto (tgt := 53) hx hb dX1_countRests_93 (by decide) ?_
          exact ih_5 _ (b3_5 + 1, rs3_5 + 0, d_10) _ _ _ (by omega) ⟨rfl, ⟨by omega, (by show _ = crO (rsA pn cc pf (kx pco pd pe pn)) (0 + 1) aa_3 + (crI ((rsA pn cc pf (kx pco pd pe pn)) aa_3) b3_5 + rsB (rsP pn cc pf (kx pco pd pe pn) (vc aa_3 b3_5))); rw [rsB_0 (fun q => hw_12 (rsP_congr (fun _ _ _ _ => rfl) (fun j hj => (hvc_11 j hj).symm) q)), hv_5.2.1, Nat.add_assoc]), hbb_10⟩, hP, hD, hS, (lv_sub hl [0, 2, 1, 3, 4, 5] rfl)⟩
  · have c_1 : ¬ (cc ≤ 0) := fun h => c_1 ((nI_leI (a := cc) (b := 0) (by omega) (by omega)).mpr h)
    refine lv_aload_n hx hb dX1_countRests_10 rfl (lv_at hl 0 rfl) ?_
    refine va_get (D := D) (ci := 1) (v := .int (nI pn)) (C := RX1) (T := TX1) (N := 8) hx hb hts inX1 hown hK hP 0 rfl rfl 4 (by decide) (hts _ tw_240) (fun _ h9 => h9) rfl dX1_countRests_11 ?_
    refine lv_goto (tgt := 18) hx hb dX1_countRests_14 (by decide) ?_
    refine lv_istore_n (lv' := [(1, .int (nI pn)), (0, .ref z0)]) hx hb dX1_countRests_18 rfl hl (by decide) rfl (fun ls hl => ?_)
    refine lv_aload_n hx hb dX1_countRests_19 rfl (lv_at hl 1 rfl) ?_
    refine va_get (D := D) (ci := 1) (v := .ref c0) (C := RX1) (T := TX1) (N := 8) hx hb hts inX1 hown hK hP 0 rfl rfl 0 (by decide) (hts _ tw_235) (fun _ h9 => h9) rfl dX1_countRests_20 ?_
    refine va_get (D := D) (ci := 4) (v := .int (nI cc)) (C := RX4) (T := TX4) (N := 6) hx hb hts inX4 hown hK hP 3 rfl rfl 2 (by decide) (hts _ tw_179) (fun _ h9 => h9) rfl dX1_countRests_23 ?_
    refine lv_iconst (v := 1) hx hb dX1_countRests_26 (by decide) ?_
    refine lv_icmp_le (tgt := 37) hx hb dX1_countRests_27 (by decide) (fun c_13 => ?_) (fun c_13 => ?_)
    · have c_13 := (nI_leI (a := cc) (b := 1) (by omega) (by omega)).mp c_13
      refine lv_iconst (v := 0) hx hb dX1_countRests_37 (by decide) ?_
      refine lv_istore_n (lv' := [(2, .int 0), (1, .int (nI pn)), (0, .ref z0)]) hx hb dX1_countRests_38 rfl hl (by decide) rfl (fun ls hl => ?_)
      refine lv_iconst (v := 0) hx hb dX1_countRests_39 (by decide) ?_
      refine lv_istore_n (lv' := [(3, .int 0), (2, .int 0), (1, .int (nI pn)), (0, .ref z0)]) hx hb dX1_countRests_40 rfl hl (by decide) rfl (fun ls hl => ?_)
      refine lv_iconst (v := 0) hx hb dX1_countRests_41 (by decide) ?_
      refine lv_istore (lv' := [(4, .int 0), (3, .int 0), (2, .int 0), (1, .int (nI pn)), (0, .ref z0)]) hx hb dX1_countRests_42 hl (by decide) rfl (fun ls hl => ?_)
      refine W_loop (σ := Nat × Nat × (Nat → Nat)) (fun (n_ : Nat) (x_ : Nat × Nat × (Nat → Nat)) (H : Heap) (locs : List Loc) (ls : Array Slot) => match x_ with | (aa_14, rs2_14, pb2_14) => n_ = 26 - aa_14 ∧ (aa_14 ≤ pn + 1 ∧ rs2_14 = crO (rsA pn cc pf (kx pco pd pe pn)) (0 + 1) aa_14 ∧ (∀ j, pb2_14 j ≤ 24)) ∧ va_P D classes [(z0, .inr (1, (fX1 c0 z1 z2 z3 (nI pn) (nI pf) pd pe))), (aI k z1 4 (nF pb2_14)), (aI k z2 100 pco), (c0, .inr (4, (fX4 c1 c2 (nI cc) (nI rz) ro sd)))] H ∧ va_D A [(z0, .inr (1, (fX1 c0 z1 z2 z3 (nI pn) (nI pf) pd pe))), (aI k z1 4 (nF pb2_14)), (aI k z2 100 pco), (c0, .inr (4, (fX4 c1 c2 (nI cc) (nI rz) ro sd)))] ∧ va_S A s.heap H locs ∧ lv_has ls 6 [(4, .int (nI aa_14)), (3, .int (nI rs2_14)), (2, .int 0), (1, .int (nI pn)), (0, .ref z0)]) (fun n_14 x_14 H locs ls hI ih_14 => ?_) _ (0, 0, pb) ⟨rfl, ⟨by omega, rfl, hpb⟩, hP, hD, hS, (lv_sub hl [0, 1, 2, 3, 4] rfl)⟩
      obtain ⟨aa_14, rs2_14, pb2_14⟩ := x_14
      obtain ⟨hm_14, hv_14, hP, hD, hS, hl⟩ := hI
      subst hm_14
      have hpl_14 := hv_14.2.2
      refine lv_iload hx hb dX1_countRests_44 (lv_at hl 0 rfl) ?_
      refine lv_iload_n hx hb dX1_countRests_46 rfl (lv_at hl 3 rfl) ?_
      refine lv_icmp_gt (tgt := 102) hx hb dX1_countRests_47 (by decide) (fun c_15 => ?_) (fun c_15 => ?_)
      · have c_15 := (nI_ltI (a := pn) (b := aa_14) (by omega) (by omega)).mp c_15
        refine lv_iload_n hx hb dX1_countRests_102 rfl (lv_at hl 1 rfl) ?_
        have hP9 := hP.sub (ws' := [(z0, .inr (1, (fX1 c0 z1 z2 z3 (nI pn) (nI pf) pd pe))), (aI k z1 4 (nF pb2_14)), (aI k z2 100 pco), (c0, .inr (4, (fX4 c1 c2 (nI cc) (nI rz) ro sd)))]) [0, 1, 2, 3] rfl
        have hD9 := hD.sub (ws' := [(z0, .inr (1, (fX1 c0 z1 z2 z3 (nI pn) (nI pf) pd pe))), (aI k z1 4 (nF pb2_14)), (aI k z2 100 pco), (c0, .inr (4, (fX4 c1 c2 (nI cc) (nI rz) ro sd)))]) [0, 1, 2, 3] (by decide) rfl
        exact W.iret (v := (nI rs2_14)) hx hb hr (fun t ht hW => ⟨⟨(nI rs2_14), pb2_14, rfl, ⟨congrArg nI (by rw [hv_14.2.1, show aa_14 = pn + 1 by omega, show crM 0 cc pn = pn from if_pos (by omega), show crM 1 cc pn = 0 from if_neg (by omega)]), hpl_14⟩, by rw [ht]; exact hP9, hD9⟩, hS.F ht⟩) hS.2.2 dX1_countRests_103
      · have c_15 : ¬ (pn < aa_14) := fun h => c_15 ((nI_ltI (a := pn) (b := aa_14) (by omega) (by omega)).mpr h)
        refine lv_iconst (v := 0) hx hb dX1_countRests_50 (by decide) ?_
        refine lv_istore (lv' := [(5, .int 0), (4, .int (nI aa_14)), (3, .int (nI rs2_14)), (2, .int 0), (1, .int (nI pn)), (0, .ref z0)]) hx hb dX1_countRests_51 hl (by decide) rfl (fun ls hl => ?_)
        refine W_loop (σ := Nat × Nat × (Nat → Nat)) (fun (n_ : Nat) (x_ : Nat × Nat × (Nat → Nat)) (H : Heap) (locs : List Loc) (ls : Array Slot) => match x_ with | (b3_16, rs3_16, pb3_16) => n_ = 26 - b3_16 ∧ (b3_16 ≤ 0 + 1 ∧ rs3_16 = crO (rsA pn cc pf (kx pco pd pe pn)) (0 + 1) aa_14 + crI ((rsA pn cc pf (kx pco pd pe pn)) aa_14) b3_16 ∧ (∀ j, pb3_16 j ≤ 24)) ∧ va_P D classes [(z0, .inr (1, (fX1 c0 z1 z2 z3 (nI pn) (nI pf) pd pe))), (aI k z1 4 (nF pb3_16)), (aI k z2 100 pco), (c0, .inr (4, (fX4 c1 c2 (nI cc) (nI rz) ro sd)))] H ∧ va_D A [(z0, .inr (1, (fX1 c0 z1 z2 z3 (nI pn) (nI pf) pd pe))), (aI k z1 4 (nF pb3_16)), (aI k z2 100 pco), (c0, .inr (4, (fX4 c1 c2 (nI cc) (nI rz) ro sd)))] ∧ va_S A s.heap H locs ∧ lv_has ls 6 [(5, .int (nI b3_16)), (4, .int (nI aa_14)), (3, .int (nI rs3_16)), (2, .int 0), (1, .int (nI pn)), (0, .ref z0)]) (fun n_16 x_16 H locs ls hI ih_16 => ?_) _ (0, rs2_14, pb2_14) ⟨rfl, ⟨by omega, hv_14.2.1, hpl_14⟩, hP, hD, hS, (lv_sub hl [0, 1, 2, 3, 4, 5] rfl)⟩
        obtain ⟨b3_16, rs3_16, pb3_16⟩ := x_16
        obtain ⟨hm_16, hv_16, hP, hD, hS, hl⟩ := hI
        subst hm_16
        have hpl_16 := hv_16.2.2
        refine lv_iload hx hb dX1_countRests_53 (lv_at hl 0 rfl) ?_
        refine lv_iload_n hx hb dX1_countRests_55 rfl (lv_at hl 3 rfl) ?_
        refine lv_icmp_gt (tgt := 96) hx hb dX1_countRests_56 (by decide) (fun c_17 => ?_) (fun c_17 => ?_)
        · have c_17 := (nI_ltI (a := 0) (b := b3_16) (by omega) (by omega)).mp c_17
          refine lv_iinc (v := (nI (aa_14 + 1))) (lv' := [(4, .int (nI (aa_14 + 1))), (5, .int (nI b3_16)), (3, .int (nI rs3_16)), (2, .int 0), (1, .int (nI pn)), (0, .ref z0)]) hx hb dX1_countRests_96 hl (k := 1) rfl (nI_add aa_14 1) (by decide) rfl (fun ls hl => ?_)
          refine lv_goto (tgt := 44) hx hb dX1_countRests_99 (by decide) ?_
          exact ih_14 _ (aa_14 + 1, rs3_16, pb3_16) _ _ _ (by omega) ⟨rfl, ⟨by omega, (by show _ = crO (rsA pn cc pf (kx pco pd pe pn)) (0 + 1) aa_14 + crI ((rsA pn cc pf (kx pco pd pe pn)) aa_14) (0 + 1); rw [hv_16.2.1, show b3_16 = 0 + 1 by omega]), hv_16.2.2⟩, hP, hD, hS, (lv_sub hl [0, 2, 3, 4, 5] rfl)⟩
        · have c_17 : ¬ (0 < b3_16) := fun h => c_17 ((nI_ltI (a := 0) (b := b3_16) (by omega) (by omega)).mpr h)
          refine lv_aload_n hx hb dX1_countRests_59 rfl (lv_at hl 5 rfl) ?_
          refine va_get (D := D) (ci := 1) (v := .ref z1) (C := RX1) (T := TX1) (N := 8) hx hb hts inX1 hown hK hP 0 rfl rfl 1 (by decide) (hts _ tw_236) (fun _ h9 => h9) rfl dX1_countRests_60 ?_
          refine lv_iconst (v := 0) hx hb dX1_countRests_63 (by decide) ?_
          refine lv_iload hx hb dX1_countRests_64 (lv_at hl 1 rfl) ?_
          refine va_iast hx hb hK hP hD hS 1 1 rfl rfl (by unfold vp_in; decide) dX1_countRests_66 (fun H locs hP hD hS => ?_)
          replace hP : va_P D classes [(z0, .inr (1, (fX1 c0 z1 z2 z3 (nI pn) (nI pf) pd pe))), (aI k z1 4 (upd (nF pb3_16) (Int32.toNatClampNeg 0) (nI aa_14))), (aI k z2 100 pco), (c0, .inr (4, (fX4 c1 c2 (nI cc) (nI rz) ro sd)))] H := hP
          replace hD : va_D A [(z0, .inr (1, (fX1 c0 z1 z2 z3 (nI pn) (nI pf) pd pe))), (aI k z1 4 (upd (nF pb3_16) (Int32.toNatClampNeg 0) (nI aa_14))), (aI k z2 100 pco), (c0, .inr (4, (fX4 c1 c2 (nI cc) (nI rz) ro sd)))] := hD
          rw [show upd (nF pb3_16) (Int32.toNatClampNeg 0) (nI aa_14) = nF (fun j => if j = 0 then aa_14 else pb3_16 j) from nF_upd _ _ _] at hP hD
          obtain ⟨d_19, hd_19⟩ : ∃ z : Nat → Nat, z = (fun j => if j = 0 then aa_14 else pb3_16 j) := ⟨_, rfl⟩
          rw [← hd_19] at hP hD
          have hbb_19 : ∀ j, d_19 j ≤ 24 := by rw [hd_19]; exact up_le hpl_16 (by omega)
          refine lv_aload_n hx hb dX1_countRests_67 rfl (lv_at hl 5 rfl) ?_
          refine va_get (D := D) (ci := 1) (v := .ref z1) (C := RX1) (T := TX1) (N := 8) hx hb hts inX1 hown hK hP 0 rfl rfl 1 (by decide) (hts _ tw_236) (fun _ h9 => h9) rfl dX1_countRests_68 ?_
          refine lv_iconst (v := 1) hx hb dX1_countRests_71 (by decide) ?_
          refine lv_iload hx hb dX1_countRests_72 (lv_at hl 0 rfl) ?_
          refine va_iast hx hb hK hP hD hS 1 1 rfl rfl (by unfold vp_in; decide) dX1_countRests_74 (fun H locs hP hD hS => ?_)
          replace hP : va_P D classes [(z0, .inr (1, (fX1 c0 z1 z2 z3 (nI pn) (nI pf) pd pe))), (aI k z1 4 (upd (nF d_19) (Int32.toNatClampNeg 1) (nI b3_16))), (aI k z2 100 pco), (c0, .inr (4, (fX4 c1 c2 (nI cc) (nI rz) ro sd)))] H := hP
          replace hD : va_D A [(z0, .inr (1, (fX1 c0 z1 z2 z3 (nI pn) (nI pf) pd pe))), (aI k z1 4 (upd (nF d_19) (Int32.toNatClampNeg 1) (nI b3_16))), (aI k z2 100 pco), (c0, .inr (4, (fX4 c1 c2 (nI cc) (nI rz) ro sd)))] := hD
          rw [show upd (nF d_19) (Int32.toNatClampNeg 1) (nI b3_16) = nF (fun j => if j = 1 then b3_16 else d_19 j) from nF_upd _ _ _] at hP hD
          obtain ⟨d_21, hd_21⟩ : ∃ z : Nat → Nat, z = (fun j => if j = 1 then b3_16 else d_19 j) := ⟨_, rfl⟩
          rw [← hd_21] at hP hD
          have hbb_21 : ∀ j, d_21 j ≤ 24 := by rw [hd_21]; exact up_le hbb_19 (by omega)
          have hbn_22 : ∀ j, j < cc → d_21 j ≤ pn := by intro j hj; rcases (show j = 0 ∨ j = 1 by omega) with e | e; rw [e, hd_21, hd_19]; show aa_14 ≤ pn; omega; rw [e, hd_21]; show b3_16 ≤ pn; omega
          have hvc_22 : ∀ j, j < cc → d_21 j = vc aa_14 b3_16 j := by intro j hj; rcases (show j = 0 ∨ j = 1 by omega) with e | e; rw [e, hd_21, hd_19]; rfl; rw [e, hd_21]; rfl
          refine lv_iload_n hx hb dX1_countRests_75 rfl (lv_at hl 2 rfl) ?_
          refine lv_aload_n hx hb dX1_countRests_76 rfl (lv_at hl 5 rfl) ?_
          refine ro_i (D := D) (va_runV (As := []) (rest := [.int (nI rs3_16)]) ⟨hx, hb, hml, hown, hts⟩ ((y_isAtRest l D k st lo c0 z0 z1 z2 z3 pn pf pd pe d_21 pco c1 c2 cc rz ro sd (by first | assumption | omega) (by first | assumption | omega) hbb_21 (by first | assumption | omega) hbn_22) H.size) (cwV 0 hts (gV tw_892 tw_855 tw_856 tw_84 tw_857) rfl rfl rfl (by decide +kernel) ⟨Nat.le_of_ble_eq_true rfl, Nat.le_of_ble_eq_true rfl⟩) (pV hS hAlo hlo hP hK (va_Dlo hD hAlo) hZ [0, 1, 2, 3] (by decide) rfl (ci := 1) (q := (RX1, TX1, 8)) (q0 := 0) rfl rfl) rfl rfl hl.1 rfl (lv_room (Nat.le_of_ble_eq_true rfl)) dX1_countRests_77 ⟨Nat.le_of_ble_eq_true rfl, Nat.le_of_ble_eq_true rfl⟩) hS hA hP (fun r_23 H locs hw_23 hP hS => ?_)
          try dsimp only at hw_23
          rcases hw_23 with ⟨rfl, hw_23⟩ | ⟨rfl, hw_23⟩
          · refine lv_if_eq (tgt := 87) hx hb dX1_countRests_80 (by decide) (fun h => absurd h (by decide)) (fun _ => ?_)
            refine lv_iconst (v := 1) hx hb dX1_countRests_83 (by decide) ?_
            refine lv_goto (tgt := 88) hx hb dX1_countRests_84 (by decide) ?_
            refine lv_iadd hx hb dX1_countRests_88 ?_
            refine lv_ti (y := (nI (rs3_16 + 1))) (nI_add rs3_16 1) ?_
            refine lv_istore_n (lv' := [(3, .int (nI (rs3_16 + 1))), (5, .int (nI b3_16)), (4, .int (nI aa_14)), (2, .int 0), (1, .int (nI pn)), (0, .ref z0)]) hx hb dX1_countRests_89 rfl hl (by decide) rfl (fun ls hl => ?_)
            refine lv_iinc (v := (nI (b3_16 + 1))) (lv' := [(5, .int (nI (b3_16 + 1))), (3, .int (nI (rs3_16 + 1))), (4, .int (nI aa_14)), (2, .int 0), (1, .int (nI pn)), (0, .ref z0)]) hx hb dX1_countRests_90 hl (k := 1) rfl (nI_add b3_16 1) (by decide) rfl (fun ls hl => ?_)
            refine lv_goto (tgt := 53) hx hb dX1_countRests_93 (by decide) ?_
            exact ih_16 _ (b3_16 + 1, rs3_16 + 1, d_21) _ _ _ (by omega) ⟨rfl, ⟨by omega, (by show _ = crO (rsA pn cc pf (kx pco pd pe pn)) (0 + 1) aa_14 + (crI ((rsA pn cc pf (kx pco pd pe pn)) aa_14) b3_16 + rsB (rsP pn cc pf (kx pco pd pe pn) (vc aa_14 b3_16))); rw [rsB_1 (rsP_congr (fun _ _ _ _ => rfl) hvc_22 hw_23), hv_16.2.1, Nat.add_assoc]), hbb_21⟩, hP, hD, hS, (lv_sub hl [0, 2, 1, 3, 4, 5] rfl)⟩
          · refine lv_if_eq (tgt := 87) hx hb dX1_countRests_80 (by decide) (fun _ => ?_) (fun h => absurd (by decide) h)
            refine lv_iconst (v := 0) hx hb dX1_countRests_87 (by decide) ?_
            refine lv_iadd hx hb dX1_countRests_88 ?_
            refine lv_ti (y := (nI (rs3_16 + 0))) (nI_add rs3_16 0) ?_
            refine lv_istore_n (lv' := [(3, .int (nI (rs3_16 + 0))), (5, .int (nI b3_16)), (4, .int (nI aa_14)), (2, .int 0), (1, .int (nI pn)), (0, .ref z0)]) hx hb dX1_countRests_89 rfl hl (by decide) rfl (fun ls hl => ?_)
            refine lv_iinc (v := (nI (b3_16 + 1))) (lv' := [(5, .int (nI (b3_16 + 1))), (3, .int (nI (rs3_16 + 0))), (4, .int (nI aa_14)), (2, .int 0), (1, .int (nI pn)), (0, .ref z0)]) hx hb dX1_countRests_90 hl (k := 1) rfl (nI_add b3_16 1) (by decide) rfl (fun ls hl => ?_)
            refine lv_goto (tgt := 53) hx hb dX1_countRests_93 (by decide) ?_
            exact ih_16 _ (b3_16 + 1, rs3_16 + 0, d_21) _ _ _ (by omega) ⟨rfl, ⟨by omega, (by show _ = crO (rsA pn cc pf (kx pco pd pe pn)) (0 + 1) aa_14 + (crI ((rsA pn cc pf (kx pco pd pe pn)) aa_14) b3_16 + rsB (rsP pn cc pf (kx pco pd pe pn) (vc aa_14 b3_16))); rw [rsB_0 (fun q => hw_23 (rsP_congr (fun _ _ _ _ => rfl) (fun j hj => (hvc_22 j hj).symm) q)), hv_16.2.1, Nat.add_assoc]), hbb_21⟩, hP, hD, hS, (lv_sub hl [0, 2, 1, 3, 4, 5] rfl)⟩
    · have c_13 : ¬ (cc ≤ 1) := fun h => c_13 ((nI_leI (a := cc) (b := 1) (by omega) (by omega)).mpr h)
      refine lv_aload_n hx hb dX1_countRests_30 rfl (lv_at hl 1 rfl) ?_
      refine va_get (D := D) (ci := 1) (v := .int (nI pn)) (C := RX1) (T := TX1) (N := 8) hx hb hts inX1 hown hK hP 0 rfl rfl 4 (by decide) (hts _ tw_240) (fun _ h9 => h9) rfl dX1_countRests_31 ?_
      refine lv_goto (tgt := 38) hx hb dX1_countRests_34 (by decide) ?_
      refine lv_istore_n (lv' := [(2, .int (nI pn)), (1, .int (nI pn)), (0, .ref z0)]) hx hb dX1_countRests_38 rfl hl (by decide) rfl (fun ls hl => ?_)
      refine lv_iconst (v := 0) hx hb dX1_countRests_39 (by decide) ?_
      refine lv_istore_n (lv' := [(3, .int 0), (2, .int (nI pn)), (1, .int (nI pn)), (0, .ref z0)]) hx hb dX1_countRests_40 rfl hl (by decide) rfl (fun ls hl => ?_)
      refine lv_iconst (v := 0) hx hb dX1_countRests_41 (by decide) ?_
      refine lv_istore (lv' := [(4, .int 0), (3, .int 0), (2, .int (nI pn)), (1, .int (nI pn)), (0, .ref z0)]) hx hb dX1_countRests_42 hl (by decide) rfl (fun ls hl => ?_)
      refine W_loop (σ := Nat × Nat × (Nat → Nat)) (fun (n_ : Nat) (x_ : Nat × Nat × (Nat → Nat)) (H : Heap) (locs : List Loc) (ls : Array Slot) => match x_ with | (aa_24, rs2_24, pb2_24) => n_ = 26 - aa_24 ∧ (aa_24 ≤ pn + 1 ∧ rs2_24 = crO (rsA pn cc pf (kx pco pd pe pn)) (pn + 1) aa_24 ∧ (∀ j, pb2_24 j ≤ 24)) ∧ va_P D classes [(z0, .inr (1, (fX1 c0 z1 z2 z3 (nI pn) (nI pf) pd pe))), (aI k z1 4 (nF pb2_24)), (aI k z2 100 pco), (c0, .inr (4, (fX4 c1 c2 (nI cc) (nI rz) ro sd)))] H ∧ va_D A [(z0, .inr (1, (fX1 c0 z1 z2 z3 (nI pn) (nI pf) pd pe))), (aI k z1 4 (nF pb2_24)), (aI k z2 100 pco), (c0, .inr (4, (fX4 c1 c2 (nI cc) (nI rz) ro sd)))] ∧ va_S A s.heap H locs ∧ lv_has ls 6 [(4, .int (nI aa_24)), (3, .int (nI rs2_24)), (2, .int (nI pn)), (1, .int (nI pn)), (0, .ref z0)]) (fun n_24 x_24 H locs ls hI ih_24 => ?_) _ (0, 0, pb) ⟨rfl, ⟨by omega, rfl, hpb⟩, hP, hD, hS, (lv_sub hl [0, 1, 2, 3, 4] rfl)⟩
      obtain ⟨aa_24, rs2_24, pb2_24⟩ := x_24
      obtain ⟨hm_24, hv_24, hP, hD, hS, hl⟩ := hI
      subst hm_24
      have hpl_24 := hv_24.2.2
      refine lv_iload hx hb dX1_countRests_44 (lv_at hl 0 rfl) ?_
      refine lv_iload_n hx hb dX1_countRests_46 rfl (lv_at hl 3 rfl) ?_
      refine lv_icmp_gt (tgt := 102) hx hb dX1_countRests_47 (by decide) (fun c_25 => ?_) (fun c_25 => ?_)
      · have c_25 := (nI_ltI (a := pn) (b := aa_24) (by omega) (by omega)).mp c_25
        refine lv_iload_n hx hb dX1_countRests_102 rfl (lv_at hl 1 rfl) ?_
        have hP9 := hP.sub (ws' := [(z0, .inr (1, (fX1 c0 z1 z2 z3 (nI pn) (nI pf) pd pe))), (aI k z1 4 (nF pb2_24)), (aI k z2 100 pco), (c0, .inr (4, (fX4 c1 c2 (nI cc) (nI rz) ro sd)))]) [0, 1, 2, 3] rfl
        have hD9 := hD.sub (ws' := [(z0, .inr (1, (fX1 c0 z1 z2 z3 (nI pn) (nI pf) pd pe))), (aI k z1 4 (nF pb2_24)), (aI k z2 100 pco), (c0, .inr (4, (fX4 c1 c2 (nI cc) (nI rz) ro sd)))]) [0, 1, 2, 3] (by decide) rfl
        exact W.iret (v := (nI rs2_24)) hx hb hr (fun t ht hW => ⟨⟨(nI rs2_24), pb2_24, rfl, ⟨congrArg nI (by rw [hv_24.2.1, show aa_24 = pn + 1 by omega, show crM 0 cc pn = pn from if_pos (by omega), show crM 1 cc pn = pn from if_pos (by omega)]), hpl_24⟩, by rw [ht]; exact hP9, hD9⟩, hS.F ht⟩) hS.2.2 dX1_countRests_103
      · have c_25 : ¬ (pn < aa_24) := fun h => c_25 ((nI_ltI (a := pn) (b := aa_24) (by omega) (by omega)).mpr h)
        refine lv_iconst (v := 0) hx hb dX1_countRests_50 (by decide) ?_
        refine lv_istore (lv' := [(5, .int 0), (4, .int (nI aa_24)), (3, .int (nI rs2_24)), (2, .int (nI pn)), (1, .int (nI pn)), (0, .ref z0)]) hx hb dX1_countRests_51 hl (by decide) rfl (fun ls hl => ?_)
        refine W_loop (σ := Nat × Nat × (Nat → Nat)) (fun (n_ : Nat) (x_ : Nat × Nat × (Nat → Nat)) (H : Heap) (locs : List Loc) (ls : Array Slot) => match x_ with | (b3_26, rs3_26, pb3_26) => n_ = 26 - b3_26 ∧ (b3_26 ≤ pn + 1 ∧ rs3_26 = crO (rsA pn cc pf (kx pco pd pe pn)) (pn + 1) aa_24 + crI ((rsA pn cc pf (kx pco pd pe pn)) aa_24) b3_26 ∧ (∀ j, pb3_26 j ≤ 24)) ∧ va_P D classes [(z0, .inr (1, (fX1 c0 z1 z2 z3 (nI pn) (nI pf) pd pe))), (aI k z1 4 (nF pb3_26)), (aI k z2 100 pco), (c0, .inr (4, (fX4 c1 c2 (nI cc) (nI rz) ro sd)))] H ∧ va_D A [(z0, .inr (1, (fX1 c0 z1 z2 z3 (nI pn) (nI pf) pd pe))), (aI k z1 4 (nF pb3_26)), (aI k z2 100 pco), (c0, .inr (4, (fX4 c1 c2 (nI cc) (nI rz) ro sd)))] ∧ va_S A s.heap H locs ∧ lv_has ls 6 [(5, .int (nI b3_26)), (4, .int (nI aa_24)), (3, .int (nI rs3_26)), (2, .int (nI pn)), (1, .int (nI pn)), (0, .ref z0)]) (fun n_26 x_26 H locs ls hI ih_26 => ?_) _ (0, rs2_24, pb2_24) ⟨rfl, ⟨by omega, hv_24.2.1, hpl_24⟩, hP, hD, hS, (lv_sub hl [0, 1, 2, 3, 4, 5] rfl)⟩
        obtain ⟨b3_26, rs3_26, pb3_26⟩ := x_26
        obtain ⟨hm_26, hv_26, hP, hD, hS, hl⟩ := hI
        subst hm_26
        have hpl_26 := hv_26.2.2
        refine lv_iload hx hb dX1_countRests_53 (lv_at hl 0 rfl) ?_
        refine lv_iload_n hx hb dX1_countRests_55 rfl (lv_at hl 3 rfl) ?_
        refine lv_icmp_gt (tgt := 96) hx hb dX1_countRests_56 (by decide) (fun c_27 => ?_) (fun c_27 => ?_)
        · have c_27 := (nI_ltI (a := pn) (b := b3_26) (by omega) (by omega)).mp c_27
          refine lv_iinc (v := (nI (aa_24 + 1))) (lv' := [(4, .int (nI (aa_24 + 1))), (5, .int (nI b3_26)), (3, .int (nI rs3_26)), (2, .int (nI pn)), (1, .int (nI pn)), (0, .ref z0)]) hx hb dX1_countRests_96 hl (k := 1) rfl (nI_add aa_24 1) (by decide) rfl (fun ls hl => ?_)
          refine lv_goto (tgt := 44) hx hb dX1_countRests_99 (by decide) ?_
          exact ih_24 _ (aa_24 + 1, rs3_26, pb3_26) _ _ _ (by omega) ⟨rfl, ⟨by omega, (by show _ = crO (rsA pn cc pf (kx pco pd pe pn)) (pn + 1) aa_24 + crI ((rsA pn cc pf (kx pco pd pe pn)) aa_24) (pn + 1); rw [hv_26.2.1, show b3_26 = pn + 1 by omega]), hv_26.2.2⟩, hP, hD, hS, (lv_sub hl [0, 2, 3, 4, 5] rfl)⟩
        · have c_27 : ¬ (pn < b3_26) := fun h => c_27 ((nI_ltI (a := pn) (b := b3_26) (by omega) (by omega)).mpr h)
          refine lv_aload_n hx hb dX1_countRests_59 rfl (lv_at hl 5 rfl) ?_
          refine va_get (D := D) (ci := 1) (v := .ref z1) (C := RX1) (T := TX1) (N := 8) hx hb hts inX1 hown hK hP 0 rfl rfl 1 (by decide) (hts _ tw_236) (fun _ h9 => h9) rfl dX1_countRests_60 ?_
          refine lv_iconst (v := 0) hx hb dX1_countRests_63 (by decide) ?_
          refine lv_iload hx hb dX1_countRests_64 (lv_at hl 1 rfl) ?_
          refine va_iast hx hb hK hP hD hS 1 1 rfl rfl (by unfold vp_in; decide) dX1_countRests_66 (fun H locs hP hD hS => ?_)
          replace hP : va_P D classes [(z0, .inr (1, (fX1 c0 z1 z2 z3 (nI pn) (nI pf) pd pe))), (aI k z1 4 (upd (nF pb3_26) (Int32.toNatClampNeg 0) (nI aa_24))), (aI k z2 100 pco), (c0, .inr (4, (fX4 c1 c2 (nI cc) (nI rz) ro sd)))] H := hP
          replace hD : va_D A [(z0, .inr (1, (fX1 c0 z1 z2 z3 (nI pn) (nI pf) pd pe))), (aI k z1 4 (upd (nF pb3_26) (Int32.toNatClampNeg 0) (nI aa_24))), (aI k z2 100 pco), (c0, .inr (4, (fX4 c1 c2 (nI cc) (nI rz) ro sd)))] := hD
          rw [show upd (nF pb3_26) (Int32.toNatClampNeg 0) (nI aa_24) = nF (fun j => if j = 0 then aa_24 else pb3_26 j) from nF_upd _ _ _] at hP hD
          obtain ⟨d_29, hd_29⟩ : ∃ z : Nat → Nat, z = (fun j => if j = 0 then aa_24 else pb3_26 j) := ⟨_, rfl⟩
          rw [← hd_29] at hP hD
          have hbb_29 : ∀ j, d_29 j ≤ 24 := by rw [hd_29]; exact up_le hpl_26 (by omega)
          refine lv_aload_n hx hb dX1_countRests_67 rfl (lv_at hl 5 rfl) ?_
          refine va_get (D := D) (ci := 1) (v := .ref z1) (C := RX1) (T := TX1) (N := 8) hx hb hts inX1 hown hK hP 0 rfl rfl 1 (by decide) (hts _ tw_236) (fun _ h9 => h9) rfl dX1_countRests_68 ?_
          refine lv_iconst (v := 1) hx hb dX1_countRests_71 (by decide) ?_
          refine lv_iload hx hb dX1_countRests_72 (lv_at hl 0 rfl) ?_
          refine va_iast hx hb hK hP hD hS 1 1 rfl rfl (by unfold vp_in; decide) dX1_countRests_74 (fun H locs hP hD hS => ?_)
          replace hP : va_P D classes [(z0, .inr (1, (fX1 c0 z1 z2 z3 (nI pn) (nI pf) pd pe))), (aI k z1 4 (upd (nF d_29) (Int32.toNatClampNeg 1) (nI b3_26))), (aI k z2 100 pco), (c0, .inr (4, (fX4 c1 c2 (nI cc) (nI rz) ro sd)))] H := hP
          replace hD : va_D A [(z0, .inr (1, (fX1 c0 z1 z2 z3 (nI pn) (nI pf) pd pe))), (aI k z1 4 (upd (nF d_29) (Int32.toNatClampNeg 1) (nI b3_26))), (aI k z2 100 pco), (c0, .inr (4, (fX4 c1 c2 (nI cc) (nI rz) ro sd)))] := hD
          rw [show upd (nF d_29) (Int32.toNatClampNeg 1) (nI b3_26) = nF (fun j => if j = 1 then b3_26 else d_29 j) from nF_upd _ _ _] at hP hD
          obtain ⟨d_31, hd_31⟩ : ∃ z : Nat → Nat, z = (fun j => if j = 1 then b3_26 else d_29 j) := ⟨_, rfl⟩
          rw [← hd_31] at hP hD
          have hbb_31 : ∀ j, d_31 j ≤ 24 := by rw [hd_31]; exact up_le hbb_29 (by omega)
          have hbn_32 : ∀ j, j < cc → d_31 j ≤ pn := by intro j hj; rcases (show j = 0 ∨ j = 1 by omega) with e | e; rw [e, hd_31, hd_29]; show aa_24 ≤ pn; omega; rw [e, hd_31]; show b3_26 ≤ pn; omega
          have hvc_32 : ∀ j, j < cc → d_31 j = vc aa_24 b3_26 j := by intro j hj; rcases (show j = 0 ∨ j = 1 by omega) with e | e; rw [e, hd_31, hd_29]; rfl; rw [e, hd_31]; rfl
          refine lv_iload_n hx hb dX1_countRests_75 rfl (lv_at hl 2 rfl) ?_
          refine lv_aload_n hx hb dX1_countRests_76 rfl (lv_at hl 5 rfl) ?_
          refine ro_i (D := D) (va_runV (As := []) (rest := [.int (nI rs3_26)]) ⟨hx, hb, hml, hown, hts⟩ ((y_isAtRest l D k st lo c0 z0 z1 z2 z3 pn pf pd pe d_31 pco c1 c2 cc rz ro sd (by first | assumption | omega) (by first | assumption | omega) hbb_31 (by first | assumption | omega) hbn_32) H.size) (cwV 0 hts (gV tw_892 tw_855 tw_856 tw_84 tw_857) rfl rfl rfl (by decide +kernel) ⟨Nat.le_of_ble_eq_true rfl, Nat.le_of_ble_eq_true rfl⟩) (pV hS hAlo hlo hP hK (va_Dlo hD hAlo) hZ [0, 1, 2, 3] (by decide) rfl (ci := 1) (q := (RX1, TX1, 8)) (q0 := 0) rfl rfl) rfl rfl hl.1 rfl (lv_room (Nat.le_of_ble_eq_true rfl)) dX1_countRests_77 ⟨Nat.le_of_ble_eq_true rfl, Nat.le_of_ble_eq_true rfl⟩) hS hA hP (fun r_33 H locs hw_33 hP hS => ?_)
          try dsimp only at hw_33
          rcases hw_33 with ⟨rfl, hw_33⟩ | ⟨rfl, hw_33⟩
          · refine lv_if_eq (tgt := 87) hx hb dX1_countRests_80 (by decide) (fun h => absurd h (by decide)) (fun _ => ?_)
            refine lv_iconst (v := 1) hx hb dX1_countRests_83 (by decide) ?_
            refine lv_goto (tgt := 88) hx hb dX1_countRests_84 (by decide) ?_
            refine lv_iadd hx hb dX1_countRests_88 ?_
            refine lv_ti (y := (nI (rs3_26 + 1))) (nI_add rs3_26 1) ?_
            refine lv_istore_n (lv' := [(3, .int (nI (rs3_26 + 1))), (5, .int (nI b3_26)), (4, .int (nI aa_24)), (2, .int (nI pn)), (1, .int (nI pn)), (0, .ref z0)]) hx hb dX1_countRests_89 rfl hl (by decide) rfl (fun ls hl => ?_)
            refine lv_iinc (v := (nI (b3_26 + 1))) (lv' := [(5, .int (nI (b3_26 + 1))), (3, .int (nI (rs3_26 + 1))), (4, .int (nI aa_24)), (2, .int (nI pn)), (1, .int (nI pn)), (0, .ref z0)]) hx hb dX1_countRests_90 hl (k := 1) rfl (nI_add b3_26 1) (by decide) rfl (fun ls hl => ?_)
            refine lv_goto (tgt := 53) hx hb dX1_countRests_93 (by decide) ?_
            exact ih_26 _ (b3_26 + 1, rs3_26 + 1, d_31) _ _ _ (by omega) ⟨rfl, ⟨by omega, (by show _ = crO (rsA pn cc pf (kx pco pd pe pn)) (pn + 1) aa_24 + (crI ((rsA pn cc pf (kx pco pd pe pn)) aa_24) b3_26 + rsB (rsP pn cc pf (kx pco pd pe pn) (vc aa_24 b3_26))); rw [rsB_1 (rsP_congr (fun _ _ _ _ => rfl) hvc_32 hw_33), hv_26.2.1, Nat.add_assoc]), hbb_31⟩, hP, hD, hS, (lv_sub hl [0, 2, 1, 3, 4, 5] rfl)⟩
          · refine lv_if_eq (tgt := 87) hx hb dX1_countRests_80 (by decide) (fun _ => ?_) (fun h => absurd (by decide) h)
            refine lv_iconst (v := 0) hx hb dX1_countRests_87 (by decide) ?_
            refine lv_iadd hx hb dX1_countRests_88 ?_
            refine lv_ti (y := (nI (rs3_26 + 0))) (nI_add rs3_26 0) ?_
            refine lv_istore_n (lv' := [(3, .int (nI (rs3_26 + 0))), (5, .int (nI b3_26)), (4, .int (nI aa_24)), (2, .int (nI pn)), (1, .int (nI pn)), (0, .ref z0)]) hx hb dX1_countRests_89 rfl hl (by decide) rfl (fun ls hl => ?_)
            refine lv_iinc (v := (nI (b3_26 + 1))) (lv' := [(5, .int (nI (b3_26 + 1))), (3, .int (nI (rs3_26 + 0))), (4, .int (nI aa_24)), (2, .int (nI pn)), (1, .int (nI pn)), (0, .ref z0)]) hx hb dX1_countRests_90 hl (k := 1) rfl (nI_add b3_26 1) (by decide) rfl (fun ls hl => ?_)
            refine lv_goto (tgt := 53) hx hb dX1_countRests_93 (by decide) ?_
            exact ih_26 _ (b3_26 + 1, rs3_26 + 0, d_31) _ _ _ (by omega) ⟨rfl, ⟨by omega, (by show _ = crO (rsA pn cc pf (kx pco pd pe pn)) (pn + 1) aa_24 + (crI ((rsA pn cc pf (kx pco pd pe pn)) aa_24) b3_26 + rsB (rsP pn cc pf (kx pco pd pe pn) (vc aa_24 b3_26))); rw [rsB_0 (fun q => hw_33 (rsP_congr (fun _ _ _ _ => rfl) (fun j hj => (hvc_32 j hj).symm) q)), hv_26.2.1, Nat.add_assoc]), hbb_31⟩, hP, hD, hS, (lv_sub hl [0, 2, 1, 3, 4, 5] rfl)⟩


set_option maxHeartbeats 4000000 in
set_option maxRecDepth 100000 in
theorem y_comeTo (l : Launch) (D : va_G) (k : Nat → ClassId) (st : Nat → Nat) (lo : Nat) (c0 : Nat) (z0 : Nat) (z1 : Nat) (z2 : Nat) (z3 : Nat) (pn : Int32) (pf : Int32) (pd : Int32) (pe : Int32) (pb : Nat → Nat) (pco : Nat → Int32) (h0 : Nat) (h1 : Nat) (h2 : Nat) (h3 : Nat) (h4 : Nat) (n : Nat) (see : Nat) (tm : Nat) (g : Nat → Int32) (ff : Nat → Int32) (fp : Nat → Int32) (fl : Nat → Int32) (c1 : Nat) (c2 : Nat) (cc : Nat) (rz : Nat) (ro : Int32) (sd : Int32) (wk : Nat → Int32) (br : Nat → Nat) (se9 : Nat) (hn : n ≤ 24) (hcc : cc ≤ 4) (hbr : ∀ j, br j ≤ 24) (hpb : ∀ j, pb j ≤ 24) (hl9 : ∀ r, r < 4 → fl r = pLate (sdX n see tm g ff fp) r) : CWv l D k st lo yX1_comeTo cX1_comeTo 5 none ({ frames := 1, cells := 0, slots := 0, locals := 60 }) 0 0 [.ref z0, .ref h0, .int (nI se9)] [(z0, .inr (1, (fX1 c0 z1 z2 z3 pn pf pd pe))), (aI k z1 4 (nF pb)), (aI k z2 100 pco), (h0, .inr (5, (fX5 h1 h2 h3 h4))), (aI k h1 10 (vv n see tm g)), (aI k h2 24 ff), (aI k h3 24 fp), (aI k h4 4 fl), (c0, .inr (4, (fX4 c1 c2 (nI cc) (nI rz) ro sd))), (aI k c1 4 wk), (aI k c2 4 (nF br))] (fun (u : (Nat → Nat) × (Nat → Int32)) => match u with | (pb_, pco_) => (∀ j, pb_ j ≤ 24) ∧ ∀ k, k < cc → ∀ i, i ≤ n → pco_ (k * 25 + i) = pC (sdX n see tm g ff fp) (wk k) i) (fun (u : (Nat → Nat) × (Nat → Int32)) => match u with | (pb_, pco_) => [(z0, .inr (1, (fX1 c0 z1 z2 z3 (nI n) (nI se9) 0 0))), (aI k z1 4 (nF pb_)), (aI k z2 100 pco_), (h0, .inr (5, (fX5 h1 h2 h3 h4))), (aI k h1 10 (vv n see tm g)), (aI k h2 24 ff), (aI k h3 24 fp), (aI k h4 4 fl), (c0, .inr (4, (fX4 c1 c2 (nI cc) (nI rz) ro sd))), (aI k c1 4 wk), (aI k c2 4 (nF br))]) := by
  intro sz
  refine Met.ofW (cc := cX1_comeTo) (maxL := 5) (ret := none) (by decide) rfl ?_
  intro p e s m args below meth c s₁ B hml hv
  obtain ⟨rfl, hsz, hlo, hP, hK, hDL, hZ⟩ := hv
  have hx := B.exec
  have hb := B.bytes
  have hr := B.returns
  have hts := WS_ts B.pre
  have hown : s.vm.findClass RX1 = some m.cls := findClass_of_methodNamed B.named
  have hlocks := B.notSynchronized
  subst hsz
  have hD := hDL.self (sz := s.heap.size)
  have hAlo := A_lo hDL hlo
  generalize hAe : va_A [(z0, .inr (1, (fX1 c0 z1 z2 z3 pn pf pd pe))), (aI k z1 4 (nF pb)), (aI k z2 100 pco), (h0, .inr (5, (fX5 h1 h2 h3 h4))), (aI k h1 10 (vv n see tm g)), (aI k h2 24 ff), (aI k h3 24 fp), (aI k h4 4 fl), (c0, .inr (4, (fX4 c1 c2 (nI cc) (nI rz) ro sd))), (aI k c1 4 wk), (aI k c2 4 (nF br))] s.heap.size = A at hD hAlo ⊢
  have hA : ∀ q : Nat, s.heap.size ≤ q → A q := fun q h => by rw [← hAe]; exact Or.inr h
  have hS : va_S A s.heap s.heap [] := va_S.rf
  have hl := lv_entry ([.ref z0, .ref h0, .int (nI se9)]) (n := 5) (Nat.le_of_ble_eq_true rfl)
  rw [lg_entry_eq]
  generalize (lg_sl ([.ref z0, .ref h0, .int (nI se9)]) ++ List.replicate (5 - (lg_sl ([.ref z0, .ref h0, .int (nI se9)])).length) Slot.unset).toArray = ls at hl ⊢
  have hl : lv_has ls 5 [(0, .ref z0), (1, .ref h0), (2, .int (nI se9))] := hl
  refine lv_aload_n hx hb dX1_comeTo_0 rfl (lv_at hl 0 rfl) ?_
  refine lv_aload_n hx hb dX1_comeTo_1 rfl (lv_at hl 1 rfl) ?_
  refine ro_i (D := D) (va_runV (As := []) (rest := [.ref z0]) ⟨hx, hb, hml, hown, hts⟩ ((x_doors l D k st lo h0 h1 h2 h3 h4 n see tm g) s.heap.size) (cwV 0 hts (gV tw_825 tw_478 tw_479 tw_81 tw_480) rfl rfl rfl (by decide +kernel) ⟨Nat.le_of_ble_eq_true rfl, Nat.le_of_ble_eq_true rfl⟩) (pV hS hAlo hlo hP hK (va_Dlo hD hAlo) hZ [3, 4] (by decide) rfl (ci := 5) (q := (RX5, TX5, 4)) (q0 := 0) rfl rfl) rfl rfl hl.1 rfl (lv_room (Nat.le_of_ble_eq_true rfl)) dX1_comeTo_2 ⟨Nat.le_of_ble_eq_true rfl, Nat.le_of_ble_eq_true rfl⟩) hS hA hP (fun r_1 H locs hw_1 hP hS => ?_)
  try dsimp only at hw_1
  subst hw_1
  refine va_put (D := D) (ci := 1) (v := .int (nI n)) (ty := .int) (C := RX1) (T := TX1) (N := 8) hx hb hts inX1 tyX1 tyX1_ok nmX1 hown hK hP hD hS 0 rfl rfl 4 (by decide) (hts _ tw_240) (fun _ h9 => h9) rfl (by decide +kernel) rfl rfl (Nat.le_of_ble_eq_true rfl) dX1_comeTo_5 (fun H locs hP hD hS => ?_)
  replace hP : va_P D classes [(z0, .inr (1, (fX1 c0 z1 z2 z3 (nI n) pf pd pe))), (aI k z1 4 (nF pb)), (aI k z2 100 pco), (h0, .inr (5, (fX5 h1 h2 h3 h4))), (aI k h1 10 (vv n see tm g)), (aI k h2 24 ff), (aI k h3 24 fp), (aI k h4 4 fl), (c0, .inr (4, (fX4 c1 c2 (nI cc) (nI rz) ro sd))), (aI k c1 4 wk), (aI k c2 4 (nF br))] H := hP
  replace hD : va_D A [(z0, .inr (1, (fX1 c0 z1 z2 z3 (nI n) pf pd pe))), (aI k z1 4 (nF pb)), (aI k z2 100 pco), (h0, .inr (5, (fX5 h1 h2 h3 h4))), (aI k h1 10 (vv n see tm g)), (aI k h2 24 ff), (aI k h3 24 fp), (aI k h4 4 fl), (c0, .inr (4, (fX4 c1 c2 (nI cc) (nI rz) ro sd))), (aI k c1 4 wk), (aI k c2 4 (nF br))] := hD
  refine lv_aload_n hx hb dX1_comeTo_8 rfl (lv_at hl 0 rfl) ?_
  refine lv_iload_n hx hb dX1_comeTo_9 rfl (lv_at hl 2 rfl) ?_
  refine va_put (D := D) (ci := 1) (v := .int (nI se9)) (ty := .int) (C := RX1) (T := TX1) (N := 8) hx hb hts inX1 tyX1 tyX1_ok nmX1 hown hK hP hD hS 0 rfl rfl 5 (by decide) (hts _ tw_241) (fun _ h9 => h9) rfl (by decide +kernel) rfl rfl (Nat.le_of_ble_eq_true rfl) dX1_comeTo_10 (fun H locs hP hD hS => ?_)
  replace hP : va_P D classes [(z0, .inr (1, (fX1 c0 z1 z2 z3 (nI n) (nI se9) pd pe))), (aI k z1 4 (nF pb)), (aI k z2 100 pco), (h0, .inr (5, (fX5 h1 h2 h3 h4))), (aI k h1 10 (vv n see tm g)), (aI k h2 24 ff), (aI k h3 24 fp), (aI k h4 4 fl), (c0, .inr (4, (fX4 c1 c2 (nI cc) (nI rz) ro sd))), (aI k c1 4 wk), (aI k c2 4 (nF br))] H := hP
  replace hD : va_D A [(z0, .inr (1, (fX1 c0 z1 z2 z3 (nI n) (nI se9) pd pe))), (aI k z1 4 (nF pb)), (aI k z2 100 pco), (h0, .inr (5, (fX5 h1 h2 h3 h4))), (aI k h1 10 (vv n see tm g)), (aI k h2 24 ff), (aI k h3 24 fp), (aI k h4 4 fl), (c0, .inr (4, (fX4 c1 c2 (nI cc) (nI rz) ro sd))), (aI k c1 4 wk), (aI k c2 4 (nF br))] := hD
  refine lv_aload_n hx hb dX1_comeTo_13 rfl (lv_at hl 0 rfl) ?_
  refine lv_iconst (v := 0) hx hb dX1_comeTo_14 (by decide) ?_
  refine va_put (D := D) (ci := 1) (v := .int 0) (ty := .int) (C := RX1) (T := TX1) (N := 8) hx hb hts inX1 tyX1 tyX1_ok nmX1 hown hK hP hD hS 0 rfl rfl 6 (by decide) (hts _ tw_242) (fun _ h9 => h9) rfl (by decide +kernel) rfl rfl (Nat.le_of_ble_eq_true rfl) dX1_comeTo_15 (fun H locs hP hD hS => ?_)
  replace hP : va_P D classes [(z0, .inr (1, (fX1 c0 z1 z2 z3 (nI n) (nI se9) 0 pe))), (aI k z1 4 (nF pb)), (aI k z2 100 pco), (h0, .inr (5, (fX5 h1 h2 h3 h4))), (aI k h1 10 (vv n see tm g)), (aI k h2 24 ff), (aI k h3 24 fp), (aI k h4 4 fl), (c0, .inr (4, (fX4 c1 c2 (nI cc) (nI rz) ro sd))), (aI k c1 4 wk), (aI k c2 4 (nF br))] H := hP
  replace hD : va_D A [(z0, .inr (1, (fX1 c0 z1 z2 z3 (nI n) (nI se9) 0 pe))), (aI k z1 4 (nF pb)), (aI k z2 100 pco), (h0, .inr (5, (fX5 h1 h2 h3 h4))), (aI k h1 10 (vv n see tm g)), (aI k h2 24 ff), (aI k h3 24 fp), (aI k h4 4 fl), (c0, .inr (4, (fX4 c1 c2 (nI cc) (nI rz) ro sd))), (aI k c1 4 wk), (aI k c2 4 (nF br))] := hD
  refine lv_aload_n hx hb dX1_comeTo_18 rfl (lv_at hl 0 rfl) ?_
  refine lv_iconst (v := 0) hx hb dX1_comeTo_19 (by decide) ?_
  refine va_put (D := D) (ci := 1) (v := .int 0) (ty := .int) (C := RX1) (T := TX1) (N := 8) hx hb hts inX1 tyX1 tyX1_ok nmX1 hown hK hP hD hS 0 rfl rfl 7 (by decide) (hts _ tw_243) (fun _ h9 => h9) rfl (by decide +kernel) rfl rfl (Nat.le_of_ble_eq_true rfl) dX1_comeTo_20 (fun H locs hP hD hS => ?_)
  replace hP : va_P D classes [(z0, .inr (1, (fX1 c0 z1 z2 z3 (nI n) (nI se9) 0 0))), (aI k z1 4 (nF pb)), (aI k z2 100 pco), (h0, .inr (5, (fX5 h1 h2 h3 h4))), (aI k h1 10 (vv n see tm g)), (aI k h2 24 ff), (aI k h3 24 fp), (aI k h4 4 fl), (c0, .inr (4, (fX4 c1 c2 (nI cc) (nI rz) ro sd))), (aI k c1 4 wk), (aI k c2 4 (nF br))] H := hP
  replace hD : va_D A [(z0, .inr (1, (fX1 c0 z1 z2 z3 (nI n) (nI se9) 0 0))), (aI k z1 4 (nF pb)), (aI k z2 100 pco), (h0, .inr (5, (fX5 h1 h2 h3 h4))), (aI k h1 10 (vv n see tm g)), (aI k h2 24 ff), (aI k h3 24 fp), (aI k h4 4 fl), (c0, .inr (4, (fX4 c1 c2 (nI cc) (nI rz) ro sd))), (aI k c1 4 wk), (aI k c2 4 (nF br))] := hD
  refine lv_aload_n hx hb dX1_comeTo_23 rfl (lv_at hl 0 rfl) ?_
  refine va_get (D := D) (ci := 1) (v := .ref c0) (C := RX1) (T := TX1) (N := 8) hx hb hts inX1 hown hK hP 0 rfl rfl 0 (by decide) (hts _ tw_235) (fun _ h9 => h9) rfl dX1_comeTo_24 ?_
  refine va_get (D := D) (ci := 4) (v := .ref c2) (C := RX4) (T := TX4) (N := 6) hx hb hts inX4 hown hK hP 8 rfl rfl 1 (by decide) (hts _ tw_176) (fun _ h9 => h9) rfl dX1_comeTo_27 ?_
  refine lv_iconst (v := 0) hx hb dX1_comeTo_30 (by decide) ?_
  refine lv_aload_n hx hb dX1_comeTo_31 rfl (lv_at hl 0 rfl) ?_
  refine va_get (D := D) (ci := 1) (v := .ref z1) (C := RX1) (T := TX1) (N := 8) hx hb hts inX1 hown hK hP 0 rfl rfl 1 (by decide) (hts _ tw_236) (fun _ h9 => h9) rfl dX1_comeTo_32 ?_
  refine lv_iconst (v := 0) hx hb dX1_comeTo_35 (by decide) ?_
  refine lv_iconst (v := 4) hx hb dX1_comeTo_36 (by decide) ?_
  refine va_copyi hx hb (by rw [hml]; exact hl.1.symm) hown (hts _ tw_826) (hts _ tw_366) (hts _ tw_365) (hts _ tw_88) hK hP hD hS 10 1 1 1 rfl rfl rfl rfl rfl (by decide) (by decide) (by decide) (by decide) (by decide) (fun _ _ => rfl) (Nat.le_of_ble_eq_true rfl) (Nat.le_of_ble_eq_true rfl) dX1_comeTo_37 (fun H locs hP hD hS => ?_)
  replace hP : va_P D classes [(z0, .inr (1, (fX1 c0 z1 z2 z3 (nI n) (nI se9) 0 0))), (aI k z1 4 (va_cpy (nF br) (nF pb) 0 0 4)), (aI k z2 100 pco), (h0, .inr (5, (fX5 h1 h2 h3 h4))), (aI k h1 10 (vv n see tm g)), (aI k h2 24 ff), (aI k h3 24 fp), (aI k h4 4 fl), (c0, .inr (4, (fX4 c1 c2 (nI cc) (nI rz) ro sd))), (aI k c1 4 wk), (aI k c2 4 (nF br))] H := hP
  replace hD : va_D A [(z0, .inr (1, (fX1 c0 z1 z2 z3 (nI n) (nI se9) 0 0))), (aI k z1 4 (va_cpy (nF br) (nF pb) 0 0 4)), (aI k z2 100 pco), (h0, .inr (5, (fX5 h1 h2 h3 h4))), (aI k h1 10 (vv n see tm g)), (aI k h2 24 ff), (aI k h3 24 fp), (aI k h4 4 fl), (c0, .inr (4, (fX4 c1 c2 (nI cc) (nI rz) ro sd))), (aI k c1 4 wk), (aI k c2 4 (nF br))] := hD
  obtain ⟨d_2, hd_2, hbb_2⟩ := nF_cpy hbr hpb
  rw [show va_cpy (nF br) (nF pb) 0 0 4 = nF d_2 from hd_2] at hP hD
  replace hP : va_P D classes [(z0, .inr (1, (fX1 c0 z1 z2 z3 (nI n) (nI se9) 0 0))), (aI k z1 4 (nF d_2)), (aI k z2 100 pco), (h0, .inr (5, (fX5 h1 h2 h3 h4))), (aI k h1 10 (vv n see tm g)), (aI k h2 24 ff), (aI k h3 24 fp), (aI k h4 4 fl), (c0, .inr (4, (fX4 c1 c2 (nI cc) (nI rz) ro sd))), (aI k c1 4 wk), (aI k c2 4 (nF br))] H := hP
  replace hD : va_D A [(z0, .inr (1, (fX1 c0 z1 z2 z3 (nI n) (nI se9) 0 0))), (aI k z1 4 (nF d_2)), (aI k z2 100 pco), (h0, .inr (5, (fX5 h1 h2 h3 h4))), (aI k h1 10 (vv n see tm g)), (aI k h2 24 ff), (aI k h3 24 fp), (aI k h4 4 fl), (c0, .inr (4, (fX4 c1 c2 (nI cc) (nI rz) ro sd))), (aI k c1 4 wk), (aI k c2 4 (nF br))] := hD
  refine lv_iconst (v := 0) hx hb dX1_comeTo_40 (by decide) ?_
  refine lv_istore_n (lv' := [(3, .int 0), (0, .ref z0), (1, .ref h0), (2, .int (nI se9))]) hx hb dX1_comeTo_41 rfl hl (by decide) rfl (fun ls hl => ?_)
  refine W_loop (σ := Nat × (Nat → Int32)) (fun (n_ : Nat) (x_ : Nat × (Nat → Int32)) (H : Heap) (locs : List Loc) (ls : Array Slot) => match x_ with | (cn2_4, pco2_4) => n_ = 5 - cn2_4 ∧ (cn2_4 ≤ cc ∧ ∀ k, k < cn2_4 → ∀ i, i ≤ n → pco2_4 (k * 25 + i) = pC (sdX n see tm g ff fp) (wk k) i) ∧ va_P D classes [(z0, .inr (1, (fX1 c0 z1 z2 z3 (nI n) (nI se9) 0 0))), (aI k z1 4 (nF d_2)), (aI k z2 100 pco2_4), (h0, .inr (5, (fX5 h1 h2 h3 h4))), (aI k h1 10 (vv n see tm g)), (aI k h2 24 ff), (aI k h3 24 fp), (aI k h4 4 fl), (c0, .inr (4, (fX4 c1 c2 (nI cc) (nI rz) ro sd))), (aI k c1 4 wk), (aI k c2 4 (nF br))] H ∧ va_D A [(z0, .inr (1, (fX1 c0 z1 z2 z3 (nI n) (nI se9) 0 0))), (aI k z1 4 (nF d_2)), (aI k z2 100 pco2_4), (h0, .inr (5, (fX5 h1 h2 h3 h4))), (aI k h1 10 (vv n see tm g)), (aI k h2 24 ff), (aI k h3 24 fp), (aI k h4 4 fl), (c0, .inr (4, (fX4 c1 c2 (nI cc) (nI rz) ro sd))), (aI k c1 4 wk), (aI k c2 4 (nF br))] ∧ va_S A s.heap H locs ∧ lv_has ls 5 [(3, .int (nI cn2_4)), (0, .ref z0), (1, .ref h0), (2, .int (nI se9))]) (fun n_4 x_4 H locs ls hI ih_4 => ?_) _ (0, pco) ⟨rfl, ⟨by omega, fun k h => absurd h (Nat.not_lt_zero k)⟩, hP, hD, hS, (lv_sub hl [0, 1, 2, 3] rfl)⟩
  obtain ⟨cn2_4, pco2_4⟩ := x_4
  obtain ⟨hm_4, hv_4, hP, hD, hS, hl⟩ := hI
  subst hm_4
  refine lv_iload_n hx hb dX1_comeTo_42 rfl (lv_at hl 0 rfl) ?_
  refine lv_aload_n hx hb dX1_comeTo_43 rfl (lv_at hl 1 rfl) ?_
  refine va_get (D := D) (ci := 1) (v := .ref c0) (C := RX1) (T := TX1) (N := 8) hx hb hts inX1 hown hK hP 0 rfl rfl 0 (by decide) (hts _ tw_235) (fun _ h9 => h9) rfl dX1_comeTo_44 ?_
  refine va_get (D := D) (ci := 4) (v := .int (nI cc)) (C := RX4) (T := TX4) (N := 6) hx hb hts inX4 hown hK hP 8 rfl rfl 2 (by decide) (hts _ tw_179) (fun _ h9 => h9) rfl dX1_comeTo_47 ?_
  refine lv_icmp_ge (tgt := 142) hx hb dX1_comeTo_50 (by decide) (fun c_5 => ?_) (fun c_5 => ?_)
  · have c_5 := (nI_leI (a := cc) (b := cn2_4) (by omega) (by omega)).mp c_5
    have hP9 := hP.sub (ws' := [(z0, .inr (1, (fX1 c0 z1 z2 z3 (nI n) (nI se9) 0 0))), (aI k z1 4 (nF d_2)), (aI k z2 100 pco2_4), (h0, .inr (5, (fX5 h1 h2 h3 h4))), (aI k h1 10 (vv n see tm g)), (aI k h2 24 ff), (aI k h3 24 fp), (aI k h4 4 fl), (c0, .inr (4, (fX4 c1 c2 (nI cc) (nI rz) ro sd))), (aI k c1 4 wk), (aI k c2 4 (nF br))]) [0, 1, 2, 3, 4, 5, 6, 7, 8, 9, 10] rfl
    have hD9 := hD.sub (ws' := [(z0, .inr (1, (fX1 c0 z1 z2 z3 (nI n) (nI se9) 0 0))), (aI k z1 4 (nF d_2)), (aI k z2 100 pco2_4), (h0, .inr (5, (fX5 h1 h2 h3 h4))), (aI k h1 10 (vv n see tm g)), (aI k h2 24 ff), (aI k h3 24 fp), (aI k h4 4 fl), (c0, .inr (4, (fX4 c1 c2 (nI cc) (nI rz) ro sd))), (aI k c1 4 wk), (aI k c2 4 (nF br))]) [0, 1, 2, 3, 4, 5, 6, 7, 8, 9, 10] (by decide +kernel) rfl
    exact W.vret hx hb hr (fun t ht hW => ⟨⟨(d_2, pco2_4), rfl, ⟨hbb_2, fun k hk => hv_4.2 k (by omega)⟩, by rw [ht]; exact hP9, hD9⟩, hS.F ht⟩) hS.2.2 dX1_comeTo_142
  · have c_5 : ¬ (cc ≤ cn2_4) := fun h => c_5 ((nI_leI (a := cc) (b := cn2_4) (by omega) (by omega)).mpr h)
    refine lv_iconst (v := 0) hx hb dX1_comeTo_53 (by decide) ?_
    refine lv_istore (lv' := [(4, .int 0), (3, .int (nI cn2_4)), (0, .ref z0), (1, .ref h0), (2, .int (nI se9))]) hx hb dX1_comeTo_54 hl (by decide) rfl (fun ls hl => ?_)
    refine W_loop (σ := Nat × (Nat → Int32)) (fun (n_ : Nat) (x_ : Nat × (Nat → Int32)) (H : Heap) (locs : List Loc) (ls : Array Slot) => match x_ with | (ii_6, pco3_6) => n_ = 25 - ii_6 ∧ (ii_6 ≤ n ∧ (∀ k, k < cn2_4 → ∀ i, i ≤ n → pco3_6 (k * 25 + i) = pC (sdX n see tm g ff fp) (wk k) i) ∧ (∀ i, i < ii_6 → pco3_6 (cn2_4 * 25 + i) = pC (sdX n see tm g ff fp) (wk cn2_4) i)) ∧ va_P D classes [(z0, .inr (1, (fX1 c0 z1 z2 z3 (nI n) (nI se9) 0 0))), (aI k z1 4 (nF d_2)), (aI k z2 100 pco3_6), (h0, .inr (5, (fX5 h1 h2 h3 h4))), (aI k h1 10 (vv n see tm g)), (aI k h2 24 ff), (aI k h3 24 fp), (aI k h4 4 fl), (c0, .inr (4, (fX4 c1 c2 (nI cc) (nI rz) ro sd))), (aI k c1 4 wk), (aI k c2 4 (nF br))] H ∧ va_D A [(z0, .inr (1, (fX1 c0 z1 z2 z3 (nI n) (nI se9) 0 0))), (aI k z1 4 (nF d_2)), (aI k z2 100 pco3_6), (h0, .inr (5, (fX5 h1 h2 h3 h4))), (aI k h1 10 (vv n see tm g)), (aI k h2 24 ff), (aI k h3 24 fp), (aI k h4 4 fl), (c0, .inr (4, (fX4 c1 c2 (nI cc) (nI rz) ro sd))), (aI k c1 4 wk), (aI k c2 4 (nF br))] ∧ va_S A s.heap H locs ∧ lv_has ls 5 [(4, .int (nI ii_6)), (3, .int (nI cn2_4)), (0, .ref z0), (1, .ref h0), (2, .int (nI se9))]) (fun n_6 x_6 H locs ls hI ih_6 => ?_) _ (0, pco2_4) ⟨rfl, ⟨by omega, hv_4.2, fun i h => absurd h (Nat.not_lt_zero i)⟩, hP, hD, hS, (lv_sub hl [0, 1, 2, 3, 4] rfl)⟩
    obtain ⟨ii_6, pco3_6⟩ := x_6
    obtain ⟨hm_6, hv_6, hP, hD, hS, hl⟩ := hI
    subst hm_6
    refine lv_iload hx hb dX1_comeTo_56 (lv_at hl 0 rfl) ?_
    refine lv_aload_n hx hb dX1_comeTo_58 rfl (lv_at hl 2 rfl) ?_
    refine va_get (D := D) (ci := 1) (v := .int (nI n)) (C := RX1) (T := TX1) (N := 8) hx hb hts inX1 hown hK hP 0 rfl rfl 4 (by decide) (hts _ tw_240) (fun _ h9 => h9) rfl dX1_comeTo_59 ?_
    refine lv_icmp_ge (tgt := 107) hx hb dX1_comeTo_62 (by decide) (fun c_7 => ?_) (fun c_7 => ?_)
    · have c_7 := (nI_leI (a := n) (b := ii_6) (by omega) (by omega)).mp c_7
      refine lv_aload_n hx hb dX1_comeTo_107 rfl (lv_at hl 2 rfl) ?_
      refine va_get (D := D) (ci := 1) (v := .ref z2) (C := RX1) (T := TX1) (N := 8) hx hb hts inX1 hown hK hP 0 rfl rfl 2 (by decide) (hts _ tw_238) (fun _ h9 => h9) rfl dX1_comeTo_108 ?_
      refine lv_iload_n hx hb dX1_comeTo_111 rfl (lv_at hl 1 rfl) ?_
      refine lv_bipush (v := 25) hx hb dX1_comeTo_112 (by decide) ?_
      refine lv_imul hx hb dX1_comeTo_114 ?_
      refine lv_ti (y := (nI (cn2_4 * 25))) (pk_mul cn2_4 25) ?_
      refine lv_aload_n hx hb dX1_comeTo_115 rfl (lv_at hl 2 rfl) ?_
      refine va_get (D := D) (ci := 1) (v := .int (nI n)) (C := RX1) (T := TX1) (N := 8) hx hb hts inX1 hown hK hP 0 rfl rfl 4 (by decide) (hts _ tw_240) (fun _ h9 => h9) rfl dX1_comeTo_116 ?_
      refine lv_iadd hx hb dX1_comeTo_119 ?_
      refine lv_ti (y := (nI (cn2_4 * 25 + n))) (nI_add (cn2_4 * 25) n) ?_
      refine lv_aload_n hx hb dX1_comeTo_120 rfl (lv_at hl 3 rfl) ?_
      refine lv_iconst (v := 0) hx hb dX1_comeTo_121 (by decide) ?_
      refine ro_i (D := D) (va_runV (As := [.int 0]) (rest := [.int (nI (cn2_4 * 25 + n)), .ref z2]) ⟨hx, hb, hml, hown, hts⟩ ((y_garageOf l D k st lo h0 h1 h2 h3 h4 n see tm g fl 0 (by first | assumption | omega)) H.size) (cwV 1 hts (gV tw_829 tw_521 tw_522 tw_81 tw_523) rfl rfl rfl (by decide +kernel) ⟨Nat.le_of_ble_eq_true rfl, Nat.le_of_ble_eq_true rfl⟩) (pV hS hAlo hlo hP hK (va_Dlo hD hAlo) hZ [3, 4, 7] (by decide) rfl (ci := 5) (q := (RX5, TX5, 4)) (q0 := 0) rfl rfl) rfl rfl hl.1 rfl (lv_room (Nat.le_of_ble_eq_true rfl)) dX1_comeTo_122 ⟨Nat.le_of_ble_eq_true rfl, Nat.le_of_ble_eq_true rfl⟩) hS hA hP (fun r_8 H locs hw_8 hP hS => ?_)
      try dsimp only at hw_8
      refine lv_aload_n hx hb dX1_comeTo_125 rfl (lv_at hl 2 rfl) ?_
      refine va_get (D := D) (ci := 1) (v := .int (nI n)) (C := RX1) (T := TX1) (N := 8) hx hb hts inX1 hown hK hP 0 rfl rfl 4 (by decide) (hts _ tw_240) (fun _ h9 => h9) rfl dX1_comeTo_126 ?_
      refine lv_aload_n hx hb dX1_comeTo_129 rfl (lv_at hl 3 rfl) ?_
      refine ro_i (D := D) (va_runV (As := []) (rest := [.int (nI n), .int r_8, .int (nI (cn2_4 * 25 + n)), .ref z2]) ⟨hx, hb, hml, hown, hts⟩ ((y_passing l D k st lo h0 h1 h2 h3 h4 n see tm g) H.size) (cwV 0 hts (gV tw_828 tw_573 tw_574 tw_81 tw_575) rfl rfl rfl (by decide +kernel) ⟨Nat.le_of_ble_eq_true rfl, Nat.le_of_ble_eq_true rfl⟩) (pV hS hAlo hlo hP hK (va_Dlo hD hAlo) hZ [3, 4] (by decide) rfl (ci := 5) (q := (RX5, TX5, 4)) (q0 := 0) rfl rfl) rfl rfl hl.1 rfl (lv_room (Nat.le_of_ble_eq_true rfl)) dX1_comeTo_130 ⟨Nat.le_of_ble_eq_true rfl, Nat.le_of_ble_eq_true rfl⟩) hS hA hP (fun r_9 H locs hw_9 hP hS => ?_)
      try dsimp only at hw_9
      refine lv_imul hx hb dX1_comeTo_133 ?_
      refine lv_topi (fun x_10 ex_10 => ?_)
      refine lv_iadd hx hb dX1_comeTo_134 ?_
      refine lv_topi (fun x_11 ex_11 => ?_)
      refine va_iast hx hb hK hP hD hS 2 1 rfl rfl (vp_in_nI (by omega) (by decide)) dX1_comeTo_135 (fun H locs hP hD hS => ?_)
      replace hP : va_P D classes [(z0, .inr (1, (fX1 c0 z1 z2 z3 (nI n) (nI se9) 0 0))), (aI k z1 4 (nF d_2)), (aI k z2 100 (upd pco3_6 (Int32.toNatClampNeg (nI (cn2_4 * 25 + n))) x_11)), (h0, .inr (5, (fX5 h1 h2 h3 h4))), (aI k h1 10 (vv n see tm g)), (aI k h2 24 ff), (aI k h3 24 fp), (aI k h4 4 fl), (c0, .inr (4, (fX4 c1 c2 (nI cc) (nI rz) ro sd))), (aI k c1 4 wk), (aI k c2 4 (nF br))] H := hP
      replace hD : va_D A [(z0, .inr (1, (fX1 c0 z1 z2 z3 (nI n) (nI se9) 0 0))), (aI k z1 4 (nF d_2)), (aI k z2 100 (upd pco3_6 (Int32.toNatClampNeg (nI (cn2_4 * 25 + n))) x_11)), (h0, .inr (5, (fX5 h1 h2 h3 h4))), (aI k h1 10 (vv n see tm g)), (aI k h2 24 ff), (aI k h3 24 fp), (aI k h4 4 fl), (c0, .inr (4, (fX4 c1 c2 (nI cc) (nI rz) ro sd))), (aI k c1 4 wk), (aI k c2 4 (nF br))] := hD
      rw [nI_clamp (n := (cn2_4 * 25 + n)) (by omega)] at hP hD
      replace hP : va_P D classes [(z0, .inr (1, (fX1 c0 z1 z2 z3 (nI n) (nI se9) 0 0))), (aI k z1 4 (nF d_2)), (aI k z2 100 (upd pco3_6 (cn2_4 * 25 + n) x_11)), (h0, .inr (5, (fX5 h1 h2 h3 h4))), (aI k h1 10 (vv n see tm g)), (aI k h2 24 ff), (aI k h3 24 fp), (aI k h4 4 fl), (c0, .inr (4, (fX4 c1 c2 (nI cc) (nI rz) ro sd))), (aI k c1 4 wk), (aI k c2 4 (nF br))] H := hP
      replace hD : va_D A [(z0, .inr (1, (fX1 c0 z1 z2 z3 (nI n) (nI se9) 0 0))), (aI k z1 4 (nF d_2)), (aI k z2 100 (upd pco3_6 (cn2_4 * 25 + n) x_11)), (h0, .inr (5, (fX5 h1 h2 h3 h4))), (aI k h1 10 (vv n see tm g)), (aI k h2 24 ff), (aI k h3 24 fp), (aI k h4 4 fl), (c0, .inr (4, (fX4 c1 c2 (nI cc) (nI rz) ro sd))), (aI k c1 4 wk), (aI k c2 4 (nF br))] := hD
      refine lv_iinc (v := (nI (cn2_4 + 1))) (lv' := [(3, .int (nI (cn2_4 + 1))), (4, .int (nI ii_6)), (0, .ref z0), (1, .ref h0), (2, .int (nI se9))]) hx hb dX1_comeTo_136 hl (k := 1) rfl (nI_add cn2_4 1) (by decide) rfl (fun ls hl => ?_)
      refine lv_goto (tgt := 42) hx hb dX1_comeTo_139 (by decide) ?_
      exact ih_4 _ (cn2_4 + 1, (upd pco3_6 (cn2_4 * 25 + n) x_11)) _ _ _ (by omega) ⟨rfl, ⟨by omega, fun k hk i hi => by rcases (show k = cn2_4 ∨ k < cn2_4 by omega) with e | e; rw [e]; rcases (show i = n ∨ i < n by omega) with q | q; rw [q, pk_us]; exact (by rw [ex_11, ex_10, hw_8, hw_9, xGar (see := see) (tm := tm) (ff := ff) (fp := fp) (hl9 0 (by omega)), xPass (n := n) (see := see) (tm := tm) (ff := ff) (fp := fp)]; exact pC_n); rw [pk_un (by omega)]; exact hv_6.2.2 i (by omega); rw [pk_un (by omega)]; exact hv_6.2.1 k e i hi⟩, hP, hD, hS, (lv_sub hl [0, 2, 3, 4] rfl)⟩
    · have c_7 : ¬ (n ≤ ii_6) := fun h => c_7 ((nI_leI (a := n) (b := ii_6) (by omega) (by omega)).mpr h)
      refine lv_aload_n hx hb dX1_comeTo_65 rfl (lv_at hl 2 rfl) ?_
      refine va_get (D := D) (ci := 1) (v := .ref z2) (C := RX1) (T := TX1) (N := 8) hx hb hts inX1 hown hK hP 0 rfl rfl 2 (by decide) (hts _ tw_238) (fun _ h9 => h9) rfl dX1_comeTo_66 ?_
      refine lv_iload_n hx hb dX1_comeTo_69 rfl (lv_at hl 1 rfl) ?_
      refine lv_bipush (v := 25) hx hb dX1_comeTo_70 (by decide) ?_
      refine lv_imul hx hb dX1_comeTo_72 ?_
      refine lv_ti (y := (nI (cn2_4 * 25))) (pk_mul cn2_4 25) ?_
      refine lv_iload hx hb dX1_comeTo_73 (lv_at hl 0 rfl) ?_
      refine lv_iadd hx hb dX1_comeTo_75 ?_
      refine lv_ti (y := (nI (cn2_4 * 25 + ii_6))) (nI_add (cn2_4 * 25) ii_6) ?_
      refine lv_aload_n hx hb dX1_comeTo_76 rfl (lv_at hl 3 rfl) ?_
      refine lv_aload_n hx hb dX1_comeTo_77 rfl (lv_at hl 2 rfl) ?_
      refine va_get (D := D) (ci := 1) (v := .ref c0) (C := RX1) (T := TX1) (N := 8) hx hb hts inX1 hown hK hP 0 rfl rfl 0 (by decide) (hts _ tw_235) (fun _ h9 => h9) rfl dX1_comeTo_78 ?_
      refine va_get (D := D) (ci := 4) (v := .ref c1) (C := RX4) (T := TX4) (N := 6) hx hb hts inX4 hown hK hP 8 rfl rfl 0 (by decide) (hts _ tw_174) (fun _ h9 => h9) rfl dX1_comeTo_81 ?_
      refine lv_iload_n hx hb dX1_comeTo_84 rfl (lv_at hl 1 rfl) ?_
      refine va_iald hx hb hK hP 9 1 rfl rfl (vp_in_nI (by omega) (by decide)) dX1_comeTo_85 ?_
      refine lv_ti (y := (wk cn2_4)) (by rw [nI_clamp (by omega)]) ?_
      refine lv_iconst (v := 0) hx hb dX1_comeTo_86 (by decide) ?_
      refine lv_iload hx hb dX1_comeTo_87 (lv_at hl 0 rfl) ?_
      refine ro_i (D := D) (va_runV (As := [.int (wk cn2_4), .int 0, .int (nI ii_6)]) (rest := [.int (nI (cn2_4 * 25 + ii_6)), .ref z2]) ⟨hx, hb, hml, hown, hts⟩ ((y_takingBy l D k st lo h0 h1 h2 h3 h4 n see tm g fp fl (wk cn2_4) 0 ii_6 (by first | assumption | omega) (by first | assumption | omega)) H.size) (cwV 3 hts (gV tw_827 tw_561 tw_562 tw_81 tw_563) rfl rfl rfl (by decide +kernel) ⟨Nat.le_of_ble_eq_true rfl, Nat.le_of_ble_eq_true rfl⟩) (pV hS hAlo hlo hP hK (va_Dlo hD hAlo) hZ [3, 4, 6, 7] (by decide) rfl (ci := 5) (q := (RX5, TX5, 4)) (q0 := 0) rfl rfl) rfl rfl hl.1 rfl (lv_room (Nat.le_of_ble_eq_true rfl)) dX1_comeTo_89 ⟨Nat.le_of_ble_eq_true rfl, Nat.le_of_ble_eq_true rfl⟩) hS hA hP (fun r_13 H locs hw_13 hP hS => ?_)
      try dsimp only at hw_13
      refine lv_iload hx hb dX1_comeTo_92 (lv_at hl 0 rfl) ?_
      refine lv_aload_n hx hb dX1_comeTo_94 rfl (lv_at hl 3 rfl) ?_
      refine ro_i (D := D) (va_runV (As := []) (rest := [.int (nI ii_6), .int r_13, .int (nI (cn2_4 * 25 + ii_6)), .ref z2]) ⟨hx, hb, hml, hown, hts⟩ ((y_passing l D k st lo h0 h1 h2 h3 h4 n see tm g) H.size) (cwV 0 hts (gV tw_828 tw_573 tw_574 tw_81 tw_575) rfl rfl rfl (by decide +kernel) ⟨Nat.le_of_ble_eq_true rfl, Nat.le_of_ble_eq_true rfl⟩) (pV hS hAlo hlo hP hK (va_Dlo hD hAlo) hZ [3, 4] (by decide) rfl (ci := 5) (q := (RX5, TX5, 4)) (q0 := 0) rfl rfl) rfl rfl hl.1 rfl (lv_room (Nat.le_of_ble_eq_true rfl)) dX1_comeTo_95 ⟨Nat.le_of_ble_eq_true rfl, Nat.le_of_ble_eq_true rfl⟩) hS hA hP (fun r_14 H locs hw_14 hP hS => ?_)
      try dsimp only at hw_14
      refine lv_imul hx hb dX1_comeTo_98 ?_
      refine lv_topi (fun x_15 ex_15 => ?_)
      refine lv_iadd hx hb dX1_comeTo_99 ?_
      refine lv_topi (fun x_16 ex_16 => ?_)
      refine va_iast hx hb hK hP hD hS 2 1 rfl rfl (vp_in_nI (by omega) (by decide)) dX1_comeTo_100 (fun H locs hP hD hS => ?_)
      replace hP : va_P D classes [(z0, .inr (1, (fX1 c0 z1 z2 z3 (nI n) (nI se9) 0 0))), (aI k z1 4 (nF d_2)), (aI k z2 100 (upd pco3_6 (Int32.toNatClampNeg (nI (cn2_4 * 25 + ii_6))) x_16)), (h0, .inr (5, (fX5 h1 h2 h3 h4))), (aI k h1 10 (vv n see tm g)), (aI k h2 24 ff), (aI k h3 24 fp), (aI k h4 4 fl), (c0, .inr (4, (fX4 c1 c2 (nI cc) (nI rz) ro sd))), (aI k c1 4 wk), (aI k c2 4 (nF br))] H := hP
      replace hD : va_D A [(z0, .inr (1, (fX1 c0 z1 z2 z3 (nI n) (nI se9) 0 0))), (aI k z1 4 (nF d_2)), (aI k z2 100 (upd pco3_6 (Int32.toNatClampNeg (nI (cn2_4 * 25 + ii_6))) x_16)), (h0, .inr (5, (fX5 h1 h2 h3 h4))), (aI k h1 10 (vv n see tm g)), (aI k h2 24 ff), (aI k h3 24 fp), (aI k h4 4 fl), (c0, .inr (4, (fX4 c1 c2 (nI cc) (nI rz) ro sd))), (aI k c1 4 wk), (aI k c2 4 (nF br))] := hD
      rw [nI_clamp (n := (cn2_4 * 25 + ii_6)) (by omega)] at hP hD
      replace hP : va_P D classes [(z0, .inr (1, (fX1 c0 z1 z2 z3 (nI n) (nI se9) 0 0))), (aI k z1 4 (nF d_2)), (aI k z2 100 (upd pco3_6 (cn2_4 * 25 + ii_6) x_16)), (h0, .inr (5, (fX5 h1 h2 h3 h4))), (aI k h1 10 (vv n see tm g)), (aI k h2 24 ff), (aI k h3 24 fp), (aI k h4 4 fl), (c0, .inr (4, (fX4 c1 c2 (nI cc) (nI rz) ro sd))), (aI k c1 4 wk), (aI k c2 4 (nF br))] H := hP
      replace hD : va_D A [(z0, .inr (1, (fX1 c0 z1 z2 z3 (nI n) (nI se9) 0 0))), (aI k z1 4 (nF d_2)), (aI k z2 100 (upd pco3_6 (cn2_4 * 25 + ii_6) x_16)), (h0, .inr (5, (fX5 h1 h2 h3 h4))), (aI k h1 10 (vv n see tm g)), (aI k h2 24 ff), (aI k h3 24 fp), (aI k h4 4 fl), (c0, .inr (4, (fX4 c1 c2 (nI cc) (nI rz) ro sd))), (aI k c1 4 wk), (aI k c2 4 (nF br))] := hD
      refine lv_iinc (v := (nI (ii_6 + 1))) (lv' := [(4, .int (nI (ii_6 + 1))), (3, .int (nI cn2_4)), (0, .ref z0), (1, .ref h0), (2, .int (nI se9))]) hx hb dX1_comeTo_101 hl (k := 0) rfl (nI_add ii_6 1) (by decide) rfl (fun ls hl => ?_)
      refine lv_goto (tgt := 56) hx hb dX1_comeTo_104 (by decide) ?_
      exact ih_6 _ (ii_6 + 1, (upd pco3_6 (cn2_4 * 25 + ii_6) x_16)) _ _ _ (by omega) ⟨rfl, ⟨by omega, fun k hk i hi => (pk_un (by omega)).trans (hv_6.2.1 k hk i hi), fun i hi => by rcases (show i = ii_6 ∨ i < ii_6 by omega) with e | e; rw [e, pk_us]; exact (by rw [ex_16, ex_15, hw_13, hw_14, xTakeBy (see := see) (tm := tm) (ff := ff) (g := g) (show ii_6 < n by omega) (hl9 0 (by omega)), xPass (n := n) (see := see) (tm := tm) (ff := ff) (fp := fp)]; exact pC_i (show ii_6 < n by omega)); rw [pk_un (by omega)]; exact hv_6.2.2 i e⟩, hP, hD, hS, (lv_sub hl [0, 1, 2, 3, 4] rfl)⟩


set_option maxHeartbeats 4000000 in
set_option maxRecDepth 100000 in
theorem y_isSet_0 (l : Launch) (D : va_G) (k : Nat → ClassId) (st : Nat → Nat) (lo : Nat) (a : Nat → Nat) (rk : Nat) (lfa : Int32) (n0 : Nat) (see0 : Nat) (tm0 : Nat) (g0 : Nat → Int32) (p1 : Int32) (hn0 : n0 ≤ 24) : CRi l D k st lo yX7_isSet cX7_isSet 3 (some .boolean) ({ frames := 1, cells := 0, slots := 0, locals := 20 }) [.ref (a 0), .int 0, .int p1] [((a 0), .inr (7, (fX7 (a 1) (a 3) (a 19) (a 35) (a 40) (nI rk) lfa (a 53) (a 56) (a 63) (a 64) (a 68)))), ((a 3), .inl (k 3, 3, .inr (.inr (.inr (.inr (a3 (a 4) (a 9) (a 14))))))), ((a 4), .inr (5, (fX5 (a 5) (a 6) (a 7) (a 8)))), (aI k (a 5) 10 (vv n0 see0 tm0 g0))] (fun r => (r = 1 ∧ ∃ S : Nat, S < 2 ^ n0 ∧ p1 = nI S) ∨ (r = 0 ∧ ∀ S : Nat, S < 2 ^ n0 → ¬ p1 = nI S)) := by
  intro sz
  refine Met.ofW (cc := cX7_isSet) (maxL := 3) (ret := (some .boolean)) (by decide) rfl ?_
  intro p e s m args below meth c s₁ B hml hv
  obtain ⟨rfl, hsz, hlo, hP, hK, hDL, hZ⟩ := hv
  have hx := B.exec
  have hb := B.bytes
  have hr := B.returns
  have hts := WS_ts B.pre
  have hown : s.vm.findClass RX7 = some m.cls := findClass_of_methodNamed B.named
  have hlocks := B.notSynchronized
  subst hsz
  have hA : ∀ q : Nat, s.heap.size ≤ q → (fun q : Nat => s.heap.size ≤ q) q := fun _ h => h
  have hAlo : ∀ q : Nat, (fun q : Nat => s.heap.size ≤ q) q → lo ≤ q := fun q h => Nat.le_trans hlo h
  have hS : va_S (fun q : Nat => s.heap.size ≤ q) s.heap s.heap [] := va_S.rf
  have hl := lv_entry ([.ref (a 0), .int 0, .int p1]) (n := 3) (Nat.le_of_ble_eq_true rfl)
  rw [lg_entry_eq]
  generalize (lg_sl ([.ref (a 0), .int 0, .int p1]) ++ List.replicate (3 - (lg_sl ([.ref (a 0), .int 0, .int p1])).length) Slot.unset).toArray = ls at hl ⊢
  have hl : lv_has ls 3 [(0, .ref (a 0)), (1, .int 0), (2, .int p1)] := hl
  have hpw_9 := pw31 hn0
  refine lv_iload_n hx hb dX7_isSet_0 rfl (lv_at hl 2 rfl) ?_
  refine lv_if_lt (tgt := 23) hx hb dX7_isSet_1 (by decide) (fun c_1 => ?_) (fun c_1 => ?_)
  · refine lv_iconst (v := 0) hx hb dX7_isSet_23 (by decide) ?_
    exact W.zret (v := 0) (ty := .boolean) hx hb hr rfl (fun t ht hW => ⟨⟨0, (), rfl, .inr ⟨rfl, fun S h e => absurd c_1 (by rw [e]; exact Int32.not_lt.mpr (nI_ge0 (by omega)))⟩, trivial⟩, hS.F ht⟩) hS.2.2 dX7_isSet_24
  · obtain ⟨sv_9, hsv_9, rfl⟩ := nI_of c_1
    refine lv_iload_n hx hb dX7_isSet_4 rfl (lv_at hl 2 rfl) ?_
    refine lv_iconst (v := 1) hx hb dX7_isSet_5 (by decide) ?_
    refine lv_aload_n hx hb dX7_isSet_6 rfl (lv_at hl 0 rfl) ?_
    refine va_get (D := D) (ci := 7) (v := .ref (a 3)) (C := RX7) (T := TX7) (N := 12) hx hb hts inX7 hown hK hP 0 rfl rfl 1 (by decide) (hts _ tw_306) (fun _ h9 => h9) rfl dX7_isSet_7 ?_
    refine lv_iload_n hx hb dX7_isSet_10 rfl (lv_at hl 1 rfl) ?_
    refine va_aldq hx hb hK hP 1 3 rfl rfl (by unfold vp_in; decide) dX7_isSet_11 ?_
    refine lv_tr (y := .ref (a 4)) rfl ?_
    refine ro_i (D := D) (va_runV (As := []) (rest := [.int 1, .int (nI sv_9)]) ⟨hx, hb, hml, hown, hts⟩ ((x_doors l D k st lo (a 4) (a 5) (a 6) (a 7) (a 8) n0 see0 tm0 g0) s.heap.size) (cwV 0 hts (gV tw_580 tw_478 tw_479 tw_81 tw_480) rfl rfl rfl (by decide +kernel) ⟨Nat.le_of_ble_eq_true rfl, Nat.le_of_ble_eq_true rfl⟩) (pV hS hAlo hlo hP hK hDL hZ [2, 3] (by decide) rfl (ci := 5) (q := (RX5, TX5, 4)) (q0 := 0) rfl rfl) rfl rfl hl.1 rfl (lv_room (Nat.le_of_ble_eq_true rfl)) dX7_isSet_12 ⟨Nat.le_of_ble_eq_true rfl, Nat.le_of_ble_eq_true rfl⟩) hS hA hP (fun r_2 H locs hw_2 hP hS => ?_)
    try dsimp only at hw_2
    subst hw_2
    refine lv_ishl hx hb dX7_isSet_15 ?_
    refine lv_ti (y := (nI (2 ^ n0))) (shl25 _ (by omega)) ?_
    refine lv_icmp_ge (tgt := 23) hx hb dX7_isSet_16 (by decide) (fun c_3 => ?_) (fun c_3 => ?_)
    · have c_3 := (nI_leI (a := (2 ^ n0)) (b := sv_9) (by omega) (by omega)).mp c_3
      refine lv_iconst (v := 0) hx hb dX7_isSet_23 (by decide) ?_
      exact W.zret (v := 0) (ty := .boolean) hx hb hr rfl (fun t ht hW => ⟨⟨0, (), rfl, .inr ⟨rfl, fun S h e => by have h9 := nI_inj (by omega) (by omega) e; omega⟩, trivial⟩, hS.F ht⟩) hS.2.2 dX7_isSet_24
    · have c_3 : ¬ ((2 ^ n0) ≤ sv_9) := fun h => c_3 ((nI_leI (a := (2 ^ n0)) (b := sv_9) (by omega) (by omega)).mpr h)
      refine lv_iconst (v := 1) hx hb dX7_isSet_19 (by decide) ?_
      refine lv_goto (tgt := 24) hx hb dX7_isSet_20 (by decide) ?_
      exact W.zret (v := 1) (ty := .boolean) hx hb hr rfl (fun t ht hW => ⟨⟨1, (), rfl, .inl ⟨rfl, sv_9, by omega, rfl⟩, trivial⟩, hS.F ht⟩) hS.2.2 dX7_isSet_24


set_option maxHeartbeats 4000000 in
set_option maxRecDepth 100000 in
theorem y_isSet_1 (l : Launch) (D : va_G) (k : Nat → ClassId) (st : Nat → Nat) (lo : Nat) (a : Nat → Nat) (rk : Nat) (lfa : Int32) (n1 : Nat) (see1 : Nat) (tm1 : Nat) (g1 : Nat → Int32) (p1 : Int32) (hn1 : n1 ≤ 24) : CRi l D k st lo yX7_isSet cX7_isSet 3 (some .boolean) ({ frames := 1, cells := 0, slots := 0, locals := 20 }) [.ref (a 0), .int 1, .int p1] [((a 0), .inr (7, (fX7 (a 1) (a 3) (a 19) (a 35) (a 40) (nI rk) lfa (a 53) (a 56) (a 63) (a 64) (a 68)))), ((a 3), .inl (k 3, 3, .inr (.inr (.inr (.inr (a3 (a 4) (a 9) (a 14))))))), ((a 9), .inr (5, (fX5 (a 10) (a 11) (a 12) (a 13)))), (aI k (a 10) 10 (vv n1 see1 tm1 g1))] (fun r => (r = 1 ∧ ∃ S : Nat, S < 2 ^ n1 ∧ p1 = nI S) ∨ (r = 0 ∧ ∀ S : Nat, S < 2 ^ n1 → ¬ p1 = nI S)) := by
  intro sz
  refine Met.ofW (cc := cX7_isSet) (maxL := 3) (ret := (some .boolean)) (by decide) rfl ?_
  intro p e s m args below meth c s₁ B hml hv
  obtain ⟨rfl, hsz, hlo, hP, hK, hDL, hZ⟩ := hv
  have hx := B.exec
  have hb := B.bytes
  have hr := B.returns
  have hts := WS_ts B.pre
  have hown : s.vm.findClass RX7 = some m.cls := findClass_of_methodNamed B.named
  have hlocks := B.notSynchronized
  subst hsz
  have hA : ∀ q : Nat, s.heap.size ≤ q → (fun q : Nat => s.heap.size ≤ q) q := fun _ h => h
  have hAlo : ∀ q : Nat, (fun q : Nat => s.heap.size ≤ q) q → lo ≤ q := fun q h => Nat.le_trans hlo h
  have hS : va_S (fun q : Nat => s.heap.size ≤ q) s.heap s.heap [] := va_S.rf
  have hl := lv_entry ([.ref (a 0), .int 1, .int p1]) (n := 3) (Nat.le_of_ble_eq_true rfl)
  rw [lg_entry_eq]
  generalize (lg_sl ([.ref (a 0), .int 1, .int p1]) ++ List.replicate (3 - (lg_sl ([.ref (a 0), .int 1, .int p1])).length) Slot.unset).toArray = ls at hl ⊢
  have hl : lv_has ls 3 [(0, .ref (a 0)), (1, .int 1), (2, .int p1)] := hl
  have hpw_9 := pw31 hn1
  refine lv_iload_n hx hb dX7_isSet_0 rfl (lv_at hl 2 rfl) ?_
  refine lv_if_lt (tgt := 23) hx hb dX7_isSet_1 (by decide) (fun c_1 => ?_) (fun c_1 => ?_)
  · refine lv_iconst (v := 0) hx hb dX7_isSet_23 (by decide) ?_
    exact W.zret (v := 0) (ty := .boolean) hx hb hr rfl (fun t ht hW => ⟨⟨0, (), rfl, .inr ⟨rfl, fun S h e => absurd c_1 (by rw [e]; exact Int32.not_lt.mpr (nI_ge0 (by omega)))⟩, trivial⟩, hS.F ht⟩) hS.2.2 dX7_isSet_24
  · obtain ⟨sv_9, hsv_9, rfl⟩ := nI_of c_1
    refine lv_iload_n hx hb dX7_isSet_4 rfl (lv_at hl 2 rfl) ?_
    refine lv_iconst (v := 1) hx hb dX7_isSet_5 (by decide) ?_
    refine lv_aload_n hx hb dX7_isSet_6 rfl (lv_at hl 0 rfl) ?_
    refine va_get (D := D) (ci := 7) (v := .ref (a 3)) (C := RX7) (T := TX7) (N := 12) hx hb hts inX7 hown hK hP 0 rfl rfl 1 (by decide) (hts _ tw_306) (fun _ h9 => h9) rfl dX7_isSet_7 ?_
    refine lv_iload_n hx hb dX7_isSet_10 rfl (lv_at hl 1 rfl) ?_
    refine va_aldq hx hb hK hP 1 3 rfl rfl (by unfold vp_in; decide) dX7_isSet_11 ?_
    refine lv_tr (y := .ref (a 9)) rfl ?_
    refine ro_i (D := D) (va_runV (As := []) (rest := [.int 1, .int (nI sv_9)]) ⟨hx, hb, hml, hown, hts⟩ ((x_doors l D k st lo (a 9) (a 10) (a 11) (a 12) (a 13) n1 see1 tm1 g1) s.heap.size) (cwV 0 hts (gV tw_580 tw_478 tw_479 tw_81 tw_480) rfl rfl rfl (by decide +kernel) ⟨Nat.le_of_ble_eq_true rfl, Nat.le_of_ble_eq_true rfl⟩) (pV hS hAlo hlo hP hK hDL hZ [2, 3] (by decide) rfl (ci := 5) (q := (RX5, TX5, 4)) (q0 := 0) rfl rfl) rfl rfl hl.1 rfl (lv_room (Nat.le_of_ble_eq_true rfl)) dX7_isSet_12 ⟨Nat.le_of_ble_eq_true rfl, Nat.le_of_ble_eq_true rfl⟩) hS hA hP (fun r_2 H locs hw_2 hP hS => ?_)
    try dsimp only at hw_2
    subst hw_2
    refine lv_ishl hx hb dX7_isSet_15 ?_
    refine lv_ti (y := (nI (2 ^ n1))) (shl25 _ (by omega)) ?_
    refine lv_icmp_ge (tgt := 23) hx hb dX7_isSet_16 (by decide) (fun c_3 => ?_) (fun c_3 => ?_)
    · have c_3 := (nI_leI (a := (2 ^ n1)) (b := sv_9) (by omega) (by omega)).mp c_3
      refine lv_iconst (v := 0) hx hb dX7_isSet_23 (by decide) ?_
      exact W.zret (v := 0) (ty := .boolean) hx hb hr rfl (fun t ht hW => ⟨⟨0, (), rfl, .inr ⟨rfl, fun S h e => by have h9 := nI_inj (by omega) (by omega) e; omega⟩, trivial⟩, hS.F ht⟩) hS.2.2 dX7_isSet_24
    · have c_3 : ¬ ((2 ^ n1) ≤ sv_9) := fun h => c_3 ((nI_leI (a := (2 ^ n1)) (b := sv_9) (by omega) (by omega)).mpr h)
      refine lv_iconst (v := 1) hx hb dX7_isSet_19 (by decide) ?_
      refine lv_goto (tgt := 24) hx hb dX7_isSet_20 (by decide) ?_
      exact W.zret (v := 1) (ty := .boolean) hx hb hr rfl (fun t ht hW => ⟨⟨1, (), rfl, .inl ⟨rfl, sv_9, by omega, rfl⟩, trivial⟩, hS.F ht⟩) hS.2.2 dX7_isSet_24


set_option maxHeartbeats 4000000 in
set_option maxRecDepth 100000 in
theorem y_isSet_2 (l : Launch) (D : va_G) (k : Nat → ClassId) (st : Nat → Nat) (lo : Nat) (a : Nat → Nat) (rk : Nat) (lfa : Int32) (n2 : Nat) (see2 : Nat) (tm2 : Nat) (g2 : Nat → Int32) (p1 : Int32) (hn2 : n2 ≤ 24) : CRi l D k st lo yX7_isSet cX7_isSet 3 (some .boolean) ({ frames := 1, cells := 0, slots := 0, locals := 20 }) [.ref (a 0), .int 2, .int p1] [((a 0), .inr (7, (fX7 (a 1) (a 3) (a 19) (a 35) (a 40) (nI rk) lfa (a 53) (a 56) (a 63) (a 64) (a 68)))), ((a 3), .inl (k 3, 3, .inr (.inr (.inr (.inr (a3 (a 4) (a 9) (a 14))))))), ((a 14), .inr (5, (fX5 (a 15) (a 16) (a 17) (a 18)))), (aI k (a 15) 10 (vv n2 see2 tm2 g2))] (fun r => (r = 1 ∧ ∃ S : Nat, S < 2 ^ n2 ∧ p1 = nI S) ∨ (r = 0 ∧ ∀ S : Nat, S < 2 ^ n2 → ¬ p1 = nI S)) := by
  intro sz
  refine Met.ofW (cc := cX7_isSet) (maxL := 3) (ret := (some .boolean)) (by decide) rfl ?_
  intro p e s m args below meth c s₁ B hml hv
  obtain ⟨rfl, hsz, hlo, hP, hK, hDL, hZ⟩ := hv
  have hx := B.exec
  have hb := B.bytes
  have hr := B.returns
  have hts := WS_ts B.pre
  have hown : s.vm.findClass RX7 = some m.cls := findClass_of_methodNamed B.named
  have hlocks := B.notSynchronized
  subst hsz
  have hA : ∀ q : Nat, s.heap.size ≤ q → (fun q : Nat => s.heap.size ≤ q) q := fun _ h => h
  have hAlo : ∀ q : Nat, (fun q : Nat => s.heap.size ≤ q) q → lo ≤ q := fun q h => Nat.le_trans hlo h
  have hS : va_S (fun q : Nat => s.heap.size ≤ q) s.heap s.heap [] := va_S.rf
  have hl := lv_entry ([.ref (a 0), .int 2, .int p1]) (n := 3) (Nat.le_of_ble_eq_true rfl)
  rw [lg_entry_eq]
  generalize (lg_sl ([.ref (a 0), .int 2, .int p1]) ++ List.replicate (3 - (lg_sl ([.ref (a 0), .int 2, .int p1])).length) Slot.unset).toArray = ls at hl ⊢
  have hl : lv_has ls 3 [(0, .ref (a 0)), (1, .int 2), (2, .int p1)] := hl
  have hpw_9 := pw31 hn2
  refine lv_iload_n hx hb dX7_isSet_0 rfl (lv_at hl 2 rfl) ?_
  refine lv_if_lt (tgt := 23) hx hb dX7_isSet_1 (by decide) (fun c_1 => ?_) (fun c_1 => ?_)
  · refine lv_iconst (v := 0) hx hb dX7_isSet_23 (by decide) ?_
    exact W.zret (v := 0) (ty := .boolean) hx hb hr rfl (fun t ht hW => ⟨⟨0, (), rfl, .inr ⟨rfl, fun S h e => absurd c_1 (by rw [e]; exact Int32.not_lt.mpr (nI_ge0 (by omega)))⟩, trivial⟩, hS.F ht⟩) hS.2.2 dX7_isSet_24
  · obtain ⟨sv_9, hsv_9, rfl⟩ := nI_of c_1
    refine lv_iload_n hx hb dX7_isSet_4 rfl (lv_at hl 2 rfl) ?_
    refine lv_iconst (v := 1) hx hb dX7_isSet_5 (by decide) ?_
    refine lv_aload_n hx hb dX7_isSet_6 rfl (lv_at hl 0 rfl) ?_
    refine va_get (D := D) (ci := 7) (v := .ref (a 3)) (C := RX7) (T := TX7) (N := 12) hx hb hts inX7 hown hK hP 0 rfl rfl 1 (by decide) (hts _ tw_306) (fun _ h9 => h9) rfl dX7_isSet_7 ?_
    refine lv_iload_n hx hb dX7_isSet_10 rfl (lv_at hl 1 rfl) ?_
    refine va_aldq hx hb hK hP 1 3 rfl rfl (by unfold vp_in; decide) dX7_isSet_11 ?_
    refine lv_tr (y := .ref (a 14)) rfl ?_
    refine ro_i (D := D) (va_runV (As := []) (rest := [.int 1, .int (nI sv_9)]) ⟨hx, hb, hml, hown, hts⟩ ((x_doors l D k st lo (a 14) (a 15) (a 16) (a 17) (a 18) n2 see2 tm2 g2) s.heap.size) (cwV 0 hts (gV tw_580 tw_478 tw_479 tw_81 tw_480) rfl rfl rfl (by decide +kernel) ⟨Nat.le_of_ble_eq_true rfl, Nat.le_of_ble_eq_true rfl⟩) (pV hS hAlo hlo hP hK hDL hZ [2, 3] (by decide) rfl (ci := 5) (q := (RX5, TX5, 4)) (q0 := 0) rfl rfl) rfl rfl hl.1 rfl (lv_room (Nat.le_of_ble_eq_true rfl)) dX7_isSet_12 ⟨Nat.le_of_ble_eq_true rfl, Nat.le_of_ble_eq_true rfl⟩) hS hA hP (fun r_2 H locs hw_2 hP hS => ?_)
    try dsimp only at hw_2
    subst hw_2
    refine lv_ishl hx hb dX7_isSet_15 ?_
    refine lv_ti (y := (nI (2 ^ n2))) (shl25 _ (by omega)) ?_
    refine lv_icmp_ge (tgt := 23) hx hb dX7_isSet_16 (by decide) (fun c_3 => ?_) (fun c_3 => ?_)
    · have c_3 := (nI_leI (a := (2 ^ n2)) (b := sv_9) (by omega) (by omega)).mp c_3
      refine lv_iconst (v := 0) hx hb dX7_isSet_23 (by decide) ?_
      exact W.zret (v := 0) (ty := .boolean) hx hb hr rfl (fun t ht hW => ⟨⟨0, (), rfl, .inr ⟨rfl, fun S h e => by have h9 := nI_inj (by omega) (by omega) e; omega⟩, trivial⟩, hS.F ht⟩) hS.2.2 dX7_isSet_24
    · have c_3 : ¬ ((2 ^ n2) ≤ sv_9) := fun h => c_3 ((nI_leI (a := (2 ^ n2)) (b := sv_9) (by omega) (by omega)).mpr h)
      refine lv_iconst (v := 1) hx hb dX7_isSet_19 (by decide) ?_
      refine lv_goto (tgt := 24) hx hb dX7_isSet_20 (by decide) ?_
      exact W.zret (v := 1) (ty := .boolean) hx hb hr rfl (fun t ht hW => ⟨⟨1, (), rfl, .inl ⟨rfl, sv_9, by omega, rfl⟩, trivial⟩, hS.F ht⟩) hS.2.2 dX7_isSet_24


set_option maxHeartbeats 4000000 in
set_option maxRecDepth 100000 in
theorem y_refuseSet (l : Launch) (D : va_G) (k : Nat → ClassId) (st : Nat → Nat) (lo : Nat) (a : Nat → Nat) (rk : Nat) (lfa : Int32) (n0 : Nat) (see0 : Nat) (tm0 : Nat) (g0 : Nat → Int32) (n1 : Nat) (see1 : Nat) (tm1 : Nat) (g1 : Nat → Int32) (n2 : Nat) (see2 : Nat) (tm2 : Nat) (g2 : Nat → Int32) (pz : Int32) (p1 : Int32) (hn0 : n0 ≤ 24) (hn1 : n1 ≤ 24) (hn2 : n2 ≤ 24) : CRi l D k st lo yX7_refuseSet cX7_refuseSet 3 (some .int) ({ frames := 2, cells := 0, slots := 0, locals := 42 }) [.ref (a 0), .int pz, .int p1] [((a 0), .inr (7, (fX7 (a 1) (a 3) (a 19) (a 35) (a 40) (nI rk) lfa (a 53) (a 56) (a 63) (a 64) (a 68)))), ((a 3), .inl (k 3, 3, .inr (.inr (.inr (.inr (a3 (a 4) (a 9) (a 14))))))), ((a 4), .inr (5, (fX5 (a 5) (a 6) (a 7) (a 8)))), (aI k (a 5) 10 (vv n0 see0 tm0 g0)), ((a 9), .inr (5, (fX5 (a 10) (a 11) (a 12) (a 13)))), (aI k (a 10) 10 (vv n1 see1 tm1 g1)), ((a 14), .inr (5, (fX5 (a 15) (a 16) (a 17) (a 18)))), (aI k (a 15) 10 (vv n2 see2 tm2 g2))] (fun r => (r = 0 ∧ ((pz = 0 ∧ 0 < n0 ∧ ∃ S : Nat, S < 2 ^ n0 ∧ p1 = nI S) ∨ (pz = 1 ∧ 0 < n1 ∧ ∃ S : Nat, S < 2 ^ n1 ∧ p1 = nI S) ∨ (pz = 2 ∧ 0 < n2 ∧ ∃ S : Nat, S < 2 ^ n2 ∧ p1 = nI S))) ∨ (r = -1001 ∧ ∀ s, s < 3 → pz = nI s → ¬ 0 < d3 n0 n1 n2 s) ∨ (r = -1002 ∧ ((pz = 0 ∧ 0 < n0 ∧ ∀ S : Nat, S < 2 ^ n0 → ¬ p1 = nI S) ∨ (pz = 1 ∧ 0 < n1 ∧ ∀ S : Nat, S < 2 ^ n1 → ¬ p1 = nI S) ∨ (pz = 2 ∧ 0 < n2 ∧ ∀ S : Nat, S < 2 ^ n2 → ¬ p1 = nI S)))) := by
  intro sz
  refine Met.ofW (cc := cX7_refuseSet) (maxL := 3) (ret := (some .int)) (by decide) rfl ?_
  intro p e s m args below meth c s₁ B hml hv
  obtain ⟨rfl, hsz, hlo, hP, hK, hDL, hZ⟩ := hv
  have hx := B.exec
  have hb := B.bytes
  have hr := B.returns
  have hts := WS_ts B.pre
  have hown : s.vm.findClass RX7 = some m.cls := findClass_of_methodNamed B.named
  have hlocks := B.notSynchronized
  subst hsz
  have hA : ∀ q : Nat, s.heap.size ≤ q → (fun q : Nat => s.heap.size ≤ q) q := fun _ h => h
  have hAlo : ∀ q : Nat, (fun q : Nat => s.heap.size ≤ q) q → lo ≤ q := fun q h => Nat.le_trans hlo h
  have hS : va_S (fun q : Nat => s.heap.size ≤ q) s.heap s.heap [] := va_S.rf
  have hl := lv_entry ([.ref (a 0), .int pz, .int p1]) (n := 3) (Nat.le_of_ble_eq_true rfl)
  rw [lg_entry_eq]
  generalize (lg_sl ([.ref (a 0), .int pz, .int p1]) ++ List.replicate (3 - (lg_sl ([.ref (a 0), .int pz, .int p1])).length) Slot.unset).toArray = ls at hl ⊢
  have hl : lv_has ls 3 [(0, .ref (a 0)), (1, .int pz), (2, .int p1)] := hl
  refine lv_aload_n hx hb dX7_refuseSet_0 rfl (lv_at hl 0 rfl) ?_
  refine lv_iload_n hx hb dX7_refuseSet_1 rfl (lv_at hl 1 rfl) ?_
  refine ro_i (D := D) (va_runV (As := [.int pz]) (rest := []) ⟨hx, hb, hml, hown, hts⟩ ((y_isStreet l D k st lo a rk lfa n0 see0 tm0 g0 n1 see1 tm1 g1 n2 see2 tm2 g2 pz (by first | assumption | omega) (by first | assumption | omega) (by first | assumption | omega)) s.heap.size) (cwV 1 hts (gV tw_589 tw_591 tw_8 tw_79 tw_592) rfl rfl rfl (by decide +kernel) ⟨Nat.le_of_ble_eq_true rfl, Nat.le_of_ble_eq_true rfl⟩) (pV hS hAlo hlo hP hK hDL hZ [0, 1, 2, 3, 4, 5, 6, 7] (by decide) rfl (ci := 7) (q := (RX7, TX7, 12)) (q0 := 0) rfl rfl) rfl rfl hl.1 rfl (lv_room (Nat.le_of_ble_eq_true rfl)) dX7_refuseSet_2 ⟨Nat.le_of_ble_eq_true rfl, Nat.le_of_ble_eq_true rfl⟩) hS hA hP (fun r_1 H locs hw_1 hP hS => ?_)
  try dsimp only at hw_1
  rcases hw_1 with ⟨rfl, ⟨rfl, hw_1⟩ | ⟨rfl, hw_1⟩ | ⟨rfl, hw_1⟩⟩ | ⟨rfl, hw_1⟩
  · refine lv_if_ne (tgt := 12) hx hb dX7_refuseSet_5 (by decide) (fun _ => ?_) (fun h => absurd h (by decide))
    refine lv_aload_n hx hb dX7_refuseSet_12 rfl (lv_at hl 0 rfl) ?_
    refine lv_iload_n hx hb dX7_refuseSet_13 rfl (lv_at hl 1 rfl) ?_
    refine lv_iload_n hx hb dX7_refuseSet_14 rfl (lv_at hl 2 rfl) ?_
    refine ro_i (D := D) (va_runV (As := [.int 0, .int p1]) (rest := []) ⟨hx, hb, hml, hown, hts⟩ ((y_isSet_0 l D k st lo a rk lfa n0 see0 tm0 g0 p1 (by first | assumption | omega)) H.size) (cwV 2 hts (gV tw_817 tw_819 tw_18 tw_79 tw_820) rfl rfl rfl (by decide +kernel) ⟨Nat.le_of_ble_eq_true rfl, Nat.le_of_ble_eq_true rfl⟩) (pV hS hAlo hlo hP hK hDL hZ [0, 1, 2, 3] (by decide) rfl (ci := 7) (q := (RX7, TX7, 12)) (q0 := 0) rfl rfl) rfl rfl hl.1 rfl (lv_room (Nat.le_of_ble_eq_true rfl)) dX7_refuseSet_15 ⟨Nat.le_of_ble_eq_true rfl, Nat.le_of_ble_eq_true rfl⟩) hS hA hP (fun r_2 H locs hw_2 hP hS => ?_)
    try dsimp only at hw_2
    rcases hw_2 with ⟨rfl, se_3, hse_3, rfl⟩ | ⟨rfl, hw_2⟩
    · refine lv_if_eq (tgt := 25) hx hb dX7_refuseSet_18 (by decide) (fun h => absurd h (by decide)) (fun _ => ?_)
      refine lv_iconst (v := 0) hx hb dX7_refuseSet_21 (by decide) ?_
      refine lv_goto (tgt := 28) hx hb dX7_refuseSet_22 (by decide) ?_
      exact W.iret (v := 0) hx hb hr (fun t ht hW => ⟨⟨0, (), rfl, .inl ⟨rfl, .inl ⟨rfl, by omega, se_3, hse_3, rfl⟩⟩, trivial⟩, hS.F ht⟩) hS.2.2 dX7_refuseSet_28
    · refine lv_if_eq (tgt := 25) hx hb dX7_refuseSet_18 (by decide) (fun _ => ?_) (fun h => absurd (by decide) h)
      refine lv_sipush (v := (-1002)) hx hb dX7_refuseSet_25 (by decide) ?_
      exact W.iret (v := (-1002)) hx hb hr (fun t ht hW => ⟨⟨(-1002), (), rfl, .inr (.inr ⟨rfl, .inl ⟨rfl, by omega, hw_2⟩⟩), trivial⟩, hS.F ht⟩) hS.2.2 dX7_refuseSet_28
  · refine lv_if_ne (tgt := 12) hx hb dX7_refuseSet_5 (by decide) (fun _ => ?_) (fun h => absurd h (by decide))
    refine lv_aload_n hx hb dX7_refuseSet_12 rfl (lv_at hl 0 rfl) ?_
    refine lv_iload_n hx hb dX7_refuseSet_13 rfl (lv_at hl 1 rfl) ?_
    refine lv_iload_n hx hb dX7_refuseSet_14 rfl (lv_at hl 2 rfl) ?_
    refine ro_i (D := D) (va_runV (As := [.int 1, .int p1]) (rest := []) ⟨hx, hb, hml, hown, hts⟩ ((y_isSet_1 l D k st lo a rk lfa n1 see1 tm1 g1 p1 (by first | assumption | omega)) H.size) (cwV 2 hts (gV tw_817 tw_819 tw_18 tw_79 tw_820) rfl rfl rfl (by decide +kernel) ⟨Nat.le_of_ble_eq_true rfl, Nat.le_of_ble_eq_true rfl⟩) (pV hS hAlo hlo hP hK hDL hZ [0, 1, 4, 5] (by decide) rfl (ci := 7) (q := (RX7, TX7, 12)) (q0 := 0) rfl rfl) rfl rfl hl.1 rfl (lv_room (Nat.le_of_ble_eq_true rfl)) dX7_refuseSet_15 ⟨Nat.le_of_ble_eq_true rfl, Nat.le_of_ble_eq_true rfl⟩) hS hA hP (fun r_4 H locs hw_4 hP hS => ?_)
    try dsimp only at hw_4
    rcases hw_4 with ⟨rfl, se_5, hse_5, rfl⟩ | ⟨rfl, hw_4⟩
    · refine lv_if_eq (tgt := 25) hx hb dX7_refuseSet_18 (by decide) (fun h => absurd h (by decide)) (fun _ => ?_)
      refine lv_iconst (v := 0) hx hb dX7_refuseSet_21 (by decide) ?_
      refine lv_goto (tgt := 28) hx hb dX7_refuseSet_22 (by decide) ?_
      exact W.iret (v := 0) hx hb hr (fun t ht hW => ⟨⟨0, (), rfl, .inl ⟨rfl, .inr (.inl ⟨rfl, by omega, se_5, hse_5, rfl⟩)⟩, trivial⟩, hS.F ht⟩) hS.2.2 dX7_refuseSet_28
    · refine lv_if_eq (tgt := 25) hx hb dX7_refuseSet_18 (by decide) (fun _ => ?_) (fun h => absurd (by decide) h)
      refine lv_sipush (v := (-1002)) hx hb dX7_refuseSet_25 (by decide) ?_
      exact W.iret (v := (-1002)) hx hb hr (fun t ht hW => ⟨⟨(-1002), (), rfl, .inr (.inr ⟨rfl, .inr (.inl ⟨rfl, by omega, hw_4⟩)⟩), trivial⟩, hS.F ht⟩) hS.2.2 dX7_refuseSet_28
  · refine lv_if_ne (tgt := 12) hx hb dX7_refuseSet_5 (by decide) (fun _ => ?_) (fun h => absurd h (by decide))
    refine lv_aload_n hx hb dX7_refuseSet_12 rfl (lv_at hl 0 rfl) ?_
    refine lv_iload_n hx hb dX7_refuseSet_13 rfl (lv_at hl 1 rfl) ?_
    refine lv_iload_n hx hb dX7_refuseSet_14 rfl (lv_at hl 2 rfl) ?_
    refine ro_i (D := D) (va_runV (As := [.int 2, .int p1]) (rest := []) ⟨hx, hb, hml, hown, hts⟩ ((y_isSet_2 l D k st lo a rk lfa n2 see2 tm2 g2 p1 (by first | assumption | omega)) H.size) (cwV 2 hts (gV tw_817 tw_819 tw_18 tw_79 tw_820) rfl rfl rfl (by decide +kernel) ⟨Nat.le_of_ble_eq_true rfl, Nat.le_of_ble_eq_true rfl⟩) (pV hS hAlo hlo hP hK hDL hZ [0, 1, 6, 7] (by decide) rfl (ci := 7) (q := (RX7, TX7, 12)) (q0 := 0) rfl rfl) rfl rfl hl.1 rfl (lv_room (Nat.le_of_ble_eq_true rfl)) dX7_refuseSet_15 ⟨Nat.le_of_ble_eq_true rfl, Nat.le_of_ble_eq_true rfl⟩) hS hA hP (fun r_6 H locs hw_6 hP hS => ?_)
    try dsimp only at hw_6
    rcases hw_6 with ⟨rfl, se_7, hse_7, rfl⟩ | ⟨rfl, hw_6⟩
    · refine lv_if_eq (tgt := 25) hx hb dX7_refuseSet_18 (by decide) (fun h => absurd h (by decide)) (fun _ => ?_)
      refine lv_iconst (v := 0) hx hb dX7_refuseSet_21 (by decide) ?_
      refine lv_goto (tgt := 28) hx hb dX7_refuseSet_22 (by decide) ?_
      exact W.iret (v := 0) hx hb hr (fun t ht hW => ⟨⟨0, (), rfl, .inl ⟨rfl, .inr (.inr ⟨rfl, by omega, se_7, hse_7, rfl⟩)⟩, trivial⟩, hS.F ht⟩) hS.2.2 dX7_refuseSet_28
    · refine lv_if_eq (tgt := 25) hx hb dX7_refuseSet_18 (by decide) (fun _ => ?_) (fun h => absurd (by decide) h)
      refine lv_sipush (v := (-1002)) hx hb dX7_refuseSet_25 (by decide) ?_
      exact W.iret (v := (-1002)) hx hb hr (fun t ht hW => ⟨⟨(-1002), (), rfl, .inr (.inr ⟨rfl, .inr (.inr ⟨rfl, by omega, hw_6⟩)⟩), trivial⟩, hS.F ht⟩) hS.2.2 dX7_refuseSet_28
  · refine lv_if_ne (tgt := 12) hx hb dX7_refuseSet_5 (by decide) (fun h => absurd (by decide) h) (fun _ => ?_)
    refine lv_sipush (v := (-1001)) hx hb dX7_refuseSet_8 (by decide) ?_
    exact W.iret (v := (-1001)) hx hb hr (fun t ht hW => ⟨⟨(-1001), (), rfl, .inr (.inl ⟨rfl, hw_1⟩), trivial⟩, hS.F ht⟩) hS.2.2 dX7_refuseSet_11


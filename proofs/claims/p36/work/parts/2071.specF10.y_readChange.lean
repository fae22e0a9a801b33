set_option maxHeartbeats 4000000 in
set_option maxRecDepth 100000 in
theorem y_readChange (l : Launch) (D : va_G) (k : Nat → ClassId) (st : Nat → Nat) (lo : Nat) (u0 : Nat) (u1 : Nat) (u2 : Nat) (rf : Int32) (rc : Nat) (rr : Nat) (rs : Nat → Int32) (rb : Nat → Int32) (x0 : Nat) (x1 : Nat) (tz : Nat) (ta : Nat) (na : Int32) (fn : Int32) (fb : Int32) (fx : Nat → Int32) (ht : ta ≤ tz) (hz : tz ≤ 240) (hrc : rc < 24) (hf0 : fn = 0) : CWv l D k st lo yX3_readChange cX3_readChange 4 none ({ frames := 6, cells := 0, slots := 0, locals := 129 }) 0 0 [.ref u0, .ref x0] [(u0, .inr (3, (fX3 u1 u2 rf (nI rc) (nI rr)))), (aI k u1 24 rs), (aI k u2 24 rb), (x0, .inr (6, (fX6 x1 (nI tz) (nI ta) na fn fb))), (aB k x1 240 fx)] (fun (u : Nat × (Nat → Int32) × (Nat → Int32) × Nat × Int32 × Int32 × Int32) => match u with | (rc_, rs_, rb_, ta_, na_, fn_, fb_) => ((fn_ = 0 ∧ ∃ v1 v3 : Int32, chR (bF fx) tz rc rs ta = (0, 0, ta_, v1, v3) ∧ rc_ = rc + 1 ∧ rs_ = upd rs rc v1 ∧ rb_ = upd rb rc v3 ∧ ta + 6 ≤ ta_) ∨ (∃ e pl : Nat, fn_ = nI e ∧ 1 ≤ e ∧ e ≤ 3 ∧ (chR (bF fx) tz rc rs ta).1 = e ∧ (chR (bF fx) tz rc rs ta).2.1 = pl ∧ fb_ = nI pl)) ∧ rc_ ≤ 24 ∧ ta ≤ ta_ ∧ ta_ ≤ tz) (fun (u : Nat × (Nat → Int32) × (Nat → Int32) × Nat × Int32 × Int32 × Int32) => match u with | (rc_, rs_, rb_, ta_, na_, fn_, fb_) => [(u0, .inr (3, (fX3 u1 u2 rf (nI rc_) (nI rr)))), (aI k u1 24 rs_), (aI k u2 24 rb_), (x0, .inr (6, (fX6 x1 (nI tz) (nI ta_) na_ fn_ fb_))), (aB k x1 240 fx)]) := by
  intro sz
  refine Met.ofW (cc := cX3_readChange) (maxL := 4) (ret := none) (by decide) rfl ?_
  intro p e s m args below meth c s₁ B hml hv
  obtain ⟨rfl, hsz, hlo, hP, hK, hDL, hZ⟩ := hv
  have hx := B.exec
  have hb := B.bytes
  have hr := B.returns
  have hts := WS_ts B.pre
  have hown : s.vm.findClass RX3 = some m.cls := findClass_of_methodNamed B.named
  have hlocks := B.notSynchronized
  subst hsz
  have hD := hDL.self (sz := s.heap.size)
  have hAlo := A_lo hDL hlo
  generalize hAe : va_A [(u0, .inr (3, (fX3 u1 u2 rf (nI rc) (nI rr)))), (aI k u1 24 rs), (aI k u2 24 rb), (x0, .inr (6, (fX6 x1 (nI tz) (nI ta) na fn fb))), (aB k x1 240 fx)] s.heap.size = A at hD hAlo ⊢
  have hA : ∀ q : Nat, s.heap.size ≤ q → A q := fun q h => by rw [← hAe]; exact Or.inr h
  have hS : va_S A s.heap s.heap [] := va_S.rf
  have hl := lv_entry ([.ref u0, .ref x0]) (n := 4) (Nat.le_of_ble_eq_true rfl)
  rw [lg_entry_eq]
  generalize (lg_sl ([.ref u0, .ref x0]) ++ List.replicate (4 - (lg_sl ([.ref u0, .ref x0])).length) Slot.unset).toArray = ls at hl ⊢
  have hl : lv_has ls 4 [(0, .ref u0), (1, .ref x0)] := hl
  subst hf0
  refine lv_aload_n hx hb dX3_readChange_0 rfl (lv_at hl 1 rfl) ?_
  refine lv_iconst (v := 1) hx hb dX3_readChange_1 (by decide) ?_
  refine lv_bipush (v := 24) hx hb dX3_readChange_2 (by decide) ?_
  refine rw_i (D := D) (wr := [(u0, .inr (3, (fX3 u1 u2 rf (nI rc) (nI rr)))), (aI k u1 24 rs), (aI k u2 24 rb)]) (va_runV (As := [.int 1, .int 24]) (rest := []) ⟨hx, hb, hml, hown, hts⟩ ((y_needNumber l D k st lo x0 x1 tz ta na 0 fb fx 1 24 (by omega) (by omega) (by decide)) s.heap.size) (cwV 2 hts (gV tw_681 tw_468 tw_469 tw_80 tw_470) rfl rfl rfl (by decide +kernel) ⟨Nat.le_of_ble_eq_true rfl, Nat.le_of_ble_eq_true rfl⟩) (pV hS hAlo hlo hP hK (va_Dlo hD hAlo) hZ [3, 4] (by decide) rfl (ci := 6) (q := (RX6, TX6, 6)) (q0 := 0) rfl rfl) rfl rfl hl.1 rfl (lv_room (Nat.le_of_ble_eq_true rfl)) dX3_readChange_4 ⟨Nat.le_of_ble_eq_true rfl, Nat.le_of_ble_eq_true rfl⟩) hS hA hP hD [3, 4] [0, 1, 2] rfl rfl (by decide) (by decide) (fun r_1 u H locs hw_1 hP hD hS => ?_)
  obtain ⟨ta__1, na__1, fn__1, fb__1⟩ := u
  replace hP : va_P D classes [(u0, .inr (3, (fX3 u1 u2 rf (nI rc) (nI rr)))), (aI k u1 24 rs), (aI k u2 24 rb), (x0, .inr (6, (fX6 x1 (nI tz) (nI ta__1) na__1 fn__1 fb__1))), (aB k x1 240 fx)] H := hP
  replace hD : va_D A [(u0, .inr (3, (fX3 u1 u2 rf (nI rc) (nI rr)))), (aI k u1 24 rs), (aI k u2 24 rb), (x0, .inr (6, (fX6 x1 (nI tz) (nI ta__1) na__1 fn__1 fb__1))), (aB k x1 240 fx)] := hD
  try dsimp only at hw_1
  obtain ⟨pl_2, nq_2, rfl, hq_2⟩ := hw_1.2.1 rfl
  rw [show decide ((1 : Int32) < 0) = false from by decide] at hq_2
  rcases hq_2 with ⟨rfl, hq_2⟩ | ⟨rfl, hr_2, rfl, hq_2⟩ | ⟨rfl, hr_2, rfl, hq_2⟩
  · refine lv_istore_n (lv' := [(2, .int r_1), (0, .ref u0), (1, .ref x0)]) hx hb dX3_readChange_7 rfl hl (by decide) rfl (fun ls hl => ?_)
    refine lv_aload_n hx hb dX3_readChange_8 rfl (lv_at hl 2 rfl) ?_
    refine ro_i (D := D) (va_runV (As := []) (rest := []) ⟨hx, hb, hml, hown, hts⟩ ((x_failed l D k st lo x0 x1 tz ta__1 (nI nq_2) 0 fb__1) H.size) (cwV 0 hts (gV tw_682 tw_368 tw_369 tw_80 tw_370) rfl rfl rfl (by decide +kernel) ⟨Nat.le_of_ble_eq_true rfl, Nat.le_of_ble_eq_true rfl⟩) (pV hS hAlo hlo hP hK (va_Dlo hD hAlo) hZ [3] (by decide) rfl (ci := 6) (q := (RX6, TX6, 6)) (q0 := 0) rfl rfl) rfl rfl hl.1 rfl (lv_room (Nat.le_of_ble_eq_true rfl)) dX3_readChange_9 ⟨Nat.le_of_ble_eq_true rfl, Nat.le_of_ble_eq_true rfl⟩) hS hA hP (fun r_3 H locs hw_3 hP hS => ?_)
    try dsimp only at hw_3
    obtain rfl : r_3 = 0 := by rcases hw_3 with ⟨h, h2⟩ | ⟨h, h2⟩ <;> first | exact h | exact absurd rfl h2 | exact absurd h2 (by decide)
    refine lv_if_ne (tgt := 46) hx hb dX3_readChange_12 (by decide) (fun h => absurd (by decide) h) (fun _ => ?_)
    refine lv_aload_n hx hb dX3_readChange_15 rfl (lv_at hl 1 rfl) ?_
    refine va_get (D := D) (ci := 3) (v := .int (nI rc)) (C := RX3) (T := TX3) (N := 5) hx hb hts inX3 hown hK hP 0 rfl rfl 3 (by decide) (hts _ tw_292) (fun _ h9 => h9) rfl dX3_readChange_16 ?_
    refine lv_if_le (tgt := 46) hx hb dX3_readChange_19 (by decide) (fun c_4 => ?_) (fun c_4 => ?_)
    · have c_4 := (nI_leI (a := rc) (b := 0) (by omega) (by omega)).mp c_4
      refine lv_aload_n hx hb dX3_readChange_46 rfl (lv_at hl 2 rfl) ?_
      refine va_ldcS hx hb hown (hZ.2.2.2.2.2.2.2.2.2.2 (RX3, 28, "from", 12) (List.mem_of_getElem? (i := 12) rfl)) dX3_readChange_47 ?_
      refine rw_v (D := D) (wr := [(u0, .inr (3, (fX3 u1 u2 rf (nI rc) (nI rr)))), (aI k u1 24 rs), (aI k u2 24 rb)]) (va_runV (As := [.ref (st (100 + 12))]) (rest := []) ⟨hx, hb, hml, hown, hts⟩ ((y_needWord l D k st lo x0 x1 tz ta__1 (nI nq_2) 0 fb__1 fx 12 (by omega) (by omega) (by omega)) H.size) (cwV 1 hts (gV tw_680 tw_483 tw_484 tw_80 tw_485) rfl rfl rfl (by decide +kernel) ⟨Nat.le_of_ble_eq_true rfl, Nat.le_of_ble_eq_true rfl⟩) (pV hS hAlo hlo hP hK (va_Dlo hD hAlo) hZ [3, 4] (by decide) rfl (ci := 6) (q := (RX6, TX6, 6)) (q0 := 0) rfl rfl) rfl rfl hl.1 rfl (lv_room (Nat.le_of_ble_eq_true rfl)) dX3_readChange_49 ⟨Nat.le_of_ble_eq_true rfl, Nat.le_of_ble_eq_true rfl⟩) hS hA hP hD [3, 4] [0, 1, 2] rfl rfl (by decide) (by decide) (fun u H locs hw_5 hP hD hS => ?_)
      obtain ⟨ta__5, fn__5, fb__5⟩ := u
      replace hP : va_P D classes [(u0, .inr (3, (fX3 u1 u2 rf (nI rc) (nI rr)))), (aI k u1 24 rs), (aI k u2 24 rb), (x0, .inr (6, (fX6 x1 (nI tz) (nI ta__5) (nI nq_2) fn__5 fb__5))), (aB k x1 240 fx)] H := hP
      replace hD : va_D A [(u0, .inr (3, (fX3 u1 u2 rf (nI rc) (nI rr)))), (aI k u1 24 rs), (aI k u2 24 rb), (x0, .inr (6, (fX6 x1 (nI tz) (nI ta__5) (nI nq_2) fn__5 fb__5))), (aB k x1 240 fx)] := hD
      try dsimp only at hw_5
      rcases hw_5.2.1 rfl with ⟨rfl, hq_6⟩ | ⟨rfl, pl_6, hq_6, rfl⟩
      · refine lv_aload_n hx hb dX3_readChange_52 rfl (lv_at hl 2 rfl) ?_
        refine lv_iconst (v := 0) hx hb dX3_readChange_53 (by decide) ?_
        refine lv_bipush (v := 24) hx hb dX3_readChange_54 (by decide) ?_
        refine rw_i (D := D) (wr := [(u0, .inr (3, (fX3 u1 u2 rf (nI rc) (nI rr)))), (aI k u1 24 rs), (aI k u2 24 rb)]) (va_runV (As := [.int 0, .int 24]) (rest := []) ⟨hx, hb, hml, hown, hts⟩ ((y_needNumber l D k st lo x0 x1 tz ta__5 (nI nq_2) 0 fb__5 fx 0 24 (by omega) (by omega) (by decide)) H.size) (cwV 2 hts (gV tw_681 tw_468 tw_469 tw_80 tw_470) rfl rfl rfl (by decide +kernel) ⟨Nat.le_of_ble_eq_true rfl, Nat.le_of_ble_eq_true rfl⟩) (pV hS hAlo hlo hP hK (va_Dlo hD hAlo) hZ [3, 4] (by decide) rfl (ci := 6) (q := (RX6, TX6, 6)) (q0 := 0) rfl rfl) rfl rfl hl.1 rfl (lv_room (Nat.le_of_ble_eq_true rfl)) dX3_readChange_56 ⟨Nat.le_of_ble_eq_true rfl, Nat.le_of_ble_eq_true rfl⟩) hS hA hP hD [3, 4] [0, 1, 2] rfl rfl (by decide) (by decide) (fun r_7 u H locs hw_7 hP hD hS => ?_)
        obtain ⟨ta__7, na__7, fn__7, fb__7⟩ := u
        replace hP : va_P D classes [(u0, .inr (3, (fX3 u1 u2 rf (nI rc) (nI rr)))), (aI k u1 24 rs), (aI k u2 24 rb), (x0, .inr (6, (fX6 x1 (nI tz) (nI ta__7) na__7 fn__7 fb__7))), (aB k x1 240 fx)] H := hP
        replace hD : va_D A [(u0, .inr (3, (fX3 u1 u2 rf (nI rc) (nI rr)))), (aI k u1 24 rs), (aI k u2 24 rb), (x0, .inr (6, (fX6 x1 (nI tz) (nI ta__7) na__7 fn__7 fb__7))), (aB k x1 240 fx)] := hD
        try dsimp only at hw_7
        obtain ⟨pl_8, nq_8, rfl, hq_8⟩ := hw_7.2.1 rfl
        rw [show decide ((0 : Int32) < 0) = false from by decide] at hq_8
        rcases hq_8 with ⟨rfl, hq_8⟩ | ⟨rfl, hr_8, rfl, hq_8⟩ | ⟨rfl, hr_8, rfl, hq_8⟩
        · refine lv_istore_n (lv' := [(3, .int r_7), (2, .int r_1), (0, .ref u0), (1, .ref x0)]) hx hb dX3_readChange_59 rfl hl (by decide) rfl (fun ls hl => ?_)
          refine lv_aload_n hx hb dX3_readChange_60 rfl (lv_at hl 3 rfl) ?_
          refine ro_i (D := D) (va_runV (As := []) (rest := []) ⟨hx, hb, hml, hown, hts⟩ ((x_failed l D k st lo x0 x1 tz ta__7 (nI nq_8) 0 fb__7) H.size) (cwV 0 hts (gV tw_682 tw_368 tw_369 tw_80 tw_370) rfl rfl rfl (by decide +kernel) ⟨Nat.le_of_ble_eq_true rfl, Nat.le_of_ble_eq_true rfl⟩) (pV hS hAlo hlo hP hK (va_Dlo hD hAlo) hZ [3] (by decide) rfl (ci := 6) (q := (RX6, TX6, 6)) (q0 := 0) rfl rfl) rfl rfl hl.1 rfl (lv_room (Nat.le_of_ble_eq_true rfl)) dX3_readChange_61 ⟨Nat.le_of_ble_eq_true rfl, Nat.le_of_ble_eq_true rfl⟩) hS hA hP (fun r_9 H locs hw_9 hP hS => ?_)
          try dsimp only at hw_9
          obtain rfl : r_9 = 0 := by rcases hw_9 with ⟨h, h2⟩ | ⟨h, h2⟩ <;> first | exact h | exact absurd rfl h2 | exact absurd h2 (by decide)
          refine lv_if_ne (tgt := 106) hx hb dX3_readChange_64 (by decide) (fun h => absurd (by decide) h) (fun _ => ?_)
          refine lv_aload_n hx hb dX3_readChange_67 rfl (lv_at hl 2 rfl) ?_
          refine va_get (D := D) (ci := 3) (v := .int (nI rc)) (C := RX3) (T := TX3) (N := 5) hx hb hts inX3 hown hK hP 0 rfl rfl 3 (by decide) (hts _ tw_292) (fun _ h9 => h9) rfl dX3_readChange_68 ?_
          refine lv_bipush (v := 24) hx hb dX3_readChange_71 (by decide) ?_
          refine lv_icmp_ge (tgt := 106) hx hb dX3_readChange_73 (by decide) (fun h => absurd ((nI_leI (a := 24) (b := rc) (by omega) (by omega)).mp h) (by omega)) (fun _ => ?_)
          refine lv_aload_n hx hb dX3_readChange_76 rfl (lv_at hl 2 rfl) ?_
          refine va_get (D := D) (ci := 3) (v := .ref u1) (C := RX3) (T := TX3) (N := 5) hx hb hts inX3 hown hK hP 0 rfl rfl 0 (by decide) (hts _ tw_289) (fun _ h9 => h9) rfl dX3_readChange_77 ?_
          refine lv_aload_n hx hb dX3_readChange_80 rfl (lv_at hl 2 rfl) ?_
          refine va_get (D := D) (ci := 3) (v := .int (nI rc)) (C := RX3) (T := TX3) (N := 5) hx hb hts inX3 hown hK hP 0 rfl rfl 3 (by decide) (hts _ tw_292) (fun _ h9 => h9) rfl dX3_readChange_81 ?_
          refine lv_iload_n hx hb dX3_readChange_84 rfl (lv_at hl 1 rfl) ?_
          refine va_iast hx hb hK hP hD hS 1 1 rfl rfl (vp_in_nI (by omega) (by decide)) dX3_readChange_85 (fun H locs hP hD hS => ?_)
          replace hP : va_P D classes [(u0, .inr (3, (fX3 u1 u2 rf (nI rc) (nI rr)))), (aI k u1 24 (upd rs (Int32.toNatClampNeg (nI rc)) r_1)), (aI k u2 24 rb), (x0, .inr (6, (fX6 x1 (nI tz) (nI ta__7) (nI nq_8) 0 fb__7))), (aB k x1 240 fx)] H := hP
          replace hD : va_D A [(u0, .inr (3, (fX3 u1 u2 rf (nI rc) (nI rr)))), (aI k u1 24 (upd rs (Int32.toNatClampNeg (nI rc)) r_1)), (aI k u2 24 rb), (x0, .inr (6, (fX6 x1 (nI tz) (nI ta__7) (nI nq_8) 0 fb__7))), (aB k x1 240 fx)] := hD
          rw [nI_clamp (n := rc) (by omega)] at hP hD
          replace hP : va_P D classes [(u0, .inr (3, (fX3 u1 u2 rf (nI rc) (nI rr)))), (aI k u1 24 (upd rs rc r_1)), (aI k u2 24 rb), (x0, .inr (6, (fX6 x1 (nI tz) (nI ta__7) (nI nq_8) 0 fb__7))), (aB k x1 240 fx)] H := hP
          replace hD : va_D A [(u0, .inr (3, (fX3 u1 u2 rf (nI rc) (nI rr)))), (aI k u1 24 (upd rs rc r_1)), (aI k u2 24 rb), (x0, .inr (6, (fX6 x1 (nI tz) (nI ta__7) (nI nq_8) 0 fb__7))), (aB k x1 240 fx)] := hD
          refine lv_aload_n hx hb dX3_readChange_86 rfl (lv_at hl 2 rfl) ?_
          refine va_get (D := D) (ci := 3) (v := .ref u2) (C := RX3) (T := TX3) (N := 5) hx hb hts inX3 hown hK hP 0 rfl rfl 1 (by decide) (hts _ tw_290) (fun _ h9 => h9) rfl dX3_readChange_87 ?_
          refine lv_aload_n hx hb dX3_readChange_90 rfl (lv_at hl 2 rfl) ?_
          refine va_get (D := D) (ci := 3) (v := .int (nI rc)) (C := RX3) (T := TX3) (N := 5) hx hb hts inX3 hown hK hP 0 rfl rfl 3 (by decide) (hts _ tw_292) (fun _ h9 => h9) rfl dX3_readChange_91 ?_
          refine lv_iload_n hx hb dX3_readChange_94 rfl (lv_at hl 0 rfl) ?_
          refine va_iast hx hb hK hP hD hS 2 1 rfl rfl (vp_in_nI (by omega) (by decide)) dX3_readChange_95 (fun H locs hP hD hS => ?_)
          replace hP : va_P D classes [(u0, .inr (3, (fX3 u1 u2 rf (nI rc) (nI rr)))), (aI k u1 24 (upd rs rc r_1)), (aI k u2 24 (upd rb (Int32.toNatClampNeg (nI rc)) r_7)), (x0, .inr (6, (fX6 x1 (nI tz) (nI ta__7) (nI nq_8) 0 fb__7))), (aB k x1 240 fx)] H := hP
          replace hD : va_D A [(u0, .inr (3, (fX3 u1 u2 rf (nI rc) (nI rr)))), (aI k u1 24 (upd rs rc r_1)), (aI k u2 24 (upd rb (Int32.toNatClampNeg (nI rc)) r_7)), (x0, .inr (6, (fX6 x1 (nI tz) (nI ta__7) (nI nq_8) 0 fb__7))), (aB k x1 240 fx)] := hD
          rw [nI_clamp (n := rc) (by omega)] at hP hD
          replace hP : va_P D classes [(u0, .inr (3, (fX3 u1 u2 rf (nI rc) (nI rr)))), (aI k u1 24 (upd rs rc r_1)), (aI k u2 24 (upd rb rc r_7)), (x0, .inr (6, (fX6 x1 (nI tz) (nI ta__7) (nI nq_8) 0 fb__7))), (aB k x1 240 fx)] H := hP
          replace hD : va_D A [(u0, .inr (3, (fX3 u1 u2 rf (nI rc) (nI rr)))), (aI k u1 24 (upd rs rc r_1)), (aI k u2 24 (upd rb rc r_7)), (x0, .inr (6, (fX6 x1 (nI tz) (nI ta__7) (nI nq_8) 0 fb__7))), (aB k x1 240 fx)] := hD
          refine lv_aload_n hx hb dX3_readChange_96 rfl (lv_at hl 2 rfl) ?_
          refine lv_dup hx hb dX3_readChange_97 rfl ?_
          refine va_get (D := D) (ci := 3) (v := .int (nI rc)) (C := RX3) (T := TX3) (N := 5) hx hb hts inX3 hown hK hP 0 rfl rfl 3 (by decide) (hts _ tw_292) (fun _ h9 => h9) rfl dX3_readChange_98 ?_
          refine lv_iconst (v := 1) hx hb dX3_readChange_101 (by decide) ?_
          refine lv_iadd hx hb dX3_readChange_102 ?_
          refine lv_ti (y := (nI (rc + 1))) (nI_add rc 1) ?_
          refine va_put (D := D) (ci := 3) (v := .int (nI (rc + 1))) (ty := .int) (C := RX3) (T := TX3) (N := 5) hx hb hts inX3 tyX3 tyX3_ok nmX3 hown hK hP hD hS 0 rfl rfl 3 (by decide) (hts _ tw_292) (fun _ h9 => h9) rfl (by decide +kernel) rfl rfl (Nat.le_of_ble_eq_true rfl) dX3_readChange_103 (fun H locs hP hD hS => ?_)
          replace hP : va_P D classes [(u0, .inr (3, (fX3 u1 u2 rf (nI (rc + 1)) (nI rr)))), (aI k u1 24 (upd rs rc r_1)), (aI k u2 24 (upd rb rc r_7)), (x0, .inr (6, (fX6 x1 (nI tz) (nI ta__7) (nI nq_8) 0 fb__7))), (aB k x1 240 fx)] H := hP
          replace hD : va_D A [(u0, .inr (3, (fX3 u1 u2 rf (nI (rc + 1)) (nI rr)))), (aI k u1 24 (upd rs rc r_1)), (aI k u2 24 (upd rb rc r_7)), (x0, .inr (6, (fX6 x1 (nI tz) (nI ta__7) (nI nq_8) 0 fb__7))), (aB k x1 240 fx)] := hD
          have hz1_9 := nuR_ge hq_2
          have hz2_9 := wdR_ge (i := 12) hq_6
          have hz3_9 := nuR_ge hq_8
          replace hz2_9 : _ + 4 ≤ _ := hz2_9
          have hP9 := hP.sub (ws' := [(u0, .inr (3, (fX3 u1 u2 rf (nI (rc + 1)) (nI rr)))), (aI k u1 24 (upd rs rc r_1)), (aI k u2 24 (upd rb rc r_7)), (x0, .inr (6, (fX6 x1 (nI tz) (nI ta__7) (nI nq_8) 0 fb__7))), (aB k x1 240 fx)]) [0, 1, 2, 3, 4] rfl
          have hD9 := hD.sub (ws' := [(u0, .inr (3, (fX3 u1 u2 rf (nI (rc + 1)) (nI rr)))), (aI k u1 24 (upd rs rc r_1)), (aI k u2 24 (upd rb rc r_7)), (x0, .inr (6, (fX6 x1 (nI tz) (nI ta__7) (nI nq_8) 0 fb__7))), (aB k x1 240 fx)]) [0, 1, 2, 3, 4] (by decide) rfl
          exact W.vret hx hb hr (fun t ht hW => ⟨⟨((rc + 1), (upd rs rc r_1), (upd rb rc r_7), ta__7, (nI nq_8), 0, fb__7), rfl, ⟨.inl ⟨rfl, r_1, r_7, ch_0  hq_2 (.inl (by omega)) hq_6 hq_8, rfl, rfl, rfl, by omega⟩, by omega, by omega, by omega⟩, by rw [ht]; exact hP9, hD9⟩, hS.F ht⟩) hS.2.2 dX3_readChange_106
        · refine lv_istore_n (lv' := [(3, .int r_7), (2, .int r_1), (0, .ref u0), (1, .ref x0)]) hx hb dX3_readChange_59 rfl hl (by decide) rfl (fun ls hl => ?_)
          refine lv_aload_n hx hb dX3_readChange_60 rfl (lv_at hl 3 rfl) ?_
          refine ro_i (D := D) (va_runV (As := []) (rest := []) ⟨hx, hb, hml, hown, hts⟩ ((x_failed l D k st lo x0 x1 tz ta__7 (nI nq_8) 1 (nI pl_8)) H.size) (cwV 0 hts (gV tw_682 tw_368 tw_369 tw_80 tw_370) rfl rfl rfl (by decide +kernel) ⟨Nat.le_of_ble_eq_true rfl, Nat.le_of_ble_eq_true rfl⟩) (pV hS hAlo hlo hP hK (va_Dlo hD hAlo) hZ [3] (by decide) rfl (ci := 6) (q := (RX6, TX6, 6)) (q0 := 0) rfl rfl) rfl rfl hl.1 rfl (lv_room (Nat.le_of_ble_eq_true rfl)) dX3_readChange_61 ⟨Nat.le_of_ble_eq_true rfl, Nat.le_of_ble_eq_true rfl⟩) hS hA hP (fun r_13 H locs hw_13 hP hS => ?_)
          try dsimp only at hw_13
          obtain rfl : r_13 = 1 := by rcases hw_13 with ⟨h, h2⟩ | ⟨h, h2⟩ <;> first | exact h | exact absurd rfl h2 | exact absurd h2 (by decide)
          refine lv_if_ne (tgt := 106) hx hb dX3_readChange_64 (by decide) (fun _ => ?_) (fun h => absurd h (by decide))
          have hP9 := hP.sub (ws' := [(u0, .inr (3, (fX3 u1 u2 rf (nI rc) (nI rr)))), (aI k u1 24 rs), (aI k u2 24 rb), (x0, .inr (6, (fX6 x1 (nI tz) (nI ta__7) (nI nq_8) 1 (nI pl_8)))), (aB k x1 240 fx)]) [0, 1, 2, 3, 4] rfl
          have hD9 := hD.sub (ws' := [(u0, .inr (3, (fX3 u1 u2 rf (nI rc) (nI rr)))), (aI k u1 24 rs), (aI k u2 24 rb), (x0, .inr (6, (fX6 x1 (nI tz) (nI ta__7) (nI nq_8) 1 (nI pl_8)))), (aB k x1 240 fx)]) [0, 1, 2, 3, 4] (by decide) rfl
          exact W.vret hx hb hr (fun t ht hW => ⟨⟨(rc, rs, rb, ta__7, (nI nq_8), 1, (nI pl_8)), rfl, ⟨.inr ⟨1, pl_8, rfl, by decide, by decide, (ch_4  hq_2 (.inl (by omega)) hq_6 hq_8 (by decide)).1, (ch_4  hq_2 (.inl (by omega)) hq_6 hq_8 (by decide)).2, rfl⟩, by omega, by omega, by omega⟩, by rw [ht]; exact hP9, hD9⟩, hS.F ht⟩) hS.2.2 dX3_readChange_106
        · refine lv_istore_n (lv' := [(3, .int r_7), (2, .int r_1), (0, .ref u0), (1, .ref x0)]) hx hb dX3_readChange_59 rfl hl (by decide) rfl (fun ls hl => ?_)
          refine lv_aload_n hx hb dX3_readChange_60 rfl (lv_at hl 3 rfl) ?_
          refine ro_i (D := D) (va_runV (As := []) (rest := []) ⟨hx, hb, hml, hown, hts⟩ ((x_failed l D k st lo x0 x1 tz ta__7 (nI nq_8) 2 (nI pl_8)) H.size) (cwV 0 hts (gV tw_682 tw_368 tw_369 tw_80 tw_370) rfl rfl rfl (by decide +kernel) ⟨Nat.le_of_ble_eq_true rfl, Nat.le_of_ble_eq_true rfl⟩) (pV hS hAlo hlo hP hK (va_Dlo hD hAlo) hZ [3] (by decide) rfl (ci := 6) (q := (RX6, TX6, 6)) (q0 := 0) rfl rfl) rfl rfl hl.1 rfl (lv_room (Nat.le_of_ble_eq_true rfl)) dX3_readChange_61 ⟨Nat.le_of_ble_eq_true rfl, Nat.le_of_ble_eq_true rfl⟩) hS hA hP (fun r_14 H locs hw_14 hP hS => ?_)
          try dsimp only at hw_14
          obtain rfl : r_14 = 1 := by rcases hw_14 with ⟨h, h2⟩ | ⟨h, h2⟩ <;> first | exact h | exact absurd rfl h2 | exact absurd h2 (by decide)
          refine lv_if_ne (tgt := 106) hx hb dX3_readChange_64 (by decide) (fun _ => ?_) (fun h => absurd h (by decide))
          have hP9 := hP.sub (ws' := [(u0, .inr (3, (fX3 u1 u2 rf (nI rc) (nI rr)))), (aI k u1 24 rs), (aI k u2 24 rb), (x0, .inr (6, (fX6 x1 (nI tz) (nI ta__7) (nI nq_8) 2 (nI pl_8)))), (aB k x1 240 fx)]) [0, 1, 2, 3, 4] rfl
          have hD9 := hD.sub (ws' := [(u0, .inr (3, (fX3 u1 u2 rf (nI rc) (nI rr)))), (aI k u1 24 rs), (aI k u2 24 rb), (x0, .inr (6, (fX6 x1 (nI tz) (nI ta__7) (nI nq_8) 2 (nI pl_8)))), (aB k x1 240 fx)]) [0, 1, 2, 3, 4] (by decide) rfl
          exact W.vret hx hb hr (fun t ht hW => ⟨⟨(rc, rs, rb, ta__7, (nI nq_8), 2, (nI pl_8)), rfl, ⟨.inr ⟨2, pl_8, rfl, by decide, by decide, (ch_4  hq_2 (.inl (by omega)) hq_6 hq_8 (by decide)).1, (ch_4  hq_2 (.inl (by omega)) hq_6 hq_8 (by decide)).2, rfl⟩, by omega, by omega, by omega⟩, by rw [ht]; exact hP9, hD9⟩, hS.F ht⟩) hS.2.2 dX3_readChange_106
      · refine lv_aload_n hx hb dX3_readChange_52 rfl (lv_at hl 2 rfl) ?_
        refine lv_iconst (v := 0) hx hb dX3_readChange_53 (by decide) ?_
        refine lv_bipush (v := 24) hx hb dX3_readChange_54 (by decide) ?_
        refine rw_i (D := D) (wr := [(u0, .inr (3, (fX3 u1 u2 rf (nI rc) (nI rr)))), (aI k u1 24 rs), (aI k u2 24 rb)]) (va_runV (As := [.int 0, .int 24]) (rest := []) ⟨hx, hb, hml, hown, hts⟩ ((y_needNumber l D k st lo x0 x1 tz ta__5 (nI nq_2) 1 (nI pl_6) fx 0 24 (by omega) (by omega) (by decide)) H.size) (cwV 2 hts (gV tw_681 tw_468 tw_469 tw_80 tw_470) rfl rfl rfl (by decide +kernel) ⟨Nat.le_of_ble_eq_true rfl, Nat.le_of_ble_eq_true rfl⟩) (pV hS hAlo hlo hP hK (va_Dlo hD hAlo) hZ [3, 4] (by decide) rfl (ci := 6) (q := (RX6, TX6, 6)) (q0 := 0) rfl rfl) rfl rfl hl.1 rfl (lv_room (Nat.le_of_ble_eq_true rfl)) dX3_readChange_56 ⟨Nat.le_of_ble_eq_true rfl, Nat.le_of_ble_eq_true rfl⟩) hS hA hP hD [3, 4] [0, 1, 2] rfl rfl (by decide) (by decide) (fun r_15 u H locs hw_15 hP hD hS => ?_)
        obtain ⟨ta__15, na__15, fn__15, fb__15⟩ := u
        replace hP : va_P D classes [(u0, .inr (3, (fX3 u1 u2 rf (nI rc) (nI rr)))), (aI k u1 24 rs), (aI k u2 24 rb), (x0, .inr (6, (fX6 x1 (nI tz) (nI ta__15) na__15 fn__15 fb__15))), (aB k x1 240 fx)] H := hP
        replace hD : va_D A [(u0, .inr (3, (fX3 u1 u2 rf (nI rc) (nI rr)))), (aI k u1 24 rs), (aI k u2 24 rb), (x0, .inr (6, (fX6 x1 (nI tz) (nI ta__15) na__15 fn__15 fb__15))), (aB k x1 240 fx)] := hD
        try dsimp only at hw_15
        have hr_16 := (hw_15.1 (by decide)).1
        obtain ⟨hs0_17, hs1_17, hs2_17, hs3_17⟩ := (hw_15.1 (by decide)).2
        replace hs0_17 := hs0_17.symm
        subst hs0_17
        replace hs1_17 := hs1_17.symm
        subst hs1_17
        replace hs2_17 := hs2_17.symm
        subst hs2_17
        replace hs3_17 := hs3_17.symm
        subst hs3_17
        refine lv_istore_n (lv' := [(3, .int r_15), (2, .int r_1), (0, .ref u0), (1, .ref x0)]) hx hb dX3_readChange_59 rfl hl (by decide) rfl (fun ls hl => ?_)
        refine lv_aload_n hx hb dX3_readChange_60 rfl (lv_at hl 3 rfl) ?_
        refine ro_i (D := D) (va_runV (As := []) (rest := []) ⟨hx, hb, hml, hown, hts⟩ ((x_failed l D k st lo x0 x1 tz ta__5 (nI nq_2) 1 (nI pl_6)) H.size) (cwV 0 hts (gV tw_682 tw_368 tw_369 tw_80 tw_370) rfl rfl rfl (by decide +kernel) ⟨Nat.le_of_ble_eq_true rfl, Nat.le_of_ble_eq_true rfl⟩) (pV hS hAlo hlo hP hK (va_Dlo hD hAlo) hZ [3] (by decide) rfl (ci := 6) (q := (RX6, TX6, 6)) (q0 := 0) rfl rfl) rfl rfl hl.1 rfl (lv_room (Nat.le_of_ble_eq_true rfl)) dX3_readChange_61 ⟨Nat.le_of_ble_eq_true rfl, Nat.le_of_ble_eq_true rfl⟩) hS hA hP (fun r_18 H locs hw_18 hP hS => ?_)
        try dsimp only at hw_18
        obtain rfl : r_18 = 1 := by rcases hw_18 with ⟨h, h2⟩ | ⟨h, h2⟩ <;> first | exact h | exact absurd rfl h2 | exact absurd h2 (by decide)
        refine lv_if_ne (tgt := 106) hx hb dX3_readChange_64 (by decide) (fun _ => ?_) (fun h => absurd h (by decide))
        have hP9 := hP.sub (ws' := [(u0, .inr (3, (fX3 u1 u2 rf (nI rc) (nI rr)))), (aI k u1 24 rs), (aI k u2 24 rb), (x0, .inr (6, (fX6 x1 (nI tz) (nI ta__5) (nI nq_2) 1 (nI pl_6)))), (aB k x1 240 fx)]) [0, 1, 2, 3, 4] rfl
        have hD9 := hD.sub (ws' := [(u0, .inr (3, (fX3 u1 u2 rf (nI rc) (nI rr)))), (aI k u1 24 rs), (aI k u2 24 rb), (x0, .inr (6, (fX6 x1 (nI tz) (nI ta__5) (nI nq_2) 1 (nI pl_6)))), (aB k x1 240 fx)]) [0, 1, 2, 3, 4] (by decide) rfl
        exact W.vret hx hb hr (fun t ht hW => ⟨⟨(rc, rs, rb, ta__5, (nI nq_2), 1, (nI pl_6)), rfl, ⟨.inr ⟨1, pl_6, rfl, by decide, by decide, (ch_2  hq_2 (.inl (by omega)) hq_6 (by decide)).1, (ch_2  hq_2 (.inl (by omega)) hq_6 (by decide)).2, rfl⟩, by omega, by omega, by omega⟩, by rw [ht]; exact hP9, hD9⟩, hS.F ht⟩) hS.2.2 dX3_readChange_106
    · have c_4 : ¬ (rc ≤ 0) := fun h => c_4 ((nI_leI (a := rc) (b := 0) (by omega) (by omega)).mpr h)
      refine lv_iload_n hx hb dX3_readChange_22 rfl (lv_at hl 0 rfl) ?_
      refine lv_aload_n hx hb dX3_readChange_23 rfl (lv_at hl 1 rfl) ?_
      refine va_get (D := D) (ci := 3) (v := .ref u1) (C := RX3) (T := TX3) (N := 5) hx hb hts inX3 hown hK hP 0 rfl rfl 0 (by decide) (hts _ tw_289) (fun _ h9 => h9) rfl dX3_readChange_24 ?_
      refine lv_aload_n hx hb dX3_readChange_27 rfl (lv_at hl 1 rfl) ?_
      refine va_get (D := D) (ci := 3) (v := .int (nI rc)) (C := RX3) (T := TX3) (N := 5) hx hb hts inX3 hown hK hP 0 rfl rfl 3 (by decide) (hts _ tw_292) (fun _ h9 => h9) rfl dX3_readChange_28 ?_
      refine lv_iconst (v := 1) hx hb dX3_readChange_31 (by decide) ?_
      refine lv_isub hx hb dX3_readChange_32 ?_
      refine lv_ti (y := (nI (rc - 1))) (pk_sub (a := rc) (b := 1) (by omega)) ?_
      refine va_iald hx hb hK hP 1 1 rfl rfl (vp_in_nI (by omega) (by decide)) dX3_readChange_33 ?_
      refine lv_ti (y := (rs (rc - 1))) (by rw [nI_clamp (by omega)]) ?_
      refine lv_icmp_gt (tgt := 46) hx hb dX3_readChange_34 (by decide) (fun c_19 => ?_) (fun c_19 => ?_)
      · refine lv_aload_n hx hb dX3_readChange_46 rfl (lv_at hl 2 rfl) ?_
        refine va_ldcS hx hb hown (hZ.2.2.2.2.2.2.2.2.2.2 (RX3, 28, "from", 12) (List.mem_of_getElem? (i := 12) rfl)) dX3_readChange_47 ?_
        refine rw_v (D := D) (wr := [(u0, .inr (3, (fX3 u1 u2 rf (nI rc) (nI rr)))), (aI k u1 24 rs), (aI k u2 24 rb)]) (va_runV (As := [.ref (st (100 + 12))]) (rest := []) ⟨hx, hb, hml, hown, hts⟩ ((y_needWord l D k st lo x0 x1 tz ta__1 (nI nq_2) 0 fb__1 fx 12 (by omega) (by omega) (by omega)) H.size) (cwV 1 hts (gV tw_680 tw_483 tw_484 tw_80 tw_485) rfl rfl rfl (by decide +kernel) ⟨Nat.le_of_ble_eq_true rfl, Nat.le_of_ble_eq_true rfl⟩) (pV hS hAlo hlo hP hK (va_Dlo hD hAlo) hZ [3, 4] (by decide) rfl (ci := 6) (q := (RX6, TX6, 6)) (q0 := 0) rfl rfl) rfl rfl hl.1 rfl (lv_room (Nat.le_of_ble_eq_true rfl)) dX3_readChange_49 ⟨Nat.le_of_ble_eq_true rfl, Nat.le_of_ble_eq_true rfl⟩) hS hA hP hD [3, 4] [0, 1, 2] rfl rfl (by decide) (by decide) (fun u H locs hw_20 hP hD hS => ?_)
        obtain ⟨ta__20, fn__20, fb__20⟩ := u
        replace hP : va_P D classes [(u0, .inr (3, (fX3 u1 u2 rf (nI rc) (nI rr)))), (aI k u1 24 rs), (aI k u2 24 rb), (x0, .inr (6, (fX6 x1 (nI tz) (nI ta__20) (nI nq_2) fn__20 fb__20))), (aB k x1 240 fx)] H := hP
        replace hD : va_D A [(u0, .inr (3, (fX3 u1 u2 rf (nI rc) (nI rr)))), (aI k u1 24 rs), (aI k u2 24 rb), (x0, .inr (6, (fX6 x1 (nI tz) (nI ta__20) (nI nq_2) fn__20 fb__20))), (aB k x1 240 fx)] := hD
        try dsimp only at hw_20
        rcases hw_20.2.1 rfl with ⟨rfl, hq_21⟩ | ⟨rfl, pl_21, hq_21, rfl⟩
        · refine lv_aload_n hx hb dX3_readChange_52 rfl (lv_at hl 2 rfl) ?_
          refine lv_iconst (v := 0) hx hb dX3_readChange_53 (by decide) ?_
          refine lv_bipush (v := 24) hx hb dX3_readChange_54 (by decide) ?_
          refine rw_i (D := D) (wr := [(u0, .inr (3, (fX3 u1 u2 rf (nI rc) (nI rr)))), (aI k u1 24 rs), (aI k u2 24 rb)]) (va_runV (As := [.int 0, .int 24]) (rest := []) ⟨hx, hb, hml, hown, hts⟩ ((y_needNumber l D k st lo x0 x1 tz ta__20 (nI nq_2) 0 fb__20 fx 0 24 (by omega) (by omega) (by decide)) H.size) (cwV 2 hts (gV tw_681 tw_468 tw_469 tw_80 tw_470) rfl rfl rfl (by decide +kernel) ⟨Nat.le_of_ble_eq_true rfl, Nat.le_of_ble_eq_true rfl⟩) (pV hS hAlo hlo hP hK (va_Dlo hD hAlo) hZ [3, 4] (by decide) rfl (ci := 6) (q := (RX6, TX6, 6)) (q0 := 0) rfl rfl) rfl rfl hl.1 rfl (lv_room (Nat.le_of_ble_eq_true rfl)) dX3_readChange_56 ⟨Nat.le_of_ble_eq_true rfl, Nat.le_of_ble_eq_true rfl⟩) hS hA hP hD [3, 4] [0, 1, 2] rfl rfl (by decide) (by decide) (fun r_22 u H locs hw_22 hP hD hS => ?_)
          obtain ⟨ta__22, na__22, fn__22, fb__22⟩ := u
          replace hP : va_P D classes [(u0, .inr (3, (fX3 u1 u2 rf (nI rc) (nI rr)))), (aI k u1 24 rs), (aI k u2 24 rb), (x0, .inr (6, (fX6 x1 (nI tz) (nI ta__22) na__22 fn__22 fb__22))), (aB k x1 240 fx)] H := hP
          replace hD : va_D A [(u0, .inr (3, (fX3 u1 u2 rf (nI rc) (nI rr)))), (aI k u1 24 rs), (aI k u2 24 rb), (x0, .inr (6, (fX6 x1 (nI tz) (nI ta__22) na__22 fn__22 fb__22))), (aB k x1 240 fx)] := hD
          try dsimp only at hw_22
          obtain ⟨pl_23, nq_23, rfl, hq_23⟩ := hw_22.2.1 rfl
          rw [show decide ((0 : Int32) < 0) = false from by decide] at hq_23
          rcases hq_23 with ⟨rfl, hq_23⟩ | ⟨rfl, hr_23, rfl, hq_23⟩ | ⟨rfl, hr_23, rfl, hq_23⟩
          · refine lv_istore_n (lv' := [(3, .int r_22), (2, .int r_1), (0, .ref u0), (1, .ref x0)]) hx hb dX3_readChange_59 rfl hl (by decide) rfl (fun ls hl => ?_)
            refine lv_aload_n hx hb dX3_readChange_60 rfl (lv_at hl 3 rfl) ?_
            refine ro_i (D := D) (va_runV (As := []) (rest := []) ⟨hx, hb, hml, hown, hts⟩ ((x_failed l D k st lo x0 x1 tz ta__22 (nI nq_23) 0 fb__22) H.size) (cwV 0 hts (gV tw_682 tw_368 tw_369 tw_80 tw_370) rfl rfl rfl (by decide +kernel) ⟨Nat.le_of_ble_eq_true rfl, Nat.le_of_ble_eq_true rfl⟩) (pV hS hAlo hlo hP hK (va_Dlo hD hAlo) hZ [3] (by decide) rfl (ci := 6) (q := (RX6, TX6, 6)) (q0 := 0) rfl rfl) rfl rfl hl.1 rfl (lv_room (Nat.le_of_ble_eq_true rfl)) dX3_readChange_61 ⟨Nat.le_of_ble_eq_true rfl, Nat.le_of_ble_eq_true rfl⟩) hS hA hP (fun r_24 H locs hw_24 hP hS => ?_)
            try dsimp only at hw_24
            obtain rfl : r_24 = 0 := by rcases hw_24 with ⟨h, h2⟩ | ⟨h, h2⟩ <;> first | exact h | exact absurd rfl h2 | exact absurd h2 (by decide)
            refine lv_if_ne (tgt := 106) hx hb dX3_readChange_64 (by decide) (fun h => absurd (by decide) h) (fun _ => ?_)
            refine lv_aload_n hx hb dX3_readChange_67 rfl (lv_at hl 2 rfl) ?_
            refine va_get (D := D) (ci := 3) (v := .int (nI rc)) (C := RX3) (T := TX3) (N := 5) hx hb hts inX3 hown hK hP 0 rfl rfl 3 (by decide) (hts _ tw_292) (fun _ h9 => h9) rfl dX3_readChange_68 ?_
            refine lv_bipush (v := 24) hx hb dX3_readChange_71 (by decide) ?_
            refine lv_icmp_ge (tgt := 106) hx hb dX3_readChange_73 (by decide) (fun h => absurd ((nI_leI (a := 24) (b := rc) (by omega) (by omega)).mp h) (by omega)) (fun _ => ?_)
            refine lv_aload_n hx hb dX3_readChange_76 rfl (lv_at hl 2 rfl) ?_
            refine va_get (D := D) (ci := 3) (v := .ref u1) (C := RX3) (T := TX3) (N := 5) hx hb hts inX3 hown hK hP 0 rfl rfl 0 (by decide) (hts _ tw_289) (fun _ h9 => h9) rfl dX3_readChange_77 ?_
            refine lv_aload_n hx hb dX3_readChange_80 rfl (lv_at hl 2 rfl) ?_
            refine va_get (D := D) (ci := 3) (v := .int (nI rc)) (C := RX3) (T := TX3) (N := 5) hx hb hts inX3 hown hK hP 0 rfl rfl 3 (by decide) (hts _ tw_292) (fun _ h9 => h9) rfl dX3_readChange_81 ?_
            refine lv_iload_n hx hb dX3_readChange_84 rfl (lv_at hl 1 rfl) ?_
            refine va_iast hx hb hK hP hD hS 1 1 rfl rfl (vp_in_nI (by omega) (by decide)) dX3_readChange_85 (fun H locs hP hD hS => ?_)
            replace hP : va_P D classes [(u0, .inr (3, (fX3 u1 u2 rf (nI rc) (nI rr)))), (aI k u1 24 (upd rs (Int32.toNatClampNeg (nI rc)) r_1)), (aI k u2 24 rb), (x0, .inr (6, (fX6 x1 (nI tz) (nI ta__22) (nI nq_23) 0 fb__22))), (aB k x1 240 fx)] H := hP
            replace hD : va_D A [(u0, .inr (3, (fX3 u1 u2 rf (nI rc) (nI rr)))), (aI k u1 24 (upd rs (Int32.toNatClampNeg (nI rc)) r_1)), (aI k u2 24 rb), (x0, .inr (6, (fX6 x1 (nI tz) (nI ta__22) (nI nq_23) 0 fb__22))), (aB k x1 240 fx)] := hD
            rw [nI_clamp (n := rc) (by omega)] at hP hD
            replace hP : va_P D classes [(u0, .inr (3, (fX3 u1 u2 rf (nI rc) (nI rr)))), (aI k u1 24 (upd rs rc r_1)), (aI k u2 24 rb), (x0, .inr (6, (fX6 x1 (nI tz) (nI ta__22) (nI nq_23) 0 fb__22))), (aB k x1 240 fx)] H := hP
            replace hD : va_D A [(u0, .inr (3, (fX3 u1 u2 rf (nI rc) (nI rr)))), (aI k u1 24 (upd rs rc r_1)), (aI k u2 24 rb), (x0, .inr (6, (fX6 x1 (nI tz) (nI ta__22) (nI nq_23) 0 fb__22))), (aB k x1 240 fx)] := hD
            refine lv_aload_n hx hb dX3_readChange_86 rfl (lv_at hl 2 rfl) ?_
            refine va_get (D := D) (ci := 3) (v := .ref u2) (C := RX3) (T := TX3) (N := 5) hx hb hts inX3 hown hK hP 0 rfl rfl 1 (by decide) (hts _ tw_290) (fun _ h9 => h9) rfl dX3_readChange_87 ?_
            refine lv_aload_n hx hb dX3_readChange_90 rfl (lv_at hl 2 rfl) ?_
            refine va_get (D := D) (ci := 3) (v := .int (nI rc)) (C := RX3) (T := TX3) (N := 5) hx hb hts inX3 hown hK hP 0 rfl rfl 3 (by decide) (hts _ tw_292) (fun _ h9 => h9) rfl dX3_readChange_91 ?_
            refine lv_iload_n hx hb dX3_readChange_94 rfl (lv_at hl 0 rfl) ?_
            refine va_iast hx hb hK hP hD hS 2 1 rfl rfl (vp_in_nI (by omega) (by decide)) dX3_readChange_95 (fun H locs hP hD hS => ?_)
            replace hP : va_P D classes [(u0, .inr (3, (fX3 u1 u2 rf (nI rc) (nI rr)))), (aI k u1 24 (upd rs rc r_1)), (aI k u2 24 (upd rb (Int32.toNatClampNeg (nI rc)) r_22)), (x0, .inr (6, (fX6 x1 (nI tz) (nI ta__22) (nI nq_23) 0 fb__22))), (aB k x1 240 fx)] H := hP
            replace hD : va_D A [(u0, .inr (3, (fX3 u1 u2 rf (nI rc) (nI rr)))), (aI k u1 24 (upd rs rc r_1)), (aI k u2 24 (upd rb (Int32.toNatClampNeg (nI rc)) r_22)), (x0, .inr (6, (fX6 x1 (nI tz) (nI ta__22) (nI nq_23) 0 fb__22))), (aB k x1 240 fx)] := hD
            rw [nI_clamp (n := rc) (by omega)] at hP hD
            replace hP : va_P D classes [(u0, .inr (3, (fX3 u1 u2 rf (nI rc) (nI rr)))), (aI k u1 24 (upd rs rc r_1)), (aI k u2 24 (upd rb rc r_22)), (x0, .inr (6, (fX6 x1 (nI tz) (nI ta__22) (nI nq_23) 0 fb__22))), (aB k x1 240 fx)] H := hP
            replace hD : va_D A [(u0, .inr (3, (fX3 u1 u2 rf (nI rc) (nI rr)))), (aI k u1 24 (upd rs rc r_1)), (aI k u2 24 (upd rb rc r_22)), (x0, .inr (6, (fX6 x1 (nI tz) (nI ta__22) (nI nq_23) 0 fb__22))), (aB k x1 240 fx)] := hD
            refine lv_aload_n hx hb dX3_readChange_96 rfl (lv_at hl 2 rfl) ?_
            refine lv_dup hx hb dX3_readChange_97 rfl ?_
            refine va_get (D := D) (ci := 3) (v := .int (nI rc)) (C := RX3) (T := TX3) (N := 5) hx hb hts inX3 hown hK hP 0 rfl rfl 3 (by decide) (hts _ tw_292) (fun _ h9 => h9) rfl dX3_readChange_98 ?_
            refine lv_iconst (v := 1) hx hb dX3_readChange_101 (by decide) ?_
            refine lv_iadd hx hb dX3_readChange_102 ?_
            refine lv_ti (y := (nI (rc + 1))) (nI_add rc 1) ?_
            refine va_put (D := D) (ci := 3) (v := .int (nI (rc + 1))) (ty := .int) (C := RX3) (T := TX3) (N := 5) hx hb hts inX3 tyX3 tyX3_ok nmX3 hown hK hP hD hS 0 rfl rfl 3 (by decide) (hts _ tw_292) (fun _ h9 => h9) rfl (by decide +kernel) rfl rfl (Nat.le_of_ble_eq_true rfl) dX3_readChange_103 (fun H locs hP hD hS => ?_)
            replace hP : va_P D classes [(u0, .inr (3, (fX3 u1 u2 rf (nI (rc + 1)) (nI rr)))), (aI k u1 24 (upd rs rc r_1)), (aI k u2 24 (upd rb rc r_22)), (x0, .inr (6, (fX6 x1 (nI tz) (nI ta__22) (nI nq_23) 0 fb__22))), (aB k x1 240 fx)] H := hP
            replace hD : va_D A [(u0, .inr (3, (fX3 u1 u2 rf (nI (rc + 1)) (nI rr)))), (aI k u1 24 (upd rs rc r_1)), (aI k u2 24 (upd rb rc r_22)), (x0, .inr (6, (fX6 x1 (nI tz) (nI ta__22) (nI nq_23) 0 fb__22))), (aB k x1 240 fx)] := hD
            have hz1_9 := nuR_ge hq_2
            have hz2_9 := wdR_ge (i := 12) hq_21
            have hz3_9 := nuR_ge hq_23
            replace hz2_9 : _ + 4 ≤ _ := hz2_9
            have hP9 := hP.sub (ws' := [(u0, .inr (3, (fX3 u1 u2 rf (nI (rc + 1)) (nI rr)))), (aI k u1 24 (upd rs rc r_1)), (aI k u2 24 (upd rb rc r_22)), (x0, .inr (6, (fX6 x1 (nI tz) (nI ta__22) (nI nq_23) 0 fb__22))), (aB k x1 240 fx)]) [0, 1, 2, 3, 4] rfl
            have hD9 := hD.sub (ws' := [(u0, .inr (3, (fX3 u1 u2 rf (nI (rc + 1)) (nI rr)))), (aI k u1 24 (upd rs rc r_1)), (aI k u2 24 (upd rb rc r_22)), (x0, .inr (6, (fX6 x1 (nI tz) (nI ta__22) (nI nq_23) 0 fb__22))), (aB k x1 240 fx)]) [0, 1, 2, 3, 4] (by decide) rfl
            exact W.vret hx hb hr (fun t ht hW => ⟨⟨((rc + 1), (upd rs rc r_1), (upd rb rc r_22), ta__22, (nI nq_23), 0, fb__22), rfl, ⟨.inl ⟨rfl, r_1, r_22, ch_0  hq_2 (.inr c_19) hq_21 hq_23, rfl, rfl, rfl, by omega⟩, by omega, by omega, by omega⟩, by rw [ht]; exact hP9, hD9⟩, hS.F ht⟩) hS.2.2 dX3_readChange_106
          · refine lv_istore_n (lv' := [(3, .int r_22), (2, .int r_1), (0, .ref u0), (1, .ref x0)]) hx hb dX3_readChange_59 rfl hl (by decide) rfl (fun ls hl => ?_)
            refine lv_aload_n hx hb dX3_readChange_60 rfl (lv_at hl 3 rfl) ?_
            refine ro_i (D := D) (va_runV (As := []) (rest := []) ⟨hx, hb, hml, hown, hts⟩ ((x_failed l D k st lo x0 x1 tz ta__22 (nI nq_23) 1 (nI pl_23)) H.size) (cwV 0 hts (gV tw_682 tw_368 tw_369 tw_80 tw_370) rfl rfl rfl (by decide +kernel) ⟨Nat.le_of_ble_eq_true rfl, Nat.le_of_ble_eq_true rfl⟩) (pV hS hAlo hlo hP hK (va_Dlo hD hAlo) hZ [3] (by decide) rfl (ci := 6) (q := (RX6, TX6, 6)) (q0 := 0) rfl rfl) rfl rfl hl.1 rfl (lv_room (Nat.le_of_ble_eq_true rfl)) dX3_readChange_61 ⟨Nat.le_of_ble_eq_true rfl, Nat.le_of_ble_eq_true rfl⟩) hS hA hP (fun r_28 H locs hw_28 hP hS => ?_)
            try dsimp only at hw_28
            obtain rfl : r_28 = 1 := by rcases hw_28 with ⟨h, h2⟩ | ⟨h, h2⟩ <;> first | exact h | exact absurd rfl h2 | exact absurd h2 (by decide)
            refine lv_if_ne (tgt := 106) hx hb dX3_readChange_64 (by decide) (fun _ => ?_) (fun h => absurd h (by decide))
            have hP9 := hP.sub (ws' := [(u0, .inr (3, (fX3 u1 u2 rf (nI rc) (nI rr)))), (aI k u1 24 rs), (aI k u2 24 rb), (x0, .inr (6, (fX6 x1 (nI tz) (nI ta__22) (nI nq_23) 1 (nI pl_23)))), (aB k x1 240 fx)]) [0, 1, 2, 3, 4] rfl
            have hD9 := hD.sub (ws' := [(u0, .inr (3, (fX3 u1 u2 rf (nI rc) (nI rr)))), (aI k u1 24 rs), (aI k u2 24 rb), (x0, .inr (6, (fX6 x1 (nI tz) (nI ta__22) (nI nq_23) 1 (nI pl_23)))), (aB k x1 240 fx)]) [0, 1, 2, 3, 4] (by decide) rfl
            exact W.vret hx hb hr (fun t ht hW => ⟨⟨(rc, rs, rb, ta__22, (nI nq_23), 1, (nI pl_23)), rfl, ⟨.inr ⟨1, pl_23, rfl, by decide, by decide, (ch_4  hq_2 (.inr c_19) hq_21 hq_23 (by decide)).1, (ch_4  hq_2 (.inr c_19) hq_21 hq_23 (by decide)).2, rfl⟩, by omega, by omega, by omega⟩, by rw [ht]; exact hP9, hD9⟩, hS.F ht⟩) hS.2.2 dX3_readChange_106
          · refine lv_istore_n (lv' := [(3, .int r_22), (2, .int r_1), (0, .ref u0), (1, .ref x0)]) hx hb dX3_readChange_59 rfl hl (by decide) rfl (fun ls hl => ?_)
            refine lv_aload_n hx hb dX3_readChange_60 rfl (lv_at hl 3 rfl) ?_
            refine ro_i (D := D) (va_runV (As := []) (rest := []) ⟨hx, hb, hml, hown, hts⟩ ((x_failed l D k st lo x0 x1 tz ta__22 (nI nq_23) 2 (nI pl_23)) H.size) (cwV 0 hts (gV tw_682 tw_368 tw_369 tw_80 tw_370) rfl rfl rfl (by decide +kernel) ⟨Nat.le_of_ble_eq_true rfl, Nat.le_of_ble_eq_true rfl⟩) (pV hS hAlo hlo hP hK (va_Dlo hD hAlo) hZ [3] (by decide) rfl (ci := 6) (q := (RX6, TX6, 6)) (q0 := 0) rfl rfl) rfl rfl hl.1 rfl (lv_room (Nat.le_of_ble_eq_true rfl)) dX3_readChange_61 ⟨Nat.le_of_ble_eq_true rfl, Nat.le_of_ble_eq_true rfl⟩) hS hA hP (fun r_29 H locs hw_29 hP hS => ?_)
            try dsimp only at hw_29
            obtain rfl : r_29 = 1 := by rcases hw_29 with ⟨h, h2⟩ | ⟨h, h2⟩ <;> first | exact h | exact absurd rfl h2 | exact absurd h2 (by decide)
            refine lv_if_ne (tgt := 106) hx hb dX3_readChange_64 (by decide) (fun _ => ?_) (fun h => absurd h (by decide))
            have hP9 := hP.sub (ws' := [(u0, .inr (3, (fX3 u1 u2 rf (nI rc) (nI rr)))), (aI k u1 24 rs), (aI k u2 24 rb), (x0, .inr (6, (fX6 x1 (nI tz) (nI ta__22) (nI nq_23) 2 (nI pl_23)))), (aB k x1 240 fx)]) [0, 1, 2, 3, 4] rfl
            have hD9 := hD.sub (ws' := [(u0, .inr (3, (fX3 u1 u2 rf (nI rc) (nI rr)))), (aI k u1 24 rs), (aI k u2 24 rb), (x0, .inr (6, (fX6 x1 (nI tz) (nI ta__22) (nI nq_23) 2 (nI pl_23)))), (aB k x1 240 fx)]) [0, 1, 2, 3, 4] (by decide) rfl
            exact W.vret hx hb hr (fun t ht hW => ⟨⟨(rc, rs, rb, ta__22, (nI nq_23), 2, (nI pl_23)), rfl, ⟨.inr ⟨2, pl_23, rfl, by decide, by decide, (ch_4  hq_2 (.inr c_19) hq_21 hq_23 (by decide)).1, (ch_4  hq_2 (.inr c_19) hq_21 hq_23 (by decide)).2, rfl⟩, by omega, by omega, by omega⟩, by rw [ht]; exact hP9, hD9⟩, hS.F ht⟩) hS.2.2 dX3_readChange_106
        · refine lv_aload_n hx hb dX3_readChange_52 rfl (lv_at hl 2 rfl) ?_
          refine lv_iconst (v := 0) hx hb dX3_readChange_53 (by decide) ?_
          refine lv_bipush (v := 24) hx hb dX3_readChange_54 (by decide) ?_
          refine rw_i (D := D) (wr := [(u0, .inr (3, (fX3 u1 u2 rf (nI rc) (nI rr)))), (aI k u1 24 rs), (aI k u2 24 rb)]) (va_runV (As := [.int 0, .int 24]) (rest := []) ⟨hx, hb, hml, hown, hts⟩ ((y_needNumber l D k st lo x0 x1 tz ta__20 (nI nq_2) 1 (nI pl_21) fx 0 24 (by omega) (by omega) (by decide)) H.size) (cwV 2 hts (gV tw_681 tw_468 tw_469 tw_80 tw_470) rfl rfl rfl (by decide +kernel) ⟨Nat.le_of_ble_eq_true rfl, Nat.le_of_ble_eq_true rfl⟩) (pV hS hAlo hlo hP hK (va_Dlo hD hAlo) hZ [3, 4] (by decide) rfl (ci := 6) (q := (RX6, TX6, 6)) (q0 := 0) rfl rfl) rfl rfl hl.1 rfl (lv_room (Nat.le_of_ble_eq_true rfl)) dX3_readChange_56 ⟨Nat.le_of_ble_eq_true rfl, Nat.le_of_ble_eq_true rfl⟩) hS hA hP hD [3, 4] [0, 1, 2] rfl rfl (by decide) (by decide) (fun r_30 u H locs hw_30 hP hD hS => ?_)
          obtain ⟨ta__30, na__30, fn__30, fb__30⟩ := u
          replace hP : va_P D classes [(u0, .inr (3, (fX3 u1 u2 rf (nI rc) (nI rr)))), (aI k u1 24 rs), (aI k u2 24 rb), (x0, .inr (6, (fX6 x1 (nI tz) (nI ta__30) na__30 fn__30 fb__30))), (aB k x1 240 fx)] H := hP
          replace hD : va_D A [(u0, .inr (3, (fX3 u1 u2 rf (nI rc) (nI rr)))), (aI k u1 24 rs), (aI k u2 24 rb), (x0, .inr (6, (fX6 x1 (nI tz) (nI ta__30) na__30 fn__30 fb__30))), (aB k x1 240 fx)] := hD
          try dsimp only at hw_30
          have hr_31 := (hw_30.1 (by decide)).1
          obtain ⟨hs0_32, hs1_32, hs2_32, hs3_32⟩ := (hw_30.1 (by decide)).2
          replace hs0_32 := hs0_32.symm
          subst hs0_32
          replace hs1_32 := hs1_32.symm
          subst hs1_32
          replace hs2_32 := hs2_32.symm
          subst hs2_32
          replace hs3_32 := hs3_32.symm
          subst hs3_32
          refine lv_istore_n (lv' := [(3, .int r_30), (2, .int r_1), (0, .ref u0), (1, .ref x0)]) hx hb dX3_readChange_59 rfl hl (by decide) rfl (fun ls hl => ?_)
          refine lv_aload_n hx hb dX3_readChange_60 rfl (lv_at hl 3 rfl) ?_
          refine ro_i (D := D) (va_runV (As := []) (rest := []) ⟨hx, hb, hml, hown, hts⟩ ((x_failed l D k st lo x0 x1 tz ta__20 (nI nq_2) 1 (nI pl_21)) H.size) (cwV 0 hts (gV tw_682 tw_368 tw_369 tw_80 tw_370) rfl rfl rfl (by decide +kernel) ⟨Nat.le_of_ble_eq_true rfl, Nat.le_of_ble_eq_true rfl⟩) (pV hS hAlo hlo hP hK (va_Dlo hD hAlo) hZ [3] (by decide) rfl (ci := 6) (q := (RX6, TX6, 6)) (q0 := 0) rfl rfl) rfl rfl hl.1 rfl (lv_room (Nat.le_of_ble_eq_true rfl)) dX3_readChange_61 ⟨Nat.le_of_ble_eq_true rfl, Nat.le_of_ble_eq_true rfl⟩) hS hA hP (fun r_33 H locs hw_33 hP hS => ?_)
          try dsimp only at hw_33
          obtain rfl : r_33 = 1 := by rcases hw_33 with ⟨h, h2⟩ | ⟨h, h2⟩ <;> first | exact h | exact absurd rfl h2 | exact absurd h2 (by decide)
          refine lv_if_ne (tgt := 106) hx hb dX3_readChange_64 (by decide) (fun _ => ?_) (fun h => absurd h (by decide))
          have hP9 := hP.sub (ws' := [(u0, .inr (3, (fX3 u1 u2 rf (nI rc) (nI rr)))), (aI k u1 24 rs), (aI k u2 24 rb), (x0, .inr (6, (fX6 x1 (nI tz) (nI ta__20) (nI nq_2) 1 (nI pl_21)))), (aB k x1 240 fx)]) [0, 1, 2, 3, 4] rfl
          have hD9 := hD.sub (ws' := [(u0, .inr (3, (fX3 u1 u2 rf (nI rc) (nI rr)))), (aI k u1 24 rs), (aI k u2 24 rb), (x0, .inr (6, (fX6 x1 (nI tz) (nI ta__20) (nI nq_2) 1 (nI pl_21)))), (aB k x1 240 fx)]) [0, 1, 2, 3, 4] (by decide) rfl
          exact W.vret hx hb hr (fun t ht hW => ⟨⟨(rc, rs, rb, ta__20, (nI nq_2), 1, (nI pl_21)), rfl, ⟨.inr ⟨1, pl_21, rfl, by decide, by decide, (ch_2  hq_2 (.inr c_19) hq_21 (by decide)).1, (ch_2  hq_2 (.inr c_19) hq_21 (by decide)).2, rfl⟩, by omega, by omega, by omega⟩, by rw [ht]; exact hP9, hD9⟩, hS.F ht⟩) hS.2.2 dX3_readChange_106
      · refine lv_aload_n hx hb dX3_readChange_37 rfl (lv_at hl 2 rfl) ?_
        refine lv_iconst (v := 3) hx hb dX3_readChange_38 (by decide) ?_
        refine lv_aload_n hx hb dX3_readChange_39 rfl (lv_at hl 2 rfl) ?_
        refine va_get (D := D) (ci := 6) (v := .int (nI nq_2)) (C := RX6) (T := TX6) (N := 6) hx hb hts inX6 hown hK hP 3 rfl rfl 3 (by decide) (hts _ tw_117) (fun _ h9 => h9) rfl dX3_readChange_40 ?_
        refine rw_v (D := D) (wr := [(u0, .inr (3, (fX3 u1 u2 rf (nI rc) (nI rr)))), (aI k u1 24 rs), (aI k u2 24 rb), (aB k x1 240 fx)]) (va_runV (As := [.int 3, .int (nI nq_2)]) (rest := []) ⟨hx, hb, hml, hown, hts⟩ ((y_fail l D k st lo x0 x1 tz ta__1 (nI nq_2) 0 fb__1 3 (nI nq_2) (by decide)) H.size) (cwV 2 hts (gV tw_689 tw_456 tw_457 tw_80 tw_458) rfl rfl rfl (by decide +kernel) ⟨Nat.le_of_ble_eq_true rfl, Nat.le_of_ble_eq_true rfl⟩) (pV hS hAlo hlo hP hK (va_Dlo hD hAlo) hZ [3] (by decide) rfl (ci := 6) (q := (RX6, TX6, 6)) (q0 := 0) rfl rfl) rfl rfl hl.1 rfl (lv_room (Nat.le_of_ble_eq_true rfl)) dX3_readChange_43 ⟨Nat.le_of_ble_eq_true rfl, Nat.le_of_ble_eq_true rfl⟩) hS hA hP hD [3] [0, 1, 2, 4] rfl rfl (by decide) (by decide) (fun u H locs hw_34 hP hD hS => ?_)
        obtain ⟨fn__34, fb__34⟩ := u
        replace hP : va_P D classes [(u0, .inr (3, (fX3 u1 u2 rf (nI rc) (nI rr)))), (aI k u1 24 rs), (aI k u2 24 rb), (aB k x1 240 fx), (x0, .inr (6, (fX6 x1 (nI tz) (nI ta__1) (nI nq_2) fn__34 fb__34)))] H := hP
        replace hD : va_D A [(u0, .inr (3, (fX3 u1 u2 rf (nI rc) (nI rr)))), (aI k u1 24 rs), (aI k u2 24 rb), (aB k x1 240 fx), (x0, .inr (6, (fX6 x1 (nI tz) (nI ta__1) (nI nq_2) fn__34 fb__34)))] := hD
        try dsimp only at hw_34
        obtain ⟨hs0_35, hs1_35⟩ := hw_34.2.1 rfl
        replace hs0_35 := hs0_35.symm
        subst hs0_35
        replace hs1_35 := hs1_35.symm
        subst hs1_35
        refine lv_aload_n hx hb dX3_readChange_46 rfl (lv_at hl 2 rfl) ?_
        refine va_ldcS hx hb hown (hZ.2.2.2.2.2.2.2.2.2.2 (RX3, 28, "from", 12) (List.mem_of_getElem? (i := 12) rfl)) dX3_readChange_47 ?_
        refine rw_v (D := D) (wr := [(u0, .inr (3, (fX3 u1 u2 rf (nI rc) (nI rr)))), (aI k u1 24 rs), (aI k u2 24 rb)]) (va_runV (As := [.ref (st (100 + 12))]) (rest := []) ⟨hx, hb, hml, hown, hts⟩ ((y_needWord l D k st lo x0 x1 tz ta__1 (nI nq_2) 3 (nI nq_2) fx 12 (by omega) (by omega) (by omega)) H.size) (cwV 1 hts (gV tw_680 tw_483 tw_484 tw_80 tw_485) rfl rfl rfl (by decide +kernel) ⟨Nat.le_of_ble_eq_true rfl, Nat.le_of_ble_eq_true rfl⟩) (pV hS hAlo hlo hP hK (va_Dlo hD hAlo) hZ [4, 3] (by decide) rfl (ci := 6) (q := (RX6, TX6, 6)) (q0 := 0) rfl rfl) rfl rfl hl.1 rfl (lv_room (Nat.le_of_ble_eq_true rfl)) dX3_readChange_49 ⟨Nat.le_of_ble_eq_true rfl, Nat.le_of_ble_eq_true rfl⟩) hS hA hP hD [4, 3] [0, 1, 2] rfl rfl (by decide) (by decide) (fun u H locs hw_36 hP hD hS => ?_)
        obtain ⟨ta__36, fn__36, fb__36⟩ := u
        replace hP : va_P D classes [(u0, .inr (3, (fX3 u1 u2 rf (nI rc) (nI rr)))), (aI k u1 24 rs), (aI k u2 24 rb), (x0, .inr (6, (fX6 x1 (nI tz) (nI ta__36) (nI nq_2) fn__36 fb__36))), (aB k x1 240 fx)] H := hP
        replace hD : va_D A [(u0, .inr (3, (fX3 u1 u2 rf (nI rc) (nI rr)))), (aI k u1 24 rs), (aI k u2 24 rb), (x0, .inr (6, (fX6 x1 (nI tz) (nI ta__36) (nI nq_2) fn__36 fb__36))), (aB k x1 240 fx)] := hD
        try dsimp only at hw_36
        obtain ⟨hs0_37, hs1_37, hs2_37⟩ := hw_36.1 (by decide)
        replace hs0_37 := hs0_37.symm
        subst hs0_37
        replace hs1_37 := hs1_37.symm
        subst hs1_37
        replace hs2_37 := hs2_37.symm
        subst hs2_37
        refine lv_aload_n hx hb dX3_readChange_52 rfl (lv_at hl 2 rfl) ?_
        refine lv_iconst (v := 0) hx hb dX3_readChange_53 (by decide) ?_
        refine lv_bipush (v := 24) hx hb dX3_readChange_54 (by decide) ?_
        refine rw_i (D := D) (wr := [(u0, .inr (3, (fX3 u1 u2 rf (nI rc) (nI rr)))), (aI k u1 24 rs), (aI k u2 24 rb)]) (va_runV (As := [.int 0, .int 24]) (rest := []) ⟨hx, hb, hml, hown, hts⟩ ((y_needNumber l D k st lo x0 x1 tz ta__1 (nI nq_2) 3 (nI nq_2) fx 0 24 (by omega) (by omega) (by decide)) H.size) (cwV 2 hts (gV tw_681 tw_468 tw_469 tw_80 tw_470) rfl rfl rfl (by decide +kernel) ⟨Nat.le_of_ble_eq_true rfl, Nat.le_of_ble_eq_true rfl⟩) (pV hS hAlo hlo hP hK (va_Dlo hD hAlo) hZ [3, 4] (by decide) rfl (ci := 6) (q := (RX6, TX6, 6)) (q0 := 0) rfl rfl) rfl rfl hl.1 rfl (lv_room (Nat.le_of_ble_eq_true rfl)) dX3_readChange_56 ⟨Nat.le_of_ble_eq_true rfl, Nat.le_of_ble_eq_true rfl⟩) hS hA hP hD [3, 4] [0, 1, 2] rfl rfl (by decide) (by decide) (fun r_38 u H locs hw_38 hP hD hS => ?_)
        obtain ⟨ta__38, na__38, fn__38, fb__38⟩ := u
        replace hP : va_P D classes [(u0, .inr (3, (fX3 u1 u2 rf (nI rc) (nI rr)))), (aI k u1 24 rs), (aI k u2 24 rb), (x0, .inr (6, (fX6 x1 (nI tz) (nI ta__38) na__38 fn__38 fb__38))), (aB k x1 240 fx)] H := hP
        replace hD : va_D A [(u0, .inr (3, (fX3 u1 u2 rf (nI rc) (nI rr)))), (aI k u1 24 rs), (aI k u2 24 rb), (x0, .inr (6, (fX6 x1 (nI tz) (nI ta__38) na__38 fn__38 fb__38))), (aB k x1 240 fx)] := hD
        try dsimp only at hw_38
        have hr_39 := (hw_38.1 (by decide)).1
        obtain ⟨hs0_40, hs1_40, hs2_40, hs3_40⟩ := (hw_38.1 (by decide)).2
        replace hs0_40 := hs0_40.symm
        subst hs0_40
        replace hs1_40 := hs1_40.symm
        subst hs1_40
        replace hs2_40 := hs2_40.symm
        subst hs2_40
        replace hs3_40 := hs3_40.symm
        subst hs3_40
        refine lv_istore_n (lv' := [(3, .int r_38), (2, .int r_1), (0, .ref u0), (1, .ref x0)]) hx hb dX3_readChange_59 rfl hl (by decide) rfl (fun ls hl => ?_)
        refine lv_aload_n hx hb dX3_readChange_60 rfl (lv_at hl 3 rfl) ?_
        refine ro_i (D := D) (va_runV (As := []) (rest := []) ⟨hx, hb, hml, hown, hts⟩ ((x_failed l D k st lo x0 x1 tz ta__1 (nI nq_2) 3 (nI nq_2)) H.size) (cwV 0 hts (gV tw_682 tw_368 tw_369 tw_80 tw_370) rfl rfl rfl (by decide +kernel) ⟨Nat.le_of_ble_eq_true rfl, Nat.le_of_ble_eq_true rfl⟩) (pV hS hAlo hlo hP hK (va_Dlo hD hAlo) hZ [3] (by decide) rfl (ci := 6) (q := (RX6, TX6, 6)) (q0 := 0) rfl rfl) rfl rfl hl.1 rfl (lv_room (Nat.le_of_ble_eq_true rfl)) dX3_readChange_61 ⟨Nat.le_of_ble_eq_true rfl, Nat.le_of_ble_eq_true rfl⟩) hS hA hP (fun r_41 H locs hw_41 hP hS => ?_)
        try dsimp only at hw_41
        obtain rfl : r_41 = 1 := by rcases hw_41 with ⟨h, h2⟩ | ⟨h, h2⟩ <;> first | exact h | exact absurd rfl h2 | exact absurd h2 (by decide)
        refine lv_if_ne (tgt := 106) hx hb dX3_readChange_64 (by decide) (fun _ => ?_) (fun h => absurd h (by decide))
        have hP9 := hP.sub (ws' := [(u0, .inr (3, (fX3 u1 u2 rf (nI rc) (nI rr)))), (aI k u1 24 rs), (aI k u2 24 rb), (x0, .inr (6, (fX6 x1 (nI tz) (nI ta__1) (nI nq_2) 3 (nI nq_2)))), (aB k x1 240 fx)]) [0, 1, 2, 3, 4] rfl
        have hD9 := hD.sub (ws' := [(u0, .inr (3, (fX3 u1 u2 rf (nI rc) (nI rr)))), (aI k u1 24 rs), (aI k u2 24 rb), (x0, .inr (6, (fX6 x1 (nI tz) (nI ta__1) (nI nq_2) 3 (nI nq_2)))), (aB k x1 240 fx)]) [0, 1, 2, 3, 4] (by decide) rfl
        exact W.vret hx hb hr (fun t ht hW => ⟨⟨(rc, rs, rb, ta__1, (nI nq_2), 3, (nI nq_2)), rfl, ⟨.inr ⟨3, nq_2, rfl, by decide, by decide, (ch_3  hq_2 (fun h => h.elim (fun z => by omega) c_19)).1, (ch_3  hq_2 (fun h => h.elim (fun z => by omega) c_19)).2, rfl⟩, by omega, by omega, by omega⟩, by rw [ht]; exact hP9, hD9⟩, hS.F ht⟩) hS.2.2 dX3_readChange_106
  · refine lv_istore_n (lv' := [(2, .int r_1), (0, .ref u0), (1, .ref x0)]) hx hb dX3_readChange_7 rfl hl (by decide) rfl (fun ls hl => ?_)
    refine lv_aload_n hx hb dX3_readChange_8 rfl (lv_at hl 2 rfl) ?_
    refine ro_i (D := D) (va_runV (As := []) (rest := []) ⟨hx, hb, hml, hown, hts⟩ ((x_failed l D k st lo x0 x1 tz ta__1 (nI nq_2) 1 (nI pl_2)) H.size) (cwV 0 hts (gV tw_682 tw_368 tw_369 tw_80 tw_370) rfl rfl rfl (by decide +kernel) ⟨Nat.le_of_ble_eq_true rfl, Nat.le_of_ble_eq_true rfl⟩) (pV hS hAlo hlo hP hK (va_Dlo hD hAlo) hZ [3] (by decide) rfl (ci := 6) (q := (RX6, TX6, 6)) (q0 := 0) rfl rfl) rfl rfl hl.1 rfl (lv_room (Nat.le_of_ble_eq_true rfl)) dX3_readChange_9 ⟨Nat.le_of_ble_eq_true rfl, Nat.le_of_ble_eq_true rfl⟩) hS hA hP (fun r_42 H locs hw_42 hP hS => ?_)
    try dsimp only at hw_42
    obtain rfl : r_42 = 1 := by rcases hw_42 with ⟨h, h2⟩ | ⟨h, h2⟩ <;> first | exact h | exact absurd rfl h2 | exact absurd h2 (by decide)
    refine lv_if_ne (tgt := 46) hx hb dX3_readChange_12 (by decide) (fun _ => ?_) (fun h => absurd h (by decide))
    refine lv_aload_n hx hb dX3_readChange_46 rfl (lv_at hl 2 rfl) ?_
    refine va_ldcS hx hb hown (hZ.2.2.2.2.2.2.2.2.2.2 (RX3, 28, "from", 12) (List.mem_of_getElem? (i := 12) rfl)) dX3_readChange_47 ?_
    refine rw_v (D := D) (wr := [(u0, .inr (3, (fX3 u1 u2 rf (nI rc) (nI rr)))), (aI k u1 24 rs), (aI k u2 24 rb)]) (va_runV (As := [.ref (st (100 + 12))]) (rest := []) ⟨hx, hb, hml, hown, hts⟩ ((y_needWord l D k st lo x0 x1 tz ta__1 (nI nq_2) 1 (nI pl_2) fx 12 (by omega) (by omega) (by omega)) H.size) (cwV 1 hts (gV tw_680 tw_483 tw_484 tw_80 tw_485) rfl rfl rfl (by decide +kernel) ⟨Nat.le_of_ble_eq_true rfl, Nat.le_of_ble_eq_true rfl⟩) (pV hS hAlo hlo hP hK (va_Dlo hD hAlo) hZ [3, 4] (by decide) rfl (ci := 6) (q := (RX6, TX6, 6)) (q0 := 0) rfl rfl) rfl rfl hl.1 rfl (lv_room (Nat.le_of_ble_eq_true rfl)) dX3_readChange_49 ⟨Nat.le_of_ble_eq_true rfl, Nat.le_of_ble_eq_true rfl⟩) hS hA hP hD [3, 4] [0, 1, 2] rfl rfl (by decide) (by decide) (fun u H locs hw_43 hP hD hS => ?_)
    obtain ⟨ta__43, fn__43, fb__43⟩ := u
    replace hP : va_P D classes [(u0, .inr (3, (fX3 u1 u2 rf (nI rc) (nI rr)))), (aI k u1 24 rs), (aI k u2 24 rb), (x0, .inr (6, (fX6 x1 (nI tz) (nI ta__43) (nI nq_2) fn__43 fb__43))), (aB k x1 240 fx)] H := hP
    replace hD : va_D A [(u0, .inr (3, (fX3 u1 u2 rf (nI rc) (nI rr)))), (aI k u1 24 rs), (aI k u2 24 rb), (x0, .inr (6, (fX6 x1 (nI tz) (nI ta__43) (nI nq_2) fn__43 fb__43))), (aB k x1 240 fx)] := hD
    try dsimp only at hw_43
    obtain ⟨hs0_44, hs1_44, hs2_44⟩ := hw_43.1 (by decide)
    replace hs0_44 := hs0_44.symm
    subst hs0_44
    replace hs1_44 := hs1_44.symm
    subst hs1_44
    replace hs2_44 := hs2_44.symm
    subst hs2_44
    refine lv_aload_n hx hb dX3_readChange_52 rfl (lv_at hl 2 rfl) ?_
    refine lv_iconst (v := 0) hx hb dX3_readChange_53 (by decide) ?_
    refine lv_bipush (v := 24) hx hb dX3_readChange_54 (by decide) ?_
    refine rw_i (D := D) (wr := [(u0, .inr (3, (fX3 u1 u2 rf (nI rc) (nI rr)))), (aI k u1 24 rs), (aI k u2 24 rb)]) (va_runV (As := [.int 0, .int 24]) (rest := []) ⟨hx, hb, hml, hown, hts⟩ ((y_needNumber l D k st lo x0 x1 tz ta__1 (nI nq_2) 1 (nI pl_2) fx 0 24 (by omega) (by omega) (by decide)) H.size) (cwV 2 hts (gV tw_681 tw_468 tw_469 tw_80 tw_470) rfl rfl rfl (by decide +kernel) ⟨Nat.le_of_ble_eq_true rfl, Nat.le_of_ble_eq_true rfl⟩) (pV hS hAlo hlo hP hK (va_Dlo hD hAlo) hZ [3, 4] (by decide) rfl (ci := 6) (q := (RX6, TX6, 6)) (q0 := 0) rfl rfl) rfl rfl hl.1 rfl (lv_room (Nat.le_of_ble_eq_true rfl)) dX3_readChange_56 ⟨Nat.le_of_ble_eq_true rfl, Nat.le_of_ble_eq_true rfl⟩) hS hA hP hD [3, 4] [0, 1, 2] rfl rfl (by decide) (by decide) (fun r_45 u H locs hw_45 hP hD hS => ?_)
    obtain ⟨ta__45, na__45, fn__45, fb__45⟩ := u
    replace hP : va_P D classes [(u0, .inr (3, (fX3 u1 u2 rf (nI rc) (nI rr)))), (aI k u1 24 rs), (aI k u2 24 rb), (x0, .inr (6, (fX6 x1 (nI tz) (nI ta__45) na__45 fn__45 fb__45))), (aB k x1 240 fx)] H := hP
    replace hD : va_D A [(u0, .inr (3, (fX3 u1 u2 rf (nI rc) (nI rr)))), (aI k u1 24 rs), (aI k u2 24 rb), (x0, .inr (6, (fX6 x1 (nI tz) (nI ta__45) na__45 fn__45 fb__45))), (aB k x1 240 fx)] := hD
    try dsimp only at hw_45
    have hr_46 := (hw_45.1 (by decide)).1
    obtain ⟨hs0_47, hs1_47, hs2_47, hs3_47⟩ := (hw_45.1 (by decide)).2
    replace hs0_47 := hs0_47.symm
    subst hs0_47
    replace hs1_47 := hs1_47.symm
    subst hs1_47
    replace hs2_47 := hs2_47.symm
    subst hs2_47
    replace hs3_47 := hs3_47.symm
    subst hs3_47
    refine lv_istore_n (lv' := [(3, .int r_45), (2, .int r_1), (0, .ref u0), (1, .ref x0)]) hx hb dX3_readChange_59 rfl hl (by decide) rfl (fun ls hl => ?_)
    refine lv_aload_n hx hb dX3_readChange_60 rfl (lv_at hl 3 rfl) ?_
    refine ro_i (D := D) (va_runV (As := []) (rest := []) ⟨hx, hb, hml, hown, hts⟩ ((x_failed l D k st lo x0 x1 tz ta__1 (nI nq_2) 1 (nI pl_2)) H.size) (cwV 0 hts (gV tw_682 tw_368 tw_369 tw_80 tw_370) rfl rfl rfl (by decide +kernel) ⟨Nat.le_of_ble_eq_true rfl, Nat.le_of_ble_eq_true rfl⟩) (pV hS hAlo hlo hP hK (va_Dlo hD hAlo) hZ [3] (by decide) rfl (ci := 6) (q := (RX6, TX6, 6)) (q0 := 0) rfl rfl) rfl rfl hl.1 rfl (lv_room (Nat.le_of_ble_eq_true rfl)) dX3_readChange_61 ⟨Nat.le_of_ble_eq_true rfl, Nat.le_of_ble_eq_true rfl⟩) hS hA hP (fun r_48 H locs hw_48 hP hS => ?_)
    try dsimp only at hw_48
    obtain rfl : r_48 = 1 := by rcases hw_48 with ⟨h, h2⟩ | ⟨h, h2⟩ <;> first | exact h | exact absurd rfl h2 | exact absurd h2 (by decide)
    refine lv_if_ne (tgt := 106) hx hb dX3_readChange_64 (by decide) (fun _ => ?_) (fun h => absurd h (by decide))
    have hP9 := hP.sub (ws' := [(u0, .inr (3, (fX3 u1 u2 rf (nI rc) (nI rr)))), (aI k u1 24 rs), (aI k u2 24 rb), (x0, .inr (6, (fX6 x1 (nI tz) (nI ta__1) (nI nq_2) 1 (nI pl_2)))), (aB k x1 240 fx)]) [0, 1, 2, 3, 4] rfl
    have hD9 := hD.sub (ws' := [(u0, .inr (3, (fX3 u1 u2 rf (nI rc) (nI rr)))), (aI k u1 24 rs), (aI k u2 24 rb), (x0, .inr (6, (fX6 x1 (nI tz) (nI ta__1) (nI nq_2) 1 (nI pl_2)))), (aB k x1 240 fx)]) [0, 1, 2, 3, 4] (by decide) rfl
    exact W.vret hx hb hr (fun t ht hW => ⟨⟨(rc, rs, rb, ta__1, (nI nq_2), 1, (nI pl_2)), rfl, ⟨.inr ⟨1, pl_2, rfl, by decide, by decide, (ch_1  hq_2 (by decide)).1, (ch_1  hq_2 (by decide)).2, rfl⟩, by omega, by omega, by omega⟩, by rw [ht]; exact hP9, hD9⟩, hS.F ht⟩) hS.2.2 dX3_readChange_106
  · refine lv_istore_n (lv' := [(2, .int r_1), (0, .ref u0), (1, .ref x0)]) hx hb dX3_readChange_7 rfl hl (by decide) rfl (fun ls hl => ?_)
    refine lv_aload_n hx hb dX3_readChange_8 rfl (lv_at hl 2 rfl) ?_
    refine ro_i (D := D) (va_runV (As := []) (rest := []) ⟨hx, hb, hml, hown, hts⟩ ((x_failed l D k st lo x0 x1 tz ta__1 (nI nq_2) 2 (nI pl_2)) H.size) (cwV 0 hts (gV tw_682 tw_368 tw_369 tw_80 tw_370) rfl rfl rfl (by decide +kernel) ⟨Nat.le_of_ble_eq_true rfl, Nat.le_of_ble_eq_true rfl⟩) (pV hS hAlo hlo hP hK (va_Dlo hD hAlo) hZ [3] (by decide) rfl (ci := 6) (q := (RX6, TX6, 6)) (q0 := 0) rfl rfl) rfl rfl hl.1 rfl (lv_room (Nat.le_of_ble_eq_true rfl)) dX3_readChange_9 ⟨Nat.le_of_ble_eq_true rfl, Nat.le_of_ble_eq_true rfl⟩) hS hA hP (fun r_49 H locs hw_49 hP hS => ?_)
    try dsimp only at hw_49
    obtain rfl : r_49 = 1 := by rcases hw_49 with ⟨h, h2⟩ | ⟨h, h2⟩ <;> first | exact h | exact absurd rfl h2 | exact absurd h2 (by decide)
    refine lv_if_ne (tgt := 46) hx hb dX3_readChange_12 (by decide) (fun _ => ?_) (fun h => absurd h (by decide))
    refine lv_aload_n hx hb dX3_readChange_46 rfl (lv_at hl 2 rfl) ?_
    refine va_ldcS hx hb hown (hZ.2.2.2.2.2.2.2.2.2.2 (RX3, 28, "from", 12) (List.mem_of_getElem? (i := 12) rfl)) dX3_readChange_47 ?_
    refine rw_v (D := D) (wr := [(u0, .inr (3, (fX3 u1 u2 rf (nI rc) (nI rr)))), (aI k u1 24 rs), (aI k u2 24 rb)]) (va_runV (As := [.ref (st (100 + 12))]) (rest := []) ⟨hx, hb, hml, hown, hts⟩ ((y_needWord l D k st lo x0 x1 tz ta__1 (nI nq_2) 2 (nI pl_2) fx 12 (by omega) (by omega) (by omega)) H.size) (cwV 1 hts (gV tw_680 tw_483 tw_484 tw_80 tw_485) rfl rfl rfl (by decide +kernel) ⟨Nat.le_of_ble_eq_true rfl, Nat.le_of_ble_eq_true rfl⟩) (pV hS hAlo hlo hP hK (va_Dlo hD hAlo) hZ [3, 4] (by decide) rfl (ci := 6) (q := (RX6, TX6, 6)) (q0 := 0) rfl rfl) rfl rfl hl.1 rfl (lv_room (Nat.le_of_ble_eq_true rfl)) dX3_readChange_49 ⟨Nat.le_of_ble_eq_true rfl, Nat.le_of_ble_eq_true rfl⟩) hS hA hP hD [3, 4] [0, 1, 2] rfl rfl (by decide) (by decide) (fun u H locs hw_50 hP hD hS => ?_)
    obtain ⟨ta__50, fn__50, fb__50⟩ := u
    replace hP : va_P D classes [(u0, .inr (3, (fX3 u1 u2 rf (nI rc) (nI rr)))), (aI k u1 24 rs), (aI k u2 24 rb), (x0, .inr (6, (fX6 x1 (nI tz) (nI ta__50) (nI nq_2) fn__50 fb__50))), (aB k x1 240 fx)] H := hP
    replace hD : va_D A [(u0, .inr (3, (fX3 u1 u2 rf (nI rc) (nI rr)))), (aI k u1 24 rs), (aI k u2 24 rb), (x0, .inr (6, (fX6 x1 (nI tz) (nI ta__50) (nI nq_2) fn__50 fb__50))), (aB k x1 240 fx)] := hD
    try dsimp only at hw_50
    obtain ⟨hs0_51, hs1_51, hs2_51⟩ := hw_50.1 (by decide)
    replace hs0_51 := hs0_51.symm
    subst hs0_51
    replace hs1_51 := hs1_51.symm
    subst hs1_51
    replace hs2_51 := hs2_51.symm
    subst hs2_51
    refine lv_aload_n hx hb dX3_readChange_52 rfl (lv_at hl 2 rfl) ?_
    refine lv_iconst (v := 0) hx hb dX3_readChange_53 (by decide) ?_
    refine lv_bipush (v := 24) hx hb dX3_readChange_54 (by decide) ?_
    refine rw_i (D := D) (wr := [(u0, .inr (3, (fX3 u1 u2 rf (nI rc) (nI rr)))), (aI k u1 24 rs), (aI k u2 24 rb)]) (va_runV (As := [.int 0, .int 24]) (rest := []) ⟨hx, hb, hml, hown, hts⟩ ((y_needNumber l D k st lo x0 x1 tz ta__1 (nI nq_2) 2 (nI pl_2) fx 0 24 (by omega) (by omega) (by decide)) H.size) (cwV 2 hts (gV tw_681 tw_468 tw_469 tw_80 tw_470) rfl rfl rfl (by decide +kernel) ⟨Nat.le_of_ble_eq_true rfl, Nat.le_of_ble_eq_true rfl⟩) (pV hS hAlo hlo hP hK (va_Dlo hD hAlo) hZ [3, 4] (by decide) rfl (ci := 6) (q := (RX6, TX6, 6)) (q0 := 0) rfl rfl) rfl rfl hl.1 rfl (lv_room (Nat.le_of_ble_eq_true rfl)) dX3_readChange_56 ⟨Nat.le_of_ble_eq_true rfl, Nat.le_of_ble_eq_true rfl⟩) hS hA hP hD [3, 4] [0, 1, 2] rfl rfl (by decide) (by decide) (fun r_52 u H locs hw_52 hP hD hS => ?_)
    obtain ⟨ta__52, na__52, fn__52, fb__52⟩ := u
    replace hP : va_P D classes [(u0, .inr (3, (fX3 u1 u2 rf (nI rc) (nI rr)))), (aI k u1 24 rs), (aI k u2 24 rb), (x0, .inr (6, (fX6 x1 (nI tz) (nI ta__52) na__52 fn__52 fb__52))), (aB k x1 240 fx)] H := hP
    replace hD : va_D A [(u0, .inr (3, (fX3 u1 u2 rf (nI rc) (nI rr)))), (aI k u1 24 rs), (aI k u2 24 rb), (x0, .inr (6, (fX6 x1 (nI tz) (nI ta__52) na__52 fn__52 fb__52))), (aB k x1 240 fx)] := hD
    try dsimp only at hw_52
    have hr_53 := (hw_52.1 (by decide)).1
    obtain ⟨hs0_54, hs1_54, hs2_54, hs3_54⟩ := (hw_52.1 (by decide)).2
    replace hs0_54 := hs0_54.symm
    subst hs0_54
    replace hs1_54 := hs1_54.symm
    subst hs1_54
    replace hs2_54 := hs2_54.symm
    subst hs2_54
    replace hs3_54 := hs3_54.symm
    subst hs3_54
    refine lv_istore_n (lv' := [(3, .int r_52), (2, .int r_1), (0, .ref u0), (1, .ref x0)]) hx hb dX3_readChange_59 rfl hl (by decide) rfl (fun ls hl => ?_)
    refine lv_aload_n hx hb dX3_readChange_60 rfl (lv_at hl 3 rfl) ?_
    refine ro_i (D := D) (va_runV (As := []) (rest := []) ⟨hx, hb, hml, hown, hts⟩ ((x_failed l D k st lo x0 x1 tz ta__1 (nI nq_2) 2 (nI pl_2)) H.size) (cwV 0 hts (gV tw_682 tw_368 tw_369 tw_80 tw_370) rfl rfl rfl (by decide +kernel) ⟨Nat.le_of_ble_eq_true rfl, Nat.le_of_ble_eq_true rfl⟩) (pV hS hAlo hlo hP hK (va_Dlo hD hAlo) hZ [3] (by decide) rfl (ci := 6) (q := (RX6, TX6, 6)) (q0 := 0) rfl rfl) rfl rfl hl.1 rfl (lv_room (Nat.le_of_ble_eq_true rfl)) dX3_readChange_61 ⟨Nat.le_of_ble_eq_true rfl, Nat.le_of_ble_eq_true rfl⟩) hS hA hP (fun r_55 H locs hw_55 hP hS => ?_)
    try dsimp only at hw_55
    obtain rfl : r_55 = 1 := by rcases hw_55 with ⟨h, h2⟩ | ⟨h, h2⟩ <;> first | exact h | exact absurd rfl h2 | exact absurd h2 (by decide)
    refine lv_if_ne (tgt := 106) hx hb dX3_readChange_64 (by decide) (fun _ => ?_) (fun h => absurd h (by decide))
    have hP9 := hP.sub (ws' := [(u0, .inr (3, (fX3 u1 u2 rf (nI rc) (nI rr)))), (aI k u1 24 rs), (aI k u2 24 rb), (x0, .inr (6, (fX6 x1 (nI tz) (nI ta__1) (nI nq_2) 2 (nI pl_2)))), (aB k x1 240 fx)]) [0, 1, 2, 3, 4] rfl
    have hD9 := hD.sub (ws' := [(u0, .inr (3, (fX3 u1 u2 rf (nI rc) (nI rr)))), (aI k u1 24 rs), (aI k u2 24 rb), (x0, .inr (6, (fX6 x1 (nI tz) (nI ta__1) (nI nq_2) 2 (nI pl_2)))), (aB k x1 240 fx)]) [0, 1, 2, 3, 4] (by decide) rfl
    exact W.vret hx hb hr (fun t ht hW => ⟨⟨(rc, rs, rb, ta__1, (nI nq_2), 2, (nI pl_2)), rfl, ⟨.inr ⟨2, pl_2, rfl, by decide, by decide, (ch_1  hq_2 (by decide)).1, (ch_1  hq_2 (by decide)).2, rfl⟩, by omega, by omega, by omega⟩, by rw [ht]; exact hP9, hD9⟩, hS.F ht⟩) hS.2.2 dX3_readChange_106


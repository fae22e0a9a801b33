
set_option maxHeartbeats 4000000 in
set_option maxRecDepth 100000 in
theorem y_Rule_readFrom (l : Launch) (D : va_G) (k : Nat → ClassId) (st : Nat → Nat) (lo : Nat) (u0 : Nat) (u1 : Nat) (u2 : Nat) (rf : Int32) (rc : Nat) (rr : Nat) (rs : Nat → Int32) (rb : Nat → Int32) (x0 : Nat) (x1 : Nat) (tz : Nat) (ta : Nat) (na : Int32) (fn : Int32) (fb : Int32) (fx : Nat → Int32) (ht : ta ≤ tz) (hz : tz ≤ 240) (h80 : tz ≤ 80) (hf0 : fn = 0) : CWv l D k st lo yX3_readFrom cX3_readFrom 3 none ({ frames := 7, cells := 0, slots := 0, locals := 152 }) 0 0 [.ref u0, .ref x0] [(u0, .inr (3, (fX3 u1 u2 rf (nI rc) (nI rr)))), (aI k u1 24 rs), (aI k u2 24 rb), (x0, .inr (6, (fX6 x1 (nI tz) (nI ta) na fn fb))), (aB k x1 240 fx)] (fun (u : Int32 × Nat × Nat × (Nat → Int32) × (Nat → Int32) × Nat × Int32 × Int32 × Int32) => match u with | (rf_, rc_, rr_, rs_, rb_, ta_, na_, fn_, fb_) => ((fn_ = 0 ∧ ruF (bF fx) tz ta = (0, 0, rf_, (rc_, clp rc_ rs_, clp rc_ rb_), nI rr_) ∧ rc_ ≤ 8) ∨ (∃ e pl : Nat, fn_ = nI e ∧ 1 ≤ e ∧ e ≤ 4 ∧ (ruF (bF fx) tz ta).1 = e ∧ (ruF (bF fx) tz ta).2.1 = pl ∧ fb_ = nI pl)) ∧ rc_ ≤ 24 ∧ rr_ ≤ 3 ∧ ta_ ≤ tz) (fun (u : Int32 × Nat × Nat × (Nat → Int32) × (Nat → Int32) × Nat × Int32 × Int32 × Int32) => match u with | (rf_, rc_, rr_, rs_, rb_, ta_, na_, fn_, fb_) => [(u0, .inr (3, (fX3 u1 u2 rf_ (nI rc_) (nI rr_)))), (aI k u1 24 rs_), (aI k u2 24 rb_), (x0, .inr (6, (fX6 x1 (nI tz) (nI ta_) na_ fn_ fb_))), (aB k x1 240 fx)]) := by
  intro sz
  refine Met.ofW (cc := cX3_readFrom) (maxL := 3) (ret := none) (by decide) rfl ?_
  intro p e s m args below meth c s₁ B hml hv
  obtain ⟨rfl, hsz, hlo, hP, hK, hDL, hZ⟩ := hv
  have hx := B.exec
  have hb := B.bytes
  have hr := B.returns
  have hts := WS_ts B.pre
  have hown : s.vm.findClass RX3 = some m.cls := findClass_of_methodNamed B.named
  have hlocks := B.notSynchronized
  subst hsz
  have hD := hDL.self (sz := s.heap.size)
  have hAlo := A_lo hDL hlo
  generalize hAe : va_A [(u0, .inr (3, (fX3 u1 u2 rf (nI rc) (nI rr)))), (aI k u1 24 rs), (aI k u2 24 rb), (x0, .inr (6, (fX6 x1 (nI tz) (nI ta) na fn fb))), (aB k x1 240 fx)] s.heap.size = A at hD hAlo ⊢
  have hA : ∀ q : Nat, s.heap.size ≤ q → A q := fun q h => by rw [← hAe]; exact Or.inr h
  have hS : va_S A s.heap s.heap [] := va_S.rf
  have hl := lv_entry ([.ref u0, .ref x0]) (n := 3) (Nat.le_of_ble_eq_true rfl)
  rw [lg_entry_eq]
  generalize (lg_sl ([.ref u0, .ref x0]) ++ List.replicate (3 - (lg_sl ([.ref u0, .ref x0])).length) Slot.unset).toArray = ls at hl ⊢
  have hl : lv_has ls 3 [(0, .ref u0), (1, .ref x0)] := hl
  subst hf0
  refine lv_aload_n hx hb dX3_readFrom_0 rfl (lv_at hl 0 rfl) ?_
  refine lv_iconst (v := 0) hx hb dX3_readFrom_1 (by decide) ?_
  refine va_put (D := D) (ci := 3) (v := .int 0) (ty := .int) (C := RX3) (T := TX3) (N := 5) hx hb hts inX3 tyX3 tyX3_ok nmX3 hown hK hP hD hS 0 rfl rfl 3 (by decide) (hts _ tw_292) (fun _ h9 => h9) rfl (by decide +kernel) rfl rfl (Nat.le_of_ble_eq_true rfl) dX3_readFrom_2 (fun H locs hP hD hS => ?_)
  have hQ9 := pd_mk [(u0, .inr (3, (fX3 u1 u2 rf 0 (nI rr)))), (aI k u1 24 rs), (aI k u2 24 rb), (x0, .inr (6, (fX6 x1 (nI tz) (nI ta) na 0 fb))), (aB k x1 240 fx)] hP hD
  clear hP hD
  obtain ⟨hP, hD⟩ := hQ9
  refine lv_aload_n hx hb dX3_readFrom_5 rfl (lv_at hl 0 rfl) ?_
  refine lv_iconst (v := 0) hx hb dX3_readFrom_6 (by decide) ?_
  refine va_put (D := D) (ci := 3) (v := .int 0) (ty := .int) (C := RX3) (T := TX3) (N := 5) hx hb hts inX3 tyX3 tyX3_ok nmX3 hown hK hP hD hS 0 rfl rfl 4 (by decide) (hts _ tw_293) (fun _ h9 => h9) rfl (by decide +kernel) rfl rfl (Nat.le_of_ble_eq_true rfl) dX3_readFrom_7 (fun H locs hP hD hS => ?_)
  have hQ9 := pd_mk [(u0, .inr (3, (fX3 u1 u2 rf 0 0))), (aI k u1 24 rs), (aI k u2 24 rb), (x0, .inr (6, (fX6 x1 (nI tz) (nI ta) na 0 fb))), (aB k x1 240 fx)] hP hD
  clear hP hD
  obtain ⟨hP, hD⟩ := hQ9
  refine lv_aload_n hx hb dX3_readFrom_10 rfl (lv_at hl 1 rfl) ?_
  refine va_ldcS hx hb hown (hZ.2.2.2.2.2.2.2.2.2.2 (RX3, 28, "from", 12) (List.mem_of_getElem? (i := 12) rfl)) dX3_readFrom_11 ?_
  refine rw_v (D := D) (wr := [(u0, .inr (3, (fX3 u1 u2 rf 0 0))), (aI k u1 24 rs), (aI k u2 24 rb)]) (va_runV (As := [.ref (st (100 + 12))]) (rest := []) ⟨hx, hb, hml, hown, hts⟩ ((y_needWord l D k st lo x0 x1 tz ta na 0 fb fx 12 (by first | assumption | omega) (by first | assumption | omega) (by first | assumption | omega)) H.size) (cwV 1 hts (gV tw_680 tw_483 tw_484 tw_80 tw_485) rfl rfl rfl (by decide +kernel) ⟨Nat.le_of_ble_eq_true rfl, Nat.le_of_ble_eq_true rfl⟩) (pV hS hAlo hlo hP hK (va_Dlo hD hAlo) hZ [3, 4] (by decide) rfl (ci := 6) (q := (RX6, TX6, 6)) (q0 := 0) rfl rfl) rfl rfl hl.1 rfl (lv_room (Nat.le_of_ble_eq_true rfl)) dX3_readFrom_13 ⟨Nat.le_of_ble_eq_true rfl, Nat.le_of_ble_eq_true rfl⟩) hS hA hP hD [3, 4] [0, 1, 2] rfl rfl (by decide) (by decide) (fun u H locs hw_1 hP hD hS => ?_)
  obtain ⟨ta__1, fn__1, fb__1⟩ := u
  have hQ9 := pd_mk [(u0, .inr (3, (fX3 u1 u2 rf 0 0))), (aI k u1 24 rs), (aI k u2 24 rb), (x0, .inr (6, (fX6 x1 (nI tz) (nI ta__1) na fn__1 fb__1))), (aB k x1 240 fx)] hP hD
  clear hP hD
  obtain ⟨hP, hD⟩ := hQ9
  try dsimp only at hw_1
  rcases hw_1.2.1 rfl with ⟨rfl, hq_2⟩ | ⟨rfl, pl_2, hq_2, rfl⟩
  · refine lv_aload_n hx hb dX3_readFrom_16 rfl (lv_at hl 0 rfl) ?_
    refine lv_aload_n hx hb dX3_readFrom_17 rfl (lv_at hl 1 rfl) ?_
    refine lv_iconst (v := 0) hx hb dX3_readFrom_18 (by decide) ?_
    refine lv_bipush (v := 24) hx hb dX3_readFrom_19 (by decide) ?_
    refine rw_i (D := D) (wr := [(u0, .inr (3, (fX3 u1 u2 rf 0 0))), (aI k u1 24 rs), (aI k u2 24 rb)]) (va_runV (As := [.int 0, .int 24]) (rest := [.ref u0]) ⟨hx, hb, hml, hown, hts⟩ ((y_needNumber l D k st lo x0 x1 tz ta__1 na 0 fb__1 fx 0 24 (by first | assumption | omega) (by first | assumption | omega) (by decide)) H.size) (cwV 2 hts (gV tw_681 tw_468 tw_469 tw_80 tw_470) rfl rfl rfl (by decide +kernel) ⟨Nat.le_of_ble_eq_true rfl, Nat.le_of_ble_eq_true rfl⟩) (pV hS hAlo hlo hP hK (va_Dlo hD hAlo) hZ [3, 4] (by decide) rfl (ci := 6) (q := (RX6, TX6, 6)) (q0 := 0) rfl rfl) rfl rfl hl.1 rfl (lv_room (Nat.le_of_ble_eq_true rfl)) dX3_readFrom_21 ⟨Nat.le_of_ble_eq_true rfl, Nat.le_of_ble_eq_true rfl⟩) hS hA hP hD [3, 4] [0, 1, 2] rfl rfl (by decide) (by decide) (fun r_3 u H locs hw_3 hP hD hS => ?_)
    obtain ⟨ta__3, na__3, fn__3, fb__3⟩ := u
    have hQ9 := pd_mk [(u0, .inr (3, (fX3 u1 u2 rf 0 0))), (aI k u1 24 rs), (aI k u2 24 rb), (x0, .inr (6, (fX6 x1 (nI tz) (nI ta__3) na__3 fn__3 fb__3))), (aB k x1 240 fx)] hP hD
    clear hP hD
    obtain ⟨hP, hD⟩ := hQ9
    try dsimp only at hw_3
    obtain ⟨pl_4, nq_4, rfl, hq_4⟩ := hw_3.2.1 rfl
    rw [show decide ((0 : Int32) < 0) = false from by decide] at hq_4
    rcases hq_4 with ⟨rfl, hq_4⟩ | ⟨rfl, hr_4, rfl, hq_4⟩ | ⟨rfl, hr_4, rfl, hq_4⟩
    · refine va_put (D := D) (ci := 3) (v := .int r_3) (ty := .int) (C := RX3) (T := TX3) (N := 5) hx hb hts inX3 tyX3 tyX3_ok nmX3 hown hK hP hD hS 0 rfl rfl 2 (by decide) (hts _ tw_291) (fun _ h9 => h9) rfl (by decide +kernel) rfl rfl (Nat.le_of_ble_eq_true rfl) dX3_readFrom_24 (fun H locs hP hD hS => ?_)
      have hQ9 := pd_mk [(u0, .inr (3, (fX3 u1 u2 r_3 0 0))), (aI k u1 24 rs), (aI k u2 24 rb), (x0, .inr (6, (fX6 x1 (nI tz) (nI ta__3) (nI nq_4) 0 fb__3))), (aB k x1 240 fx)] hP hD
      clear hP hD
      obtain ⟨hP, hD⟩ := hQ9
      have hH_5 : ruH (bF fx) tz ta = (0, 0, ta__3, r_3) := by simp [ruH, hq_2, hq_4, -List.getD_eq_getElem?_getD]
      have hz1_5 := wdR_ge (i := 12) hq_2
      have hz2_5 := nuR_ge hq_4
      refine lv_iconst (v := 0) hx hb dX3_readFrom_27 (by decide) ?_
      refine lv_istore_n (lv' := [(2, .int 0), (0, .ref u0), (1, .ref x0)]) hx hb dX3_readFrom_28 rfl hl (by decide) rfl (fun ls hl => ?_)
      refine W_loop (σ := Nat × Nat × (Nat → Int32) × (Nat → Int32) × Nat × Int32 × Int32 × Int32) (fun (n_ : Nat) (x_ : Nat × Nat × (Nat → Int32) × (Nat → Int32) × Nat × Int32 × Int32 × Int32) (H : Heap) (locs : List Loc) (ls : Array Slot) => match x_ with | (kk_6, rc2_6, rs2_6, rb2_6, ta2_6, na2_6, fn2_6, fb2_6) => n_ = 24 - kk_6 ∧ (kk_6 ≤ 24 ∧ rc2_6 ≤ 24 ∧ ta2_6 ≤ tz ∧ (fn2_6 = 0 → rc2_6 = kk_6 ∧ 10 * kk_6 ≤ ta2_6) ∧ ((fn2_6 = 0 ∧ ruL (bF fx) tz (24 - kk_6) ta2_6 (rc2_6, clp rc2_6 rs2_6, clp rc2_6 rb2_6) = (ruL (bF fx) tz 24 ta__3 ru0)) ∨ (∃ e pl : Nat, fn2_6 = nI e ∧ 1 ≤ e ∧ e ≤ 4 ∧ (ruL (bF fx) tz 24 ta__3 ru0).1 = e ∧ (ruL (bF fx) tz 24 ta__3 ru0).2.1 = pl ∧ fb2_6 = nI pl))) ∧ va_P D classes [(u0, .inr (3, (fX3 u1 u2 r_3 (nI rc2_6) 0))), (aI k u1 24 rs2_6), (aI k u2 24 rb2_6), (x0, .inr (6, (fX6 x1 (nI tz) (nI ta2_6) na2_6 fn2_6 fb2_6))), (aB k x1 240 fx)] H ∧ va_D A [(u0, .inr (3, (fX3 u1 u2 r_3 (nI rc2_6) 0))), (aI k u1 24 rs2_6), (aI k u2 24 rb2_6), (x0, .inr (6, (fX6 x1 (nI tz) (nI ta2_6) na2_6 fn2_6 fb2_6))), (aB k x1 240 fx)] ∧ va_S A s.heap H locs ∧ lv_has ls 3 [(2, .int (nI kk_6)), (0, .ref u0), (1, .ref x0)]) (fun n_6 x_6 H locs ls hI ih_6 => ?_) _ (0, 0, rs, rb, ta__3, (nI nq_4), 0, fb__3) ⟨rfl, ⟨by omega, by omega, by omega, fun _ => ⟨rfl, by omega⟩, .inl ⟨rfl, by rw [clp_0, clp_0]; rfl⟩⟩, hP, hD, hS, (lv_sub hl [0, 1, 2] rfl)⟩
      obtain ⟨kk_6, rc2_6, rs2_6, rb2_6, ta2_6, na2_6, fn2_6, fb2_6⟩ := x_6
      obtain ⟨hm_6, hv_6, hP, hD, hS, hl⟩ := hI
      subst hm_6
      refine lv_iload_n hx hb dX3_readFrom_29 rfl (lv_at hl 0 rfl) ?_
      refine lv_bipush (v := 24) hx hb dX3_readFrom_30 (by decide) ?_
      refine lv_icmp_ge (tgt := 62) hx hb dX3_readFrom_32 (by decide) (fun c_7 => ?_) (fun c_7 => ?_)
      · have c_7 := (nI_leI (a := 24) (b := kk_6) (by omega) (by omega)).mp c_7
        refine lv_aload_n hx hb dX3_readFrom_62 rfl (lv_at hl 2 rfl) ?_
        refine ro_i (D := D) (va_runV (As := []) (rest := []) ⟨hx, hb, hml, hown, hts⟩ ((x_failed l D k st lo x0 x1 tz ta2_6 na2_6 fn2_6 fb2_6) H.size) (cwV 0 hts (gV tw_682 tw_368 tw_369 tw_80 tw_370) rfl rfl rfl (by decide +kernel) ⟨Nat.le_of_ble_eq_true rfl, Nat.le_of_ble_eq_true rfl⟩) (pV hS hAlo hlo hP hK (va_Dlo hD hAlo) hZ [3] (by decide) rfl (ci := 6) (q := (RX6, TX6, 6)) (q0 := 0) rfl rfl) rfl rfl hl.1 rfl (lv_room (Nat.le_of_ble_eq_true rfl)) dX3_readFrom_63 ⟨Nat.le_of_ble_eq_true rfl, Nat.le_of_ble_eq_true rfl⟩) hS hA hP (fun r_8 H locs hw_8 hP hS => ?_)
        try dsimp only at hw_8
        rcases hw_8 with ⟨rfl, hw_8⟩ | ⟨rfl, rfl⟩
        · refine lv_if_ne (tgt := 93) hx hb dX3_readFrom_66 (by decide) (fun _ => ?_) (fun h => absurd h (by decide))
          refine lv_aload_n hx hb dX3_readFrom_93 rfl (lv_at hl 2 rfl) ?_
          refine ro_i (D := D) (va_runV (As := []) (rest := []) ⟨hx, hb, hml, hown, hts⟩ ((x_failed l D k st lo x0 x1 tz ta2_6 na2_6 fn2_6 fb2_6) H.size) (cwV 0 hts (gV tw_682 tw_368 tw_369 tw_80 tw_370) rfl rfl rfl (by decide +kernel) ⟨Nat.le_of_ble_eq_true rfl, Nat.le_of_ble_eq_true rfl⟩) (pV hS hAlo hlo hP hK (va_Dlo hD hAlo) hZ [3] (by decide) rfl (ci := 6) (q := (RX6, TX6, 6)) (q0 := 0) rfl rfl) rfl rfl hl.1 rfl (lv_room (Nat.le_of_ble_eq_true rfl)) dX3_readFrom_94 ⟨Nat.le_of_ble_eq_true rfl, Nat.le_of_ble_eq_true rfl⟩) hS hA hP (fun r_9 H locs hw_9 hP hS => ?_)
          try dsimp only at hw_9
          obtain rfl : r_9 = 1 := by rcases hw_9 with ⟨h, h2⟩ | ⟨h, h2⟩ <;> first | exact h | exact absurd h2 hw_8
          refine lv_if_ne (tgt := 116) hx hb dX3_readFrom_97 (by decide) (fun _ => ?_) (fun h => absurd h (by decide))
          obtain ⟨hP9, hD9⟩ := pd_sub [(u0, .inr (3, (fX3 u1 u2 r_3 (nI rc2_6) 0))), (aI k u1 24 rs2_6), (aI k u2 24 rb2_6), (x0, .inr (6, (fX6 x1 (nI tz) (nI ta2_6) na2_6 fn2_6 fb2_6))), (aB k x1 240 fx)] [0, 1, 2, 3, 4] hP hD (by decide) rfl
          exact W.vret hx hb hr (fun t ht hW => ⟨⟨(r_3, rc2_6, 0, rs2_6, rb2_6, ta2_6, na2_6, fn2_6, fb2_6), rfl, ⟨(by rcases hv_6.2.2.2.2 with ⟨h, -⟩ | ⟨e, pl, h, h1, h2, h3, h4, h5⟩; exact absurd h hw_8; exact .inr ⟨e, pl, h, h1, h2, (rf_l hH_5 h3 h4).1, (rf_l hH_5 h3 h4).2, h5⟩), by omega, by omega, by omega⟩, by rw [ht]; exact hP9, hD9⟩, hS.F ht⟩) hS.2.2 dX3_readFrom_116
        · refine lv_if_ne (tgt := 93) hx hb dX3_readFrom_66 (by decide) (fun h => absurd (by decide) h) (fun _ => ?_)
          obtain ⟨hrk_10, h10_10⟩ := hv_6.2.2.2.1 rfl
          have hst_10 : ruL (bF fx) tz (24 - kk_6) ta2_6 (rc2_6, clp rc2_6 rs2_6, clp rc2_6 rb2_6) = (ruL (bF fx) tz 24 ta__3 ru0) := by rcases hv_6.2.2.2.2 with ⟨-, h⟩ | ⟨e, pl, h, h1, h2, -⟩; exact h; exact absurd h.symm (nI_ne0 (by omega) (by omega))
          exact absurd h10_10 (by omega)
      · have c_7 : ¬ (24 ≤ kk_6) := fun h => c_7 ((nI_leI (a := 24) (b := kk_6) (by omega) (by omega)).mpr h)
        refine lv_aload_n hx hb dX3_readFrom_35 rfl (lv_at hl 2 rfl) ?_
        refine ro_i (D := D) (va_runV (As := []) (rest := []) ⟨hx, hb, hml, hown, hts⟩ ((x_failed l D k st lo x0 x1 tz ta2_6 na2_6 fn2_6 fb2_6) H.size) (cwV 0 hts (gV tw_682 tw_368 tw_369 tw_80 tw_370) rfl rfl rfl (by decide +kernel) ⟨Nat.le_of_ble_eq_true rfl, Nat.le_of_ble_eq_true rfl⟩) (pV hS hAlo hlo hP hK (va_Dlo hD hAlo) hZ [3] (by decide) rfl (ci := 6) (q := (RX6, TX6, 6)) (q0 := 0) rfl rfl) rfl rfl hl.1 rfl (lv_room (Nat.le_of_ble_eq_true rfl)) dX3_readFrom_36 ⟨Nat.le_of_ble_eq_true rfl, Nat.le_of_ble_eq_true rfl⟩) hS hA hP (fun r_11 H locs hw_11 hP hS => ?_)
        try dsimp only at hw_11
        rcases hw_11 with ⟨rfl, hw_11⟩ | ⟨rfl, rfl⟩
        · refine lv_if_ne (tgt := 62) hx hb dX3_readFrom_39 (by decide) (fun _ => ?_) (fun h => absurd h (by decide))
          refine lv_aload_n hx hb dX3_readFrom_62 rfl (lv_at hl 2 rfl) ?_
          refine ro_i (D := D) (va_runV (As := []) (rest := []) ⟨hx, hb, hml, hown, hts⟩ ((x_failed l D k st lo x0 x1 tz ta2_6 na2_6 fn2_6 fb2_6) H.size) (cwV 0 hts (gV tw_682 tw_368 tw_369 tw_80 tw_370) rfl rfl rfl (by decide +kernel) ⟨Nat.le_of_ble_eq_true rfl, Nat.le_of_ble_eq_true rfl⟩) (pV hS hAlo hlo hP hK (va_Dlo hD hAlo) hZ [3] (by decide) rfl (ci := 6) (q := (RX6, TX6, 6)) (q0 := 0) rfl rfl) rfl rfl hl.1 rfl (lv_room (Nat.le_of_ble_eq_true rfl)) dX3_readFrom_63 ⟨Nat.le_of_ble_eq_true rfl, Nat.le_of_ble_eq_true rfl⟩) hS hA hP (fun r_12 H locs hw_12 hP hS => ?_)
          try dsimp only at hw_12
          obtain rfl : r_12 = 1 := by rcases hw_12 with ⟨h, h2⟩ | ⟨h, h2⟩ <;> first | exact h | exact absurd h2 hw_11
          refine lv_if_ne (tgt := 93) hx hb dX3_readFrom_66 (by decide) (fun _ => ?_) (fun h => absurd h (by decide))
          refine lv_aload_n hx hb dX3_readFrom_93 rfl (lv_at hl 2 rfl) ?_
          refine ro_i (D := D) (va_runV (As := []) (rest := []) ⟨hx, hb, hml, hown, hts⟩ ((x_failed l D k st lo x0 x1 tz ta2_6 na2_6 fn2_6 fb2_6) H.size) (cwV 0 hts (gV tw_682 tw_368 tw_369 tw_80 tw_370) rfl rfl rfl (by decide +kernel) ⟨Nat.le_of_ble_eq_true rfl, Nat.le_of_ble_eq_true rfl⟩) (pV hS hAlo hlo hP hK (va_Dlo hD hAlo) hZ [3] (by decide) rfl (ci := 6) (q := (RX6, TX6, 6)) (q0 := 0) rfl rfl) rfl rfl hl.1 rfl (lv_room (Nat.le_of_ble_eq_true rfl)) dX3_readFrom_94 ⟨Nat.le_of_ble_eq_true rfl, Nat.le_of_ble_eq_true rfl⟩) hS hA hP (fun r_13 H locs hw_13 hP hS => ?_)
          try dsimp only at hw_13
          obtain rfl : r_13 = 1 := by rcases hw_13 with ⟨h, h2⟩ | ⟨h, h2⟩ <;> first | exact h | exact absurd h2 hw_11
          refine lv_if_ne (tgt := 116) hx hb dX3_readFrom_97 (by decide) (fun _ => ?_) (fun h => absurd h (by decide))
          obtain ⟨hP9, hD9⟩ := pd_sub [(u0, .inr (3, (fX3 u1 u2 r_3 (nI rc2_6) 0))), (aI k u1 24 rs2_6), (aI k u2 24 rb2_6), (x0, .inr (6, (fX6 x1 (nI tz) (nI ta2_6) na2_6 fn2_6 fb2_6))), (aB k x1 240 fx)] [0, 1, 2, 3, 4] hP hD (by decide) rfl
          exact W.vret hx hb hr (fun t ht hW => ⟨⟨(r_3, rc2_6, 0, rs2_6, rb2_6, ta2_6, na2_6, fn2_6, fb2_6), rfl, ⟨(by rcases hv_6.2.2.2.2 with ⟨h, -⟩ | ⟨e, pl, h, h1, h2, h3, h4, h5⟩; exact absurd h hw_11; exact .inr ⟨e, pl, h, h1, h2, (rf_l hH_5 h3 h4).1, (rf_l hH_5 h3 h4).2, h5⟩), by omega, by omega, by omega⟩, by rw [ht]; exact hP9, hD9⟩, hS.F ht⟩) hS.2.2 dX3_readFrom_116
        · refine lv_if_ne (tgt := 62) hx hb dX3_readFrom_39 (by decide) (fun h => absurd (by decide) h) (fun _ => ?_)
          obtain ⟨hrk_14, h10_14⟩ := hv_6.2.2.2.1 rfl
          have hst_14 : ruL (bF fx) tz (24 - kk_6) ta2_6 (rc2_6, clp rc2_6 rs2_6, clp rc2_6 rb2_6) = (ruL (bF fx) tz 24 ta__3 ru0) := by rcases hv_6.2.2.2.2 with ⟨-, h⟩ | ⟨e, pl, h, h1, h2, -⟩; exact h; exact absurd h.symm (nI_ne0 (by omega) (by omega))
          refine lv_aload_n hx hb dX3_readFrom_42 rfl (lv_at hl 2 rfl) ?_
          refine va_ldcS hx hb hown (hZ.2.2.2.2.2.2.2.2.2.2 (RX3, 43, "seen", 13) (List.mem_of_getElem? (i := 13) rfl)) dX3_readFrom_43 ?_
          refine rw_i (D := D) (wr := [(u0, .inr (3, (fX3 u1 u2 r_3 (nI rc2_6) 0))), (aI k u1 24 rs2_6), (aI k u2 24 rb2_6)]) (va_runV (As := [.ref (st (100 + 13))]) (rest := []) ⟨hx, hb, hml, hown, hts⟩ ((y_takeWord l D k st lo x0 x1 tz ta2_6 na2_6 0 fb2_6 fx 13 (by first | assumption | omega) (by first | assumption | omega) (by first | assumption | omega)) H.size) (cwV 1 hts (gV tw_684 tw_400 tw_401 tw_80 tw_402) rfl rfl rfl (by decide +kernel) ⟨Nat.le_of_ble_eq_true rfl, Nat.le_of_ble_eq_true rfl⟩) (pV hS hAlo hlo hP hK (va_Dlo hD hAlo) hZ [3, 4] (by decide) rfl (ci := 6) (q := (RX6, TX6, 6)) (q0 := 0) rfl rfl) rfl rfl hl.1 rfl (lv_room (Nat.le_of_ble_eq_true rfl)) dX3_readFrom_45 ⟨Nat.le_of_ble_eq_true rfl, Nat.le_of_ble_eq_true rfl⟩) hS hA hP hD [3, 4] [0, 1, 2] rfl rfl (by decide) (by decide) (fun r_15 u H locs hw_15 hP hD hS => ?_)
          obtain ⟨ta__15, rfl⟩ : ∃ z, z = u := ⟨_, rfl⟩
          have hQ9 := pd_mk [(u0, .inr (3, (fX3 u1 u2 r_3 (nI rc2_6) 0))), (aI k u1 24 rs2_6), (aI k u2 24 rb2_6), (x0, .inr (6, (fX6 x1 (nI tz) (nI ta__15) na2_6 0 fb2_6))), (aB k x1 240 fx)] hP hD
          clear hP hD
          obtain ⟨hP, hD⟩ := hQ9
          try dsimp only at hw_15
          rcases hw_15 with ⟨⟨rfl, hL_16, hT_16⟩ | ⟨rfl, hL_16, hT_16⟩, hw_15⟩
          · refine lv_if_eq (tgt := 62) hx hb dX3_readFrom_48 (by decide) (fun h => absurd h (by decide)) (fun _ => ?_)
            refine lv_aload_n hx hb dX3_readFrom_51 rfl (lv_at hl 1 rfl) ?_
            refine lv_aload_n hx hb dX3_readFrom_52 rfl (lv_at hl 2 rfl) ?_
            refine rw_v (D := D) (wr := []) (va_runV (As := [.ref x0]) (rest := []) ⟨hx, hb, hml, hown, hts⟩ ((y_readChange l D k st lo u0 u1 u2 r_3 rc2_6 0 rs2_6 rb2_6 x0 x1 tz ta__15 na2_6 0 fb2_6 fx (by first | assumption | omega) (by first | assumption | omega) (by first | assumption | omega) rfl) H.size) (cwV 1 hts (gV tw_685 tw_687 tw_14 tw_86 tw_688) rfl rfl rfl (by decide +kernel) ⟨Nat.le_of_ble_eq_true rfl, Nat.le_of_ble_eq_true rfl⟩) (pV hS hAlo hlo hP hK (va_Dlo hD hAlo) hZ [0, 1, 2, 3, 4] (by decide) rfl (ci := 3) (q := (RX3, TX3, 5)) (q0 := 0) rfl rfl) rfl rfl hl.1 rfl (lv_room (Nat.le_of_ble_eq_true rfl)) dX3_readFrom_53 ⟨Nat.le_of_ble_eq_true rfl, Nat.le_of_ble_eq_true rfl⟩) hS hA hP hD [0, 1, 2, 3, 4] [] rfl rfl (by decide) (by decide) (fun u H locs hw_17 hP hD hS => ?_)
            obtain ⟨rc__17, rs__17, rb__17, ta__17, na__17, fn__17, fb__17⟩ := u
            have hQ9 := pd_mk [(u0, .inr (3, (fX3 u1 u2 r_3 (nI rc__17) 0))), (aI k u1 24 rs__17), (aI k u2 24 rb__17), (x0, .inr (6, (fX6 x1 (nI tz) (nI ta__17) na__17 fn__17 fb__17))), (aB k x1 240 fx)] hP hD
            clear hP hD
            obtain ⟨hP, hD⟩ := hQ9
            try dsimp only at hw_17
            rcases hw_17 with ⟨⟨rfl, v1_18, v3_18, hd_18, hrc_18, hrs_18, hrb_18, hta_18⟩ | ⟨e_18, pl_18, rfl, he1_18, he2_18, hp1_18, hp2_18, rfl⟩, hw_17⟩
            · refine lv_iinc (v := (nI (kk_6 + 1))) (lv' := [(2, .int (nI (kk_6 + 1))), (0, .ref u0), (1, .ref x0)]) hx hb dX3_readFrom_56 hl (k := 0) rfl (nI_add kk_6 1) (by decide) rfl (fun ls hl => ?_)
              refine lv_goto (tgt := 29) hx hb dX3_readFrom_59 (by decide) ?_
              replace hT_16 : _ = _ + 4 := hT_16
              have hge_6 := skA_ge (bF fx) tz ta2_6
              exact ih_6 _ (kk_6 + 1, rc__17, rs__17, rb__17, ta__17, na__17, 0, fb__17) _ _ _ (by omega) ⟨rfl, ⟨by clear hv_6; omega, by clear hv_6; omega, by clear hv_6; omega, fun _ => ⟨by omega, by omega⟩, .inl ⟨rfl, by rw [← hst_14, rl_go (by omega) (show letA (bF fx) tz (skA (bF fx) tz ta2_6) = (sByt.getD 13 []) from hL_16) (by show chR (bF fx) tz rc2_6 (clp rc2_6 rs2_6) _ = _; rw [chR_clp, ← hT_16]; exact hd_18), show 24 - (kk_6 + 1) = 24 - kk_6 - 1 by omega, hrc_18, hrs_18, hrb_18, ← clp_upd, ← clp_upd]⟩⟩, hP, hD, hS, (lv_sub hl [0, 1, 2] rfl)⟩
            · refine lv_iinc (v := (nI (kk_6 + 1))) (lv' := [(2, .int (nI (kk_6 + 1))), (0, .ref u0), (1, .ref x0)]) hx hb dX3_readFrom_56 hl (k := 0) rfl (nI_add kk_6 1) (by decide) rfl (fun ls hl => ?_)
              refine lv_goto (tgt := 29) hx hb dX3_readFrom_59 (by decide) ?_
              replace hT_16 : _ = _ + 4 := hT_16
              have hge_6 := skA_ge (bF fx) tz ta2_6
              exact ih_6 _ (kk_6 + 1, rc__17, rs__17, rb__17, ta__17, na__17, (nI e_18), (nI pl_18)) _ _ _ (by omega) ⟨rfl, ⟨by clear hv_6; omega, by clear hv_6; omega, by clear hv_6; omega, fun h => absurd h (nI_ne0 (show 0 < e_18 by omega) (by omega)), .inr ⟨e_18, pl_18, rfl, he1_18, by omega, by rw [← hst_14]; exact (rl_er (e := e_18) (p := pl_18) (by omega) (show letA (bF fx) tz (skA (bF fx) tz ta2_6) = (sByt.getD 13 []) from hL_16) (by show (chR (bF fx) tz rc2_6 (clp rc2_6 rs2_6) _).1 = _; rw [chR_clp, ← hT_16]; exact hp1_18) he1_18 (by show (chR (bF fx) tz rc2_6 (clp rc2_6 rs2_6) _).2.1 = _; rw [chR_clp, ← hT_16]; exact hp2_18)).1, by rw [← hst_14]; exact (rl_er (e := e_18) (p := pl_18) (by omega) (show letA (bF fx) tz (skA (bF fx) tz ta2_6) = (sByt.getD 13 []) from hL_16) (by show (chR (bF fx) tz rc2_6 (clp rc2_6 rs2_6) _).1 = _; rw [chR_clp, ← hT_16]; exact hp1_18) he1_18 (by show (chR (bF fx) tz rc2_6 (clp rc2_6 rs2_6) _).2.1 = _; rw [chR_clp, ← hT_16]; exact hp2_18)).2, rfl⟩⟩, hP, hD, hS, (lv_sub hl [0, 1, 2] rfl)⟩
          · refine lv_if_eq (tgt := 62) hx hb dX3_readFrom_48 (by decide) (fun _ => ?_) (fun h => absurd (by decide) h)
            refine lv_aload_n hx hb dX3_readFrom_62 rfl (lv_at hl 2 rfl) ?_
            refine ro_i (D := D) (va_runV (As := []) (rest := []) ⟨hx, hb, hml, hown, hts⟩ ((x_failed l D k st lo x0 x1 tz ta__15 na2_6 0 fb2_6) H.size) (cwV 0 hts (gV tw_682 tw_368 tw_369 tw_80 tw_370) rfl rfl rfl (by decide +kernel) ⟨Nat.le_of_ble_eq_true rfl, Nat.le_of_ble_eq_true rfl⟩) (pV hS hAlo hlo hP hK (va_Dlo hD hAlo) hZ [3] (by decide) rfl (ci := 6) (q := (RX6, TX6, 6)) (q0 := 0) rfl rfl) rfl rfl hl.1 rfl (lv_room (Nat.le_of_ble_eq_true rfl)) dX3_readFrom_63 ⟨Nat.le_of_ble_eq_true rfl, Nat.le_of_ble_eq_true rfl⟩) hS hA hP (fun r_19 H locs hw_19 hP hS => ?_)
            try dsimp only at hw_19
            obtain rfl : r_19 = 0 := by rcases hw_19 with ⟨h, h2⟩ | ⟨h, h2⟩ <;> first | exact h | exact absurd rfl h2 | exact absurd h2 (by decide)
            refine lv_if_ne (tgt := 93) hx hb dX3_readFrom_66 (by decide) (fun h => absurd (by decide) h) (fun _ => ?_)
            refine lv_aload_n hx hb dX3_readFrom_69 rfl (lv_at hl 2 rfl) ?_
            refine va_ldcS hx hb hown (hZ.2.2.2.2.2.2.2.2.2.2 (RX3, 52, "round", 7) (List.mem_of_getElem? (i := 14) rfl)) dX3_readFrom_70 ?_
            refine rw_i (D := D) (wr := [(u0, .inr (3, (fX3 u1 u2 r_3 (nI rc2_6) 0))), (aI k u1 24 rs2_6), (aI k u2 24 rb2_6)]) (va_runV (As := [.ref (st (100 + 7))]) (rest := []) ⟨hx, hb, hml, hown, hts⟩ ((y_takeWord l D k st lo x0 x1 tz ta__15 na2_6 0 fb2_6 fx 7 (by first | assumption | omega) (by first | assumption | omega) (by first | assumption | omega)) H.size) (cwV 1 hts (gV tw_684 tw_400 tw_401 tw_80 tw_402) rfl rfl rfl (by decide +kernel) ⟨Nat.le_of_ble_eq_true rfl, Nat.le_of_ble_eq_true rfl⟩) (pV hS hAlo hlo hP hK (va_Dlo hD hAlo) hZ [3, 4] (by decide) rfl (ci := 6) (q := (RX6, TX6, 6)) (q0 := 0) rfl rfl) rfl rfl hl.1 rfl (lv_room (Nat.le_of_ble_eq_true rfl)) dX3_readFrom_72 ⟨Nat.le_of_ble_eq_true rfl, Nat.le_of_ble_eq_true rfl⟩) hS hA hP hD [3, 4] [0, 1, 2] rfl rfl (by decide) (by decide) (fun r_20 u H locs hw_20 hP hD hS => ?_)
            obtain ⟨ta__20, rfl⟩ : ∃ z, z = u := ⟨_, rfl⟩
            have hQ9 := pd_mk [(u0, .inr (3, (fX3 u1 u2 r_3 (nI rc2_6) 0))), (aI k u1 24 rs2_6), (aI k u2 24 rb2_6), (x0, .inr (6, (fX6 x1 (nI tz) (nI ta__20) na2_6 0 fb2_6))), (aB k x1 240 fx)] hP hD
            clear hP hD
            obtain ⟨hP, hD⟩ := hQ9
            try dsimp only at hw_20
            rcases hw_20 with ⟨⟨rfl, hL_21, hT_21⟩ | ⟨rfl, hL_21, hT_21⟩, hw_20⟩
            · rw [hT_16, skA_idem] at hL_21 hT_21
              refine lv_if_eq (tgt := 93) hx hb dX3_readFrom_75 (by decide) (fun h => absurd h (by decide)) (fun _ => ?_)
              refine lv_aload_n hx hb dX3_readFrom_78 rfl (lv_at hl 1 rfl) ?_
              refine lv_aload_n hx hb dX3_readFrom_79 rfl (lv_at hl 2 rfl) ?_
              refine lv_iconst (v := 0) hx hb dX3_readFrom_80 (by decide) ?_
              refine va_getsN (A := A) hx hb (hZ.2.2.1.narrow hAlo) hS hown ((hZ.2.2.2.2.2.2.2.2.1.2.1 (RX3, 54, "LastPlace", "MOST", "[I", RX7) (List.mem_of_getElem? (i := 3) rfl)).use rfl) (fun _ h9 => h9) dX3_readFrom_81 ?_
              refine lv_bipush (v := 8) hx hb dX3_readFrom_84 (by decide) ?_
              refine va_ti (A := A) hx hb (hZ.2.2.2.1.narrow hAlo) hS (i := 8) (by unfold vp_in; decide) (v := .int 3) rfl dX3_readFrom_86 ?_
              refine rw_i (D := D) (wr := [(u0, .inr (3, (fX3 u1 u2 r_3 (nI rc2_6) 0))), (aI k u1 24 rs2_6), (aI k u2 24 rb2_6)]) (va_runV (As := [.int 0, .int 3]) (rest := [.ref u0]) ⟨hx, hb, hml, hown, hts⟩ ((y_needNumber l D k st lo x0 x1 tz ta__20 na2_6 0 fb2_6 fx 0 3 (by first | assumption | omega) (by first | assumption | omega) (by decide)) H.size) (cwV 2 hts (gV tw_681 tw_468 tw_469 tw_80 tw_470) rfl rfl rfl (by decide +kernel) ⟨Nat.le_of_ble_eq_true rfl, Nat.le_of_ble_eq_true rfl⟩) (pV hS hAlo hlo hP hK (va_Dlo hD hAlo) hZ [3, 4] (by decide) rfl (ci := 6) (q := (RX6, TX6, 6)) (q0 := 0) rfl rfl) rfl rfl hl.1 rfl (lv_room (Nat.le_of_ble_eq_true rfl)) dX3_readFrom_87 ⟨Nat.le_of_ble_eq_true rfl, Nat.le_of_ble_eq_true rfl⟩) hS hA hP hD [3, 4] [0, 1, 2] rfl rfl (by decide) (by decide) (fun r_22 u H locs hw_22 hP hD hS => ?_)
              obtain ⟨ta__22, na__22, fn__22, fb__22⟩ := u
              have hQ9 := pd_mk [(u0, .inr (3, (fX3 u1 u2 r_3 (nI rc2_6) 0))), (aI k u1 24 rs2_6), (aI k u2 24 rb2_6), (x0, .inr (6, (fX6 x1 (nI tz) (nI ta__22) na__22 fn__22 fb__22))), (aB k x1 240 fx)] hP hD
              clear hP hD
              obtain ⟨hP, hD⟩ := hQ9
              try dsimp only at hw_22
              obtain ⟨pl_23, nq_23, rfl, hq_23⟩ := hw_22.2.1 rfl
              rw [show decide ((0 : Int32) < 0) = false from by decide] at hq_23
              rcases hq_23 with ⟨rfl, hq_23⟩ | ⟨rfl, hr_23, rfl, hq_23⟩ | ⟨rfl, hr_23, rfl, hq_23⟩
              · replace hT_21 : _ = _ + 5 := hT_21
                rw [hT_21] at hq_23
                obtain ⟨nb_24, hnl_24, hnh_24, rfl⟩ := inB_ofc (a := 0) (b := 3) (by omega) (by omega) hw_22.2.2.2.2
                refine va_put (D := D) (ci := 3) (v := .int (nI nb_24)) (ty := .int) (C := RX3) (T := TX3) (N := 5) hx hb hts inX3 tyX3 tyX3_ok nmX3 hown hK hP hD hS 0 rfl rfl 4 (by decide) (hts _ tw_293) (fun _ h9 => h9) rfl (by decide +kernel) rfl rfl (Nat.le_of_ble_eq_true rfl) dX3_readFrom_90 (fun H locs hP hD hS => ?_)
                have hQ9 := pd_mk [(u0, .inr (3, (fX3 u1 u2 r_3 (nI rc2_6) (nI nb_24)))), (aI k u1 24 rs2_6), (aI k u2 24 rb2_6), (x0, .inr (6, (fX6 x1 (nI tz) (nI ta__22) (nI nq_23) 0 fb__22))), (aB k x1 240 fx)] hP hD
                clear hP hD
                obtain ⟨hP, hD⟩ := hQ9
                refine lv_aload_n hx hb dX3_readFrom_93 rfl (lv_at hl 2 rfl) ?_
                refine ro_i (D := D) (va_runV (As := []) (rest := []) ⟨hx, hb, hml, hown, hts⟩ ((x_failed l D k st lo x0 x1 tz ta__22 (nI nq_23) 0 fb__22) H.size) (cwV 0 hts (gV tw_682 tw_368 tw_369 tw_80 tw_370) rfl rfl rfl (by decide +kernel) ⟨Nat.le_of_ble_eq_true rfl, Nat.le_of_ble_eq_true rfl⟩) (pV hS hAlo hlo hP hK (va_Dlo hD hAlo) hZ [3] (by decide) rfl (ci := 6) (q := (RX6, TX6, 6)) (q0 := 0) rfl rfl) rfl rfl hl.1 rfl (lv_room (Nat.le_of_ble_eq_true rfl)) dX3_readFrom_94 ⟨Nat.le_of_ble_eq_true rfl, Nat.le_of_ble_eq_true rfl⟩) hS hA hP (fun r_25 H locs hw_25 hP hS => ?_)
                try dsimp only at hw_25
                obtain rfl : r_25 = 0 := by rcases hw_25 with ⟨h, h2⟩ | ⟨h, h2⟩ <;> first | exact h | exact absurd rfl h2 | exact absurd h2 (by decide)
                refine lv_if_ne (tgt := 116) hx hb dX3_readFrom_97 (by decide) (fun h => absurd (by decide) h) (fun _ => ?_)
                refine lv_aload_n hx hb dX3_readFrom_100 rfl (lv_at hl 2 rfl) ?_
                refine rw_i (D := D) (wr := [(u0, .inr (3, (fX3 u1 u2 r_3 (nI rc2_6) (nI nb_24)))), (aI k u1 24 rs2_6), (aI k u2 24 rb2_6)]) (va_runV (As := []) (rest := []) ⟨hx, hb, hml, hown, hts⟩ ((y_isAtEnd l D k st lo x0 x1 tz ta__22 (nI nq_23) 0 fb__22 fx (by first | assumption | omega) (by first | assumption | omega)) H.size) (cwV 0 hts (gV tw_692 tw_372 tw_373 tw_80 tw_374) rfl rfl rfl (by decide +kernel) ⟨Nat.le_of_ble_eq_true rfl, Nat.le_of_ble_eq_true rfl⟩) (pV hS hAlo hlo hP hK (va_Dlo hD hAlo) hZ [3, 4] (by decide) rfl (ci := 6) (q := (RX6, TX6, 6)) (q0 := 0) rfl rfl) rfl rfl hl.1 rfl (lv_room (Nat.le_of_ble_eq_true rfl)) dX3_readFrom_101 ⟨Nat.le_of_ble_eq_true rfl, Nat.le_of_ble_eq_true rfl⟩) hS hA hP hD [3, 4] [0, 1, 2] rfl rfl (by decide) (by decide) (fun r_26 u H locs hw_26 hP hD hS => ?_)
                obtain ⟨ta__26, rfl⟩ : ∃ z, z = u := ⟨_, rfl⟩
                have hQ9 := pd_mk [(u0, .inr (3, (fX3 u1 u2 r_3 (nI rc2_6) (nI nb_24)))), (aI k u1 24 rs2_6), (aI k u2 24 rb2_6), (x0, .inr (6, (fX6 x1 (nI tz) (nI ta__26) (nI nq_23) 0 fb__22))), (aB k x1 240 fx)] hP hD
                clear hP hD
                obtain ⟨hP, hD⟩ := hQ9
                try dsimp only at hw_26
                rcases hw_26 with ⟨⟨rfl, hz_26⟩ | ⟨rfl, hz_26⟩, hw_26⟩
                · refine lv_if_ne (tgt := 116) hx hb dX3_readFrom_104 (by decide) (fun _ => ?_) (fun h => absurd h (by decide))
                  obtain ⟨hP9, hD9⟩ := pd_sub [(u0, .inr (3, (fX3 u1 u2 r_3 (nI rc2_6) (nI nb_24)))), (aI k u1 24 rs2_6), (aI k u2 24 rb2_6), (x0, .inr (6, (fX6 x1 (nI tz) (nI ta__26) (nI nq_23) 0 fb__22))), (aB k x1 240 fx)] [0, 1, 2, 3, 4] hP hD (by decide) rfl
                  exact W.vret hx hb hr (fun t ht hW => ⟨⟨(r_3, rc2_6, nb_24, rs2_6, rb2_6, ta__26, (nI nq_23), 0, fb__22), rfl, ⟨.inl ⟨rfl, rf_o hH_5 (((rl_no hL_16).symm.trans hst_14).symm.trans (by rw [ro_1o hL_21 hq_23 (show ¬ skA (bF fx) tz _ < tz by rw [← hw_26.1]; omega)])), by omega⟩, by omega, by omega, by omega⟩, by rw [ht]; exact hP9, hD9⟩, hS.F ht⟩) hS.2.2 dX3_readFrom_116
                · refine lv_if_ne (tgt := 116) hx hb dX3_readFrom_104 (by decide) (fun h => absurd (by decide) h) (fun _ => ?_)
                  refine lv_aload_n hx hb dX3_readFrom_107 rfl (lv_at hl 2 rfl) ?_
                  refine lv_iconst (v := 1) hx hb dX3_readFrom_108 (by decide) ?_
                  refine lv_aload_n hx hb dX3_readFrom_109 rfl (lv_at hl 2 rfl) ?_
                  refine va_get (D := D) (ci := 6) (v := .int (nI ta__26)) (C := RX6) (T := TX6) (N := 6) hx hb hts inX6 hown hK hP 3 rfl rfl 2 (by decide) (hts _ tw_114) (fun _ h9 => h9) rfl dX3_readFrom_110 ?_
                  refine rw_v (D := D) (wr := [(u0, .inr (3, (fX3 u1 u2 r_3 (nI rc2_6) (nI nb_24)))), (aI k u1 24 rs2_6), (aI k u2 24 rb2_6), (aB k x1 240 fx)]) (va_runV (As := [.int 1, .int (nI ta__26)]) (rest := []) ⟨hx, hb, hml, hown, hts⟩ ((y_fail l D k st lo x0 x1 tz ta__26 (nI nq_23) 0 fb__22 1 (nI ta__26) (by decide)) H.size) (cwV 2 hts (gV tw_689 tw_456 tw_457 tw_80 tw_458) rfl rfl rfl (by decide +kernel) ⟨Nat.le_of_ble_eq_true rfl, Nat.le_of_ble_eq_true rfl⟩) (pV hS hAlo hlo hP hK (va_Dlo hD hAlo) hZ [3] (by decide) rfl (ci := 6) (q := (RX6, TX6, 6)) (q0 := 0) rfl rfl) rfl rfl hl.1 rfl (lv_room (Nat.le_of_ble_eq_true rfl)) dX3_readFrom_113 ⟨Nat.le_of_ble_eq_true rfl, Nat.le_of_ble_eq_true rfl⟩) hS hA hP hD [3] [0, 1, 2, 4] rfl rfl (by decide) (by decide) (fun u H locs hw_27 hP hD hS => ?_)
                  obtain ⟨fn__27, fb__27⟩ := u
                  have hQ9 := pd_mk [(u0, .inr (3, (fX3 u1 u2 r_3 (nI rc2_6) (nI nb_24)))), (aI k u1 24 rs2_6), (aI k u2 24 rb2_6), (aB k x1 240 fx), (x0, .inr (6, (fX6 x1 (nI tz) (nI ta__26) (nI nq_23) fn__27 fb__27)))] hP hD
                  clear hP hD
                  obtain ⟨hP, hD⟩ := hQ9
                  try dsimp only at hw_27
                  obtain ⟨hs0_28, hs1_28⟩ := hw_27.2.1 rfl
                  replace hs0_28 := hs0_28.symm
                  subst hs0_28
                  replace hs1_28 := hs1_28.symm
                  subst hs1_28
                  obtain ⟨hP9, hD9⟩ := pd_sub [(u0, .inr (3, (fX3 u1 u2 r_3 (nI rc2_6) (nI nb_24)))), (aI k u1 24 rs2_6), (aI k u2 24 rb2_6), (x0, .inr (6, (fX6 x1 (nI tz) (nI ta__26) (nI nq_23) 1 (nI ta__26)))), (aB k x1 240 fx)] [0, 1, 2, 4, 3] hP hD (by decide) rfl
                  exact W.vret hx hb hr (fun t ht hW => ⟨⟨(r_3, rc2_6, nb_24, rs2_6, rb2_6, ta__26, (nI nq_23), 1, (nI ta__26)), rfl, ⟨.inr ⟨1, ta__26, rfl, by decide, by decide, (rf_l (e := 1) (p := ta__26) hH_5 (by rw [((rl_no hL_16).symm.trans hst_14).symm, ro_1f hL_21 hq_23 (show skA (bF fx) tz _ < tz by rw [← hw_26.1]; omega)]) (by rw [((rl_no hL_16).symm.trans hst_14).symm, ro_1f hL_21 hq_23 (show skA (bF fx) tz _ < tz by rw [← hw_26.1]; omega)]; exact hw_26.1.symm)).1, (rf_l (e := 1) (p := ta__26) hH_5 (by rw [((rl_no hL_16).symm.trans hst_14).symm, ro_1f hL_21 hq_23 (show skA (bF fx) tz _ < tz by rw [← hw_26.1]; omega)]) (by rw [((rl_no hL_16).symm.trans hst_14).symm, ro_1f hL_21 hq_23 (show skA (bF fx) tz _ < tz by rw [← hw_26.1]; omega)]; exact hw_26.1.symm)).2, rfl⟩, by omega, by omega, by omega⟩, by rw [ht]; exact hP9, hD9⟩, hS.F ht⟩) hS.2.2 dX3_readFrom_116
              · replace hT_21 : _ = _ + 5 := hT_21
                rw [hT_21] at hq_23
                obtain ⟨nb_29, hnl_29, hnh_29, rfl⟩ := inB_ofc (a := 0) (b := 3) (by omega) (by omega) hw_22.2.2.2.2
                refine va_put (D := D) (ci := 3) (v := .int (nI nb_29)) (ty := .int) (C := RX3) (T := TX3) (N := 5) hx hb hts inX3 tyX3 tyX3_ok nmX3 hown hK hP hD hS 0 rfl rfl 4 (by decide) (hts _ tw_293) (fun _ h9 => h9) rfl (by decide +kernel) rfl rfl (Nat.le_of_ble_eq_true rfl) dX3_readFrom_90 (fun H locs hP hD hS => ?_)
                have hQ9 := pd_mk [(u0, .inr (3, (fX3 u1 u2 r_3 (nI rc2_6) (nI nb_29)))), (aI k u1 24 rs2_6), (aI k u2 24 rb2_6), (x0, .inr (6, (fX6 x1 (nI tz) (nI ta__22) (nI nq_23) 1 (nI pl_23)))), (aB k x1 240 fx)] hP hD
                clear hP hD
                obtain ⟨hP, hD⟩ := hQ9
                refine lv_aload_n hx hb dX3_readFrom_93 rfl (lv_at hl 2 rfl) ?_
                refine ro_i (D := D) (va_runV (As := []) (rest := []) ⟨hx, hb, hml, hown, hts⟩ ((x_failed l D k st lo x0 x1 tz ta__22 (nI nq_23) 1 (nI pl_23)) H.size) (cwV 0 hts (gV tw_682 tw_368 tw_369 tw_80 tw_370) rfl rfl rfl (by decide +kernel) ⟨Nat.le_of_ble_eq_true rfl, Nat.le_of_ble_eq_true rfl⟩) (pV hS hAlo hlo hP hK (va_Dlo hD hAlo) hZ [3] (by decide) rfl (ci := 6) (q := (RX6, TX6, 6)) (q0 := 0) rfl rfl) rfl rfl hl.1 rfl (lv_room (Nat.le_of_ble_eq_true rfl)) dX3_readFrom_94 ⟨Nat.le_of_ble_eq_true rfl, Nat.le_of_ble_eq_true rfl⟩) hS hA hP (fun r_30 H locs hw_30 hP hS => ?_)
                try dsimp only at hw_30
                obtain rfl : r_30 = 1 := by rcases hw_30 with ⟨h, h2⟩ | ⟨h, h2⟩ <;> first | exact h | exact absurd rfl h2 | exact absurd h2 (by decide)
                refine lv_if_ne (tgt := 116) hx hb dX3_readFrom_97 (by decide) (fun _ => ?_) (fun h => absurd h (by decide))
                obtain ⟨hP9, hD9⟩ := pd_sub [(u0, .inr (3, (fX3 u1 u2 r_3 (nI rc2_6) (nI nb_29)))), (aI k u1 24 rs2_6), (aI k u2 24 rb2_6), (x0, .inr (6, (fX6 x1 (nI tz) (nI ta__22) (nI nq_23) 1 (nI pl_23)))), (aB k x1 240 fx)] [0, 1, 2, 3, 4] hP hD (by decide) rfl
                exact W.vret hx hb hr (fun t ht hW => ⟨⟨(r_3, rc2_6, nb_29, rs2_6, rb2_6, ta__22, (nI nq_23), 1, (nI pl_23)), rfl, ⟨.inr ⟨1, pl_23, rfl, by decide, by decide, (rf_l (e := 1) (p := pl_23) hH_5 (by rw [((rl_no hL_16).symm.trans hst_14).symm]; exact (ro_1e hL_21 hq_23 (by decide)).1) (by rw [((rl_no hL_16).symm.trans hst_14).symm]; exact (ro_1e hL_21 hq_23 (by decide)).2)).1, (rf_l (e := 1) (p := pl_23) hH_5 (by rw [((rl_no hL_16).symm.trans hst_14).symm]; exact (ro_1e hL_21 hq_23 (by decide)).1) (by rw [((rl_no hL_16).symm.trans hst_14).symm]; exact (ro_1e hL_21 hq_23 (by decide)).2)).2, rfl⟩, by omega, by omega, by omega⟩, by rw [ht]; exact hP9, hD9⟩, hS.F ht⟩) hS.2.2 dX3_readFrom_116
              · replace hT_21 : _ = _ + 5 := hT_21
                rw [hT_21] at hq_23
                obtain ⟨nb_31, hnl_31, hnh_31, rfl⟩ := inB_ofc (a := 0) (b := 3) (by omega) (by omega) hw_22.2.2.2.2
                refine va_put (D := D) (ci := 3) (v := .int (nI nb_31)) (ty := .int) (C := RX3) (T := TX3) (N := 5) hx hb hts inX3 tyX3 tyX3_ok nmX3 hown hK hP hD hS 0 rfl rfl 4 (by decide) (hts _ tw_293) (fun _ h9 => h9) rfl (by decide +kernel) rfl rfl (Nat.le_of_ble_eq_true rfl) dX3_readFrom_90 (fun H locs hP hD hS => ?_)
                have hQ9 := pd_mk [(u0, .inr (3, (fX3 u1 u2 r_3 (nI rc2_6) (nI nb_31)))), (aI k u1 24 rs2_6), (aI k u2 24 rb2_6), (x0, .inr (6, (fX6 x1 (nI tz) (nI ta__22) (nI nq_23) 2 (nI pl_23)))), (aB k x1 240 fx)] hP hD
                clear hP hD
                obtain ⟨hP, hD⟩ := hQ9
                refine lv_aload_n hx hb dX3_readFrom_93 rfl (lv_at hl 2 rfl) ?_
                refine ro_i (D := D) (va_runV (As := []) (rest := []) ⟨hx, hb, hml, hown, hts⟩ ((x_failed l D k st lo x0 x1 tz ta__22 (nI nq_23) 2 (nI pl_23)) H.size) (cwV 0 hts (gV tw_682 tw_368 tw_369 tw_80 tw_370) rfl rfl rfl (by decide +kernel) ⟨Nat.le_of_ble_eq_true rfl, Nat.le_of_ble_eq_true rfl⟩) (pV hS hAlo hlo hP hK (va_Dlo hD hAlo) hZ [3] (by decide) rfl (ci := 6) (q := (RX6, TX6, 6)) (q0 := 0) rfl rfl) rfl rfl hl.1 rfl (lv_room (Nat.le_of_ble_eq_true rfl)) dX3_readFrom_94 ⟨Nat.le_of_ble_eq_true rfl, Nat.le_of_ble_eq_true rfl⟩) hS hA hP (fun r_32 H locs hw_32 hP hS => ?_)
                try dsimp only at hw_32
                obtain rfl : r_32 = 1 := by rcases hw_32 with ⟨h, h2⟩ | ⟨h, h2⟩ <;> first | exact h | exact absurd rfl h2 | exact absurd h2 (by decide)
                refine lv_if_ne (tgt := 116) hx hb dX3_readFrom_97 (by decide) (fun _ => ?_) (fun h => absurd h (by decide))
                obtain ⟨hP9, hD9⟩ := pd_sub [(u0, .inr (3, (fX3 u1 u2 r_3 (nI rc2_6) (nI nb_31)))), (aI k u1 24 rs2_6), (aI k u2 24 rb2_6), (x0, .inr (6, (fX6 x1 (nI tz) (nI ta__22) (nI nq_23) 2 (nI pl_23)))), (aB k x1 240 fx)] [0, 1, 2, 3, 4] hP hD (by decide) rfl
                exact W.vret hx hb hr (fun t ht hW => ⟨⟨(r_3, rc2_6, nb_31, rs2_6, rb2_6, ta__22, (nI nq_23), 2, (nI pl_23)), rfl, ⟨.inr ⟨2, pl_23, rfl, by decide, by decide, (rf_l (e := 2) (p := pl_23) hH_5 (by rw [((rl_no hL_16).symm.trans hst_14).symm]; exact (ro_1e hL_21 hq_23 (by decide)).1) (by rw [((rl_no hL_16).symm.trans hst_14).symm]; exact (ro_1e hL_21 hq_23 (by decide)).2)).1, (rf_l (e := 2) (p := pl_23) hH_5 (by rw [((rl_no hL_16).symm.trans hst_14).symm]; exact (ro_1e hL_21 hq_23 (by decide)).1) (by rw [((rl_no hL_16).symm.trans hst_14).symm]; exact (ro_1e hL_21 hq_23 (by decide)).2)).2, rfl⟩, by omega, by omega, by omega⟩, by rw [ht]; exact hP9, hD9⟩, hS.F ht⟩) hS.2.2 dX3_readFrom_116
            · rw [hT_16, skA_idem] at hL_21 hT_21
              refine lv_if_eq (tgt := 93) hx hb dX3_readFrom_75 (by decide) (fun _ => ?_) (fun h => absurd (by decide) h)
              refine lv_aload_n hx hb dX3_readFrom_93 rfl (lv_at hl 2 rfl) ?_
              refine ro_i (D := D) (va_runV (As := []) (rest := []) ⟨hx, hb, hml, hown, hts⟩ ((x_failed l D k st lo x0 x1 tz ta__20 na2_6 0 fb2_6) H.size) (cwV 0 hts (gV tw_682 tw_368 tw_369 tw_80 tw_370) rfl rfl rfl (by decide +kernel) ⟨Nat.le_of_ble_eq_true rfl, Nat.le_of_ble_eq_true rfl⟩) (pV hS hAlo hlo hP hK (va_Dlo hD hAlo) hZ [3] (by decide) rfl (ci := 6) (q := (RX6, TX6, 6)) (q0 := 0) rfl rfl) rfl rfl hl.1 rfl (lv_room (Nat.le_of_ble_eq_true rfl)) dX3_readFrom_94 ⟨Nat.le_of_ble_eq_true rfl, Nat.le_of_ble_eq_true rfl⟩) hS hA hP (fun r_33 H locs hw_33 hP hS => ?_)
              try dsimp only at hw_33
              obtain rfl : r_33 = 0 := by rcases hw_33 with ⟨h, h2⟩ | ⟨h, h2⟩ <;> first | exact h | exact absurd rfl h2 | exact absurd h2 (by decide)
              refine lv_if_ne (tgt := 116) hx hb dX3_readFrom_97 (by decide) (fun h => absurd (by decide) h) (fun _ => ?_)
              refine lv_aload_n hx hb dX3_readFrom_100 rfl (lv_at hl 2 rfl) ?_
              refine rw_i (D := D) (wr := [(u0, .inr (3, (fX3 u1 u2 r_3 (nI rc2_6) 0))), (aI k u1 24 rs2_6), (aI k u2 24 rb2_6)]) (va_runV (As := []) (rest := []) ⟨hx, hb, hml, hown, hts⟩ ((y_isAtEnd l D k st lo x0 x1 tz ta__20 na2_6 0 fb2_6 fx (by first | assumption | omega) (by first | assumption | omega)) H.size) (cwV 0 hts (gV tw_692 tw_372 tw_373 tw_80 tw_374) rfl rfl rfl (by decide +kernel) ⟨Nat.le_of_ble_eq_true rfl, Nat.le_of_ble_eq_true rfl⟩) (pV hS hAlo hlo hP hK (va_Dlo hD hAlo) hZ [3, 4] (by decide) rfl (ci := 6) (q := (RX6, TX6, 6)) (q0 := 0) rfl rfl) rfl rfl hl.1 rfl (lv_room (Nat.le_of_ble_eq_true rfl)) dX3_readFrom_101 ⟨Nat.le_of_ble_eq_true rfl, Nat.le_of_ble_eq_true rfl⟩) hS hA hP hD [3, 4] [0, 1, 2] rfl rfl (by decide) (by decide) (fun r_34 u H locs hw_34 hP hD hS => ?_)
              obtain ⟨ta__34, rfl⟩ : ∃ z, z = u := ⟨_, rfl⟩
              have hQ9 := pd_mk [(u0, .inr (3, (fX3 u1 u2 r_3 (nI rc2_6) 0))), (aI k u1 24 rs2_6), (aI k u2 24 rb2_6), (x0, .inr (6, (fX6 x1 (nI tz) (nI ta__34) na2_6 0 fb2_6))), (aB k x1 240 fx)] hP hD
              clear hP hD
              obtain ⟨hP, hD⟩ := hQ9
              try dsimp only at hw_34
              rcases hw_34 with ⟨⟨rfl, hz_34⟩ | ⟨rfl, hz_34⟩, hw_34⟩
              · refine lv_if_ne (tgt := 116) hx hb dX3_readFrom_104 (by decide) (fun _ => ?_) (fun h => absurd h (by decide))
                obtain ⟨hP9, hD9⟩ := pd_sub [(u0, .inr (3, (fX3 u1 u2 r_3 (nI rc2_6) 0))), (aI k u1 24 rs2_6), (aI k u2 24 rb2_6), (x0, .inr (6, (fX6 x1 (nI tz) (nI ta__34) na2_6 0 fb2_6))), (aB k x1 240 fx)] [0, 1, 2, 3, 4] hP hD (by decide) rfl
                exact W.vret hx hb hr (fun t ht hW => ⟨⟨(r_3, rc2_6, 0, rs2_6, rb2_6, ta__34, na2_6, 0, fb2_6), rfl, ⟨.inl ⟨rfl, rf_o hH_5 (((rl_no hL_16).symm.trans hst_14).symm.trans (by rw [ro_0o hL_21 (show ¬ skA (bF fx) tz ta2_6 < tz by rw [← skA_idem, ← hT_21, ← hw_34.1]; omega)]; rfl)), by omega⟩, by omega, by omega, by omega⟩, by rw [ht]; exact hP9, hD9⟩, hS.F ht⟩) hS.2.2 dX3_readFrom_116
              · refine lv_if_ne (tgt := 116) hx hb dX3_readFrom_104 (by decide) (fun h => absurd (by decide) h) (fun _ => ?_)
                refine lv_aload_n hx hb dX3_readFrom_107 rfl (lv_at hl 2 rfl) ?_
                refine lv_iconst (v := 1) hx hb dX3_readFrom_108 (by decide) ?_
                refine lv_aload_n hx hb dX3_readFrom_109 rfl (lv_at hl 2 rfl) ?_
                refine va_get (D := D) (ci := 6) (v := .int (nI ta__34)) (C := RX6) (T := TX6) (N := 6) hx hb hts inX6 hown hK hP 3 rfl rfl 2 (by decide) (hts _ tw_114) (fun _ h9 => h9) rfl dX3_readFrom_110 ?_
                refine rw_v (D := D) (wr := [(u0, .inr (3, (fX3 u1 u2 r_3 (nI rc2_6) 0))), (aI k u1 24 rs2_6), (aI k u2 24 rb2_6), (aB k x1 240 fx)]) (va_runV (As := [.int 1, .int (nI ta__34)]) (rest := []) ⟨hx, hb, hml, hown, hts⟩ ((y_fail l D k st lo x0 x1 tz ta__34 na2_6 0 fb2_6 1 (nI ta__34) (by decide)) H.size) (cwV 2 hts (gV tw_689 tw_456 tw_457 tw_80 tw_458) rfl rfl rfl (by decide +kernel) ⟨Nat.le_of_ble_eq_true rfl, Nat.le_of_ble_eq_true rfl⟩) (pV hS hAlo hlo hP hK (va_Dlo hD hAlo) hZ [3] (by decide) rfl (ci := 6) (q := (RX6, TX6, 6)) (q0 := 0) rfl rfl) rfl rfl hl.1 rfl (lv_room (Nat.le_of_ble_eq_true rfl)) dX3_readFrom_113 ⟨Nat.le_of_ble_eq_true rfl, Nat.le_of_ble_eq_true rfl⟩) hS hA hP hD [3] [0, 1, 2, 4] rfl rfl (by decide) (by decide) (fun u H locs hw_35 hP hD hS => ?_)
                obtain ⟨fn__35, fb__35⟩ := u
                have hQ9 := pd_mk [(u0, .inr (3, (fX3 u1 u2 r_3 (nI rc2_6) 0))), (aI k u1 24 rs2_6), (aI k u2 24 rb2_6), (aB k x1 240 fx), (x0, .inr (6, (fX6 x1 (nI tz) (nI ta__34) na2_6 fn__35 fb__35)))] hP hD
                clear hP hD
                obtain ⟨hP, hD⟩ := hQ9
                try dsimp only at hw_35
                obtain ⟨hs0_36, hs1_36⟩ := hw_35.2.1 rfl
                replace hs0_36 := hs0_36.symm
                subst hs0_36
                replace hs1_36 := hs1_36.symm
                subst hs1_36
                obtain ⟨hP9, hD9⟩ := pd_sub [(u0, .inr (3, (fX3 u1 u2 r_3 (nI rc2_6) 0))), (aI k u1 24 rs2_6), (aI k u2 24 rb2_6), (x0, .inr (6, (fX6 x1 (nI tz) (nI ta__34) na2_6 1 (nI ta__34)))), (aB k x1 240 fx)] [0, 1, 2, 4, 3] hP hD (by decide) rfl
                exact W.vret hx hb hr (fun t ht hW => ⟨⟨(r_3, rc2_6, 0, rs2_6, rb2_6, ta__34, na2_6, 1, (nI ta__34)), rfl, ⟨.inr ⟨1, ta__34, rfl, by decide, by decide, (rf_l (e := 1) (p := ta__34) hH_5 (by rw [((rl_no hL_16).symm.trans hst_14).symm, ro_0f hL_21 (show skA (bF fx) tz ta2_6 < tz by rw [← skA_idem, ← hT_21, ← hw_34.1]; omega)]) (by rw [((rl_no hL_16).symm.trans hst_14).symm, ro_0f hL_21 (show skA (bF fx) tz ta2_6 < tz by rw [← skA_idem, ← hT_21, ← hw_34.1]; omega)]; exact (by rw [hw_34.1, hT_21, skA_idem]))).1, (rf_l (e := 1) (p := ta__34) hH_5 (by rw [((rl_no hL_16).symm.trans hst_14).symm, ro_0f hL_21 (show skA (bF fx) tz ta2_6 < tz by rw [← skA_idem, ← hT_21, ← hw_34.1]; omega)]) (by rw [((rl_no hL_16).symm.trans hst_14).symm, ro_0f hL_21 (show skA (bF fx) tz ta2_6 < tz by rw [← skA_idem, ← hT_21, ← hw_34.1]; omega)]; exact (by rw [hw_34.1, hT_21, skA_idem]))).2, rfl⟩, by omega, by omega, by omega⟩, by rw [ht]; exact hP9, hD9⟩, hS.F ht⟩) hS.2.2 dX3_readFrom_116
    · refine va_put (D := D) (ci := 3) (v := .int r_3) (ty := .int) (C := RX3) (T := TX3) (N := 5) hx hb hts inX3 tyX3 tyX3_ok nmX3 hown hK hP hD hS 0 rfl rfl 2 (by decide) (hts _ tw_291) (fun _ h9 => h9) rfl (by decide +kernel) rfl rfl (Nat.le_of_ble_eq_true rfl) dX3_readFrom_24 (fun H locs hP hD hS => ?_)
      have hQ9 := pd_mk [(u0, .inr (3, (fX3 u1 u2 r_3 0 0))), (aI k u1 24 rs), (aI k u2 24 rb), (x0, .inr (6, (fX6 x1 (nI tz) (nI ta__3) (nI nq_4) 1 (nI pl_4)))), (aB k x1 240 fx)] hP hD
      clear hP hD
      obtain ⟨hP, hD⟩ := hQ9
      have hH1_37 : (ruH (bF fx) tz ta).1 = 1 := by simp [ruH, hq_2, hq_4, -List.getD_eq_getElem?_getD]
      have hH2_37 : (ruH (bF fx) tz ta).2.1 = pl_4 := by simp [ruH, hq_2, hq_4, -List.getD_eq_getElem?_getD]
      refine lv_iconst (v := 0) hx hb dX3_readFrom_27 (by decide) ?_
      refine lv_istore_n (lv' := [(2, .int 0), (0, .ref u0), (1, .ref x0)]) hx hb dX3_readFrom_28 rfl hl (by decide) rfl (fun ls hl => ?_)
      refine lv_iload_n hx hb dX3_readFrom_29 rfl (lv_at hl 0 rfl) ?_
      refine lv_bipush (v := 24) hx hb dX3_readFrom_30 (by decide) ?_
      refine lv_icmp_ge (tgt := 62) hx hb dX3_readFrom_32 (by decide) (fun h => absurd h (by decide)) (fun _ => ?_)
      refine lv_aload_n hx hb dX3_readFrom_35 rfl (lv_at hl 2 rfl) ?_
      refine ro_i (D := D) (va_runV (As := []) (rest := []) ⟨hx, hb, hml, hown, hts⟩ ((x_failed l D k st lo x0 x1 tz ta__3 (nI nq_4) 1 (nI pl_4)) H.size) (cwV 0 hts (gV tw_682 tw_368 tw_369 tw_80 tw_370) rfl rfl rfl (by decide +kernel) ⟨Nat.le_of_ble_eq_true rfl, Nat.le_of_ble_eq_true rfl⟩) (pV hS hAlo hlo hP hK (va_Dlo hD hAlo) hZ [3] (by decide) rfl (ci := 6) (q := (RX6, TX6, 6)) (q0 := 0) rfl rfl) rfl rfl hl.1 rfl (lv_room (Nat.le_of_ble_eq_true rfl)) dX3_readFrom_36 ⟨Nat.le_of_ble_eq_true rfl, Nat.le_of_ble_eq_true rfl⟩) hS hA hP (fun r_38 H locs hw_38 hP hS => ?_)
      try dsimp only at hw_38
      obtain rfl : r_38 = 1 := by rcases hw_38 with ⟨h, h2⟩ | ⟨h, h2⟩ <;> first | exact h | exact absurd rfl h2 | exact absurd h2 (by decide)
      refine lv_if_ne (tgt := 62) hx hb dX3_readFrom_39 (by decide) (fun _ => ?_) (fun h => absurd h (by decide))
      refine lv_aload_n hx hb dX3_readFrom_62 rfl (lv_at hl 2 rfl) ?_
      refine ro_i (D := D) (va_runV (As := []) (rest := []) ⟨hx, hb, hml, hown, hts⟩ ((x_failed l D k st lo x0 x1 tz ta__3 (nI nq_4) 1 (nI pl_4)) H.size) (cwV 0 hts (gV tw_682 tw_368 tw_369 tw_80 tw_370) rfl rfl rfl (by decide +kernel) ⟨Nat.le_of_ble_eq_true rfl, Nat.le_of_ble_eq_true rfl⟩) (pV hS hAlo hlo hP hK (va_Dlo hD hAlo) hZ [3] (by decide) rfl (ci := 6) (q := (RX6, TX6, 6)) (q0 := 0) rfl rfl) rfl rfl hl.1 rfl (lv_room (Nat.le_of_ble_eq_true rfl)) dX3_readFrom_63 ⟨Nat.le_of_ble_eq_true rfl, Nat.le_of_ble_eq_true rfl⟩) hS hA hP (fun r_39 H locs hw_39 hP hS => ?_)
      try dsimp only at hw_39
      obtain rfl : r_39 = 1 := by rcases hw_39 with ⟨h, h2⟩ | ⟨h, h2⟩ <;> first | exact h | exact absurd rfl h2 | exact absurd h2 (by decide)
      refine lv_if_ne (tgt := 93) hx hb dX3_readFrom_66 (by decide) (fun _ => ?_) (fun h => absurd h (by decide))
      refine lv_aload_n hx hb dX3_readFrom_93 rfl (lv_at hl 2 rfl) ?_
      refine ro_i (D := D) (va_runV (As := []) (rest := []) ⟨hx, hb, hml, hown, hts⟩ ((x_failed l D k st lo x0 x1 tz ta__3 (nI nq_4) 1 (nI pl_4)) H.size) (cwV 0 hts (gV tw_682 tw_368 tw_369 tw_80 tw_370) rfl rfl rfl (by decide +kernel) ⟨Nat.le_of_ble_eq_true rfl, Nat.le_of_ble_eq_true rfl⟩) (pV hS hAlo hlo hP hK (va_Dlo hD hAlo) hZ [3] (by decide) rfl (ci := 6) (q := (RX6, TX6, 6)) (q0 := 0) rfl rfl) rfl rfl hl.1 rfl (lv_room (Nat.le_of_ble_eq_true rfl)) dX3_readFrom_94 ⟨Nat.le_of_ble_eq_true rfl, Nat.le_of_ble_eq_true rfl⟩) hS hA hP (fun r_40 H locs hw_40 hP hS => ?_)
      try dsimp only at hw_40
      obtain rfl : r_40 = 1 := by rcases hw_40 with ⟨h, h2⟩ | ⟨h, h2⟩ <;> first | exact h | exact absurd rfl h2 | exact absurd h2 (by decide)
      refine lv_if_ne (tgt := 116) hx hb dX3_readFrom_97 (by decide) (fun _ => ?_) (fun h => absurd h (by decide))
      obtain ⟨hP9, hD9⟩ := pd_sub [(u0, .inr (3, (fX3 u1 u2 r_3 0 0))), (aI k u1 24 rs), (aI k u2 24 rb), (x0, .inr (6, (fX6 x1 (nI tz) (nI ta__3) (nI nq_4) 1 (nI pl_4)))), (aB k x1 240 fx)] [0, 1, 2, 3, 4] hP hD (by decide) rfl
      exact W.vret hx hb hr (fun t ht hW => ⟨⟨(r_3, 0, 0, rs, rb, ta__3, (nI nq_4), 1, (nI pl_4)), rfl, ⟨.inr ⟨1, pl_4, rfl, by decide, by decide, (rf_h hH1_37 (by decide) hH2_37).1, (rf_h hH1_37 (by decide) hH2_37).2, rfl⟩, by omega, by omega, by omega⟩, by rw [ht]; exact hP9, hD9⟩, hS.F ht⟩) hS.2.2 dX3_readFrom_116
    · refine va_put (D := D) (ci := 3) (v := .int r_3) (ty := .int) (C := RX3) (T := TX3) (N := 5) hx hb hts inX3 tyX3 tyX3_ok nmX3 hown hK hP hD hS 0 rfl rfl 2 (by decide) (hts _ tw_291) (fun _ h9 => h9) rfl (by decide +kernel) rfl rfl (Nat.le_of_ble_eq_true rfl) dX3_readFrom_24 (fun H locs hP hD hS => ?_)
      have hQ9 := pd_mk [(u0, .inr (3, (fX3 u1 u2 r_3 0 0))), (aI k u1 24 rs), (aI k u2 24 rb), (x0, .inr (6, (fX6 x1 (nI tz) (nI ta__3) (nI nq_4) 2 (nI pl_4)))), (aB k x1 240 fx)] hP hD
      clear hP hD
      obtain ⟨hP, hD⟩ := hQ9
      have hH1_41 : (ruH (bF fx) tz ta).1 = 2 := by simp [ruH, hq_2, hq_4, -List.getD_eq_getElem?_getD]
      have hH2_41 : (ruH (bF fx) tz ta).2.1 = pl_4 := by simp [ruH, hq_2, hq_4, -List.getD_eq_getElem?_getD]
      refine lv_iconst (v := 0) hx hb dX3_readFrom_27 (by decide) ?_
      refine lv_istore_n (lv' := [(2, .int 0), (0, .ref u0), (1, .ref x0)]) hx hb dX3_readFrom_28 rfl hl (by decide) rfl (fun ls hl => ?_)
      refine lv_iload_n hx hb dX3_readFrom_29 rfl (lv_at hl 0 rfl) ?_
      refine lv_bipush (v := 24) hx hb dX3_readFrom_30 (by decide) ?_
      refine lv_icmp_ge (tgt := 62) hx hb dX3_readFrom_32 (by decide) (fun h => absurd h (by decide)) (fun _ => ?_)
      refine lv_aload_n hx hb dX3_readFrom_35 rfl (lv_at hl 2 rfl) ?_
      refine ro_i (D := D) (va_runV (As := []) (rest := []) ⟨hx, hb, hml, hown, hts⟩ ((x_failed l D k st lo x0 x1 tz ta__3 (nI nq_4) 2 (nI pl_4)) H.size) (cwV 0 hts (gV tw_682 tw_368 tw_369 tw_80 tw_370) rfl rfl rfl (by decide +kernel) ⟨Nat.le_of_ble_eq_true rfl, Nat.le_of_ble_eq_true rfl⟩) (pV hS hAlo hlo hP hK (va_Dlo hD hAlo) hZ [3] (by decide) rfl (ci := 6) (q := (RX6, TX6, 6)) (q0 := 0) rfl rfl) rfl rfl hl.1 rfl (lv_room (Nat.le_of_ble_eq_true rfl)) dX3_readFrom_36 ⟨Nat.le_of_ble_eq_true rfl, Nat.le_of_ble_eq_true rfl⟩) hS hA hP (fun r_42 H locs hw_42 hP hS => ?_)
      try dsimp only at hw_42
      obtain rfl : r_42 = 1 := by rcases hw_42 with ⟨h, h2⟩ | ⟨h, h2⟩ <;> first | exact h | exact absurd rfl h2 | exact absurd h2 (by decide)
      refine lv_if_ne (tgt := 62) hx hb dX3_readFrom_39 (by decide) (fun _ => ?_) (fun h => absurd h (by decide))
      refine lv_aload_n hx hb dX3_readFrom_62 rfl (lv_at hl 2 rfl) ?_
      refine ro_i (D := D) (va_runV (As := []) (rest := []) ⟨hx, hb, hml, hown, hts⟩ ((x_failed l D k st lo x0 x1 tz ta__3 (nI nq_4) 2 (nI pl_4)) H.size) (cwV 0 hts (gV tw_682 tw_368 tw_369 tw_80 tw_370) rfl rfl rfl (by decide +kernel) ⟨Nat.le_of_ble_eq_true rfl, Nat.le_of_ble_eq_true rfl⟩) (pV hS hAlo hlo hP hK (va_Dlo hD hAlo) hZ [3] (by decide) rfl (ci := 6) (q := (RX6, TX6, 6)) (q0 := 0) rfl rfl) rfl rfl hl.1 rfl (lv_room (Nat.le_of_ble_eq_true rfl)) dX3_readFrom_63 ⟨Nat.le_of_ble_eq_true rfl, Nat.le_of_ble_eq_true rfl⟩) hS hA hP (fun r_43 H locs hw_43 hP hS => ?_)
      try dsimp only at hw_43
      obtain rfl : r_43 = 1 := by rcases hw_43 with ⟨h, h2⟩ | ⟨h, h2⟩ <;> first | exact h | exact absurd rfl h2 | exact absurd h2 (by decide)
      refine lv_if_ne (tgt := 93) hx hb dX3_readFrom_66 (by decide) (fun _ => ?_) (fun h => absurd h (by decide))
      refine lv_aload_n hx hb dX3_readFrom_93 rfl (lv_at hl 2 rfl) ?_
      refine ro_i (D := D) (va_runV (As := []) (rest := []) ⟨hx, hb, hml, hown, hts⟩ ((x_failed l D k st lo x0 x1 tz ta__3 (nI nq_4) 2 (nI pl_4)) H.size) (cwV 0 hts (gV tw_682 tw_368 tw_369 tw_80 tw_370) rfl rfl rfl (by decide +kernel) ⟨Nat.le_of_ble_eq_true rfl, Nat.le_of_ble_eq_true rfl⟩) (pV hS hAlo hlo hP hK (va_Dlo hD hAlo) hZ [3] (by decide) rfl (ci := 6) (q := (RX6, TX6, 6)) (q0 := 0) rfl rfl) rfl rfl hl.1 rfl (lv_room (Nat.le_of_ble_eq_true rfl)) dX3_readFrom_94 ⟨Nat.le_of_ble_eq_true rfl, Nat.le_of_ble_eq_true rfl⟩) hS hA hP (fun r_44 H locs hw_44 hP hS => ?_)
      try dsimp only at hw_44
      obtain rfl : r_44 = 1 := by rcases hw_44 with ⟨h, h2⟩ | ⟨h, h2⟩ <;> first | exact h | exact absurd rfl h2 | exact absurd h2 (by decide)
      refine lv_if_ne (tgt := 116) hx hb dX3_readFrom_97 (by decide) (fun _ => ?_) (fun h => absurd h (by decide))
      obtain ⟨hP9, hD9⟩ := pd_sub [(u0, .inr (3, (fX3 u1 u2 r_3 0 0))), (aI k u1 24 rs), (aI k u2 24 rb), (x0, .inr (6, (fX6 x1 (nI tz) (nI ta__3) (nI nq_4) 2 (nI pl_4)))), (aB k x1 240 fx)] [0, 1, 2, 3, 4] hP hD (by decide) rfl
      exact W.vret hx hb hr (fun t ht hW => ⟨⟨(r_3, 0, 0, rs, rb, ta__3, (nI nq_4), 2, (nI pl_4)), rfl, ⟨.inr ⟨2, pl_4, rfl, by decide, by decide, (rf_h hH1_41 (by decide) hH2_41).1, (rf_h hH1_41 (by decide) hH2_41).2, rfl⟩, by omega, by omega, by omega⟩, by rw [ht]; exact hP9, hD9⟩, hS.F ht⟩) hS.2.2 dX3_readFrom_116
  · refine lv_aload_n hx hb dX3_readFrom_16 rfl (lv_at hl 0 rfl) ?_
    refine lv_aload_n hx hb dX3_readFrom_17 rfl (lv_at hl 1 rfl) ?_
    refine lv_iconst (v := 0) hx hb dX3_readFrom_18 (by decide) ?_
    refine lv_bipush (v := 24) hx hb dX3_readFrom_19 (by decide) ?_
    refine rw_i (D := D) (wr := [(u0, .inr (3, (fX3 u1 u2 rf 0 0))), (aI k u1 24 rs), (aI k u2 24 rb)]) (va_runV (As := [.int 0, .int 24]) (rest := [.ref u0]) ⟨hx, hb, hml, hown, hts⟩ ((y_needNumber l D k st lo x0 x1 tz ta__1 na 1 (nI pl_2) fx 0 24 (by first | assumption | omega) (by first | assumption | omega) (by decide)) H.size) (cwV 2 hts (gV tw_681 tw_468 tw_469 tw_80 tw_470) rfl rfl rfl (by decide +kernel) ⟨Nat.le_of_ble_eq_true rfl, Nat.le_of_ble_eq_true rfl⟩) (pV hS hAlo hlo hP hK (va_Dlo hD hAlo) hZ [3, 4] (by decide) rfl (ci := 6) (q := (RX6, TX6, 6)) (q0 := 0) rfl rfl) rfl rfl hl.1 rfl (lv_room (Nat.le_of_ble_eq_true rfl)) dX3_readFrom_21 ⟨Nat.le_of_ble_eq_true rfl, Nat.le_of_ble_eq_true rfl⟩) hS hA hP hD [3, 4] [0, 1, 2] rfl rfl (by decide) (by decide) (fun r_45 u H locs hw_45 hP hD hS => ?_)
    obtain ⟨ta__45, na__45, fn__45, fb__45⟩ := u
    have hQ9 := pd_mk [(u0, .inr (3, (fX3 u1 u2 rf 0 0))), (aI k u1 24 rs), (aI k u2 24 rb), (x0, .inr (6, (fX6 x1 (nI tz) (nI ta__45) na__45 fn__45 fb__45))), (aB k x1 240 fx)] hP hD
    clear hP hD
    obtain ⟨hP, hD⟩ := hQ9
    try dsimp only at hw_45
    have hr_46 := (hw_45.1 (by decide)).1
    obtain ⟨hs0_47, hs1_47, hs2_47, hs3_47⟩ := (hw_45.1 (by decide)).2
    replace hs0_47 := hs0_47.symm
    subst hs0_47
    replace hs1_47 := hs1_47.symm
    subst hs1_47
    replace hs2_47 := hs2_47.symm
    subst hs2_47
    replace hs3_47 := hs3_47.symm
    subst hs3_47
    refine va_put (D := D) (ci := 3) (v := .int r_45) (ty := .int) (C := RX3) (T := TX3) (N := 5) hx hb hts inX3 tyX3 tyX3_ok nmX3 hown hK hP hD hS 0 rfl rfl 2 (by decide) (hts _ tw_291) (fun _ h9 => h9) rfl (by decide +kernel) rfl rfl (Nat.le_of_ble_eq_true rfl) dX3_readFrom_24 (fun H locs hP hD hS => ?_)
    have hQ9 := pd_mk [(u0, .inr (3, (fX3 u1 u2 r_45 0 0))), (aI k u1 24 rs), (aI k u2 24 rb), (x0, .inr (6, (fX6 x1 (nI tz) (nI ta__1) na 1 (nI pl_2)))), (aB k x1 240 fx)] hP hD
    clear hP hD
    obtain ⟨hP, hD⟩ := hQ9
    have hH1_48 : (ruH (bF fx) tz ta).1 = 1 := by simp [ruH, hq_2, -List.getD_eq_getElem?_getD]
    have hH2_48 : (ruH (bF fx) tz ta).2.1 = pl_2 := by simp [ruH, hq_2, -List.getD_eq_getElem?_getD]
    refine lv_iconst (v := 0) hx hb dX3_readFrom_27 (by decide) ?_
    refine lv_istore_n (lv' := [(2, .int 0), (0, .ref u0), (1, .ref x0)]) hx hb dX3_readFrom_28 rfl hl (by decide) rfl (fun ls hl => ?_)
    refine lv_iload_n hx hb dX3_readFrom_29 rfl (lv_at hl 0 rfl) ?_
    refine lv_bipush (v := 24) hx hb dX3_readFrom_30 (by decide) ?_
    refine lv_icmp_ge (tgt := 62) hx hb dX3_readFrom_32 (by decide) (fun h => absurd h (by decide)) (fun _ => ?_)
    refine lv_aload_n hx hb dX3_readFrom_35 rfl (lv_at hl 2 rfl) ?_
    refine ro_i (D := D) (va_runV (As := []) (rest := []) ⟨hx, hb, hml, hown, hts⟩ ((x_failed l D k st lo x0 x1 tz ta__1 na 1 (nI pl_2)) H.size) (cwV 0 hts (gV tw_682 tw_368 tw_369 tw_80 tw_370) rfl rfl rfl (by decide +kernel) ⟨Nat.le_of_ble_eq_true rfl, Nat.le_of_ble_eq_true rfl⟩) (pV hS hAlo hlo hP hK (va_Dlo hD hAlo) hZ [3] (by decide) rfl (ci := 6) (q := (RX6, TX6, 6)) (q0 := 0) rfl rfl) rfl rfl hl.1 rfl (lv_room (Nat.le_of_ble_eq_true rfl)) dX3_readFrom_36 ⟨Nat.le_of_ble_eq_true rfl, Nat.le_of_ble_eq_true rfl⟩) hS hA hP (fun r_49 H locs hw_49 hP hS => ?_)
    try dsimp only at hw_49
    obtain rfl : r_49 = 1 := by rcases hw_49 with ⟨h, h2⟩ | ⟨h, h2⟩ <;> first | exact h | exact absurd rfl h2 | exact absurd h2 (by decide)
    refine lv_if_ne (tgt := 62) hx hb dX3_readFrom_39 (by decide) (fun _ => ?_) (fun h => absurd h (by decide))
    refine lv_aload_n hx hb dX3_readFrom_62 rfl (lv_at hl 2 rfl) ?_
    refine ro_i (D := D) (va_runV (As := []) (rest := []) ⟨hx, hb, hml, hown, hts⟩ ((x_failed l D k st lo x0 x1 tz ta__1 na 1 (nI pl_2)) H.size) (cwV 0 hts (gV tw_682 tw_368 tw_369 tw_80 tw_370) rfl rfl rfl (by decide +kernel) ⟨Nat.le_of_ble_eq_true rfl, Nat.le_of_ble_eq_true rfl⟩) (pV hS hAlo hlo hP hK (va_Dlo hD hAlo) hZ [3] (by decide) rfl (ci := 6) (q := (RX6, TX6, 6)) (q0 := 0) rfl rfl) rfl rfl hl.1 rfl (lv_room (Nat.le_of_ble_eq_true rfl)) dX3_readFrom_63 ⟨Nat.le_of_ble_eq_true rfl, Nat.le_of_ble_eq_true rfl⟩) hS hA hP (fun r_50 H locs hw_50 hP hS => ?_)
    try dsimp only at hw_50
    obtain rfl : r_50 = 1 := by rcases hw_50 with ⟨h, h2⟩ | ⟨h, h2⟩ <;> first | exact h | exact absurd rfl h2 | exact absurd h2 (by decide)
    refine lv_if_ne (tgt := 93) hx hb dX3_readFrom_66 (by decide) (fun _ => ?_) (fun h => absurd h (by decide))
    refine lv_aload_n hx hb dX3_readFrom_93 rfl (lv_at hl 2 rfl) ?_
    refine ro_i (D := D) (va_runV (As := []) (rest := []) ⟨hx, hb, hml, hown, hts⟩ ((x_failed l D k st lo x0 x1 tz ta__1 na 1 (nI pl_2)) H.size) (cwV 0 hts (gV tw_682 tw_368 tw_369 tw_80 tw_370) rfl rfl rfl (by decide +kernel) ⟨Nat.le_of_ble_eq_true rfl, Nat.le_of_ble_eq_true rfl⟩) (pV hS hAlo hlo hP hK (va_Dlo hD hAlo) hZ [3] (by decide) rfl (ci := 6) (q := (RX6, TX6, 6)) (q0 := 0) rfl rfl) rfl rfl hl.1 rfl (lv_room (Nat.le_of_ble_eq_true rfl)) dX3_readFrom_94 ⟨Nat.le_of_ble_eq_true rfl, Nat.le_of_ble_eq_true rfl⟩) hS hA hP (fun r_51 H locs hw_51 hP hS => ?_)
    try dsimp only at hw_51
    obtain rfl : r_51 = 1 := by rcases hw_51 with ⟨h, h2⟩ | ⟨h, h2⟩ <;> first | exact h | exact absurd rfl h2 | exact absurd h2 (by decide)
    refine lv_if_ne (tgt := 116) hx hb dX3_readFrom_97 (by decide) (fun _ => ?_) (fun h => absurd h (by decide))
    obtain ⟨hP9, hD9⟩ := pd_sub [(u0, .inr (3, (fX3 u1 u2 r_45 0 0))), (aI k u1 24 rs), (aI k u2 24 rb), (x0, .inr (6, (fX6 x1 (nI tz) (nI ta__1) na 1 (nI pl_2)))), (aB k x1 240 fx)] [0, 1, 2, 3, 4] hP hD (by decide) rfl
    exact W.vret hx hb hr (fun t ht hW => ⟨⟨(r_45, 0, 0, rs, rb, ta__1, na, 1, (nI pl_2)), rfl, ⟨.inr ⟨1, pl_2, rfl, by decide, by decide, (rf_h hH1_48 (by decide) hH2_48).1, (rf_h hH1_48 (by decide) hH2_48).2, rfl⟩, by omega, by omega, by omega⟩, by rw [ht]; exact hP9, hD9⟩, hS.F ht⟩) hS.2.2 dX3_readFrom_116

theorem f_glueP11 : True := trivial
/-- a change, with its word -/
def seR (b : Nat → Int32) (n cnt : Nat) (sn : Nat → Int32) (t : Nat) : Nat × Nat × Nat × Int32 × Int32 :=
  match wdR b n (sByt.getD 13 []) t with
  | (e1, p1, t1) => if e1 = 0 then chR b n cnt sn t1 else (e1, p1, t1, 0, 0)
theorem se_w {b : Nat → Int32} {n cnt t e p t1 : Nat} {sn : Nat → Int32} (h : wdR b n (sByt.getD 13 []) t = (e, p, t1)) (he : 1 ≤ e) : (seR b n cnt sn t).1 = e ∧ (seR b n cnt sn t).2.1 = p := by
  have q : seR b n cnt sn t = (e, p, t1, 0, 0) := by
    unfold seR
    rw [h]
    show (if e = 0 then _ else _) = _
    rw [if_neg (by omega)]
  rw [q]
  exact ⟨rfl, rfl⟩
theorem se_c {b : Nat → Int32} {n cnt t p t1 : Nat} {sn : Nat → Int32} (h : wdR b n (sByt.getD 13 []) t = (0, p, t1)) : seR b n cnt sn t = chR b n cnt sn t1 := by
  unfold seR
  rw [h]
  show (if (0 : Nat) = 0 then _ else _) = _
  rw [if_pos rfl]
theorem seR_clp {b : Nat → Int32} {n cnt t : Nat} {sn : Nat → Int32} : seR b n cnt (clp cnt sn) t = seR b n cnt sn t := by
  unfold seR
  rcases wdR b n (sByt.getD 13 []) t with ⟨e1, p1, t1⟩
  show (if e1 = 0 then chR b n cnt (clp cnt sn) t1 else _) = (if e1 = 0 then chR b n cnt sn t1 else _)
  rw [chR_clp]
theorem se_c1 {ru q : Nat} {f : Nat → Int32} {v : Int32} (hb : 1 ≤ q) (c : f (12 * ru + q - 1) < v) : q - 1 = 0 ∨ (fun i => f (12 * ru + 1 + i)) (q - 1 - 1) < v := by
  rcases Nat.eq_zero_or_pos (q - 1) with h | h
  · exact .inl h
  · refine .inr ?_
    show f (12 * ru + 1 + (q - 1 - 1)) < v
    rw [show 12 * ru + 1 + (q - 1 - 1) = 12 * ru + q - 1 by omega]
    exact c
theorem se_c0 {ru q : Nat} {f : Nat → Int32} {v : Int32} (hb : 1 ≤ q) (h0 : f (12 * ru) = 0) (hv : inB v 1 24) (c : ¬ f (12 * ru + q - 1) < v) : ¬ (q - 1 = 0 ∨ (fun i => f (12 * ru + 1 + i)) (q - 1 - 1) < v) := by
  rintro (h | h)
  · rw [show 12 * ru + q - 1 = 12 * ru by omega, h0] at c
    have h1 := Int32.le_iff_toInt_le.mp hv.1
    have e1 : (1 : Int32).toInt = 1 := by decide
    have e0 : (0 : Int32).toInt = 0 := by decide
    exact c (Int32.lt_iff_toInt_lt.mpr (by rw [e0]; rw [e1] at h1; omega))
  · rcases Nat.eq_zero_or_pos (q - 1) with h2 | h2
    · rw [show 12 * ru + q - 1 = 12 * ru by omega, h0] at c
      have h1 := Int32.le_iff_toInt_le.mp hv.1
      have e1 : (1 : Int32).toInt = 1 := by decide
      have e0 : (0 : Int32).toInt = 0 := by decide
      exact c (Int32.lt_iff_toInt_lt.mpr (by rw [e0]; rw [e1] at h1; omega))
    · have h3 : f (12 * ru + 1 + (q - 1 - 1)) < v := h
      rw [show 12 * ru + 1 + (q - 1 - 1) = 12 * ru + q - 1 by omega] at h3
      exact c h3
/-- the loop, from behind the blanks -/
theorem roR_sk {b : Nat → Int32} {n t : Nat} : roR b n (skA b n t) = roR b n t := by
  unfold roR
  rw [skA_idem]
theorem ruL_sk {b : Nat → Int32} {n k t : Nat} {σ : RSt} : ruL b n k (skA b n t) σ = ruL b n k t σ := by
  rcases k with _ | k
  · show ((roR b n (skA b n t)).1, (roR b n (skA b n t)).2.1, σ, (roR b n (skA b n t)).2.2) = ((roR b n t).1, (roR b n t).2.1, σ, (roR b n t).2.2)
    rw [roR_sk]
  · unfold ruL
    rw [skA_idem, roR_sk]
theorem let_end {b : Nat → Int32} {n t : Nat} {K : List Int32} (h : ¬ skA b n t < n) (hK : K ≠ []) : ¬ letA b n (skA b n t) = K := by
  rw [letA_end (by omega)]
  exact fun q => hK q.symm
theorem rl_end {b : Nat → Int32} {n k t : Nat} {σ : RSt} (h : ¬ skA b n t < n) : ruL b n k t σ = (0, 0, σ, 0) := by
  rw [rl_no (let_end h (by decide)), ro_0o (let_end h (by decide)) h]
theorem seRn : ¬ (sByt.getD 7 []) = (sByt.getD 13 []) := by decide
theorem rl_s0 {b : Nat → Int32} {n k t t2 : Nat} {σ : RSt} {v1 v3 : Int32} (hk : 0 < k) (h : seR b n σ.1 σ.2.1 (skA b n t) = (0, 0, t2, v1, v3)) : ruL b n k t σ = ruL b n (k - 1) t2 (σ.1 + 1, upd σ.2.1 σ.1 v1, upd σ.2.2 σ.1 v3) := by
  by_cases hs : letA b n (skA b n t) = (sByt.getD 13 [])
  · have hw : wdR b n (sByt.getD 13 []) (skA b n t) = (0, 0, skA b n t + 4) := by
      unfold wdR
      rw [skA_idem, if_pos hs]
      rfl
    rw [se_c hw] at h
    exact rl_go hk hs h
  · have hw : wdR b n (sByt.getD 13 []) (skA b n t) = (1, skA b n t, skA b n t) := by
      unfold wdR
      rw [skA_idem, if_neg hs]
    have h2 := (se_w (cnt := σ.1) (sn := σ.2.1) hw (by decide)).1
    rw [h] at h2
    exact absurd (show (0 : Nat) = 1 from h2) (by decide)
theorem rl_s1 {b : Nat → Int32} {n k t e p : Nat} {σ : RSt} (hk : 0 < k) (hlt : skA b n t < n) (hr : ¬ letA b n (skA b n t) = (sByt.getD 7 [])) (he : (seR b n σ.1 σ.2.1 (skA b n t)).1 = e) (h1 : 1 ≤ e) (hp : (seR b n σ.1 σ.2.1 (skA b n t)).2.1 = p) : (ruL b n k t σ).1 = e ∧ (ruL b n k t σ).2.1 = p := by
  by_cases hs : letA b n (skA b n t) = (sByt.getD 13 [])
  · have hw : wdR b n (sByt.getD 13 []) (skA b n t) = (0, 0, skA b n t + 4) := by
      unfold wdR
      rw [skA_idem, if_pos hs]
      rfl
    rw [se_c hw] at he hp
    exact rl_er hk hs he h1 hp
  · have hw : wdR b n (sByt.getD 13 []) (skA b n t) = (1, skA b n t, skA b n t) := by
      unfold wdR
      rw [skA_idem, if_neg hs]
    have h2 := se_w (cnt := σ.1) (sn := σ.2.1) hw (by decide)
    rw [he, hp] at h2
    rw [rl_no hs, ro_0f hr hlt]
    exact ⟨h2.1.symm, h2.2.symm⟩
/-- the reference's rule: from which door, changes, rounds -/
abbrev RUt : Type := Int32 × RSt × Int32
def ruM (bm : Nat → Nat) (fs ff fr : Nat → Int32) (q : Nat) : RUt := (ff (12 * q), (bm q - 1, clp (bm q - 1) (fun i => fs (12 * q + 1 + i)), clp (bm q - 1) (fun i => ff (12 * q + 1 + i))), fr q)
def ruX (rf : Int32) (rc rr : Nat) (rs rb : Nat → Int32) : RUt := (rf, (rc, clp rc rs, clp rc rb), nI rr)
theorem sg_new {f : Nat → Int32} {ru q : Nat} {v : Int32} (hb : 1 ≤ q) : upd (clp (q - 1) (fun i => f (12 * ru + 1 + i))) (q - 1) v = clp q (fun i => upd f (12 * ru + q) v (12 * ru + 1 + i)) := by
  funext j
  show (if j = q - 1 then v else (if j < q - 1 then f (12 * ru + 1 + j) else 0)) = (if j < q then (if 12 * ru + 1 + j = 12 * ru + q then v else f (12 * ru + 1 + j)) else 0)
  by_cases h : j = q - 1
  · rw [if_pos h, if_pos (by omega), if_pos (by omega)]
  · rw [if_neg h]
    by_cases h1 : j < q - 1
    · rw [if_pos h1, if_pos (by omega), if_neg (by omega)]
    · rw [if_neg h1, if_neg (by omega)]
/-- the rules ahead of ru stay -/
def ruK (ru : Nat) (bm bm2 : Nat → Nat) (fs fs2 ff ff2 : Nat → Int32) : Prop := (∀ q, q ≠ ru → bm2 q = bm q) ∧ (∀ j, j < 12 * ru → fs2 j = fs j) ∧ ∀ j, j < 12 * ru → ff2 j = ff j
theorem ruK_rf {ru : Nat} {bm : Nat → Nat} {fs ff : Nat → Int32} : ruK ru bm bm fs fs ff ff := ⟨fun _ _ => rfl, fun _ _ => rfl, fun _ _ => rfl⟩
theorem ruK_tr {ru : Nat} {bm bm2 bm3 : Nat → Nat} {fs fs2 fs3 ff ff2 ff3 : Nat → Int32} (h : ruK ru bm bm2 fs fs2 ff ff2) (g : ruK ru bm2 bm3 fs2 fs3 ff2 ff3) : ruK ru bm bm3 fs fs3 ff ff3 := ⟨fun q hq => (g.1 q hq).trans (h.1 q hq), fun j hj => (g.2.1 j hj).trans (h.2.1 j hj), fun j hj => (g.2.2 j hj).trans (h.2.2 j hj)⟩
theorem ruK_s {ru x : Nat} {bm : Nat → Nat} {fs ff : Nat → Int32} {v : Int32} (hx : 12 * ru ≤ x) : ruK ru bm bm fs (upd fs x v) ff ff := ⟨fun _ _ => rfl, fun j hj => pk_un (by omega), fun _ _ => rfl⟩
theorem ruK_f {ru x : Nat} {bm : Nat → Nat} {fs ff : Nat → Int32} {v : Int32} (hx : 12 * ru ≤ x) : ruK ru bm bm fs fs ff (upd ff x v) := ⟨fun _ _ => rfl, fun _ _ => rfl, fun j hj => pk_un (by omega)⟩
theorem ruK_b {ru v : Nat} {bm bm2 : Nat → Nat} {fs ff : Nat → Int32} (hx : bm2 = fun j => if j = ru then v else bm j) : ruK ru bm bm2 fs fs ff ff := ⟨fun q hq => by rw [hx]; exact if_neg hq, fun _ _ => rfl, fun _ _ => rfl⟩
theorem ruM_K {ru q : Nat} {bm bm2 : Nat → Nat} {fs fs2 ff ff2 fr fr2 : Nat → Int32} (h : ruK ru bm bm2 fs fs2 ff ff2) (hr : ∀ q, q ≠ ru → fr2 q = fr q) (hb : ∀ j, bm j ≤ 12) (hq : q < ru) : ruM bm2 fs2 ff2 fr2 q = ruM bm fs ff fr q := by
  have hbq := hb q
  have e0 := h.1 q (by omega)
  have e3 := hr q (by omega)
  have e4 := h.2.2 (12 * q) (by omega)
  have e1 : ∀ (x y : Nat → Int32), (∀ j, j < 12 * ru → y j = x j) → clp (bm q - 1) (fun i => y (12 * q + 1 + i)) = clp (bm q - 1) (fun i => x (12 * q + 1 + i)) := by
    intro x y hxy
    funext i
    unfold clp
    by_cases hi : i < bm q - 1
    · rw [if_pos hi, if_pos hi]
      exact hxy _ (by omega)
    · rw [if_neg hi, if_neg hi]
  unfold ruM
  rw [e0, e3, e4, e1 fs fs2 h.2.1, e1 ff ff2 h.2.2]
theorem wd_ro {L : List Int32} {w : Int64} (hL : ∀ x ∈ L, inB x 97 122) (hw : w = wval L) : w = 9876874 ↔ L = (sByt.getD 7 []) := by
  rw [hw]
  exact kq hL (i := 7) (by decide) (by decide +kernel)
def ruP (b : Nat → Int32) (n : Nat) (fp : Int32) (k : Nat) (ru : Nat → RUt) (r : Int32) (n' : Nat) (fp' : Int32) (k' : Nat) (ru' : Nat → RUt) : Prop := (80 < n → r = -1003 ∧ n' = n ∧ k' = k ∧ fp' = fp ∧ (∀ q, q < k → ru' q = ru q)) ∧ (n ≤ 80 → k = 4 → r = -1004 ∧ n' = n ∧ k' = k ∧ fp' = fp ∧ (∀ q, q < k → ru' q = ru q)) ∧ (n ≤ 80 → k < 4 → n' = 0 ∧ (∀ q, q < k → ru' q = ru q) ∧ ((∃ e pl : Nat, 1 ≤ e ∧ e ≤ 4 ∧ (ruF b n 0).1 = e ∧ (ruF b n 0).2.1 = pl ∧ r = -10 - nI e ∧ fp' = nI pl ∧ k' = k) ∨ (ruF b n 0 = (0, 0, ru' k) ∧ r = nI k ∧ fp' = -1 ∧ k' = k + 1)))
theorem ruP_fun {b : Nat → Int32} {n n' m' k k' l' : Nat} {fp r fp' q fq' : Int32} {ru ru' rv rv' : Nat → RUt} (hk : k ≤ 4) (h : ruP b n fp k ru r n' fp' k' ru') (g : ruP b n fp k rv q m' fq' l' rv') (e : ∀ i, i < k → ru i = rv i) : r = q ∧ n' = m' ∧ fp' = fq' ∧ k' = l' ∧ ∀ i, i < k' → ru' i = rv' i := by
  rcases Nat.lt_or_ge 80 n with hn | hn
  · obtain ⟨u1, u2, u3, u4, u5⟩ := h.1 hn
    obtain ⟨v1, v2, v3, v4, v5⟩ := g.1 hn
    refine ⟨u1.trans v1.symm, u2.trans v2.symm, u4.trans v4.symm, u3.trans v3.symm, fun i hi => ?_⟩
    rw [u3] at hi
    exact (u5 i hi).trans ((e i hi).trans (v5 i hi).symm)
  · rcases Nat.lt_or_ge k 4 with hq | hq
    · obtain ⟨u1, u2, u3⟩ := h.2.2 hn hq
      obtain ⟨v1, v2, v3⟩ := g.2.2 hn hq
      rcases u3 with ⟨e1, pl, a1, a2, a3, a4, a5, a6, a7⟩ | ⟨a3, a4, a5, a6⟩
      · rcases v3 with ⟨e2, pm, c1, c2, c3, c4, c5, c6, c7⟩ | ⟨c3, c4, c5, c6⟩
        · have x1 : e1 = e2 := a3.symm.trans c3
          have x2 : pl = pm := a4.symm.trans c4
          refine ⟨by rw [a5, c5, x1], u1.trans v1.symm, by rw [a6, c6, x2], a7.trans c7.symm, fun i hi => ?_⟩
          rw [a7] at hi
          exact (u2 i hi).trans ((e i hi).trans (v2 i hi).symm)
        · rw [c3] at a3
          exact absurd a3 (by show ¬ 0 = e1; omega)
      · rcases v3 with ⟨e2, pm, c1, c2, c3, c4, c5, c6, c7⟩ | ⟨c3, c4, c5, c6⟩
        · rw [a3] at c3
          exact absurd c3 (by show ¬ 0 = e2; omega)
        · have x2 : ru' k = rv' k := congrArg (fun z => z.2.2) (a3.symm.trans c3)
          refine ⟨a4.trans c4.symm, u1.trans v1.symm, a5.trans c5.symm, a6.trans c6.symm, fun i hi => ?_⟩
          by_cases hs : i = k
          · rw [hs]
            exact x2
          · have hi2 : i < k := by omega
            exact (u2 i hi2).trans ((e i hi2).trans (v2 i hi2).symm)
    · have hq4 : k = 4 := by omega
      obtain ⟨u1, u2, u3, u4, u5⟩ := h.2.1 hn hq4
      obtain ⟨v1, v2, v3, v4, v5⟩ := g.2.1 hn hq4
      refine ⟨u1.trans v1.symm, u2.trans v2.symm, u4.trans v4.symm, u3.trans v3.symm, fun i hi => ?_⟩
      rw [u3] at hi
      exact (u5 i hi).trans ((e i hi).trans (v5 i hi).symm)


set_option maxHeartbeats 4000000 in
set_option maxRecDepth 100000 in
theorem n_takeSeen (l : Launch) (D : va_G) (k : Nat → ClassId) (st : Nat → Nat) (lo : Nat) (a : Nat → Nat) (tx : Nat) (t0 : Nat) (we : Nat) (rd : Nat) (ru : Nat) (rw : Nat) (ca : Nat) (fp : Int32) (wd : Int64) (nu : Int32) (na : Int32) (ts : Int32) (df : Int32) (db : Int32) (sd : Int32) (ftext : Nat → Int32) (bm : Nat → Nat) (fbarSeen : Nat → Int32) (fbarFrom : Nat → Int32) (ht : t0 ≤ tx) (htx : tx ≤ 240) (hbm : ∀ j, bm j ≤ 12) (hru3 : ru ≤ 3) (hb1 : 1 ≤ bm ru ∧ bm ru ≤ 11) (hs0 : fbarSeen (12 * ru) = 0) : CWi l D k st lo yX8_takeSeen cX8_takeSeen 5 (some .int) ({ frames := 3, cells := 0, slots := 0, locals := 74 }) 0 0 [.ref (a 0), .long 131638] [((a 0), .inr (8, (fX8 a (nI tx) fp (nI t0) wd (nI we) nu na (nI rd) ts (nI ru) (nI rw) (nI ca) df db sd))), (aI k (a 5) 240 ftext), (aI k (a 25) 4 (nF bm)), (aI k (a 26) 48 fbarSeen), (aI k (a 27) 48 fbarFrom)] (fun (r : Int32) (u : Nat × Int64 × Nat × Int32 × Int32 × Int32 × (Nat → Nat) × (Nat → Int32) × (Nat → Int32)) => match u with | (t0_, wd_, we_, fp_, nu_, na_, bm_, fbarSeen_, fbarFrom_) => ((r = 0 ∧ ∃ v1 v3 : Int32, seR ftext tx (bm ru - 1) (fun i => fbarSeen (12 * ru + 1 + i)) t0 = (0, 0, t0_, v1, v3) ∧ bm_ = (fun j => if j = ru then bm ru + 1 else bm j) ∧ fbarSeen_ = upd fbarSeen (12 * ru + bm ru) v1 ∧ fbarFrom_ = upd fbarFrom (12 * ru + bm ru) v3 ∧ fp_ = fp) ∨ (∃ e pl : Nat, r = nI e ∧ 1 ≤ e ∧ e ≤ 3 ∧ (seR ftext tx (bm ru - 1) (fun i => fbarSeen (12 * ru + 1 + i)) t0).1 = e ∧ (seR ftext tx (bm ru - 1) (fun i => fbarSeen (12 * ru + 1 + i)) t0).2.1 = pl ∧ fp_ = nI pl)) ∧ ruK ru bm bm_ fbarSeen fbarSeen_ fbarFrom fbarFrom_ ∧ t0 ≤ t0_ ∧ t0_ ≤ tx ∧ (∀ j, bm_ j ≤ 12) ∧ (r = 0 → t0 + 8 ≤ t0_)) (fun (u : Nat × Int64 × Nat × Int32 × Int32 × Int32 × (Nat → Nat) × (Nat → Int32) × (Nat → Int32)) => match u with | (t0_, wd_, we_, fp_, nu_, na_, bm_, fbarSeen_, fbarFrom_) => [((a 0), .inr (8, (fX8 a (nI tx) fp_ (nI t0_) wd_ (nI we_) nu_ na_ (nI rd) ts (nI ru) (nI rw) (nI ca) df db sd))), (aI k (a 5) 240 ftext), (aI k (a 25) 4 (nF bm_)), (aI k (a 26) 48 fbarSeen_), (aI k (a 27) 48 fbarFrom_)]) := by
  intro sz
  refine Met.ofW (cc := cX8_takeSeen) (maxL := 5) (ret := (some .int)) (by decide) rfl ?_
  intro p e s m args below meth c s₁ B hml hv
  obtain ⟨rfl, hsz, hlo, hP, hK, hDL, hZ⟩ := hv
  have hx := B.exec
  have hb := B.bytes
  have hr := B.returns
  have hts := WS_ts B.pre
  have hown : s.vm.findClass RX8 = some m.cls := findClass_of_methodNamed B.named
  have hlocks := B.notSynchronized
  subst hsz
  have hD := hDL.self (sz := s.heap.size)
  have hAlo := A_lo hDL hlo
  generalize hAe : va_A [((a 0), .inr (8, (fX8 a (nI tx) fp (nI t0) wd (nI we) nu na (nI rd) ts (nI ru) (nI rw) (nI ca) df db sd))), (aI k (a 5) 240 ftext), (aI k (a 25) 4 (nF bm)), (aI k (a 26) 48 fbarSeen), (aI k (a 27) 48 fbarFrom)] s.heap.size = A at hD hAlo ⊢
  have hA : ∀ q : Nat, s.heap.size ≤ q → A q := fun q h => by rw [← hAe]; exact Or.inr h
  have hS : va_S A s.heap s.heap [] := va_S.rf
  have hl := lv_entry ([.ref (a 0), .long 131638]) (n := 5) (Nat.le_of_ble_eq_true rfl)
  rw [lg_entry_eq]
  generalize (lg_sl ([.ref (a 0), .long 131638]) ++ List.replicate (5 - (lg_sl ([.ref (a 0), .long 131638])).length) Slot.unset).toArray = ls at hl ⊢
  have hl : lv_has ls 5 [(0, .ref (a 0)), (1, .long 131638)] := hl
  refine lv_aload_n hx hb dX8_takeSeen_0 rfl (lv_at hl 0 rfl) ?_
  refine lv_bipush (v := 115) hx hb dX8_takeSeen_1 (by decide) ?_
  refine lv_bipush (v := 101) hx hb dX8_takeSeen_3 (by decide) ?_
  refine lv_bipush (v := 101) hx hb dX8_takeSeen_5 (by decide) ?_
  refine ro_l (D := D) (va_runS (As := [.int 115, .int 101, .int 101]) (rest := [.ref (a 0)]) ⟨hx, hb, hml, hown, hts⟩ ((n_code l D k st lo 115 101 101) s.heap.size) (va_cwS 3 hts (gS tw_1142 tw_1143 tw_87 tw_1144) rfl rfl rfl (by decide +kernel) ⟨Nat.le_of_ble_eq_true rfl, Nat.le_of_ble_eq_true rfl⟩) (pS hS hAlo hlo hP hK (va_Dlo hD hAlo) hZ [] (by decide) rfl) rfl rfl hl.1 rfl (lv_room (Nat.le_of_ble_eq_true rfl)) dX8_takeSeen_7 ⟨Nat.le_of_ble_eq_true rfl, Nat.le_of_ble_eq_true rfl⟩) hS hA hP (fun r_1 H locs hw_1 hP hS => ?_)
  try dsimp only at hw_1
  obtain rfl : r_1 = 13991 := hw_1.trans (by decide)
  refine lv_bipush (v := 110) hx hb dX8_takeSeen_10 (by decide) ?_
  refine ro_l (D := D) (va_runS (As := [.long 13991, .int 110]) (rest := [.ref (a 0)]) ⟨hx, hb, hml, hown, hts⟩ ((n_longer l D k st lo 13991 110) H.size) (va_cwS 2 hts (gS tw_1148 tw_1149 tw_87 tw_1150) rfl rfl rfl (by decide +kernel) ⟨Nat.le_of_ble_eq_true rfl, Nat.le_of_ble_eq_true rfl⟩) (pS hS hAlo hlo hP hK (va_Dlo hD hAlo) hZ [] (by decide) rfl) rfl rfl hl.1 rfl (lv_room (Nat.le_of_ble_eq_true rfl)) dX8_takeSeen_12 ⟨Nat.le_of_ble_eq_true rfl, Nat.le_of_ble_eq_true rfl⟩) hS hA hP (fun r_2 H locs hw_2 hP hS => ?_)
  try dsimp only at hw_2
  obtain rfl : r_2 = 377771 := hw_2.trans (by decide)
  refine rw_i (D := D) (wr := [(aI k (a 25) 4 (nF bm)), (aI k (a 26) 48 fbarSeen), (aI k (a 27) 48 fbarFrom)]) (va_runV (As := [.long 377771]) (rest := []) ⟨hx, hb, hml, hown, hts⟩ ((n_needs l D k st lo a tx t0 we rd ru rw ca fp wd nu na ts df db sd ftext 377771 13 (by first | assumption | omega) (by first | assumption | omega) (by decide) (by decide +kernel)) H.size) (cwV 1 hts (gV tw_1169 tw_1171 tw_35 tw_87 tw_1172) rfl rfl rfl (by decide +kernel) ⟨Nat.le_of_ble_eq_true rfl, Nat.le_of_ble_eq_true rfl⟩) (pV hS hAlo hlo hP hK (va_Dlo hD hAlo) hZ [0, 1] (by decide) rfl (ci := 8) (q := (RX8, TX8, 44)) (q0 := 0) rfl rfl) rfl rfl hl.1 rfl (lv_room (Nat.le_of_ble_eq_true rfl)) dX8_takeSeen_15 ⟨Nat.le_of_ble_eq_true rfl, Nat.le_of_ble_eq_true rfl⟩) hS hA hP hD [0, 1] [2, 3, 4] rfl rfl (by decide) (by decide) (fun r_3 u H locs hw_3 hP hD hS => ?_)
  obtain ⟨t0__3, wd__3, we__3, fp__3⟩ := u
  have hQ9 := pd_mk [(aI k (a 25) 4 (nF bm)), (aI k (a 26) 48 fbarSeen), (aI k (a 27) 48 fbarFrom), ((a 0), .inr (8, (fX8 a (nI tx) fp__3 (nI t0__3) wd__3 (nI we__3) nu na (nI rd) ts (nI ru) (nI rw) (nI ca) df db sd))), (aI k (a 5) 240 ftext)] hP hD
  clear hP hD
  obtain ⟨hP, hD⟩ := hQ9
  try dsimp only at hw_3
  rcases hw_3 with ⟨⟨rfl, hq_4, hfp_4⟩ | ⟨rfl, pl_4, hq_4, rfl⟩, hw_3⟩
  · replace hfp_4 := hfp_4.symm
    subst hfp_4
    refine lv_istore_n (lv' := [(3, .int 0), (0, .ref (a 0)), (1, .long 131638)]) hx hb dX8_takeSeen_18 rfl hl (by decide) rfl (fun ls hl => ?_)
    refine lv_iload_n hx hb dX8_takeSeen_19 rfl (lv_at hl 0 rfl) ?_
    refine lv_if_le (tgt := 27) hx hb dX8_takeSeen_20 (by decide) (fun _ => ?_) (fun h => absurd (by decide) h)
    refine lv_aload_n hx hb dX8_takeSeen_27 rfl (lv_at hl 1 rfl) ?_
    refine lv_iconst (v := 1) hx hb dX8_takeSeen_28 (by decide) ?_
    refine lv_bipush (v := 24) hx hb dX8_takeSeen_29 (by decide) ?_
    refine rw_i (D := D) (wr := [(aI k (a 25) 4 (nF bm)), (aI k (a 26) 48 fbarSeen), (aI k (a 27) 48 fbarFrom)]) (va_runV (As := [.int 1, .int 24]) (rest := []) ⟨hx, hb, hml, hown, hts⟩ ((n_takeNumber l D k st lo a tx t0__3 we__3 rd ru rw ca fp wd__3 nu na ts df db sd ftext 1 24 (by first | assumption | omega) (by first | assumption | omega)) H.size) (cwV 2 hts (gV tw_1159 tw_1161 tw_33 tw_87 tw_1162) rfl rfl rfl (by decide +kernel) ⟨Nat.le_of_ble_eq_true rfl, Nat.le_of_ble_eq_true rfl⟩) (pV hS hAlo hlo hP hK (va_Dlo hD hAlo) hZ [3, 4] (by decide) rfl (ci := 8) (q := (RX8, TX8, 44)) (q0 := 0) rfl rfl) rfl rfl hl.1 rfl (lv_room (Nat.le_of_ble_eq_true rfl)) dX8_takeSeen_31 ⟨Nat.le_of_ble_eq_true rfl, Nat.le_of_ble_eq_true rfl⟩) hS hA hP hD [3, 4] [0, 1, 2] rfl rfl (by decide) (by decide) (fun r_5 u H locs hw_5 hP hD hS => ?_)
    obtain ⟨t0__5, nu__5, na__5, fp__5⟩ := u
    have hQ9 := pd_mk [(aI k (a 25) 4 (nF bm)), (aI k (a 26) 48 fbarSeen), (aI k (a 27) 48 fbarFrom), ((a 0), .inr (8, (fX8 a (nI tx) fp__5 (nI t0__5) wd__3 (nI we__3) nu__5 na__5 (nI rd) ts (nI ru) (nI rw) (nI ca) df db sd))), (aI k (a 5) 240 ftext)] hP hD
    clear hP hD
    obtain ⟨hP, hD⟩ := hQ9
    try dsimp only at hw_5
    obtain ⟨nq_6, rfl, hq_6, hw_5⟩ := hw_5
    rcases hq_6 with ⟨rfl, hq_6, hfp_6⟩ | ⟨rfl, pl_6, hq_6, rfl⟩ | ⟨rfl, pl_6, hq_6, rfl⟩
    · replace hfp_6 := hfp_6.symm
      subst hfp_6
      refine lv_istore_n (lv' := [(3, .int 0), (0, .ref (a 0)), (1, .long 131638)]) hx hb dX8_takeSeen_34 rfl hl (by decide) rfl (fun ls hl => ?_)
      refine lv_bipush (v := 12) hx hb dX8_takeSeen_35 (by decide) ?_
      refine lv_aload_n hx hb dX8_takeSeen_37 rfl (lv_at hl 1 rfl) ?_
      refine va_get (D := D) (ci := 8) (v := .int (nI ru)) (C := RX8) (T := TX8) (N := 44) hx hb hts inX8 hown hK hP 3 rfl rfl 23 (by decide) (hts _ tw_996) (fun _ h9 => h9) rfl dX8_takeSeen_38 ?_
      refine lv_imul hx hb dX8_takeSeen_41 ?_
      refine lv_ti (y := (nI (12 * ru))) (pk_mul 12 ru) ?_
      refine lv_aload_n hx hb dX8_takeSeen_42 rfl (lv_at hl 1 rfl) ?_
      refine va_get (D := D) (ci := 8) (v := .ref (a 25)) (C := RX8) (T := TX8) (N := 44) hx hb hts inX8 hown hK hP 3 rfl rfl 24 (by decide) (hts _ tw_997) (fun _ h9 => h9) rfl dX8_takeSeen_43 ?_
      refine lv_aload_n hx hb dX8_takeSeen_46 rfl (lv_at hl 1 rfl) ?_
      refine va_get (D := D) (ci := 8) (v := .int (nI ru)) (C := RX8) (T := TX8) (N := 44) hx hb hts inX8 hown hK hP 3 rfl rfl 23 (by decide) (hts _ tw_996) (fun _ h9 => h9) rfl dX8_takeSeen_47 ?_
      refine va_iald hx hb hK hP 0 1 rfl rfl (vp_in_nI (by omega) (by decide)) dX8_takeSeen_50 ?_
      refine lv_ti (y := (nI (bm ru))) (by rw [nI_clamp (by omega)]; rfl) ?_
      refine lv_iadd hx hb dX8_takeSeen_51 ?_
      refine lv_ti (y := (nI (12 * ru + bm ru))) (nI_add (12 * ru) (bm ru)) ?_
      refine lv_istore (lv' := [(4, .int (nI (12 * ru + bm ru))), (3, .int 0), (0, .ref (a 0)), (1, .long 131638)]) hx hb dX8_takeSeen_52 hl (by decide) rfl (fun ls hl => ?_)
      refine lv_iload_n hx hb dX8_takeSeen_54 rfl (lv_at hl 1 rfl) ?_
      refine lv_if_ne (tgt := 84) hx hb dX8_takeSeen_55 (by decide) (fun h => absurd (by decide) h) (fun _ => ?_)
      refine lv_aload_n hx hb dX8_takeSeen_58 rfl (lv_at hl 2 rfl) ?_
      refine va_get (D := D) (ci := 8) (v := .int nu__5) (C := RX8) (T := TX8) (N := 44) hx hb hts inX8 hown hK hP 3 rfl rfl 10 (by decide) (hts _ tw_983) (fun _ h9 => h9) rfl dX8_takeSeen_59 ?_
      refine lv_aload_n hx hb dX8_takeSeen_62 rfl (lv_at hl 2 rfl) ?_
      refine va_get (D := D) (ci := 8) (v := .ref (a 26)) (C := RX8) (T := TX8) (N := 44) hx hb hts inX8 hown hK hP 3 rfl rfl 25 (by decide) (hts _ tw_998) (fun _ h9 => h9) rfl dX8_takeSeen_63 ?_
      refine lv_iload hx hb dX8_takeSeen_66 (lv_at hl 0 rfl) ?_
      refine lv_iconst (v := 1) hx hb dX8_takeSeen_68 (by decide) ?_
      refine lv_isub hx hb dX8_takeSeen_69 ?_
      refine lv_ti (y := (nI ((12 * ru + bm ru) - 1))) (pk_sub (a := (12 * ru + bm ru)) (b := 1) (by omega)) ?_
      refine va_iald hx hb hK hP 1 1 rfl rfl (vp_in_nI (by omega) (by decide)) dX8_takeSeen_70 ?_
      refine lv_ti (y := (fbarSeen ((12 * ru + bm ru) - 1))) (by rw [nI_clamp (by omega)]) ?_
      refine lv_icmp_gt (tgt := 84) hx hb dX8_takeSeen_71 (by decide) (fun c_7 => ?_) (fun c_7 => ?_)
      · refine lv_iload_n hx hb dX8_takeSeen_84 rfl (lv_at hl 1 rfl) ?_
        refine lv_if_le (tgt := 90) hx hb dX8_takeSeen_85 (by decide) (fun _ => ?_) (fun h => absurd (by decide) h)
        refine lv_aload_n hx hb dX8_takeSeen_90 rfl (lv_at hl 2 rfl) ?_
        refine va_get (D := D) (ci := 8) (v := .ref (a 26)) (C := RX8) (T := TX8) (N := 44) hx hb hts inX8 hown hK hP 3 rfl rfl 25 (by decide) (hts _ tw_998) (fun _ h9 => h9) rfl dX8_takeSeen_91 ?_
        refine lv_iload hx hb dX8_takeSeen_94 (lv_at hl 0 rfl) ?_
        refine lv_aload_n hx hb dX8_takeSeen_96 rfl (lv_at hl 2 rfl) ?_
        refine va_get (D := D) (ci := 8) (v := .int nu__5) (C := RX8) (T := TX8) (N := 44) hx hb hts inX8 hown hK hP 3 rfl rfl 10 (by decide) (hts _ tw_983) (fun _ h9 => h9) rfl dX8_takeSeen_97 ?_
        refine va_iast hx hb hK hP hD hS 1 1 rfl rfl (vp_in_nI (by omega) (by decide)) dX8_takeSeen_100 (fun H locs hP hD hS => ?_)
        have hQ9 := pd_mk [(aI k (a 25) 4 (nF bm)), (aI k (a 26) 48 (upd fbarSeen (Int32.toNatClampNeg (nI (12 * ru + bm ru))) nu__5)), (aI k (a 27) 48 fbarFrom), ((a 0), .inr (8, (fX8 a (nI tx) fp (nI t0__5) wd__3 (nI we__3) nu__5 (nI nq_6) (nI rd) ts (nI ru) (nI rw) (nI ca) df db sd))), (aI k (a 5) 240 ftext)] hP hD
        clear hP hD
        obtain ⟨hP, hD⟩ := hQ9
        rw [nI_clamp (n := (12 * ru + bm ru)) (by omega)] at hP hD
        have hQ9 := pd_mk [(aI k (a 25) 4 (nF bm)), (aI k (a 26) 48 (upd fbarSeen (12 * ru + bm ru) nu__5)), (aI k (a 27) 48 fbarFrom), ((a 0), .inr (8, (fX8 a (nI tx) fp (nI t0__5) wd__3 (nI we__3) nu__5 (nI nq_6) (nI rd) ts (nI ru) (nI rw) (nI ca) df db sd))), (aI k (a 5) 240 ftext)] hP hD
        clear hP hD
        obtain ⟨hP, hD⟩ := hQ9
        refine lv_aload_n hx hb dX8_takeSeen_101 rfl (lv_at hl 2 rfl) ?_
        refine lv_lload_n hx hb dX8_takeSeen_102 rfl (lv_at hl 3 rfl) ?_
        refine rw_i (D := D) (wr := [(aI k (a 25) 4 (nF bm)), (aI k (a 26) 48 (upd fbarSeen (12 * ru + bm ru) nu__5)), (aI k (a 27) 48 fbarFrom)]) (va_runV (As := [.long 131638]) (rest := []) ⟨hx, hb, hml, hown, hts⟩ ((n_needs l D k st lo a tx t0__5 we__3 rd ru rw ca fp wd__3 nu__5 (nI nq_6) ts df db sd ftext 131638 12 (by first | assumption | omega) (by first | assumption | omega) (by decide) (by decide +kernel)) H.size) (cwV 1 hts (gV tw_1169 tw_1171 tw_35 tw_87 tw_1172) rfl rfl rfl (by decide +kernel) ⟨Nat.le_of_ble_eq_true rfl, Nat.le_of_ble_eq_true rfl⟩) (pV hS hAlo hlo hP hK (va_Dlo hD hAlo) hZ [3, 4] (by decide) rfl (ci := 8) (q := (RX8, TX8, 44)) (q0 := 0) rfl rfl) rfl rfl hl.1 rfl (lv_room (Nat.le_of_ble_eq_true rfl)) dX8_takeSeen_103 ⟨Nat.le_of_ble_eq_true rfl, Nat.le_of_ble_eq_true rfl⟩) hS hA hP hD [3, 4] [0, 1, 2] rfl rfl (by decide) (by decide) (fun r_9 u H locs hw_9 hP hD hS => ?_)
        obtain ⟨t0__9, wd__9, we__9, fp__9⟩ := u
        have hQ9 := pd_mk [(aI k (a 25) 4 (nF bm)), (aI k (a 26) 48 (upd fbarSeen (12 * ru + bm ru) nu__5)), (aI k (a 27) 48 fbarFrom), ((a 0), .inr (8, (fX8 a (nI tx) fp__9 (nI t0__9) wd__9 (nI we__9) nu__5 (nI nq_6) (nI rd) ts (nI ru) (nI rw) (nI ca) df db sd))), (aI k (a 5) 240 ftext)] hP hD
        clear hP hD
        obtain ⟨hP, hD⟩ := hQ9
        try dsimp only at hw_9
        rcases hw_9 with ⟨⟨rfl, hq_10, hfp_10⟩ | ⟨rfl, pl_10, hq_10, rfl⟩, hw_9⟩
        · replace hfp_10 := hfp_10.symm
          subst hfp_10
          refine lv_istore_n (lv' := [(3, .int 0), (4, .int (nI (12 * ru + bm ru))), (0, .ref (a 0)), (1, .long 131638)]) hx hb dX8_takeSeen_106 rfl hl (by decide) rfl (fun ls hl => ?_)
          refine lv_iload_n hx hb dX8_takeSeen_107 rfl (lv_at hl 0 rfl) ?_
          refine lv_if_le (tgt := 115) hx hb dX8_takeSeen_108 (by decide) (fun _ => ?_) (fun h => absurd (by decide) h)
          refine lv_aload_n hx hb dX8_takeSeen_115 rfl (lv_at hl 2 rfl) ?_
          refine lv_iconst (v := 0) hx hb dX8_takeSeen_116 (by decide) ?_
          refine lv_bipush (v := 24) hx hb dX8_takeSeen_117 (by decide) ?_
          refine rw_i (D := D) (wr := [(aI k (a 25) 4 (nF bm)), (aI k (a 26) 48 (upd fbarSeen (12 * ru + bm ru) nu__5)), (aI k (a 27) 48 fbarFrom)]) (va_runV (As := [.int 0, .int 24]) (rest := []) ⟨hx, hb, hml, hown, hts⟩ ((n_takeNumber l D k st lo a tx t0__9 we__9 rd ru rw ca fp wd__9 nu__5 (nI nq_6) ts df db sd ftext 0 24 (by first | assumption | omega) (by first | assumption | omega)) H.size) (cwV 2 hts (gV tw_1159 tw_1161 tw_33 tw_87 tw_1162) rfl rfl rfl (by decide +kernel) ⟨Nat.le_of_ble_eq_true rfl, Nat.le_of_ble_eq_true rfl⟩) (pV hS hAlo hlo hP hK (va_Dlo hD hAlo) hZ [3, 4] (by decide) rfl (ci := 8) (q := (RX8, TX8, 44)) (q0 := 0) rfl rfl) rfl rfl hl.1 rfl (lv_room (Nat.le_of_ble_eq_true rfl)) dX8_takeSeen_119 ⟨Nat.le_of_ble_eq_true rfl, Nat.le_of_ble_eq_true rfl⟩) hS hA hP hD [3, 4] [0, 1, 2] rfl rfl (by decide) (by decide) (fun r_11 u H locs hw_11 hP hD hS => ?_)
          obtain ⟨t0__11, nu__11, na__11, fp__11⟩ := u
          have hQ9 := pd_mk [(aI k (a 25) 4 (nF bm)), (aI k (a 26) 48 (upd fbarSeen (12 * ru + bm ru) nu__5)), (aI k (a 27) 48 fbarFrom), ((a 0), .inr (8, (fX8 a (nI tx) fp__11 (nI t0__11) wd__9 (nI we__9) nu__11 na__11 (nI rd) ts (nI ru) (nI rw) (nI ca) df db sd))), (aI k (a 5) 240 ftext)] hP hD
          clear hP hD
          obtain ⟨hP, hD⟩ := hQ9
          try dsimp only at hw_11
          obtain ⟨nq_12, rfl, hq_12, hw_11⟩ := hw_11
          rcases hq_12 with ⟨rfl, hq_12, hfp_12⟩ | ⟨rfl, pl_12, hq_12, rfl⟩ | ⟨rfl, pl_12, hq_12, rfl⟩
          · replace hfp_12 := hfp_12.symm
            subst hfp_12
            refine lv_istore_n (lv' := [(3, .int 0), (4, .int (nI (12 * ru + bm ru))), (0, .ref (a 0)), (1, .long 131638)]) hx hb dX8_takeSeen_122 rfl hl (by decide) rfl (fun ls hl => ?_)
            refine lv_aload_n hx hb dX8_takeSeen_123 rfl (lv_at hl 2 rfl) ?_
            refine va_get (D := D) (ci := 8) (v := .ref (a 27)) (C := RX8) (T := TX8) (N := 44) hx hb hts inX8 hown hK hP 3 rfl rfl 26 (by decide) (hts _ tw_999) (fun _ h9 => h9) rfl dX8_takeSeen_124 ?_
            refine lv_iload hx hb dX8_takeSeen_127 (lv_at hl 1 rfl) ?_
            refine lv_aload_n hx hb dX8_takeSeen_129 rfl (lv_at hl 2 rfl) ?_
            refine va_get (D := D) (ci := 8) (v := .int nu__11) (C := RX8) (T := TX8) (N := 44) hx hb hts inX8 hown hK hP 3 rfl rfl 10 (by decide) (hts _ tw_983) (fun _ h9 => h9) rfl dX8_takeSeen_130 ?_
            refine va_iast hx hb hK hP hD hS 2 1 rfl rfl (vp_in_nI (by omega) (by decide)) dX8_takeSeen_133 (fun H locs hP hD hS => ?_)
            have hQ9 := pd_mk [(aI k (a 25) 4 (nF bm)), (aI k (a 26) 48 (upd fbarSeen (12 * ru + bm ru) nu__5)), (aI k (a 27) 48 (upd fbarFrom (Int32.toNatClampNeg (nI (12 * ru + bm ru))) nu__11)), ((a 0), .inr (8, (fX8 a (nI tx) fp (nI t0__11) wd__9 (nI we__9) nu__11 (nI nq_12) (nI rd) ts (nI ru) (nI rw) (nI ca) df db sd))), (aI k (a 5) 240 ftext)] hP hD
            clear hP hD
            obtain ⟨hP, hD⟩ := hQ9
            rw [nI_clamp (n := (12 * ru + bm ru)) (by omega)] at hP hD
            have hQ9 := pd_mk [(aI k (a 25) 4 (nF bm)), (aI k (a 26) 48 (upd fbarSeen (12 * ru + bm ru) nu__5)), (aI k (a 27) 48 (upd fbarFrom (12 * ru + bm ru) nu__11)), ((a 0), .inr (8, (fX8 a (nI tx) fp (nI t0__11) wd__9 (nI we__9) nu__11 (nI nq_12) (nI rd) ts (nI ru) (nI rw) (nI ca) df db sd))), (aI k (a 5) 240 ftext)] hP hD
            clear hP hD
            obtain ⟨hP, hD⟩ := hQ9
            refine lv_aload_n hx hb dX8_takeSeen_134 rfl (lv_at hl 2 rfl) ?_
            refine va_get (D := D) (ci := 8) (v := .ref (a 25)) (C := RX8) (T := TX8) (N := 44) hx hb hts inX8 hown hK hP 3 rfl rfl 24 (by decide) (hts _ tw_997) (fun _ h9 => h9) rfl dX8_takeSeen_135 ?_
            refine lv_aload_n hx hb dX8_takeSeen_138 rfl (lv_at hl 2 rfl) ?_
            refine va_get (D := D) (ci := 8) (v := .int (nI ru)) (C := RX8) (T := TX8) (N := 44) hx hb hts inX8 hown hK hP 3 rfl rfl 23 (by decide) (hts _ tw_996) (fun _ h9 => h9) rfl dX8_takeSeen_139 ?_
            refine lv_dup2_11 hx hb dX8_takeSeen_142 rfl rfl ?_
            refine va_iald hx hb hK hP 0 1 rfl rfl (vp_in_nI (by omega) (by decide)) dX8_takeSeen_143 ?_
            refine lv_ti (y := (nI (bm ru))) (by rw [nI_clamp (by omega)]; rfl) ?_
            refine lv_iconst (v := 1) hx hb dX8_takeSeen_144 (by decide) ?_
            refine lv_iadd hx hb dX8_takeSeen_145 ?_
            refine lv_ti (y := (nI (bm ru + 1))) (nI_add (bm ru) 1) ?_
            refine va_iast hx hb hK hP hD hS 0 1 rfl rfl (vp_in_nI (by omega) (by decide)) dX8_takeSeen_146 (fun H locs hP hD hS => ?_)
            have hQ9 := pd_mk [(aI k (a 25) 4 (upd (nF bm) (Int32.toNatClampNeg (nI ru)) (nI (bm ru + 1)))), (aI k (a 26) 48 (upd fbarSeen (12 * ru + bm ru) nu__5)), (aI k (a 27) 48 (upd fbarFrom (12 * ru + bm ru) nu__11)), ((a 0), .inr (8, (fX8 a (nI tx) fp (nI t0__11) wd__9 (nI we__9) nu__11 (nI nq_12) (nI rd) ts (nI ru) (nI rw) (nI ca) df db sd))), (aI k (a 5) 240 ftext)] hP hD
            clear hP hD
            obtain ⟨hP, hD⟩ := hQ9
            rw [nI_clamp (n := ru) (by omega)] at hP hD
            rw [show upd (nF bm) ru (nI (bm ru + 1)) = nF (fun j => if j = ru then bm ru + 1 else bm j) from nF_upd _ _ _] at hP hD
            obtain ⟨d_15, hd_15⟩ : ∃ z : Nat → Nat, z = (fun j => if j = ru then bm ru + 1 else bm j) := ⟨_, rfl⟩
            rw [← hd_15] at hP hD
            have hbb_15 : ∀ j, d_15 j ≤ 12 := by rw [hd_15]; exact up_le hbm (by omega)
            have hbu_15 : d_15 ru = bm ru + 1 := by rw [hd_15]; exact if_pos rfl
            refine lv_iload_n hx hb dX8_takeSeen_147 rfl (lv_at hl 0 rfl) ?_
            have hz0_9 := wdR_ge (i := 13) hq_4
            have hz1_9 := nuR_ge hq_6
            have hz2_9 := wdR_ge (i := 12) hq_10
            have hz3_9 := nuR_ge hq_12
            replace hz0_9 : _ + 4 ≤ _ := hz0_9
            replace hz2_9 : _ + 4 ≤ _ := hz2_9
            obtain ⟨hP9, hD9⟩ := pd_sub [((a 0), .inr (8, (fX8 a (nI tx) fp (nI t0__11) wd__9 (nI we__9) nu__11 (nI nq_12) (nI rd) ts (nI ru) (nI rw) (nI ca) df db sd))), (aI k (a 5) 240 ftext), (aI k (a 25) 4 (nF d_15)), (aI k (a 26) 48 (upd fbarSeen (12 * ru + bm ru) nu__5)), (aI k (a 27) 48 (upd fbarFrom (12 * ru + bm ru) nu__11))] [3, 4, 0, 1, 2] hP hD (by decide) rfl
            exact W.iret (v := 0) hx hb hr (fun t ht hW => ⟨⟨0, (t0__11, wd__9, we__9, fp, nu__11, (nI nq_12), d_15, (upd fbarSeen (12 * ru + bm ru) nu__5), (upd fbarFrom (12 * ru + bm ru) nu__11)), rfl, ⟨.inl ⟨rfl, nu__5, nu__11, (se_c hq_4).trans (ch_0 (cnt := bm ru - 1) (sn := (fun i => fbarSeen (12 * ru + 1 + i))) hq_6 (se_c1 (ru := ru) (f := fbarSeen) (show 1 ≤ bm ru by omega) c_7) hq_10 hq_12), hd_15, rfl, rfl, rfl⟩, (ruK_tr (ruK_s (by omega)) (ruK_tr (ruK_f (by omega)) (ruK_b hd_15))), by omega, by omega, hbb_15, fun _ => by omega⟩, by rw [ht]; exact hP9, hD9⟩, hS.F ht⟩) hS.2.2 dX8_takeSeen_148
          · refine lv_istore_n (lv' := [(3, .int 1), (4, .int (nI (12 * ru + bm ru))), (0, .ref (a 0)), (1, .long 131638)]) hx hb dX8_takeSeen_122 rfl hl (by decide) rfl (fun ls hl => ?_)
            refine lv_aload_n hx hb dX8_takeSeen_123 rfl (lv_at hl 2 rfl) ?_
            refine va_get (D := D) (ci := 8) (v := .ref (a 27)) (C := RX8) (T := TX8) (N := 44) hx hb hts inX8 hown hK hP 3 rfl rfl 26 (by decide) (hts _ tw_999) (fun _ h9 => h9) rfl dX8_takeSeen_124 ?_
            refine lv_iload hx hb dX8_takeSeen_127 (lv_at hl 1 rfl) ?_
            refine lv_aload_n hx hb dX8_takeSeen_129 rfl (lv_at hl 2 rfl) ?_
            refine va_get (D := D) (ci := 8) (v := .int nu__11) (C := RX8) (T := TX8) (N := 44) hx hb hts inX8 hown hK hP 3 rfl rfl 10 (by decide) (hts _ tw_983) (fun _ h9 => h9) rfl dX8_takeSeen_130 ?_
            refine va_iast hx hb hK hP hD hS 2 1 rfl rfl (vp_in_nI (by omega) (by decide)) dX8_takeSeen_133 (fun H locs hP hD hS => ?_)
            have hQ9 := pd_mk [(aI k (a 25) 4 (nF bm)), (aI k (a 26) 48 (upd fbarSeen (12 * ru + bm ru) nu__5)), (aI k (a 27) 48 (upd fbarFrom (Int32.toNatClampNeg (nI (12 * ru + bm ru))) nu__11)), ((a 0), .inr (8, (fX8 a (nI tx) (nI pl_12) (nI t0__11) wd__9 (nI we__9) nu__11 (nI nq_12) (nI rd) ts (nI ru) (nI rw) (nI ca) df db sd))), (aI k (a 5) 240 ftext)] hP hD
            clear hP hD
            obtain ⟨hP, hD⟩ := hQ9
            rw [nI_clamp (n := (12 * ru + bm ru)) (by omega)] at hP hD
            have hQ9 := pd_mk [(aI k (a 25) 4 (nF bm)), (aI k (a 26) 48 (upd fbarSeen (12 * ru + bm ru) nu__5)), (aI k (a 27) 48 (upd fbarFrom (12 * ru + bm ru) nu__11)), ((a 0), .inr (8, (fX8 a (nI tx) (nI pl_12) (nI t0__11) wd__9 (nI we__9) nu__11 (nI nq_12) (nI rd) ts (nI ru) (nI rw) (nI ca) df db sd))), (aI k (a 5) 240 ftext)] hP hD
            clear hP hD
            obtain ⟨hP, hD⟩ := hQ9
            refine lv_aload_n hx hb dX8_takeSeen_134 rfl (lv_at hl 2 rfl) ?_
            refine va_get (D := D) (ci := 8) (v := .ref (a 25)) (C := RX8) (T := TX8) (N := 44) hx hb hts inX8 hown hK hP 3 rfl rfl 24 (by decide) (hts _ tw_997) (fun _ h9 => h9) rfl dX8_takeSeen_135 ?_
            refine lv_aload_n hx hb dX8_takeSeen_138 rfl (lv_at hl 2 rfl) ?_
            refine va_get (D := D) (ci := 8) (v := .int (nI ru)) (C := RX8) (T := TX8) (N := 44) hx hb hts inX8 hown hK hP 3 rfl rfl 23 (by decide) (hts _ tw_996) (fun _ h9 => h9) rfl dX8_takeSeen_139 ?_
            refine lv_dup2_11 hx hb dX8_takeSeen_142 rfl rfl ?_
            refine va_iald hx hb hK hP 0 1 rfl rfl (vp_in_nI (by omega) (by decide)) dX8_takeSeen_143 ?_
            refine lv_ti (y := (nI (bm ru))) (by rw [nI_clamp (by omega)]; rfl) ?_
            refine lv_iconst (v := 1) hx hb dX8_takeSeen_144 (by decide) ?_
            refine lv_iadd hx hb dX8_takeSeen_145 ?_
            refine lv_ti (y := (nI (bm ru + 1))) (nI_add (bm ru) 1) ?_
            refine va_iast hx hb hK hP hD hS 0 1 rfl rfl (vp_in_nI (by omega) (by decide)) dX8_takeSeen_146 (fun H locs hP hD hS => ?_)
            have hQ9 := pd_mk [(aI k (a 25) 4 (upd (nF bm) (Int32.toNatClampNeg (nI ru)) (nI (bm ru + 1)))), (aI k (a 26) 48 (upd fbarSeen (12 * ru + bm ru) nu__5)), (aI k (a 27) 48 (upd fbarFrom (12 * ru + bm ru) nu__11)), ((a 0), .inr (8, (fX8 a (nI tx) (nI pl_12) (nI t0__11) wd__9 (nI we__9) nu__11 (nI nq_12) (nI rd) ts (nI ru) (nI rw) (nI ca) df db sd))), (aI k (a 5) 240 ftext)] hP hD
            clear hP hD
            obtain ⟨hP, hD⟩ := hQ9
            rw [nI_clamp (n := ru) (by omega)] at hP hD
            rw [show upd (nF bm) ru (nI (bm ru + 1)) = nF (fun j => if j = ru then bm ru + 1 else bm j) from nF_upd _ _ _] at hP hD
            obtain ⟨d_18, hd_18⟩ : ∃ z : Nat → Nat, z = (fun j => if j = ru then bm ru + 1 else bm j) := ⟨_, rfl⟩
            rw [← hd_18] at hP hD
            have hbb_18 : ∀ j, d_18 j ≤ 12 := by rw [hd_18]; exact up_le hbm (by omega)
            have hbu_18 : d_18 ru = bm ru + 1 := by rw [hd_18]; exact if_pos rfl
            refine lv_iload_n hx hb dX8_takeSeen_147 rfl (lv_at hl 0 rfl) ?_
            obtain ⟨hP9, hD9⟩ := pd_sub [((a 0), .inr (8, (fX8 a (nI tx) (nI pl_12) (nI t0__11) wd__9 (nI we__9) nu__11 (nI nq_12) (nI rd) ts (nI ru) (nI rw) (nI ca) df db sd))), (aI k (a 5) 240 ftext), (aI k (a 25) 4 (nF d_18)), (aI k (a 26) 48 (upd fbarSeen (12 * ru + bm ru) nu__5)), (aI k (a 27) 48 (upd fbarFrom (12 * ru + bm ru) nu__11))] [3, 4, 0, 1, 2] hP hD (by decide) rfl
            exact W.iret (v := 1) hx hb hr (fun t ht hW => ⟨⟨1, (t0__11, wd__9, we__9, (nI pl_12), nu__11, (nI nq_12), d_18, (upd fbarSeen (12 * ru + bm ru) nu__5), (upd fbarFrom (12 * ru + bm ru) nu__11)), rfl, ⟨.inr ⟨1, pl_12, rfl, by decide, by decide, (by rw [se_c hq_4]; exact (ch_4 (cnt := bm ru - 1) (sn := (fun i => fbarSeen (12 * ru + 1 + i))) hq_6 (se_c1 (ru := ru) (f := fbarSeen) (show 1 ≤ bm ru by omega) c_7) hq_10 hq_12 (by decide)).1), (by rw [se_c hq_4]; exact (ch_4 (cnt := bm ru - 1) (sn := (fun i => fbarSeen (12 * ru + 1 + i))) hq_6 (se_c1 (ru := ru) (f := fbarSeen) (show 1 ≤ bm ru by omega) c_7) hq_10 hq_12 (by decide)).2), rfl⟩, (ruK_tr (ruK_s (by omega)) (ruK_tr (ruK_f (by omega)) (ruK_b hd_18))), by omega, by omega, hbb_18, fun h => absurd h (by decide)⟩, by rw [ht]; exact hP9, hD9⟩, hS.F ht⟩) hS.2.2 dX8_takeSeen_148
          · refine lv_istore_n (lv' := [(3, .int 2), (4, .int (nI (12 * ru + bm ru))), (0, .ref (a 0)), (1, .long 131638)]) hx hb dX8_takeSeen_122 rfl hl (by decide) rfl (fun ls hl => ?_)
            refine lv_aload_n hx hb dX8_takeSeen_123 rfl (lv_at hl 2 rfl) ?_
            refine va_get (D := D) (ci := 8) (v := .ref (a 27)) (C := RX8) (T := TX8) (N := 44) hx hb hts inX8 hown hK hP 3 rfl rfl 26 (by decide) (hts _ tw_999) (fun _ h9 => h9) rfl dX8_takeSeen_124 ?_
            refine lv_iload hx hb dX8_takeSeen_127 (lv_at hl 1 rfl) ?_
            refine lv_aload_n hx hb dX8_takeSeen_129 rfl (lv_at hl 2 rfl) ?_
            refine va_get (D := D) (ci := 8) (v := .int nu__11) (C := RX8) (T := TX8) (N := 44) hx hb hts inX8 hown hK hP 3 rfl rfl 10 (by decide) (hts _ tw_983) (fun _ h9 => h9) rfl dX8_takeSeen_130 ?_
            refine va_iast hx hb hK hP hD hS 2 1 rfl rfl (vp_in_nI (by omega) (by decide)) dX8_takeSeen_133 (fun H locs hP hD hS => ?_)
            have hQ9 := pd_mk [(aI k (a 25) 4 (nF bm)), (aI k (a 26) 48 (upd fbarSeen (12 * ru + bm ru) nu__5)), (aI k (a 27) 48 (upd fbarFrom (Int32.toNatClampNeg (nI (12 * ru + bm ru))) nu__11)), ((a 0), .inr (8, (fX8 a (nI tx) (nI pl_12) (nI t0__11) wd__9 (nI we__9) nu__11 (nI nq_12) (nI rd) ts (nI ru) (nI rw) (nI ca) df db sd))), (aI k (a 5) 240 ftext)] hP hD
            clear hP hD
            obtain ⟨hP, hD⟩ := hQ9
            rw [nI_clamp (n := (12 * ru + bm ru)) (by omega)] at hP hD
            have hQ9 := pd_mk [(aI k (a 25) 4 (nF bm)), (aI k (a 26) 48 (upd fbarSeen (12 * ru + bm ru) nu__5)), (aI k (a 27) 48 (upd fbarFrom (12 * ru + bm ru) nu__11)), ((a 0), .inr (8, (fX8 a (nI tx) (nI pl_12) (nI t0__11) wd__9 (nI we__9) nu__11 (nI nq_12) (nI rd) ts (nI ru) (nI rw) (nI ca) df db sd))), (aI k (a 5) 240 ftext)] hP hD
            clear hP hD
            obtain ⟨hP, hD⟩ := hQ9
            refine lv_aload_n hx hb dX8_takeSeen_134 rfl (lv_at hl 2 rfl) ?_
            refine va_get (D := D) (ci := 8) (v := .ref (a 25)) (C := RX8) (T := TX8) (N := 44) hx hb hts inX8 hown hK hP 3 rfl rfl 24 (by decide) (hts _ tw_997) (fun _ h9 => h9) rfl dX8_takeSeen_135 ?_
            refine lv_aload_n hx hb dX8_takeSeen_138 rfl (lv_at hl 2 rfl) ?_
            refine va_get (D := D) (ci := 8) (v := .int (nI ru)) (C := RX8) (T := TX8) (N := 44) hx hb hts inX8 hown hK hP 3 rfl rfl 23 (by decide) (hts _ tw_996) (fun _ h9 => h9) rfl dX8_takeSeen_139 ?_
            refine lv_dup2_11 hx hb dX8_takeSeen_142 rfl rfl ?_
            refine va_iald hx hb hK hP 0 1 rfl rfl (vp_in_nI (by omega) (by decide)) dX8_takeSeen_143 ?_
            refine lv_ti (y := (nI (bm ru))) (by rw [nI_clamp (by omega)]; rfl) ?_
            refine lv_iconst (v := 1) hx hb dX8_takeSeen_144 (by decide) ?_
            refine lv_iadd hx hb dX8_takeSeen_145 ?_
            refine lv_ti (y := (nI (bm ru + 1))) (nI_add (bm ru) 1) ?_
            refine va_iast hx hb hK hP hD hS 0 1 rfl rfl (vp_in_nI (by omega) (by decide)) dX8_takeSeen_146 (fun H locs hP hD hS => ?_)
            have hQ9 := pd_mk [(aI k (a 25) 4 (upd (nF bm) (Int32.toNatClampNeg (nI ru)) (nI (bm ru + 1)))), (aI k (a 26) 48 (upd fbarSeen (12 * ru + bm ru) nu__5)), (aI k (a 27) 48 (upd fbarFrom (12 * ru + bm ru) nu__11)), ((a 0), .inr (8, (fX8 a (nI tx) (nI pl_12) (nI t0__11) wd__9 (nI we__9) nu__11 (nI nq_12) (nI rd) ts (nI ru) (nI rw) (nI ca) df db sd))), (aI k (a 5) 240 ftext)] hP hD
            clear hP hD
            obtain ⟨hP, hD⟩ := hQ9
            rw [nI_clamp (n := ru) (by omega)] at hP hD
            rw [show upd (nF bm) ru (nI (bm ru + 1)) = nF (fun j => if j = ru then bm ru + 1 else bm j) from nF_upd _ _ _] at hP hD
            obtain ⟨d_21, hd_21⟩ : ∃ z : Nat → Nat, z = (fun j => if j = ru then bm ru + 1 else bm j) := ⟨_, rfl⟩
            rw [← hd_21] at hP hD
            have hbb_21 : ∀ j, d_21 j ≤ 12 := by rw [hd_21]; exact up_le hbm (by omega)
            have hbu_21 : d_21 ru = bm ru + 1 := by rw [hd_21]; exact if_pos rfl
            refine lv_iload_n hx hb dX8_takeSeen_147 rfl (lv_at hl 0 rfl) ?_
            obtain ⟨hP9, hD9⟩ := pd_sub [((a 0), .inr (8, (fX8 a (nI tx) (nI pl_12) (nI t0__11) wd__9 (nI we__9) nu__11 (nI nq_12) (nI rd) ts (nI ru) (nI rw) (nI ca) df db sd))), (aI k (a 5) 240 ftext), (aI k (a 25) 4 (nF d_21)), (aI k (a 26) 48 (upd fbarSeen (12 * ru + bm ru) nu__5)), (aI k (a 27) 48 (upd fbarFrom (12 * ru + bm ru) nu__11))] [3, 4, 0, 1, 2] hP hD (by decide) rfl
            exact W.iret (v := 2) hx hb hr (fun t ht hW => ⟨⟨2, (t0__11, wd__9, we__9, (nI pl_12), nu__11, (nI nq_12), d_21, (upd fbarSeen (12 * ru + bm ru) nu__5), (upd fbarFrom (12 * ru + bm ru) nu__11)), rfl, ⟨.inr ⟨2, pl_12, rfl, by decide, by decide, (by rw [se_c hq_4]; exact (ch_4 (cnt := bm ru - 1) (sn := (fun i => fbarSeen (12 * ru + 1 + i))) hq_6 (se_c1 (ru := ru) (f := fbarSeen) (show 1 ≤ bm ru by omega) c_7) hq_10 hq_12 (by decide)).1), (by rw [se_c hq_4]; exact (ch_4 (cnt := bm ru - 1) (sn := (fun i => fbarSeen (12 * ru + 1 + i))) hq_6 (se_c1 (ru := ru) (f := fbarSeen) (show 1 ≤ bm ru by omega) c_7) hq_10 hq_12 (by decide)).2), rfl⟩, (ruK_tr (ruK_s (by omega)) (ruK_tr (ruK_f (by omega)) (ruK_b hd_21))), by omega, by omega, hbb_21, fun h => absurd h (by decide)⟩, by rw [ht]; exact hP9, hD9⟩, hS.F ht⟩) hS.2.2 dX8_takeSeen_148
        · refine lv_istore_n (lv' := [(3, .int 1), (4, .int (nI (12 * ru + bm ru))), (0, .ref (a 0)), (1, .long 131638)]) hx hb dX8_takeSeen_106 rfl hl (by decide) rfl (fun ls hl => ?_)
          refine lv_iload_n hx hb dX8_takeSeen_107 rfl (lv_at hl 0 rfl) ?_
          refine lv_if_le (tgt := 115) hx hb dX8_takeSeen_108 (by decide) (fun h => absurd h (by decide)) (fun _ => ?_)
          refine lv_iload_n hx hb dX8_takeSeen_111 rfl (lv_at hl 0 rfl) ?_
          refine lv_goto (tgt := 122) hx hb dX8_takeSeen_112 (by decide) ?_
          refine lv_istore_n (lv' := [(3, .int 1), (4, .int (nI (12 * ru + bm ru))), (0, .ref (a 0)), (1, .long 131638)]) hx hb dX8_takeSeen_122 rfl hl (by decide) rfl (fun ls hl => ?_)
          refine lv_aload_n hx hb dX8_takeSeen_123 rfl (lv_at hl 2 rfl) ?_
          refine va_get (D := D) (ci := 8) (v := .ref (a 27)) (C := RX8) (T := TX8) (N := 44) hx hb hts inX8 hown hK hP 3 rfl rfl 26 (by decide) (hts _ tw_999) (fun _ h9 => h9) rfl dX8_takeSeen_124 ?_
          refine lv_iload hx hb dX8_takeSeen_127 (lv_at hl 1 rfl) ?_
          refine lv_aload_n hx hb dX8_takeSeen_129 rfl (lv_at hl 2 rfl) ?_
          refine va_get (D := D) (ci := 8) (v := .int nu__5) (C := RX8) (T := TX8) (N := 44) hx hb hts inX8 hown hK hP 3 rfl rfl 10 (by decide) (hts _ tw_983) (fun _ h9 => h9) rfl dX8_takeSeen_130 ?_
          refine va_iast hx hb hK hP hD hS 2 1 rfl rfl (vp_in_nI (by omega) (by decide)) dX8_takeSeen_133 (fun H locs hP hD hS => ?_)
          have hQ9 := pd_mk [(aI k (a 25) 4 (nF bm)), (aI k (a 26) 48 (upd fbarSeen (12 * ru + bm ru) nu__5)), (aI k (a 27) 48 (upd fbarFrom (Int32.toNatClampNeg (nI (12 * ru + bm ru))) nu__5)), ((a 0), .inr (8, (fX8 a (nI tx) (nI pl_10) (nI t0__9) wd__9 (nI we__9) nu__5 (nI nq_6) (nI rd) ts (nI ru) (nI rw) (nI ca) df db sd))), (aI k (a 5) 240 ftext)] hP hD
          clear hP hD
          obtain ⟨hP, hD⟩ := hQ9
          rw [nI_clamp (n := (12 * ru + bm ru)) (by omega)] at hP hD
          have hQ9 := pd_mk [(aI k (a 25) 4 (nF bm)), (aI k (a 26) 48 (upd fbarSeen (12 * ru + bm ru) nu__5)), (aI k (a 27) 48 (upd fbarFrom (12 * ru + bm ru) nu__5)), ((a 0), .inr (8, (fX8 a (nI tx) (nI pl_10) (nI t0__9) wd__9 (nI we__9) nu__5 (nI nq_6) (nI rd) ts (nI ru) (nI rw) (nI ca) df db sd))), (aI k (a 5) 240 ftext)] hP hD
          clear hP hD
          obtain ⟨hP, hD⟩ := hQ9
          refine lv_aload_n hx hb dX8_takeSeen_134 rfl (lv_at hl 2 rfl) ?_
          refine va_get (D := D) (ci := 8) (v := .ref (a 25)) (C := RX8) (T := TX8) (N := 44) hx hb hts inX8 hown hK hP 3 rfl rfl 24 (by decide) (hts _ tw_997) (fun _ h9 => h9) rfl dX8_takeSeen_135 ?_
          refine lv_aload_n hx hb dX8_takeSeen_138 rfl (lv_at hl 2 rfl) ?_
          refine va_get (D := D) (ci := 8) (v := .int (nI ru)) (C := RX8) (T := TX8) (N := 44) hx hb hts inX8 hown hK hP 3 rfl rfl 23 (by decide) (hts _ tw_996) (fun _ h9 => h9) rfl dX8_takeSeen_139 ?_
          refine lv_dup2_11 hx hb dX8_takeSeen_142 rfl rfl ?_
          refine va_iald hx hb hK hP 0 1 rfl rfl (vp_in_nI (by omega) (by decide)) dX8_takeSeen_143 ?_
          refine lv_ti (y := (nI (bm ru))) (by rw [nI_clamp (by omega)]; rfl) ?_
          refine lv_iconst (v := 1) hx hb dX8_takeSeen_144 (by decide) ?_
          refine lv_iadd hx hb dX8_takeSeen_145 ?_
          refine lv_ti (y := (nI (bm ru + 1))) (nI_add (bm ru) 1) ?_
          refine va_iast hx hb hK hP hD hS 0 1 rfl rfl (vp_in_nI (by omega) (by decide)) dX8_takeSeen_146 (fun H locs hP hD hS => ?_)
          have hQ9 := pd_mk [(aI k (a 25) 4 (upd (nF bm) (Int32.toNatClampNeg (nI ru)) (nI (bm ru + 1)))), (aI k (a 26) 48 (upd fbarSeen (12 * ru + bm ru) nu__5)), (aI k (a 27) 48 (upd fbarFrom (12 * ru + bm ru) nu__5)), ((a 0), .inr (8, (fX8 a (nI tx) (nI pl_10) (nI t0__9) wd__9 (nI we__9) nu__5 (nI nq_6) (nI rd) ts (nI ru) (nI rw) (nI ca) df db sd))), (aI k (a 5) 240 ftext)] hP hD
          clear hP hD
          obtain ⟨hP, hD⟩ := hQ9
          rw [nI_clamp (n := ru) (by omega)] at hP hD
          rw [show upd (nF bm) ru (nI (bm ru + 1)) = nF (fun j => if j = ru then bm ru + 1 else bm j) from nF_upd _ _ _] at hP hD
          obtain ⟨d_24, hd_24⟩ : ∃ z : Nat → Nat, z = (fun j => if j = ru then bm ru + 1 else bm j) := ⟨_, rfl⟩
          rw [← hd_24] at hP hD
          have hbb_24 : ∀ j, d_24 j ≤ 12 := by rw [hd_24]; exact up_le hbm (by omega)
          have hbu_24 : d_24 ru = bm ru + 1 := by rw [hd_24]; exact if_pos rfl
          refine lv_iload_n hx hb dX8_takeSeen_147 rfl (lv_at hl 0 rfl) ?_
          obtain ⟨hP9, hD9⟩ := pd_sub [((a 0), .inr (8, (fX8 a (nI tx) (nI pl_10) (nI t0__9) wd__9 (nI we__9) nu__5 (nI nq_6) (nI rd) ts (nI ru) (nI rw) (nI ca) df db sd))), (aI k (a 5) 240 ftext), (aI k (a 25) 4 (nF d_24)), (aI k (a 26) 48 (upd fbarSeen (12 * ru + bm ru) nu__5)), (aI k (a 27) 48 (upd fbarFrom (12 * ru + bm ru) nu__5))] [3, 4, 0, 1, 2] hP hD (by decide) rfl
          exact W.iret (v := 1) hx hb hr (fun t ht hW => ⟨⟨1, (t0__9, wd__9, we__9, (nI pl_10), nu__5, (nI nq_6), d_24, (upd fbarSeen (12 * ru + bm ru) nu__5), (upd fbarFrom (12 * ru + bm ru) nu__5)), rfl, ⟨.inr ⟨1, pl_10, rfl, by decide, by decide, (by rw [se_c hq_4]; exact (ch_2 (cnt := bm ru - 1) (sn := (fun i => fbarSeen (12 * ru + 1 + i))) hq_6 (se_c1 (ru := ru) (f := fbarSeen) (show 1 ≤ bm ru by omega) c_7) hq_10 (by decide)).1), (by rw [se_c hq_4]; exact (ch_2 (cnt := bm ru - 1) (sn := (fun i => fbarSeen (12 * ru + 1 + i))) hq_6 (se_c1 (ru := ru) (f := fbarSeen) (show 1 ≤ bm ru by omega) c_7) hq_10 (by decide)).2), rfl⟩, (ruK_tr (ruK_s (by omega)) (ruK_tr (ruK_f (by omega)) (ruK_b hd_24))), by omega, by omega, hbb_24, fun h => absurd h (by decide)⟩, by rw [ht]; exact hP9, hD9⟩, hS.F ht⟩) hS.2.2 dX8_takeSeen_148
      · refine lv_aload_n hx hb dX8_takeSeen_74 rfl (lv_at hl 2 rfl) ?_
        refine lv_iconst (v := 3) hx hb dX8_takeSeen_75 (by decide) ?_
        refine lv_aload_n hx hb dX8_takeSeen_76 rfl (lv_at hl 2 rfl) ?_
        refine va_get (D := D) (ci := 8) (v := .int (nI nq_6)) (C := RX8) (T := TX8) (N := 44) hx hb hts inX8 hown hK hP 3 rfl rfl 11 (by decide) (hts _ tw_984) (fun _ h9 => h9) rfl dX8_takeSeen_77 ?_
        refine rw_i (D := D) (wr := [(aI k (a 25) 4 (nF bm)), (aI k (a 26) 48 fbarSeen), (aI k (a 27) 48 fbarFrom), (aI k (a 5) 240 ftext)]) (va_runV (As := [.int 3, .int (nI nq_6)]) (rest := []) ⟨hx, hb, hml, hown, hts⟩ ((n_fails l D k st lo a tx t0__5 we__3 rd ru rw ca fp wd__3 nu__5 (nI nq_6) ts df db sd 3 (nI nq_6)) H.size) (cwV 2 hts (gV tw_1151 tw_1153 tw_31 tw_87 tw_1154) rfl rfl rfl (by decide +kernel) ⟨Nat.le_of_ble_eq_true rfl, Nat.le_of_ble_eq_true rfl⟩) (pV hS hAlo hlo hP hK (va_Dlo hD hAlo) hZ [3] (by decide) rfl (ci := 8) (q := (RX8, TX8, 44)) (q0 := 0) rfl rfl) rfl rfl hl.1 rfl (lv_room (Nat.le_of_ble_eq_true rfl)) dX8_takeSeen_80 ⟨Nat.le_of_ble_eq_true rfl, Nat.le_of_ble_eq_true rfl⟩) hS hA hP hD [3] [0, 1, 2, 4] rfl rfl (by decide) (by decide) (fun r_25 u H locs hw_25 hP hD hS => ?_)
        obtain ⟨fp__25, rfl⟩ : ∃ z, z = u := ⟨_, rfl⟩
        have hQ9 := pd_mk [(aI k (a 25) 4 (nF bm)), (aI k (a 26) 48 fbarSeen), (aI k (a 27) 48 fbarFrom), (aI k (a 5) 240 ftext), ((a 0), .inr (8, (fX8 a (nI tx) fp__25 (nI t0__5) wd__3 (nI we__3) nu__5 (nI nq_6) (nI rd) ts (nI ru) (nI rw) (nI ca) df db sd)))] hP hD
        clear hP hD
        obtain ⟨hP, hD⟩ := hQ9
        try dsimp only at hw_25
        obtain ⟨hs0_26, hs1_26⟩ := hw_25
        replace hs0_26 := hs0_26.symm
        subst hs0_26
        replace hs1_26 := hs1_26.symm
        subst hs1_26
        refine lv_istore_n (lv' := [(3, .int 3), (4, .int (nI (12 * ru + bm ru))), (0, .ref (a 0)), (1, .long 131638)]) hx hb dX8_takeSeen_83 rfl hl (by decide) rfl (fun ls hl => ?_)
        refine lv_iload_n hx hb dX8_takeSeen_84 rfl (lv_at hl 0 rfl) ?_
        refine lv_if_le (tgt := 90) hx hb dX8_takeSeen_85 (by decide) (fun h => absurd h (by decide)) (fun _ => ?_)
        refine lv_iload_n hx hb dX8_takeSeen_88 rfl (lv_at hl 0 rfl) ?_
        obtain ⟨hP9, hD9⟩ := pd_sub [((a 0), .inr (8, (fX8 a (nI tx) (nI nq_6) (nI t0__5) wd__3 (nI we__3) nu__5 (nI nq_6) (nI rd) ts (nI ru) (nI rw) (nI ca) df db sd))), (aI k (a 5) 240 ftext), (aI k (a 25) 4 (nF bm)), (aI k (a 26) 48 fbarSeen), (aI k (a 27) 48 fbarFrom)] [4, 3, 0, 1, 2] hP hD (by decide) rfl
        exact W.iret (v := 3) hx hb hr (fun t ht hW => ⟨⟨3, (t0__5, wd__3, we__3, (nI nq_6), nu__5, (nI nq_6), bm, fbarSeen, fbarFrom), rfl, ⟨.inr ⟨3, nq_6, rfl, by decide, by decide, (by rw [se_c hq_4]; exact (ch_3 (cnt := bm ru - 1) (sn := (fun i => fbarSeen (12 * ru + 1 + i))) hq_6 (se_c0 (ru := ru) (f := fbarSeen) (show 1 ≤ bm ru by omega) hs0 (nuR_in hq_6).1 c_7)).1), (by rw [se_c hq_4]; exact (ch_3 (cnt := bm ru - 1) (sn := (fun i => fbarSeen (12 * ru + 1 + i))) hq_6 (se_c0 (ru := ru) (f := fbarSeen) (show 1 ≤ bm ru by omega) hs0 (nuR_in hq_6).1 c_7)).2), rfl⟩, ruK_rf, by omega, by omega, hbm, fun h => absurd h (by decide)⟩, by rw [ht]; exact hP9, hD9⟩, hS.F ht⟩) hS.2.2 dX8_takeSeen_89
    · refine lv_istore_n (lv' := [(3, .int 1), (0, .ref (a 0)), (1, .long 131638)]) hx hb dX8_takeSeen_34 rfl hl (by decide) rfl (fun ls hl => ?_)
      refine lv_bipush (v := 12) hx hb dX8_takeSeen_35 (by decide) ?_
      refine lv_aload_n hx hb dX8_takeSeen_37 rfl (lv_at hl 1 rfl) ?_
      refine va_get (D := D) (ci := 8) (v := .int (nI ru)) (C := RX8) (T := TX8) (N := 44) hx hb hts inX8 hown hK hP 3 rfl rfl 23 (by decide) (hts _ tw_996) (fun _ h9 => h9) rfl dX8_takeSeen_38 ?_
      refine lv_imul hx hb dX8_takeSeen_41 ?_
      refine lv_ti (y := (nI (12 * ru))) (pk_mul 12 ru) ?_
      refine lv_aload_n hx hb dX8_takeSeen_42 rfl (lv_at hl 1 rfl) ?_
      refine va_get (D := D) (ci := 8) (v := .ref (a 25)) (C := RX8) (T := TX8) (N := 44) hx hb hts inX8 hown hK hP 3 rfl rfl 24 (by decide) (hts _ tw_997) (fun _ h9 => h9) rfl dX8_takeSeen_43 ?_
      refine lv_aload_n hx hb dX8_takeSeen_46 rfl (lv_at hl 1 rfl) ?_
      refine va_get (D := D) (ci := 8) (v := .int (nI ru)) (C := RX8) (T := TX8) (N := 44) hx hb hts inX8 hown hK hP 3 rfl rfl 23 (by decide) (hts _ tw_996) (fun _ h9 => h9) rfl dX8_takeSeen_47 ?_
      refine va_iald hx hb hK hP 0 1 rfl rfl (vp_in_nI (by omega) (by decide)) dX8_takeSeen_50 ?_
      refine lv_ti (y := (nI (bm ru))) (by rw [nI_clamp (by omega)]; rfl) ?_
      refine lv_iadd hx hb dX8_takeSeen_51 ?_
      refine lv_ti (y := (nI (12 * ru + bm ru))) (nI_add (12 * ru) (bm ru)) ?_
      refine lv_istore (lv' := [(4, .int (nI (12 * ru + bm ru))), (3, .int 1), (0, .ref (a 0)), (1, .long 131638)]) hx hb dX8_takeSeen_52 hl (by decide) rfl (fun ls hl => ?_)
      refine lv_iload_n hx hb dX8_takeSeen_54 rfl (lv_at hl 1 rfl) ?_
      refine lv_if_ne (tgt := 84) hx hb dX8_takeSeen_55 (by decide) (fun _ => ?_) (fun h => absurd h (by decide))
      refine lv_iload_n hx hb dX8_takeSeen_84 rfl (lv_at hl 1 rfl) ?_
      refine lv_if_le (tgt := 90) hx hb dX8_takeSeen_85 (by decide) (fun h => absurd h (by decide)) (fun _ => ?_)
      refine lv_iload_n hx hb dX8_takeSeen_88 rfl (lv_at hl 1 rfl) ?_
      obtain ⟨hP9, hD9⟩ := pd_sub [((a 0), .inr (8, (fX8 a (nI tx) (nI pl_6) (nI t0__5) wd__3 (nI we__3) nu__5 (nI nq_6) (nI rd) ts (nI ru) (nI rw) (nI ca) df db sd))), (aI k (a 5) 240 ftext), (aI k (a 25) 4 (nF bm)), (aI k (a 26) 48 fbarSeen), (aI k (a 27) 48 fbarFrom)] [3, 4, 0, 1, 2] hP hD (by decide) rfl
      exact W.iret (v := 1) hx hb hr (fun t ht hW => ⟨⟨1, (t0__5, wd__3, we__3, (nI pl_6), nu__5, (nI nq_6), bm, fbarSeen, fbarFrom), rfl, ⟨.inr ⟨1, pl_6, rfl, by decide, by decide, (by rw [se_c hq_4]; exact (ch_1 (cnt := bm ru - 1) (sn := (fun i => fbarSeen (12 * ru + 1 + i))) hq_6 (by decide)).1), (by rw [se_c hq_4]; exact (ch_1 (cnt := bm ru - 1) (sn := (fun i => fbarSeen (12 * ru + 1 + i))) hq_6 (by decide)).2), rfl⟩, ruK_rf, by omega, by omega, hbm, fun h => absurd h (by decide)⟩, by rw [ht]; exact hP9, hD9⟩, hS.F ht⟩) hS.2.2 dX8_takeSeen_89
    · refine lv_istore_n (lv' := [(3, .int 2), (0, .ref (a 0)), (1, .long 131638)]) hx hb dX8_takeSeen_34 rfl hl (by decide) rfl (fun ls hl => ?_)
      refine lv_bipush (v := 12) hx hb dX8_takeSeen_35 (by decide) ?_
      refine lv_aload_n hx hb dX8_takeSeen_37 rfl (lv_at hl 1 rfl) ?_
      refine va_get (D := D) (ci := 8) (v := .int (nI ru)) (C := RX8) (T := TX8) (N := 44) hx hb hts inX8 hown hK hP 3 rfl rfl 23 (by decide) (hts _ tw_996) (fun _ h9 => h9) rfl dX8_takeSeen_38 ?_
      refine lv_imul hx hb dX8_takeSeen_41 ?_
      refine lv_ti (y := (nI (12 * ru))) (pk_mul 12 ru) ?_
      refine lv_aload_n hx hb dX8_takeSeen_42 rfl (lv_at hl 1 rfl) ?_
      refine va_get (D := D) (ci := 8) (v := .ref (a 25)) (C := RX8) (T := TX8) (N := 44) hx hb hts inX8 hown hK hP 3 rfl rfl 24 (by decide) (hts _ tw_997) (fun _ h9 => h9) rfl dX8_takeSeen_43 ?_
      refine lv_aload_n hx hb dX8_takeSeen_46 rfl (lv_at hl 1 rfl) ?_
      refine va_get (D := D) (ci := 8) (v := .int (nI ru)) (C := RX8) (T := TX8) (N := 44) hx hb hts inX8 hown hK hP 3 rfl rfl 23 (by decide) (hts _ tw_996) (fun _ h9 => h9) rfl dX8_takeSeen_47 ?_
      refine va_iald hx hb hK hP 0 1 rfl rfl (vp_in_nI (by omega) (by decide)) dX8_takeSeen_50 ?_
      refine lv_ti (y := (nI (bm ru))) (by rw [nI_clamp (by omega)]; rfl) ?_
      refine lv_iadd hx hb dX8_takeSeen_51 ?_
      refine lv_ti (y := (nI (12 * ru + bm ru))) (nI_add (12 * ru) (bm ru)) ?_
      refine lv_istore (lv' := [(4, .int (nI (12 * ru + bm ru))), (3, .int 2), (0, .ref (a 0)), (1, .long 131638)]) hx hb dX8_takeSeen_52 hl (by decide) rfl (fun ls hl => ?_)
      refine lv_iload_n hx hb dX8_takeSeen_54 rfl (lv_at hl 1 rfl) ?_
      refine lv_if_ne (tgt := 84) hx hb dX8_takeSeen_55 (by decide) (fun _ => ?_) (fun h => absurd h (by decide))
      refine lv_iload_n hx hb dX8_takeSeen_84 rfl (lv_at hl 1 rfl) ?_
      refine lv_if_le (tgt := 90) hx hb dX8_takeSeen_85 (by decide) (fun h => absurd h (by decide)) (fun _ => ?_)
      refine lv_iload_n hx hb dX8_takeSeen_88 rfl (lv_at hl 1 rfl) ?_
      obtain ⟨hP9, hD9⟩ := pd_sub [((a 0), .inr (8, (fX8 a (nI tx) (nI pl_6) (nI t0__5) wd__3 (nI we__3) nu__5 (nI nq_6) (nI rd) ts (nI ru) (nI rw) (nI ca) df db sd))), (aI k (a 5) 240 ftext), (aI k (a 25) 4 (nF bm)), (aI k (a 26) 48 fbarSeen), (aI k (a 27) 48 fbarFrom)] [3, 4, 0, 1, 2] hP hD (by decide) rfl
      exact W.iret (v := 2) hx hb hr (fun t ht hW => ⟨⟨2, (t0__5, wd__3, we__3, (nI pl_6), nu__5, (nI nq_6), bm, fbarSeen, fbarFrom), rfl, ⟨.inr ⟨2, pl_6, rfl, by decide, by decide, (by rw [se_c hq_4]; exact (ch_1 (cnt := bm ru - 1) (sn := (fun i => fbarSeen (12 * ru + 1 + i))) hq_6 (by decide)).1), (by rw [se_c hq_4]; exact (ch_1 (cnt := bm ru - 1) (sn := (fun i => fbarSeen (12 * ru + 1 + i))) hq_6 (by decide)).2), rfl⟩, ruK_rf, by omega, by omega, hbm, fun h => absurd h (by decide)⟩, by rw [ht]; exact hP9, hD9⟩, hS.F ht⟩) hS.2.2 dX8_takeSeen_89
  · refine lv_istore_n (lv' := [(3, .int 1), (0, .ref (a 0)), (1, .long 131638)]) hx hb dX8_takeSeen_18 rfl hl (by decide) rfl (fun ls hl => ?_)
    refine lv_iload_n hx hb dX8_takeSeen_19 rfl (lv_at hl 0 rfl) ?_
    refine lv_if_le (tgt := 27) hx hb dX8_takeSeen_20 (by decide) (fun h => absurd h (by decide)) (fun _ => ?_)
    refine lv_iload_n hx hb dX8_takeSeen_23 rfl (lv_at hl 0 rfl) ?_
    refine lv_goto (tgt := 34) hx hb dX8_takeSeen_24 (by decide) ?_
    refine lv_istore_n (lv' := [(3, .int 1), (0, .ref (a 0)), (1, .long 131638)]) hx hb dX8_takeSeen_34 rfl hl (by decide) rfl (fun ls hl => ?_)
    refine lv_bipush (v := 12) hx hb dX8_takeSeen_35 (by decide) ?_
    refine lv_aload_n hx hb dX8_takeSeen_37 rfl (lv_at hl 1 rfl) ?_
    refine va_get (D := D) (ci := 8) (v := .int (nI ru)) (C := RX8) (T := TX8) (N := 44) hx hb hts inX8 hown hK hP 3 rfl rfl 23 (by decide) (hts _ tw_996) (fun _ h9 => h9) rfl dX8_takeSeen_38 ?_
    refine lv_imul hx hb dX8_takeSeen_41 ?_
    refine lv_ti (y := (nI (12 * ru))) (pk_mul 12 ru) ?_
    refine lv_aload_n hx hb dX8_takeSeen_42 rfl (lv_at hl 1 rfl) ?_
    refine va_get (D := D) (ci := 8) (v := .ref (a 25)) (C := RX8) (T := TX8) (N := 44) hx hb hts inX8 hown hK hP 3 rfl rfl 24 (by decide) (hts _ tw_997) (fun _ h9 => h9) rfl dX8_takeSeen_43 ?_
    refine lv_aload_n hx hb dX8_takeSeen_46 rfl (lv_at hl 1 rfl) ?_
    refine va_get (D := D) (ci := 8) (v := .int (nI ru)) (C := RX8) (T := TX8) (N := 44) hx hb hts inX8 hown hK hP 3 rfl rfl 23 (by decide) (hts _ tw_996) (fun _ h9 => h9) rfl dX8_takeSeen_47 ?_
    refine va_iald hx hb hK hP 0 1 rfl rfl (vp_in_nI (by omega) (by decide)) dX8_takeSeen_50 ?_
    refine lv_ti (y := (nI (bm ru))) (by rw [nI_clamp (by omega)]; rfl) ?_
    refine lv_iadd hx hb dX8_takeSeen_51 ?_
    refine lv_ti (y := (nI (12 * ru + bm ru))) (nI_add (12 * ru) (bm ru)) ?_
    refine lv_istore (lv' := [(4, .int (nI (12 * ru + bm ru))), (3, .int 1), (0, .ref (a 0)), (1, .long 131638)]) hx hb dX8_takeSeen_52 hl (by decide) rfl (fun ls hl => ?_)
    refine lv_iload_n hx hb dX8_takeSeen_54 rfl (lv_at hl 1 rfl) ?_
    refine lv_if_ne (tgt := 84) hx hb dX8_takeSeen_55 (by decide) (fun _ => ?_) (fun h => absurd h (by decide))
    refine lv_iload_n hx hb dX8_takeSeen_84 rfl (lv_at hl 1 rfl) ?_
    refine lv_if_le (tgt := 90) hx hb dX8_takeSeen_85 (by decide) (fun h => absurd h (by decide)) (fun _ => ?_)
    refine lv_iload_n hx hb dX8_takeSeen_88 rfl (lv_at hl 1 rfl) ?_
    obtain ⟨hP9, hD9⟩ := pd_sub [((a 0), .inr (8, (fX8 a (nI tx) (nI pl_4) (nI t0__3) wd__3 (nI we__3) nu na (nI rd) ts (nI ru) (nI rw) (nI ca) df db sd))), (aI k (a 5) 240 ftext), (aI k (a 25) 4 (nF bm)), (aI k (a 26) 48 fbarSeen), (aI k (a 27) 48 fbarFrom)] [3, 4, 0, 1, 2] hP hD (by decide) rfl
    exact W.iret (v := 1) hx hb hr (fun t ht hW => ⟨⟨1, (t0__3, wd__3, we__3, (nI pl_4), nu, na, bm, fbarSeen, fbarFrom), rfl, ⟨.inr ⟨1, pl_4, rfl, by decide, by decide, (se_w (cnt := bm ru - 1) (sn := (fun i => fbarSeen (12 * ru + 1 + i))) hq_4 (by decide)).1, (se_w (cnt := bm ru - 1) (sn := (fun i => fbarSeen (12 * ru + 1 + i))) hq_4 (by decide)).2, rfl⟩, ruK_rf, by omega, by omega, hbm, fun h => absurd h (by decide)⟩, by rw [ht]; exact hP9, hD9⟩, hS.F ht⟩) hS.2.2 dX8_takeSeen_89


set_option maxHeartbeats 4000000 in
set_option maxRecDepth 100000 in
theorem n_takeRule (l : Launch) (D : va_G) (k : Nat → ClassId) (st : Nat → Nat) (lo : Nat) (a : Nat → Nat) (tx : Nat) (t0 : Nat) (we : Nat) (rd : Nat) (ru : Nat) (rw : Nat) (ca : Nat) (fp : Int32) (wd : Int64) (nu : Int32) (na : Int32) (ts : Int32) (df : Int32) (db : Int32) (sd : Int32) (ftext : Nat → Int32) (bm : Nat → Nat) (fbarSeen : Nat → Int32) (fbarFrom : Nat → Int32) (fruleRounds : Nat → Int32) (ht : t0 ≤ tx) (htx : tx ≤ 240) (hbm : ∀ j, bm j ≤ 12) (hru3 : ru ≤ 3) (hx80 : tx ≤ 80) (hty : ∀ j, 0 ≤ ftext j) : CWi l D k st lo yX8_takeRule cX8_takeRule 5 (some .int) ({ frames := 4, cells := 0, slots := 0, locals := 98 }) 0 0 [.ref (a 0)] [((a 0), .inr (8, (fX8 a (nI tx) fp (nI t0) wd (nI we) nu na (nI rd) ts (nI ru) (nI rw) (nI ca) df db sd))), (aI k (a 5) 240 ftext), (aI k (a 25) 4 (nF bm)), (aI k (a 26) 48 fbarSeen), (aI k (a 27) 48 fbarFrom), (aI k (a 28) 4 fruleRounds)] (fun (r : Int32) (u : Nat × Int64 × Nat × Int32 × Int32 × Int32 × (Nat → Nat) × (Nat → Int32) × (Nat → Int32) × (Nat → Int32)) => match u with | (t0_, wd_, we_, fp_, nu_, na_, bm_, fbarSeen_, fbarFrom_, fruleRounds_) => ((r = 0 ∧ ruF ftext tx t0 = (0, 0, ruM bm_ fbarSeen_ fbarFrom_ fruleRounds_ ru) ∧ fp_ = fp) ∨ (∃ e pl : Nat, r = nI e ∧ 1 ≤ e ∧ e ≤ 4 ∧ (ruF ftext tx t0).1 = e ∧ (ruF ftext tx t0).2.1 = pl ∧ fp_ = nI pl)) ∧ (∀ q, q < ru → ruM bm_ fbarSeen_ fbarFrom_ fruleRounds_ q = ruM bm fbarSeen fbarFrom fruleRounds q) ∧ (∀ j, bm_ j ≤ 12)) (fun (u : Nat × Int64 × Nat × Int32 × Int32 × Int32 × (Nat → Nat) × (Nat → Int32) × (Nat → Int32) × (Nat → Int32)) => match u with | (t0_, wd_, we_, fp_, nu_, na_, bm_, fbarSeen_, fbarFrom_, fruleRounds_) => [((a 0), .inr (8, (fX8 a (nI tx) fp_ (nI t0_) wd_ (nI we_) nu_ na_ (nI rd) ts (nI ru) (nI rw) (nI ca) df db sd))), (aI k (a 5) 240 ftext), (aI k (a 25) 4 (nF bm_)), (aI k (a 26) 48 fbarSeen_), (aI k (a 27) 48 fbarFrom_), (aI k (a 28) 4 fruleRounds_)]) := by
  intro sz
  refine Met.ofW (cc := cX8_takeRule) (maxL := 5) (ret := (some .int)) (by decide) rfl ?_
  intro p e s m args below meth c s₁ B hml hv
  obtain ⟨rfl, hsz, hlo, hP, hK, hDL, hZ⟩ := hv
  have hx := B.exec
  have hb := B.bytes
  have hr := B.returns
  have hts := WS_ts B.pre
  have hown : s.vm.findClass RX8 = some m.cls := findClass_of_methodNamed B.named
  have hlocks := B.notSynchronized
  subst hsz
  have hD := hDL.self (sz := s.heap.size)
  have hAlo := A_lo hDL hlo
  generalize hAe : va_A [((a 0), .inr (8, (fX8 a (nI tx) fp (nI t0) wd (nI we) nu na (nI rd) ts (nI ru) (nI rw) (nI ca) df db sd))), (aI k (a 5) 240 ftext), (aI k (a 25) 4 (nF bm)), (aI k (a 26) 48 fbarSeen), (aI k (a 27) 48 fbarFrom), (aI k (a 28) 4 fruleRounds)] s.heap.size = A at hD hAlo ⊢
  have hA : ∀ q : Nat, s.heap.size ≤ q → A q := fun q h => by rw [← hAe]; exact Or.inr h
  have hS : va_S A s.heap s.heap [] := va_S.rf
  have hl := lv_entry ([.ref (a 0)]) (n := 5) (Nat.le_of_ble_eq_true rfl)
  rw [lg_entry_eq]
  generalize (lg_sl ([.ref (a 0)]) ++ List.replicate (5 - (lg_sl ([.ref (a 0)])).length) Slot.unset).toArray = ls at hl ⊢
  have hl : lv_has ls 5 [(0, .ref (a 0))] := hl
  refine lv_bipush (v := 102) hx hb dX8_takeRule_0 (by decide) ?_
  refine lv_bipush (v := 114) hx hb dX8_takeRule_2 (by decide) ?_
  refine lv_bipush (v := 111) hx hb dX8_takeRule_4 (by decide) ?_
  refine ro_l (D := D) (va_runS (As := [.int 102, .int 114, .int 111]) (rest := []) ⟨hx, hb, hml, hown, hts⟩ ((n_code l D k st lo 102 114 111) s.heap.size) (va_cwS 3 hts (gS tw_1142 tw_1143 tw_87 tw_1144) rfl rfl rfl (by decide +kernel) ⟨Nat.le_of_ble_eq_true rfl, Nat.le_of_ble_eq_true rfl⟩) (pS hS hAlo hlo hP hK (va_Dlo hD hAlo) hZ [] (by decide) rfl) rfl rfl hl.1 rfl (lv_room (Nat.le_of_ble_eq_true rfl)) dX8_takeRule_6 ⟨Nat.le_of_ble_eq_true rfl, Nat.le_of_ble_eq_true rfl⟩) hS hA hP (fun r_1 H locs hw_1 hP hS => ?_)
  try dsimp only at hw_1
  obtain rfl : r_1 = 4875 := hw_1.trans (by decide)
  refine lv_bipush (v := 109) hx hb dX8_takeRule_9 (by decide) ?_
  refine ro_l (D := D) (va_runS (As := [.long 4875, .int 109]) (rest := []) ⟨hx, hb, hml, hown, hts⟩ ((n_longer l D k st lo 4875 109) H.size) (va_cwS 2 hts (gS tw_1148 tw_1149 tw_87 tw_1150) rfl rfl rfl (by decide +kernel) ⟨Nat.le_of_ble_eq_true rfl, Nat.le_of_ble_eq_true rfl⟩) (pS hS hAlo hlo hP hK (va_Dlo hD hAlo) hZ [] (by decide) rfl) rfl rfl hl.1 rfl (lv_room (Nat.le_of_ble_eq_true rfl)) dX8_takeRule_11 ⟨Nat.le_of_ble_eq_true rfl, Nat.le_of_ble_eq_true rfl⟩) hS hA hP (fun r_2 H locs hw_2 hP hS => ?_)
  try dsimp only at hw_2
  obtain rfl : r_2 = 131638 := hw_2.trans (by decide)
  refine lv_lstore_n (lv' := [(1, .long 131638), (0, .ref (a 0))]) hx hb dX8_takeRule_14 rfl hl (by decide) rfl (fun ls hl => ?_)
  refine lv_aload_n hx hb dX8_takeRule_15 rfl (lv_at hl 1 rfl) ?_
  refine lv_lload_n hx hb dX8_takeRule_16 rfl (lv_at hl 0 rfl) ?_
  refine rw_i (D := D) (wr := [(aI k (a 25) 4 (nF bm)), (aI k (a 26) 48 fbarSeen), (aI k (a 27) 48 fbarFrom), (aI k (a 28) 4 fruleRounds)]) (va_runV (As := [.long 131638]) (rest := []) ⟨hx, hb, hml, hown, hts⟩ ((n_needs l D k st lo a tx t0 we rd ru rw ca fp wd nu na ts df db sd ftext 131638 12 (by first | assumption | omega) (by first | assumption | omega) (by decide) (by decide +kernel)) H.size) (cwV 1 hts (gV tw_1169 tw_1171 tw_35 tw_87 tw_1172) rfl rfl rfl (by decide +kernel) ⟨Nat.le_of_ble_eq_true rfl, Nat.le_of_ble_eq_true rfl⟩) (pV hS hAlo hlo hP hK (va_Dlo hD hAlo) hZ [0, 1] (by decide) rfl (ci := 8) (q := (RX8, TX8, 44)) (q0 := 0) rfl rfl) rfl rfl hl.1 rfl (lv_room (Nat.le_of_ble_eq_true rfl)) dX8_takeRule_17 ⟨Nat.le_of_ble_eq_true rfl, Nat.le_of_ble_eq_true rfl⟩) hS hA hP hD [0, 1] [2, 3, 4, 5] rfl rfl (by decide) (by decide) (fun r_3 u H locs hw_3 hP hD hS => ?_)
  obtain ⟨t0__3, wd__3, we__3, fp__3⟩ := u
  have hQ9 := pd_mk [(aI k (a 25) 4 (nF bm)), (aI k (a 26) 48 fbarSeen), (aI k (a 27) 48 fbarFrom), (aI k (a 28) 4 fruleRounds), ((a 0), .inr (8, (fX8 a (nI tx) fp__3 (nI t0__3) wd__3 (nI we__3) nu na (nI rd) ts (nI ru) (nI rw) (nI ca) df db sd))), (aI k (a 5) 240 ftext)] hP hD
  clear hP hD
  obtain ⟨hP, hD⟩ := hQ9
  try dsimp only at hw_3
  rcases hw_3 with ⟨⟨rfl, hq_4, hfp_4⟩ | ⟨rfl, pl_4, hq_4, rfl⟩, hw_3⟩
  · replace hfp_4 := hfp_4.symm
    subst hfp_4
    refine lv_istore_n (lv' := [(3, .int 0), (1, .long 131638), (0, .ref (a 0))]) hx hb dX8_takeRule_20 rfl hl (by decide) rfl (fun ls hl => ?_)
    refine lv_iload_n hx hb dX8_takeRule_21 rfl (lv_at hl 0 rfl) ?_
    refine lv_if_le (tgt := 29) hx hb dX8_takeRule_22 (by decide) (fun _ => ?_) (fun h => absurd (by decide) h)
    refine lv_aload_n hx hb dX8_takeRule_29 rfl (lv_at hl 2 rfl) ?_
    refine lv_iconst (v := 0) hx hb dX8_takeRule_30 (by decide) ?_
    refine lv_bipush (v := 24) hx hb dX8_takeRule_31 (by decide) ?_
    refine rw_i (D := D) (wr := [(aI k (a 25) 4 (nF bm)), (aI k (a 26) 48 fbarSeen), (aI k (a 27) 48 fbarFrom), (aI k (a 28) 4 fruleRounds)]) (va_runV (As := [.int 0, .int 24]) (rest := []) ⟨hx, hb, hml, hown, hts⟩ ((n_takeNumber l D k st lo a tx t0__3 we__3 rd ru rw ca fp wd__3 nu na ts df db sd ftext 0 24 (by first | assumption | omega) (by first | assumption | omega)) H.size) (cwV 2 hts (gV tw_1159 tw_1161 tw_33 tw_87 tw_1162) rfl rfl rfl (by decide +kernel) ⟨Nat.le_of_ble_eq_true rfl, Nat.le_of_ble_eq_true rfl⟩) (pV hS hAlo hlo hP hK (va_Dlo hD hAlo) hZ [4, 5] (by decide) rfl (ci := 8) (q := (RX8, TX8, 44)) (q0 := 0) rfl rfl) rfl rfl hl.1 rfl (lv_room (Nat.le_of_ble_eq_true rfl)) dX8_takeRule_33 ⟨Nat.le_of_ble_eq_true rfl, Nat.le_of_ble_eq_true rfl⟩) hS hA hP hD [4, 5] [0, 1, 2, 3] rfl rfl (by decide) (by decide) (fun r_5 u H locs hw_5 hP hD hS => ?_)
    obtain ⟨t0__5, nu__5, na__5, fp__5⟩ := u
    have hQ9 := pd_mk [(aI k (a 25) 4 (nF bm)), (aI k (a 26) 48 fbarSeen), (aI k (a 27) 48 fbarFrom), (aI k (a 28) 4 fruleRounds), ((a 0), .inr (8, (fX8 a (nI tx) fp__5 (nI t0__5) wd__3 (nI we__3) nu__5 na__5 (nI rd) ts (nI ru) (nI rw) (nI ca) df db sd))), (aI k (a 5) 240 ftext)] hP hD
    clear hP hD
    obtain ⟨hP, hD⟩ := hQ9
    try dsimp only at hw_5
    obtain ⟨nq_6, rfl, hq_6, hw_5⟩ := hw_5
    rcases hq_6 with ⟨rfl, hq_6, hfp_6⟩ | ⟨rfl, pl_6, hq_6, rfl⟩ | ⟨rfl, pl_6, hq_6, rfl⟩
    · replace hfp_6 := hfp_6.symm
      subst hfp_6
      refine lv_istore_n (lv' := [(3, .int 0), (1, .long 131638), (0, .ref (a 0))]) hx hb dX8_takeRule_36 rfl hl (by decide) rfl (fun ls hl => ?_)
      have hH_7 : ruH ftext tx t0 = (0, 0, t0__5, nu__5) := by simp [ruH, hq_4, hq_6, -List.getD_eq_getElem?_getD]
      have hz1_7 := wdR_ge (i := 12) hq_4
      replace hz1_7 : _ + 4 ≤ _ := hz1_7
      have hz2_7 := nuR_ge hq_6
      refine lv_aload_n hx hb dX8_takeRule_37 rfl (lv_at hl 2 rfl) ?_
      refine va_get (D := D) (ci := 8) (v := .ref (a 26)) (C := RX8) (T := TX8) (N := 44) hx hb hts inX8 hown hK hP 4 rfl rfl 25 (by decide) (hts _ tw_998) (fun _ h9 => h9) rfl dX8_takeRule_38 ?_
      refine lv_bipush (v := 12) hx hb dX8_takeRule_41 (by decide) ?_
      refine lv_aload_n hx hb dX8_takeRule_43 rfl (lv_at hl 2 rfl) ?_
      refine va_get (D := D) (ci := 8) (v := .int (nI ru)) (C := RX8) (T := TX8) (N := 44) hx hb hts inX8 hown hK hP 4 rfl rfl 23 (by decide) (hts _ tw_996) (fun _ h9 => h9) rfl dX8_takeRule_44 ?_
      refine lv_imul hx hb dX8_takeRule_47 ?_
      refine lv_ti (y := (nI (12 * ru))) (pk_mul 12 ru) ?_
      refine lv_iconst (v := 0) hx hb dX8_takeRule_48 (by decide) ?_
      refine va_iast hx hb hK hP hD hS 1 1 rfl rfl (vp_in_nI (by omega) (by decide)) dX8_takeRule_49 (fun H locs hP hD hS => ?_)
      have hQ9 := pd_mk [(aI k (a 25) 4 (nF bm)), (aI k (a 26) 48 (upd fbarSeen (Int32.toNatClampNeg (nI (12 * ru))) 0)), (aI k (a 27) 48 fbarFrom), (aI k (a 28) 4 fruleRounds), ((a 0), .inr (8, (fX8 a (nI tx) fp (nI t0__5) wd__3 (nI we__3) nu__5 (nI nq_6) (nI rd) ts (nI ru) (nI rw) (nI ca) df db sd))), (aI k (a 5) 240 ftext)] hP hD
      clear hP hD
      obtain ⟨hP, hD⟩ := hQ9
      rw [nI_clamp (n := (12 * ru)) (by omega)] at hP hD
      have hQ9 := pd_mk [(aI k (a 25) 4 (nF bm)), (aI k (a 26) 48 (upd fbarSeen (12 * ru) 0)), (aI k (a 27) 48 fbarFrom), (aI k (a 28) 4 fruleRounds), ((a 0), .inr (8, (fX8 a (nI tx) fp (nI t0__5) wd__3 (nI we__3) nu__5 (nI nq_6) (nI rd) ts (nI ru) (nI rw) (nI ca) df db sd))), (aI k (a 5) 240 ftext)] hP hD
      clear hP hD
      obtain ⟨hP, hD⟩ := hQ9
      refine lv_aload_n hx hb dX8_takeRule_50 rfl (lv_at hl 2 rfl) ?_
      refine va_get (D := D) (ci := 8) (v := .ref (a 27)) (C := RX8) (T := TX8) (N := 44) hx hb hts inX8 hown hK hP 4 rfl rfl 26 (by decide) (hts _ tw_999) (fun _ h9 => h9) rfl dX8_takeRule_51 ?_
      refine lv_bipush (v := 12) hx hb dX8_takeRule_54 (by decide) ?_
      refine lv_aload_n hx hb dX8_takeRule_56 rfl (lv_at hl 2 rfl) ?_
      refine va_get (D := D) (ci := 8) (v := .int (nI ru)) (C := RX8) (T := TX8) (N := 44) hx hb hts inX8 hown hK hP 4 rfl rfl 23 (by decide) (hts _ tw_996) (fun _ h9 => h9) rfl dX8_takeRule_57 ?_
      refine lv_imul hx hb dX8_takeRule_60 ?_
      refine lv_ti (y := (nI (12 * ru))) (pk_mul 12 ru) ?_
      refine lv_aload_n hx hb dX8_takeRule_61 rfl (lv_at hl 2 rfl) ?_
      refine va_get (D := D) (ci := 8) (v := .int nu__5) (C := RX8) (T := TX8) (N := 44) hx hb hts inX8 hown hK hP 4 rfl rfl 10 (by decide) (hts _ tw_983) (fun _ h9 => h9) rfl dX8_takeRule_62 ?_
      refine va_iast hx hb hK hP hD hS 2 1 rfl rfl (vp_in_nI (by omega) (by decide)) dX8_takeRule_65 (fun H locs hP hD hS => ?_)
      have hQ9 := pd_mk [(aI k (a 25) 4 (nF bm)), (aI k (a 26) 48 (upd fbarSeen (12 * ru) 0)), (aI k (a 27) 48 (upd fbarFrom (Int32.toNatClampNeg (nI (12 * ru))) nu__5)), (aI k (a 28) 4 fruleRounds), ((a 0), .inr (8, (fX8 a (nI tx) fp (nI t0__5) wd__3 (nI we__3) nu__5 (nI nq_6) (nI rd) ts (nI ru) (nI rw) (nI ca) df db sd))), (aI k (a 5) 240 ftext)] hP hD
      clear hP hD
      obtain ⟨hP, hD⟩ := hQ9
      rw [nI_clamp (n := (12 * ru)) (by omega)] at hP hD
      have hQ9 := pd_mk [(aI k (a 25) 4 (nF bm)), (aI k (a 26) 48 (upd fbarSeen (12 * ru) 0)), (aI k (a 27) 48 (upd fbarFrom (12 * ru) nu__5)), (aI k (a 28) 4 fruleRounds), ((a 0), .inr (8, (fX8 a (nI tx) fp (nI t0__5) wd__3 (nI we__3) nu__5 (nI nq_6) (nI rd) ts (nI ru) (nI rw) (nI ca) df db sd))), (aI k (a 5) 240 ftext)] hP hD
      clear hP hD
      obtain ⟨hP, hD⟩ := hQ9
      refine lv_aload_n hx hb dX8_takeRule_66 rfl (lv_at hl 2 rfl) ?_
      refine va_get (D := D) (ci := 8) (v := .ref (a 25)) (C := RX8) (T := TX8) (N := 44) hx hb hts inX8 hown hK hP 4 rfl rfl 24 (by decide) (hts _ tw_997) (fun _ h9 => h9) rfl dX8_takeRule_67 ?_
      refine lv_aload_n hx hb dX8_takeRule_70 rfl (lv_at hl 2 rfl) ?_
      refine va_get (D := D) (ci := 8) (v := .int (nI ru)) (C := RX8) (T := TX8) (N := 44) hx hb hts inX8 hown hK hP 4 rfl rfl 23 (by decide) (hts _ tw_996) (fun _ h9 => h9) rfl dX8_takeRule_71 ?_
      refine lv_iconst (v := 1) hx hb dX8_takeRule_74 (by decide) ?_
      refine va_iast hx hb hK hP hD hS 0 1 rfl rfl (vp_in_nI (by omega) (by decide)) dX8_takeRule_75 (fun H locs hP hD hS => ?_)
      have hQ9 := pd_mk [(aI k (a 25) 4 (upd (nF bm) (Int32.toNatClampNeg (nI ru)) 1)), (aI k (a 26) 48 (upd fbarSeen (12 * ru) 0)), (aI k (a 27) 48 (upd fbarFrom (12 * ru) nu__5)), (aI k (a 28) 4 fruleRounds), ((a 0), .inr (8, (fX8 a (nI tx) fp (nI t0__5) wd__3 (nI we__3) nu__5 (nI nq_6) (nI rd) ts (nI ru) (nI rw) (nI ca) df db sd))), (aI k (a 5) 240 ftext)] hP hD
      clear hP hD
      obtain ⟨hP, hD⟩ := hQ9
      rw [nI_clamp (n := ru) (by omega)] at hP hD
      rw [show upd (nF bm) ru 1 = nF (fun j => if j = ru then 1 else bm j) from nF_upd _ _ _] at hP hD
      obtain ⟨d_11, hd_11⟩ : ∃ z : Nat → Nat, z = (fun j => if j = ru then 1 else bm j) := ⟨_, rfl⟩
      rw [← hd_11] at hP hD
      have hbb_11 : ∀ j, d_11 j ≤ 12 := by rw [hd_11]; exact up_le hbm (by omega)
      have hbu_11 : d_11 ru = 1 := by rw [hd_11]; exact if_pos rfl
      refine lv_aload_n hx hb dX8_takeRule_76 rfl (lv_at hl 2 rfl) ?_
      refine va_get (D := D) (ci := 8) (v := .ref (a 28)) (C := RX8) (T := TX8) (N := 44) hx hb hts inX8 hown hK hP 4 rfl rfl 27 (by decide) (hts _ tw_1000) (fun _ h9 => h9) rfl dX8_takeRule_77 ?_
      refine lv_aload_n hx hb dX8_takeRule_80 rfl (lv_at hl 2 rfl) ?_
      refine va_get (D := D) (ci := 8) (v := .int (nI ru)) (C := RX8) (T := TX8) (N := 44) hx hb hts inX8 hown hK hP 4 rfl rfl 23 (by decide) (hts _ tw_996) (fun _ h9 => h9) rfl dX8_takeRule_81 ?_
      refine lv_iconst (v := 0) hx hb dX8_takeRule_84 (by decide) ?_
      refine va_iast hx hb hK hP hD hS 3 1 rfl rfl (vp_in_nI (by omega) (by decide)) dX8_takeRule_85 (fun H locs hP hD hS => ?_)
      have hQ9 := pd_mk [(aI k (a 25) 4 (nF d_11)), (aI k (a 26) 48 (upd fbarSeen (12 * ru) 0)), (aI k (a 27) 48 (upd fbarFrom (12 * ru) nu__5)), (aI k (a 28) 4 (upd fruleRounds (Int32.toNatClampNeg (nI ru)) 0)), ((a 0), .inr (8, (fX8 a (nI tx) fp (nI t0__5) wd__3 (nI we__3) nu__5 (nI nq_6) (nI rd) ts (nI ru) (nI rw) (nI ca) df db sd))), (aI k (a 5) 240 ftext)] hP hD
      clear hP hD
      obtain ⟨hP, hD⟩ := hQ9
      rw [nI_clamp (n := ru) (by omega)] at hP hD
      have hQ9 := pd_mk [(aI k (a 25) 4 (nF d_11)), (aI k (a 26) 48 (upd fbarSeen (12 * ru) 0)), (aI k (a 27) 48 (upd fbarFrom (12 * ru) nu__5)), (aI k (a 28) 4 (upd fruleRounds ru 0)), ((a 0), .inr (8, (fX8 a (nI tx) fp (nI t0__5) wd__3 (nI we__3) nu__5 (nI nq_6) (nI rd) ts (nI ru) (nI rw) (nI ca) df db sd))), (aI k (a 5) 240 ftext)] hP hD
      clear hP hD
      obtain ⟨hP, hD⟩ := hQ9
      obtain ⟨fs_13, hfs_13⟩ : ∃ z : Nat → Int32, z = (upd fbarSeen (12 * ru) 0) := ⟨_, rfl⟩
      obtain ⟨ff_13, hff_13⟩ : ∃ z : Nat → Int32, z = (upd fbarFrom (12 * ru) nu__5) := ⟨_, rfl⟩
      obtain ⟨rr_13, hrr_13⟩ : ∃ z : Nat → Int32, z = (upd fruleRounds ru 0) := ⟨_, rfl⟩
      rw [← hfs_13, ← hff_13, ← hrr_13] at hP hD
      have hK0_13 : ruK ru bm d_11 fbarSeen fs_13 fbarFrom ff_13 := by rw [hfs_13, hff_13]; exact ruK_tr (ruK_s (by omega)) (ruK_tr (ruK_f (by omega)) (ruK_b hd_11))
      have hb0_13 : d_11 ru = 1 := by rw [hd_11]; exact if_pos rfl
      have hs0_13 : fs_13 (12 * ru) = 0 := by rw [hfs_13]; exact pk_us
      have hf0_13 : ff_13 (12 * ru) = nu__5 := by rw [hff_13]; exact pk_us
      have hr0_13 : rr_13 ru = 0 := by rw [hrr_13]; exact pk_us
      have hrk_13 : ∀ q, q ≠ ru → rr_13 q = fruleRounds q := by rw [hrr_13]; exact fun q hq => pk_un hq
      refine lv_iload_n hx hb dX8_takeRule_86 rfl (lv_at hl 0 rfl) ?_
      refine lv_if_ne (tgt := 101) hx hb dX8_takeRule_87 (by decide) (fun h => absurd (by decide) h) (fun _ => ?_)
      refine lv_aload_n hx hb dX8_takeRule_90 rfl (lv_at hl 2 rfl) ?_
      refine rw_i (D := D) (wr := [(aI k (a 25) 4 (nF d_11)), (aI k (a 26) 48 fs_13), (aI k (a 27) 48 ff_13), (aI k (a 28) 4 rr_13)]) (va_runV (As := []) (rest := []) ⟨hx, hb, hml, hown, hts⟩ ((n_here l D k st lo a tx t0__5 we__3 rd ru rw ca fp wd__3 nu__5 (nI nq_6) ts df db sd ftext (by first | assumption | omega) (by first | assumption | omega)) H.size) (cwV 0 hts (gV tw_1120 tw_1122 tw_27 tw_87 tw_1123) rfl rfl rfl (by decide +kernel) ⟨Nat.le_of_ble_eq_true rfl, Nat.le_of_ble_eq_true rfl⟩) (pV hS hAlo hlo hP hK (va_Dlo hD hAlo) hZ [4, 5] (by decide) rfl (ci := 8) (q := (RX8, TX8, 44)) (q0 := 0) rfl rfl) rfl rfl hl.1 rfl (lv_room (Nat.le_of_ble_eq_true rfl)) dX8_takeRule_91 ⟨Nat.le_of_ble_eq_true rfl, Nat.le_of_ble_eq_true rfl⟩) hS hA hP hD [4, 5] [0, 1, 2, 3] rfl rfl (by decide) (by decide) (fun r_14 u H locs hw_14 hP hD hS => ?_)
      obtain ⟨t0__14, rfl⟩ : ∃ z, z = u := ⟨_, rfl⟩
      have hQ9 := pd_mk [(aI k (a 25) 4 (nF d_11)), (aI k (a 26) 48 fs_13), (aI k (a 27) 48 ff_13), (aI k (a 28) 4 rr_13), ((a 0), .inr (8, (fX8 a (nI tx) fp (nI t0__14) wd__3 (nI we__3) nu__5 (nI nq_6) (nI rd) ts (nI ru) (nI rw) (nI ca) df db sd))), (aI k (a 5) 240 ftext)] hP hD
      clear hP hD
      obtain ⟨hP, hD⟩ := hQ9
      try dsimp only at hw_14
      refine lv_if_lt (tgt := 101) hx hb dX8_takeRule_94 (by decide) (fun c_15 => ?_) (fun c_15 => ?_)
      · have hge_16 := by_neg hty hw_14.2.1 c_15
        refine lv_iconst (v := 0) hx hb dX8_takeRule_101 (by decide) ?_
        refine lv_istore (lv' := [(4, .int 0), (3, .int 0), (1, .long 131638), (0, .ref (a 0))]) hx hb dX8_takeRule_102 hl (by decide) rfl (fun ls hl => ?_)
        refine lv_iload hx hb dX8_takeRule_104 (lv_at hl 0 rfl) ?_
        refine lv_if_eq (tgt := 198) hx hb dX8_takeRule_106 (by decide) (fun _ => ?_) (fun h => absurd (by decide) h)
        refine lv_iload_n hx hb dX8_takeRule_198 rfl (lv_at hl 1 rfl) ?_
        refine lv_if_le (tgt := 206) hx hb dX8_takeRule_199 (by decide) (fun _ => ?_) (fun h => absurd (by decide) h)
        refine lv_aload_n hx hb dX8_takeRule_206 rfl (lv_at hl 3 rfl) ?_
        refine rw_i (D := D) (wr := [(aI k (a 25) 4 (nF d_11)), (aI k (a 26) 48 fs_13), (aI k (a 27) 48 ff_13), (aI k (a 28) 4 rr_13)]) (va_runV (As := []) (rest := []) ⟨hx, hb, hml, hown, hts⟩ ((n_here l D k st lo a tx t0__14 we__3 rd ru rw ca fp wd__3 nu__5 (nI nq_6) ts df db sd ftext (by first | assumption | omega) (by first | assumption | omega)) H.size) (cwV 0 hts (gV tw_1120 tw_1122 tw_27 tw_87 tw_1123) rfl rfl rfl (by decide +kernel) ⟨Nat.le_of_ble_eq_true rfl, Nat.le_of_ble_eq_true rfl⟩) (pV hS hAlo hlo hP hK (va_Dlo hD hAlo) hZ [4, 5] (by decide) rfl (ci := 8) (q := (RX8, TX8, 44)) (q0 := 0) rfl rfl) rfl rfl hl.1 rfl (lv_room (Nat.le_of_ble_eq_true rfl)) dX8_takeRule_207 ⟨Nat.le_of_ble_eq_true rfl, Nat.le_of_ble_eq_true rfl⟩) hS hA hP hD [4, 5] [0, 1, 2, 3] rfl rfl (by decide) (by decide) (fun r_17 u H locs hw_17 hP hD hS => ?_)
        obtain ⟨t0__17, rfl⟩ : ∃ z, z = u := ⟨_, rfl⟩
        have hQ9 := pd_mk [(aI k (a 25) 4 (nF d_11)), (aI k (a 26) 48 fs_13), (aI k (a 27) 48 ff_13), (aI k (a 28) 4 rr_13), ((a 0), .inr (8, (fX8 a (nI tx) fp (nI t0__17) wd__3 (nI we__3) nu__5 (nI nq_6) (nI rd) ts (nI ru) (nI rw) (nI ca) df db sd))), (aI k (a 5) 240 ftext)] hP hD
        clear hP hD
        obtain ⟨hP, hD⟩ := hQ9
        try dsimp only at hw_17
        refine lv_if_lt (tgt := 225) hx hb dX8_takeRule_210 (by decide) (fun c_18 => ?_) (fun c_18 => ?_)
        · refine lv_iconst (v := 0) hx hb dX8_takeRule_225 (by decide) ?_
          obtain ⟨hP9, hD9⟩ := pd_sub [((a 0), .inr (8, (fX8 a (nI tx) fp (nI t0__17) wd__3 (nI we__3) nu__5 (nI nq_6) (nI rd) ts (nI ru) (nI rw) (nI ca) df db sd))), (aI k (a 5) 240 ftext), (aI k (a 25) 4 (nF d_11)), (aI k (a 26) 48 fs_13), (aI k (a 27) 48 ff_13), (aI k (a 28) 4 rr_13)] [4, 5, 0, 1, 2, 3] hP hD (by decide) rfl
          exact W.iret (v := 0) hx hb hr (fun t ht hW => ⟨⟨0, (t0__17, wd__3, we__3, fp, nu__5, (nI nq_6), d_11, fs_13, ff_13, rr_13), rfl, ⟨.inl ⟨rfl, (rf_o hH_7 (rl_end (show ¬ skA ftext tx t0__5 < tx by rw [← hw_14.1]; exact hge_16))).trans (by unfold ruM; rw [hf0_13, hb0_13, hr0_13, clp_0, clp_0]; rfl), rfl⟩, fun q hq => ruM_K hK0_13 hrk_13 hbm hq, hbb_11⟩, by rw [ht]; exact hP9, hD9⟩, hS.F ht⟩) hS.2.2 dX8_takeRule_226
        · have hlz_19 := by_pos hw_17.2.1 c_18
          rw [hw_17.1, hw_14.1, skA_idem] at hlz_19
          exact absurd hlz_19 (by rw [← hw_14.1]; exact hge_16)
      · have hlt_20 := by_pos hw_14.2.1 c_15
        refine lv_iconst (v := 1) hx hb dX8_takeRule_97 (by decide) ?_
        refine lv_goto (tgt := 102) hx hb dX8_takeRule_98 (by decide) ?_
        refine lv_istore (lv' := [(4, .int 1), (3, .int 0), (1, .long 131638), (0, .ref (a 0))]) hx hb dX8_takeRule_102 hl (by decide) rfl (fun ls hl => ?_)
        refine W_loop (σ := Nat × Int64 × Nat × Int32 × Int32 × Int32 × (Nat → Int32) × (Nat → Int32) × (Nat → Nat)) (fun (n_ : Nat) (x_ : Nat × Int64 × Nat × Int32 × Int32 × Int32 × (Nat → Int32) × (Nat → Int32) × (Nat → Nat)) (H : Heap) (locs : List Loc) (ls : Array Slot) => match x_ with | (t_21, wd2_21, we2_21, fp2_21, nu2_21, na2_21, fs2_21, ff2_21, b2_21) => n_ = tx - t_21 ∧ (t_21 ≤ tx ∧ skA ftext tx t_21 < tx ∧ 1 ≤ b2_21 ru ∧ 8 * b2_21 ru ≤ t_21 + 4 ∧ (∀ j, b2_21 j ≤ 12) ∧ fp2_21 = fp ∧ fs2_21 (12 * ru) = 0 ∧ ff2_21 (12 * ru) = nu__5 ∧ ruK ru bm b2_21 fbarSeen fs2_21 fbarFrom ff2_21 ∧ ruL ftext tx (25 - b2_21 ru) t_21 (b2_21 ru - 1, clp (b2_21 ru - 1) (fun i => fs2_21 (12 * ru + 1 + i)), clp (b2_21 ru - 1) (fun i => ff2_21 (12 * ru + 1 + i))) = (ruL ftext tx 24 t0__5 ru0)) ∧ va_P D classes [(aI k (a 25) 4 (nF b2_21)), (aI k (a 26) 48 fs2_21), (aI k (a 27) 48 ff2_21), (aI k (a 28) 4 rr_13), ((a 0), .inr (8, (fX8 a (nI tx) fp2_21 (nI t_21) wd2_21 (nI we2_21) nu2_21 na2_21 (nI rd) ts (nI ru) (nI rw) (nI ca) df db sd))), (aI k (a 5) 240 ftext)] H ∧ va_D A [(aI k (a 25) 4 (nF b2_21)), (aI k (a 26) 48 fs2_21), (aI k (a 27) 48 ff2_21), (aI k (a 28) 4 rr_13), ((a 0), .inr (8, (fX8 a (nI tx) fp2_21 (nI t_21) wd2_21 (nI we2_21) nu2_21 na2_21 (nI rd) ts (nI ru) (nI rw) (nI ca) df db sd))), (aI k (a 5) 240 ftext)] ∧ va_S A s.heap H locs ∧ lv_has ls 5 [(4, .int 1), (1, .long 131638), (0, .ref (a 0))]) (fun n_21 x_21 H locs ls hI ih_21 => ?_) _ (t0__14, wd__3, we__3, fp, nu__5, (nI nq_6), fs_13, ff_13, d_11) ⟨rfl, ⟨by omega, (by rw [hw_14.1, skA_idem, ← hw_14.1]; exact hlt_20), by omega, by omega, hbb_11, rfl, hs0_13, hf0_13, hK0_13, by rw [hb0_13, hw_14.1, ruL_sk, clp_0, clp_0]; rfl⟩, hP, hD, hS, (lv_sub hl [0, 2, 3] rfl)⟩
        obtain ⟨t_21, wd2_21, we2_21, fp2_21, nu2_21, na2_21, fs2_21, ff2_21, b2_21⟩ := x_21
        obtain ⟨hm_21, hv_21, hP, hD, hS, hl⟩ := hI
        subst hm_21
        have hbl_21 := hv_21.2.2.2.2.1
        have hst_21 := hv_21.2.2.2.2.2.2.2.2.2
        obtain rfl : fp = fp2_21 := (hv_21.2.2.2.2.2.1).symm
        refine lv_iload hx hb dX8_takeRule_104 (lv_at hl 0 rfl) ?_
        refine lv_if_eq (tgt := 198) hx hb dX8_takeRule_106 (by decide) (fun h => absurd h (by decide)) (fun _ => ?_)
        refine lv_aload_n hx hb dX8_takeRule_109 rfl (lv_at hl 2 rfl) ?_
        refine rw_v (D := D) (wr := [(aI k (a 25) 4 (nF b2_21)), (aI k (a 26) 48 fs2_21), (aI k (a 27) 48 ff2_21), (aI k (a 28) 4 rr_13)]) (va_runV (As := []) (rest := []) ⟨hx, hb, hml, hown, hts⟩ ((n_readWord l D k st lo a tx t_21 we2_21 rd ru rw ca fp wd2_21 nu2_21 na2_21 ts df db sd ftext (by first | assumption | omega) (by first | assumption | omega)) H.size) (cwV 0 hts (gV tw_1128 tw_1130 tw_29 tw_87 tw_1131) rfl rfl rfl (by decide +kernel) ⟨Nat.le_of_ble_eq_true rfl, Nat.le_of_ble_eq_true rfl⟩) (pV hS hAlo hlo hP hK (va_Dlo hD hAlo) hZ [4, 5] (by decide) rfl (ci := 8) (q := (RX8, TX8, 44)) (q0 := 0) rfl rfl) rfl rfl hl.1 rfl (lv_room (Nat.le_of_ble_eq_true rfl)) dX8_takeRule_110 ⟨Nat.le_of_ble_eq_true rfl, Nat.le_of_ble_eq_true rfl⟩) hS hA hP hD [4, 5] [0, 1, 2, 3] rfl rfl (by decide) (by decide) (fun u H locs hw_22 hP hD hS => ?_)
        obtain ⟨t0__22, wd__22, we__22⟩ := u
        have hQ9 := pd_mk [(aI k (a 25) 4 (nF b2_21)), (aI k (a 26) 48 fs2_21), (aI k (a 27) 48 ff2_21), (aI k (a 28) 4 rr_13), ((a 0), .inr (8, (fX8 a (nI tx) fp (nI t0__22) wd__22 (nI we__22) nu2_21 na2_21 (nI rd) ts (nI ru) (nI rw) (nI ca) df db sd))), (aI k (a 5) 240 ftext)] hP hD
        clear hP hD
        obtain ⟨hP, hD⟩ := hQ9
        try dsimp only at hw_22
        refine lv_aload_n hx hb dX8_takeRule_113 rfl (lv_at hl 2 rfl) ?_
        refine va_get (D := D) (ci := 8) (v := .long wd__22) (C := RX8) (T := TX8) (N := 44) hx hb hts inX8 hown hK hP 4 rfl rfl 8 (by decide) (hts _ tw_981) (fun _ h9 => h9) rfl dX8_takeRule_114 ?_
        refine lv_bipush (v := 114) hx hb dX8_takeRule_117 (by decide) ?_
        refine lv_bipush (v := 111) hx hb dX8_takeRule_119 (by decide) ?_
        refine lv_bipush (v := 117) hx hb dX8_takeRule_121 (by decide) ?_
        refine ro_l (D := D) (va_runS (As := [.int 114, .int 111, .int 117]) (rest := [.long wd__22]) ⟨hx, hb, hml, hown, hts⟩ ((n_code l D k st lo 114 111 117) H.size) (va_cwS 3 hts (gS tw_1142 tw_1143 tw_87 tw_1144) rfl rfl rfl (by decide +kernel) ⟨Nat.le_of_ble_eq_true rfl, Nat.le_of_ble_eq_true rfl⟩) (pS hS hAlo hlo hP hK (va_Dlo hD hAlo) hZ [] (by decide) rfl) rfl rfl hl.1 rfl (lv_room (Nat.le_of_ble_eq_true rfl)) dX8_takeRule_123 ⟨Nat.le_of_ble_eq_true rfl, Nat.le_of_ble_eq_true rfl⟩) hS hA hP (fun r_23 H locs hw_23 hP hS => ?_)
        try dsimp only at hw_23
        obtain rfl : r_23 = 13548 := hw_23.trans (by decide)
        refine lv_bipush (v := 110) hx hb dX8_takeRule_126 (by decide) ?_
        refine lv_bipush (v := 100) hx hb dX8_takeRule_128 (by decide) ?_
        refine ro_l (D := D) (va_runS (As := [.long 13548, .int 110, .int 100]) (rest := [.long wd__22]) ⟨hx, hb, hml, hown, hts⟩ ((n_longest l D k st lo 13548 110 100) H.size) (va_cwS 3 hts (gS tw_1145 tw_1146 tw_87 tw_1147) rfl rfl rfl (by decide +kernel) ⟨Nat.le_of_ble_eq_true rfl, Nat.le_of_ble_eq_true rfl⟩) (pS hS hAlo hlo hP hK (va_Dlo hD hAlo) hZ [] (by decide) rfl) rfl rfl hl.1 rfl (lv_room (Nat.le_of_ble_eq_true rfl)) dX8_takeRule_130 ⟨Nat.le_of_ble_eq_true rfl, Nat.le_of_ble_eq_true rfl⟩) hS hA hP (fun r_24 H locs hw_24 hP hS => ?_)
        try dsimp only at hw_24
        obtain rfl : r_24 = 9876874 := hw_24.trans (by decide)
        refine W.lcmp hx hb dX8_takeRule_133 ?_
        refine lv_if_ne (tgt := 171) hx hb dX8_takeRule_134 (by decide) (fun c_25 => ?_) (fun c_25 => ?_)
        · have hnr_26 : ¬ letA ftext tx t0__22 = (sByt.getD 7 []) := fun h => lgn c_25 ((wd_ro letA_all hw_22.2.2.1).mpr h)
          refine lv_aload_n hx hb dX8_takeRule_171 rfl (lv_at hl 2 rfl) ?_
          refine lv_lload_n hx hb dX8_takeRule_172 rfl (lv_at hl 1 rfl) ?_
          refine rw_i (D := D) (wr := [(aI k (a 28) 4 rr_13)]) (va_runV (As := [.long 131638]) (rest := []) ⟨hx, hb, hml, hown, hts⟩ ((n_takeSeen l D k st lo a tx t0__22 we__22 rd ru rw ca fp wd__22 nu2_21 na2_21 ts df db sd ftext b2_21 fs2_21 ff2_21 (by first | assumption | omega) (by first | assumption | omega) hbl_21 (by first | assumption | omega) (by first | assumption | omega) hv_21.2.2.2.2.2.2.1) H.size) (cwV 1 hts (gV tw_1313 tw_1315 tw_56 tw_87 tw_1316) rfl rfl rfl (by decide +kernel) ⟨Nat.le_of_ble_eq_true rfl, Nat.le_of_ble_eq_true rfl⟩) (pV hS hAlo hlo hP hK (va_Dlo hD hAlo) hZ [4, 5, 0, 1, 2] (by decide) rfl (ci := 8) (q := (RX8, TX8, 44)) (q0 := 0) rfl rfl) rfl rfl hl.1 rfl (lv_room (Nat.le_of_ble_eq_true rfl)) dX8_takeRule_173 ⟨Nat.le_of_ble_eq_true rfl, Nat.le_of_ble_eq_true rfl⟩) hS hA hP hD [4, 5, 0, 1, 2] [3] rfl rfl (by decide) (by decide) (fun r_27 u H locs hw_27 hP hD hS => ?_)
          obtain ⟨t0__27, wd__27, we__27, fp__27, nu__27, na__27, bm__27, fbarSeen__27, fbarFrom__27⟩ := u
          have hQ9 := pd_mk [(aI k (a 28) 4 rr_13), ((a 0), .inr (8, (fX8 a (nI tx) fp__27 (nI t0__27) wd__27 (nI we__27) nu__27 na__27 (nI rd) ts (nI ru) (nI rw) (nI ca) df db sd))), (aI k (a 5) 240 ftext), (aI k (a 25) 4 (nF bm__27)), (aI k (a 26) 48 fbarSeen__27), (aI k (a 27) 48 fbarFrom__27)] hP hD
          clear hP hD
          obtain ⟨hP, hD⟩ := hQ9
          try dsimp only at hw_27
          rcases hw_27 with ⟨⟨rfl, v1_28, v3_28, hd_28, hbq_28, hfs_28, hff_28, hfp_28⟩ | ⟨e_28, pl_28, rfl, he1_28, he2_28, hp1_28, hp2_28, rfl⟩, hK_28, hw_27⟩
          · replace hfp_28 := hfp_28.symm
            subst hfp_28
            have hgt_28 := hw_27.2.2.2 rfl
            refine lv_istore_n (lv' := [(3, .int 0), (4, .int 1), (1, .long 131638), (0, .ref (a 0))]) hx hb dX8_takeRule_176 rfl hl (by decide) rfl (fun ls hl => ?_)
            refine lv_iload_n hx hb dX8_takeRule_177 rfl (lv_at hl 0 rfl) ?_
            refine lv_if_ne (tgt := 192) hx hb dX8_takeRule_178 (by decide) (fun h => absurd (by decide) h) (fun _ => ?_)
            refine lv_aload_n hx hb dX8_takeRule_181 rfl (lv_at hl 3 rfl) ?_
            refine rw_i (D := D) (wr := [(aI k (a 28) 4 rr_13), (aI k (a 25) 4 (nF bm__27)), (aI k (a 26) 48 fbarSeen__27), (aI k (a 27) 48 fbarFrom__27)]) (va_runV (As := []) (rest := []) ⟨hx, hb, hml, hown, hts⟩ ((n_here l D k st lo a tx t0__27 we__27 rd ru rw ca fp wd__27 nu__27 na__27 ts df db sd ftext (by first | assumption | omega) (by first | assumption | omega)) H.size) (cwV 0 hts (gV tw_1120 tw_1122 tw_27 tw_87 tw_1123) rfl rfl rfl (by decide +kernel) ⟨Nat.le_of_ble_eq_true rfl, Nat.le_of_ble_eq_true rfl⟩) (pV hS hAlo hlo hP hK (va_Dlo hD hAlo) hZ [1, 2] (by decide) rfl (ci := 8) (q := (RX8, TX8, 44)) (q0 := 0) rfl rfl) rfl rfl hl.1 rfl (lv_room (Nat.le_of_ble_eq_true rfl)) dX8_takeRule_182 ⟨Nat.le_of_ble_eq_true rfl, Nat.le_of_ble_eq_true rfl⟩) hS hA hP hD [1, 2] [0, 3, 4, 5] rfl rfl (by decide) (by decide) (fun r_29 u H locs hw_29 hP hD hS => ?_)
            obtain ⟨t0__29, rfl⟩ : ∃ z, z = u := ⟨_, rfl⟩
            have hQ9 := pd_mk [(aI k (a 28) 4 rr_13), (aI k (a 25) 4 (nF bm__27)), (aI k (a 26) 48 fbarSeen__27), (aI k (a 27) 48 fbarFrom__27), ((a 0), .inr (8, (fX8 a (nI tx) fp (nI t0__29) wd__27 (nI we__27) nu__27 na__27 (nI rd) ts (nI ru) (nI rw) (nI ca) df db sd))), (aI k (a 5) 240 ftext)] hP hD
            clear hP hD
            obtain ⟨hP, hD⟩ := hQ9
            try dsimp only at hw_29
            refine lv_if_lt (tgt := 192) hx hb dX8_takeRule_185 (by decide) (fun c_30 => ?_) (fun c_30 => ?_)
            · have hge_31 := by_neg hty hw_29.2.1 c_30
              refine lv_iconst (v := 0) hx hb dX8_takeRule_192 (by decide) ?_
              refine lv_istore (lv' := [(4, .int 0), (3, .int 0), (1, .long 131638), (0, .ref (a 0))]) hx hb dX8_takeRule_193 hl (by decide) rfl (fun ls hl => ?_)
              refine lv_goto (tgt := 104) hx hb dX8_takeRule_195 (by decide) ?_
              refine lv_iload hx hb dX8_takeRule_104 (lv_at hl 0 rfl) ?_
              refine lv_if_eq (tgt := 198) hx hb dX8_takeRule_106 (by decide) (fun _ => ?_) (fun h => absurd (by decide) h)
              refine lv_iload_n hx hb dX8_takeRule_198 rfl (lv_at hl 1 rfl) ?_
              refine lv_if_le (tgt := 206) hx hb dX8_takeRule_199 (by decide) (fun _ => ?_) (fun h => absurd (by decide) h)
              refine lv_aload_n hx hb dX8_takeRule_206 rfl (lv_at hl 3 rfl) ?_
              refine rw_i (D := D) (wr := [(aI k (a 28) 4 rr_13), (aI k (a 25) 4 (nF bm__27)), (aI k (a 26) 48 fbarSeen__27), (aI k (a 27) 48 fbarFrom__27)]) (va_runV (As := []) (rest := []) ⟨hx, hb, hml, hown, hts⟩ ((n_here l D k st lo a tx t0__29 we__27 rd ru rw ca fp wd__27 nu__27 na__27 ts df db sd ftext (by first | assumption | omega) (by first | assumption | omega)) H.size) (cwV 0 hts (gV tw_1120 tw_1122 tw_27 tw_87 tw_1123) rfl rfl rfl (by decide +kernel) ⟨Nat.le_of_ble_eq_true rfl, Nat.le_of_ble_eq_true rfl⟩) (pV hS hAlo hlo hP hK (va_Dlo hD hAlo) hZ [4, 5] (by decide) rfl (ci := 8) (q := (RX8, TX8, 44)) (q0 := 0) rfl rfl) rfl rfl hl.1 rfl (lv_room (Nat.le_of_ble_eq_true rfl)) dX8_takeRule_207 ⟨Nat.le_of_ble_eq_true rfl, Nat.le_of_ble_eq_true rfl⟩) hS hA hP hD [4, 5] [0, 1, 2, 3] rfl rfl (by decide) (by decide) (fun r_32 u H locs hw_32 hP hD hS => ?_)
              obtain ⟨t0__32, rfl⟩ : ∃ z, z = u := ⟨_, rfl⟩
              have hQ9 := pd_mk [(aI k (a 28) 4 rr_13), (aI k (a 25) 4 (nF bm__27)), (aI k (a 26) 48 fbarSeen__27), (aI k (a 27) 48 fbarFrom__27), ((a 0), .inr (8, (fX8 a (nI tx) fp (nI t0__32) wd__27 (nI we__27) nu__27 na__27 (nI rd) ts (nI ru) (nI rw) (nI ca) df db sd))), (aI k (a 5) 240 ftext)] hP hD
              clear hP hD
              obtain ⟨hP, hD⟩ := hQ9
              try dsimp only at hw_32
              refine lv_if_lt (tgt := 225) hx hb dX8_takeRule_210 (by decide) (fun c_33 => ?_) (fun c_33 => ?_)
              · refine lv_iconst (v := 0) hx hb dX8_takeRule_225 (by decide) ?_
                have hbv_28 : bm__27 ru = b2_21 ru + 1 := by rw [hbq_28]; exact if_pos rfl
                obtain ⟨hP9, hD9⟩ := pd_sub [((a 0), .inr (8, (fX8 a (nI tx) fp (nI t0__32) wd__27 (nI we__27) nu__27 na__27 (nI rd) ts (nI ru) (nI rw) (nI ca) df db sd))), (aI k (a 5) 240 ftext), (aI k (a 25) 4 (nF bm__27)), (aI k (a 26) 48 fbarSeen__27), (aI k (a 27) 48 fbarFrom__27), (aI k (a 28) 4 rr_13)] [4, 5, 1, 2, 3, 0] hP hD (by decide) rfl
                exact W.iret (v := 0) hx hb hr (fun t ht hW => ⟨⟨0, (t0__32, wd__27, we__27, fp, nu__27, na__27, bm__27, fbarSeen__27, fbarFrom__27, rr_13), rfl, ⟨.inl ⟨rfl, (rf_o hH_7 (hst_21.symm.trans ((rl_s0 (σ := (b2_21 ru - 1, clp (b2_21 ru - 1) (fun i => fs2_21 (12 * ru + 1 + i)), clp (b2_21 ru - 1) (fun i => ff2_21 (12 * ru + 1 + i)))) (by omega) (seR_clp.trans (by rw [← hw_22.1]; exact hd_28))).trans (rl_end (show ¬ skA ftext tx _ < tx by rw [← hw_29.1]; exact hge_31))))).trans (by unfold ruM; rw [hbv_28, hfs_28, hff_28, hr0_13, pk_un (show 12 * ru ≠ 12 * ru + b2_21 ru by omega), hv_21.2.2.2.2.2.2.2.1, show b2_21 ru + 1 - 1 = b2_21 ru by omega, ← sg_new (by omega), ← sg_new (by omega), show b2_21 ru - 1 + 1 = b2_21 ru by omega]), rfl⟩, fun q hq => ruM_K (ruK_tr hv_21.2.2.2.2.2.2.2.2.1 hK_28) hrk_13 hbm hq, hw_27.2.2.1⟩, by rw [ht]; exact hP9, hD9⟩, hS.F ht⟩) hS.2.2 dX8_takeRule_226
              · have hlz_34 := by_pos hw_32.2.1 c_33
                rw [hw_32.1, hw_29.1, skA_idem] at hlz_34
                exact absurd hlz_34 (by rw [← hw_29.1]; exact hge_31)
            · have hlt_35 := by_pos hw_29.2.1 c_30
              refine lv_iconst (v := 1) hx hb dX8_takeRule_188 (by decide) ?_
              refine lv_goto (tgt := 193) hx hb dX8_takeRule_189 (by decide) ?_
              refine lv_istore (lv' := [(4, .int 1), (3, .int 0), (1, .long 131638), (0, .ref (a 0))]) hx hb dX8_takeRule_193 hl (by decide) rfl (fun ls hl => ?_)
              refine lv_goto (tgt := 104) hx hb dX8_takeRule_195 (by decide) ?_
              have hbv_28 : bm__27 ru = b2_21 ru + 1 := by rw [hbq_28]; exact if_pos rfl
              exact ih_21 _ (t0__29, wd__27, we__27, fp, nu__27, na__27, fbarSeen__27, fbarFrom__27, bm__27) _ _ _ (by omega) ⟨rfl, ⟨by omega, (by rw [hw_29.1, skA_idem, ← hw_29.1]; exact hlt_35), by omega, by omega, hw_27.2.2.1, rfl, (by rw [hfs_28, pk_un (by omega)]; exact hv_21.2.2.2.2.2.2.1), (by rw [hff_28, pk_un (by omega)]; exact hv_21.2.2.2.2.2.2.2.1), ruK_tr hv_21.2.2.2.2.2.2.2.2.1 hK_28, (by rw [← hst_21, rl_s0 (σ := (b2_21 ru - 1, clp (b2_21 ru - 1) (fun i => fs2_21 (12 * ru + 1 + i)), clp (b2_21 ru - 1) (fun i => ff2_21 (12 * ru + 1 + i)))) (by omega) (seR_clp.trans (by rw [← hw_22.1]; exact hd_28)), hw_29.1, ruL_sk, hbq_28, hfs_28, hff_28]; show ruL ftext tx (25 - (if ru = ru then b2_21 ru + 1 else b2_21 ru)) _ ((if ru = ru then b2_21 ru + 1 else b2_21 ru) - 1, clp ((if ru = ru then b2_21 ru + 1 else b2_21 ru) - 1) _, clp ((if ru = ru then b2_21 ru + 1 else b2_21 ru) - 1) _) = _; rw [if_pos rfl, show b2_21 ru + 1 - 1 = b2_21 ru by omega, ← sg_new (by omega), ← sg_new (by omega), show 25 - (b2_21 ru + 1) = 25 - b2_21 ru - 1 by omega, show b2_21 ru - 1 + 1 = b2_21 ru by omega])⟩, (hP.sub [1, 2, 3, 0, 4, 5] rfl), (hD.sub [1, 2, 3, 0, 4, 5] (by decide) rfl), hS, (lv_sub hl [0, 2, 3] rfl)⟩
          · refine lv_istore_n (lv' := [(3, .int (nI e_28)), (4, .int 1), (1, .long 131638), (0, .ref (a 0))]) hx hb dX8_takeRule_176 rfl hl (by decide) rfl (fun ls hl => ?_)
            refine lv_iload_n hx hb dX8_takeRule_177 rfl (lv_at hl 0 rfl) ?_
            refine lv_if_ne (tgt := 192) hx hb dX8_takeRule_178 (by decide) (fun _ => ?_) (fun h => absurd ((nI_eq (a := e_28) (b := 0) (by omega) (by omega)).mp h) (by omega))
            refine lv_iconst (v := 0) hx hb dX8_takeRule_192 (by decide) ?_
            refine lv_istore (lv' := [(4, .int 0), (3, .int (nI e_28)), (1, .long 131638), (0, .ref (a 0))]) hx hb dX8_takeRule_193 hl (by decide) rfl (fun ls hl => ?_)
            refine lv_goto (tgt := 104) hx hb dX8_takeRule_195 (by decide) ?_
            refine lv_iload hx hb dX8_takeRule_104 (lv_at hl 0 rfl) ?_
            refine lv_if_eq (tgt := 198) hx hb dX8_takeRule_106 (by decide) (fun _ => ?_) (fun h => absurd (by decide) h)
            refine lv_iload_n hx hb dX8_takeRule_198 rfl (lv_at hl 1 rfl) ?_
            refine lv_if_le (tgt := 206) hx hb dX8_takeRule_199 (by decide) (fun h => absurd ((nI_leI (a := e_28) (b := 0) (by omega) (by omega)).mp h) (by omega)) (fun _ => ?_)
            refine lv_iload_n hx hb dX8_takeRule_202 rfl (lv_at hl 1 rfl) ?_
            refine lv_goto (tgt := 226) hx hb dX8_takeRule_203 (by decide) ?_
            obtain ⟨hP9, hD9⟩ := pd_sub [((a 0), .inr (8, (fX8 a (nI tx) (nI pl_28) (nI t0__27) wd__27 (nI we__27) nu__27 na__27 (nI rd) ts (nI ru) (nI rw) (nI ca) df db sd))), (aI k (a 5) 240 ftext), (aI k (a 25) 4 (nF bm__27)), (aI k (a 26) 48 fbarSeen__27), (aI k (a 27) 48 fbarFrom__27), (aI k (a 28) 4 rr_13)] [1, 2, 3, 4, 5, 0] hP hD (by decide) rfl
            exact W.iret (v := (nI e_28)) hx hb hr (fun t ht hW => ⟨⟨(nI e_28), (t0__27, wd__27, we__27, (nI pl_28), nu__27, na__27, bm__27, fbarSeen__27, fbarFrom__27, rr_13), rfl, ⟨.inr ⟨e_28, pl_28, rfl, by omega, by omega, (rf_l (e := e_28) (p := pl_28) hH_7 (by rw [← hst_21]; exact (rl_s1 (e := e_28) (p := pl_28) (σ := (b2_21 ru - 1, clp (b2_21 ru - 1) (fun i => fs2_21 (12 * ru + 1 + i)), clp (b2_21 ru - 1) (fun i => ff2_21 (12 * ru + 1 + i)))) (by omega) hv_21.2.1 (by rw [← hw_22.1]; exact hnr_26) ((congrArg (fun z => z.1) seR_clp).trans (by rw [← hw_22.1]; exact hp1_28)) he1_28 ((congrArg (fun z => z.2.1) seR_clp).trans (by rw [← hw_22.1]; exact hp2_28))).1) (by rw [← hst_21]; exact (rl_s1 (e := e_28) (p := pl_28) (σ := (b2_21 ru - 1, clp (b2_21 ru - 1) (fun i => fs2_21 (12 * ru + 1 + i)), clp (b2_21 ru - 1) (fun i => ff2_21 (12 * ru + 1 + i)))) (by omega) hv_21.2.1 (by rw [← hw_22.1]; exact hnr_26) ((congrArg (fun z => z.1) seR_clp).trans (by rw [← hw_22.1]; exact hp1_28)) he1_28 ((congrArg (fun z => z.2.1) seR_clp).trans (by rw [← hw_22.1]; exact hp2_28))).2)).1, (rf_l (e := e_28) (p := pl_28) hH_7 (by rw [← hst_21]; exact (rl_s1 (e := e_28) (p := pl_28) (σ := (b2_21 ru - 1, clp (b2_21 ru - 1) (fun i => fs2_21 (12 * ru + 1 + i)), clp (b2_21 ru - 1) (fun i => ff2_21 (12 * ru + 1 + i)))) (by omega) hv_21.2.1 (by rw [← hw_22.1]; exact hnr_26) ((congrArg (fun z => z.1) seR_clp).trans (by rw [← hw_22.1]; exact hp1_28)) he1_28 ((congrArg (fun z => z.2.1) seR_clp).trans (by rw [← hw_22.1]; exact hp2_28))).1) (by rw [← hst_21]; exact (rl_s1 (e := e_28) (p := pl_28) (σ := (b2_21 ru - 1, clp (b2_21 ru - 1) (fun i => fs2_21 (12 * ru + 1 + i)), clp (b2_21 ru - 1) (fun i => ff2_21 (12 * ru + 1 + i)))) (by omega) hv_21.2.1 (by rw [← hw_22.1]; exact hnr_26) ((congrArg (fun z => z.1) seR_clp).trans (by rw [← hw_22.1]; exact hp1_28)) he1_28 ((congrArg (fun z => z.2.1) seR_clp).trans (by rw [← hw_22.1]; exact hp2_28))).2)).2, rfl⟩, fun q hq => ruM_K (ruK_tr hv_21.2.2.2.2.2.2.2.2.1 hK_28) hrk_13 hbm hq, hw_27.2.2.1⟩, by rw [ht]; exact hP9, hD9⟩, hS.F ht⟩) hS.2.2 dX8_takeRule_226
        · have hro_38 : letA ftext tx t0__22 = (sByt.getD 7 []) := (wd_ro letA_all hw_22.2.2.1).mp (lgc0 c_25)
          refine lv_aload_n hx hb dX8_takeRule_137 rfl (lv_at hl 2 rfl) ?_
          refine lv_aload_n hx hb dX8_takeRule_138 rfl (lv_at hl 2 rfl) ?_
          refine va_get (D := D) (ci := 8) (v := .int (nI we__22)) (C := RX8) (T := TX8) (N := 44) hx hb hts inX8 hown hK hP 4 rfl rfl 9 (by decide) (hts _ tw_982) (fun _ h9 => h9) rfl dX8_takeRule_139 ?_
          refine va_put (D := D) (ci := 8) (v := .int (nI we__22)) (ty := .int) (C := RX8) (T := TX8) (N := 44) hx hb hts inX8 tyX8 tyX8_ok nmX8 hown hK hP hD hS 4 rfl rfl 7 (by decide) (hts _ tw_980) (fun _ h9 => h9) rfl (by decide +kernel) rfl rfl (Nat.le_of_ble_eq_true rfl) dX8_takeRule_142 (fun H locs hP hD hS => ?_)
          have hQ9 := pd_mk [(aI k (a 25) 4 (nF b2_21)), (aI k (a 26) 48 fs2_21), (aI k (a 27) 48 ff2_21), (aI k (a 28) 4 rr_13), ((a 0), .inr (8, (fX8 a (nI tx) fp (nI we__22) wd__22 (nI we__22) nu2_21 na2_21 (nI rd) ts (nI ru) (nI rw) (nI ca) df db sd))), (aI k (a 5) 240 ftext)] hP hD
          clear hP hD
          obtain ⟨hP, hD⟩ := hQ9
          rw [hw_22.1] at hro_38
          have hwe_39 : we__22 = skA ftext tx t_21 + 5 := by rw [hw_22.2.1, hw_22.1, hro_38]; rfl
          have hLr_39 : (ruL ftext tx 24 t0__5 ru0) = ((roR ftext tx t_21).1, (roR ftext tx t_21).2.1, (b2_21 ru - 1, clp (b2_21 ru - 1) (fun i => fs2_21 (12 * ru + 1 + i)), clp (b2_21 ru - 1) (fun i => ff2_21 (12 * ru + 1 + i))), (roR ftext tx t_21).2.2) := hst_21.symm.trans (rl_no (fun h => seRn (hro_38.symm.trans h)))
          refine lv_aload_n hx hb dX8_takeRule_145 rfl (lv_at hl 2 rfl) ?_
          refine lv_iconst (v := 0) hx hb dX8_takeRule_146 (by decide) ?_
          refine lv_iconst (v := 3) hx hb dX8_takeRule_147 (by decide) ?_
          refine rw_i (D := D) (wr := [(aI k (a 25) 4 (nF b2_21)), (aI k (a 26) 48 fs2_21), (aI k (a 27) 48 ff2_21), (aI k (a 28) 4 rr_13)]) (va_runV (As := [.int 0, .int 3]) (rest := []) ⟨hx, hb, hml, hown, hts⟩ ((n_takeNumber l D k st lo a tx we__22 we__22 rd ru rw ca fp wd__22 nu2_21 na2_21 ts df db sd ftext 0 3 (by first | assumption | omega) (by first | assumption | omega)) H.size) (cwV 2 hts (gV tw_1159 tw_1161 tw_33 tw_87 tw_1162) rfl rfl rfl (by decide +kernel) ⟨Nat.le_of_ble_eq_true rfl, Nat.le_of_ble_eq_true rfl⟩) (pV hS hAlo hlo hP hK (va_Dlo hD hAlo) hZ [4, 5] (by decide) rfl (ci := 8) (q := (RX8, TX8, 44)) (q0 := 0) rfl rfl) rfl rfl hl.1 rfl (lv_room (Nat.le_of_ble_eq_true rfl)) dX8_takeRule_148 ⟨Nat.le_of_ble_eq_true rfl, Nat.le_of_ble_eq_true rfl⟩) hS hA hP hD [4, 5] [0, 1, 2, 3] rfl rfl (by decide) (by decide) (fun r_40 u H locs hw_40 hP hD hS => ?_)
          obtain ⟨t0__40, nu__40, na__40, fp__40⟩ := u
          have hQ9 := pd_mk [(aI k (a 25) 4 (nF b2_21)), (aI k (a 26) 48 fs2_21), (aI k (a 27) 48 ff2_21), (aI k (a 28) 4 rr_13), ((a 0), .inr (8, (fX8 a (nI tx) fp__40 (nI t0__40) wd__22 (nI we__22) nu__40 na__40 (nI rd) ts (nI ru) (nI rw) (nI ca) df db sd))), (aI k (a 5) 240 ftext)] hP hD
          clear hP hD
          obtain ⟨hP, hD⟩ := hQ9
          try dsimp only at hw_40
          obtain ⟨nq_41, rfl, hq_41, hw_40⟩ := hw_40
          rcases hq_41 with ⟨rfl, hq_41, hfp_41⟩ | ⟨rfl, pl_41, hq_41, rfl⟩ | ⟨rfl, pl_41, hq_41, rfl⟩
          · replace hfp_41 := hfp_41.symm
            subst hfp_41
            refine lv_istore_n (lv' := [(3, .int 0), (4, .int 1), (1, .long 131638), (0, .ref (a 0))]) hx hb dX8_takeRule_151 rfl hl (by decide) rfl (fun ls hl => ?_)
            rw [hwe_39] at hq_41
            refine lv_aload_n hx hb dX8_takeRule_152 rfl (lv_at hl 3 rfl) ?_
            refine va_get (D := D) (ci := 8) (v := .ref (a 28)) (C := RX8) (T := TX8) (N := 44) hx hb hts inX8 hown hK hP 4 rfl rfl 27 (by decide) (hts _ tw_1000) (fun _ h9 => h9) rfl dX8_takeRule_153 ?_
            refine lv_aload_n hx hb dX8_takeRule_156 rfl (lv_at hl 3 rfl) ?_
            refine va_get (D := D) (ci := 8) (v := .int (nI ru)) (C := RX8) (T := TX8) (N := 44) hx hb hts inX8 hown hK hP 4 rfl rfl 23 (by decide) (hts _ tw_996) (fun _ h9 => h9) rfl dX8_takeRule_157 ?_
            refine lv_aload_n hx hb dX8_takeRule_160 rfl (lv_at hl 3 rfl) ?_
            refine va_get (D := D) (ci := 8) (v := .int nu__40) (C := RX8) (T := TX8) (N := 44) hx hb hts inX8 hown hK hP 4 rfl rfl 10 (by decide) (hts _ tw_983) (fun _ h9 => h9) rfl dX8_takeRule_161 ?_
            refine va_iast hx hb hK hP hD hS 3 1 rfl rfl (vp_in_nI (by omega) (by decide)) dX8_takeRule_164 (fun H locs hP hD hS => ?_)
            have hQ9 := pd_mk [(aI k (a 25) 4 (nF b2_21)), (aI k (a 26) 48 fs2_21), (aI k (a 27) 48 ff2_21), (aI k (a 28) 4 (upd rr_13 (Int32.toNatClampNeg (nI ru)) nu__40)), ((a 0), .inr (8, (fX8 a (nI tx) fp (nI t0__40) wd__22 (nI we__22) nu__40 (nI nq_41) (nI rd) ts (nI ru) (nI rw) (nI ca) df db sd))), (aI k (a 5) 240 ftext)] hP hD
            clear hP hD
            obtain ⟨hP, hD⟩ := hQ9
            rw [nI_clamp (n := ru) (by omega)] at hP hD
            have hQ9 := pd_mk [(aI k (a 25) 4 (nF b2_21)), (aI k (a 26) 48 fs2_21), (aI k (a 27) 48 ff2_21), (aI k (a 28) 4 (upd rr_13 ru nu__40)), ((a 0), .inr (8, (fX8 a (nI tx) fp (nI t0__40) wd__22 (nI we__22) nu__40 (nI nq_41) (nI rd) ts (nI ru) (nI rw) (nI ca) df db sd))), (aI k (a 5) 240 ftext)] hP hD
            clear hP hD
            obtain ⟨hP, hD⟩ := hQ9
            refine lv_iconst (v := 0) hx hb dX8_takeRule_165 (by decide) ?_
            refine lv_istore (lv' := [(4, .int 0), (3, .int 0), (1, .long 131638), (0, .ref (a 0))]) hx hb dX8_takeRule_166 hl (by decide) rfl (fun ls hl => ?_)
            refine lv_goto (tgt := 104) hx hb dX8_takeRule_168 (by decide) ?_
            refine lv_iload hx hb dX8_takeRule_104 (lv_at hl 0 rfl) ?_
            refine lv_if_eq (tgt := 198) hx hb dX8_takeRule_106 (by decide) (fun _ => ?_) (fun h => absurd (by decide) h)
            refine lv_iload_n hx hb dX8_takeRule_198 rfl (lv_at hl 1 rfl) ?_
            refine lv_if_le (tgt := 206) hx hb dX8_takeRule_199 (by decide) (fun _ => ?_) (fun h => absurd (by decide) h)
            refine lv_aload_n hx hb dX8_takeRule_206 rfl (lv_at hl 3 rfl) ?_
            refine rw_i (D := D) (wr := [(aI k (a 25) 4 (nF b2_21)), (aI k (a 26) 48 fs2_21), (aI k (a 27) 48 ff2_21), (aI k (a 28) 4 (upd rr_13 ru nu__40))]) (va_runV (As := []) (rest := []) ⟨hx, hb, hml, hown, hts⟩ ((n_here l D k st lo a tx t0__40 we__22 rd ru rw ca fp wd__22 nu__40 (nI nq_41) ts df db sd ftext (by first | assumption | omega) (by first | assumption | omega)) H.size) (cwV 0 hts (gV tw_1120 tw_1122 tw_27 tw_87 tw_1123) rfl rfl rfl (by decide +kernel) ⟨Nat.le_of_ble_eq_true rfl, Nat.le_of_ble_eq_true rfl⟩) (pV hS hAlo hlo hP hK (va_Dlo hD hAlo) hZ [4, 5] (by decide) rfl (ci := 8) (q := (RX8, TX8, 44)) (q0 := 0) rfl rfl) rfl rfl hl.1 rfl (lv_room (Nat.le_of_ble_eq_true rfl)) dX8_takeRule_207 ⟨Nat.le_of_ble_eq_true rfl, Nat.le_of_ble_eq_true rfl⟩) hS hA hP hD [4, 5] [0, 1, 2, 3] rfl rfl (by decide) (by decide) (fun r_43 u H locs hw_43 hP hD hS => ?_)
            obtain ⟨t0__43, rfl⟩ : ∃ z, z = u := ⟨_, rfl⟩
            have hQ9 := pd_mk [(aI k (a 25) 4 (nF b2_21)), (aI k (a 26) 48 fs2_21), (aI k (a 27) 48 ff2_21), (aI k (a 28) 4 (upd rr_13 ru nu__40)), ((a 0), .inr (8, (fX8 a (nI tx) fp (nI t0__43) wd__22 (nI we__22) nu__40 (nI nq_41) (nI rd) ts (nI ru) (nI rw) (nI ca) df db sd))), (aI k (a 5) 240 ftext)] hP hD
            clear hP hD
            obtain ⟨hP, hD⟩ := hQ9
            try dsimp only at hw_43
            refine lv_if_lt (tgt := 225) hx hb dX8_takeRule_210 (by decide) (fun c_44 => ?_) (fun c_44 => ?_)
            · refine lv_iconst (v := 0) hx hb dX8_takeRule_225 (by decide) ?_
              obtain ⟨hP9, hD9⟩ := pd_sub [((a 0), .inr (8, (fX8 a (nI tx) fp (nI t0__43) wd__22 (nI we__22) nu__40 (nI nq_41) (nI rd) ts (nI ru) (nI rw) (nI ca) df db sd))), (aI k (a 5) 240 ftext), (aI k (a 25) 4 (nF b2_21)), (aI k (a 26) 48 fs2_21), (aI k (a 27) 48 ff2_21), (aI k (a 28) 4 (upd rr_13 ru nu__40))] [4, 5, 0, 1, 2, 3] hP hD (by decide) rfl
              exact W.iret (v := 0) hx hb hr (fun t ht hW => ⟨⟨0, (t0__43, wd__22, we__22, fp, nu__40, (nI nq_41), b2_21, fs2_21, ff2_21, (upd rr_13 ru nu__40)), rfl, ⟨.inl ⟨rfl, (rf_o hH_7 (hLr_39.trans (by rw [ro_1o hro_38 hq_41 (show ¬ skA ftext tx _ < tx by rw [← hw_43.1]; exact by_neg hty hw_43.2.1 c_44)]))).trans (by unfold ruM; rw [hv_21.2.2.2.2.2.2.2.1, pk_us]), rfl⟩, fun q hq => ruM_K hv_21.2.2.2.2.2.2.2.2.1 (fun q hq => (pk_un hq).trans (hrk_13 q hq)) hbm hq, hbl_21⟩, by rw [ht]; exact hP9, hD9⟩, hS.F ht⟩) hS.2.2 dX8_takeRule_226
            · refine lv_aload_n hx hb dX8_takeRule_213 rfl (lv_at hl 3 rfl) ?_
              refine lv_iconst (v := 1) hx hb dX8_takeRule_214 (by decide) ?_
              refine lv_aload_n hx hb dX8_takeRule_215 rfl (lv_at hl 3 rfl) ?_
              refine va_get (D := D) (ci := 8) (v := .int (nI t0__43)) (C := RX8) (T := TX8) (N := 44) hx hb hts inX8 hown hK hP 4 rfl rfl 7 (by decide) (hts _ tw_980) (fun _ h9 => h9) rfl dX8_takeRule_216 ?_
              refine rw_i (D := D) (wr := [(aI k (a 25) 4 (nF b2_21)), (aI k (a 26) 48 fs2_21), (aI k (a 27) 48 ff2_21), (aI k (a 28) 4 (upd rr_13 ru nu__40)), (aI k (a 5) 240 ftext)]) (va_runV (As := [.int 1, .int (nI t0__43)]) (rest := []) ⟨hx, hb, hml, hown, hts⟩ ((n_fails l D k st lo a tx t0__43 we__22 rd ru rw ca fp wd__22 nu__40 (nI nq_41) ts df db sd 1 (nI t0__43)) H.size) (cwV 2 hts (gV tw_1151 tw_1153 tw_31 tw_87 tw_1154) rfl rfl rfl (by decide +kernel) ⟨Nat.le_of_ble_eq_true rfl, Nat.le_of_ble_eq_true rfl⟩) (pV hS hAlo hlo hP hK (va_Dlo hD hAlo) hZ [4] (by decide) rfl (ci := 8) (q := (RX8, TX8, 44)) (q0 := 0) rfl rfl) rfl rfl hl.1 rfl (lv_room (Nat.le_of_ble_eq_true rfl)) dX8_takeRule_219 ⟨Nat.le_of_ble_eq_true rfl, Nat.le_of_ble_eq_true rfl⟩) hS hA hP hD [4] [0, 1, 2, 3, 5] rfl rfl (by decide) (by decide) (fun r_45 u H locs hw_45 hP hD hS => ?_)
              obtain ⟨fp__45, rfl⟩ : ∃ z, z = u := ⟨_, rfl⟩
              have hQ9 := pd_mk [(aI k (a 25) 4 (nF b2_21)), (aI k (a 26) 48 fs2_21), (aI k (a 27) 48 ff2_21), (aI k (a 28) 4 (upd rr_13 ru nu__40)), (aI k (a 5) 240 ftext), ((a 0), .inr (8, (fX8 a (nI tx) fp__45 (nI t0__43) wd__22 (nI we__22) nu__40 (nI nq_41) (nI rd) ts (nI ru) (nI rw) (nI ca) df db sd)))] hP hD
              clear hP hD
              obtain ⟨hP, hD⟩ := hQ9
              try dsimp only at hw_45
              obtain ⟨hs0_46, hs1_46⟩ := hw_45
              replace hs0_46 := hs0_46.symm
              subst hs0_46
              replace hs1_46 := hs1_46.symm
              subst hs1_46
              refine lv_goto (tgt := 226) hx hb dX8_takeRule_222 (by decide) ?_
              obtain ⟨hP9, hD9⟩ := pd_sub [((a 0), .inr (8, (fX8 a (nI tx) (nI t0__43) (nI t0__43) wd__22 (nI we__22) nu__40 (nI nq_41) (nI rd) ts (nI ru) (nI rw) (nI ca) df db sd))), (aI k (a 5) 240 ftext), (aI k (a 25) 4 (nF b2_21)), (aI k (a 26) 48 fs2_21), (aI k (a 27) 48 ff2_21), (aI k (a 28) 4 (upd rr_13 ru nu__40))] [5, 4, 0, 1, 2, 3] hP hD (by decide) rfl
              exact W.iret (v := 1) hx hb hr (fun t ht hW => ⟨⟨1, (t0__43, wd__22, we__22, (nI t0__43), nu__40, (nI nq_41), b2_21, fs2_21, ff2_21, (upd rr_13 ru nu__40)), rfl, ⟨.inr ⟨1, t0__43, rfl, by omega, by omega, (rf_l (e := 1) (p := t0__43) hH_7 (by rw [hLr_39, ro_1f hro_38 hq_41 (show skA ftext tx _ < tx by rw [← hw_43.1]; exact by_pos hw_43.2.1 c_44)]) (by rw [hLr_39, ro_1f hro_38 hq_41 (show skA ftext tx _ < tx by rw [← hw_43.1]; exact by_pos hw_43.2.1 c_44)]; exact hw_43.1.symm)).1, (rf_l (e := 1) (p := t0__43) hH_7 (by rw [hLr_39, ro_1f hro_38 hq_41 (show skA ftext tx _ < tx by rw [← hw_43.1]; exact by_pos hw_43.2.1 c_44)]) (by rw [hLr_39, ro_1f hro_38 hq_41 (show skA ftext tx _ < tx by rw [← hw_43.1]; exact by_pos hw_43.2.1 c_44)]; exact hw_43.1.symm)).2, rfl⟩, fun q hq => ruM_K hv_21.2.2.2.2.2.2.2.2.1 (fun q hq => (pk_un hq).trans (hrk_13 q hq)) hbm hq, hbl_21⟩, by rw [ht]; exact hP9, hD9⟩, hS.F ht⟩) hS.2.2 dX8_takeRule_226
          · refine lv_istore_n (lv' := [(3, .int 1), (4, .int 1), (1, .long 131638), (0, .ref (a 0))]) hx hb dX8_takeRule_151 rfl hl (by decide) rfl (fun ls hl => ?_)
            rw [hwe_39] at hq_41
            refine lv_aload_n hx hb dX8_takeRule_152 rfl (lv_at hl 3 rfl) ?_
            refine va_get (D := D) (ci := 8) (v := .ref (a 28)) (C := RX8) (T := TX8) (N := 44) hx hb hts inX8 hown hK hP 4 rfl rfl 27 (by decide) (hts _ tw_1000) (fun _ h9 => h9) rfl dX8_takeRule_153 ?_
            refine lv_aload_n hx hb dX8_takeRule_156 rfl (lv_at hl 3 rfl) ?_
            refine va_get (D := D) (ci := 8) (v := .int (nI ru)) (C := RX8) (T := TX8) (N := 44) hx hb hts inX8 hown hK hP 4 rfl rfl 23 (by decide) (hts _ tw_996) (fun _ h9 => h9) rfl dX8_takeRule_157 ?_
            refine lv_aload_n hx hb dX8_takeRule_160 rfl (lv_at hl 3 rfl) ?_
            refine va_get (D := D) (ci := 8) (v := .int nu__40) (C := RX8) (T := TX8) (N := 44) hx hb hts inX8 hown hK hP 4 rfl rfl 10 (by decide) (hts _ tw_983) (fun _ h9 => h9) rfl dX8_takeRule_161 ?_
            refine va_iast hx hb hK hP hD hS 3 1 rfl rfl (vp_in_nI (by omega) (by decide)) dX8_takeRule_164 (fun H locs hP hD hS => ?_)
            have hQ9 := pd_mk [(aI k (a 25) 4 (nF b2_21)), (aI k (a 26) 48 fs2_21), (aI k (a 27) 48 ff2_21), (aI k (a 28) 4 (upd rr_13 (Int32.toNatClampNeg (nI ru)) nu__40)), ((a 0), .inr (8, (fX8 a (nI tx) (nI pl_41) (nI t0__40) wd__22 (nI we__22) nu__40 (nI nq_41) (nI rd) ts (nI ru) (nI rw) (nI ca) df db sd))), (aI k (a 5) 240 ftext)] hP hD
            clear hP hD
            obtain ⟨hP, hD⟩ := hQ9
            rw [nI_clamp (n := ru) (by omega)] at hP hD
            have hQ9 := pd_mk [(aI k (a 25) 4 (nF b2_21)), (aI k (a 26) 48 fs2_21), (aI k (a 27) 48 ff2_21), (aI k (a 28) 4 (upd rr_13 ru nu__40)), ((a 0), .inr (8, (fX8 a (nI tx) (nI pl_41) (nI t0__40) wd__22 (nI we__22) nu__40 (nI nq_41) (nI rd) ts (nI ru) (nI rw) (nI ca) df db sd))), (aI k (a 5) 240 ftext)] hP hD
            clear hP hD
            obtain ⟨hP, hD⟩ := hQ9
            refine lv_iconst (v := 0) hx hb dX8_takeRule_165 (by decide) ?_
            refine lv_istore (lv' := [(4, .int 0), (3, .int 1), (1, .long 131638), (0, .ref (a 0))]) hx hb dX8_takeRule_166 hl (by decide) rfl (fun ls hl => ?_)
            refine lv_goto (tgt := 104) hx hb dX8_takeRule_168 (by decide) ?_
            refine lv_iload hx hb dX8_takeRule_104 (lv_at hl 0 rfl) ?_
            refine lv_if_eq (tgt := 198) hx hb dX8_takeRule_106 (by decide) (fun _ => ?_) (fun h => absurd (by decide) h)
            refine lv_iload_n hx hb dX8_takeRule_198 rfl (lv_at hl 1 rfl) ?_
            refine lv_if_le (tgt := 206) hx hb dX8_takeRule_199 (by decide) (fun h => absurd h (by decide)) (fun _ => ?_)
            refine lv_iload_n hx hb dX8_takeRule_202 rfl (lv_at hl 1 rfl) ?_
            refine lv_goto (tgt := 226) hx hb dX8_takeRule_203 (by decide) ?_
            obtain ⟨hP9, hD9⟩ := pd_sub [((a 0), .inr (8, (fX8 a (nI tx) (nI pl_41) (nI t0__40) wd__22 (nI we__22) nu__40 (nI nq_41) (nI rd) ts (nI ru) (nI rw) (nI ca) df db sd))), (aI k (a 5) 240 ftext), (aI k (a 25) 4 (nF b2_21)), (aI k (a 26) 48 fs2_21), (aI k (a 27) 48 ff2_21), (aI k (a 28) 4 (upd rr_13 ru nu__40))] [4, 5, 0, 1, 2, 3] hP hD (by decide) rfl
            exact W.iret (v := 1) hx hb hr (fun t ht hW => ⟨⟨1, (t0__40, wd__22, we__22, (nI pl_41), nu__40, (nI nq_41), b2_21, fs2_21, ff2_21, (upd rr_13 ru nu__40)), rfl, ⟨.inr ⟨1, pl_41, rfl, by omega, by omega, (rf_l (e := 1) (p := pl_41) hH_7 (by rw [hLr_39]; exact (ro_1e hro_38 hq_41 (by decide)).1) (by rw [hLr_39]; exact (ro_1e hro_38 hq_41 (by decide)).2)).1, (rf_l (e := 1) (p := pl_41) hH_7 (by rw [hLr_39]; exact (ro_1e hro_38 hq_41 (by decide)).1) (by rw [hLr_39]; exact (ro_1e hro_38 hq_41 (by decide)).2)).2, rfl⟩, fun q hq => ruM_K hv_21.2.2.2.2.2.2.2.2.1 (fun q hq => (pk_un hq).trans (hrk_13 q hq)) hbm hq, hbl_21⟩, by rw [ht]; exact hP9, hD9⟩, hS.F ht⟩) hS.2.2 dX8_takeRule_226
          · refine lv_istore_n (lv' := [(3, .int 2), (4, .int 1), (1, .long 131638), (0, .ref (a 0))]) hx hb dX8_takeRule_151 rfl hl (by decide) rfl (fun ls hl => ?_)
            rw [hwe_39] at hq_41
            refine lv_aload_n hx hb dX8_takeRule_152 rfl (lv_at hl 3 rfl) ?_
            refine va_get (D := D) (ci := 8) (v := .ref (a 28)) (C := RX8) (T := TX8) (N := 44) hx hb hts inX8 hown hK hP 4 rfl rfl 27 (by decide) (hts _ tw_1000) (fun _ h9 => h9) rfl dX8_takeRule_153 ?_
            refine lv_aload_n hx hb dX8_takeRule_156 rfl (lv_at hl 3 rfl) ?_
            refine va_get (D := D) (ci := 8) (v := .int (nI ru)) (C := RX8) (T := TX8) (N := 44) hx hb hts inX8 hown hK hP 4 rfl rfl 23 (by decide) (hts _ tw_996) (fun _ h9 => h9) rfl dX8_takeRule_157 ?_
            refine lv_aload_n hx hb dX8_takeRule_160 rfl (lv_at hl 3 rfl) ?_
            refine va_get (D := D) (ci := 8) (v := .int nu__40) (C := RX8) (T := TX8) (N := 44) hx hb hts inX8 hown hK hP 4 rfl rfl 10 (by decide) (hts _ tw_983) (fun _ h9 => h9) rfl dX8_takeRule_161 ?_
            refine va_iast hx hb hK hP hD hS 3 1 rfl rfl (vp_in_nI (by omega) (by decide)) dX8_takeRule_164 (fun H locs hP hD hS => ?_)
            have hQ9 := pd_mk [(aI k (a 25) 4 (nF b2_21)), (aI k (a 26) 48 fs2_21), (aI k (a 27) 48 ff2_21), (aI k (a 28) 4 (upd rr_13 (Int32.toNatClampNeg (nI ru)) nu__40)), ((a 0), .inr (8, (fX8 a (nI tx) (nI pl_41) (nI t0__40) wd__22 (nI we__22) nu__40 (nI nq_41) (nI rd) ts (nI ru) (nI rw) (nI ca) df db sd))), (aI k (a 5) 240 ftext)] hP hD
            clear hP hD
            obtain ⟨hP, hD⟩ := hQ9
            rw [nI_clamp (n := ru) (by omega)] at hP hD
            have hQ9 := pd_mk [(aI k (a 25) 4 (nF b2_21)), (aI k (a 26) 48 fs2_21), (aI k (a 27) 48 ff2_21), (aI k (a 28) 4 (upd rr_13 ru nu__40)), ((a 0), .inr (8, (fX8 a (nI tx) (nI pl_41) (nI t0__40) wd__22 (nI we__22) nu__40 (nI nq_41) (nI rd) ts (nI ru) (nI rw) (nI ca) df db sd))), (aI k (a 5) 240 ftext)] hP hD
            clear hP hD
            obtain ⟨hP, hD⟩ := hQ9
            refine lv_iconst (v := 0) hx hb dX8_takeRule_165 (by decide) ?_
            refine lv_istore (lv' := [(4, .int 0), (3, .int 2), (1, .long 131638), (0, .ref (a 0))]) hx hb dX8_takeRule_166 hl (by decide) rfl (fun ls hl => ?_)
            refine lv_goto (tgt := 104) hx hb dX8_takeRule_168 (by decide) ?_
            refine lv_iload hx hb dX8_takeRule_104 (lv_at hl 0 rfl) ?_
            refine lv_if_eq (tgt := 198) hx hb dX8_takeRule_106 (by decide) (fun _ => ?_) (fun h => absurd (by decide) h)
            refine lv_iload_n hx hb dX8_takeRule_198 rfl (lv_at hl 1 rfl) ?_
            refine lv_if_le (tgt := 206) hx hb dX8_takeRule_199 (by decide) (fun h => absurd h (by decide)) (fun _ => ?_)
            refine lv_iload_n hx hb dX8_takeRule_202 rfl (lv_at hl 1 rfl) ?_
            refine lv_goto (tgt := 226) hx hb dX8_takeRule_203 (by decide) ?_
            obtain ⟨hP9, hD9⟩ := pd_sub [((a 0), .inr (8, (fX8 a (nI tx) (nI pl_41) (nI t0__40) wd__22 (nI we__22) nu__40 (nI nq_41) (nI rd) ts (nI ru) (nI rw) (nI ca) df db sd))), (aI k (a 5) 240 ftext), (aI k (a 25) 4 (nF b2_21)), (aI k (a 26) 48 fs2_21), (aI k (a 27) 48 ff2_21), (aI k (a 28) 4 (upd rr_13 ru nu__40))] [4, 5, 0, 1, 2, 3] hP hD (by decide) rfl
            exact W.iret (v := 2) hx hb hr (fun t ht hW => ⟨⟨2, (t0__40, wd__22, we__22, (nI pl_41), nu__40, (nI nq_41), b2_21, fs2_21, ff2_21, (upd rr_13 ru nu__40)), rfl, ⟨.inr ⟨2, pl_41, rfl, by omega, by omega, (rf_l (e := 2) (p := pl_41) hH_7 (by rw [hLr_39]; exact (ro_1e hro_38 hq_41 (by decide)).1) (by rw [hLr_39]; exact (ro_1e hro_38 hq_41 (by decide)).2)).1, (rf_l (e := 2) (p := pl_41) hH_7 (by rw [hLr_39]; exact (ro_1e hro_38 hq_41 (by decide)).1) (by rw [hLr_39]; exact (ro_1e hro_38 hq_41 (by decide)).2)).2, rfl⟩, fun q hq => ruM_K hv_21.2.2.2.2.2.2.2.2.1 (fun q hq => (pk_un hq).trans (hrk_13 q hq)) hbm hq, hbl_21⟩, by rw [ht]; exact hP9, hD9⟩, hS.F ht⟩) hS.2.2 dX8_takeRule_226
    · refine lv_istore_n (lv' := [(3, .int 1), (1, .long 131638), (0, .ref (a 0))]) hx hb dX8_takeRule_36 rfl hl (by decide) rfl (fun ls hl => ?_)
      have hH1_49 : (ruH ftext tx t0).1 = 1 := by simp [ruH, hq_4, hq_6, -List.getD_eq_getElem?_getD]
      have hH2_49 : (ruH ftext tx t0).2.1 = pl_6 := by simp [ruH, hq_4, hq_6, -List.getD_eq_getElem?_getD]
      refine lv_aload_n hx hb dX8_takeRule_37 rfl (lv_at hl 2 rfl) ?_
      refine va_get (D := D) (ci := 8) (v := .ref (a 26)) (C := RX8) (T := TX8) (N := 44) hx hb hts inX8 hown hK hP 4 rfl rfl 25 (by decide) (hts _ tw_998) (fun _ h9 => h9) rfl dX8_takeRule_38 ?_
      refine lv_bipush (v := 12) hx hb dX8_takeRule_41 (by decide) ?_
      refine lv_aload_n hx hb dX8_takeRule_43 rfl (lv_at hl 2 rfl) ?_
      refine va_get (D := D) (ci := 8) (v := .int (nI ru)) (C := RX8) (T := TX8) (N := 44) hx hb hts inX8 hown hK hP 4 rfl rfl 23 (by decide) (hts _ tw_996) (fun _ h9 => h9) rfl dX8_takeRule_44 ?_
      refine lv_imul hx hb dX8_takeRule_47 ?_
      refine lv_ti (y := (nI (12 * ru))) (pk_mul 12 ru) ?_
      refine lv_iconst (v := 0) hx hb dX8_takeRule_48 (by decide) ?_
      refine va_iast hx hb hK hP hD hS 1 1 rfl rfl (vp_in_nI (by omega) (by decide)) dX8_takeRule_49 (fun H locs hP hD hS => ?_)
      have hQ9 := pd_mk [(aI k (a 25) 4 (nF bm)), (aI k (a 26) 48 (upd fbarSeen (Int32.toNatClampNeg (nI (12 * ru))) 0)), (aI k (a 27) 48 fbarFrom), (aI k (a 28) 4 fruleRounds), ((a 0), .inr (8, (fX8 a (nI tx) (nI pl_6) (nI t0__5) wd__3 (nI we__3) nu__5 (nI nq_6) (nI rd) ts (nI ru) (nI rw) (nI ca) df db sd))), (aI k (a 5) 240 ftext)] hP hD
      clear hP hD
      obtain ⟨hP, hD⟩ := hQ9
      rw [nI_clamp (n := (12 * ru)) (by omega)] at hP hD
      have hQ9 := pd_mk [(aI k (a 25) 4 (nF bm)), (aI k (a 26) 48 (upd fbarSeen (12 * ru) 0)), (aI k (a 27) 48 fbarFrom), (aI k (a 28) 4 fruleRounds), ((a 0), .inr (8, (fX8 a (nI tx) (nI pl_6) (nI t0__5) wd__3 (nI we__3) nu__5 (nI nq_6) (nI rd) ts (nI ru) (nI rw) (nI ca) df db sd))), (aI k (a 5) 240 ftext)] hP hD
      clear hP hD
      obtain ⟨hP, hD⟩ := hQ9
      refine lv_aload_n hx hb dX8_takeRule_50 rfl (lv_at hl 2 rfl) ?_
      refine va_get (D := D) (ci := 8) (v := .ref (a 27)) (C := RX8) (T := TX8) (N := 44) hx hb hts inX8 hown hK hP 4 rfl rfl 26 (by decide) (hts _ tw_999) (fun _ h9 => h9) rfl dX8_takeRule_51 ?_
      refine lv_bipush (v := 12) hx hb dX8_takeRule_54 (by decide) ?_
      refine lv_aload_n hx hb dX8_takeRule_56 rfl (lv_at hl 2 rfl) ?_
      refine va_get (D := D) (ci := 8) (v := .int (nI ru)) (C := RX8) (T := TX8) (N := 44) hx hb hts inX8 hown hK hP 4 rfl rfl 23 (by decide) (hts _ tw_996) (fun _ h9 => h9) rfl dX8_takeRule_57 ?_
      refine lv_imul hx hb dX8_takeRule_60 ?_
      refine lv_ti (y := (nI (12 * ru))) (pk_mul 12 ru) ?_
      refine lv_aload_n hx hb dX8_takeRule_61 rfl (lv_at hl 2 rfl) ?_
      refine va_get (D := D) (ci := 8) (v := .int nu__5) (C := RX8) (T := TX8) (N := 44) hx hb hts inX8 hown hK hP 4 rfl rfl 10 (by decide) (hts _ tw_983) (fun _ h9 => h9) rfl dX8_takeRule_62 ?_
      refine va_iast hx hb hK hP hD hS 2 1 rfl rfl (vp_in_nI (by omega) (by decide)) dX8_takeRule_65 (fun H locs hP hD hS => ?_)
      have hQ9 := pd_mk [(aI k (a 25) 4 (nF bm)), (aI k (a 26) 48 (upd fbarSeen (12 * ru) 0)), (aI k (a 27) 48 (upd fbarFrom (Int32.toNatClampNeg (nI (12 * ru))) nu__5)), (aI k (a 28) 4 fruleRounds), ((a 0), .inr (8, (fX8 a (nI tx) (nI pl_6) (nI t0__5) wd__3 (nI we__3) nu__5 (nI nq_6) (nI rd) ts (nI ru) (nI rw) (nI ca) df db sd))), (aI k (a 5) 240 ftext)] hP hD
      clear hP hD
      obtain ⟨hP, hD⟩ := hQ9
      rw [nI_clamp (n := (12 * ru)) (by omega)] at hP hD
      have hQ9 := pd_mk [(aI k (a 25) 4 (nF bm)), (aI k (a 26) 48 (upd fbarSeen (12 * ru) 0)), (aI k (a 27) 48 (upd fbarFrom (12 * ru) nu__5)), (aI k (a 28) 4 fruleRounds), ((a 0), .inr (8, (fX8 a (nI tx) (nI pl_6) (nI t0__5) wd__3 (nI we__3) nu__5 (nI nq_6) (nI rd) ts (nI ru) (nI rw) (nI ca) df db sd))), (aI k (a 5) 240 ftext)] hP hD
      clear hP hD
      obtain ⟨hP, hD⟩ := hQ9
      refine lv_aload_n hx hb dX8_takeRule_66 rfl (lv_at hl 2 rfl) ?_
      refine va_get (D := D) (ci := 8) (v := .ref (a 25)) (C := RX8) (T := TX8) (N := 44) hx hb hts inX8 hown hK hP 4 rfl rfl 24 (by decide) (hts _ tw_997) (fun _ h9 => h9) rfl dX8_takeRule_67 ?_
      refine lv_aload_n hx hb dX8_takeRule_70 rfl (lv_at hl 2 rfl) ?_
      refine va_get (D := D) (ci := 8) (v := .int (nI ru)) (C := RX8) (T := TX8) (N := 44) hx hb hts inX8 hown hK hP 4 rfl rfl 23 (by decide) (hts _ tw_996) (fun _ h9 => h9) rfl dX8_takeRule_71 ?_
      refine lv_iconst (v := 1) hx hb dX8_takeRule_74 (by decide) ?_
      refine va_iast hx hb hK hP hD hS 0 1 rfl rfl (vp_in_nI (by omega) (by decide)) dX8_takeRule_75 (fun H locs hP hD hS => ?_)
      have hQ9 := pd_mk [(aI k (a 25) 4 (upd (nF bm) (Int32.toNatClampNeg (nI ru)) 1)), (aI k (a 26) 48 (upd fbarSeen (12 * ru) 0)), (aI k (a 27) 48 (upd fbarFrom (12 * ru) nu__5)), (aI k (a 28) 4 fruleRounds), ((a 0), .inr (8, (fX8 a (nI tx) (nI pl_6) (nI t0__5) wd__3 (nI we__3) nu__5 (nI nq_6) (nI rd) ts (nI ru) (nI rw) (nI ca) df db sd))), (aI k (a 5) 240 ftext)] hP hD
      clear hP hD
      obtain ⟨hP, hD⟩ := hQ9
      rw [nI_clamp (n := ru) (by omega)] at hP hD
      rw [show upd (nF bm) ru 1 = nF (fun j => if j = ru then 1 else bm j) from nF_upd _ _ _] at hP hD
      obtain ⟨d_53, hd_53⟩ : ∃ z : Nat → Nat, z = (fun j => if j = ru then 1 else bm j) := ⟨_, rfl⟩
      rw [← hd_53] at hP hD
      have hbb_53 : ∀ j, d_53 j ≤ 12 := by rw [hd_53]; exact up_le hbm (by omega)
      have hbu_53 : d_53 ru = 1 := by rw [hd_53]; exact if_pos rfl
      refine lv_aload_n hx hb dX8_takeRule_76 rfl (lv_at hl 2 rfl) ?_
      refine va_get (D := D) (ci := 8) (v := .ref (a 28)) (C := RX8) (T := TX8) (N := 44) hx hb hts inX8 hown hK hP 4 rfl rfl 27 (by decide) (hts _ tw_1000) (fun _ h9 => h9) rfl dX8_takeRule_77 ?_
      refine lv_aload_n hx hb dX8_takeRule_80 rfl (lv_at hl 2 rfl) ?_
      refine va_get (D := D) (ci := 8) (v := .int (nI ru)) (C := RX8) (T := TX8) (N := 44) hx hb hts inX8 hown hK hP 4 rfl rfl 23 (by decide) (hts _ tw_996) (fun _ h9 => h9) rfl dX8_takeRule_81 ?_
      refine lv_iconst (v := 0) hx hb dX8_takeRule_84 (by decide) ?_
      refine va_iast hx hb hK hP hD hS 3 1 rfl rfl (vp_in_nI (by omega) (by decide)) dX8_takeRule_85 (fun H locs hP hD hS => ?_)
      have hQ9 := pd_mk [(aI k (a 25) 4 (nF d_53)), (aI k (a 26) 48 (upd fbarSeen (12 * ru) 0)), (aI k (a 27) 48 (upd fbarFrom (12 * ru) nu__5)), (aI k (a 28) 4 (upd fruleRounds (Int32.toNatClampNeg (nI ru)) 0)), ((a 0), .inr (8, (fX8 a (nI tx) (nI pl_6) (nI t0__5) wd__3 (nI we__3) nu__5 (nI nq_6) (nI rd) ts (nI ru) (nI rw) (nI ca) df db sd))), (aI k (a 5) 240 ftext)] hP hD
      clear hP hD
      obtain ⟨hP, hD⟩ := hQ9
      rw [nI_clamp (n := ru) (by omega)] at hP hD
      have hQ9 := pd_mk [(aI k (a 25) 4 (nF d_53)), (aI k (a 26) 48 (upd fbarSeen (12 * ru) 0)), (aI k (a 27) 48 (upd fbarFrom (12 * ru) nu__5)), (aI k (a 28) 4 (upd fruleRounds ru 0)), ((a 0), .inr (8, (fX8 a (nI tx) (nI pl_6) (nI t0__5) wd__3 (nI we__3) nu__5 (nI nq_6) (nI rd) ts (nI ru) (nI rw) (nI ca) df db sd))), (aI k (a 5) 240 ftext)] hP hD
      clear hP hD
      obtain ⟨hP, hD⟩ := hQ9
      obtain ⟨fs_55, hfs_55⟩ : ∃ z : Nat → Int32, z = (upd fbarSeen (12 * ru) 0) := ⟨_, rfl⟩
      obtain ⟨ff_55, hff_55⟩ : ∃ z : Nat → Int32, z = (upd fbarFrom (12 * ru) nu__5) := ⟨_, rfl⟩
      obtain ⟨rr_55, hrr_55⟩ : ∃ z : Nat → Int32, z = (upd fruleRounds ru 0) := ⟨_, rfl⟩
      rw [← hfs_55, ← hff_55, ← hrr_55] at hP hD
      have hK0_55 : ruK ru bm d_53 fbarSeen fs_55 fbarFrom ff_55 := by rw [hfs_55, hff_55]; exact ruK_tr (ruK_s (by omega)) (ruK_tr (ruK_f (by omega)) (ruK_b hd_53))
      have hb0_55 : d_53 ru = 1 := by rw [hd_53]; exact if_pos rfl
      have hs0_55 : fs_55 (12 * ru) = 0 := by rw [hfs_55]; exact pk_us
      have hf0_55 : ff_55 (12 * ru) = nu__5 := by rw [hff_55]; exact pk_us
      have hr0_55 : rr_55 ru = 0 := by rw [hrr_55]; exact pk_us
      have hrk_55 : ∀ q, q ≠ ru → rr_55 q = fruleRounds q := by rw [hrr_55]; exact fun q hq => pk_un hq
      refine lv_iload_n hx hb dX8_takeRule_86 rfl (lv_at hl 0 rfl) ?_
      refine lv_if_ne (tgt := 101) hx hb dX8_takeRule_87 (by decide) (fun _ => ?_) (fun h => absurd h (by decide))
      refine lv_iconst (v := 0) hx hb dX8_takeRule_101 (by decide) ?_
      refine lv_istore (lv' := [(4, .int 0), (3, .int 1), (1, .long 131638), (0, .ref (a 0))]) hx hb dX8_takeRule_102 hl (by decide) rfl (fun ls hl => ?_)
      refine lv_iload hx hb dX8_takeRule_104 (lv_at hl 0 rfl) ?_
      refine lv_if_eq (tgt := 198) hx hb dX8_takeRule_106 (by decide) (fun _ => ?_) (fun h => absurd (by decide) h)
      refine lv_iload_n hx hb dX8_takeRule_198 rfl (lv_at hl 1 rfl) ?_
      refine lv_if_le (tgt := 206) hx hb dX8_takeRule_199 (by decide) (fun h => absurd h (by decide)) (fun _ => ?_)
      refine lv_iload_n hx hb dX8_takeRule_202 rfl (lv_at hl 1 rfl) ?_
      refine lv_goto (tgt := 226) hx hb dX8_takeRule_203 (by decide) ?_
      obtain ⟨hP9, hD9⟩ := pd_sub [((a 0), .inr (8, (fX8 a (nI tx) (nI pl_6) (nI t0__5) wd__3 (nI we__3) nu__5 (nI nq_6) (nI rd) ts (nI ru) (nI rw) (nI ca) df db sd))), (aI k (a 5) 240 ftext), (aI k (a 25) 4 (nF d_53)), (aI k (a 26) 48 fs_55), (aI k (a 27) 48 ff_55), (aI k (a 28) 4 rr_55)] [4, 5, 0, 1, 2, 3] hP hD (by decide) rfl
      exact W.iret (v := 1) hx hb hr (fun t ht hW => ⟨⟨1, (t0__5, wd__3, we__3, (nI pl_6), nu__5, (nI nq_6), d_53, fs_55, ff_55, rr_55), rfl, ⟨.inr ⟨1, pl_6, rfl, by omega, by omega, (rf_h hH1_49 (by decide) hH2_49).1, (rf_h hH1_49 (by decide) hH2_49).2, rfl⟩, fun q hq => ruM_K hK0_55 hrk_55 hbm hq, hbb_53⟩, by rw [ht]; exact hP9, hD9⟩, hS.F ht⟩) hS.2.2 dX8_takeRule_226
    · refine lv_istore_n (lv' := [(3, .int 2), (1, .long 131638), (0, .ref (a 0))]) hx hb dX8_takeRule_36 rfl hl (by decide) rfl (fun ls hl => ?_)
      have hH1_56 : (ruH ftext tx t0).1 = 2 := by simp [ruH, hq_4, hq_6, -List.getD_eq_getElem?_getD]
      have hH2_56 : (ruH ftext tx t0).2.1 = pl_6 := by simp [ruH, hq_4, hq_6, -List.getD_eq_getElem?_getD]
      refine lv_aload_n hx hb dX8_takeRule_37 rfl (lv_at hl 2 rfl) ?_
      refine va_get (D := D) (ci := 8) (v := .ref (a 26)) (C := RX8) (T := TX8) (N := 44) hx hb hts inX8 hown hK hP 4 rfl rfl 25 (by decide) (hts _ tw_998) (fun _ h9 => h9) rfl dX8_takeRule_38 ?_
      refine lv_bipush (v := 12) hx hb dX8_takeRule_41 (by decide) ?_
      refine lv_aload_n hx hb dX8_takeRule_43 rfl (lv_at hl 2 rfl) ?_
      refine va_get (D := D) (ci := 8) (v := .int (nI ru)) (C := RX8) (T := TX8) (N := 44) hx hb hts inX8 hown hK hP 4 rfl rfl 23 (by decide) (hts _ tw_996) (fun _ h9 => h9) rfl dX8_takeRule_44 ?_
      refine lv_imul hx hb dX8_takeRule_47 ?_
      refine lv_ti (y := (nI (12 * ru))) (pk_mul 12 ru) ?_
      refine lv_iconst (v := 0) hx hb dX8_takeRule_48 (by decide) ?_
      refine va_iast hx hb hK hP hD hS 1 1 rfl rfl (vp_in_nI (by omega) (by decide)) dX8_takeRule_49 (fun H locs hP hD hS => ?_)
      have hQ9 := pd_mk [(aI k (a 25) 4 (nF bm)), (aI k (a 26) 48 (upd fbarSeen (Int32.toNatClampNeg (nI (12 * ru))) 0)), (aI k (a 27) 48 fbarFrom), (aI k (a 28) 4 fruleRounds), ((a 0), .inr (8, (fX8 a (nI tx) (nI pl_6) (nI t0__5) wd__3 (nI we__3) nu__5 (nI nq_6) (nI rd) ts (nI ru) (nI rw) (nI ca) df db sd))), (aI k (a 5) 240 ftext)] hP hD
      clear hP hD
      obtain ⟨hP, hD⟩ := hQ9
      rw [nI_clamp (n := (12 * ru)) (by omega)] at hP hD
      have hQ9 := pd_mk [(aI k (a 25) 4 (nF bm)), (aI k (a 26) 48 (upd fbarSeen (12 * ru) 0)), (aI k (a 27) 48 fbarFrom), (aI k (a 28) 4 fruleRounds), ((a 0), .inr (8, (fX8 a (nI tx) (nI pl_6) (nI t0__5) wd__3 (nI we__3) nu__5 (nI nq_6) (nI rd) ts (nI ru) (nI rw) (nI ca) df db sd))), (aI k (a 5) 240 ftext)] hP hD
      clear hP hD
      obtain ⟨hP, hD⟩ := hQ9
      refine lv_aload_n hx hb dX8_takeRule_50 rfl (lv_at hl 2 rfl) ?_
      refine va_get (D := D) (ci := 8) (v := .ref (a 27)) (C := RX8) (T := TX8) (N := 44) hx hb hts inX8 hown hK hP 4 rfl rfl 26 (by decide) (hts _ tw_999) (fun _ h9 => h9) rfl dX8_takeRule_51 ?_
      refine lv_bipush (v := 12) hx hb dX8_takeRule_54 (by decide) ?_
      refine lv_aload_n hx hb dX8_takeRule_56 rfl (lv_at hl 2 rfl) ?_
      refine va_get (D := D) (ci := 8) (v := .int (nI ru)) (C := RX8) (T := TX8) (N := 44) hx hb hts inX8 hown hK hP 4 rfl rfl 23 (by decide) (hts _ tw_996) (fun _ h9 => h9) rfl dX8_takeRule_57 ?_
      refine lv_imul hx hb dX8_takeRule_60 ?_
      refine lv_ti (y := (nI (12 * ru))) (pk_mul 12 ru) ?_
      refine lv_aload_n hx hb dX8_takeRule_61 rfl (lv_at hl 2 rfl) ?_
      refine va_get (D := D) (ci := 8) (v := .int nu__5) (C := RX8) (T := TX8) (N := 44) hx hb hts inX8 hown hK hP 4 rfl rfl 10 (by decide) (hts _ tw_983) (fun _ h9 => h9) rfl dX8_takeRule_62 ?_
      refine va_iast hx hb hK hP hD hS 2 1 rfl rfl (vp_in_nI (by omega) (by decide)) dX8_takeRule_65 (fun H locs hP hD hS => ?_)
      have hQ9 := pd_mk [(aI k (a 25) 4 (nF bm)), (aI k (a 26) 48 (upd fbarSeen (12 * ru) 0)), (aI k (a 27) 48 (upd fbarFrom (Int32.toNatClampNeg (nI (12 * ru))) nu__5)), (aI k (a 28) 4 fruleRounds), ((a 0), .inr (8, (fX8 a (nI tx) (nI pl_6) (nI t0__5) wd__3 (nI we__3) nu__5 (nI nq_6) (nI rd) ts (nI ru) (nI rw) (nI ca) df db sd))), (aI k (a 5) 240 ftext)] hP hD
      clear hP hD
      obtain ⟨hP, hD⟩ := hQ9
      rw [nI_clamp (n := (12 * ru)) (by omega)] at hP hD
      have hQ9 := pd_mk [(aI k (a 25) 4 (nF bm)), (aI k (a 26) 48 (upd fbarSeen (12 * ru) 0)), (aI k (a 27) 48 (upd fbarFrom (12 * ru) nu__5)), (aI k (a 28) 4 fruleRounds), ((a 0), .inr (8, (fX8 a (nI tx) (nI pl_6) (nI t0__5) wd__3 (nI we__3) nu__5 (nI nq_6) (nI rd) ts (nI ru) (nI rw) (nI ca) df db sd))), (aI k (a 5) 240 ftext)] hP hD
      clear hP hD
      obtain ⟨hP, hD⟩ := hQ9
      refine lv_aload_n hx hb dX8_takeRule_66 rfl (lv_at hl 2 rfl) ?_
      refine va_get (D := D) (ci := 8) (v := .ref (a 25)) (C := RX8) (T := TX8) (N := 44) hx hb hts inX8 hown hK hP 4 rfl rfl 24 (by decide) (hts _ tw_997) (fun _ h9 => h9) rfl dX8_takeRule_67 ?_
      refine lv_aload_n hx hb dX8_takeRule_70 rfl (lv_at hl 2 rfl) ?_
      refine va_get (D := D) (ci := 8) (v := .int (nI ru)) (C := RX8) (T := TX8) (N := 44) hx hb hts inX8 hown hK hP 4 rfl rfl 23 (by decide) (hts _ tw_996) (fun _ h9 => h9) rfl dX8_takeRule_71 ?_
      refine lv_iconst (v := 1) hx hb dX8_takeRule_74 (by decide) ?_
      refine va_iast hx hb hK hP hD hS 0 1 rfl rfl (vp_in_nI (by omega) (by decide)) dX8_takeRule_75 (fun H locs hP hD hS => ?_)
      have hQ9 := pd_mk [(aI k (a 25) 4 (upd (nF bm) (Int32.toNatClampNeg (nI ru)) 1)), (aI k (a 26) 48 (upd fbarSeen (12 * ru) 0)), (aI k (a 27) 48 (upd fbarFrom (12 * ru) nu__5)), (aI k (a 28) 4 fruleRounds), ((a 0), .inr (8, (fX8 a (nI tx) (nI pl_6) (nI t0__5) wd__3 (nI we__3) nu__5 (nI nq_6) (nI rd) ts (nI ru) (nI rw) (nI ca) df db sd))), (aI k (a 5) 240 ftext)] hP hD
      clear hP hD
      obtain ⟨hP, hD⟩ := hQ9
      rw [nI_clamp (n := ru) (by omega)] at hP hD
      rw [show upd (nF bm) ru 1 = nF (fun j => if j = ru then 1 else bm j) from nF_upd _ _ _] at hP hD
      obtain ⟨d_60, hd_60⟩ : ∃ z : Nat → Nat, z = (fun j => if j = ru then 1 else bm j) := ⟨_, rfl⟩
      rw [← hd_60] at hP hD
      have hbb_60 : ∀ j, d_60 j ≤ 12 := by rw [hd_60]; exact up_le hbm (by omega)
      have hbu_60 : d_60 ru = 1 := by rw [hd_60]; exact if_pos rfl
      refine lv_aload_n hx hb dX8_takeRule_76 rfl (lv_at hl 2 rfl) ?_
      refine va_get (D := D) (ci := 8) (v := .ref (a 28)) (C := RX8) (T := TX8) (N := 44) hx hb hts inX8 hown hK hP 4 rfl rfl 27 (by decide) (hts _ tw_1000) (fun _ h9 => h9) rfl dX8_takeRule_77 ?_
      refine lv_aload_n hx hb dX8_takeRule_80 rfl (lv_at hl 2 rfl) ?_
      refine va_get (D := D) (ci := 8) (v := .int (nI ru)) (C := RX8) (T := TX8) (N := 44) hx hb hts inX8 hown hK hP 4 rfl rfl 23 (by decide) (hts _ tw_996) (fun _ h9 => h9) rfl dX8_takeRule_81 ?_
      refine lv_iconst (v := 0) hx hb dX8_takeRule_84 (by decide) ?_
      refine va_iast hx hb hK hP hD hS 3 1 rfl rfl (vp_in_nI (by omega) (by decide)) dX8_takeRule_85 (fun H locs hP hD hS => ?_)
      have hQ9 := pd_mk [(aI k (a 25) 4 (nF d_60)), (aI k (a 26) 48 (upd fbarSeen (12 * ru) 0)), (aI k (a 27) 48 (upd fbarFrom (12 * ru) nu__5)), (aI k (a 28) 4 (upd fruleRounds (Int32.toNatClampNeg (nI ru)) 0)), ((a 0), .inr (8, (fX8 a (nI tx) (nI pl_6) (nI t0__5) wd__3 (nI we__3) nu__5 (nI nq_6) (nI rd) ts (nI ru) (nI rw) (nI ca) df db sd))), (aI k (a 5) 240 ftext)] hP hD
      clear hP hD
      obtain ⟨hP, hD⟩ := hQ9
      rw [nI_clamp (n := ru) (by omega)] at hP hD
      have hQ9 := pd_mk [(aI k (a 25) 4 (nF d_60)), (aI k (a 26) 48 (upd fbarSeen (12 * ru) 0)), (aI k (a 27) 48 (upd fbarFrom (12 * ru) nu__5)), (aI k (a 28) 4 (upd fruleRounds ru 0)), ((a 0), .inr (8, (fX8 a (nI tx) (nI pl_6) (nI t0__5) wd__3 (nI we__3) nu__5 (nI nq_6) (nI rd) ts (nI ru) (nI rw) (nI ca) df db sd))), (aI k (a 5) 240 ftext)] hP hD
      clear hP hD
      obtain ⟨hP, hD⟩ := hQ9
      obtain ⟨fs_62, hfs_62⟩ : ∃ z : Nat → Int32, z = (upd fbarSeen (12 * ru) 0) := ⟨_, rfl⟩
      obtain ⟨ff_62, hff_62⟩ : ∃ z : Nat → Int32, z = (upd fbarFrom (12 * ru) nu__5) := ⟨_, rfl⟩
      obtain ⟨rr_62, hrr_62⟩ : ∃ z : Nat → Int32, z = (upd fruleRounds ru 0) := ⟨_, rfl⟩
      rw [← hfs_62, ← hff_62, ← hrr_62] at hP hD
      have hK0_62 : ruK ru bm d_60 fbarSeen fs_62 fbarFrom ff_62 := by rw [hfs_62, hff_62]; exact ruK_tr (ruK_s (by omega)) (ruK_tr (ruK_f (by omega)) (ruK_b hd_60))
      have hb0_62 : d_60 ru = 1 := by rw [hd_60]; exact if_pos rfl
      have hs0_62 : fs_62 (12 * ru) = 0 := by rw [hfs_62]; exact pk_us
      have hf0_62 : ff_62 (12 * ru) = nu__5 := by rw [hff_62]; exact pk_us
      have hr0_62 : rr_62 ru = 0 := by rw [hrr_62]; exact pk_us
      have hrk_62 : ∀ q, q ≠ ru → rr_62 q = fruleRounds q := by rw [hrr_62]; exact fun q hq => pk_un hq
      refine lv_iload_n hx hb dX8_takeRule_86 rfl (lv_at hl 0 rfl) ?_
      refine lv_if_ne (tgt := 101) hx hb dX8_takeRule_87 (by decide) (fun _ => ?_) (fun h => absurd h (by decide))
      refine lv_iconst (v := 0) hx hb dX8_takeRule_101 (by decide) ?_
      refine lv_istore (lv' := [(4, .int 0), (3, .int 2), (1, .long 131638), (0, .ref (a 0))]) hx hb dX8_takeRule_102 hl (by decide) rfl (fun ls hl => ?_)
      refine lv_iload hx hb dX8_takeRule_104 (lv_at hl 0 rfl) ?_
      refine lv_if_eq (tgt := 198) hx hb dX8_takeRule_106 (by decide) (fun _ => ?_) (fun h => absurd (by decide) h)
      refine lv_iload_n hx hb dX8_takeRule_198 rfl (lv_at hl 1 rfl) ?_
      refine lv_if_le (tgt := 206) hx hb dX8_takeRule_199 (by decide) (fun h => absurd h (by decide)) (fun _ => ?_)
      refine lv_iload_n hx hb dX8_takeRule_202 rfl (lv_at hl 1 rfl) ?_
      refine lv_goto (tgt := 226) hx hb dX8_takeRule_203 (by decide) ?_
      obtain ⟨hP9, hD9⟩ := pd_sub [((a 0), .inr (8, (fX8 a (nI tx) (nI pl_6) (nI t0__5) wd__3 (nI we__3) nu__5 (nI nq_6) (nI rd) ts (nI ru) (nI rw) (nI ca) df db sd))), (aI k (a 5) 240 ftext), (aI k (a 25) 4 (nF d_60)), (aI k (a 26) 48 fs_62), (aI k (a 27) 48 ff_62), (aI k (a 28) 4 rr_62)] [4, 5, 0, 1, 2, 3] hP hD (by decide) rfl
      exact W.iret (v := 2) hx hb hr (fun t ht hW => ⟨⟨2, (t0__5, wd__3, we__3, (nI pl_6), nu__5, (nI nq_6), d_60, fs_62, ff_62, rr_62), rfl, ⟨.inr ⟨2, pl_6, rfl, by omega, by omega, (rf_h hH1_56 (by decide) hH2_56).1, (rf_h hH1_56 (by decide) hH2_56).2, rfl⟩, fun q hq => ruM_K hK0_62 hrk_62 hbm hq, hbb_60⟩, by rw [ht]; exact hP9, hD9⟩, hS.F ht⟩) hS.2.2 dX8_takeRule_226
  · refine lv_istore_n (lv' := [(3, .int 1), (1, .long 131638), (0, .ref (a 0))]) hx hb dX8_takeRule_20 rfl hl (by decide) rfl (fun ls hl => ?_)
    refine lv_iload_n hx hb dX8_takeRule_21 rfl (lv_at hl 0 rfl) ?_
    refine lv_if_le (tgt := 29) hx hb dX8_takeRule_22 (by decide) (fun h => absurd h (by decide)) (fun _ => ?_)
    refine lv_iload_n hx hb dX8_takeRule_25 rfl (lv_at hl 0 rfl) ?_
    refine lv_goto (tgt := 36) hx hb dX8_takeRule_26 (by decide) ?_
    refine lv_istore_n (lv' := [(3, .int 1), (1, .long 131638), (0, .ref (a 0))]) hx hb dX8_takeRule_36 rfl hl (by decide) rfl (fun ls hl => ?_)
    have hH1_63 : (ruH ftext tx t0).1 = 1 := by simp [ruH, hq_4, -List.getD_eq_getElem?_getD]
    have hH2_63 : (ruH ftext tx t0).2.1 = pl_4 := by simp [ruH, hq_4, -List.getD_eq_getElem?_getD]
    refine lv_aload_n hx hb dX8_takeRule_37 rfl (lv_at hl 2 rfl) ?_
    refine va_get (D := D) (ci := 8) (v := .ref (a 26)) (C := RX8) (T := TX8) (N := 44) hx hb hts inX8 hown hK hP 4 rfl rfl 25 (by decide) (hts _ tw_998) (fun _ h9 => h9) rfl dX8_takeRule_38 ?_
    refine lv_bipush (v := 12) hx hb dX8_takeRule_41 (by decide) ?_
    refine lv_aload_n hx hb dX8_takeRule_43 rfl (lv_at hl 2 rfl) ?_
    refine va_get (D := D) (ci := 8) (v := .int (nI ru)) (C := RX8) (T := TX8) (N := 44) hx hb hts inX8 hown hK hP 4 rfl rfl 23 (by decide) (hts _ tw_996) (fun _ h9 => h9) rfl dX8_takeRule_44 ?_
    refine lv_imul hx hb dX8_takeRule_47 ?_
    refine lv_ti (y := (nI (12 * ru))) (pk_mul 12 ru) ?_
    refine lv_iconst (v := 0) hx hb dX8_takeRule_48 (by decide) ?_
    refine va_iast hx hb hK hP hD hS 1 1 rfl rfl (vp_in_nI (by omega) (by decide)) dX8_takeRule_49 (fun H locs hP hD hS => ?_)
    have hQ9 := pd_mk [(aI k (a 25) 4 (nF bm)), (aI k (a 26) 48 (upd fbarSeen (Int32.toNatClampNeg (nI (12 * ru))) 0)), (aI k (a 27) 48 fbarFrom), (aI k (a 28) 4 fruleRounds), ((a 0), .inr (8, (fX8 a (nI tx) (nI pl_4) (nI t0__3) wd__3 (nI we__3) nu na (nI rd) ts (nI ru) (nI rw) (nI ca) df db sd))), (aI k (a 5) 240 ftext)] hP hD
    clear hP hD
    obtain ⟨hP, hD⟩ := hQ9
    rw [nI_clamp (n := (12 * ru)) (by omega)] at hP hD
    have hQ9 := pd_mk [(aI k (a 25) 4 (nF bm)), (aI k (a 26) 48 (upd fbarSeen (12 * ru) 0)), (aI k (a 27) 48 fbarFrom), (aI k (a 28) 4 fruleRounds), ((a 0), .inr (8, (fX8 a (nI tx) (nI pl_4) (nI t0__3) wd__3 (nI we__3) nu na (nI rd) ts (nI ru) (nI rw) (nI ca) df db sd))), (aI k (a 5) 240 ftext)] hP hD
    clear hP hD
    obtain ⟨hP, hD⟩ := hQ9
    refine lv_aload_n hx hb dX8_takeRule_50 rfl (lv_at hl 2 rfl) ?_
    refine va_get (D := D) (ci := 8) (v := .ref (a 27)) (C := RX8) (T := TX8) (N := 44) hx hb hts inX8 hown hK hP 4 rfl rfl 26 (by decide) (hts _ tw_999) (fun _ h9 => h9) rfl dX8_takeRule_51 ?_
    refine lv_bipush (v := 12) hx hb dX8_takeRule_54 (by decide) ?_
    refine lv_aload_n hx hb dX8_takeRule_56 rfl (lv_at hl 2 rfl) ?_
    refine va_get (D := D) (ci := 8) (v := .int (nI ru)) (C := RX8) (T := TX8) (N := 44) hx hb hts inX8 hown hK hP 4 rfl rfl 23 (by decide) (hts _ tw_996) (fun _ h9 => h9) rfl dX8_takeRule_57 ?_
    refine lv_imul hx hb dX8_takeRule_60 ?_
    refine lv_ti (y := (nI (12 * ru))) (pk_mul 12 ru) ?_
    refine lv_aload_n hx hb dX8_takeRule_61 rfl (lv_at hl 2 rfl) ?_
    refine va_get (D := D) (ci := 8) (v := .int nu) (C := RX8) (T := TX8) (N := 44) hx hb hts inX8 hown hK hP 4 rfl rfl 10 (by decide) (hts _ tw_983) (fun _ h9 => h9) rfl dX8_takeRule_62 ?_
    refine va_iast hx hb hK hP hD hS 2 1 rfl rfl (vp_in_nI (by omega) (by decide)) dX8_takeRule_65 (fun H locs hP hD hS => ?_)
    have hQ9 := pd_mk [(aI k (a 25) 4 (nF bm)), (aI k (a 26) 48 (upd fbarSeen (12 * ru) 0)), (aI k (a 27) 48 (upd fbarFrom (Int32.toNatClampNeg (nI (12 * ru))) nu)), (aI k (a 28) 4 fruleRounds), ((a 0), .inr (8, (fX8 a (nI tx) (nI pl_4) (nI t0__3) wd__3 (nI we__3) nu na (nI rd) ts (nI ru) (nI rw) (nI ca) df db sd))), (aI k (a 5) 240 ftext)] hP hD
    clear hP hD
    obtain ⟨hP, hD⟩ := hQ9
    rw [nI_clamp (n := (12 * ru)) (by omega)] at hP hD
    have hQ9 := pd_mk [(aI k (a 25) 4 (nF bm)), (aI k (a 26) 48 (upd fbarSeen (12 * ru) 0)), (aI k (a 27) 48 (upd fbarFrom (12 * ru) nu)), (aI k (a 28) 4 fruleRounds), ((a 0), .inr (8, (fX8 a (nI tx) (nI pl_4) (nI t0__3) wd__3 (nI we__3) nu na (nI rd) ts (nI ru) (nI rw) (nI ca) df db sd))), (aI k (a 5) 240 ftext)] hP hD
    clear hP hD
    obtain ⟨hP, hD⟩ := hQ9
    refine lv_aload_n hx hb dX8_takeRule_66 rfl (lv_at hl 2 rfl) ?_
    refine va_get (D := D) (ci := 8) (v := .ref (a 25)) (C := RX8) (T := TX8) (N := 44) hx hb hts inX8 hown hK hP 4 rfl rfl 24 (by decide) (hts _ tw_997) (fun _ h9 => h9) rfl dX8_takeRule_67 ?_
    refine lv_aload_n hx hb dX8_takeRule_70 rfl (lv_at hl 2 rfl) ?_
    refine va_get (D := D) (ci := 8) (v := .int (nI ru)) (C := RX8) (T := TX8) (N := 44) hx hb hts inX8 hown hK hP 4 rfl rfl 23 (by decide) (hts _ tw_996) (fun _ h9 => h9) rfl dX8_takeRule_71 ?_
    refine lv_iconst (v := 1) hx hb dX8_takeRule_74 (by decide) ?_
    refine va_iast hx hb hK hP hD hS 0 1 rfl rfl (vp_in_nI (by omega) (by decide)) dX8_takeRule_75 (fun H locs hP hD hS => ?_)
    have hQ9 := pd_mk [(aI k (a 25) 4 (upd (nF bm) (Int32.toNatClampNeg (nI ru)) 1)), (aI k (a 26) 48 (upd fbarSeen (12 * ru) 0)), (aI k (a 27) 48 (upd fbarFrom (12 * ru) nu)), (aI k (a 28) 4 fruleRounds), ((a 0), .inr (8, (fX8 a (nI tx) (nI pl_4) (nI t0__3) wd__3 (nI we__3) nu na (nI rd) ts (nI ru) (nI rw) (nI ca) df db sd))), (aI k (a 5) 240 ftext)] hP hD
    clear hP hD
    obtain ⟨hP, hD⟩ := hQ9
    rw [nI_clamp (n := ru) (by omega)] at hP hD
    rw [show upd (nF bm) ru 1 = nF (fun j => if j = ru then 1 else bm j) from nF_upd _ _ _] at hP hD
    obtain ⟨d_67, hd_67⟩ : ∃ z : Nat → Nat, z = (fun j => if j = ru then 1 else bm j) := ⟨_, rfl⟩
    rw [← hd_67] at hP hD
    have hbb_67 : ∀ j, d_67 j ≤ 12 := by rw [hd_67]; exact up_le hbm (by omega)
    have hbu_67 : d_67 ru = 1 := by rw [hd_67]; exact if_pos rfl
    refine lv_aload_n hx hb dX8_takeRule_76 rfl (lv_at hl 2 rfl) ?_
    refine va_get (D := D) (ci := 8) (v := .ref (a 28)) (C := RX8) (T := TX8) (N := 44) hx hb hts inX8 hown hK hP 4 rfl rfl 27 (by decide) (hts _ tw_1000) (fun _ h9 => h9) rfl dX8_takeRule_77 ?_
    refine lv_aload_n hx hb dX8_takeRule_80 rfl (lv_at hl 2 rfl) ?_
    refine va_get (D := D) (ci := 8) (v := .int (nI ru)) (C := RX8) (T := TX8) (N := 44) hx hb hts inX8 hown hK hP 4 rfl rfl 23 (by decide) (hts _ tw_996) (fun _ h9 => h9) rfl dX8_takeRule_81 ?_
    refine lv_iconst (v := 0) hx hb dX8_takeRule_84 (by decide) ?_
    refine va_iast hx hb hK hP hD hS 3 1 rfl rfl (vp_in_nI (by omega) (by decide)) dX8_takeRule_85 (fun H locs hP hD hS => ?_)
    have hQ9 := pd_mk [(aI k (a 25) 4 (nF d_67)), (aI k (a 26) 48 (upd fbarSeen (12 * ru) 0)), (aI k (a 27) 48 (upd fbarFrom (12 * ru) nu)), (aI k (a 28) 4 (upd fruleRounds (Int32.toNatClampNeg (nI ru)) 0)), ((a 0), .inr (8, (fX8 a (nI tx) (nI pl_4) (nI t0__3) wd__3 (nI we__3) nu na (nI rd) ts (nI ru) (nI rw) (nI ca) df db sd))), (aI k (a 5) 240 ftext)] hP hD
    clear hP hD
    obtain ⟨hP, hD⟩ := hQ9
    rw [nI_clamp (n := ru) (by omega)] at hP hD
    have hQ9 := pd_mk [(aI k (a 25) 4 (nF d_67)), (aI k (a 26) 48 (upd fbarSeen (12 * ru) 0)), (aI k (a 27) 48 (upd fbarFrom (12 * ru) nu)), (aI k (a 28) 4 (upd fruleRounds ru 0)), ((a 0), .inr (8, (fX8 a (nI tx) (nI pl_4) (nI t0__3) wd__3 (nI we__3) nu na (nI rd) ts (nI ru) (nI rw) (nI ca) df db sd))), (aI k (a 5) 240 ftext)] hP hD
    clear hP hD
    obtain ⟨hP, hD⟩ := hQ9
    obtain ⟨fs_69, hfs_69⟩ : ∃ z : Nat → Int32, z = (upd fbarSeen (12 * ru) 0) := ⟨_, rfl⟩
    obtain ⟨ff_69, hff_69⟩ : ∃ z : Nat → Int32, z = (upd fbarFrom (12 * ru) nu) := ⟨_, rfl⟩
    obtain ⟨rr_69, hrr_69⟩ : ∃ z : Nat → Int32, z = (upd fruleRounds ru 0) := ⟨_, rfl⟩
    rw [← hfs_69, ← hff_69, ← hrr_69] at hP hD
    have hK0_69 : ruK ru bm d_67 fbarSeen fs_69 fbarFrom ff_69 := by rw [hfs_69, hff_69]; exact ruK_tr (ruK_s (by omega)) (ruK_tr (ruK_f (by omega)) (ruK_b hd_67))
    have hb0_69 : d_67 ru = 1 := by rw [hd_67]; exact if_pos rfl
    have hs0_69 : fs_69 (12 * ru) = 0 := by rw [hfs_69]; exact pk_us
    have hf0_69 : ff_69 (12 * ru) = nu := by rw [hff_69]; exact pk_us
    have hr0_69 : rr_69 ru = 0 := by rw [hrr_69]; exact pk_us
    have hrk_69 : ∀ q, q ≠ ru → rr_69 q = fruleRounds q := by rw [hrr_69]; exact fun q hq => pk_un hq
    refine lv_iload_n hx hb dX8_takeRule_86 rfl (lv_at hl 0 rfl) ?_
    refine lv_if_ne (tgt := 101) hx hb dX8_takeRule_87 (by decide) (fun _ => ?_) (fun h => absurd h (by decide))
    refine lv_iconst (v := 0) hx hb dX8_takeRule_101 (by decide) ?_
    refine lv_istore (lv' := [(4, .int 0), (3, .int 1), (1, .long 131638), (0, .ref (a 0))]) hx hb dX8_takeRule_102 hl (by decide) rfl (fun ls hl => ?_)
    refine lv_iload hx hb dX8_takeRule_104 (lv_at hl 0 rfl) ?_
    refine lv_if_eq (tgt := 198) hx hb dX8_takeRule_106 (by decide) (fun _ => ?_) (fun h => absurd (by decide) h)
    refine lv_iload_n hx hb dX8_takeRule_198 rfl (lv_at hl 1 rfl) ?_
    refine lv_if_le (tgt := 206) hx hb dX8_takeRule_199 (by decide) (fun h => absurd h (by decide)) (fun _ => ?_)
    refine lv_iload_n hx hb dX8_takeRule_202 rfl (lv_at hl 1 rfl) ?_
    refine lv_goto (tgt := 226) hx hb dX8_takeRule_203 (by decide) ?_
    obtain ⟨hP9, hD9⟩ := pd_sub [((a 0), .inr (8, (fX8 a (nI tx) (nI pl_4) (nI t0__3) wd__3 (nI we__3) nu na (nI rd) ts (nI ru) (nI rw) (nI ca) df db sd))), (aI k (a 5) 240 ftext), (aI k (a 25) 4 (nF d_67)), (aI k (a 26) 48 fs_69), (aI k (a 27) 48 ff_69), (aI k (a 28) 4 rr_69)] [4, 5, 0, 1, 2, 3] hP hD (by decide) rfl
    exact W.iret (v := 1) hx hb hr (fun t ht hW => ⟨⟨1, (t0__3, wd__3, we__3, (nI pl_4), nu, na, d_67, fs_69, ff_69, rr_69), rfl, ⟨.inr ⟨1, pl_4, rfl, by omega, by omega, (rf_h hH1_63 (by decide) hH2_63).1, (rf_h hH1_63 (by decide) hH2_63).2, rfl⟩, fun q hq => ruM_K hK0_69 hrk_69 hbm hq, hbb_67⟩, by rw [ht]; exact hP9, hD9⟩, hS.F ht⟩) hS.2.2 dX8_takeRule_226


set_option maxHeartbeats 4000000 in
set_option maxRecDepth 100000 in
theorem n_rule (l : Launch) (D : va_G) (k : Nat → ClassId) (st : Nat → Nat) (lo : Nat) (a : Nat → Nat) (tx : Nat) (t0 : Nat) (we : Nat) (rd : Nat) (ru : Nat) (rw : Nat) (ca : Nat) (fp : Int32) (wd : Int64) (nu : Int32) (na : Int32) (ts : Int32) (df : Int32) (db : Int32) (sd : Int32) (ftext : Nat → Int32) (bm : Nat → Nat) (fbarSeen : Nat → Int32) (fbarFrom : Nat → Int32) (fruleRounds : Nat → Int32) (htx : tx ≤ 240) (hbm : ∀ j, bm j ≤ 12) (hru : ru ≤ 4) (hty : ∀ j, 0 ≤ ftext j) : CWi l D k st lo yX8_rule cX8_rule 2 (some .int) ({ frames := 5, cells := 0, slots := 0, locals := 122 }) 0 0 [.ref (a 0)] [((a 0), .inr (8, (fX8 a (nI tx) fp (nI t0) wd (nI we) nu na (nI rd) ts (nI ru) (nI rw) (nI ca) df db sd))), (aI k (a 5) 240 ftext), (aI k (a 25) 4 (nF bm)), (aI k (a 26) 48 fbarSeen), (aI k (a 27) 48 fbarFrom), (aI k (a 28) 4 fruleRounds)] (fun (r : Int32) (u : Nat × Int64 × Nat × Int32 × Int32 × Int32 × Nat × Nat × (Nat → Nat) × (Nat → Int32) × (Nat → Int32) × (Nat → Int32)) => match u with | (t0_, wd_, we_, fp_, nu_, na_, tx_, ru_, bm_, fbarSeen_, fbarFrom_, fruleRounds_) => (ruP ftext tx fp ru (ruM bm fbarSeen fbarFrom fruleRounds) r tx_ fp_ ru_ (ruM bm_ fbarSeen_ fbarFrom_ fruleRounds_)) ∧ tx_ ≤ 240 ∧ ru_ ≤ 4 ∧ (∀ j, bm_ j ≤ 12)) (fun (u : Nat × Int64 × Nat × Int32 × Int32 × Int32 × Nat × Nat × (Nat → Nat) × (Nat → Int32) × (Nat → Int32) × (Nat → Int32)) => match u with | (t0_, wd_, we_, fp_, nu_, na_, tx_, ru_, bm_, fbarSeen_, fbarFrom_, fruleRounds_) => [((a 0), .inr (8, (fX8 a (nI tx_) fp_ (nI t0_) wd_ (nI we_) nu_ na_ (nI rd) ts (nI ru_) (nI rw) (nI ca) df db sd))), (aI k (a 5) 240 ftext), (aI k (a 25) 4 (nF bm_)), (aI k (a 26) 48 fbarSeen_), (aI k (a 27) 48 fbarFrom_), (aI k (a 28) 4 fruleRounds_)]) := by
  intro sz
  refine Met.ofW (cc := cX8_rule) (maxL := 2) (ret := (some .int)) (by decide) rfl ?_
  intro p e s m args below meth c s₁ B hml hv
  obtain ⟨rfl, hsz, hlo, hP, hK, hDL, hZ⟩ := hv
  have hx := B.exec
  have hb := B.bytes
  have hr := B.returns
  have hts := WS_ts B.pre
  have hown : s.vm.findClass RX8 = some m.cls := findClass_of_methodNamed B.named
  have hlocks := B.notSynchronized
  subst hsz
  have hD := hDL.self (sz := s.heap.size)
  have hAlo := A_lo hDL hlo
  generalize hAe : va_A [((a 0), .inr (8, (fX8 a (nI tx) fp (nI t0) wd (nI we) nu na (nI rd) ts (nI ru) (nI rw) (nI ca) df db sd))), (aI k (a 5) 240 ftext), (aI k (a 25) 4 (nF bm)), (aI k (a 26) 48 fbarSeen), (aI k (a 27) 48 fbarFrom), (aI k (a 28) 4 fruleRounds)] s.heap.size = A at hD hAlo ⊢
  have hA : ∀ q : Nat, s.heap.size ≤ q → A q := fun q h => by rw [← hAe]; exact Or.inr h
  have hS : va_S A s.heap s.heap [] := va_S.rf
  have hl := lv_entry ([.ref (a 0)]) (n := 2) (Nat.le_of_ble_eq_true rfl)
  rw [lg_entry_eq]
  generalize (lg_sl ([.ref (a 0)]) ++ List.replicate (2 - (lg_sl ([.ref (a 0)])).length) Slot.unset).toArray = ls at hl ⊢
  have hl : lv_has ls 2 [(0, .ref (a 0))] := hl
  refine lv_aload_n hx hb dX8_rule_0 rfl (lv_at hl 0 rfl) ?_
  refine va_get (D := D) (ci := 8) (v := .int (nI tx)) (C := RX8) (T := TX8) (N := 44) hx hb hts inX8 hown hK hP 0 rfl rfl 5 (by decide) (hts _ tw_978) (fun _ h9 => h9) rfl dX8_rule_1 ?_
  refine lv_bipush (v := 80) hx hb dX8_rule_4 (by decide) ?_
  refine lv_icmp_le (tgt := 13) hx hb dX8_rule_6 (by decide) (fun c_1 => ?_) (fun c_1 => ?_)
  · have c_1 := (nI_leI (a := tx) (b := 80) (by omega) (by omega)).mp c_1
    refine lv_aload_n hx hb dX8_rule_13 rfl (lv_at hl 0 rfl) ?_
    refine va_get (D := D) (ci := 8) (v := .int (nI ru)) (C := RX8) (T := TX8) (N := 44) hx hb hts inX8 hown hK hP 0 rfl rfl 23 (by decide) (hts _ tw_996) (fun _ h9 => h9) rfl dX8_rule_14 ?_
    refine lv_iconst (v := 4) hx hb dX8_rule_17 (by decide) ?_
    refine lv_icmp_ne (tgt := 25) hx hb dX8_rule_18 (by decide) (fun c_2 => ?_) (fun c_2 => ?_)
    · have c_2 : ¬ (ru = 4) := fun h => c_2 ((nI_eq (a := ru) (b := 4) (by omega) (by omega)).mpr h)
      refine lv_aload_n hx hb dX8_rule_25 rfl (lv_at hl 0 rfl) ?_
      refine lv_iconst (v := (-1)) hx hb dX8_rule_26 (by decide) ?_
      refine va_put (D := D) (ci := 8) (v := .int (-1)) (ty := .int) (C := RX8) (T := TX8) (N := 44) hx hb hts inX8 tyX8 tyX8_ok nmX8 hown hK hP hD hS 0 rfl rfl 6 (by decide) (hts _ tw_979) (fun _ h9 => h9) rfl (by decide +kernel) rfl rfl (Nat.le_of_ble_eq_true rfl) dX8_rule_27 (fun H locs hP hD hS => ?_)
      have hQ9 := pd_mk [((a 0), .inr (8, (fX8 a (nI tx) (-1) (nI t0) wd (nI we) nu na (nI rd) ts (nI ru) (nI rw) (nI ca) df db sd))), (aI k (a 5) 240 ftext), (aI k (a 25) 4 (nF bm)), (aI k (a 26) 48 fbarSeen), (aI k (a 27) 48 fbarFrom), (aI k (a 28) 4 fruleRounds)] hP hD
      clear hP hD
      obtain ⟨hP, hD⟩ := hQ9
      refine lv_aload_n hx hb dX8_rule_30 rfl (lv_at hl 0 rfl) ?_
      refine lv_iconst (v := 0) hx hb dX8_rule_31 (by decide) ?_
      refine va_put (D := D) (ci := 8) (v := .int 0) (ty := .int) (C := RX8) (T := TX8) (N := 44) hx hb hts inX8 tyX8 tyX8_ok nmX8 hown hK hP hD hS 0 rfl rfl 7 (by decide) (hts _ tw_980) (fun _ h9 => h9) rfl (by decide +kernel) rfl rfl (Nat.le_of_ble_eq_true rfl) dX8_rule_32 (fun H locs hP hD hS => ?_)
      have hQ9 := pd_mk [((a 0), .inr (8, (fX8 a (nI tx) (-1) 0 wd (nI we) nu na (nI rd) ts (nI ru) (nI rw) (nI ca) df db sd))), (aI k (a 5) 240 ftext), (aI k (a 25) 4 (nF bm)), (aI k (a 26) 48 fbarSeen), (aI k (a 27) 48 fbarFrom), (aI k (a 28) 4 fruleRounds)] hP hD
      clear hP hD
      obtain ⟨hP, hD⟩ := hQ9
      refine lv_aload_n hx hb dX8_rule_35 rfl (lv_at hl 0 rfl) ?_
      refine rw_i (D := D) (wr := []) (va_runV (As := []) (rest := []) ⟨hx, hb, hml, hown, hts⟩ ((n_takeRule l D k st lo a tx 0 we rd ru rw ca (-1) wd nu na ts df db sd ftext bm fbarSeen fbarFrom fruleRounds (by first | assumption | omega) (by first | assumption | omega) hbm (by first | assumption | omega) (by first | assumption | omega) (by first | assumption | omega)) H.size) (cwV 0 hts (gV tw_1309 tw_1311 tw_55 tw_87 tw_1312) rfl rfl rfl (by decide +kernel) ⟨Nat.le_of_ble_eq_true rfl, Nat.le_of_ble_eq_true rfl⟩) (pV hS hAlo hlo hP hK (va_Dlo hD hAlo) hZ [0, 1, 2, 3, 4, 5] (by decide) rfl (ci := 8) (q := (RX8, TX8, 44)) (q0 := 0) rfl rfl) rfl rfl hl.1 rfl (lv_room (Nat.le_of_ble_eq_true rfl)) dX8_rule_36 ⟨Nat.le_of_ble_eq_true rfl, Nat.le_of_ble_eq_true rfl⟩) hS hA hP hD [0, 1, 2, 3, 4, 5] [] rfl rfl (by decide) (by decide) (fun r_3 u H locs hw_3 hP hD hS => ?_)
      obtain ⟨t0__3, wd__3, we__3, fp__3, nu__3, na__3, bm__3, fbarSeen__3, fbarFrom__3, fruleRounds__3⟩ := u
      have hQ9 := pd_mk [((a 0), .inr (8, (fX8 a (nI tx) fp__3 (nI t0__3) wd__3 (nI we__3) nu__3 na__3 (nI rd) ts (nI ru) (nI rw) (nI ca) df db sd))), (aI k (a 5) 240 ftext), (aI k (a 25) 4 (nF bm__3)), (aI k (a 26) 48 fbarSeen__3), (aI k (a 27) 48 fbarFrom__3), (aI k (a 28) 4 fruleRounds__3)] hP hD
      clear hP hD
      obtain ⟨hP, hD⟩ := hQ9
      try dsimp only at hw_3
      rcases hw_3 with ⟨⟨rfl, hrf_4, hfp_4⟩ | ⟨e_4, pl_4, rfl, he1_4, he2_4, hp1_4, hp2_4, rfl⟩, hM_4, hw_3⟩
      · replace hfp_4 := hfp_4.symm
        subst hfp_4
        refine lv_istore_n (lv' := [(1, .int 0), (0, .ref (a 0))]) hx hb dX8_rule_39 rfl hl (by decide) rfl (fun ls hl => ?_)
        refine lv_aload_n hx hb dX8_rule_40 rfl (lv_at hl 1 rfl) ?_
        refine lv_iconst (v := 0) hx hb dX8_rule_41 (by decide) ?_
        refine va_put (D := D) (ci := 8) (v := .int 0) (ty := .int) (C := RX8) (T := TX8) (N := 44) hx hb hts inX8 tyX8 tyX8_ok nmX8 hown hK hP hD hS 0 rfl rfl 5 (by decide) (hts _ tw_978) (fun _ h9 => h9) rfl (by decide +kernel) rfl rfl (Nat.le_of_ble_eq_true rfl) dX8_rule_42 (fun H locs hP hD hS => ?_)
        have hQ9 := pd_mk [((a 0), .inr (8, (fX8 a 0 (-1) (nI t0__3) wd__3 (nI we__3) nu__3 na__3 (nI rd) ts (nI ru) (nI rw) (nI ca) df db sd))), (aI k (a 5) 240 ftext), (aI k (a 25) 4 (nF bm__3)), (aI k (a 26) 48 fbarSeen__3), (aI k (a 27) 48 fbarFrom__3), (aI k (a 28) 4 fruleRounds__3)] hP hD
        clear hP hD
        obtain ⟨hP, hD⟩ := hQ9
        refine lv_iload_n hx hb dX8_rule_45 rfl (lv_at hl 0 rfl) ?_
        refine lv_if_le (tgt := 54) hx hb dX8_rule_46 (by decide) (fun _ => ?_) (fun h => absurd (by decide) h)
        refine lv_aload_n hx hb dX8_rule_54 rfl (lv_at hl 1 rfl) ?_
        refine lv_dup hx hb dX8_rule_55 rfl ?_
        refine va_get (D := D) (ci := 8) (v := .int (nI ru)) (C := RX8) (T := TX8) (N := 44) hx hb hts inX8 hown hK hP 0 rfl rfl 23 (by decide) (hts _ tw_996) (fun _ h9 => h9) rfl dX8_rule_56 ?_
        refine lv_iconst (v := 1) hx hb dX8_rule_59 (by decide) ?_
        refine lv_iadd hx hb dX8_rule_60 ?_
        refine lv_ti (y := (nI (ru + 1))) (nI_add ru 1) ?_
        refine va_put (D := D) (ci := 8) (v := .int (nI (ru + 1))) (ty := .int) (C := RX8) (T := TX8) (N := 44) hx hb hts inX8 tyX8 tyX8_ok nmX8 hown hK hP hD hS 0 rfl rfl 23 (by decide) (hts _ tw_996) (fun _ h9 => h9) rfl (by decide +kernel) rfl rfl (Nat.le_of_ble_eq_true rfl) dX8_rule_61 (fun H locs hP hD hS => ?_)
        have hQ9 := pd_mk [((a 0), .inr (8, (fX8 a 0 (-1) (nI t0__3) wd__3 (nI we__3) nu__3 na__3 (nI rd) ts (nI (ru + 1)) (nI rw) (nI ca) df db sd))), (aI k (a 5) 240 ftext), (aI k (a 25) 4 (nF bm__3)), (aI k (a 26) 48 fbarSeen__3), (aI k (a 27) 48 fbarFrom__3), (aI k (a 28) 4 fruleRounds__3)] hP hD
        clear hP hD
        obtain ⟨hP, hD⟩ := hQ9
        refine lv_aload_n hx hb dX8_rule_64 rfl (lv_at hl 1 rfl) ?_
        refine va_get (D := D) (ci := 8) (v := .int (nI (ru + 1))) (C := RX8) (T := TX8) (N := 44) hx hb hts inX8 hown hK hP 0 rfl rfl 23 (by decide) (hts _ tw_996) (fun _ h9 => h9) rfl dX8_rule_65 ?_
        refine lv_iconst (v := 1) hx hb dX8_rule_68 (by decide) ?_
        refine lv_isub hx hb dX8_rule_69 ?_
        refine lv_ti (y := (nI (ru + 1) - 1)) rfl ?_
        obtain ⟨hP9, hD9⟩ := pd_sub [((a 0), .inr (8, (fX8 a 0 (-1) (nI t0__3) wd__3 (nI we__3) nu__3 na__3 (nI rd) ts (nI (ru + 1)) (nI rw) (nI ca) df db sd))), (aI k (a 5) 240 ftext), (aI k (a 25) 4 (nF bm__3)), (aI k (a 26) 48 fbarSeen__3), (aI k (a 27) 48 fbarFrom__3), (aI k (a 28) 4 fruleRounds__3)] [0, 1, 2, 3, 4, 5] hP hD (by decide) rfl
        exact W.iret (v := (nI (ru + 1) - 1)) hx hb hr (fun t ht hW => ⟨⟨(nI (ru + 1) - 1), (t0__3, wd__3, we__3, (-1), nu__3, na__3, 0, (ru + 1), bm__3, fbarSeen__3, fbarFrom__3, fruleRounds__3), rfl, ⟨⟨fun h => absurd h (by omega), fun _ h => absurd h (by omega), fun _ _ => ⟨rfl, hM_4, .inr ⟨hrf_4, (by show nI (ru + 1) - nI 1 = nI ru; rw [pk_sub (by omega)]; rfl), rfl, rfl⟩⟩⟩, by omega, by omega, hw_3⟩, by rw [ht]; exact hP9, hD9⟩, hS.F ht⟩) hS.2.2 dX8_rule_70
      · refine lv_istore_n (lv' := [(1, .int (nI e_4)), (0, .ref (a 0))]) hx hb dX8_rule_39 rfl hl (by decide) rfl (fun ls hl => ?_)
        refine lv_aload_n hx hb dX8_rule_40 rfl (lv_at hl 1 rfl) ?_
        refine lv_iconst (v := 0) hx hb dX8_rule_41 (by decide) ?_
        refine va_put (D := D) (ci := 8) (v := .int 0) (ty := .int) (C := RX8) (T := TX8) (N := 44) hx hb hts inX8 tyX8 tyX8_ok nmX8 hown hK hP hD hS 0 rfl rfl 5 (by decide) (hts _ tw_978) (fun _ h9 => h9) rfl (by decide +kernel) rfl rfl (Nat.le_of_ble_eq_true rfl) dX8_rule_42 (fun H locs hP hD hS => ?_)
        have hQ9 := pd_mk [((a 0), .inr (8, (fX8 a 0 (nI pl_4) (nI t0__3) wd__3 (nI we__3) nu__3 na__3 (nI rd) ts (nI ru) (nI rw) (nI ca) df db sd))), (aI k (a 5) 240 ftext), (aI k (a 25) 4 (nF bm__3)), (aI k (a 26) 48 fbarSeen__3), (aI k (a 27) 48 fbarFrom__3), (aI k (a 28) 4 fruleRounds__3)] hP hD
        clear hP hD
        obtain ⟨hP, hD⟩ := hQ9
        refine lv_iload_n hx hb dX8_rule_45 rfl (lv_at hl 0 rfl) ?_
        refine lv_if_le (tgt := 54) hx hb dX8_rule_46 (by decide) (fun h => absurd ((nI_leI (a := e_4) (b := 0) (by omega) (by omega)).mp h) (by omega)) (fun _ => ?_)
        refine lv_bipush (v := (-10)) hx hb dX8_rule_49 (by decide) ?_
        refine lv_iload_n hx hb dX8_rule_51 rfl (lv_at hl 0 rfl) ?_
        refine lv_isub hx hb dX8_rule_52 ?_
        refine lv_topi (fun x_6 ex_6 => ?_)
        obtain ⟨hP9, hD9⟩ := pd_sub [((a 0), .inr (8, (fX8 a 0 (nI pl_4) (nI t0__3) wd__3 (nI we__3) nu__3 na__3 (nI rd) ts (nI ru) (nI rw) (nI ca) df db sd))), (aI k (a 5) 240 ftext), (aI k (a 25) 4 (nF bm__3)), (aI k (a 26) 48 fbarSeen__3), (aI k (a 27) 48 fbarFrom__3), (aI k (a 28) 4 fruleRounds__3)] [0, 1, 2, 3, 4, 5] hP hD (by decide) rfl
        exact W.iret (v := x_6) hx hb hr (fun t ht hW => ⟨⟨x_6, (t0__3, wd__3, we__3, (nI pl_4), nu__3, na__3, 0, ru, bm__3, fbarSeen__3, fbarFrom__3, fruleRounds__3), rfl, ⟨⟨fun h => absurd h (by omega), fun _ h => absurd h (by omega), fun _ _ => ⟨rfl, hM_4, .inl ⟨e_4, pl_4, he1_4, he2_4, hp1_4, hp2_4, ex_6, rfl, rfl⟩⟩⟩, by omega, by omega, hw_3⟩, by rw [ht]; exact hP9, hD9⟩, hS.F ht⟩) hS.2.2 dX8_rule_53
    · have c_2 := (nI_eq (a := ru) (b := 4) (by omega) (by omega)).mp c_2
      refine lv_sipush (v := (-1004)) hx hb dX8_rule_21 (by decide) ?_
      obtain ⟨hP9, hD9⟩ := pd_sub [((a 0), .inr (8, (fX8 a (nI tx) fp (nI t0) wd (nI we) nu na (nI rd) ts (nI ru) (nI rw) (nI ca) df db sd))), (aI k (a 5) 240 ftext), (aI k (a 25) 4 (nF bm)), (aI k (a 26) 48 fbarSeen), (aI k (a 27) 48 fbarFrom), (aI k (a 28) 4 fruleRounds)] [0, 1, 2, 3, 4, 5] hP hD (by decide) rfl
      exact W.iret (v := (-1004)) hx hb hr (fun t ht hW => ⟨⟨(-1004), (t0, wd, we, fp, nu, na, tx, ru, bm, fbarSeen, fbarFrom, fruleRounds), rfl, ⟨⟨fun h => absurd h (by omega), fun _ _ => ⟨rfl, rfl, rfl, rfl, fun _ _ => rfl⟩, fun _ h => absurd h (by omega)⟩, by omega, by omega, hbm⟩, by rw [ht]; exact hP9, hD9⟩, hS.F ht⟩) hS.2.2 dX8_rule_24
  · have c_1 : ¬ (tx ≤ 80) := fun h => c_1 ((nI_leI (a := tx) (b := 80) (by omega) (by omega)).mpr h)
    refine lv_sipush (v := (-1003)) hx hb dX8_rule_9 (by decide) ?_
    obtain ⟨hP9, hD9⟩ := pd_sub [((a 0), .inr (8, (fX8 a (nI tx) fp (nI t0) wd (nI we) nu na (nI rd) ts (nI ru) (nI rw) (nI ca) df db sd))), (aI k (a 5) 240 ftext), (aI k (a 25) 4 (nF bm)), (aI k (a 26) 48 fbarSeen), (aI k (a 27) 48 fbarFrom), (aI k (a 28) 4 fruleRounds)] [0, 1, 2, 3, 4, 5] hP hD (by decide) rfl
    exact W.iret (v := (-1003)) hx hb hr (fun t ht hW => ⟨⟨(-1003), (t0, wd, we, fp, nu, na, tx, ru, bm, fbarSeen, fbarFrom, fruleRounds), rfl, ⟨⟨fun _ => ⟨rfl, rfl, rfl, rfl, fun _ _ => rfl⟩, fun h => absurd h (by omega), fun h => absurd h (by omega)⟩, by omega, by omega, hbm⟩, by rw [ht]; exact hP9, hD9⟩, hS.F ht⟩) hS.2.2 dX8_rule_12

theorem f_glueP12 : True := trivial
/-! feed -/
theorem c255 : ∀ i, i < 32 → (255#32).getLsbD i = decide (i < 8) := by decide +kernel
theorem d255 : ∀ i, i < 32 → (255#64).getLsbD i = decide (i < 8) := by decide +kernel
theorem by_bits (x : Int64) : x.toInt32.toInt8.toInt32.toInt8.toInt32 &&& 255 = (x &&& 255).toInt32 := by
  apply Int32.toBitVec_inj.mp
  apply BitVec.eq_of_getLsbD_eq
  intro i hi
  show (((((x.toBitVec.signExtend 32).signExtend 8).signExtend 32).signExtend 8).signExtend 32 &&& 255#32).getLsbD i = ((x.toBitVec &&& 255#64).signExtend 32).getLsbD i
  have h1 : i < 64 := by omega
  rw [BitVec.getLsbD_and, c255 i hi]
  simp only [BitVec.getLsbD_signExtend, BitVec.getLsbD_and, d255 i hi]
  by_cases h : i < 8
  · simp [h, hi, h1]
  · simp [h, hi, h1]
/-- the byte k of a long, from its lowest -/
def byW (w : Int64) (k : Nat) : Int32 := ((w >>> ((nI (8 * k)).toInt64 &&& 63)) &&& 255).toInt32
theorem byW_x {w x : Int64} {y z : Int32} {k : Nat} (h1 : x = w >>> ((nI (8 * k)).toInt64 &&& 63)) (h2 : y = x.toInt32) (h3 : z = y.toInt8.toInt32) : (vp_nar .byte z) &&& 255 = byW w k := by
  show z.toInt8.toInt32 &&& 255 = _
  rw [h3, h2, h1]
  exact by_bits _
def feB (b : Nat → Int32) (tz : Nat) (w : Int64) (n m : Nat) : Nat → Int32 := fun j => if tz ≤ j ∧ j < tz + m then byW w (n - 1 - (j - tz)) else b j
theorem feB_0 {b : Nat → Int32} {tz n : Nat} {w : Int64} : feB b tz w n 0 = b := by
  funext j
  unfold feB
  rw [if_neg (by omega)]
theorem feB_s {b : Nat → Int32} {tz n q : Nat} {w : Int64} (hq : q + 1 ≤ n) : upd (feB b tz w n (n - (q + 1))) (tz + (n - (q + 1))) (byW w q) = feB b tz w n (n - q) := by
  funext j
  show (if j = tz + (n - (q + 1)) then byW w q else (if tz ≤ j ∧ j < tz + (n - (q + 1)) then byW w (n - 1 - (j - tz)) else b j)) = (if tz ≤ j ∧ j < tz + (n - q) then byW w (n - 1 - (j - tz)) else b j)
  by_cases h : j = tz + (n - (q + 1))
  · rw [if_pos h, if_pos (by omega), show n - 1 - (j - tz) = q by omega]
  · rw [if_neg h]
    by_cases h1 : tz ≤ j ∧ j < tz + (n - (q + 1))
    · rw [if_pos h1, if_pos (by omega)]
    · rw [if_neg h1, if_neg (by omega)]
theorem bF_upd {f : Nat → Int32} {i : Nat} {v : Int32} : bF (upd f i v) = upd (bF f) i (v &&& 255) := by
  funext j
  show (if j = i then v else f j) &&& 255 = (if j = i then v &&& 255 else f j &&& 255)
  by_cases h : j = i
  · rw [if_pos h, if_pos h]
  · rw [if_neg h, if_neg h]
theorem fe_step {f b : Nat → Int32} {t tz n q : Nat} {w : Int64} {v : Int32} (hB : bF f = feB b tz w n (n - (q + 1))) (ht : t = tz + (n - (q + 1))) (hq : q + 1 ≤ n) (hv : v &&& 255 = byW w q) : bF (upd f t v) = feB b tz w n (n - q) := by
  rw [bF_upd, hv, hB, ht, feB_s hq]
theorem fe_stepM {f b : Nat → Int32} {t tz n q : Nat} {w : Int64} (hB : f = feB b tz w n (n - (q + 1))) (ht : t = tz + (n - (q + 1))) (hq : q + 1 ≤ n) : upd f t (byW w q) = feB b tz w n (n - q) := by
  rw [hB, ht, feB_s hq]
def feP (p0 : Int32) (w : Int64) (tz : Nat) (b : Nat → Int32) (r : Int32) (tz' : Nat) (b' : Nat → Int32) : Prop := (¬ inB p0 1 8 → r = -1002 ∧ tz' = tz ∧ b' = b) ∧ ∀ n : Nat, 1 ≤ n → n ≤ 8 → p0 = nI n → (240 < tz + n → r = -1004 ∧ tz' = tz ∧ b' = b) ∧ (tz + n ≤ 240 → r = nI (tz + n) ∧ tz' = tz + n ∧ b' = feB b tz w n n)
theorem fe_in {n : Nat} (h1 : 1 ≤ n) (h2 : n ≤ 8) : inB (nI n) 1 8 := ⟨(nI_leI (a := 1) (b := n) (by omega) (by omega)).mpr h1, (nI_leI (a := n) (b := 8) (by omega) (by omega)).mpr h2⟩
theorem fe_out {p0 : Int32} {w : Int64} {tz : Nat} {b : Nat → Int32} (h : ¬ inB p0 1 8) : feP p0 w tz b (-1002) tz b := ⟨fun _ => ⟨rfl, rfl, rfl⟩, fun n h1 h2 e => absurd (by rw [e]; exact fe_in h1 h2) h⟩
theorem fe_full {w : Int64} {tz n : Nat} {b : Nat → Int32} (h1 : 1 ≤ n) (h2 : n ≤ 8) (h : 240 < tz + n) : feP (nI n) w tz b (-1004) tz b := by
  refine ⟨fun q => absurd (fe_in h1 h2) q, fun k h3 h4 e => ?_⟩
  have := nI_inj (by omega) (by omega) e
  subst this
  exact ⟨fun _ => ⟨rfl, rfl, rfl⟩, fun q => absurd h (by omega)⟩
theorem fe_ok {w : Int64} {tz n x : Nat} {r : Int32} {b c : Nat → Int32} (h1 : 1 ≤ n) (h2 : n ≤ 8) (h : tz + n ≤ 240) (hr : r = nI x) (hx : x = tz + n) (hc : c = feB b tz w n n) : feP (nI n) w tz b r x c := by
  refine ⟨fun q => absurd (fe_in h1 h2) q, fun k h3 h4 e => ?_⟩
  have := nI_inj (by omega) (by omega) e
  subst this
  exact ⟨fun q => absurd h (by omega), fun _ => ⟨by rw [hr, hx], hx, hc⟩⟩
theorem feP_fun {p0 : Int32} {w : Int64} {tz x y : Nat} {b c d : Nat → Int32} {r q : Int32} (h : feP p0 w tz b r x c) (g : feP p0 w tz b q y d) : r = q ∧ x = y ∧ c = d := by
  rcases Classical.em (inB p0 1 8) with hi | hi
  · obtain ⟨n, h1, h2, e⟩ := inB_ofc (a := 1) (b := 8) (by omega) (by omega) hi
    have a1 := h.2 n h1 h2 e
    have a2 := g.2 n h1 h2 e
    rcases Nat.lt_or_ge 240 (tz + n) with z | z
    · obtain ⟨u1, u2, u3⟩ := a1.1 z
      obtain ⟨v1, v2, v3⟩ := a2.1 z
      exact ⟨u1.trans v1.symm, u2.trans v2.symm, u3.trans v3.symm⟩
    · obtain ⟨u1, u2, u3⟩ := a1.2 z
      obtain ⟨v1, v2, v3⟩ := a2.2 z
      exact ⟨u1.trans v1.symm, u2.trans v2.symm, u3.trans v3.symm⟩
  · obtain ⟨u1, u2, u3⟩ := h.1 hi
    obtain ⟨v1, v2, v3⟩ := g.1 hi
    exact ⟨u1.trans v1.symm, u2.trans v2.symm, u3.trans v3.symm⟩
/-! street -/
def d3 {T : Type} (a b c : T) (q : Nat) : T := match q with | 0 => a | 1 => b | _ => c
def d4 {T : Type} (a b c d : T) (q : Nat) : T := match q with | 0 => a | 1 => b | 2 => c | _ => d
def stP (pz : Int32) (b : Nat → Int32) (n : Nat) (fp : Int32) (sd : Nat → SDt) (r : Int32) (n' : Nat) (fp' : Int32) (sd' : Nat → SDt) : Prop := (¬ inB pz 0 2 → r = -1001 ∧ n' = n ∧ fp' = fp ∧ (∀ q, q < 3 → sd' q = sd q)) ∧ (inB pz 0 2 → n' = 0 ∧ ((∃ e pl : Nat, 1 ≤ e ∧ e ≤ 4 ∧ (stF b n 0).1 = e ∧ (stF b n 0).2.1 = pl ∧ r = -10 - nI e ∧ fp' = nI pl ∧ (∀ q, q < 3 → sd' q = sd q)) ∨ (∃ (sn : Nat) (σ : PSt), sn < 3 ∧ pz = nI sn ∧ stF b n 0 = (0, 0, σ) ∧ r = nI σ.1 ∧ fp' = -1 ∧ sd' sn = sdP σ ∧ (∀ q, q < 3 → q ≠ sn → sd' q = sd q))))
theorem stP_of {pz : Int32} {b : Nat → Int32} {n n' : Nat} {fp r fp' : Int32} {sd sd' : Nat → SDt} (h : (¬ inB pz 0 2 → r = -1001 ∧ n' = n ∧ fp' = fp ∧ (∀ q, sd' q = sd q)) ∧ (inB pz 0 2 → n' = 0 ∧ ((∃ e pl : Nat, 1 ≤ e ∧ e ≤ 4 ∧ (stF b n 0).1 = e ∧ (stF b n 0).2.1 = pl ∧ r = -10 - nI e ∧ fp' = nI pl ∧ (∀ q, sd' q = sd q)) ∨ (∃ (sn : Nat) (σ : PSt), sn < 3 ∧ pz = nI sn ∧ stF b n 0 = (0, 0, σ) ∧ r = nI σ.1 ∧ fp' = -1 ∧ sd' sn = sdP σ ∧ (∀ q, q ≠ sn → sd' q = sd q))))) : stP pz b n fp sd r n' fp' sd' := by
  refine ⟨fun hi => ?_, fun hi => ?_⟩
  · obtain ⟨h1, h2, h3, h4⟩ := h.1 hi
    exact ⟨h1, h2, h3, fun q _ => h4 q⟩
  · obtain ⟨h1, h2⟩ := h.2 hi
    refine ⟨h1, ?_⟩
    rcases h2 with ⟨e, pl, a1, a2, a3, a4, a5, a6, a7⟩ | ⟨sn, σ, a1, a2, a3, a4, a5, a6, a7⟩
    · exact .inl ⟨e, pl, a1, a2, a3, a4, a5, a6, fun q _ => a7 q⟩
    · exact .inr ⟨sn, σ, a1, a2, a3, a4, a5, a6, fun q _ hn => a7 q hn⟩
theorem stP_fun {pz : Int32} {b : Nat → Int32} {n n' m' : Nat} {fp r fp' q fq' : Int32} {sd sd' se se' : Nat → SDt} (h : stP pz b n fp sd r n' fp' sd') (g : stP pz b n fp se q m' fq' se') (e : ∀ i, i < 3 → sd i = se i) : r = q ∧ n' = m' ∧ fp' = fq' ∧ ∀ i, i < 3 → sd' i = se' i := by
  rcases Classical.em (inB pz 0 2) with hi | hi
  · obtain ⟨h1, h2⟩ := h.2 hi
    obtain ⟨g1, g2⟩ := g.2 hi
    rcases h2 with ⟨e1, pl, a1, a2, a3, a4, a5, a6, a7⟩ | ⟨sn, σ, a1, a2, a3, a4, a5, a6, a7⟩
    · rcases g2 with ⟨e2, pm, c1, c2, c3, c4, c5, c6, c7⟩ | ⟨tn, τ, c1, c2, c3, c4, c5, c6, c7⟩
      · have x1 : e1 = e2 := a3.symm.trans c3
        have x2 : pl = pm := a4.symm.trans c4
        exact ⟨by rw [a5, c5, x1], h1.trans g1.symm, by rw [a6, c6, x2], fun i hi => (a7 i hi).trans ((e i hi).trans (c7 i hi).symm)⟩
      · rw [c3] at a3
        exact absurd a3 (by show ¬ 0 = e1; omega)
    · rcases g2 with ⟨e2, pm, c1, c2, c3, c4, c5, c6, c7⟩ | ⟨tn, τ, c1, c2, c3, c4, c5, c6, c7⟩
      · rw [a3] at c3
        exact absurd c3 (by show ¬ 0 = e2; omega)
      · have x1 : sn = tn := nI_inj (by omega) (by omega) (a2.symm.trans c2)
        have x2 : σ = τ := congrArg (fun z => z.2.2) (a3.symm.trans c3)
        subst x1 x2
        refine ⟨a4.trans c4.symm, h1.trans g1.symm, a5.trans c5.symm, fun i hi => ?_⟩
        by_cases hs : i = sn
        · subst hs
          exact a6.trans c6.symm
        · exact (a7 i hi hs).trans ((e i hi).trans (c7 i hi hs).symm)
  · obtain ⟨u1, u2, u3, u4⟩ := h.1 hi
    obtain ⟨v1, v2, v3, v4⟩ := g.1 hi
    exact ⟨u1.trans v1.symm, u2.trans v2.symm, u3.trans v3.symm, fun i hi => (u4 i hi).trans ((e i hi).trans (v4 i hi).symm)⟩
theorem neg10 {e : Nat} (h1 : 1 ≤ e) (h2 : e ≤ 4) : ¬ (0 : Int32) ≤ -10 - nI e := by
  rcases (show e = 1 ∨ e = 2 ∨ e = 3 ∨ e = 4 by omega) with rfl | rfl | rfl | rfl <;> decide
theorem sd_cp {n see tm : Nat} {g g0 gg ff f0 fp p0 : Nat → Int32} (hn : n ≤ 24) (hg : gg = va_cpy g g0 0 0 10) : sdX n see tm gg (va_cpy ff f0 0 0 24) (va_cpy fp p0 0 0 24) = sdX n see tm g ff fp := by
  have e1 : nG (vv n see tm gg) = nG (vv n see tm g) := by
    funext j
    unfold nG
    by_cases hj : 1 ≤ j ∧ j ≤ 9
    · rw [if_pos hj, if_pos hj]
      have h0 : ¬ j = 0 := by omega
      unfold vv
      rw [if_neg h0, if_neg h0]
      by_cases h6 : j = 6
      · rw [if_pos h6, if_pos h6]
      · rw [if_neg h6, if_neg h6]
        by_cases h8 : j = 8
        · rw [if_pos h8, if_pos h8]
        · rw [if_neg h8, if_neg h8, hg, pk_cpy_in (by omega) (by omega), show 0 + (j - 0) = j by omega]
    · rw [if_neg hj, if_neg hj]
  have e2 : ∀ x y : Nat → Int32, clp n (va_cpy x y 0 0 24) = clp n x := by
    intro x y
    funext j
    unfold clp
    by_cases hj : j < n
    · rw [if_pos hj, if_pos hj, pk_cpy_in (by omega) (by omega), show 0 + (j - 0) = j by omega]
    · rw [if_neg hj, if_neg hj]
  show (n, nG (vv n see tm gg), clp n (va_cpy ff f0 0 0 24), clp n (va_cpy fp p0 0 0 24)) = (n, nG (vv n see tm g), clp n ff, clp n fp)
  rw [e1, e2, e2]


set_option maxHeartbeats 4000000 in
set_option maxRecDepth 100000 in
theorem y_append (l : Launch) (D : va_G) (k : Nat → ClassId) (st : Nat → Nat) (lo : Nat) (x0 : Nat) (x1 : Nat) (tz : Nat) (ta : Int32) (na : Int32) (fn : Int32) (fb : Int32) (fx : Nat → Int32) (p0 : Int32) (hz : tz < 240) : CWv l D k st lo yX6_append cX6_append 2 none ({ frames := 0, cells := 0, slots := 0, locals := 0 }) 0 0 [.ref x0, .int p0] [(x0, .inr (6, (fX6 x1 (nI tz) ta na fn fb))), (aB k x1 240 fx)] (fun (u : Nat × (Nat → Int32)) => match u with | (tz_, fx_) => tz_ = tz + 1 ∧ fx_ = upd fx tz (vp_nar .byte p0)) (fun (u : Nat × (Nat → Int32)) => match u with | (tz_, fx_) => [(x0, .inr (6, (fX6 x1 (nI tz_) ta na fn fb))), (aB k x1 240 fx_)]) := by
  intro sz
  refine Met.ofW (cc := cX6_append) (maxL := 2) (ret := none) (by decide) rfl ?_
  intro p e s m args below meth c s₁ B hml hv
  obtain ⟨rfl, hsz, hlo, hP, hK, hDL, hZ⟩ := hv
  have hx := B.exec
  have hb := B.bytes
  have hr := B.returns
  have hts := WS_ts B.pre
  have hown : s.vm.findClass RX6 = some m.cls := findClass_of_methodNamed B.named
  have hlocks := B.notSynchronized
  subst hsz
  have hD := hDL.self (sz := s.heap.size)
  have hAlo := A_lo hDL hlo
  generalize hAe : va_A [(x0, .inr (6, (fX6 x1 (nI tz) ta na fn fb))), (aB k x1 240 fx)] s.heap.size = A at hD hAlo ⊢
  have hA : ∀ q : Nat, s.heap.size ≤ q → A q := fun q h => by rw [← hAe]; exact Or.inr h
  have hS : va_S A s.heap s.heap [] := va_S.rf
  have hl := lv_entry ([.ref x0, .int p0]) (n := 2) (Nat.le_of_ble_eq_true rfl)
  rw [lg_entry_eq]
  generalize (lg_sl ([.ref x0, .int p0]) ++ List.replicate (2 - (lg_sl ([.ref x0, .int p0])).length) Slot.unset).toArray = ls at hl ⊢
  have hl : lv_has ls 2 [(0, .ref x0), (1, .int p0)] := hl
  refine lv_aload_n hx hb dX6_append_0 rfl (lv_at hl 0 rfl) ?_
  refine va_get (D := D) (ci := 6) (v := .int (nI tz)) (C := RX6) (T := TX6) (N := 6) hx hb hts inX6 hown hK hP 0 rfl rfl 1 (by decide) (hts _ tw_110) (fun _ h9 => h9) rfl dX6_append_1 ?_
  refine lv_sipush (v := 240) hx hb dX6_append_4 (by decide) ?_
  refine lv_icmp_ge (tgt := 30) hx hb dX6_append_7 (by decide) (fun h => absurd ((nI_leI (a := 240) (b := tz) (by omega) (by omega)).mp h) (by omega)) (fun _ => ?_)
  refine lv_aload_n hx hb dX6_append_10 rfl (lv_at hl 0 rfl) ?_
  refine va_get (D := D) (ci := 6) (v := .ref x1) (C := RX6) (T := TX6) (N := 6) hx hb hts inX6 hown hK hP 0 rfl rfl 0 (by decide) (hts _ tw_109) (fun _ h9 => h9) rfl dX6_append_11 ?_
  refine lv_aload_n hx hb dX6_append_14 rfl (lv_at hl 0 rfl) ?_
  refine va_get (D := D) (ci := 6) (v := .int (nI tz)) (C := RX6) (T := TX6) (N := 6) hx hb hts inX6 hown hK hP 0 rfl rfl 1 (by decide) (hts _ tw_110) (fun _ h9 => h9) rfl dX6_append_15 ?_
  refine lv_iload_n hx hb dX6_append_18 rfl (lv_at hl 1 rfl) ?_
  refine va_bast hx hb hK hP hD hS 1 0 rfl rfl (vp_in_nI (by omega) (by decide)) dX6_append_19 (fun H locs hP hD hS => ?_)
  have hQ9 := pd_mk [(x0, .inr (6, (fX6 x1 (nI tz) ta na fn fb))), (aB k x1 240 (upd fx (Int32.toNatClampNeg (nI tz)) (vp_nar .byte p0)))] hP hD
  clear hP hD
  obtain ⟨hP, hD⟩ := hQ9
  rw [nI_clamp (n := tz) (by omega)] at hP hD
  have hQ9 := pd_mk [(x0, .inr (6, (fX6 x1 (nI tz) ta na fn fb))), (aB k x1 240 (upd fx tz (vp_nar .byte p0)))] hP hD
  clear hP hD
  obtain ⟨hP, hD⟩ := hQ9
  refine lv_aload_n hx hb dX6_append_20 rfl (lv_at hl 0 rfl) ?_
  refine lv_dup hx hb dX6_append_21 rfl ?_
  refine va_get (D := D) (ci := 6) (v := .int (nI tz)) (C := RX6) (T := TX6) (N := 6) hx hb hts inX6 hown hK hP 0 rfl rfl 1 (by decide) (hts _ tw_110) (fun _ h9 => h9) rfl dX6_append_22 ?_
  refine lv_iconst (v := 1) hx hb dX6_append_25 (by decide) ?_
  refine lv_iadd hx hb dX6_append_26 ?_
  refine lv_ti (y := (nI (tz + 1))) (nI_add tz 1) ?_
  refine va_put (D := D) (ci := 6) (v := .int (nI (tz + 1))) (ty := .int) (C := RX6) (T := TX6) (N := 6) hx hb hts inX6 tyX6 tyX6_ok nmX6 hown hK hP hD hS 0 rfl rfl 1 (by decide) (hts _ tw_110) (fun _ h9 => h9) rfl (by decide +kernel) rfl rfl (Nat.le_of_ble_eq_true rfl) dX6_append_27 (fun H locs hP hD hS => ?_)
  have hQ9 := pd_mk [(x0, .inr (6, (fX6 x1 (nI (tz + 1)) ta na fn fb))), (aB k x1 240 (upd fx tz (vp_nar .byte p0)))] hP hD
  clear hP hD
  obtain ⟨hP, hD⟩ := hQ9
  obtain ⟨hP9, hD9⟩ := pd_sub [(x0, .inr (6, (fX6 x1 (nI (tz + 1)) ta na fn fb))), (aB k x1 240 (upd fx tz (vp_nar .byte p0)))] [0, 1] hP hD (by decide) rfl
  exact W.vret hx hb hr (fun t ht hW => ⟨⟨((tz + 1), (upd fx tz (vp_nar .byte p0))), rfl, ⟨rfl, rfl⟩, by rw [ht]; exact hP9, hD9⟩, hS.F ht⟩) hS.2.2 dX6_append_30


set_option maxHeartbeats 4000000 in
set_option maxRecDepth 100000 in
theorem y_feed (l : Launch) (D : va_G) (k : Nat → ClassId) (st : Nat → Nat) (lo : Nat) (a : Nat → Nat) (rk : Nat) (lfa : Int32) (tz : Nat) (ta : Int32) (na : Int32) (fn : Int32) (fb : Int32) (fx : Nat → Int32) (p0 : Int32) (q1 : Int64) (hz : tz ≤ 240) : CWi l D k st lo yX7_feed cX7_feed 5 (some .int) ({ frames := 1, cells := 0, slots := 0, locals := 21 }) 0 0 [.ref (a 0), .int p0, .long q1] [((a 0), .inr (7, (fX7 (a 1) (a 3) (a 19) (a 35) (a 40) (nI rk) lfa (a 53) (a 56) (a 63) (a 64) (a 68)))), ((a 1), .inr (6, (fX6 (a 2) (nI tz) ta na fn fb))), (aB k (a 2) 240 fx)] (fun (r : Int32) (u : Nat × (Nat → Int32)) => match u with | (tz_, fx_) => feP p0 q1 tz (bF fx) r tz_ (bF fx_) ∧ tz_ ≤ 240) (fun (u : Nat × (Nat → Int32)) => match u with | (tz_, fx_) => [((a 0), .inr (7, (fX7 (a 1) (a 3) (a 19) (a 35) (a 40) (nI rk) lfa (a 53) (a 56) (a 63) (a 64) (a 68)))), ((a 1), .inr (6, (fX6 (a 2) (nI tz_) ta na fn fb))), (aB k (a 2) 240 fx_)]) := by
  intro sz
  refine Met.ofW (cc := cX7_feed) (maxL := 5) (ret := (some .int)) (by decide) rfl ?_
  intro p e s m args below meth c s₁ B hml hv
  obtain ⟨rfl, hsz, hlo, hP, hK, hDL, hZ⟩ := hv
  have hx := B.exec
  have hb := B.bytes
  have hr := B.returns
  have hts := WS_ts B.pre
  have hown : s.vm.findClass RX7 = some m.cls := findClass_of_methodNamed B.named
  have hlocks := B.notSynchronized
  subst hsz
  have hD := hDL.self (sz := s.heap.size)
  have hAlo := A_lo hDL hlo
  generalize hAe : va_A [((a 0), .inr (7, (fX7 (a 1) (a 3) (a 19) (a 35) (a 40) (nI rk) lfa (a 53) (a 56) (a 63) (a 64) (a 68)))), ((a 1), .inr (6, (fX6 (a 2) (nI tz) ta na fn fb))), (aB k (a 2) 240 fx)] s.heap.size = A at hD hAlo ⊢
  have hA : ∀ q : Nat, s.heap.size ≤ q → A q := fun q h => by rw [← hAe]; exact Or.inr h
  have hS : va_S A s.heap s.heap [] := va_S.rf
  have hl := lv_entry ([.ref (a 0), .int p0, .long q1]) (n := 5) (Nat.le_of_ble_eq_true rfl)
  rw [lg_entry_eq]
  generalize (lg_sl ([.ref (a 0), .int p0, .long q1]) ++ List.replicate (5 - (lg_sl ([.ref (a 0), .int p0, .long q1])).length) Slot.unset).toArray = ls at hl ⊢
  have hl : lv_has ls 5 [(0, .ref (a 0)), (1, .int p0), (2, .long q1)] := hl
  refine lv_iload_n hx hb dX7_feed_0 rfl (lv_at hl 1 rfl) ?_
  refine lv_iconst (v := 1) hx hb dX7_feed_1 (by decide) ?_
  refine lv_icmp_lt (tgt := 11) hx hb dX7_feed_2 (by decide) (fun c_1 => ?_) (fun c_1 => ?_)
  · refine lv_sipush (v := (-1002)) hx hb dX7_feed_11 (by decide) ?_
    obtain ⟨hP9, hD9⟩ := pd_sub [((a 0), .inr (7, (fX7 (a 1) (a 3) (a 19) (a 35) (a 40) (nI rk) lfa (a 53) (a 56) (a 63) (a 64) (a 68)))), ((a 1), .inr (6, (fX6 (a 2) (nI tz) ta na fn fb))), (aB k (a 2) 240 fx)] [0, 1, 2] hP hD (by decide) rfl
    exact W.iret (v := (-1002)) hx hb hr (fun t ht hW => ⟨⟨(-1002), (tz, fx), rfl, ⟨fe_out (fun h => absurd c_1 (Int32.not_lt.mpr h.1)), by omega⟩, by rw [ht]; exact hP9, hD9⟩, hS.F ht⟩) hS.2.2 dX7_feed_14
  · refine lv_iload_n hx hb dX7_feed_5 rfl (lv_at hl 1 rfl) ?_
    refine lv_bipush (v := 8) hx hb dX7_feed_6 (by decide) ?_
    refine lv_icmp_le (tgt := 15) hx hb dX7_feed_8 (by decide) (fun c_2 => ?_) (fun c_2 => ?_)
    · obtain ⟨nb_3, hnl_3, hnh_3, rfl⟩ := inB_ofc (a := 1) (b := 8) (by omega) (by omega) ⟨Int32.not_lt.mp c_1, c_2⟩
      refine lv_aload_n hx hb dX7_feed_15 rfl (lv_at hl 0 rfl) ?_
      refine va_get (D := D) (ci := 7) (v := .ref (a 1)) (C := RX7) (T := TX7) (N := 12) hx hb hts inX7 hown hK hP 0 rfl rfl 0 (by decide) (hts _ tw_305) (fun _ h9 => h9) rfl dX7_feed_16 ?_
      refine va_get (D := D) (ci := 6) (v := .int (nI tz)) (C := RX6) (T := TX6) (N := 6) hx hb hts inX6 hown hK hP 1 rfl rfl 1 (by decide) (hts _ tw_111) (fun _ h9 => h9) rfl dX7_feed_19 ?_
      refine lv_iload_n hx hb dX7_feed_22 rfl (lv_at hl 1 rfl) ?_
      refine lv_iadd hx hb dX7_feed_23 ?_
      refine lv_ti (y := (nI (tz + nb_3))) (nI_add tz nb_3) ?_
      refine lv_sipush (v := 240) hx hb dX7_feed_24 (by decide) ?_
      refine lv_icmp_le (tgt := 34) hx hb dX7_feed_27 (by decide) (fun c_4 => ?_) (fun c_4 => ?_)
      · have c_4 := (nI_leI (a := (tz + nb_3)) (b := 240) (by omega) (by omega)).mp c_4
        refine lv_iload_n hx hb dX7_feed_34 rfl (lv_at hl 1 rfl) ?_
        refine lv_iconst (v := 1) hx hb dX7_feed_35 (by decide) ?_
        refine lv_isub hx hb dX7_feed_36 ?_
        refine lv_ti (y := (nI nb_3 - 1)) rfl ?_
        refine lv_istore (lv' := [(4, .int (nI nb_3 - 1)), (0, .ref (a 0)), (1, .int (nI nb_3)), (2, .long q1)]) hx hb dX7_feed_37 hl (by decide) rfl (fun ls hl => ?_)
        refine W_loop (σ := Nat × Nat × (Nat → Int32)) (fun (n_ : Nat) (x_ : Nat × Nat × (Nat → Int32)) (H : Heap) (locs : List Loc) (ls : Array Slot) => match x_ with | (q_5, tz2_5, fx2_5) => n_ = 2 * q_5 ∧ (q_5 ≤ nb_3 ∧ tz2_5 = tz + (nb_3 - q_5) ∧ bF fx2_5 = feB (bF fx) tz q1 nb_3 (nb_3 - q_5)) ∧ va_P D classes [((a 0), .inr (7, (fX7 (a 1) (a 3) (a 19) (a 35) (a 40) (nI rk) lfa (a 53) (a 56) (a 63) (a 64) (a 68)))), ((a 1), .inr (6, (fX6 (a 2) (nI tz2_5) ta na fn fb))), (aB k (a 2) 240 fx2_5)] H ∧ va_D A [((a 0), .inr (7, (fX7 (a 1) (a 3) (a 19) (a 35) (a 40) (nI rk) lfa (a 53) (a 56) (a 63) (a 64) (a 68)))), ((a 1), .inr (6, (fX6 (a 2) (nI tz2_5) ta na fn fb))), (aB k (a 2) 240 fx2_5)] ∧ va_S A s.heap H locs ∧ lv_has ls 5 [(4, .int (nI q_5 - 1)), (0, .ref (a 0)), (1, .int (nI nb_3)), (2, .long q1)]) (fun n_5 x_5 H locs ls hI ih_5 => ?_) _ (nb_3, tz, fx) ⟨rfl, ⟨by omega, by omega, by rw [Nat.sub_self, feB_0]⟩, hP, hD, hS, (lv_sub hl [0, 1, 2, 3] rfl)⟩
        obtain ⟨q_5, tz2_5, fx2_5⟩ := x_5
        obtain ⟨hm_5, hv_5, hP, hD, hS, hl⟩ := hI
        subst hm_5
        rcases q_5 with _ | q_5
        · rw [dn0] at hl
          refine lv_iload hx hb dX7_feed_39 (lv_at hl 0 rfl) ?_
          refine lv_if_lt (tgt := 66) hx hb dX7_feed_41 (by decide) (fun _ => ?_) (fun h => absurd (by decide) h)
          refine lv_aload_n hx hb dX7_feed_66 rfl (lv_at hl 1 rfl) ?_
          refine va_get (D := D) (ci := 7) (v := .ref (a 1)) (C := RX7) (T := TX7) (N := 12) hx hb hts inX7 hown hK hP 0 rfl rfl 0 (by decide) (hts _ tw_305) (fun _ h9 => h9) rfl dX7_feed_67 ?_
          refine va_get (D := D) (ci := 6) (v := .int (nI tz2_5)) (C := RX6) (T := TX6) (N := 6) hx hb hts inX6 hown hK hP 1 rfl rfl 1 (by decide) (hts _ tw_111) (fun _ h9 => h9) rfl dX7_feed_70 ?_
          obtain ⟨hP9, hD9⟩ := pd_sub [((a 0), .inr (7, (fX7 (a 1) (a 3) (a 19) (a 35) (a 40) (nI rk) lfa (a 53) (a 56) (a 63) (a 64) (a 68)))), ((a 1), .inr (6, (fX6 (a 2) (nI tz2_5) ta na fn fb))), (aB k (a 2) 240 fx2_5)] [0, 1, 2] hP hD (by decide) rfl
          exact W.iret (v := (nI tz2_5)) hx hb hr (fun t ht hW => ⟨⟨(nI tz2_5), (tz2_5, fx2_5), rfl, ⟨fe_ok (by omega) (by omega) (by omega) rfl (by omega) (by have h9 := hv_5.2.2; exact h9), by omega⟩, by rw [ht]; exact hP9, hD9⟩, hS.F ht⟩) hS.2.2 dX7_feed_73
        · rw [nI_pred] at hl
          refine lv_iload hx hb dX7_feed_39 (lv_at hl 0 rfl) ?_
          refine lv_if_lt (tgt := 66) hx hb dX7_feed_41 (by decide) (fun h => absurd h (nI_pos0 (by omega))) (fun _ => ?_)
          refine lv_aload_n hx hb dX7_feed_44 rfl (lv_at hl 1 rfl) ?_
          refine va_get (D := D) (ci := 7) (v := .ref (a 1)) (C := RX7) (T := TX7) (N := 12) hx hb hts inX7 hown hK hP 0 rfl rfl 0 (by decide) (hts _ tw_305) (fun _ h9 => h9) rfl dX7_feed_45 ?_
          refine lv_lload_n hx hb dX7_feed_48 rfl (lv_at hl 3 rfl) ?_
          refine lv_bipush (v := 8) hx hb dX7_feed_49 (by decide) ?_
          refine lv_iload hx hb dX7_feed_51 (lv_at hl 0 rfl) ?_
          refine lv_imul hx hb dX7_feed_53 ?_
          refine lv_ti (y := (nI (8 * q_5))) (pk_mul 8 q_5) ?_
          refine lv_lshr hx hb dX7_feed_54 rfl ?_
          refine lv_topl (fun x_6 ex_6 => ?_)
          refine lv_l2i hx hb dX7_feed_55 rfl ?_
          refine lv_topi (fun x_7 ex_7 => ?_)
          refine lv_i2b hx hb dX7_feed_56 rfl ?_
          refine lv_topi (fun x_8 ex_8 => ?_)
          refine rw_v (D := D) (wr := [((a 0), .inr (7, (fX7 (a 1) (a 3) (a 19) (a 35) (a 40) (nI rk) lfa (a 53) (a 56) (a 63) (a 64) (a 68))))]) (va_runV (As := [.int x_8]) (rest := []) ⟨hx, hb, hml, hown, hts⟩ ((y_append l D k st lo (a 1) (a 2) tz2_5 ta na fn fb fx2_5 x_8 (by omega)) H.size) (cwV 1 hts (gV tw_346 tw_347 tw_348 tw_80 tw_349) rfl rfl rfl (by decide +kernel) ⟨Nat.le_of_ble_eq_true rfl, Nat.le_of_ble_eq_true rfl⟩) (pV hS hAlo hlo hP hK (va_Dlo hD hAlo) hZ [1, 2] (by decide) rfl (ci := 6) (q := (RX6, TX6, 6)) (q0 := 0) rfl rfl) rfl rfl hl.1 rfl (lv_room (Nat.le_of_ble_eq_true rfl)) dX7_feed_57 ⟨Nat.le_of_ble_eq_true rfl, Nat.le_of_ble_eq_true rfl⟩) hS hA hP hD [1, 2] [0] rfl rfl (by decide) (by decide) (fun u H locs hw_9 hP hD hS => ?_)
          obtain ⟨tz__9, fx__9⟩ := u
          have hQ9 := pd_mk [((a 0), .inr (7, (fX7 (a 1) (a 3) (a 19) (a 35) (a 40) (nI rk) lfa (a 53) (a 56) (a 63) (a 64) (a 68)))), ((a 1), .inr (6, (fX6 (a 2) (nI tz__9) ta na fn fb))), (aB k (a 2) 240 fx__9)] hP hD
          clear hP hD
          obtain ⟨hP, hD⟩ := hQ9
          try dsimp only at hw_9
          refine lv_iinc (v := (nI q_5 - 1)) (lv' := [(4, .int (nI q_5 - 1)), (0, .ref (a 0)), (1, .int (nI nb_3)), (2, .long q1)]) hx hb dX7_feed_60 hl (k := 0) rfl (dn1 _) (by decide) rfl (fun ls hl => ?_)
          refine lv_goto (tgt := 39) hx hb dX7_feed_63 (by decide) ?_
          exact ih_5 _ (q_5, tz__9, fx__9) _ _ _ (by omega) ⟨rfl, ⟨by omega, by omega, by rw [hw_9.2]; exact fe_step hv_5.2.2 hv_5.2.1 (by omega) (byW_x ex_6 ex_7 ex_8)⟩, hP, hD, hS, (lv_sub hl [0, 1, 2, 3] rfl)⟩
      · have c_4 : ¬ ((tz + nb_3) ≤ 240) := fun h => c_4 ((nI_leI (a := (tz + nb_3)) (b := 240) (by omega) (by omega)).mpr h)
        refine lv_sipush (v := (-1004)) hx hb dX7_feed_30 (by decide) ?_
        obtain ⟨hP9, hD9⟩ := pd_sub [((a 0), .inr (7, (fX7 (a 1) (a 3) (a 19) (a 35) (a 40) (nI rk) lfa (a 53) (a 56) (a 63) (a 64) (a 68)))), ((a 1), .inr (6, (fX6 (a 2) (nI tz) ta na fn fb))), (aB k (a 2) 240 fx)] [0, 1, 2] hP hD (by decide) rfl
        exact W.iret (v := (-1004)) hx hb hr (fun t ht hW => ⟨⟨(-1004), (tz, fx), rfl, ⟨fe_full (by omega) (by omega) (by omega), by omega⟩, by rw [ht]; exact hP9, hD9⟩, hS.F ht⟩) hS.2.2 dX7_feed_33
    · refine lv_sipush (v := (-1002)) hx hb dX7_feed_11 (by decide) ?_
      obtain ⟨hP9, hD9⟩ := pd_sub [((a 0), .inr (7, (fX7 (a 1) (a 3) (a 19) (a 35) (a 40) (nI rk) lfa (a 53) (a 56) (a 63) (a 64) (a 68)))), ((a 1), .inr (6, (fX6 (a 2) (nI tz) ta na fn fb))), (aB k (a 2) 240 fx)] [0, 1, 2] hP hD (by decide) rfl
      exact W.iret (v := (-1002)) hx hb hr (fun t ht hW => ⟨⟨(-1002), (tz, fx), rfl, ⟨fe_out (fun h => absurd h.2 c_2), by omega⟩, by rw [ht]; exact hP9, hD9⟩, hS.F ht⟩) hS.2.2 dX7_feed_14


set_option maxHeartbeats 4000000 in
set_option maxRecDepth 100000 in
theorem n_feed (l : Launch) (D : va_G) (k : Nat → ClassId) (st : Nat → Nat) (lo : Nat) (a : Nat → Nat) (tx : Nat) (t0 : Nat) (we : Nat) (rd : Nat) (ru : Nat) (rw : Nat) (ca : Nat) (fp : Int32) (wd : Int64) (nu : Int32) (na : Int32) (ts : Int32) (df : Int32) (db : Int32) (sd : Int32) (ftext : Nat → Int32) (p0 : Int32) (q1 : Int64) (htx : tx ≤ 240) : CWi l D k st lo yX8_feed cX8_feed 5 (some .int) ({ frames := 1, cells := 0, slots := 0, locals := 25 }) 0 0 [.ref (a 0), .int p0, .long q1] [((a 0), .inr (8, (fX8 a (nI tx) fp (nI t0) wd (nI we) nu na (nI rd) ts (nI ru) (nI rw) (nI ca) df db sd))), (aI k (a 5) 240 ftext)] (fun (r : Int32) (u : Nat × (Nat → Int32)) => match u with | (tx_, ftext_) => feP p0 q1 tx ftext r tx_ ftext_ ∧ tx_ ≤ 240) (fun (u : Nat × (Nat → Int32)) => match u with | (tx_, ftext_) => [((a 0), .inr (8, (fX8 a (nI tx_) fp (nI t0) wd (nI we) nu na (nI rd) ts (nI ru) (nI rw) (nI ca) df db sd))), (aI k (a 5) 240 ftext_)]) := by
  intro sz
  refine Met.ofW (cc := cX8_feed) (maxL := 5) (ret := (some .int)) (by decide) rfl ?_
  intro p e s m args below meth c s₁ B hml hv
  obtain ⟨rfl, hsz, hlo, hP, hK, hDL, hZ⟩ := hv
  have hx := B.exec
  have hb := B.bytes
  have hr := B.returns
  have hts := WS_ts B.pre
  have hown : s.vm.findClass RX8 = some m.cls := findClass_of_methodNamed B.named
  have hlocks := B.notSynchronized
  subst hsz
  have hD := hDL.self (sz := s.heap.size)
  have hAlo := A_lo hDL hlo
  generalize hAe : va_A [((a 0), .inr (8, (fX8 a (nI tx) fp (nI t0) wd (nI we) nu na (nI rd) ts (nI ru) (nI rw) (nI ca) df db sd))), (aI k (a 5) 240 ftext)] s.heap.size = A at hD hAlo ⊢
  have hA : ∀ q : Nat, s.heap.size ≤ q → A q := fun q h => by rw [← hAe]; exact Or.inr h
  have hS : va_S A s.heap s.heap [] := va_S.rf
  have hl := lv_entry ([.ref (a 0), .int p0, .long q1]) (n := 5) (Nat.le_of_ble_eq_true rfl)
  rw [lg_entry_eq]
  generalize (lg_sl ([.ref (a 0), .int p0, .long q1]) ++ List.replicate (5 - (lg_sl ([.ref (a 0), .int p0, .long q1])).length) Slot.unset).toArray = ls at hl ⊢
  have hl : lv_has ls 5 [(0, .ref (a 0)), (1, .int p0), (2, .long q1)] := hl
  refine lv_iload_n hx hb dX8_feed_0 rfl (lv_at hl 1 rfl) ?_
  refine lv_i2l (v := p0.toInt64) hx hb dX8_feed_1 rfl ?_
  refine lv_lconst (v := (1 : Int32).toInt64) hx hb dX8_feed_2 (by decide) ?_
  refine lv_ldc2 hx hb hown (hts _ tw_1110) dX8_feed_3 ?_
  refine lv_tl (y := ((8 : Int32).toInt64)) (by decide) ?_
  refine ro_i (D := D) (va_runS (As := [.long (p0.toInt64), .long ((1 : Int32).toInt64), .long ((8 : Int32).toInt64)]) (rest := []) ⟨hx, hb, hml, hown, hts⟩ ((k_in l D k st lo p0 (1 : Int32) (8 : Int32)) s.heap.size) (va_cwS 3 hts (gS tw_1111 tw_1112 tw_87 tw_1113) rfl rfl rfl (by decide +kernel) ⟨Nat.le_of_ble_eq_true rfl, Nat.le_of_ble_eq_true rfl⟩) (pS hS hAlo hlo hP hK (va_Dlo hD hAlo) hZ [] (by decide) rfl) rfl rfl hl.1 rfl (lv_room (Nat.le_of_ble_eq_true rfl)) dX8_feed_6 ⟨Nat.le_of_ble_eq_true rfl, Nat.le_of_ble_eq_true rfl⟩) hS hA hP (fun r_1 H locs hw_1 hP hS => ?_)
  try dsimp only at hw_1
  rcases hw_1 with ⟨rfl, hw_1⟩ | ⟨rfl, hw_1⟩
  · refine lv_if_ne (tgt := 16) hx hb dX8_feed_9 (by decide) (fun _ => ?_) (fun h => absurd h (by decide))
    obtain ⟨nn_9, hna_9, hnb_9, rfl⟩ := inB_ofc (a := 1) (b := 8) (by omega) (by omega) hw_1
    refine lv_aload_n hx hb dX8_feed_16 rfl (lv_at hl 0 rfl) ?_
    refine va_get (D := D) (ci := 8) (v := .int (nI tx)) (C := RX8) (T := TX8) (N := 44) hx hb hts inX8 hown hK hP 0 rfl rfl 5 (by decide) (hts _ tw_978) (fun _ h9 => h9) rfl dX8_feed_17 ?_
    refine lv_iload_n hx hb dX8_feed_20 rfl (lv_at hl 1 rfl) ?_
    refine lv_iadd hx hb dX8_feed_21 ?_
    refine lv_ti (y := (nI (tx + nn_9))) (nI_add tx nn_9) ?_
    refine lv_sipush (v := 240) hx hb dX8_feed_22 (by decide) ?_
    refine lv_icmp_le (tgt := 32) hx hb dX8_feed_25 (by decide) (fun c_2 => ?_) (fun c_2 => ?_)
    · have c_2 := (nI_leI (a := (tx + nn_9)) (b := 240) (by omega) (by omega)).mp c_2
      refine lv_iload_n hx hb dX8_feed_32 rfl (lv_at hl 1 rfl) ?_
      refine lv_iconst (v := 1) hx hb dX8_feed_33 (by decide) ?_
      refine lv_isub hx hb dX8_feed_34 ?_
      refine lv_ti (y := (nI nn_9 - 1)) rfl ?_
      refine lv_istore (lv' := [(4, .int (nI nn_9 - 1)), (0, .ref (a 0)), (1, .int (nI nn_9)), (2, .long q1)]) hx hb dX8_feed_35 hl (by decide) rfl (fun ls hl => ?_)
      refine W_loop (σ := Nat × Nat × (Nat → Int32)) (fun (n_ : Nat) (x_ : Nat × Nat × (Nat → Int32)) (H : Heap) (locs : List Loc) (ls : Array Slot) => match x_ with | (q_3, t_3, ft_3) => n_ = 2 * q_3 ∧ (t_3 + q_3 ≤ 240 ∧ q_3 ≤ nn_9 ∧ t_3 = tx + (nn_9 - q_3) ∧ ft_3 = feB ftext tx q1 nn_9 (nn_9 - q_3)) ∧ va_P D classes [((a 0), .inr (8, (fX8 a (nI t_3) fp (nI t0) wd (nI we) nu na (nI rd) ts (nI ru) (nI rw) (nI ca) df db sd))), (aI k (a 5) 240 ft_3)] H ∧ va_D A [((a 0), .inr (8, (fX8 a (nI t_3) fp (nI t0) wd (nI we) nu na (nI rd) ts (nI ru) (nI rw) (nI ca) df db sd))), (aI k (a 5) 240 ft_3)] ∧ va_S A s.heap H locs ∧ lv_has ls 5 [(4, .int (nI q_3 - 1)), (0, .ref (a 0)), (1, .int (nI nn_9)), (2, .long q1)]) (fun n_3 x_3 H locs ls hI ih_3 => ?_) _ (nn_9, tx, ftext) ⟨rfl, ⟨by omega, by omega, by omega, by rw [Nat.sub_self, feB_0]⟩, hP, hD, hS, (lv_sub hl [0, 1, 2, 3] rfl)⟩
      obtain ⟨q_3, t_3, ft_3⟩ := x_3
      obtain ⟨hm_3, hv_3, hP, hD, hS, hl⟩ := hI
      subst hm_3
      rcases q_3 with _ | q_3
      · rw [dn0] at hl
        refine lv_iload hx hb dX8_feed_37 (lv_at hl 0 rfl) ?_
        refine lv_if_lt (tgt := 79) hx hb dX8_feed_39 (by decide) (fun _ => ?_) (fun h => absurd (by decide) h)
        refine lv_aload_n hx hb dX8_feed_79 rfl (lv_at hl 1 rfl) ?_
        refine va_get (D := D) (ci := 8) (v := .int (nI t_3)) (C := RX8) (T := TX8) (N := 44) hx hb hts inX8 hown hK hP 0 rfl rfl 5 (by decide) (hts _ tw_978) (fun _ h9 => h9) rfl dX8_feed_80 ?_
        obtain ⟨hP9, hD9⟩ := pd_sub [((a 0), .inr (8, (fX8 a (nI t_3) fp (nI t0) wd (nI we) nu na (nI rd) ts (nI ru) (nI rw) (nI ca) df db sd))), (aI k (a 5) 240 ft_3)] [0, 1] hP hD (by decide) rfl
        exact W.iret (v := (nI t_3)) hx hb hr (fun t ht hW => ⟨⟨(nI t_3), (t_3, ft_3), rfl, ⟨fe_ok (by omega) (by omega) (by omega) rfl (by omega) (by have h9 := hv_3.2.2.2; exact h9), by omega⟩, by rw [ht]; exact hP9, hD9⟩, hS.F ht⟩) hS.2.2 dX8_feed_83
      · rw [nI_pred] at hl
        refine lv_iload hx hb dX8_feed_37 (lv_at hl 0 rfl) ?_
        refine lv_if_lt (tgt := 79) hx hb dX8_feed_39 (by decide) (fun h => absurd h (nI_pos0 (by omega))) (fun _ => ?_)
        refine lv_aload_n hx hb dX8_feed_42 rfl (lv_at hl 1 rfl) ?_
        refine va_get (D := D) (ci := 8) (v := .ref (a 5)) (C := RX8) (T := TX8) (N := 44) hx hb hts inX8 hown hK hP 0 rfl rfl 4 (by decide) (hts _ tw_977) (fun _ h9 => h9) rfl dX8_feed_43 ?_
        refine lv_aload_n hx hb dX8_feed_46 rfl (lv_at hl 1 rfl) ?_
        refine va_get (D := D) (ci := 8) (v := .int (nI t_3)) (C := RX8) (T := TX8) (N := 44) hx hb hts inX8 hown hK hP 0 rfl rfl 5 (by decide) (hts _ tw_978) (fun _ h9 => h9) rfl dX8_feed_47 ?_
        refine lv_lload_n hx hb dX8_feed_50 rfl (lv_at hl 3 rfl) ?_
        refine lv_bipush (v := 8) hx hb dX8_feed_51 (by decide) ?_
        refine lv_iload hx hb dX8_feed_53 (lv_at hl 0 rfl) ?_
        refine lv_imul hx hb dX8_feed_55 ?_
        refine lv_ti (y := (nI (8 * q_3))) (pk_mul 8 q_3) ?_
        refine lv_lshr hx hb dX8_feed_56 rfl ?_
        refine lv_topl (fun x_4 ex_4 => ?_)
        refine lv_ldc2 hx hb hown (hts _ tw_1114) dX8_feed_57 ?_
        refine lv_tl (y := ((255 : Int32).toInt64)) (by decide) ?_
        refine lv_land hx hb dX8_feed_60 ?_
        refine lv_topl (fun x_5 ex_5 => ?_)
        refine lv_l2i hx hb dX8_feed_61 rfl ?_
        refine lv_topi (fun x_6 ex_6 => ?_)
        refine va_iast hx hb hK hP hD hS 1 1 rfl rfl (vp_in_nI (by omega) (by decide)) dX8_feed_62 (fun H locs hP hD hS => ?_)
        have hQ9 := pd_mk [((a 0), .inr (8, (fX8 a (nI t_3) fp (nI t0) wd (nI we) nu na (nI rd) ts (nI ru) (nI rw) (nI ca) df db sd))), (aI k (a 5) 240 (upd ft_3 (Int32.toNatClampNeg (nI t_3)) x_6))] hP hD
        clear hP hD
        obtain ⟨hP, hD⟩ := hQ9
        rw [nI_clamp (n := t_3) (by omega)] at hP hD
        have hQ9 := pd_mk [((a 0), .inr (8, (fX8 a (nI t_3) fp (nI t0) wd (nI we) nu na (nI rd) ts (nI ru) (nI rw) (nI ca) df db sd))), (aI k (a 5) 240 (upd ft_3 t_3 x_6))] hP hD
        clear hP hD
        obtain ⟨hP, hD⟩ := hQ9
        refine lv_aload_n hx hb dX8_feed_63 rfl (lv_at hl 1 rfl) ?_
        refine lv_dup hx hb dX8_feed_64 rfl ?_
        refine va_get (D := D) (ci := 8) (v := .int (nI t_3)) (C := RX8) (T := TX8) (N := 44) hx hb hts inX8 hown hK hP 0 rfl rfl 5 (by decide) (hts _ tw_978) (fun _ h9 => h9) rfl dX8_feed_65 ?_
        refine lv_iconst (v := 1) hx hb dX8_feed_68 (by decide) ?_
        refine lv_iadd hx hb dX8_feed_69 ?_
        refine lv_ti (y := (nI (t_3 + 1))) (nI_add t_3 1) ?_
        refine va_put (D := D) (ci := 8) (v := .int (nI (t_3 + 1))) (ty := .int) (C := RX8) (T := TX8) (N := 44) hx hb hts inX8 tyX8 tyX8_ok nmX8 hown hK hP hD hS 0 rfl rfl 5 (by decide) (hts _ tw_978) (fun _ h9 => h9) rfl (by decide +kernel) rfl rfl (Nat.le_of_ble_eq_true rfl) dX8_feed_70 (fun H locs hP hD hS => ?_)
        have hQ9 := pd_mk [((a 0), .inr (8, (fX8 a (nI (t_3 + 1)) fp (nI t0) wd (nI we) nu na (nI rd) ts (nI ru) (nI rw) (nI ca) df db sd))), (aI k (a 5) 240 (upd ft_3 t_3 x_6))] hP hD
        clear hP hD
        obtain ⟨hP, hD⟩ := hQ9
        refine lv_iinc (v := (nI q_3 - 1)) (lv' := [(4, .int (nI q_3 - 1)), (0, .ref (a 0)), (1, .int (nI nn_9)), (2, .long q1)]) hx hb dX8_feed_73 hl (k := 0) rfl (dn1 _) (by decide) rfl (fun ls hl => ?_)
        refine lv_goto (tgt := 37) hx hb dX8_feed_76 (by decide) ?_
        exact ih_3 _ (q_3, t_3 + 1, (upd ft_3 t_3 x_6)) _ _ _ (by omega) ⟨rfl, ⟨by omega, by omega, by omega, by rw [ex_6, ex_5, ex_4, show ((255 : Int32).toInt64) = (255 : Int64) from by decide]; exact fe_stepM hv_3.2.2.2 hv_3.2.2.1 (by omega)⟩, hP, hD, hS, (lv_sub hl [0, 1, 2, 3] rfl)⟩
    · have c_2 : ¬ ((tx + nn_9) ≤ 240) := fun h => c_2 ((nI_leI (a := (tx + nn_9)) (b := 240) (by omega) (by omega)).mpr h)
      refine lv_sipush (v := (-1004)) hx hb dX8_feed_28 (by decide) ?_
      obtain ⟨hP9, hD9⟩ := pd_sub [((a 0), .inr (8, (fX8 a (nI tx) fp (nI t0) wd (nI we) nu na (nI rd) ts (nI ru) (nI rw) (nI ca) df db sd))), (aI k (a 5) 240 ftext)] [0, 1] hP hD (by decide) rfl
      exact W.iret (v := (-1004)) hx hb hr (fun t ht hW => ⟨⟨(-1004), (tx, ftext), rfl, ⟨fe_full (by omega) (by omega) (by omega), by omega⟩, by rw [ht]; exact hP9, hD9⟩, hS.F ht⟩) hS.2.2 dX8_feed_31
  · refine lv_if_ne (tgt := 16) hx hb dX8_feed_9 (by decide) (fun h => absurd (by decide) h) (fun _ => ?_)
    refine lv_sipush (v := (-1002)) hx hb dX8_feed_12 (by decide) ?_
    obtain ⟨hP9, hD9⟩ := pd_sub [((a 0), .inr (8, (fX8 a (nI tx) fp (nI t0) wd (nI we) nu na (nI rd) ts (nI ru) (nI rw) (nI ca) df db sd))), (aI k (a 5) 240 ftext)] [0, 1] hP hD (by decide) rfl
    exact W.iret (v := (-1002)) hx hb hr (fun t ht hW => ⟨⟨(-1002), (tx, ftext), rfl, ⟨fe_out hw_1, by omega⟩, by rw [ht]; exact hP9, hD9⟩, hS.F ht⟩) hS.2.2 dX8_feed_15


set_option maxHeartbeats 4000000 in
set_option maxRecDepth 100000 in
theorem y_closeText (l : Launch) (D : va_G) (k : Nat → ClassId) (st : Nat → Nat) (lo : Nat) (a : Nat → Nat) (rk : Nat) (lfa : Int32) (tz : Nat) (ta : Int32) (na : Int32) (fn : Int32) (fb : Int32)  : CWi l D k st lo yX7_closeText cX7_closeText 1 (some .int) ({ frames := 1, cells := 0, slots := 0, locals := 20 }) 0 0 [.ref (a 0)] [((a 0), .inr (7, (fX7 (a 1) (a 3) (a 19) (a 35) (a 40) (nI rk) lfa (a 53) (a 56) (a 63) (a 64) (a 68)))), ((a 1), .inr (6, (fX6 (a 2) (nI tz) ta na fn fb)))] (fun (r : Int32) (u : Int32 × Nat) => match u with | (lfa_, tz_) => tz_ = 0 ∧ (fn = 0 → r = 0 ∧ lfa_ = -1) ∧ (¬ fn = 0 → r = -10 - fn ∧ lfa_ = fb)) (fun (u : Int32 × Nat) => match u with | (lfa_, tz_) => [((a 0), .inr (7, (fX7 (a 1) (a 3) (a 19) (a 35) (a 40) (nI rk) lfa_ (a 53) (a 56) (a 63) (a 64) (a 68)))), ((a 1), .inr (6, (fX6 (a 2) (nI tz_) ta na fn fb)))]) := by
  intro sz
  refine Met.ofW (cc := cX7_closeText) (maxL := 1) (ret := (some .int)) (by decide) rfl ?_
  intro p e s m args below meth c s₁ B hml hv
  obtain ⟨rfl, hsz, hlo, hP, hK, hDL, hZ⟩ := hv
  have hx := B.exec
  have hb := B.bytes
  have hr := B.returns
  have hts := WS_ts B.pre
  have hown : s.vm.findClass RX7 = some m.cls := findClass_of_methodNamed B.named
  have hlocks := B.notSynchronized
  subst hsz
  have hD := hDL.self (sz := s.heap.size)
  have hAlo := A_lo hDL hlo
  generalize hAe : va_A [((a 0), .inr (7, (fX7 (a 1) (a 3) (a 19) (a 35) (a 40) (nI rk) lfa (a 53) (a 56) (a 63) (a 64) (a 68)))), ((a 1), .inr (6, (fX6 (a 2) (nI tz) ta na fn fb)))] s.heap.size = A at hD hAlo ⊢
  have hA : ∀ q : Nat, s.heap.size ≤ q → A q := fun q h => by rw [← hAe]; exact Or.inr h
  have hS : va_S A s.heap s.heap [] := va_S.rf
  have hl := lv_entry ([.ref (a 0)]) (n := 1) (Nat.le_of_ble_eq_true rfl)
  rw [lg_entry_eq]
  generalize (lg_sl ([.ref (a 0)]) ++ List.replicate (1 - (lg_sl ([.ref (a 0)])).length) Slot.unset).toArray = ls at hl ⊢
  have hl : lv_has ls 1 [(0, .ref (a 0))] := hl
  refine lv_aload_n hx hb dX7_closeText_0 rfl (lv_at hl 0 rfl) ?_
  refine va_get (D := D) (ci := 7) (v := .ref (a 1)) (C := RX7) (T := TX7) (N := 12) hx hb hts inX7 hown hK hP 0 rfl rfl 0 (by decide) (hts _ tw_305) (fun _ h9 => h9) rfl dX7_closeText_1 ?_
  refine lv_iconst (v := 0) hx hb dX7_closeText_4 (by decide) ?_
  refine va_put (D := D) (ci := 6) (v := .int 0) (ty := .int) (C := RX6) (T := TX6) (N := 6) hx hb hts inX6 tyX6 tyX6_ok nmX6 hown hK hP hD hS 1 rfl rfl 1 (by decide) (hts _ tw_111) (fun _ h9 => h9) rfl (by decide +kernel) rfl rfl (Nat.le_of_ble_eq_true rfl) dX7_closeText_5 (fun H locs hP hD hS => ?_)
  have hQ9 := pd_mk [((a 0), .inr (7, (fX7 (a 1) (a 3) (a 19) (a 35) (a 40) (nI rk) lfa (a 53) (a 56) (a 63) (a 64) (a 68)))), ((a 1), .inr (6, (fX6 (a 2) 0 ta na fn fb)))] hP hD
  clear hP hD
  obtain ⟨hP, hD⟩ := hQ9
  refine lv_aload_n hx hb dX7_closeText_8 rfl (lv_at hl 0 rfl) ?_
  refine va_get (D := D) (ci := 7) (v := .ref (a 1)) (C := RX7) (T := TX7) (N := 12) hx hb hts inX7 hown hK hP 0 rfl rfl 0 (by decide) (hts _ tw_305) (fun _ h9 => h9) rfl dX7_closeText_9 ?_
  refine ro_i (D := D) (va_runV (As := []) (rest := []) ⟨hx, hb, hml, hown, hts⟩ ((x_failed_r l D k st lo (a 1) (a 2) 0 ta na fn fb) H.size) (cwV 0 hts (gV tw_500 tw_368 tw_369 tw_80 tw_370) rfl rfl rfl (by decide +kernel) ⟨Nat.le_of_ble_eq_true rfl, Nat.le_of_ble_eq_true rfl⟩) (pV hS hAlo hlo hP hK (va_Dlo hD hAlo) hZ [1] (by decide) rfl (ci := 6) (q := (RX6, TX6, 6)) (q0 := 0) rfl rfl) rfl rfl hl.1 rfl (lv_room (Nat.le_of_ble_eq_true rfl)) dX7_closeText_12 ⟨Nat.le_of_ble_eq_true rfl, Nat.le_of_ble_eq_true rfl⟩) hS hA hP (fun r_1 H locs hw_1 hP hS => ?_)
  try dsimp only at hw_1
  rcases hw_1 with ⟨rfl, hw_1⟩ | ⟨rfl, rfl⟩
  · refine lv_if_ne (tgt := 25) hx hb dX7_closeText_15 (by decide) (fun _ => ?_) (fun h => absurd h (by decide))
    refine lv_aload_n hx hb dX7_closeText_25 rfl (lv_at hl 0 rfl) ?_
    refine lv_aload_n hx hb dX7_closeText_26 rfl (lv_at hl 0 rfl) ?_
    refine va_get (D := D) (ci := 7) (v := .ref (a 1)) (C := RX7) (T := TX7) (N := 12) hx hb hts inX7 hown hK hP 0 rfl rfl 0 (by decide) (hts _ tw_305) (fun _ h9 => h9) rfl dX7_closeText_27 ?_
    refine va_get (D := D) (ci := 6) (v := .int fb) (C := RX6) (T := TX6) (N := 6) hx hb hts inX6 hown hK hP 1 rfl rfl 5 (by decide) (hts _ tw_122) (fun _ h9 => h9) rfl dX7_closeText_30 ?_
    refine va_put (D := D) (ci := 7) (v := .int fb) (ty := .int) (C := RX7) (T := TX7) (N := 12) hx hb hts inX7 tyX7 tyX7_ok nmX7 hown hK hP hD hS 0 rfl rfl 6 (by decide) (hts _ tw_311) (fun _ h9 => h9) rfl (by decide +kernel) rfl rfl (Nat.le_of_ble_eq_true rfl) dX7_closeText_33 (fun H locs hP hD hS => ?_)
    have hQ9 := pd_mk [((a 0), .inr (7, (fX7 (a 1) (a 3) (a 19) (a 35) (a 40) (nI rk) fb (a 53) (a 56) (a 63) (a 64) (a 68)))), ((a 1), .inr (6, (fX6 (a 2) 0 ta na fn fb)))] hP hD
    clear hP hD
    obtain ⟨hP, hD⟩ := hQ9
    refine lv_bipush (v := (-10)) hx hb dX7_closeText_36 (by decide) ?_
    refine lv_aload_n hx hb dX7_closeText_38 rfl (lv_at hl 0 rfl) ?_
    refine va_get (D := D) (ci := 7) (v := .ref (a 1)) (C := RX7) (T := TX7) (N := 12) hx hb hts inX7 hown hK hP 0 rfl rfl 0 (by decide) (hts _ tw_305) (fun _ h9 => h9) rfl dX7_closeText_39 ?_
    refine va_get (D := D) (ci := 6) (v := .int fn) (C := RX6) (T := TX6) (N := 6) hx hb hts inX6 hown hK hP 1 rfl rfl 4 (by decide) (hts _ tw_120) (fun _ h9 => h9) rfl dX7_closeText_42 ?_
    refine lv_isub hx hb dX7_closeText_45 ?_
    refine lv_topi (fun x_2 ex_2 => ?_)
    obtain ⟨hP9, hD9⟩ := pd_sub [((a 0), .inr (7, (fX7 (a 1) (a 3) (a 19) (a 35) (a 40) (nI rk) fb (a 53) (a 56) (a 63) (a 64) (a 68)))), ((a 1), .inr (6, (fX6 (a 2) 0 ta na fn fb)))] [0, 1] hP hD (by decide) rfl
    exact W.iret (v := x_2) hx hb hr (fun t ht hW => ⟨⟨x_2, (fb, 0), rfl, ⟨rfl, fun h => absurd h hw_1, fun _ => ⟨ex_2, rfl⟩⟩, by rw [ht]; exact hP9, hD9⟩, hS.F ht⟩) hS.2.2 dX7_closeText_46
  · refine lv_if_ne (tgt := 25) hx hb dX7_closeText_15 (by decide) (fun h => absurd (by decide) h) (fun _ => ?_)
    refine lv_aload_n hx hb dX7_closeText_18 rfl (lv_at hl 0 rfl) ?_
    refine lv_iconst (v := (-1)) hx hb dX7_closeText_19 (by decide) ?_
    refine va_put (D := D) (ci := 7) (v := .int (-1)) (ty := .int) (C := RX7) (T := TX7) (N := 12) hx hb hts inX7 tyX7 tyX7_ok nmX7 hown hK hP hD hS 0 rfl rfl 6 (by decide) (hts _ tw_311) (fun _ h9 => h9) rfl (by decide +kernel) rfl rfl (Nat.le_of_ble_eq_true rfl) dX7_closeText_20 (fun H locs hP hD hS => ?_)
    have hQ9 := pd_mk [((a 0), .inr (7, (fX7 (a 1) (a 3) (a 19) (a 35) (a 40) (nI rk) (-1) (a 53) (a 56) (a 63) (a 64) (a 68)))), ((a 1), .inr (6, (fX6 (a 2) 0 ta na 0 fb)))] hP hD
    clear hP hD
    obtain ⟨hP, hD⟩ := hQ9
    refine lv_iconst (v := 0) hx hb dX7_closeText_23 (by decide) ?_
    obtain ⟨hP9, hD9⟩ := pd_sub [((a 0), .inr (7, (fX7 (a 1) (a 3) (a 19) (a 35) (a 40) (nI rk) (-1) (a 53) (a 56) (a 63) (a 64) (a 68)))), ((a 1), .inr (6, (fX6 (a 2) 0 ta na 0 fb)))] [0, 1] hP hD (by decide) rfl
    exact W.iret (v := 0) hx hb hr (fun t ht hW => ⟨⟨0, ((-1), 0), rfl, ⟨rfl, fun _ => ⟨rfl, rfl⟩, fun h => absurd rfl h⟩, by rw [ht]; exact hP9, hD9⟩, hS.F ht⟩) hS.2.2 dX7_closeText_24


theorem f_lt3 : True := trivial
theorem ltx3 {x : Int32} (h : x ≤ 2) : x < 3 := by
  rw [Int32.lt_iff_toInt_lt]
  rw [Int32.le_iff_toInt_le] at h
  have e1 : (2 : Int32).toInt = 2 := by decide
  have e2 : (3 : Int32).toInt = 3 := by decide
  omega


set_option maxHeartbeats 4000000 in
set_option maxRecDepth 100000 in
theorem y_rule (l : Launch) (D : va_G) (k : Nat → ClassId) (st : Nat → Nat) (lo : Nat) (a : Nat → Nat) (rk : Nat) (lfa : Int32) (tz : Nat) (ta : Int32) (na : Int32) (fn : Int32) (fb : Int32) (fx : Nat → Int32) (rf0 : Int32) (rc0 : Nat) (rr0 : Nat) (rs0 : Nat → Int32) (rb0 : Nat → Int32) (rf1 : Int32) (rc1 : Nat) (rr1 : Nat) (rs1 : Nat → Int32) (rb1 : Nat → Int32) (rf2 : Int32) (rc2 : Nat) (rr2 : Nat) (rs2 : Nat → Int32) (rb2 : Nat → Int32) (rf3 : Int32) (rc3 : Nat) (rr3 : Nat) (rs3 : Nat → Int32) (rb3 : Nat → Int32) (hz : tz ≤ 240) (hrk : rk ≤ 4) (hrc0 : rc0 ≤ 24) (hrr0 : rr0 ≤ 3) (hrc1 : rc1 ≤ 24) (hrr1 : rr1 ≤ 3) (hrc2 : rc2 ≤ 24) (hrr2 : rr2 ≤ 3) (hrc3 : rc3 ≤ 24) (hrr3 : rr3 ≤ 3) : CWi l D k st lo yX7_rule cX7_rule 2 (some .int) ({ frames := 8, cells := 0, slots := 0, locals := 174 }) 0 0 [.ref (a 0)] [((a 0), .inr (7, (fX7 (a 1) (a 3) (a 19) (a 35) (a 40) (nI rk) lfa (a 53) (a 56) (a 63) (a 64) (a 68)))), ((a 1), .inr (6, (fX6 (a 2) (nI tz) ta na fn fb))), (aB k (a 2) 240 fx), ((a 40), .inl (k 5, 4, .inr (.inr (.inr (.inr (a4 (a 41) (a 44) (a 47) (a 50))))))), ((a 41), .inr (3, (fX3 (a 42) (a 43) rf0 (nI rc0) (nI rr0)))), (aI k (a 42) 24 rs0), (aI k (a 43) 24 rb0), ((a 44), .inr (3, (fX3 (a 45) (a 46) rf1 (nI rc1) (nI rr1)))), (aI k (a 45) 24 rs1), (aI k (a 46) 24 rb1), ((a 47), .inr (3, (fX3 (a 48) (a 49) rf2 (nI rc2) (nI rr2)))), (aI k (a 48) 24 rs2), (aI k (a 49) 24 rb2), ((a 50), .inr (3, (fX3 (a 51) (a 52) rf3 (nI rc3) (nI rr3)))), (aI k (a 51) 24 rs3), (aI k (a 52) 24 rb3)] (fun (r : Int32) (u : Nat × Int32 × Nat × Int32 × Int32 × Int32 × Int32 × Int32 × Nat × Nat × (Nat → Int32) × (Nat → Int32) × Int32 × Nat × Nat × (Nat → Int32) × (Nat → Int32) × Int32 × Nat × Nat × (Nat → Int32) × (Nat → Int32) × Int32 × Nat × Nat × (Nat → Int32) × (Nat → Int32)) => match u with | (rk_, lfa_, tz_, ta_, na_, fn_, fb_, rf0_, rc0_, rr0_, rs0_, rb0_, rf1_, rc1_, rr1_, rs1_, rb1_, rf2_, rc2_, rr2_, rs2_, rb2_, rf3_, rc3_, rr3_, rs3_, rb3_) => ruP (bF fx) tz lfa rk (d4 (ruX rf0 rc0 rr0 rs0 rb0) (ruX rf1 rc1 rr1 rs1 rb1) (ruX rf2 rc2 rr2 rs2 rb2) (ruX rf3 rc3 rr3 rs3 rb3)) r tz_ lfa_ rk_ (d4 (ruX rf0_ rc0_ rr0_ rs0_ rb0_) (ruX rf1_ rc1_ rr1_ rs1_ rb1_) (ruX rf2_ rc2_ rr2_ rs2_ rb2_) (ruX rf3_ rc3_ rr3_ rs3_ rb3_)) ∧ tz_ ≤ 240 ∧ rk_ ≤ 4 ∧ rc0_ ≤ 24 ∧ rr0_ ≤ 3 ∧ rc1_ ≤ 24 ∧ rr1_ ≤ 3 ∧ rc2_ ≤ 24 ∧ rr2_ ≤ 3 ∧ rc3_ ≤ 24 ∧ rr3_ ≤ 3) (fun (u : Nat × Int32 × Nat × Int32 × Int32 × Int32 × Int32 × Int32 × Nat × Nat × (Nat → Int32) × (Nat → Int32) × Int32 × Nat × Nat × (Nat → Int32) × (Nat → Int32) × Int32 × Nat × Nat × (Nat → Int32) × (Nat → Int32) × Int32 × Nat × Nat × (Nat → Int32) × (Nat → Int32)) => match u with | (rk_, lfa_, tz_, ta_, na_, fn_, fb_, rf0_, rc0_, rr0_, rs0_, rb0_, rf1_, rc1_, rr1_, rs1_, rb1_, rf2_, rc2_, rr2_, rs2_, rb2_, rf3_, rc3_, rr3_, rs3_, rb3_) => [((a 0), .inr (7, (fX7 (a 1) (a 3) (a 19) (a 35) (a 40) (nI rk_) lfa_ (a 53) (a 56) (a 63) (a 64) (a 68)))), ((a 1), .inr (6, (fX6 (a 2) (nI tz_) ta_ na_ fn_ fb_))), (aB k (a 2) 240 fx), ((a 40), .inl (k 5, 4, .inr (.inr (.inr (.inr (a4 (a 41) (a 44) (a 47) (a 50))))))), ((a 41), .inr (3, (fX3 (a 42) (a 43) rf0_ (nI rc0_) (nI rr0_)))), (aI k (a 42) 24 rs0_), (aI k (a 43) 24 rb0_), ((a 44), .inr (3, (fX3 (a 45) (a 46) rf1_ (nI rc1_) (nI rr1_)))), (aI k (a 45) 24 rs1_), (aI k (a 46) 24 rb1_), ((a 47), .inr (3, (fX3 (a 48) (a 49) rf2_ (nI rc2_) (nI rr2_)))), (aI k (a 48) 24 rs2_), (aI k (a 49) 24 rb2_), ((a 50), .inr (3, (fX3 (a 51) (a 52) rf3_ (nI rc3_) (nI rr3_)))), (aI k (a 51) 24 rs3_), (aI k (a 52) 24 rb3_)]) := by
  intro sz
  refine Met.ofW (cc := cX7_rule) (maxL := 2) (ret := (some .int)) (by decide) rfl ?_
  intro p e s m args below meth c s₁ B hml hv
  obtain ⟨rfl, hsz, hlo, hP, hK, hDL, hZ⟩ := hv
  have hx := B.exec
  have hb := B.bytes
  have hr := B.returns
  have hts := WS_ts B.pre
  have hown : s.vm.findClass RX7 = some m.cls := findClass_of_methodNamed B.named
  have hlocks := B.notSynchronized
  subst hsz
  have hD := hDL.self (sz := s.heap.size)
  have hAlo := A_lo hDL hlo
  generalize hAe : va_A [((a 0), .inr (7, (fX7 (a 1) (a 3) (a 19) (a 35) (a 40) (nI rk) lfa (a 53) (a 56) (a 63) (a 64) (a 68)))), ((a 1), .inr (6, (fX6 (a 2) (nI tz) ta na fn fb))), (aB k (a 2) 240 fx), ((a 40), .inl (k 5, 4, .inr (.inr (.inr (.inr (a4 (a 41) (a 44) (a 47) (a 50))))))), ((a 41), .inr (3, (fX3 (a 42) (a 43) rf0 (nI rc0) (nI rr0)))), (aI k (a 42) 24 rs0), (aI k (a 43) 24 rb0), ((a 44), .inr (3, (fX3 (a 45) (a 46) rf1 (nI rc1) (nI rr1)))), (aI k (a 45) 24 rs1), (aI k (a 46) 24 rb1), ((a 47), .inr (3, (fX3 (a 48) (a 49) rf2 (nI rc2) (nI rr2)))), (aI k (a 48) 24 rs2), (aI k (a 49) 24 rb2), ((a 50), .inr (3, (fX3 (a 51) (a 52) rf3 (nI rc3) (nI rr3)))), (aI k (a 51) 24 rs3), (aI k (a 52) 24 rb3)] s.heap.size = A at hD hAlo ⊢
  have hA : ∀ q : Nat, s.heap.size ≤ q → A q := fun q h => by rw [← hAe]; exact Or.inr h
  have hS : va_S A s.heap s.heap [] := va_S.rf
  have hl := lv_entry ([.ref (a 0)]) (n := 2) (Nat.le_of_ble_eq_true rfl)
  rw [lg_entry_eq]
  generalize (lg_sl ([.ref (a 0)]) ++ List.replicate (2 - (lg_sl ([.ref (a 0)])).length) Slot.unset).toArray = ls at hl ⊢
  have hl : lv_has ls 2 [(0, .ref (a 0))] := hl
  refine lv_aload_n hx hb dX7_rule_0 rfl (lv_at hl 0 rfl) ?_
  refine va_get (D := D) (ci := 7) (v := .ref (a 1)) (C := RX7) (T := TX7) (N := 12) hx hb hts inX7 hown hK hP 0 rfl rfl 0 (by decide) (hts _ tw_305) (fun _ h9 => h9) rfl dX7_rule_1 ?_
  refine va_get (D := D) (ci := 6) (v := .int (nI tz)) (C := RX6) (T := TX6) (N := 6) hx hb hts inX6 hown hK hP 1 rfl rfl 1 (by decide) (hts _ tw_111) (fun _ h9 => h9) rfl dX7_rule_4 ?_
  refine lv_bipush (v := 80) hx hb dX7_rule_7 (by decide) ?_
  refine lv_icmp_le (tgt := 16) hx hb dX7_rule_9 (by decide) (fun c_1 => ?_) (fun c_1 => ?_)
  · have c_1 := (nI_leI (a := tz) (b := 80) (by omega) (by omega)).mp c_1
    refine lv_aload_n hx hb dX7_rule_16 rfl (lv_at hl 0 rfl) ?_
    refine va_get (D := D) (ci := 7) (v := .int (nI rk)) (C := RX7) (T := TX7) (N := 12) hx hb hts inX7 hown hK hP 0 rfl rfl 5 (by decide) (hts _ tw_310) (fun _ h9 => h9) rfl dX7_rule_17 ?_
    refine lv_iconst (v := 4) hx hb dX7_rule_20 (by decide) ?_
    refine lv_icmp_lt (tgt := 28) hx hb dX7_rule_21 (by decide) (fun c_2 => ?_) (fun c_2 => ?_)
    · have c_2 := (nI_ltI (a := rk) (b := 4) (by omega) (by omega)).mp c_2
      rcases (show rk = 0 ∨ rk = 1 ∨ rk = 2 ∨ rk = 3 by omega) with rfl | rfl | rfl | rfl
      · refine lv_aload_n hx hb dX7_rule_28 rfl (lv_at hl 0 rfl) ?_
        refine va_get (D := D) (ci := 7) (v := .ref (a 1)) (C := RX7) (T := TX7) (N := 12) hx hb hts inX7 hown hK hP 0 rfl rfl 0 (by decide) (hts _ tw_305) (fun _ h9 => h9) rfl dX7_rule_29 ?_
        refine rw_v (D := D) (wr := [((a 0), .inr (7, (fX7 (a 1) (a 3) (a 19) (a 35) (a 40) 0 lfa (a 53) (a 56) (a 63) (a 64) (a 68)))), ((a 40), .inl (k 5, 4, .inr (.inr (.inr (.inr (a4 (a 41) (a 44) (a 47) (a 50))))))), ((a 41), .inr (3, (fX3 (a 42) (a 43) rf0 (nI rc0) (nI rr0)))), (aI k (a 42) 24 rs0), (aI k (a 43) 24 rb0), ((a 44), .inr (3, (fX3 (a 45) (a 46) rf1 (nI rc1) (nI rr1)))), (aI k (a 45) 24 rs1), (aI k (a 46) 24 rb1), ((a 47), .inr (3, (fX3 (a 48) (a 49) rf2 (nI rc2) (nI rr2)))), (aI k (a 48) 24 rs2), (aI k (a 49) 24 rb2), ((a 50), .inr (3, (fX3 (a 51) (a 52) rf3 (nI rc3) (nI rr3)))), (aI k (a 51) 24 rs3), (aI k (a 52) 24 rb3)]) (va_runV (As := []) (rest := []) ⟨hx, hb, hml, hown, hts⟩ ((x_rewind l D k st lo (a 1) (a 2) tz ta na fn fb fx) s.heap.size) (cwV 0 hts (gV tw_354 tw_355 tw_356 tw_80 tw_357) rfl rfl rfl (by decide +kernel) ⟨Nat.le_of_ble_eq_true rfl, Nat.le_of_ble_eq_true rfl⟩) (pV hS hAlo hlo hP hK (va_Dlo hD hAlo) hZ [1, 2] (by decide) rfl (ci := 6) (q := (RX6, TX6, 6)) (q0 := 0) rfl rfl) rfl rfl hl.1 rfl (lv_room (Nat.le_of_ble_eq_true rfl)) dX7_rule_32 ⟨Nat.le_of_ble_eq_true rfl, Nat.le_of_ble_eq_true rfl⟩) hS hA hP hD [1, 2] [0, 3, 4, 5, 6, 7, 8, 9, 10, 11, 12, 13, 14, 15] rfl rfl (by decide +kernel) (by decide +kernel) (fun u H locs hw_3 hP hD hS => ?_)
        obtain ⟨ta__3, na__3, fn__3, fb__3⟩ := u
        have hQ9 := pd_mk [((a 0), .inr (7, (fX7 (a 1) (a 3) (a 19) (a 35) (a 40) 0 lfa (a 53) (a 56) (a 63) (a 64) (a 68)))), ((a 40), .inl (k 5, 4, .inr (.inr (.inr (.inr (a4 (a 41) (a 44) (a 47) (a 50))))))), ((a 41), .inr (3, (fX3 (a 42) (a 43) rf0 (nI rc0) (nI rr0)))), (aI k (a 42) 24 rs0), (aI k (a 43) 24 rb0), ((a 44), .inr (3, (fX3 (a 45) (a 46) rf1 (nI rc1) (nI rr1)))), (aI k (a 45) 24 rs1), (aI k (a 46) 24 rb1), ((a 47), .inr (3, (fX3 (a 48) (a 49) rf2 (nI rc2) (nI rr2)))), (aI k (a 48) 24 rs2), (aI k (a 49) 24 rb2), ((a 50), .inr (3, (fX3 (a 51) (a 52) rf3 (nI rc3) (nI rr3)))), (aI k (a 51) 24 rs3), (aI k (a 52) 24 rb3), ((a 1), .inr (6, (fX6 (a 2) (nI tz) ta__3 na__3 fn__3 fb__3))), (aB k (a 2) 240 fx)] hP hD
        clear hP hD
        obtain ⟨hP, hD⟩ := hQ9
        try dsimp only at hw_3
        obtain ⟨rfl, rfl⟩ := hw_3
        refine lv_aload_n hx hb dX7_rule_35 rfl (lv_at hl 0 rfl) ?_
        refine va_get (D := D) (ci := 7) (v := .ref (a 40)) (C := RX7) (T := TX7) (N := 12) hx hb hts inX7 hown hK hP 0 rfl rfl 4 (by decide) (hts _ tw_309) (fun _ h9 => h9) rfl dX7_rule_36 ?_
        refine lv_aload_n hx hb dX7_rule_39 rfl (lv_at hl 0 rfl) ?_
        refine va_get (D := D) (ci := 7) (v := .int 0) (C := RX7) (T := TX7) (N := 12) hx hb hts inX7 hown hK hP 0 rfl rfl 5 (by decide) (hts _ tw_310) (fun _ h9 => h9) rfl dX7_rule_40 ?_
        refine va_aldq hx hb hK hP 1 5 rfl rfl (by unfold vp_in; decide) dX7_rule_43 ?_
        refine lv_tr (y := .ref (a 41)) rfl ?_
        refine lv_aload_n hx hb dX7_rule_44 rfl (lv_at hl 0 rfl) ?_
        refine va_get (D := D) (ci := 7) (v := .ref (a 1)) (C := RX7) (T := TX7) (N := 12) hx hb hts inX7 hown hK hP 0 rfl rfl 0 (by decide) (hts _ tw_305) (fun _ h9 => h9) rfl dX7_rule_45 ?_
        refine rw_v (D := D) (wr := [((a 0), .inr (7, (fX7 (a 1) (a 3) (a 19) (a 35) (a 40) 0 lfa (a 53) (a 56) (a 63) (a 64) (a 68)))), ((a 40), .inl (k 5, 4, .inr (.inr (.inr (.inr (a4 (a 41) (a 44) (a 47) (a 50))))))), ((a 44), .inr (3, (fX3 (a 45) (a 46) rf1 (nI rc1) (nI rr1)))), (aI k (a 45) 24 rs1), (aI k (a 46) 24 rb1), ((a 47), .inr (3, (fX3 (a 48) (a 49) rf2 (nI rc2) (nI rr2)))), (aI k (a 48) 24 rs2), (aI k (a 49) 24 rb2), ((a 50), .inr (3, (fX3 (a 51) (a 52) rf3 (nI rc3) (nI rr3)))), (aI k (a 51) 24 rs3), (aI k (a 52) 24 rb3)]) (va_runV (As := [.ref (a 1)]) (rest := []) ⟨hx, hb, hml, hown, hts⟩ ((y_Rule_readFrom l D k st lo (a 41) (a 42) (a 43) rf0 rc0 rr0 rs0 rb0 (a 1) (a 2) tz 0 na__3 0 fb__3 fx (by first | assumption | omega) (by first | assumption | omega) (by first | assumption | omega) rfl) H.size) (cwV 1 hts (gV tw_675 tw_676 tw_677 tw_86 tw_678) rfl rfl rfl (by decide +kernel) ⟨Nat.le_of_ble_eq_true rfl, Nat.le_of_ble_eq_true rfl⟩) (pV hS hAlo hlo hP hK (va_Dlo hD hAlo) hZ [2, 3, 4, 14, 15] (by decide) rfl (ci := 3) (q := (RX3, TX3, 5)) (q0 := 0) rfl rfl) rfl rfl hl.1 rfl (lv_room (Nat.le_of_ble_eq_true rfl)) dX7_rule_48 ⟨Nat.le_of_ble_eq_true rfl, Nat.le_of_ble_eq_true rfl⟩) hS hA hP hD [2, 3, 4, 14, 15] [0, 1, 5, 6, 7, 8, 9, 10, 11, 12, 13] rfl rfl (by decide +kernel) (by decide +kernel) (fun u H locs hw_4 hP hD hS => ?_)
        obtain ⟨rf__4, rc__4, rr__4, rs__4, rb__4, ta__4, na__4, fn__4, fb__4⟩ := u
        have hQ9 := pd_mk [((a 0), .inr (7, (fX7 (a 1) (a 3) (a 19) (a 35) (a 40) 0 lfa (a 53) (a 56) (a 63) (a 64) (a 68)))), ((a 40), .inl (k 5, 4, .inr (.inr (.inr (.inr (a4 (a 41) (a 44) (a 47) (a 50))))))), ((a 44), .inr (3, (fX3 (a 45) (a 46) rf1 (nI rc1) (nI rr1)))), (aI k (a 45) 24 rs1), (aI k (a 46) 24 rb1), ((a 47), .inr (3, (fX3 (a 48) (a 49) rf2 (nI rc2) (nI rr2)))), (aI k (a 48) 24 rs2), (aI k (a 49) 24 rb2), ((a 50), .inr (3, (fX3 (a 51) (a 52) rf3 (nI rc3) (nI rr3)))), (aI k (a 51) 24 rs3), (aI k (a 52) 24 rb3), ((a 41), .inr (3, (fX3 (a 42) (a 43) rf__4 (nI rc__4) (nI rr__4)))), (aI k (a 42) 24 rs__4), (aI k (a 43) 24 rb__4), ((a 1), .inr (6, (fX6 (a 2) (nI tz) (nI ta__4) na__4 fn__4 fb__4))), (aB k (a 2) 240 fx)] hP hD
        clear hP hD
        obtain ⟨hP, hD⟩ := hQ9
        try dsimp only at hw_4
        rcases hw_4 with ⟨⟨rfl, hrf_5, hrc_5⟩ | ⟨e_5, pl_5, rfl, he1_5, he2_5, hp1_5, hp2_5, rfl⟩, hw_4⟩
        · refine lv_aload_n hx hb dX7_rule_51 rfl (lv_at hl 0 rfl) ?_
          refine rw_i (D := D) (wr := [((a 40), .inl (k 5, 4, .inr (.inr (.inr (.inr (a4 (a 41) (a 44) (a 47) (a 50))))))), ((a 44), .inr (3, (fX3 (a 45) (a 46) rf1 (nI rc1) (nI rr1)))), (aI k (a 45) 24 rs1), (aI k (a 46) 24 rb1), ((a 47), .inr (3, (fX3 (a 48) (a 49) rf2 (nI rc2) (nI rr2)))), (aI k (a 48) 24 rs2), (aI k (a 49) 24 rb2), ((a 50), .inr (3, (fX3 (a 51) (a 52) rf3 (nI rc3) (nI rr3)))), (aI k (a 51) 24 rs3), (aI k (a 52) 24 rb3), ((a 41), .inr (3, (fX3 (a 42) (a 43) rf__4 (nI rc__4) (nI rr__4)))), (aI k (a 42) 24 rs__4), (aI k (a 43) 24 rb__4), (aB k (a 2) 240 fx)]) (va_runV (As := []) (rest := []) ⟨hx, hb, hml, hown, hts⟩ ((y_closeText l D k st lo a 0 lfa tz (nI ta__4) na__4 0 fb__4) H.size) (cwV 0 hts (gV tw_496 tw_498 tw_2 tw_79 tw_499) rfl rfl rfl (by decide +kernel) ⟨Nat.le_of_ble_eq_true rfl, Nat.le_of_ble_eq_true rfl⟩) (pV hS hAlo hlo hP hK (va_Dlo hD hAlo) hZ [0, 14] (by decide) rfl (ci := 7) (q := (RX7, TX7, 12)) (q0 := 0) rfl rfl) rfl rfl hl.1 rfl (lv_room (Nat.le_of_ble_eq_true rfl)) dX7_rule_52 ⟨Nat.le_of_ble_eq_true rfl, Nat.le_of_ble_eq_true rfl⟩) hS hA hP hD [0, 14] [1, 2, 3, 4, 5, 6, 7, 8, 9, 10, 11, 12, 13, 15] rfl rfl (by decide +kernel) (by decide +kernel) (fun r_6 u H locs hw_6 hP hD hS => ?_)
          obtain ⟨lfa__6, tz__6⟩ := u
          have hQ9 := pd_mk [((a 40), .inl (k 5, 4, .inr (.inr (.inr (.inr (a4 (a 41) (a 44) (a 47) (a 50))))))), ((a 44), .inr (3, (fX3 (a 45) (a 46) rf1 (nI rc1) (nI rr1)))), (aI k (a 45) 24 rs1), (aI k (a 46) 24 rb1), ((a 47), .inr (3, (fX3 (a 48) (a 49) rf2 (nI rc2) (nI rr2)))), (aI k (a 48) 24 rs2), (aI k (a 49) 24 rb2), ((a 50), .inr (3, (fX3 (a 51) (a 52) rf3 (nI rc3) (nI rr3)))), (aI k (a 51) 24 rs3), (aI k (a 52) 24 rb3), ((a 41), .inr (3, (fX3 (a 42) (a 43) rf__4 (nI rc__4) (nI rr__4)))), (aI k (a 42) 24 rs__4), (aI k (a 43) 24 rb__4), (aB k (a 2) 240 fx), ((a 0), .inr (7, (fX7 (a 1) (a 3) (a 19) (a 35) (a 40) 0 lfa__6 (a 53) (a 56) (a 63) (a 64) (a 68)))), ((a 1), .inr (6, (fX6 (a 2) (nI tz__6) (nI ta__4) na__4 0 fb__4)))] hP hD
          clear hP hD
          obtain ⟨hP, hD⟩ := hQ9
          try dsimp only at hw_6
          have hcl_7 := hw_6.2.1 rfl
          obtain ⟨hs0_8, hs1_8, hs2_8⟩ := (⟨hw_6.1, hcl_7.1, hcl_7.2⟩ : _ ∧ _ ∧ _)
          replace hs0_8 := hs0_8.symm
          subst hs0_8
          replace hs1_8 := hs1_8.symm
          subst hs1_8
          replace hs2_8 := hs2_8.symm
          subst hs2_8
          refine lv_istore_n (lv' := [(1, .int 0), (0, .ref (a 0))]) hx hb dX7_rule_55 rfl hl (by decide) rfl (fun ls hl => ?_)
          refine lv_iload_n hx hb dX7_rule_56 rfl (lv_at hl 0 rfl) ?_
          refine lv_if_ge (tgt := 62) hx hb dX7_rule_57 (by decide) (fun _ => ?_) (fun h => absurd (by decide) h)
          refine lv_aload_n hx hb dX7_rule_62 rfl (lv_at hl 1 rfl) ?_
          refine lv_dup hx hb dX7_rule_63 rfl ?_
          refine va_get (D := D) (ci := 7) (v := .int 0) (C := RX7) (T := TX7) (N := 12) hx hb hts inX7 hown hK hP 14 rfl rfl 5 (by decide) (hts _ tw_310) (fun _ h9 => h9) rfl dX7_rule_64 ?_
          refine lv_iconst (v := 1) hx hb dX7_rule_67 (by decide) ?_
          refine lv_iadd hx hb dX7_rule_68 ?_
          refine lv_ti (y := 1) (by decide) ?_
          refine va_put (D := D) (ci := 7) (v := .int 1) (ty := .int) (C := RX7) (T := TX7) (N := 12) hx hb hts inX7 tyX7 tyX7_ok nmX7 hown hK hP hD hS 14 rfl rfl 5 (by decide) (hts _ tw_310) (fun _ h9 => h9) rfl (by decide +kernel) rfl rfl (Nat.le_of_ble_eq_true rfl) dX7_rule_69 (fun H locs hP hD hS => ?_)
          have hQ9 := pd_mk [((a 40), .inl (k 5, 4, .inr (.inr (.inr (.inr (a4 (a 41) (a 44) (a 47) (a 50))))))), ((a 44), .inr (3, (fX3 (a 45) (a 46) rf1 (nI rc1) (nI rr1)))), (aI k (a 45) 24 rs1), (aI k (a 46) 24 rb1), ((a 47), .inr (3, (fX3 (a 48) (a 49) rf2 (nI rc2) (nI rr2)))), (aI k (a 48) 24 rs2), (aI k (a 49) 24 rb2), ((a 50), .inr (3, (fX3 (a 51) (a 52) rf3 (nI rc3) (nI rr3)))), (aI k (a 51) 24 rs3), (aI k (a 52) 24 rb3), ((a 41), .inr (3, (fX3 (a 42) (a 43) rf__4 (nI rc__4) (nI rr__4)))), (aI k (a 42) 24 rs__4), (aI k (a 43) 24 rb__4), (aB k (a 2) 240 fx), ((a 0), .inr (7, (fX7 (a 1) (a 3) (a 19) (a 35) (a 40) 1 (-1) (a 53) (a 56) (a 63) (a 64) (a 68)))), ((a 1), .inr (6, (fX6 (a 2) 0 (nI ta__4) na__4 0 fb__4)))] hP hD
          clear hP hD
          obtain ⟨hP, hD⟩ := hQ9
          refine lv_aload_n hx hb dX7_rule_72 rfl (lv_at hl 1 rfl) ?_
          refine va_get (D := D) (ci := 7) (v := .int 1) (C := RX7) (T := TX7) (N := 12) hx hb hts inX7 hown hK hP 14 rfl rfl 5 (by decide) (hts _ tw_310) (fun _ h9 => h9) rfl dX7_rule_73 ?_
          refine lv_iconst (v := 1) hx hb dX7_rule_76 (by decide) ?_
          refine lv_isub hx hb dX7_rule_77 ?_
          refine lv_ti (y := 0) (by decide) ?_
          obtain ⟨hP9, hD9⟩ := pd_sub [((a 0), .inr (7, (fX7 (a 1) (a 3) (a 19) (a 35) (a 40) 1 (-1) (a 53) (a 56) (a 63) (a 64) (a 68)))), ((a 1), .inr (6, (fX6 (a 2) 0 (nI ta__4) na__4 0 fb__4))), (aB k (a 2) 240 fx), ((a 40), .inl (k 5, 4, .inr (.inr (.inr (.inr (a4 (a 41) (a 44) (a 47) (a 50))))))), ((a 41), .inr (3, (fX3 (a 42) (a 43) rf__4 (nI rc__4) (nI rr__4)))), (aI k (a 42) 24 rs__4), (aI k (a 43) 24 rb__4), ((a 44), .inr (3, (fX3 (a 45) (a 46) rf1 (nI rc1) (nI rr1)))), (aI k (a 45) 24 rs1), (aI k (a 46) 24 rb1), ((a 47), .inr (3, (fX3 (a 48) (a 49) rf2 (nI rc2) (nI rr2)))), (aI k (a 48) 24 rs2), (aI k (a 49) 24 rb2), ((a 50), .inr (3, (fX3 (a 51) (a 52) rf3 (nI rc3) (nI rr3)))), (aI k (a 51) 24 rs3), (aI k (a 52) 24 rb3)] [14, 15, 13, 0, 10, 11, 12, 1, 2, 3, 4, 5, 6, 7, 8, 9] hP hD (by decide +kernel) rfl
          exact W.iret (v := 0) hx hb hr (fun t ht hW => ⟨⟨0, (1, (-1), 0, (nI ta__4), na__4, 0, fb__4, rf__4, rc__4, rr__4, rs__4, rb__4, rf1, rc1, rr1, rs1, rb1, rf2, rc2, rr2, rs2, rb2, rf3, rc3, rr3, rs3, rb3), rfl, ⟨⟨fun h => absurd h (by omega), fun _ h => absurd h (by omega), fun _ _ => ⟨rfl, (fun q hq => absurd hq (by omega)), .inr ⟨hrf_5, rfl, rfl, rfl⟩⟩⟩, by omega, by omega, by omega, by omega, by omega, by omega, by omega, by omega, by omega, by omega⟩, by rw [ht]; exact hP9, hD9⟩, hS.F ht⟩) hS.2.2 dX7_rule_78
        · refine lv_aload_n hx hb dX7_rule_51 rfl (lv_at hl 0 rfl) ?_
          refine rw_i (D := D) (wr := [((a 40), .inl (k 5, 4, .inr (.inr (.inr (.inr (a4 (a 41) (a 44) (a 47) (a 50))))))), ((a 44), .inr (3, (fX3 (a 45) (a 46) rf1 (nI rc1) (nI rr1)))), (aI k (a 45) 24 rs1), (aI k (a 46) 24 rb1), ((a 47), .inr (3, (fX3 (a 48) (a 49) rf2 (nI rc2) (nI rr2)))), (aI k (a 48) 24 rs2), (aI k (a 49) 24 rb2), ((a 50), .inr (3, (fX3 (a 51) (a 52) rf3 (nI rc3) (nI rr3)))), (aI k (a 51) 24 rs3), (aI k (a 52) 24 rb3), ((a 41), .inr (3, (fX3 (a 42) (a 43) rf__4 (nI rc__4) (nI rr__4)))), (aI k (a 42) 24 rs__4), (aI k (a 43) 24 rb__4), (aB k (a 2) 240 fx)]) (va_runV (As := []) (rest := []) ⟨hx, hb, hml, hown, hts⟩ ((y_closeText l D k st lo a 0 lfa tz (nI ta__4) na__4 (nI e_5) (nI pl_5)) H.size) (cwV 0 hts (gV tw_496 tw_498 tw_2 tw_79 tw_499) rfl rfl rfl (by decide +kernel) ⟨Nat.le_of_ble_eq_true rfl, Nat.le_of_ble_eq_true rfl⟩) (pV hS hAlo hlo hP hK (va_Dlo hD hAlo) hZ [0, 14] (by decide) rfl (ci := 7) (q := (RX7, TX7, 12)) (q0 := 0) rfl rfl) rfl rfl hl.1 rfl (lv_room (Nat.le_of_ble_eq_true rfl)) dX7_rule_52 ⟨Nat.le_of_ble_eq_true rfl, Nat.le_of_ble_eq_true rfl⟩) hS hA hP hD [0, 14] [1, 2, 3, 4, 5, 6, 7, 8, 9, 10, 11, 12, 13, 15] rfl rfl (by decide +kernel) (by decide +kernel) (fun r_9 u H locs hw_9 hP hD hS => ?_)
          obtain ⟨lfa__9, tz__9⟩ := u
          have hQ9 := pd_mk [((a 40), .inl (k 5, 4, .inr (.inr (.inr (.inr (a4 (a 41) (a 44) (a 47) (a 50))))))), ((a 44), .inr (3, (fX3 (a 45) (a 46) rf1 (nI rc1) (nI rr1)))), (aI k (a 45) 24 rs1), (aI k (a 46) 24 rb1), ((a 47), .inr (3, (fX3 (a 48) (a 49) rf2 (nI rc2) (nI rr2)))), (aI k (a 48) 24 rs2), (aI k (a 49) 24 rb2), ((a 50), .inr (3, (fX3 (a 51) (a 52) rf3 (nI rc3) (nI rr3)))), (aI k (a 51) 24 rs3), (aI k (a 52) 24 rb3), ((a 41), .inr (3, (fX3 (a 42) (a 43) rf__4 (nI rc__4) (nI rr__4)))), (aI k (a 42) 24 rs__4), (aI k (a 43) 24 rb__4), (aB k (a 2) 240 fx), ((a 0), .inr (7, (fX7 (a 1) (a 3) (a 19) (a 35) (a 40) 0 lfa__9 (a 53) (a 56) (a 63) (a 64) (a 68)))), ((a 1), .inr (6, (fX6 (a 2) (nI tz__9) (nI ta__4) na__4 (nI e_5) (nI pl_5))))] hP hD
          clear hP hD
          obtain ⟨hP, hD⟩ := hQ9
          try dsimp only at hw_9
          have hcl_10 := hw_9.2.2 (nI_ne0 (show 0 < e_5 by omega) (by omega))
          obtain ⟨hs0_11, hs1_11⟩ := (⟨hw_9.1, hcl_10.2⟩ : _ ∧ _)
          replace hs0_11 := hs0_11.symm
          subst hs0_11
          replace hs1_11 := hs1_11.symm
          subst hs1_11
          refine lv_istore_n (lv' := [(1, .int r_9), (0, .ref (a 0))]) hx hb dX7_rule_55 rfl hl (by decide) rfl (fun ls hl => ?_)
          refine lv_iload_n hx hb dX7_rule_56 rfl (lv_at hl 0 rfl) ?_
          refine lv_if_ge (tgt := 62) hx hb dX7_rule_57 (by decide) (fun c_12 => absurd c_12 (by rw [hcl_10.1]; exact neg10 he1_5 he2_5)) (fun c_12 => ?_)
          refine lv_iload_n hx hb dX7_rule_60 rfl (lv_at hl 0 rfl) ?_
          obtain ⟨hP9, hD9⟩ := pd_sub [((a 0), .inr (7, (fX7 (a 1) (a 3) (a 19) (a 35) (a 40) 0 (nI pl_5) (a 53) (a 56) (a 63) (a 64) (a 68)))), ((a 1), .inr (6, (fX6 (a 2) 0 (nI ta__4) na__4 (nI e_5) (nI pl_5)))), (aB k (a 2) 240 fx), ((a 40), .inl (k 5, 4, .inr (.inr (.inr (.inr (a4 (a 41) (a 44) (a 47) (a 50))))))), ((a 41), .inr (3, (fX3 (a 42) (a 43) rf__4 (nI rc__4) (nI rr__4)))), (aI k (a 42) 24 rs__4), (aI k (a 43) 24 rb__4), ((a 44), .inr (3, (fX3 (a 45) (a 46) rf1 (nI rc1) (nI rr1)))), (aI k (a 45) 24 rs1), (aI k (a 46) 24 rb1), ((a 47), .inr (3, (fX3 (a 48) (a 49) rf2 (nI rc2) (nI rr2)))), (aI k (a 48) 24 rs2), (aI k (a 49) 24 rb2), ((a 50), .inr (3, (fX3 (a 51) (a 52) rf3 (nI rc3) (nI rr3)))), (aI k (a 51) 24 rs3), (aI k (a 52) 24 rb3)] [14, 15, 13, 0, 10, 11, 12, 1, 2, 3, 4, 5, 6, 7, 8, 9] hP hD (by decide +kernel) rfl
          exact W.iret (v := r_9) hx hb hr (fun t ht hW => ⟨⟨r_9, (0, (nI pl_5), 0, (nI ta__4), na__4, (nI e_5), (nI pl_5), rf__4, rc__4, rr__4, rs__4, rb__4, rf1, rc1, rr1, rs1, rb1, rf2, rc2, rr2, rs2, rb2, rf3, rc3, rr3, rs3, rb3), rfl, ⟨⟨fun h => absurd h (by omega), fun _ h => absurd h (by omega), fun _ _ => ⟨rfl, (fun q hq => absurd hq (by omega)), .inl ⟨e_5, pl_5, he1_5, he2_5, hp1_5, hp2_5, hcl_10.1, rfl, rfl⟩⟩⟩, by omega, by omega, by omega, by omega, by omega, by omega, by omega, by omega, by omega, by omega⟩, by rw [ht]; exact hP9, hD9⟩, hS.F ht⟩) hS.2.2 dX7_rule_61
      · refine lv_aload_n hx hb dX7_rule_28 rfl (lv_at hl 0 rfl) ?_
        refine va_get (D := D) (ci := 7) (v := .ref (a 1)) (C := RX7) (T := TX7) (N := 12) hx hb hts inX7 hown hK hP 0 rfl rfl 0 (by decide) (hts _ tw_305) (fun _ h9 => h9) rfl dX7_rule_29 ?_
        refine rw_v (D := D) (wr := [((a 0), .inr (7, (fX7 (a 1) (a 3) (a 19) (a 35) (a 40) 1 lfa (a 53) (a 56) (a 63) (a 64) (a 68)))), ((a 40), .inl (k 5, 4, .inr (.inr (.inr (.inr (a4 (a 41) (a 44) (a 47) (a 50))))))), ((a 41), .inr (3, (fX3 (a 42) (a 43) rf0 (nI rc0) (nI rr0)))), (aI k (a 42) 24 rs0), (aI k (a 43) 24 rb0), ((a 44), .inr (3, (fX3 (a 45) (a 46) rf1 (nI rc1) (nI rr1)))), (aI k (a 45) 24 rs1), (aI k (a 46) 24 rb1), ((a 47), .inr (3, (fX3 (a 48) (a 49) rf2 (nI rc2) (nI rr2)))), (aI k (a 48) 24 rs2), (aI k (a 49) 24 rb2), ((a 50), .inr (3, (fX3 (a 51) (a 52) rf3 (nI rc3) (nI rr3)))), (aI k (a 51) 24 rs3), (aI k (a 52) 24 rb3)]) (va_runV (As := []) (rest := []) ⟨hx, hb, hml, hown, hts⟩ ((x_rewind l D k st lo (a 1) (a 2) tz ta na fn fb fx) s.heap.size) (cwV 0 hts (gV tw_354 tw_355 tw_356 tw_80 tw_357) rfl rfl rfl (by decide +kernel) ⟨Nat.le_of_ble_eq_true rfl, Nat.le_of_ble_eq_true rfl⟩) (pV hS hAlo hlo hP hK (va_Dlo hD hAlo) hZ [1, 2] (by decide) rfl (ci := 6) (q := (RX6, TX6, 6)) (q0 := 0) rfl rfl) rfl rfl hl.1 rfl (lv_room (Nat.le_of_ble_eq_true rfl)) dX7_rule_32 ⟨Nat.le_of_ble_eq_true rfl, Nat.le_of_ble_eq_true rfl⟩) hS hA hP hD [1, 2] [0, 3, 4, 5, 6, 7, 8, 9, 10, 11, 12, 13, 14, 15] rfl rfl (by decide +kernel) (by decide +kernel) (fun u H locs hw_13 hP hD hS => ?_)
        obtain ⟨ta__13, na__13, fn__13, fb__13⟩ := u
        have hQ9 := pd_mk [((a 0), .inr (7, (fX7 (a 1) (a 3) (a 19) (a 35) (a 40) 1 lfa (a 53) (a 56) (a 63) (a 64) (a 68)))), ((a 40), .inl (k 5, 4, .inr (.inr (.inr (.inr (a4 (a 41) (a 44) (a 47) (a 50))))))), ((a 41), .inr (3, (fX3 (a 42) (a 43) rf0 (nI rc0) (nI rr0)))), (aI k (a 42) 24 rs0), (aI k (a 43) 24 rb0), ((a 44), .inr (3, (fX3 (a 45) (a 46) rf1 (nI rc1) (nI rr1)))), (aI k (a 45) 24 rs1), (aI k (a 46) 24 rb1), ((a 47), .inr (3, (fX3 (a 48) (a 49) rf2 (nI rc2) (nI rr2)))), (aI k (a 48) 24 rs2), (aI k (a 49) 24 rb2), ((a 50), .inr (3, (fX3 (a 51) (a 52) rf3 (nI rc3) (nI rr3)))), (aI k (a 51) 24 rs3), (aI k (a 52) 24 rb3), ((a 1), .inr (6, (fX6 (a 2) (nI tz) ta__13 na__13 fn__13 fb__13))), (aB k (a 2) 240 fx)] hP hD
        clear hP hD
        obtain ⟨hP, hD⟩ := hQ9
        try dsimp only at hw_13
        obtain ⟨rfl, rfl⟩ := hw_13
        refine lv_aload_n hx hb dX7_rule_35 rfl (lv_at hl 0 rfl) ?_
        refine va_get (D := D) (ci := 7) (v := .ref (a 40)) (C := RX7) (T := TX7) (N := 12) hx hb hts inX7 hown hK hP 0 rfl rfl 4 (by decide) (hts _ tw_309) (fun _ h9 => h9) rfl dX7_rule_36 ?_
        refine lv_aload_n hx hb dX7_rule_39 rfl (lv_at hl 0 rfl) ?_
        refine va_get (D := D) (ci := 7) (v := .int 1) (C := RX7) (T := TX7) (N := 12) hx hb hts inX7 hown hK hP 0 rfl rfl 5 (by decide) (hts _ tw_310) (fun _ h9 => h9) rfl dX7_rule_40 ?_
        refine va_aldq hx hb hK hP 1 5 rfl rfl (by unfold vp_in; decide) dX7_rule_43 ?_
        refine lv_tr (y := .ref (a 44)) rfl ?_
        refine lv_aload_n hx hb dX7_rule_44 rfl (lv_at hl 0 rfl) ?_
        refine va_get (D := D) (ci := 7) (v := .ref (a 1)) (C := RX7) (T := TX7) (N := 12) hx hb hts inX7 hown hK hP 0 rfl rfl 0 (by decide) (hts _ tw_305) (fun _ h9 => h9) rfl dX7_rule_45 ?_
        refine rw_v (D := D) (wr := [((a 0), .inr (7, (fX7 (a 1) (a 3) (a 19) (a 35) (a 40) 1 lfa (a 53) (a 56) (a 63) (a 64) (a 68)))), ((a 40), .inl (k 5, 4, .inr (.inr (.inr (.inr (a4 (a 41) (a 44) (a 47) (a 50))))))), ((a 41), .inr (3, (fX3 (a 42) (a 43) rf0 (nI rc0) (nI rr0)))), (aI k (a 42) 24 rs0), (aI k (a 43) 24 rb0), ((a 47), .inr (3, (fX3 (a 48) (a 49) rf2 (nI rc2) (nI rr2)))), (aI k (a 48) 24 rs2), (aI k (a 49) 24 rb2), ((a 50), .inr (3, (fX3 (a 51) (a 52) rf3 (nI rc3) (nI rr3)))), (aI k (a 51) 24 rs3), (aI k (a 52) 24 rb3)]) (va_runV (As := [.ref (a 1)]) (rest := []) ⟨hx, hb, hml, hown, hts⟩ ((y_Rule_readFrom l D k st lo (a 44) (a 45) (a 46) rf1 rc1 rr1 rs1 rb1 (a 1) (a 2) tz 0 na__13 0 fb__13 fx (by first | assumption | omega) (by first | assumption | omega) (by first | assumption | omega) rfl) H.size) (cwV 1 hts (gV tw_675 tw_676 tw_677 tw_86 tw_678) rfl rfl rfl (by decide +kernel) ⟨Nat.le_of_ble_eq_true rfl, Nat.le_of_ble_eq_true rfl⟩) (pV hS hAlo hlo hP hK (va_Dlo hD hAlo) hZ [5, 6, 7, 14, 15] (by decide) rfl (ci := 3) (q := (RX3, TX3, 5)) (q0 := 0) rfl rfl) rfl rfl hl.1 rfl (lv_room (Nat.le_of_ble_eq_true rfl)) dX7_rule_48 ⟨Nat.le_of_ble_eq_true rfl, Nat.le_of_ble_eq_true rfl⟩) hS hA hP hD [5, 6, 7, 14, 15] [0, 1, 2, 3, 4, 8, 9, 10, 11, 12, 13] rfl rfl (by decide +kernel) (by decide +kernel) (fun u H locs hw_14 hP hD hS => ?_)
        obtain ⟨rf__14, rc__14, rr__14, rs__14, rb__14, ta__14, na__14, fn__14, fb__14⟩ := u
        have hQ9 := pd_mk [((a 0), .inr (7, (fX7 (a 1) (a 3) (a 19) (a 35) (a 40) 1 lfa (a 53) (a 56) (a 63) (a 64) (a 68)))), ((a 40), .inl (k 5, 4, .inr (.inr (.inr (.inr (a4 (a 41) (a 44) (a 47) (a 50))))))), ((a 41), .inr (3, (fX3 (a 42) (a 43) rf0 (nI rc0) (nI rr0)))), (aI k (a 42) 24 rs0), (aI k (a 43) 24 rb0), ((a 47), .inr (3, (fX3 (a 48) (a 49) rf2 (nI rc2) (nI rr2)))), (aI k (a 48) 24 rs2), (aI k (a 49) 24 rb2), ((a 50), .inr (3, (fX3 (a 51) (a 52) rf3 (nI rc3) (nI rr3)))), (aI k (a 51) 24 rs3), (aI k (a 52) 24 rb3), ((a 44), .inr (3, (fX3 (a 45) (a 46) rf__14 (nI rc__14) (nI rr__14)))), (aI k (a 45) 24 rs__14), (aI k (a 46) 24 rb__14), ((a 1), .inr (6, (fX6 (a 2) (nI tz) (nI ta__14) na__14 fn__14 fb__14))), (aB k (a 2) 240 fx)] hP hD
        clear hP hD
        obtain ⟨hP, hD⟩ := hQ9
        try dsimp only at hw_14
        rcases hw_14 with ⟨⟨rfl, hrf_15, hrc_15⟩ | ⟨e_15, pl_15, rfl, he1_15, he2_15, hp1_15, hp2_15, rfl⟩, hw_14⟩
        · refine lv_aload_n hx hb dX7_rule_51 rfl (lv_at hl 0 rfl) ?_
          refine rw_i (D := D) (wr := [((a 40), .inl (k 5, 4, .inr (.inr (.inr (.inr (a4 (a 41) (a 44) (a 47) (a 50))))))), ((a 41), .inr (3, (fX3 (a 42) (a 43) rf0 (nI rc0) (nI rr0)))), (aI k (a 42) 24 rs0), (aI k (a 43) 24 rb0), ((a 47), .inr (3, (fX3 (a 48) (a 49) rf2 (nI rc2) (nI rr2)))), (aI k (a 48) 24 rs2), (aI k (a 49) 24 rb2), ((a 50), .inr (3, (fX3 (a 51) (a 52) rf3 (nI rc3) (nI rr3)))), (aI k (a 51) 24 rs3), (aI k (a 52) 24 rb3), ((a 44), .inr (3, (fX3 (a 45) (a 46) rf__14 (nI rc__14) (nI rr__14)))), (aI k (a 45) 24 rs__14), (aI k (a 46) 24 rb__14), (aB k (a 2) 240 fx)]) (va_runV (As := []) (rest := []) ⟨hx, hb, hml, hown, hts⟩ ((y_closeText l D k st lo a 1 lfa tz (nI ta__14) na__14 0 fb__14) H.size) (cwV 0 hts (gV tw_496 tw_498 tw_2 tw_79 tw_499) rfl rfl rfl (by decide +kernel) ⟨Nat.le_of_ble_eq_true rfl, Nat.le_of_ble_eq_true rfl⟩) (pV hS hAlo hlo hP hK (va_Dlo hD hAlo) hZ [0, 14] (by decide) rfl (ci := 7) (q := (RX7, TX7, 12)) (q0 := 0) rfl rfl) rfl rfl hl.1 rfl (lv_room (Nat.le_of_ble_eq_true rfl)) dX7_rule_52 ⟨Nat.le_of_ble_eq_true rfl, Nat.le_of_ble_eq_true rfl⟩) hS hA hP hD [0, 14] [1, 2, 3, 4, 5, 6, 7, 8, 9, 10, 11, 12, 13, 15] rfl rfl (by decide +kernel) (by decide +kernel) (fun r_16 u H locs hw_16 hP hD hS => ?_)
          obtain ⟨lfa__16, tz__16⟩ := u
          have hQ9 := pd_mk [((a 40), .inl (k 5, 4, .inr (.inr (.inr (.inr (a4 (a 41) (a 44) (a 47) (a 50))))))), ((a 41), .inr (3, (fX3 (a 42) (a 43) rf0 (nI rc0) (nI rr0)))), (aI k (a 42) 24 rs0), (aI k (a 43) 24 rb0), ((a 47), .inr (3, (fX3 (a 48) (a 49) rf2 (nI rc2) (nI rr2)))), (aI k (a 48) 24 rs2), (aI k (a 49) 24 rb2), ((a 50), .inr (3, (fX3 (a 51) (a 52) rf3 (nI rc3) (nI rr3)))), (aI k (a 51) 24 rs3), (aI k (a 52) 24 rb3), ((a 44), .inr (3, (fX3 (a 45) (a 46) rf__14 (nI rc__14) (nI rr__14)))), (aI k (a 45) 24 rs__14), (aI k (a 46) 24 rb__14), (aB k (a 2) 240 fx), ((a 0), .inr (7, (fX7 (a 1) (a 3) (a 19) (a 35) (a 40) 1 lfa__16 (a 53) (a 56) (a 63) (a 64) (a 68)))), ((a 1), .inr (6, (fX6 (a 2) (nI tz__16) (nI ta__14) na__14 0 fb__14)))] hP hD
          clear hP hD
          obtain ⟨hP, hD⟩ := hQ9
          try dsimp only at hw_16
          have hcl_17 := hw_16.2.1 rfl
          obtain ⟨hs0_18, hs1_18, hs2_18⟩ := (⟨hw_16.1, hcl_17.1, hcl_17.2⟩ : _ ∧ _ ∧ _)
          replace hs0_18 := hs0_18.symm
          subst hs0_18
          replace hs1_18 := hs1_18.symm
          subst hs1_18
          replace hs2_18 := hs2_18.symm
          subst hs2_18
          refine lv_istore_n (lv' := [(1, .int 0), (0, .ref (a 0))]) hx hb dX7_rule_55 rfl hl (by decide) rfl (fun ls hl => ?_)
          refine lv_iload_n hx hb dX7_rule_56 rfl (lv_at hl 0 rfl) ?_
          refine lv_if_ge (tgt := 62) hx hb dX7_rule_57 (by decide) (fun _ => ?_) (fun h => absurd (by decide) h)
          refine lv_aload_n hx hb dX7_rule_62 rfl (lv_at hl 1 rfl) ?_
          refine lv_dup hx hb dX7_rule_63 rfl ?_
          refine va_get (D := D) (ci := 7) (v := .int 1) (C := RX7) (T := TX7) (N := 12) hx hb hts inX7 hown hK hP 14 rfl rfl 5 (by decide) (hts _ tw_310) (fun _ h9 => h9) rfl dX7_rule_64 ?_
          refine lv_iconst (v := 1) hx hb dX7_rule_67 (by decide) ?_
          refine lv_iadd hx hb dX7_rule_68 ?_
          refine lv_ti (y := 2) (by decide) ?_
          refine va_put (D := D) (ci := 7) (v := .int 2) (ty := .int) (C := RX7) (T := TX7) (N := 12) hx hb hts inX7 tyX7 tyX7_ok nmX7 hown hK hP hD hS 14 rfl rfl 5 (by decide) (hts _ tw_310) (fun _ h9 => h9) rfl (by decide +kernel) rfl rfl (Nat.le_of_ble_eq_true rfl) dX7_rule_69 (fun H locs hP hD hS => ?_)
          have hQ9 := pd_mk [((a 40), .inl (k 5, 4, .inr (.inr (.inr (.inr (a4 (a 41) (a 44) (a 47) (a 50))))))), ((a 41), .inr (3, (fX3 (a 42) (a 43) rf0 (nI rc0) (nI rr0)))), (aI k (a 42) 24 rs0), (aI k (a 43) 24 rb0), ((a 47), .inr (3, (fX3 (a 48) (a 49) rf2 (nI rc2) (nI rr2)))), (aI k (a 48) 24 rs2), (aI k (a 49) 24 rb2), ((a 50), .inr (3, (fX3 (a 51) (a 52) rf3 (nI rc3) (nI rr3)))), (aI k (a 51) 24 rs3), (aI k (a 52) 24 rb3), ((a 44), .inr (3, (fX3 (a 45) (a 46) rf__14 (nI rc__14) (nI rr__14)))), (aI k (a 45) 24 rs__14), (aI k (a 46) 24 rb__14), (aB k (a 2) 240 fx), ((a 0), .inr (7, (fX7 (a 1) (a 3) (a 19) (a 35) (a 40) 2 (-1) (a 53) (a 56) (a 63) (a 64) (a 68)))), ((a 1), .inr (6, (fX6 (a 2) 0 (nI ta__14) na__14 0 fb__14)))] hP hD
          clear hP hD
          obtain ⟨hP, hD⟩ := hQ9
          refine lv_aload_n hx hb dX7_rule_72 rfl (lv_at hl 1 rfl) ?_
          refine va_get (D := D) (ci := 7) (v := .int 2) (C := RX7) (T := TX7) (N := 12) hx hb hts inX7 hown hK hP 14 rfl rfl 5 (by decide) (hts _ tw_310) (fun _ h9 => h9) rfl dX7_rule_73 ?_
          refine lv_iconst (v := 1) hx hb dX7_rule_76 (by decide) ?_
          refine lv_isub hx hb dX7_rule_77 ?_
          refine lv_ti (y := 1) (by decide) ?_
          obtain ⟨hP9, hD9⟩ := pd_sub [((a 0), .inr (7, (fX7 (a 1) (a 3) (a 19) (a 35) (a 40) 2 (-1) (a 53) (a 56) (a 63) (a 64) (a 68)))), ((a 1), .inr (6, (fX6 (a 2) 0 (nI ta__14) na__14 0 fb__14))), (aB k (a 2) 240 fx), ((a 40), .inl (k 5, 4, .inr (.inr (.inr (.inr (a4 (a 41) (a 44) (a 47) (a 50))))))), ((a 41), .inr (3, (fX3 (a 42) (a 43) rf0 (nI rc0) (nI rr0)))), (aI k (a 42) 24 rs0), (aI k (a 43) 24 rb0), ((a 44), .inr (3, (fX3 (a 45) (a 46) rf__14 (nI rc__14) (nI rr__14)))), (aI k (a 45) 24 rs__14), (aI k (a 46) 24 rb__14), ((a 47), .inr (3, (fX3 (a 48) (a 49) rf2 (nI rc2) (nI rr2)))), (aI k (a 48) 24 rs2), (aI k (a 49) 24 rb2), ((a 50), .inr (3, (fX3 (a 51) (a 52) rf3 (nI rc3) (nI rr3)))), (aI k (a 51) 24 rs3), (aI k (a 52) 24 rb3)] [14, 15, 13, 0, 1, 2, 3, 10, 11, 12, 4, 5, 6, 7, 8, 9] hP hD (by decide +kernel) rfl
          exact W.iret (v := 1) hx hb hr (fun t ht hW => ⟨⟨1, (2, (-1), 0, (nI ta__14), na__14, 0, fb__14, rf0, rc0, rr0, rs0, rb0, rf__14, rc__14, rr__14, rs__14, rb__14, rf2, rc2, rr2, rs2, rb2, rf3, rc3, rr3, rs3, rb3), rfl, ⟨⟨fun h => absurd h (by omega), fun _ h => absurd h (by omega), fun _ _ => ⟨rfl, (fun q hq => by rcases (show q = 0 by omega) with rfl <;> rfl), .inr ⟨hrf_15, rfl, rfl, rfl⟩⟩⟩, by omega, by omega, by omega, by omega, by omega, by omega, by omega, by omega, by omega, by omega⟩, by rw [ht]; exact hP9, hD9⟩, hS.F ht⟩) hS.2.2 dX7_rule_78
        · refine lv_aload_n hx hb dX7_rule_51 rfl (lv_at hl 0 rfl) ?_
          refine rw_i (D := D) (wr := [((a 40), .inl (k 5, 4, .inr (.inr (.inr (.inr (a4 (a 41) (a 44) (a 47) (a 50))))))), ((a 41), .inr (3, (fX3 (a 42) (a 43) rf0 (nI rc0) (nI rr0)))), (aI k (a 42) 24 rs0), (aI k (a 43) 24 rb0), ((a 47), .inr (3, (fX3 (a 48) (a 49) rf2 (nI rc2) (nI rr2)))), (aI k (a 48) 24 rs2), (aI k (a 49) 24 rb2), ((a 50), .inr (3, (fX3 (a 51) (a 52) rf3 (nI rc3) (nI rr3)))), (aI k (a 51) 24 rs3), (aI k (a 52) 24 rb3), ((a 44), .inr (3, (fX3 (a 45) (a 46) rf__14 (nI rc__14) (nI rr__14)))), (aI k (a 45) 24 rs__14), (aI k (a 46) 24 rb__14), (aB k (a 2) 240 fx)]) (va_runV (As := []) (rest := []) ⟨hx, hb, hml, hown, hts⟩ ((y_closeText l D k st lo a 1 lfa tz (nI ta__14) na__14 (nI e_15) (nI pl_15)) H.size) (cwV 0 hts (gV tw_496 tw_498 tw_2 tw_79 tw_499) rfl rfl rfl (by decide +kernel) ⟨Nat.le_of_ble_eq_true rfl, Nat.le_of_ble_eq_true rfl⟩) (pV hS hAlo hlo hP hK (va_Dlo hD hAlo) hZ [0, 14] (by decide) rfl (ci := 7) (q := (RX7, TX7, 12)) (q0 := 0) rfl rfl) rfl rfl hl.1 rfl (lv_room (Nat.le_of_ble_eq_true rfl)) dX7_rule_52 ⟨Nat.le_of_ble_eq_true rfl, Nat.le_of_ble_eq_true rfl⟩) hS hA hP hD [0, 14] [1, 2, 3, 4, 5, 6, 7, 8, 9, 10, 11, 12, 13, 15] rfl rfl (by decide +kernel) (by decide +kernel) (fun r_19 u H locs hw_19 hP hD hS => ?_)
          obtain ⟨lfa__19, tz__19⟩ := u
          have hQ9 := pd_mk [((a 40), .inl (k 5, 4, .inr (.inr (.inr (.inr (a4 (a 41) (a 44) (a 47) (a 50))))))), ((a 41), .inr (3, (fX3 (a 42) (a 43) rf0 (nI rc0) (nI rr0)))), (aI k (a 42) 24 rs0), (aI k (a 43) 24 rb0), ((a 47), .inr (3, (fX3 (a 48) (a 49) rf2 (nI rc2) (nI rr2)))), (aI k (a 48) 24 rs2), (aI k (a 49) 24 rb2), ((a 50), .inr (3, (fX3 (a 51) (a 52) rf3 (nI rc3) (nI rr3)))), (aI k (a 51) 24 rs3), (aI k (a 52) 24 rb3), ((a 44), .inr (3, (fX3 (a 45) (a 46) rf__14 (nI rc__14) (nI rr__14)))), (aI k (a 45) 24 rs__14), (aI k (a 46) 24 rb__14), (aB k (a 2) 240 fx), ((a 0), .inr (7, (fX7 (a 1) (a 3) (a 19) (a 35) (a 40) 1 lfa__19 (a 53) (a 56) (a 63) (a 64) (a 68)))), ((a 1), .inr (6, (fX6 (a 2) (nI tz__19) (nI ta__14) na__14 (nI e_15) (nI pl_15))))] hP hD
          clear hP hD
          obtain ⟨hP, hD⟩ := hQ9
          try dsimp only at hw_19
          have hcl_20 := hw_19.2.2 (nI_ne0 (show 0 < e_15 by omega) (by omega))
          obtain ⟨hs0_21, hs1_21⟩ := (⟨hw_19.1, hcl_20.2⟩ : _ ∧ _)
          replace hs0_21 := hs0_21.symm
          subst hs0_21
          replace hs1_21 := hs1_21.symm
          subst hs1_21
          refine lv_istore_n (lv' := [(1, .int r_19), (0, .ref (a 0))]) hx hb dX7_rule_55 rfl hl (by decide) rfl (fun ls hl => ?_)
          refine lv_iload_n hx hb dX7_rule_56 rfl (lv_at hl 0 rfl) ?_
          refine lv_if_ge (tgt := 62) hx hb dX7_rule_57 (by decide) (fun c_22 => absurd c_22 (by rw [hcl_20.1]; exact neg10 he1_15 he2_15)) (fun c_22 => ?_)
          refine lv_iload_n hx hb dX7_rule_60 rfl (lv_at hl 0 rfl) ?_
          obtain ⟨hP9, hD9⟩ := pd_sub [((a 0), .inr (7, (fX7 (a 1) (a 3) (a 19) (a 35) (a 40) 1 (nI pl_15) (a 53) (a 56) (a 63) (a 64) (a 68)))), ((a 1), .inr (6, (fX6 (a 2) 0 (nI ta__14) na__14 (nI e_15) (nI pl_15)))), (aB k (a 2) 240 fx), ((a 40), .inl (k 5, 4, .inr (.inr (.inr (.inr (a4 (a 41) (a 44) (a 47) (a 50))))))), ((a 41), .inr (3, (fX3 (a 42) (a 43) rf0 (nI rc0) (nI rr0)))), (aI k (a 42) 24 rs0), (aI k (a 43) 24 rb0), ((a 44), .inr (3, (fX3 (a 45) (a 46) rf__14 (nI rc__14) (nI rr__14)))), (aI k (a 45) 24 rs__14), (aI k (a 46) 24 rb__14), ((a 47), .inr (3, (fX3 (a 48) (a 49) rf2 (nI rc2) (nI rr2)))), (aI k (a 48) 24 rs2), (aI k (a 49) 24 rb2), ((a 50), .inr (3, (fX3 (a 51) (a 52) rf3 (nI rc3) (nI rr3)))), (aI k (a 51) 24 rs3), (aI k (a 52) 24 rb3)] [14, 15, 13, 0, 1, 2, 3, 10, 11, 12, 4, 5, 6, 7, 8, 9] hP hD (by decide +kernel) rfl
          exact W.iret (v := r_19) hx hb hr (fun t ht hW => ⟨⟨r_19, (1, (nI pl_15), 0, (nI ta__14), na__14, (nI e_15), (nI pl_15), rf0, rc0, rr0, rs0, rb0, rf__14, rc__14, rr__14, rs__14, rb__14, rf2, rc2, rr2, rs2, rb2, rf3, rc3, rr3, rs3, rb3), rfl, ⟨⟨fun h => absurd h (by omega), fun _ h => absurd h (by omega), fun _ _ => ⟨rfl, (fun q hq => by rcases (show q = 0 by omega) with rfl <;> rfl), .inl ⟨e_15, pl_15, he1_15, he2_15, hp1_15, hp2_15, hcl_20.1, rfl, rfl⟩⟩⟩, by omega, by omega, by omega, by omega, by omega, by omega, by omega, by omega, by omega, by omega⟩, by rw [ht]; exact hP9, hD9⟩, hS.F ht⟩) hS.2.2 dX7_rule_61
      · refine lv_aload_n hx hb dX7_rule_28 rfl (lv_at hl 0 rfl) ?_
        refine va_get (D := D) (ci := 7) (v := .ref (a 1)) (C := RX7) (T := TX7) (N := 12) hx hb hts inX7 hown hK hP 0 rfl rfl 0 (by decide) (hts _ tw_305) (fun _ h9 => h9) rfl dX7_rule_29 ?_
        refine rw_v (D := D) (wr := [((a 0), .inr (7, (fX7 (a 1) (a 3) (a 19) (a 35) (a 40) 2 lfa (a 53) (a 56) (a 63) (a 64) (a 68)))), ((a 40), .inl (k 5, 4, .inr (.inr (.inr (.inr (a4 (a 41) (a 44) (a 47) (a 50))))))), ((a 41), .inr (3, (fX3 (a 42) (a 43) rf0 (nI rc0) (nI rr0)))), (aI k (a 42) 24 rs0), (aI k (a 43) 24 rb0), ((a 44), .inr (3, (fX3 (a 45) (a 46) rf1 (nI rc1) (nI rr1)))), (aI k (a 45) 24 rs1), (aI k (a 46) 24 rb1), ((a 47), .inr (3, (fX3 (a 48) (a 49) rf2 (nI rc2) (nI rr2)))), (aI k (a 48) 24 rs2), (aI k (a 49) 24 rb2), ((a 50), .inr (3, (fX3 (a 51) (a 52) rf3 (nI rc3) (nI rr3)))), (aI k (a 51) 24 rs3), (aI k (a 52) 24 rb3)]) (va_runV (As := []) (rest := []) ⟨hx, hb, hml, hown, hts⟩ ((x_rewind l D k st lo (a 1) (a 2) tz ta na fn fb fx) s.heap.size) (cwV 0 hts (gV tw_354 tw_355 tw_356 tw_80 tw_357) rfl rfl rfl (by decide +kernel) ⟨Nat.le_of_ble_eq_true rfl, Nat.le_of_ble_eq_true rfl⟩) (pV hS hAlo hlo hP hK (va_Dlo hD hAlo) hZ [1, 2] (by decide) rfl (ci := 6) (q := (RX6, TX6, 6)) (q0 := 0) rfl rfl) rfl rfl hl.1 rfl (lv_room (Nat.le_of_ble_eq_true rfl)) dX7_rule_32 ⟨Nat.le_of_ble_eq_true rfl, Nat.le_of_ble_eq_true rfl⟩) hS hA hP hD [1, 2] [0, 3, 4, 5, 6, 7, 8, 9, 10, 11, 12, 13, 14, 15] rfl rfl (by decide +kernel) (by decide +kernel) (fun u H locs hw_23 hP hD hS => ?_)
        obtain ⟨ta__23, na__23, fn__23, fb__23⟩ := u
        have hQ9 := pd_mk [((a 0), .inr (7, (fX7 (a 1) (a 3) (a 19) (a 35) (a 40) 2 lfa (a 53) (a 56) (a 63) (a 64) (a 68)))), ((a 40), .inl (k 5, 4, .inr (.inr (.inr (.inr (a4 (a 41) (a 44) (a 47) (a 50))))))), ((a 41), .inr (3, (fX3 (a 42) (a 43) rf0 (nI rc0) (nI rr0)))), (aI k (a 42) 24 rs0), (aI k (a 43) 24 rb0), ((a 44), .inr (3, (fX3 (a 45) (a 46) rf1 (nI rc1) (nI rr1)))), (aI k (a 45) 24 rs1), (aI k (a 46) 24 rb1), ((a 47), .inr (3, (fX3 (a 48) (a 49) rf2 (nI rc2) (nI rr2)))), (aI k (a 48) 24 rs2), (aI k (a 49) 24 rb2), ((a 50), .inr (3, (fX3 (a 51) (a 52) rf3 (nI rc3) (nI rr3)))), (aI k (a 51) 24 rs3), (aI k (a 52) 24 rb3), ((a 1), .inr (6, (fX6 (a 2) (nI tz) ta__23 na__23 fn__23 fb__23))), (aB k (a 2) 240 fx)] hP hD
        clear hP hD
        obtain ⟨hP, hD⟩ := hQ9
        try dsimp only at hw_23
        obtain ⟨rfl, rfl⟩ := hw_23
        refine lv_aload_n hx hb dX7_rule_35 rfl (lv_at hl 0 rfl) ?_
        refine va_get (D := D) (ci := 7) (v := .ref (a 40)) (C := RX7) (T := TX7) (N := 12) hx hb hts inX7 hown hK hP 0 rfl rfl 4 (by decide) (hts _ tw_309) (fun _ h9 => h9) rfl dX7_rule_36 ?_
        refine lv_aload_n hx hb dX7_rule_39 rfl (lv_at hl 0 rfl) ?_
        refine va_get (D := D) (ci := 7) (v := .int 2) (C := RX7) (T := TX7) (N := 12) hx hb hts inX7 hown hK hP 0 rfl rfl 5 (by decide) (hts _ tw_310) (fun _ h9 => h9) rfl dX7_rule_40 ?_
        refine va_aldq hx hb hK hP 1 5 rfl rfl (by unfold vp_in; decide) dX7_rule_43 ?_
        refine lv_tr (y := .ref (a 47)) rfl ?_
        refine lv_aload_n hx hb dX7_rule_44 rfl (lv_at hl 0 rfl) ?_
        refine va_get (D := D) (ci := 7) (v := .ref (a 1)) (C := RX7) (T := TX7) (N := 12) hx hb hts inX7 hown hK hP 0 rfl rfl 0 (by decide) (hts _ tw_305) (fun _ h9 => h9) rfl dX7_rule_45 ?_
        refine rw_v (D := D) (wr := [((a 0), .inr (7, (fX7 (a 1) (a 3) (a 19) (a 35) (a 40) 2 lfa (a 53) (a 56) (a 63) (a 64) (a 68)))), ((a 40), .inl (k 5, 4, .inr (.inr (.inr (.inr (a4 (a 41) (a 44) (a 47) (a 50))))))), ((a 41), .inr (3, (fX3 (a 42) (a 43) rf0 (nI rc0) (nI rr0)))), (aI k (a 42) 24 rs0), (aI k (a 43) 24 rb0), ((a 44), .inr (3, (fX3 (a 45) (a 46) rf1 (nI rc1) (nI rr1)))), (aI k (a 45) 24 rs1), (aI k (a 46) 24 rb1), ((a 50), .inr (3, (fX3 (a 51) (a 52) rf3 (nI rc3) (nI rr3)))), (aI k (a 51) 24 rs3), (aI k (a 52) 24 rb3)]) (va_runV (As := [.ref (a 1)]) (rest := []) ⟨hx, hb, hml, hown, hts⟩ ((y_Rule_readFrom l D k st lo (a 47) (a 48) (a 49) rf2 rc2 rr2 rs2 rb2 (a 1) (a 2) tz 0 na__23 0 fb__23 fx (by first | assumption | omega) (by first | assumption | omega) (by first | assumption | omega) rfl) H.size) (cwV 1 hts (gV tw_675 tw_676 tw_677 tw_86 tw_678) rfl rfl rfl (by decide +kernel) ⟨Nat.le_of_ble_eq_true rfl, Nat.le_of_ble_eq_true rfl⟩) (pV hS hAlo hlo hP hK (va_Dlo hD hAlo) hZ [8, 9, 10, 14, 15] (by decide) rfl (ci := 3) (q := (RX3, TX3, 5)) (q0 := 0) rfl rfl) rfl rfl hl.1 rfl (lv_room (Nat.le_of_ble_eq_true rfl)) dX7_rule_48 ⟨Nat.le_of_ble_eq_true rfl, Nat.le_of_ble_eq_true rfl⟩) hS hA hP hD [8, 9, 10, 14, 15] [0, 1, 2, 3, 4, 5, 6, 7, 11, 12, 13] rfl rfl (by decide +kernel) (by decide +kernel) (fun u H locs hw_24 hP hD hS => ?_)
        obtain ⟨rf__24, rc__24, rr__24, rs__24, rb__24, ta__24, na__24, fn__24, fb__24⟩ := u
        have hQ9 := pd_mk [((a 0), .inr (7, (fX7 (a 1) (a 3) (a 19) (a 35) (a 40) 2 lfa (a 53) (a 56) (a 63) (a 64) (a 68)))), ((a 40), .inl (k 5, 4, .inr (.inr (.inr (.inr (a4 (a 41) (a 44) (a 47) (a 50))))))), ((a 41), .inr (3, (fX3 (a 42) (a 43) rf0 (nI rc0) (nI rr0)))), (aI k (a 42) 24 rs0), (aI k (a 43) 24 rb0), ((a 44), .inr (3, (fX3 (a 45) (a 46) rf1 (nI rc1) (nI rr1)))), (aI k (a 45) 24 rs1), (aI k (a 46) 24 rb1), ((a 50), .inr (3, (fX3 (a 51) (a 52) rf3 (nI rc3) (nI rr3)))), (aI k (a 51) 24 rs3), (aI k (a 52) 24 rb3), ((a 47), .inr (3, (fX3 (a 48) (a 49) rf__24 (nI rc__24) (nI rr__24)))), (aI k (a 48) 24 rs__24), (aI k (a 49) 24 rb__24), ((a 1), .inr (6, (fX6 (a 2) (nI tz) (nI ta__24) na__24 fn__24 fb__24))), (aB k (a 2) 240 fx)] hP hD
        clear hP hD
        obtain ⟨hP, hD⟩ := hQ9
        try dsimp only at hw_24
        rcases hw_24 with ⟨⟨rfl, hrf_25, hrc_25⟩ | ⟨e_25, pl_25, rfl, he1_25, he2_25, hp1_25, hp2_25, rfl⟩, hw_24⟩
        · refine lv_aload_n hx hb dX7_rule_51 rfl (lv_at hl 0 rfl) ?_
          refine rw_i (D := D) (wr := [((a 40), .inl (k 5, 4, .inr (.inr (.inr (.inr (a4 (a 41) (a 44) (a 47) (a 50))))))), ((a 41), .inr (3, (fX3 (a 42) (a 43) rf0 (nI rc0) (nI rr0)))), (aI k (a 42) 24 rs0), (aI k (a 43) 24 rb0), ((a 44), .inr (3, (fX3 (a 45) (a 46) rf1 (nI rc1) (nI rr1)))), (aI k (a 45) 24 rs1), (aI k (a 46) 24 rb1), ((a 50), .inr (3, (fX3 (a 51) (a 52) rf3 (nI rc3) (nI rr3)))), (aI k (a 51) 24 rs3), (aI k (a 52) 24 rb3), ((a 47), .inr (3, (fX3 (a 48) (a 49) rf__24 (nI rc__24) (nI rr__24)))), (aI k (a 48) 24 rs__24), (aI k (a 49) 24 rb__24), (aB k (a 2) 240 fx)]) (va_runV (As := []) (rest := []) ⟨hx, hb, hml, hown, hts⟩ ((y_closeText l D k st lo a 2 lfa tz (nI ta__24) na__24 0 fb__24) H.size) (cwV 0 hts (gV tw_496 tw_498 tw_2 tw_79 tw_499) rfl rfl rfl (by decide +kernel) ⟨Nat.le_of_ble_eq_true rfl, Nat.le_of_ble_eq_true rfl⟩) (pV hS hAlo hlo hP hK (va_Dlo hD hAlo) hZ [0, 14] (by decide) rfl (ci := 7) (q := (RX7, TX7, 12)) (q0 := 0) rfl rfl) rfl rfl hl.1 rfl (lv_room (Nat.le_of_ble_eq_true rfl)) dX7_rule_52 ⟨Nat.le_of_ble_eq_true rfl, Nat.le_of_ble_eq_true rfl⟩) hS hA hP hD [0, 14] [1, 2, 3, 4, 5, 6, 7, 8, 9, 10, 11, 12, 13, 15] rfl rfl (by decide +kernel) (by decide +kernel) (fun r_26 u H locs hw_26 hP hD hS => ?_)
          obtain ⟨lfa__26, tz__26⟩ := u
          have hQ9 := pd_mk [((a 40), .inl (k 5, 4, .inr (.inr (.inr (.inr (a4 (a 41) (a 44) (a 47) (a 50))))))), ((a 41), .inr (3, (fX3 (a 42) (a 43) rf0 (nI rc0) (nI rr0)))), (aI k (a 42) 24 rs0), (aI k (a 43) 24 rb0), ((a 44), .inr (3, (fX3 (a 45) (a 46) rf1 (nI rc1) (nI rr1)))), (aI k (a 45) 24 rs1), (aI k (a 46) 24 rb1), ((a 50), .inr (3, (fX3 (a 51) (a 52) rf3 (nI rc3) (nI rr3)))), (aI k (a 51) 24 rs3), (aI k (a 52) 24 rb3), ((a 47), .inr (3, (fX3 (a 48) (a 49) rf__24 (nI rc__24) (nI rr__24)))), (aI k (a 48) 24 rs__24), (aI k (a 49) 24 rb__24), (aB k (a 2) 240 fx), ((a 0), .inr (7, (fX7 (a 1) (a 3) (a 19) (a 35) (a 40) 2 lfa__26 (a 53) (a 56) (a 63) (a 64) (a 68)))), ((a 1), .inr (6, (fX6 (a 2) (nI tz__26) (nI ta__24) na__24 0 fb__24)))] hP hD
          clear hP hD
          obtain ⟨hP, hD⟩ := hQ9
          try dsimp only at hw_26
          have hcl_27 := hw_26.2.1 rfl
          obtain ⟨hs0_28, hs1_28, hs2_28⟩ := (⟨hw_26.1, hcl_27.1, hcl_27.2⟩ : _ ∧ _ ∧ _)
          replace hs0_28 := hs0_28.symm
          subst hs0_28
          replace hs1_28 := hs1_28.symm
          subst hs1_28
          replace hs2_28 := hs2_28.symm
          subst hs2_28
          refine lv_istore_n (lv' := [(1, .int 0), (0, .ref (a 0))]) hx hb dX7_rule_55 rfl hl (by decide) rfl (fun ls hl => ?_)
          refine lv_iload_n hx hb dX7_rule_56 rfl (lv_at hl 0 rfl) ?_
          refine lv_if_ge (tgt := 62) hx hb dX7_rule_57 (by decide) (fun _ => ?_) (fun h => absurd (by decide) h)
          refine lv_aload_n hx hb dX7_rule_62 rfl (lv_at hl 1 rfl) ?_
          refine lv_dup hx hb dX7_rule_63 rfl ?_
          refine va_get (D := D) (ci := 7) (v := .int 2) (C := RX7) (T := TX7) (N := 12) hx hb hts inX7 hown hK hP 14 rfl rfl 5 (by decide) (hts _ tw_310) (fun _ h9 => h9) rfl dX7_rule_64 ?_
          refine lv_iconst (v := 1) hx hb dX7_rule_67 (by decide) ?_
          refine lv_iadd hx hb dX7_rule_68 ?_
          refine lv_ti (y := 3) (by decide) ?_
          refine va_put (D := D) (ci := 7) (v := .int 3) (ty := .int) (C := RX7) (T := TX7) (N := 12) hx hb hts inX7 tyX7 tyX7_ok nmX7 hown hK hP hD hS 14 rfl rfl 5 (by decide) (hts _ tw_310) (fun _ h9 => h9) rfl (by decide +kernel) rfl rfl (Nat.le_of_ble_eq_true rfl) dX7_rule_69 (fun H locs hP hD hS => ?_)
          have hQ9 := pd_mk [((a 40), .inl (k 5, 4, .inr (.inr (.inr (.inr (a4 (a 41) (a 44) (a 47) (a 50))))))), ((a 41), .inr (3, (fX3 (a 42) (a 43) rf0 (nI rc0) (nI rr0)))), (aI k (a 42) 24 rs0), (aI k (a 43) 24 rb0), ((a 44), .inr (3, (fX3 (a 45) (a 46) rf1 (nI rc1) (nI rr1)))), (aI k (a 45) 24 rs1), (aI k (a 46) 24 rb1), ((a 50), .inr (3, (fX3 (a 51) (a 52) rf3 (nI rc3) (nI rr3)))), (aI k (a 51) 24 rs3), (aI k (a 52) 24 rb3), ((a 47), .inr (3, (fX3 (a 48) (a 49) rf__24 (nI rc__24) (nI rr__24)))), (aI k (a 48) 24 rs__24), (aI k (a 49) 24 rb__24), (aB k (a 2) 240 fx), ((a 0), .inr (7, (fX7 (a 1) (a 3) (a 19) (a 35) (a 40) 3 (-1) (a 53) (a 56) (a 63) (a 64) (a 68)))), ((a 1), .inr (6, (fX6 (a 2) 0 (nI ta__24) na__24 0 fb__24)))] hP hD
          clear hP hD
          obtain ⟨hP, hD⟩ := hQ9
          refine lv_aload_n hx hb dX7_rule_72 rfl (lv_at hl 1 rfl) ?_
          refine va_get (D := D) (ci := 7) (v := .int 3) (C := RX7) (T := TX7) (N := 12) hx hb hts inX7 hown hK hP 14 rfl rfl 5 (by decide) (hts _ tw_310) (fun _ h9 => h9) rfl dX7_rule_73 ?_
          refine lv_iconst (v := 1) hx hb dX7_rule_76 (by decide) ?_
          refine lv_isub hx hb dX7_rule_77 ?_
          refine lv_ti (y := 2) (by decide) ?_
          obtain ⟨hP9, hD9⟩ := pd_sub [((a 0), .inr (7, (fX7 (a 1) (a 3) (a 19) (a 35) (a 40) 3 (-1) (a 53) (a 56) (a 63) (a 64) (a 68)))), ((a 1), .inr (6, (fX6 (a 2) 0 (nI ta__24) na__24 0 fb__24))), (aB k (a 2) 240 fx), ((a 40), .inl (k 5, 4, .inr (.inr (.inr (.inr (a4 (a 41) (a 44) (a 47) (a 50))))))), ((a 41), .inr (3, (fX3 (a 42) (a 43) rf0 (nI rc0) (nI rr0)))), (aI k (a 42) 24 rs0), (aI k (a 43) 24 rb0), ((a 44), .inr (3, (fX3 (a 45) (a 46) rf1 (nI rc1) (nI rr1)))), (aI k (a 45) 24 rs1), (aI k (a 46) 24 rb1), ((a 47), .inr (3, (fX3 (a 48) (a 49) rf__24 (nI rc__24) (nI rr__24)))), (aI k (a 48) 24 rs__24), (aI k (a 49) 24 rb__24), ((a 50), .inr (3, (fX3 (a 51) (a 52) rf3 (nI rc3) (nI rr3)))), (aI k (a 51) 24 rs3), (aI k (a 52) 24 rb3)] [14, 15, 13, 0, 1, 2, 3, 4, 5, 6, 10, 11, 12, 7, 8, 9] hP hD (by decide +kernel) rfl
          exact W.iret (v := 2) hx hb hr (fun t ht hW => ⟨⟨2, (3, (-1), 0, (nI ta__24), na__24, 0, fb__24, rf0, rc0, rr0, rs0, rb0, rf1, rc1, rr1, rs1, rb1, rf__24, rc__24, rr__24, rs__24, rb__24, rf3, rc3, rr3, rs3, rb3), rfl, ⟨⟨fun h => absurd h (by omega), fun _ h => absurd h (by omega), fun _ _ => ⟨rfl, (fun q hq => by rcases (show q = 0 ∨ q = 1 by omega) with rfl | rfl <;> rfl), .inr ⟨hrf_25, rfl, rfl, rfl⟩⟩⟩, by omega, by omega, by omega, by omega, by omega, by omega, by omega, by omega, by omega, by omega⟩, by rw [ht]; exact hP9, hD9⟩, hS.F ht⟩) hS.2.2 dX7_rule_78
        · refine lv_aload_n hx hb dX7_rule_51 rfl (lv_at hl 0 rfl) ?_
          refine rw_i (D := D) (wr := [((a 40), .inl (k 5, 4, .inr (.inr (.inr (.inr (a4 (a 41) (a 44) (a 47) (a 50))))))), ((a 41), .inr (3, (fX3 (a 42) (a 43) rf0 (nI rc0) (nI rr0)))), (aI k (a 42) 24 rs0), (aI k (a 43) 24 rb0), ((a 44), .inr (3, (fX3 (a 45) (a 46) rf1 (nI rc1) (nI rr1)))), (aI k (a 45) 24 rs1), (aI k (a 46) 24 rb1), ((a 50), .inr (3, (fX3 (a 51) (a 52) rf3 (nI rc3) (nI rr3)))), (aI k (a 51) 24 rs3), (aI k (a 52) 24 rb3), ((a 47), .inr (3, (fX3 (a 48) (a 49) rf__24 (nI rc__24) (nI rr__24)))), (aI k (a 48) 24 rs__24), (aI k (a 49) 24 rb__24), (aB k (a 2) 240 fx)]) (va_runV (As := []) (rest := []) ⟨hx, hb, hml, hown, hts⟩ ((y_closeText l D k st lo a 2 lfa tz (nI ta__24) na__24 (nI e_25) (nI pl_25)) H.size) (cwV 0 hts (gV tw_496 tw_498 tw_2 tw_79 tw_499) rfl rfl rfl (by decide +kernel) ⟨Nat.le_of_ble_eq_true rfl, Nat.le_of_ble_eq_true rfl⟩) (pV hS hAlo hlo hP hK (va_Dlo hD hAlo) hZ [0, 14] (by decide) rfl (ci := 7) (q := (RX7, TX7, 12)) (q0 := 0) rfl rfl) rfl rfl hl.1 rfl (lv_room (Nat.le_of_ble_eq_true rfl)) dX7_rule_52 ⟨Nat.le_of_ble_eq_true rfl, Nat.le_of_ble_eq_true rfl⟩) hS hA hP hD [0, 14] [1, 2, 3, 4, 5, 6, 7, 8, 9, 10, 11, 12, 13, 15] rfl rfl (by decide +kernel) (by decide +kernel) (fun r_29 u H locs hw_29 hP hD hS => ?_)
          obtain ⟨lfa__29, tz__29⟩ := u
          have hQ9 := pd_mk [((a 40), .inl (k 5, 4, .inr (.inr (.inr (.inr (a4 (a 41) (a 44) (a 47) (a 50))))))), ((a 41), .inr (3, (fX3 (a 42) (a 43) rf0 (nI rc0) (nI rr0)))), (aI k (a 42) 24 rs0), (aI k (a 43) 24 rb0), ((a 44), .inr (3, (fX3 (a 45) (a 46) rf1 (nI rc1) (nI rr1)))), (aI k (a 45) 24 rs1), (aI k (a 46) 24 rb1), ((a 50), .inr (3, (fX3 (a 51) (a 52) rf3 (nI rc3) (nI rr3)))), (aI k (a 51) 24 rs3), (aI k (a 52) 24 rb3), ((a 47), .inr (3, (fX3 (a 48) (a 49) rf__24 (nI rc__24) (nI rr__24)))), (aI k (a 48) 24 rs__24), (aI k (a 49) 24 rb__24), (aB k (a 2) 240 fx), ((a 0), .inr (7, (fX7 (a 1) (a 3) (a 19) (a 35) (a 40) 2 lfa__29 (a 53) (a 56) (a 63) (a 64) (a 68)))), ((a 1), .inr (6, (fX6 (a 2) (nI tz__29) (nI ta__24) na__24 (nI e_25) (nI pl_25))))] hP hD
          clear hP hD
          obtain ⟨hP, hD⟩ := hQ9
          try dsimp only at hw_29
          have hcl_30 := hw_29.2.2 (nI_ne0 (show 0 < e_25 by omega) (by omega))
          obtain ⟨hs0_31, hs1_31⟩ := (⟨hw_29.1, hcl_30.2⟩ : _ ∧ _)
          replace hs0_31 := hs0_31.symm
          subst hs0_31
          replace hs1_31 := hs1_31.symm
          subst hs1_31
          refine lv_istore_n (lv' := [(1, .int r_29), (0, .ref (a 0))]) hx hb dX7_rule_55 rfl hl (by decide) rfl (fun ls hl => ?_)
          refine lv_iload_n hx hb dX7_rule_56 rfl (lv_at hl 0 rfl) ?_
          refine lv_if_ge (tgt := 62) hx hb dX7_rule_57 (by decide) (fun c_32 => absurd c_32 (by rw [hcl_30.1]; exact neg10 he1_25 he2_25)) (fun c_32 => ?_)
          refine lv_iload_n hx hb dX7_rule_60 rfl (lv_at hl 0 rfl) ?_
          obtain ⟨hP9, hD9⟩ := pd_sub [((a 0), .inr (7, (fX7 (a 1) (a 3) (a 19) (a 35) (a 40) 2 (nI pl_25) (a 53) (a 56) (a 63) (a 64) (a 68)))), ((a 1), .inr (6, (fX6 (a 2) 0 (nI ta__24) na__24 (nI e_25) (nI pl_25)))), (aB k (a 2) 240 fx), ((a 40), .inl (k 5, 4, .inr (.inr (.inr (.inr (a4 (a 41) (a 44) (a 47) (a 50))))))), ((a 41), .inr (3, (fX3 (a 42) (a 43) rf0 (nI rc0) (nI rr0)))), (aI k (a 42) 24 rs0), (aI k (a 43) 24 rb0), ((a 44), .inr (3, (fX3 (a 45) (a 46) rf1 (nI rc1) (nI rr1)))), (aI k (a 45) 24 rs1), (aI k (a 46) 24 rb1), ((a 47), .inr (3, (fX3 (a 48) (a 49) rf__24 (nI rc__24) (nI rr__24)))), (aI k (a 48) 24 rs__24), (aI k (a 49) 24 rb__24), ((a 50), .inr (3, (fX3 (a 51) (a 52) rf3 (nI rc3) (nI rr3)))), (aI k (a 51) 24 rs3), (aI k (a 52) 24 rb3)] [14, 15, 13, 0, 1, 2, 3, 4, 5, 6, 10, 11, 12, 7, 8, 9] hP hD (by decide +kernel) rfl
          exact W.iret (v := r_29) hx hb hr (fun t ht hW => ⟨⟨r_29, (2, (nI pl_25), 0, (nI ta__24), na__24, (nI e_25), (nI pl_25), rf0, rc0, rr0, rs0, rb0, rf1, rc1, rr1, rs1, rb1, rf__24, rc__24, rr__24, rs__24, rb__24, rf3, rc3, rr3, rs3, rb3), rfl, ⟨⟨fun h => absurd h (by omega), fun _ h => absurd h (by omega), fun _ _ => ⟨rfl, (fun q hq => by rcases (show q = 0 ∨ q = 1 by omega) with rfl | rfl <;> rfl), .inl ⟨e_25, pl_25, he1_25, he2_25, hp1_25, hp2_25, hcl_30.1, rfl, rfl⟩⟩⟩, by omega, by omega, by omega, by omega, by omega, by omega, by omega, by omega, by omega, by omega⟩, by rw [ht]; exact hP9, hD9⟩, hS.F ht⟩) hS.2.2 dX7_rule_61
      · refine lv_aload_n hx hb dX7_rule_28 rfl (lv_at hl 0 rfl) ?_
        refine va_get (D := D) (ci := 7) (v := .ref (a 1)) (C := RX7) (T := TX7) (N := 12) hx hb hts inX7 hown hK hP 0 rfl rfl 0 (by decide) (hts _ tw_305) (fun _ h9 => h9) rfl dX7_rule_29 ?_
        refine rw_v (D := D) (wr := [((a 0), .inr (7, (fX7 (a 1) (a 3) (a 19) (a 35) (a 40) 3 lfa (a 53) (a 56) (a 63) (a 64) (a 68)))), ((a 40), .inl (k 5, 4, .inr (.inr (.inr (.inr (a4 (a 41) (a 44) (a 47) (a 50))))))), ((a 41), .inr (3, (fX3 (a 42) (a 43) rf0 (nI rc0) (nI rr0)))), (aI k (a 42) 24 rs0), (aI k (a 43) 24 rb0), ((a 44), .inr (3, (fX3 (a 45) (a 46) rf1 (nI rc1) (nI rr1)))), (aI k (a 45) 24 rs1), (aI k (a 46) 24 rb1), ((a 47), .inr (3, (fX3 (a 48) (a 49) rf2 (nI rc2) (nI rr2)))), (aI k (a 48) 24 rs2), (aI k (a 49) 24 rb2), ((a 50), .inr (3, (fX3 (a 51) (a 52) rf3 (nI rc3) (nI rr3)))), (aI k (a 51) 24 rs3), (aI k (a 52) 24 rb3)]) (va_runV (As := []) (rest := []) ⟨hx, hb, hml, hown, hts⟩ ((x_rewind l D k st lo (a 1) (a 2) tz ta na fn fb fx) s.heap.size) (cwV 0 hts (gV tw_354 tw_355 tw_356 tw_80 tw_357) rfl rfl rfl (by decide +kernel) ⟨Nat.le_of_ble_eq_true rfl, Nat.le_of_ble_eq_true rfl⟩) (pV hS hAlo hlo hP hK (va_Dlo hD hAlo) hZ [1, 2] (by decide) rfl (ci := 6) (q := (RX6, TX6, 6)) (q0 := 0) rfl rfl) rfl rfl hl.1 rfl (lv_room (Nat.le_of_ble_eq_true rfl)) dX7_rule_32 ⟨Nat.le_of_ble_eq_true rfl, Nat.le_of_ble_eq_true rfl⟩) hS hA hP hD [1, 2] [0, 3, 4, 5, 6, 7, 8, 9, 10, 11, 12, 13, 14, 15] rfl rfl (by decide +kernel) (by decide +kernel) (fun u H locs hw_33 hP hD hS => ?_)
        obtain ⟨ta__33, na__33, fn__33, fb__33⟩ := u
        have hQ9 := pd_mk [((a 0), .inr (7, (fX7 (a 1) (a 3) (a 19) (a 35) (a 40) 3 lfa (a 53) (a 56) (a 63) (a 64) (a 68)))), ((a 40), .inl (k 5, 4, .inr (.inr (.inr (.inr (a4 (a 41) (a 44) (a 47) (a 50))))))), ((a 41), .inr (3, (fX3 (a 42) (a 43) rf0 (nI rc0) (nI rr0)))), (aI k (a 42) 24 rs0), (aI k (a 43) 24 rb0), ((a 44), .inr (3, (fX3 (a 45) (a 46) rf1 (nI rc1) (nI rr1)))), (aI k (a 45) 24 rs1), (aI k (a 46) 24 rb1), ((a 47), .inr (3, (fX3 (a 48) (a 49) rf2 (nI rc2) (nI rr2)))), (aI k (a 48) 24 rs2), (aI k (a 49) 24 rb2), ((a 50), .inr (3, (fX3 (a 51) (a 52) rf3 (nI rc3) (nI rr3)))), (aI k (a 51) 24 rs3), (aI k (a 52) 24 rb3), ((a 1), .inr (6, (fX6 (a 2) (nI tz) ta__33 na__33 fn__33 fb__33))), (aB k (a 2) 240 fx)] hP hD
        clear hP hD
        obtain ⟨hP, hD⟩ := hQ9
        try dsimp only at hw_33
        obtain ⟨rfl, rfl⟩ := hw_33
        refine lv_aload_n hx hb dX7_rule_35 rfl (lv_at hl 0 rfl) ?_
        refine va_get (D := D) (ci := 7) (v := .ref (a 40)) (C := RX7) (T := TX7) (N := 12) hx hb hts inX7 hown hK hP 0 rfl rfl 4 (by decide) (hts _ tw_309) (fun _ h9 => h9) rfl dX7_rule_36 ?_
        refine lv_aload_n hx hb dX7_rule_39 rfl (lv_at hl 0 rfl) ?_
        refine va_get (D := D) (ci := 7) (v := .int 3) (C := RX7) (T := TX7) (N := 12) hx hb hts inX7 hown hK hP 0 rfl rfl 5 (by decide) (hts _ tw_310) (fun _ h9 => h9) rfl dX7_rule_40 ?_
        refine va_aldq hx hb hK hP 1 5 rfl rfl (by unfold vp_in; decide) dX7_rule_43 ?_
        refine lv_tr (y := .ref (a 50)) rfl ?_
        refine lv_aload_n hx hb dX7_rule_44 rfl (lv_at hl 0 rfl) ?_
        refine va_get (D := D) (ci := 7) (v := .ref (a 1)) (C := RX7) (T := TX7) (N := 12) hx hb hts inX7 hown hK hP 0 rfl rfl 0 (by decide) (hts _ tw_305) (fun _ h9 => h9) rfl dX7_rule_45 ?_
        refine rw_v (D := D) (wr := [((a 0), .inr (7, (fX7 (a 1) (a 3) (a 19) (a 35) (a 40) 3 lfa (a 53) (a 56) (a 63) (a 64) (a 68)))), ((a 40), .inl (k 5, 4, .inr (.inr (.inr (.inr (a4 (a 41) (a 44) (a 47) (a 50))))))), ((a 41), .inr (3, (fX3 (a 42) (a 43) rf0 (nI rc0) (nI rr0)))), (aI k (a 42) 24 rs0), (aI k (a 43) 24 rb0), ((a 44), .inr (3, (fX3 (a 45) (a 46) rf1 (nI rc1) (nI rr1)))), (aI k (a 45) 24 rs1), (aI k (a 46) 24 rb1), ((a 47), .inr (3, (fX3 (a 48) (a 49) rf2 (nI rc2) (nI rr2)))), (aI k (a 48) 24 rs2), (aI k (a 49) 24 rb2)]) (va_runV (As := [.ref (a 1)]) (rest := []) ⟨hx, hb, hml, hown, hts⟩ ((y_Rule_readFrom l D k st lo (a 50) (a 51) (a 52) rf3 rc3 rr3 rs3 rb3 (a 1) (a 2) tz 0 na__33 0 fb__33 fx (by first | assumption | omega) (by first | assumption | omega) (by first | assumption | omega) rfl) H.size) (cwV 1 hts (gV tw_675 tw_676 tw_677 tw_86 tw_678) rfl rfl rfl (by decide +kernel) ⟨Nat.le_of_ble_eq_true rfl, Nat.le_of_ble_eq_true rfl⟩) (pV hS hAlo hlo hP hK (va_Dlo hD hAlo) hZ [11, 12, 13, 14, 15] (by decide) rfl (ci := 3) (q := (RX3, TX3, 5)) (q0 := 0) rfl rfl) rfl rfl hl.1 rfl (lv_room (Nat.le_of_ble_eq_true rfl)) dX7_rule_48 ⟨Nat.le_of_ble_eq_true rfl, Nat.le_of_ble_eq_true rfl⟩) hS hA hP hD [11, 12, 13, 14, 15] [0, 1, 2, 3, 4, 5, 6, 7, 8, 9, 10] rfl rfl (by decide +kernel) (by decide +kernel) (fun u H locs hw_34 hP hD hS => ?_)
        obtain ⟨rf__34, rc__34, rr__34, rs__34, rb__34, ta__34, na__34, fn__34, fb__34⟩ := u
        have hQ9 := pd_mk [((a 0), .inr (7, (fX7 (a 1) (a 3) (a 19) (a 35) (a 40) 3 lfa (a 53) (a 56) (a 63) (a 64) (a 68)))), ((a 40), .inl (k 5, 4, .inr (.inr (.inr (.inr (a4 (a 41) (a 44) (a 47) (a 50))))))), ((a 41), .inr (3, (fX3 (a 42) (a 43) rf0 (nI rc0) (nI rr0)))), (aI k (a 42) 24 rs0), (aI k (a 43) 24 rb0), ((a 44), .inr (3, (fX3 (a 45) (a 46) rf1 (nI rc1) (nI rr1)))), (aI k (a 45) 24 rs1), (aI k (a 46) 24 rb1), ((a 47), .inr (3, (fX3 (a 48) (a 49) rf2 (nI rc2) (nI rr2)))), (aI k (a 48) 24 rs2), (aI k (a 49) 24 rb2), ((a 50), .inr (3, (fX3 (a 51) (a 52) rf__34 (nI rc__34) (nI rr__34)))), (aI k (a 51) 24 rs__34), (aI k (a 52) 24 rb__34), ((a 1), .inr (6, (fX6 (a 2) (nI tz) (nI ta__34) na__34 fn__34 fb__34))), (aB k (a 2) 240 fx)] hP hD
        clear hP hD
        obtain ⟨hP, hD⟩ := hQ9
        try dsimp only at hw_34
        rcases hw_34 with ⟨⟨rfl, hrf_35, hrc_35⟩ | ⟨e_35, pl_35, rfl, he1_35, he2_35, hp1_35, hp2_35, rfl⟩, hw_34⟩
        · refine lv_aload_n hx hb dX7_rule_51 rfl (lv_at hl 0 rfl) ?_
          refine rw_i (D := D) (wr := [((a 40), .inl (k 5, 4, .inr (.inr (.inr (.inr (a4 (a 41) (a 44) (a 47) (a 50))))))), ((a 41), .inr (3, (fX3 (a 42) (a 43) rf0 (nI rc0) (nI rr0)))), (aI k (a 42) 24 rs0), (aI k (a 43) 24 rb0), ((a 44), .inr (3, (fX3 (a 45) (a 46) rf1 (nI rc1) (nI rr1)))), (aI k (a 45) 24 rs1), (aI k (a 46) 24 rb1), ((a 47), .inr (3, (fX3 (a 48) (a 49) rf2 (nI rc2) (nI rr2)))), (aI k (a 48) 24 rs2), (aI k (a 49) 24 rb2), ((a 50), .inr (3, (fX3 (a 51) (a 52) rf__34 (nI rc__34) (nI rr__34)))), (aI k (a 51) 24 rs__34), (aI k (a 52) 24 rb__34), (aB k (a 2) 240 fx)]) (va_runV (As := []) (rest := []) ⟨hx, hb, hml, hown, hts⟩ ((y_closeText l D k st lo a 3 lfa tz (nI ta__34) na__34 0 fb__34) H.size) (cwV 0 hts (gV tw_496 tw_498 tw_2 tw_79 tw_499) rfl rfl rfl (by decide +kernel) ⟨Nat.le_of_ble_eq_true rfl, Nat.le_of_ble_eq_true rfl⟩) (pV hS hAlo hlo hP hK (va_Dlo hD hAlo) hZ [0, 14] (by decide) rfl (ci := 7) (q := (RX7, TX7, 12)) (q0 := 0) rfl rfl) rfl rfl hl.1 rfl (lv_room (Nat.le_of_ble_eq_true rfl)) dX7_rule_52 ⟨Nat.le_of_ble_eq_true rfl, Nat.le_of_ble_eq_true rfl⟩) hS hA hP hD [0, 14] [1, 2, 3, 4, 5, 6, 7, 8, 9, 10, 11, 12, 13, 15] rfl rfl (by decide +kernel) (by decide +kernel) (fun r_36 u H locs hw_36 hP hD hS => ?_)
          obtain ⟨lfa__36, tz__36⟩ := u
          have hQ9 := pd_mk [((a 40), .inl (k 5, 4, .inr (.inr (.inr (.inr (a4 (a 41) (a 44) (a 47) (a 50))))))), ((a 41), .inr (3, (fX3 (a 42) (a 43) rf0 (nI rc0) (nI rr0)))), (aI k (a 42) 24 rs0), (aI k (a 43) 24 rb0), ((a 44), .inr (3, (fX3 (a 45) (a 46) rf1 (nI rc1) (nI rr1)))), (aI k (a 45) 24 rs1), (aI k (a 46) 24 rb1), ((a 47), .inr (3, (fX3 (a 48) (a 49) rf2 (nI rc2) (nI rr2)))), (aI k (a 48) 24 rs2), (aI k (a 49) 24 rb2), ((a 50), .inr (3, (fX3 (a 51) (a 52) rf__34 (nI rc__34) (nI rr__34)))), (aI k (a 51) 24 rs__34), (aI k (a 52) 24 rb__34), (aB k (a 2) 240 fx), ((a 0), .inr (7, (fX7 (a 1) (a 3) (a 19) (a 35) (a 40) 3 lfa__36 (a 53) (a 56) (a 63) (a 64) (a 68)))), ((a 1), .inr (6, (fX6 (a 2) (nI tz__36) (nI ta__34) na__34 0 fb__34)))] hP hD
          clear hP hD
          obtain ⟨hP, hD⟩ := hQ9
          try dsimp only at hw_36
          have hcl_37 := hw_36.2.1 rfl
          obtain ⟨hs0_38, hs1_38, hs2_38⟩ := (⟨hw_36.1, hcl_37.1, hcl_37.2⟩ : _ ∧ _ ∧ _)
          replace hs0_38 := hs0_38.symm
          subst hs0_38
          replace hs1_38 := hs1_38.symm
          subst hs1_38
          replace hs2_38 := hs2_38.symm
          subst hs2_38
          refine lv_istore_n (lv' := [(1, .int 0), (0, .ref (a 0))]) hx hb dX7_rule_55 rfl hl (by decide) rfl (fun ls hl => ?_)
          refine lv_iload_n hx hb dX7_rule_56 rfl (lv_at hl 0 rfl) ?_
          refine lv_if_ge (tgt := 62) hx hb dX7_rule_57 (by decide) (fun _ => ?_) (fun h => absurd (by decide) h)
          refine lv_aload_n hx hb dX7_rule_62 rfl (lv_at hl 1 rfl) ?_
          refine lv_dup hx hb dX7_rule_63 rfl ?_
          refine va_get (D := D) (ci := 7) (v := .int 3) (C := RX7) (T := TX7) (N := 12) hx hb hts inX7 hown hK hP 14 rfl rfl 5 (by decide) (hts _ tw_310) (fun _ h9 => h9) rfl dX7_rule_64 ?_
          refine lv_iconst (v := 1) hx hb dX7_rule_67 (by decide) ?_
          refine lv_iadd hx hb dX7_rule_68 ?_
          refine lv_ti (y := 4) (by decide) ?_
          refine va_put (D := D) (ci := 7) (v := .int 4) (ty := .int) (C := RX7) (T := TX7) (N := 12) hx hb hts inX7 tyX7 tyX7_ok nmX7 hown hK hP hD hS 14 rfl rfl 5 (by decide) (hts _ tw_310) (fun _ h9 => h9) rfl (by decide +kernel) rfl rfl (Nat.le_of_ble_eq_true rfl) dX7_rule_69 (fun H locs hP hD hS => ?_)
          have hQ9 := pd_mk [((a 40), .inl (k 5, 4, .inr (.inr (.inr (.inr (a4 (a 41) (a 44) (a 47) (a 50))))))), ((a 41), .inr (3, (fX3 (a 42) (a 43) rf0 (nI rc0) (nI rr0)))), (aI k (a 42) 24 rs0), (aI k (a 43) 24 rb0), ((a 44), .inr (3, (fX3 (a 45) (a 46) rf1 (nI rc1) (nI rr1)))), (aI k (a 45) 24 rs1), (aI k (a 46) 24 rb1), ((a 47), .inr (3, (fX3 (a 48) (a 49) rf2 (nI rc2) (nI rr2)))), (aI k (a 48) 24 rs2), (aI k (a 49) 24 rb2), ((a 50), .inr (3, (fX3 (a 51) (a 52) rf__34 (nI rc__34) (nI rr__34)))), (aI k (a 51) 24 rs__34), (aI k (a 52) 24 rb__34), (aB k (a 2) 240 fx), ((a 0), .inr (7, (fX7 (a 1) (a 3) (a 19) (a 35) (a 40) 4 (-1) (a 53) (a 56) (a 63) (a 64) (a 68)))), ((a 1), .inr (6, (fX6 (a 2) 0 (nI ta__34) na__34 0 fb__34)))] hP hD
          clear hP hD
          obtain ⟨hP, hD⟩ := hQ9
          refine lv_aload_n hx hb dX7_rule_72 rfl (lv_at hl 1 rfl) ?_
          refine va_get (D := D) (ci := 7) (v := .int 4) (C := RX7) (T := TX7) (N := 12) hx hb hts inX7 hown hK hP 14 rfl rfl 5 (by decide) (hts _ tw_310) (fun _ h9 => h9) rfl dX7_rule_73 ?_
          refine lv_iconst (v := 1) hx hb dX7_rule_76 (by decide) ?_
          refine lv_isub hx hb dX7_rule_77 ?_
          refine lv_ti (y := 3) (by decide) ?_
          obtain ⟨hP9, hD9⟩ := pd_sub [((a 0), .inr (7, (fX7 (a 1) (a 3) (a 19) (a 35) (a 40) 4 (-1) (a 53) (a 56) (a 63) (a 64) (a 68)))), ((a 1), .inr (6, (fX6 (a 2) 0 (nI ta__34) na__34 0 fb__34))), (aB k (a 2) 240 fx), ((a 40), .inl (k 5, 4, .inr (.inr (.inr (.inr (a4 (a 41) (a 44) (a 47) (a 50))))))), ((a 41), .inr (3, (fX3 (a 42) (a 43) rf0 (nI rc0) (nI rr0)))), (aI k (a 42) 24 rs0), (aI k (a 43) 24 rb0), ((a 44), .inr (3, (fX3 (a 45) (a 46) rf1 (nI rc1) (nI rr1)))), (aI k (a 45) 24 rs1), (aI k (a 46) 24 rb1), ((a 47), .inr (3, (fX3 (a 48) (a 49) rf2 (nI rc2) (nI rr2)))), (aI k (a 48) 24 rs2), (aI k (a 49) 24 rb2), ((a 50), .inr (3, (fX3 (a 51) (a 52) rf__34 (nI rc__34) (nI rr__34)))), (aI k (a 51) 24 rs__34), (aI k (a 52) 24 rb__34)] [14, 15, 13, 0, 1, 2, 3, 4, 5, 6, 7, 8, 9, 10, 11, 12] hP hD (by decide +kernel) rfl
          exact W.iret (v := 3) hx hb hr (fun t ht hW => ⟨⟨3, (4, (-1), 0, (nI ta__34), na__34, 0, fb__34, rf0, rc0, rr0, rs0, rb0, rf1, rc1, rr1, rs1, rb1, rf2, rc2, rr2, rs2, rb2, rf__34, rc__34, rr__34, rs__34, rb__34), rfl, ⟨⟨fun h => absurd h (by omega), fun _ h => absurd h (by omega), fun _ _ => ⟨rfl, (fun q hq => by rcases (show q = 0 ∨ q = 1 ∨ q = 2 by omega) with rfl | rfl | rfl <;> rfl), .inr ⟨hrf_35, rfl, rfl, rfl⟩⟩⟩, by omega, by omega, by omega, by omega, by omega, by omega, by omega, by omega, by omega, by omega⟩, by rw [ht]; exact hP9, hD9⟩, hS.F ht⟩) hS.2.2 dX7_rule_78
        · refine lv_aload_n hx hb dX7_rule_51 rfl (lv_at hl 0 rfl) ?_
          refine rw_i (D := D) (wr := [((a 40), .inl (k 5, 4, .inr (.inr (.inr (.inr (a4 (a 41) (a 44) (a 47) (a 50))))))), ((a 41), .inr (3, (fX3 (a 42) (a 43) rf0 (nI rc0) (nI rr0)))), (aI k (a 42) 24 rs0), (aI k (a 43) 24 rb0), ((a 44), .inr (3, (fX3 (a 45) (a 46) rf1 (nI rc1) (nI rr1)))), (aI k (a 45) 24 rs1), (aI k (a 46) 24 rb1), ((a 47), .inr (3, (fX3 (a 48) (a 49) rf2 (nI rc2) (nI rr2)))), (aI k (a 48) 24 rs2), (aI k (a 49) 24 rb2), ((a 50), .inr (3, (fX3 (a 51) (a 52) rf__34 (nI rc__34) (nI rr__34)))), (aI k (a 51) 24 rs__34), (aI k (a 52) 24 rb__34), (aB k (a 2) 240 fx)]) (va_runV (As := []) (rest := []) ⟨hx, hb, hml, hown, hts⟩ ((y_closeText l D k st lo a 3 lfa tz (nI ta__34) na__34 (nI e_35) (nI pl_35)) H.size) (cwV 0 hts (gV tw_496 tw_498 tw_2 tw_79 tw_499) rfl rfl rfl (by decide +kernel) ⟨Nat.le_of_ble_eq_true rfl, Nat.le_of_ble_eq_true rfl⟩) (pV hS hAlo hlo hP hK (va_Dlo hD hAlo) hZ [0, 14] (by decide) rfl (ci := 7) (q := (RX7, TX7, 12)) (q0 := 0) rfl rfl) rfl rfl hl.1 rfl (lv_room (Nat.le_of_ble_eq_true rfl)) dX7_rule_52 ⟨Nat.le_of_ble_eq_true rfl, Nat.le_of_ble_eq_true rfl⟩) hS hA hP hD [0, 14] [1, 2, 3, 4, 5, 6, 7, 8, 9, 10, 11, 12, 13, 15] rfl rfl (by decide +kernel) (by decide +kernel) (fun r_39 u H locs hw_39 hP hD hS => ?_)
          obtain ⟨lfa__39, tz__39⟩ := u
          have hQ9 := pd_mk [((a 40), .inl (k 5, 4, .inr (.inr (.inr (.inr (a4 (a 41) (a 44) (a 47) (a 50))))))), ((a 41), .inr (3, (fX3 (a 42) (a 43) rf0 (nI rc0) (nI rr0)))), (aI k (a 42) 24 rs0), (aI k (a 43) 24 rb0), ((a 44), .inr (3, (fX3 (a 45) (a 46) rf1 (nI rc1) (nI rr1)))), (aI k (a 45) 24 rs1), (aI k (a 46) 24 rb1), ((a 47), .inr (3, (fX3 (a 48) (a 49) rf2 (nI rc2) (nI rr2)))), (aI k (a 48) 24 rs2), (aI k (a 49) 24 rb2), ((a 50), .inr (3, (fX3 (a 51) (a 52) rf__34 (nI rc__34) (nI rr__34)))), (aI k (a 51) 24 rs__34), (aI k (a 52) 24 rb__34), (aB k (a 2) 240 fx), ((a 0), .inr (7, (fX7 (a 1) (a 3) (a 19) (a 35) (a 40) 3 lfa__39 (a 53) (a 56) (a 63) (a 64) (a 68)))), ((a 1), .inr (6, (fX6 (a 2) (nI tz__39) (nI ta__34) na__34 (nI e_35) (nI pl_35))))] hP hD
          clear hP hD
          obtain ⟨hP, hD⟩ := hQ9
          try dsimp only at hw_39
          have hcl_40 := hw_39.2.2 (nI_ne0 (show 0 < e_35 by omega) (by omega))
          obtain ⟨hs0_41, hs1_41⟩ := (⟨hw_39.1, hcl_40.2⟩ : _ ∧ _)
          replace hs0_41 := hs0_41.symm
          subst hs0_41
          replace hs1_41 := hs1_41.symm
          subst hs1_41
          refine lv_istore_n (lv' := [(1, .int r_39), (0, .ref (a 0))]) hx hb dX7_rule_55 rfl hl (by decide) rfl (fun ls hl => ?_)
          refine lv_iload_n hx hb dX7_rule_56 rfl (lv_at hl 0 rfl) ?_
          refine lv_if_ge (tgt := 62) hx hb dX7_rule_57 (by decide) (fun c_42 => absurd c_42 (by rw [hcl_40.1]; exact neg10 he1_35 he2_35)) (fun c_42 => ?_)
          refine lv_iload_n hx hb dX7_rule_60 rfl (lv_at hl 0 rfl) ?_
          obtain ⟨hP9, hD9⟩ := pd_sub [((a 0), .inr (7, (fX7 (a 1) (a 3) (a 19) (a 35) (a 40) 3 (nI pl_35) (a 53) (a 56) (a 63) (a 64) (a 68)))), ((a 1), .inr (6, (fX6 (a 2) 0 (nI ta__34) na__34 (nI e_35) (nI pl_35)))), (aB k (a 2) 240 fx), ((a 40), .inl (k 5, 4, .inr (.inr (.inr (.inr (a4 (a 41) (a 44) (a 47) (a 50))))))), ((a 41), .inr (3, (fX3 (a 42) (a 43) rf0 (nI rc0) (nI rr0)))), (aI k (a 42) 24 rs0), (aI k (a 43) 24 rb0), ((a 44), .inr (3, (fX3 (a 45) (a 46) rf1 (nI rc1) (nI rr1)))), (aI k (a 45) 24 rs1), (aI k (a 46) 24 rb1), ((a 47), .inr (3, (fX3 (a 48) (a 49) rf2 (nI rc2) (nI rr2)))), (aI k (a 48) 24 rs2), (aI k (a 49) 24 rb2), ((a 50), .inr (3, (fX3 (a 51) (a 52) rf__34 (nI rc__34) (nI rr__34)))), (aI k (a 51) 24 rs__34), (aI k (a 52) 24 rb__34)] [14, 15, 13, 0, 1, 2, 3, 4, 5, 6, 7, 8, 9, 10, 11, 12] hP hD (by decide +kernel) rfl
          exact W.iret (v := r_39) hx hb hr (fun t ht hW => ⟨⟨r_39, (3, (nI pl_35), 0, (nI ta__34), na__34, (nI e_35), (nI pl_35), rf0, rc0, rr0, rs0, rb0, rf1, rc1, rr1, rs1, rb1, rf2, rc2, rr2, rs2, rb2, rf__34, rc__34, rr__34, rs__34, rb__34), rfl, ⟨⟨fun h => absurd h (by omega), fun _ h => absurd h (by omega), fun _ _ => ⟨rfl, (fun q hq => by rcases (show q = 0 ∨ q = 1 ∨ q = 2 by omega) with rfl | rfl | rfl <;> rfl), .inl ⟨e_35, pl_35, he1_35, he2_35, hp1_35, hp2_35, hcl_40.1, rfl, rfl⟩⟩⟩, by omega, by omega, by omega, by omega, by omega, by omega, by omega, by omega, by omega, by omega⟩, by rw [ht]; exact hP9, hD9⟩, hS.F ht⟩) hS.2.2 dX7_rule_61
    · have c_2 : ¬ (rk < 4) := fun h => c_2 ((nI_ltI (a := rk) (b := 4) (by omega) (by omega)).mpr h)
      refine lv_sipush (v := (-1004)) hx hb dX7_rule_24 (by decide) ?_
      obtain ⟨hP9, hD9⟩ := pd_sub [((a 0), .inr (7, (fX7 (a 1) (a 3) (a 19) (a 35) (a 40) (nI rk) lfa (a 53) (a 56) (a 63) (a 64) (a 68)))), ((a 1), .inr (6, (fX6 (a 2) (nI tz) ta na fn fb))), (aB k (a 2) 240 fx), ((a 40), .inl (k 5, 4, .inr (.inr (.inr (.inr (a4 (a 41) (a 44) (a 47) (a 50))))))), ((a 41), .inr (3, (fX3 (a 42) (a 43) rf0 (nI rc0) (nI rr0)))), (aI k (a 42) 24 rs0), (aI k (a 43) 24 rb0), ((a 44), .inr (3, (fX3 (a 45) (a 46) rf1 (nI rc1) (nI rr1)))), (aI k (a 45) 24 rs1), (aI k (a 46) 24 rb1), ((a 47), .inr (3, (fX3 (a 48) (a 49) rf2 (nI rc2) (nI rr2)))), (aI k (a 48) 24 rs2), (aI k (a 49) 24 rb2), ((a 50), .inr (3, (fX3 (a 51) (a 52) rf3 (nI rc3) (nI rr3)))), (aI k (a 51) 24 rs3), (aI k (a 52) 24 rb3)] [0, 1, 2, 3, 4, 5, 6, 7, 8, 9, 10, 11, 12, 13, 14, 15] hP hD (by decide +kernel) rfl
      exact W.iret (v := (-1004)) hx hb hr (fun t ht hW => ⟨⟨(-1004), (rk, lfa, tz, ta, na, fn, fb, rf0, rc0, rr0, rs0, rb0, rf1, rc1, rr1, rs1, rb1, rf2, rc2, rr2, rs2, rb2, rf3, rc3, rr3, rs3, rb3), rfl, ⟨⟨fun h => absurd h (by omega), fun _ _ => ⟨rfl, rfl, rfl, rfl, fun _ _ => rfl⟩, fun _ h => absurd h (by omega)⟩, by omega, by omega, by omega, by omega, by omega, by omega, by omega, by omega, by omega, by omega⟩, by rw [ht]; exact hP9, hD9⟩, hS.F ht⟩) hS.2.2 dX7_rule_27
  · have c_1 : ¬ (tz ≤ 80) := fun h => c_1 ((nI_leI (a := tz) (b := 80) (by omega) (by omega)).mpr h)
    refine lv_sipush (v := (-1003)) hx hb dX7_rule_12 (by decide) ?_
    obtain ⟨hP9, hD9⟩ := pd_sub [((a 0), .inr (7, (fX7 (a 1) (a 3) (a 19) (a 35) (a 40) (nI rk) lfa (a 53) (a 56) (a 63) (a 64) (a 68)))), ((a 1), .inr (6, (fX6 (a 2) (nI tz) ta na fn fb))), (aB k (a 2) 240 fx), ((a 40), .inl (k 5, 4, .inr (.inr (.inr (.inr (a4 (a 41) (a 44) (a 47) (a 50))))))), ((a 41), .inr (3, (fX3 (a 42) (a 43) rf0 (nI rc0) (nI rr0)))), (aI k (a 42) 24 rs0), (aI k (a 43) 24 rb0), ((a 44), .inr (3, (fX3 (a 45) (a 46) rf1 (nI rc1) (nI rr1)))), (aI k (a 45) 24 rs1), (aI k (a 46) 24 rb1), ((a 47), .inr (3, (fX3 (a 48) (a 49) rf2 (nI rc2) (nI rr2)))), (aI k (a 48) 24 rs2), (aI k (a 49) 24 rb2), ((a 50), .inr (3, (fX3 (a 51) (a 52) rf3 (nI rc3) (nI rr3)))), (aI k (a 51) 24 rs3), (aI k (a 52) 24 rb3)] [0, 1, 2, 3, 4, 5, 6, 7, 8, 9, 10, 11, 12, 13, 14, 15] hP hD (by decide +kernel) rfl
    exact W.iret (v := (-1003)) hx hb hr (fun t ht hW => ⟨⟨(-1003), (rk, lfa, tz, ta, na, fn, fb, rf0, rc0, rr0, rs0, rb0, rf1, rc1, rr1, rs1, rb1, rf2, rc2, rr2, rs2, rb2, rf3, rc3, rr3, rs3, rb3), rfl, ⟨⟨fun _ => ⟨rfl, rfl, rfl, rfl, fun _ _ => rfl⟩, fun h => absurd h (by omega), fun h => absurd h (by omega)⟩, by omega, by omega, by omega, by omega, by omega, by omega, by omega, by omega, by omega, by omega⟩, by rw [ht]; exact hP9, hD9⟩, hS.F ht⟩) hS.2.2 dX7_rule_15


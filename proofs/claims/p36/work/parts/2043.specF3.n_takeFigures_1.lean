set_option maxHeartbeats 4000000 in
set_option maxRecDepth 100000 in
theorem n_takeFigures_1 (l : Launch) (D : va_G) (k : Nat → ClassId) (st : Nat → Nat) (lo : Nat) (a : Nat → Nat) (tx : Nat) (t0 : Nat) (we : Nat) (rd : Nat) (ru : Nat) (rw : Nat) (ca : Nat) (fp : Int32) (wd : Int64) (nu : Int32) (na : Int32) (ts : Int32) (df : Int32) (db : Int32) (sd : Int32) (ftext : Nat → Int32) (qa : Nat) (p1 : Int32) (p2 : Int32) (ht : t0 ≤ tx) (htx : tx ≤ 240) : CWi l D k st lo yX8_takeFigures cX8_takeFigures 7 (some .int) ({ frames := 1, cells := 0, slots := 0, locals := 25 }) 0 0 [.ref (a 0), .int (nI qa), .int p1, .int p2, .int 1] [((a 0), .inr (8, (fX8 a (nI tx) fp (nI t0) wd (nI we) nu na (nI rd) ts (nI ru) (nI rw) (nI ca) df db sd))), (aI k (a 5) 240 ftext)] (fun (r : Int32) (u : Nat × Int32 × Int32) => match u with | (t0_, nu_, fp_) => ((r = 0 ∧ nuS ftext tx true p1 p2 qa t0 = (0, 0, t0_, nu_, qa) ∧ fp_ = fp) ∨ (r = 1 ∧ ∃ pl : Nat, nuS ftext tx true p1 p2 qa t0 = (1, pl, t0_, 0, qa) ∧ fp_ = nI pl) ∨ (r = 2 ∧ ∃ pl : Nat, nuS ftext tx true p1 p2 qa t0 = (2, pl, t0_, 0, qa) ∧ fp_ = nI pl)) ∧ t0 ≤ t0_ ∧ t0_ ≤ tx) (fun (u : Nat × Int32 × Int32) => match u with | (t0_, nu_, fp_) => [((a 0), .inr (8, (fX8 a (nI tx) fp_ (nI t0_) wd (nI we) nu_ na (nI rd) ts (nI ru) (nI rw) (nI ca) df db sd))), (aI k (a 5) 240 ftext)]) := by
  intro sz
  refine Met.ofW (cc := cX8_takeFigures) (maxL := 7) (ret := (some .int)) (by decide) rfl ?_
  intro p e s m args below meth c s₁ B hml hv
  obtain ⟨rfl, hsz, hlo, hP, hK, hDL, hZ⟩ := hv
  have hx := B.exec
  have hb := B.bytes
  have hr := B.returns
  have hts := WS_ts B.pre
  have hown : s.vm.findClass RX8 = some m.cls := findClass_of_methodNamed B.named
  have hlocks := B.notSynchronized
  subst hsz
  have hD := hDL.self (sz := s.heap.size)
  have hAlo := A_lo hDL hlo
  generalize hAe : va_A [((a 0), .inr (8, (fX8 a (nI tx) fp (nI t0) wd (nI we) nu na (nI rd) ts (nI ru) (nI rw) (nI ca) df db sd))), (aI k (a 5) 240 ftext)] s.heap.size = A at hD hAlo ⊢
  have hA : ∀ q : Nat, s.heap.size ≤ q → A q := fun q h => by rw [← hAe]; exact Or.inr h
  have hS : va_S A s.heap s.heap [] := va_S.rf
  have hl := lv_entry ([.ref (a 0), .int (nI qa), .int p1, .int p2, .int 1]) (n := 7) (Nat.le_of_ble_eq_true rfl)
  rw [lg_entry_eq]
  generalize (lg_sl ([.ref (a 0), .int (nI qa), .int p1, .int p2, .int 1]) ++ List.replicate (7 - (lg_sl ([.ref (a 0), .int (nI qa), .int p1, .int p2, .int 1])).length) Slot.unset).toArray = ls at hl ⊢
  have hl : lv_has ls 7 [(0, .ref (a 0)), (1, .int (nI qa)), (2, .int p1), (3, .int p2), (4, .int 1)] := hl
  refine lv_aload_n hx hb dX8_takeFigures_0 rfl (lv_at hl 0 rfl) ?_
  refine va_get (D := D) (ci := 8) (v := .int (nI t0)) (C := RX8) (T := TX8) (N := 44) hx hb hts inX8 hown hK hP 0 rfl rfl 7 (by decide) (hts _ tw_980) (fun _ h9 => h9) rfl dX8_takeFigures_1 ?_
  refine lv_istore (lv' := [(5, .int (nI t0)), (0, .ref (a 0)), (1, .int (nI qa)), (2, .int p1), (3, .int p2), (4, .int 1)]) hx hb dX8_takeFigures_4 hl (by decide) rfl (fun ls hl => ?_)
  refine lv_aload_n hx hb dX8_takeFigures_6 rfl (lv_at hl 1 rfl) ?_
  refine lv_iconst (v := 0) hx hb dX8_takeFigures_7 (by decide) ?_
  refine va_put (D := D) (ci := 8) (v := .int 0) (ty := .int) (C := RX8) (T := TX8) (N := 44) hx hb hts inX8 tyX8 tyX8_ok nmX8 hown hK hP hD hS 0 rfl rfl 10 (by decide) (hts _ tw_983) (fun _ h9 => h9) rfl (by decide +kernel) rfl rfl (Nat.le_of_ble_eq_true rfl) dX8_takeFigures_8 (fun H locs hP hD hS => ?_)
  replace hP : va_P D classes [((a 0), .inr (8, (fX8 a (nI tx) fp (nI t0) wd (nI we) 0 na (nI rd) ts (nI ru) (nI rw) (nI ca) df db sd))), (aI k (a 5) 240 ftext)] H := hP
  replace hD : va_D A [((a 0), .inr (8, (fX8 a (nI tx) fp (nI t0) wd (nI we) 0 na (nI rd) ts (nI ru) (nI rw) (nI ca) df db sd))), (aI k (a 5) 240 ftext)] := hD
  refine W_loop (σ := Nat × Int32) (fun (n_ : Nat) (x_ : Nat × Int32) (H : Heap) (locs : List Loc) (ls : Array Slot) => match x_ with | (t_1, nu2_1) => n_ = tx - t_1 ∧ (t0 ≤ t_1 ∧ t_1 ≤ tx ∧ t_1 + (figA ftext tx t_1).length = t0 + (figA ftext tx t0).length ∧ (figA ftext tx t_1).foldl stN nu2_1 = vM (figA ftext tx t0)) ∧ va_P D classes [((a 0), .inr (8, (fX8 a (nI tx) fp (nI t_1) wd (nI we) nu2_1 na (nI rd) ts (nI ru) (nI rw) (nI ca) df db sd))), (aI k (a 5) 240 ftext)] H ∧ va_D A [((a 0), .inr (8, (fX8 a (nI tx) fp (nI t_1) wd (nI we) nu2_1 na (nI rd) ts (nI ru) (nI rw) (nI ca) df db sd))), (aI k (a 5) 240 ftext)] ∧ va_S A s.heap H locs ∧ lv_has ls 7 [(5, .int (nI t0)), (0, .ref (a 0)), (1, .int (nI qa)), (2, .int p1), (3, .int p2), (4, .int 1)]) (fun n_1 x_1 H locs ls hI ih_1 => ?_) _ (t0, 0) ⟨rfl, ⟨by omega, by omega, rfl, rfl⟩, hP, hD, hS, (lv_sub hl [0, 1, 2, 3, 4, 5] rfl)⟩
  obtain ⟨t_1, nu2_1⟩ := x_1
  obtain ⟨hm_1, hv_1, hP, hD, hS, hl⟩ := hI
  subst hm_1
  refine lv_aload_n hx hb dX8_takeFigures_11 rfl (lv_at hl 1 rfl) ?_
  refine va_get (D := D) (ci := 8) (v := .int (nI t_1)) (C := RX8) (T := TX8) (N := 44) hx hb hts inX8 hown hK hP 0 rfl rfl 7 (by decide) (hts _ tw_980) (fun _ h9 => h9) rfl dX8_takeFigures_12 ?_
  refine lv_aload_n hx hb dX8_takeFigures_15 rfl (lv_at hl 1 rfl) ?_
  refine va_get (D := D) (ci := 8) (v := .int (nI tx)) (C := RX8) (T := TX8) (N := 44) hx hb hts inX8 hown hK hP 0 rfl rfl 5 (by decide) (hts _ tw_978) (fun _ h9 => h9) rfl dX8_takeFigures_16 ?_
  refine lv_icmp_ge (tgt := 98) hx hb dX8_takeFigures_19 (by decide) (fun c_2 => ?_) (fun c_2 => ?_)
  · have c_2 := (nI_leI (a := tx) (b := t_1) (by omega) (by omega)).mp c_2
    obtain ⟨hle_3, hve_3⟩ := fg_out (figA_end (by omega)) hv_1.2.2.1 hv_1.2.2.2
    refine lv_aload_n hx hb dX8_takeFigures_98 rfl (lv_at hl 1 rfl) ?_
    refine va_get (D := D) (ci := 8) (v := .int (nI t_1)) (C := RX8) (T := TX8) (N := 44) hx hb hts inX8 hown hK hP 0 rfl rfl 7 (by decide) (hts _ tw_980) (fun _ h9 => h9) rfl dX8_takeFigures_99 ?_
    refine lv_iload hx hb dX8_takeFigures_102 (lv_at hl 0 rfl) ?_
    refine lv_icmp_ne (tgt := 115) hx hb dX8_takeFigures_104 (by decide) (fun c_4 => ?_) (fun c_4 => ?_)
    · have c_4 : ¬ (t_1 = t0) := fun h => c_4 ((nI_eq (a := t_1) (b := t0) (by omega) (by omega)).mpr h)
      refine lv_aload_n hx hb dX8_takeFigures_115 rfl (lv_at hl 1 rfl) ?_
      refine va_get (D := D) (ci := 8) (v := .int (nI t_1)) (C := RX8) (T := TX8) (N := 44) hx hb hts inX8 hown hK hP 0 rfl rfl 7 (by decide) (hts _ tw_980) (fun _ h9 => h9) rfl dX8_takeFigures_116 ?_
      refine lv_iload hx hb dX8_takeFigures_119 (lv_at hl 0 rfl) ?_
      refine lv_isub hx hb dX8_takeFigures_121 ?_
      refine lv_ti (y := (nI (t_1 - t0))) (pk_sub (a := t_1) (b := t0) (by omega)) ?_
      refine lv_istore (lv' := [(6, .int (nI (t_1 - t0))), (5, .int (nI t0)), (0, .ref (a 0)), (1, .int (nI qa)), (2, .int p1), (3, .int p2), (4, .int 1)]) hx hb dX8_takeFigures_122 hl (by decide) rfl (fun ls hl => ?_)
      refine lv_aload_n hx hb dX8_takeFigures_124 rfl (lv_at hl 2 rfl) ?_
      refine lv_iload hx hb dX8_takeFigures_125 (lv_at hl 6 rfl) ?_
      refine lv_if_eq (tgt := 138) hx hb dX8_takeFigures_127 (by decide) (fun h => absurd h (by decide)) (fun _ => ?_)
      refine lv_aload_n hx hb dX8_takeFigures_130 rfl (lv_at hl 2 rfl) ?_
      refine va_get (D := D) (ci := 8) (v := .int nu2_1) (C := RX8) (T := TX8) (N := 44) hx hb hts inX8 hown hK hP 0 rfl rfl 10 (by decide) (hts _ tw_983) (fun _ h9 => h9) rfl dX8_takeFigures_131 ?_
      refine lv_ineg hx hb dX8_takeFigures_134 ?_
      refine lv_topi (fun x_5 ex_5 => ?_)
      refine lv_goto (tgt := 142) hx hb dX8_takeFigures_135 (by decide) ?_
      refine va_put (D := D) (ci := 8) (v := .int x_5) (ty := .int) (C := RX8) (T := TX8) (N := 44) hx hb hts inX8 tyX8 tyX8_ok nmX8 hown hK hP hD hS 0 rfl rfl 10 (by decide) (hts _ tw_983) (fun _ h9 => h9) rfl (by decide +kernel) rfl rfl (Nat.le_of_ble_eq_true rfl) dX8_takeFigures_142 (fun H locs hP hD hS => ?_)
      replace hP : va_P D classes [((a 0), .inr (8, (fX8 a (nI tx) fp (nI t_1) wd (nI we) x_5 na (nI rd) ts (nI ru) (nI rw) (nI ca) df db sd))), (aI k (a 5) 240 ftext)] H := hP
      replace hD : va_D A [((a 0), .inr (8, (fX8 a (nI tx) fp (nI t_1) wd (nI we) x_5 na (nI rd) ts (nI ru) (nI rw) (nI ca) df db sd))), (aI k (a 5) 240 ftext)] := hD
      refine lv_iload hx hb dX8_takeFigures_145 (lv_at hl 0 rfl) ?_
      refine lv_iconst (v := 3) hx hb dX8_takeFigures_147 (by decide) ?_
      refine lv_icmp_gt (tgt := 166) hx hb dX8_takeFigures_148 (by decide) (fun c_6 => ?_) (fun c_6 => ?_)
      · have c_6 := (nI_ltI (a := 3) (b := (t_1 - t0)) (by omega) (by omega)).mp c_6
        refine lv_aload_n hx hb dX8_takeFigures_166 rfl (lv_at hl 2 rfl) ?_
        refine lv_iconst (v := 2) hx hb dX8_takeFigures_167 (by decide) ?_
        refine lv_iload_n hx hb dX8_takeFigures_168 rfl (lv_at hl 3 rfl) ?_
        refine rw_i (D := D) (wr := [(aI k (a 5) 240 ftext)]) (va_runV (As := [.int 2, .int (nI qa)]) (rest := []) ⟨hx, hb, hml, hown, hts⟩ ((n_fails l D k st lo a tx t_1 we rd ru rw ca fp wd x_5 na ts df db sd 2 (nI qa)) H.size) (cwV 2 hts (gV tw_1151 tw_1153 tw_31 tw_87 tw_1154) rfl rfl rfl (by decide +kernel) ⟨Nat.le_of_ble_eq_true rfl, Nat.le_of_ble_eq_true rfl⟩) (pV hS hAlo hlo hP hK (va_Dlo hD hAlo) hZ [0] (by decide) rfl (ci := 8) (q := (RX8, TX8, 44)) (q0 := 0) rfl rfl) rfl rfl hl.1 rfl (lv_room (Nat.le_of_ble_eq_true rfl)) dX8_takeFigures_169 ⟨Nat.le_of_ble_eq_true rfl, Nat.le_of_ble_eq_true rfl⟩) hS hA hP hD [0] [1] rfl rfl (by decide) (by decide) (fun r_7 u H locs hw_7 hP hD hS => ?_)
        obtain ⟨fp__7, rfl⟩ : ∃ z, z = u := ⟨_, rfl⟩
        replace hP : va_P D classes [(aI k (a 5) 240 ftext), ((a 0), .inr (8, (fX8 a (nI tx) fp__7 (nI t_1) wd (nI we) x_5 na (nI rd) ts (nI ru) (nI rw) (nI ca) df db sd)))] H := hP
        replace hD : va_D A [(aI k (a 5) 240 ftext), ((a 0), .inr (8, (fX8 a (nI tx) fp__7 (nI t_1) wd (nI we) x_5 na (nI rd) ts (nI ru) (nI rw) (nI ca) df db sd)))] := hD
        try dsimp only at hw_7
        obtain ⟨hs0_8, hs1_8⟩ := hw_7
        replace hs0_8 := hs0_8.symm
        subst hs0_8
        replace hs1_8 := hs1_8.symm
        subst hs1_8
        refine lv_goto (tgt := 176) hx hb dX8_takeFigures_172 (by decide) ?_
        have hP9 := hP.sub (ws' := [((a 0), .inr (8, (fX8 a (nI tx) (nI qa) (nI t_1) wd (nI we) x_5 na (nI rd) ts (nI ru) (nI rw) (nI ca) df db sd))), (aI k (a 5) 240 ftext)]) [1, 0] rfl
        have hD9 := hD.sub (ws' := [((a 0), .inr (8, (fX8 a (nI tx) (nI qa) (nI t_1) wd (nI we) x_5 na (nI rd) ts (nI ru) (nI rw) (nI ca) df db sd))), (aI k (a 5) 240 ftext)]) [1, 0] (by decide) rfl
        exact W.iret (v := 2) hx hb hr (fun t ht hW => ⟨⟨2, (t_1, x_5, (nI qa)), rfl, ⟨.inr (.inr ⟨rfl, _, nuS_2 hle_3 (by omega) rfl (.inl (by omega)), rfl⟩), by omega, by omega⟩, by rw [ht]; exact hP9, hD9⟩, hS.F ht⟩) hS.2.2 dX8_takeFigures_176
      · have c_6 : ¬ (3 < (t_1 - t0)) := fun h => c_6 ((nI_ltI (a := 3) (b := (t_1 - t0)) (by omega) (by omega)).mpr h)
        refine lv_aload_n hx hb dX8_takeFigures_151 rfl (lv_at hl 2 rfl) ?_
        refine va_get (D := D) (ci := 8) (v := .int x_5) (C := RX8) (T := TX8) (N := 44) hx hb hts inX8 hown hK hP 0 rfl rfl 10 (by decide) (hts _ tw_983) (fun _ h9 => h9) rfl dX8_takeFigures_152 ?_
        refine lv_i2l (v := x_5.toInt64) hx hb dX8_takeFigures_155 rfl ?_
        refine lv_iload_n hx hb dX8_takeFigures_156 rfl (lv_at hl 4 rfl) ?_
        refine lv_i2l (v := p1.toInt64) hx hb dX8_takeFigures_157 rfl ?_
        refine lv_iload_n hx hb dX8_takeFigures_158 rfl (lv_at hl 5 rfl) ?_
        refine lv_i2l (v := p2.toInt64) hx hb dX8_takeFigures_159 rfl ?_
        refine ro_i (D := D) (va_runS (As := [.long (x_5.toInt64), .long (p1.toInt64), .long (p2.toInt64)]) (rest := []) ⟨hx, hb, hml, hown, hts⟩ ((k_in l D k st lo x_5 p1 p2) H.size) (va_cwS 3 hts (gS tw_1111 tw_1112 tw_87 tw_1113) rfl rfl rfl (by decide +kernel) ⟨Nat.le_of_ble_eq_true rfl, Nat.le_of_ble_eq_true rfl⟩) (pS hS hAlo hlo hP hK (va_Dlo hD hAlo) hZ [] (by decide) rfl) rfl rfl hl.1 rfl (lv_room (Nat.le_of_ble_eq_true rfl)) dX8_takeFigures_160 ⟨Nat.le_of_ble_eq_true rfl, Nat.le_of_ble_eq_true rfl⟩) hS hA hP (fun r_9 H locs hw_9 hP hS => ?_)
        try dsimp only at hw_9
        rcases hw_9 with ⟨rfl, hw_9⟩ | ⟨rfl, hw_9⟩
        · refine lv_if_ne (tgt := 175) hx hb dX8_takeFigures_163 (by decide) (fun _ => ?_) (fun h => absurd h (by decide))
          refine lv_iconst (v := 0) hx hb dX8_takeFigures_175 (by decide) ?_
          have hP9 := hP.sub (ws' := [((a 0), .inr (8, (fX8 a (nI tx) fp (nI t_1) wd (nI we) x_5 na (nI rd) ts (nI ru) (nI rw) (nI ca) df db sd))), (aI k (a 5) 240 ftext)]) [0, 1] rfl
          have hD9 := hD.sub (ws' := [((a 0), .inr (8, (fX8 a (nI tx) fp (nI t_1) wd (nI we) x_5 na (nI rd) ts (nI ru) (nI rw) (nI ca) df db sd))), (aI k (a 5) 240 ftext)]) [0, 1] (by decide) rfl
          exact W.iret (v := 0) hx hb hr (fun t ht hW => ⟨⟨0, (t_1, x_5, fp), rfl, ⟨.inl ⟨rfl, nuS_0 hle_3 (by omega) (vS_tm hle_3 (by omega) hve_3 ex_5) (by omega) hw_9, rfl⟩, by omega, by omega⟩, by rw [ht]; exact hP9, hD9⟩, hS.F ht⟩) hS.2.2 dX8_takeFigures_176
        · refine lv_if_ne (tgt := 175) hx hb dX8_takeFigures_163 (by decide) (fun h => absurd (by decide) h) (fun _ => ?_)
          refine lv_aload_n hx hb dX8_takeFigures_166 rfl (lv_at hl 2 rfl) ?_
          refine lv_iconst (v := 2) hx hb dX8_takeFigures_167 (by decide) ?_
          refine lv_iload_n hx hb dX8_takeFigures_168 rfl (lv_at hl 3 rfl) ?_
          refine rw_i (D := D) (wr := [(aI k (a 5) 240 ftext)]) (va_runV (As := [.int 2, .int (nI qa)]) (rest := []) ⟨hx, hb, hml, hown, hts⟩ ((n_fails l D k st lo a tx t_1 we rd ru rw ca fp wd x_5 na ts df db sd 2 (nI qa)) H.size) (cwV 2 hts (gV tw_1151 tw_1153 tw_31 tw_87 tw_1154) rfl rfl rfl (by decide +kernel) ⟨Nat.le_of_ble_eq_true rfl, Nat.le_of_ble_eq_true rfl⟩) (pV hS hAlo hlo hP hK (va_Dlo hD hAlo) hZ [0] (by decide) rfl (ci := 8) (q := (RX8, TX8, 44)) (q0 := 0) rfl rfl) rfl rfl hl.1 rfl (lv_room (Nat.le_of_ble_eq_true rfl)) dX8_takeFigures_169 ⟨Nat.le_of_ble_eq_true rfl, Nat.le_of_ble_eq_true rfl⟩) hS hA hP hD [0] [1] rfl rfl (by decide) (by decide) (fun r_10 u H locs hw_10 hP hD hS => ?_)
          obtain ⟨fp__10, rfl⟩ : ∃ z, z = u := ⟨_, rfl⟩
          replace hP : va_P D classes [(aI k (a 5) 240 ftext), ((a 0), .inr (8, (fX8 a (nI tx) fp__10 (nI t_1) wd (nI we) x_5 na (nI rd) ts (nI ru) (nI rw) (nI ca) df db sd)))] H := hP
          replace hD : va_D A [(aI k (a 5) 240 ftext), ((a 0), .inr (8, (fX8 a (nI tx) fp__10 (nI t_1) wd (nI we) x_5 na (nI rd) ts (nI ru) (nI rw) (nI ca) df db sd)))] := hD
          try dsimp only at hw_10
          obtain ⟨hs0_11, hs1_11⟩ := hw_10
          replace hs0_11 := hs0_11.symm
          subst hs0_11
          replace hs1_11 := hs1_11.symm
          subst hs1_11
          refine lv_goto (tgt := 176) hx hb dX8_takeFigures_172 (by decide) ?_
          have hP9 := hP.sub (ws' := [((a 0), .inr (8, (fX8 a (nI tx) (nI qa) (nI t_1) wd (nI we) x_5 na (nI rd) ts (nI ru) (nI rw) (nI ca) df db sd))), (aI k (a 5) 240 ftext)]) [1, 0] rfl
          have hD9 := hD.sub (ws' := [((a 0), .inr (8, (fX8 a (nI tx) (nI qa) (nI t_1) wd (nI we) x_5 na (nI rd) ts (nI ru) (nI rw) (nI ca) df db sd))), (aI k (a 5) 240 ftext)]) [1, 0] (by decide) rfl
          exact W.iret (v := 2) hx hb hr (fun t ht hW => ⟨⟨2, (t_1, x_5, (nI qa)), rfl, ⟨.inr (.inr ⟨rfl, _, nuS_2 hle_3 (by omega) (vS_tm hle_3 (by omega) hve_3 ex_5) (.inr (fun h => hw_9 h)), rfl⟩), by omega, by omega⟩, by rw [ht]; exact hP9, hD9⟩, hS.F ht⟩) hS.2.2 dX8_takeFigures_176
    · have c_4 := (nI_eq (a := t_1) (b := t0) (by omega) (by omega)).mp c_4
      refine lv_aload_n hx hb dX8_takeFigures_107 rfl (lv_at hl 1 rfl) ?_
      refine lv_iconst (v := 1) hx hb dX8_takeFigures_108 (by decide) ?_
      refine lv_iload hx hb dX8_takeFigures_109 (lv_at hl 0 rfl) ?_
      refine rw_i (D := D) (wr := [(aI k (a 5) 240 ftext)]) (va_runV (As := [.int 1, .int (nI t0)]) (rest := []) ⟨hx, hb, hml, hown, hts⟩ ((n_fails l D k st lo a tx t_1 we rd ru rw ca fp wd nu2_1 na ts df db sd 1 (nI t0)) H.size) (cwV 2 hts (gV tw_1151 tw_1153 tw_31 tw_87 tw_1154) rfl rfl rfl (by decide +kernel) ⟨Nat.le_of_ble_eq_true rfl, Nat.le_of_ble_eq_true rfl⟩) (pV hS hAlo hlo hP hK (va_Dlo hD hAlo) hZ [0] (by decide) rfl (ci := 8) (q := (RX8, TX8, 44)) (q0 := 0) rfl rfl) rfl rfl hl.1 rfl (lv_room (Nat.le_of_ble_eq_true rfl)) dX8_takeFigures_111 ⟨Nat.le_of_ble_eq_true rfl, Nat.le_of_ble_eq_true rfl⟩) hS hA hP hD [0] [1] rfl rfl (by decide) (by decide) (fun r_12 u H locs hw_12 hP hD hS => ?_)
      obtain ⟨fp__12, rfl⟩ : ∃ z, z = u := ⟨_, rfl⟩
      replace hP : va_P D classes [(aI k (a 5) 240 ftext), ((a 0), .inr (8, (fX8 a (nI tx) fp__12 (nI t_1) wd (nI we) nu2_1 na (nI rd) ts (nI ru) (nI rw) (nI ca) df db sd)))] H := hP
      replace hD : va_D A [(aI k (a 5) 240 ftext), ((a 0), .inr (8, (fX8 a (nI tx) fp__12 (nI t_1) wd (nI we) nu2_1 na (nI rd) ts (nI ru) (nI rw) (nI ca) df db sd)))] := hD
      try dsimp only at hw_12
      obtain ⟨hs0_13, hs1_13⟩ := hw_12
      replace hs0_13 := hs0_13.symm
      subst hs0_13
      replace hs1_13 := hs1_13.symm
      subst hs1_13
      have hP9 := hP.sub (ws' := [((a 0), .inr (8, (fX8 a (nI tx) (nI t0) (nI t_1) wd (nI we) nu2_1 na (nI rd) ts (nI ru) (nI rw) (nI ca) df db sd))), (aI k (a 5) 240 ftext)]) [1, 0] rfl
      have hD9 := hD.sub (ws' := [((a 0), .inr (8, (fX8 a (nI tx) (nI t0) (nI t_1) wd (nI we) nu2_1 na (nI rd) ts (nI ru) (nI rw) (nI ca) df db sd))), (aI k (a 5) 240 ftext)]) [1, 0] (by decide) rfl
      exact W.iret (v := 1) hx hb hr (fun t ht hW => ⟨⟨1, (t_1, nu2_1, (nI t0)), rfl, ⟨.inr (.inl ⟨rfl, _, nuS_1t hle_3 (by omega), congrArg nI (by omega)⟩), by omega, by omega⟩, by rw [ht]; exact hP9, hD9⟩, hS.F ht⟩) hS.2.2 dX8_takeFigures_114
  · have c_2 : ¬ (tx ≤ t_1) := fun h => c_2 ((nI_leI (a := tx) (b := t_1) (by omega) (by omega)).mpr h)
    refine lv_aload_n hx hb dX8_takeFigures_22 rfl (lv_at hl 1 rfl) ?_
    refine va_get (D := D) (ci := 8) (v := .ref (a 5)) (C := RX8) (T := TX8) (N := 44) hx hb hts inX8 hown hK hP 0 rfl rfl 4 (by decide) (hts _ tw_977) (fun _ h9 => h9) rfl dX8_takeFigures_23 ?_
    refine lv_aload_n hx hb dX8_takeFigures_26 rfl (lv_at hl 1 rfl) ?_
    refine va_get (D := D) (ci := 8) (v := .int (nI t_1)) (C := RX8) (T := TX8) (N := 44) hx hb hts inX8 hown hK hP 0 rfl rfl 7 (by decide) (hts _ tw_980) (fun _ h9 => h9) rfl dX8_takeFigures_27 ?_
    refine va_iald hx hb hK hP 1 1 rfl rfl (vp_in_nI (by omega) (by decide)) dX8_takeFigures_30 ?_
    refine lv_ti (y := (ftext t_1)) (by rw [nI_clamp (by omega)]) ?_
    refine lv_i2l (v := (ftext t_1).toInt64) hx hb dX8_takeFigures_31 rfl ?_
    refine lv_ldc2 hx hb hown (hts _ tw_1163) dX8_takeFigures_32 ?_
    refine lv_tl (y := ((48 : Int32).toInt64)) (by decide) ?_
    refine lv_ldc2 hx hb hown (hts _ tw_1164) dX8_takeFigures_35 ?_
    refine lv_tl (y := ((57 : Int32).toInt64)) (by decide) ?_
    refine ro_i (D := D) (va_runS (As := [.long ((ftext t_1).toInt64), .long ((48 : Int32).toInt64), .long ((57 : Int32).toInt64)]) (rest := []) ⟨hx, hb, hml, hown, hts⟩ ((k_in l D k st lo (ftext t_1) (48 : Int32) (57 : Int32)) H.size) (va_cwS 3 hts (gS tw_1111 tw_1112 tw_87 tw_1113) rfl rfl rfl (by decide +kernel) ⟨Nat.le_of_ble_eq_true rfl, Nat.le_of_ble_eq_true rfl⟩) (pS hS hAlo hlo hP hK (va_Dlo hD hAlo) hZ [] (by decide) rfl) rfl rfl hl.1 rfl (lv_room (Nat.le_of_ble_eq_true rfl)) dX8_takeFigures_38 ⟨Nat.le_of_ble_eq_true rfl, Nat.le_of_ble_eq_true rfl⟩) hS hA hP (fun r_14 H locs hw_14 hP hS => ?_)
    try dsimp only at hw_14
    rcases hw_14 with ⟨rfl, hw_14⟩ | ⟨rfl, hw_14⟩
    · refine lv_if_eq (tgt := 98) hx hb dX8_takeFigures_41 (by decide) (fun h => absurd h (by decide)) (fun _ => ?_)
      refine lv_aload_n hx hb dX8_takeFigures_44 rfl (lv_at hl 1 rfl) ?_
      refine lv_aload_n hx hb dX8_takeFigures_45 rfl (lv_at hl 1 rfl) ?_
      refine va_get (D := D) (ci := 8) (v := .int nu2_1) (C := RX8) (T := TX8) (N := 44) hx hb hts inX8 hown hK hP 0 rfl rfl 10 (by decide) (hts _ tw_983) (fun _ h9 => h9) rfl dX8_takeFigures_46 ?_
      refine lv_sipush (v := 10000) hx hb dX8_takeFigures_49 (by decide) ?_
      refine lv_icmp_le (tgt := 62) hx hb dX8_takeFigures_52 (by decide) (fun c_15 => ?_) (fun c_15 => ?_)
      · refine lv_bipush (v := 10) hx hb dX8_takeFigures_62 (by decide) ?_
        refine lv_aload_n hx hb dX8_takeFigures_64 rfl (lv_at hl 1 rfl) ?_
        refine va_get (D := D) (ci := 8) (v := .int nu2_1) (C := RX8) (T := TX8) (N := 44) hx hb hts inX8 hown hK hP 0 rfl rfl 10 (by decide) (hts _ tw_983) (fun _ h9 => h9) rfl dX8_takeFigures_65 ?_
        refine lv_imul hx hb dX8_takeFigures_68 ?_
        refine lv_topi (fun x_16 ex_16 => ?_)
        refine lv_aload_n hx hb dX8_takeFigures_69 rfl (lv_at hl 1 rfl) ?_
        refine va_get (D := D) (ci := 8) (v := .ref (a 5)) (C := RX8) (T := TX8) (N := 44) hx hb hts inX8 hown hK hP 0 rfl rfl 4 (by decide) (hts _ tw_977) (fun _ h9 => h9) rfl dX8_takeFigures_70 ?_
        refine lv_aload_n hx hb dX8_takeFigures_73 rfl (lv_at hl 1 rfl) ?_
        refine va_get (D := D) (ci := 8) (v := .int (nI t_1)) (C := RX8) (T := TX8) (N := 44) hx hb hts inX8 hown hK hP 0 rfl rfl 7 (by decide) (hts _ tw_980) (fun _ h9 => h9) rfl dX8_takeFigures_74 ?_
        refine va_iald hx hb hK hP 1 1 rfl rfl (vp_in_nI (by omega) (by decide)) dX8_takeFigures_77 ?_
        refine lv_ti (y := (ftext t_1)) (by rw [nI_clamp (by omega)]) ?_
        refine lv_iadd hx hb dX8_takeFigures_78 ?_
        refine lv_topi (fun x_17 ex_17 => ?_)
        refine lv_bipush (v := 48) hx hb dX8_takeFigures_79 (by decide) ?_
        refine lv_isub hx hb dX8_takeFigures_81 ?_
        refine lv_topi (fun x_18 ex_18 => ?_)
        refine va_put (D := D) (ci := 8) (v := .int x_18) (ty := .int) (C := RX8) (T := TX8) (N := 44) hx hb hts inX8 tyX8 tyX8_ok nmX8 hown hK hP hD hS 0 rfl rfl 10 (by decide) (hts _ tw_983) (fun _ h9 => h9) rfl (by decide +kernel) rfl rfl (Nat.le_of_ble_eq_true rfl) dX8_takeFigures_82 (fun H locs hP hD hS => ?_)
        replace hP : va_P D classes [((a 0), .inr (8, (fX8 a (nI tx) fp (nI t_1) wd (nI we) x_18 na (nI rd) ts (nI ru) (nI rw) (nI ca) df db sd))), (aI k (a 5) 240 ftext)] H := hP
        replace hD : va_D A [((a 0), .inr (8, (fX8 a (nI tx) fp (nI t_1) wd (nI we) x_18 na (nI rd) ts (nI ru) (nI rw) (nI ca) df db sd))), (aI k (a 5) 240 ftext)] := hD
        refine lv_aload_n hx hb dX8_takeFigures_85 rfl (lv_at hl 1 rfl) ?_
        refine lv_dup hx hb dX8_takeFigures_86 rfl ?_
        refine va_get (D := D) (ci := 8) (v := .int (nI t_1)) (C := RX8) (T := TX8) (N := 44) hx hb hts inX8 hown hK hP 0 rfl rfl 7 (by decide) (hts _ tw_980) (fun _ h9 => h9) rfl dX8_takeFigures_87 ?_
        refine lv_iconst (v := 1) hx hb dX8_takeFigures_90 (by decide) ?_
        refine lv_iadd hx hb dX8_takeFigures_91 ?_
        refine lv_ti (y := (nI (t_1 + 1))) (nI_add t_1 1) ?_
        refine va_put (D := D) (ci := 8) (v := .int (nI (t_1 + 1))) (ty := .int) (C := RX8) (T := TX8) (N := 44) hx hb hts inX8 tyX8 tyX8_ok nmX8 hown hK hP hD hS 0 rfl rfl 7 (by decide) (hts _ tw_980) (fun _ h9 => h9) rfl (by decide +kernel) rfl rfl (Nat.le_of_ble_eq_true rfl) dX8_takeFigures_92 (fun H locs hP hD hS => ?_)
        replace hP : va_P D classes [((a 0), .inr (8, (fX8 a (nI tx) fp (nI (t_1 + 1)) wd (nI we) x_18 na (nI rd) ts (nI ru) (nI rw) (nI ca) df db sd))), (aI k (a 5) 240 ftext)] H := hP
        replace hD : va_D A [((a 0), .inr (8, (fX8 a (nI tx) fp (nI (t_1 + 1)) wd (nI we) x_18 na (nI rd) ts (nI ru) (nI rw) (nI ca) df db sd))), (aI k (a 5) 240 ftext)] := hD
        refine lv_goto (tgt := 11) hx hb dX8_takeFigures_95 (by decide) ?_
        have hst_19 := fg_step (by omega) hw_14 hv_1.2.2.1 hv_1.2.2.2
        exact ih_1 _ (t_1 + 1, x_18) _ _ _ (by omega) ⟨rfl, ⟨by omega, by omega, hst_19.1, (by rw [ex_18, ex_17, ex_16]; exact hst_19.2.2 c_15)⟩, hP, hD, hS, (lv_sub hl [0, 1, 2, 3, 4, 5] rfl)⟩
      · refine lv_aload_n hx hb dX8_takeFigures_55 rfl (lv_at hl 1 rfl) ?_
        refine va_get (D := D) (ci := 8) (v := .int nu2_1) (C := RX8) (T := TX8) (N := 44) hx hb hts inX8 hown hK hP 0 rfl rfl 10 (by decide) (hts _ tw_983) (fun _ h9 => h9) rfl dX8_takeFigures_56 ?_
        refine lv_goto (tgt := 82) hx hb dX8_takeFigures_59 (by decide) ?_
        refine va_put (D := D) (ci := 8) (v := .int nu2_1) (ty := .int) (C := RX8) (T := TX8) (N := 44) hx hb hts inX8 tyX8 tyX8_ok nmX8 hown hK hP hD hS 0 rfl rfl 10 (by decide) (hts _ tw_983) (fun _ h9 => h9) rfl (by decide +kernel) rfl rfl (Nat.le_of_ble_eq_true rfl) dX8_takeFigures_82 (fun H locs hP hD hS => ?_)
        replace hP : va_P D classes [((a 0), .inr (8, (fX8 a (nI tx) fp (nI t_1) wd (nI we) nu2_1 na (nI rd) ts (nI ru) (nI rw) (nI ca) df db sd))), (aI k (a 5) 240 ftext)] H := hP
        replace hD : va_D A [((a 0), .inr (8, (fX8 a (nI tx) fp (nI t_1) wd (nI we) nu2_1 na (nI rd) ts (nI ru) (nI rw) (nI ca) df db sd))), (aI k (a 5) 240 ftext)] := hD
        refine lv_aload_n hx hb dX8_takeFigures_85 rfl (lv_at hl 1 rfl) ?_
        refine lv_dup hx hb dX8_takeFigures_86 rfl ?_
        refine va_get (D := D) (ci := 8) (v := .int (nI t_1)) (C := RX8) (T := TX8) (N := 44) hx hb hts inX8 hown hK hP 0 rfl rfl 7 (by decide) (hts _ tw_980) (fun _ h9 => h9) rfl dX8_takeFigures_87 ?_
        refine lv_iconst (v := 1) hx hb dX8_takeFigures_90 (by decide) ?_
        refine lv_iadd hx hb dX8_takeFigures_91 ?_
        refine lv_ti (y := (nI (t_1 + 1))) (nI_add t_1 1) ?_
        refine va_put (D := D) (ci := 8) (v := .int (nI (t_1 + 1))) (ty := .int) (C := RX8) (T := TX8) (N := 44) hx hb hts inX8 tyX8 tyX8_ok nmX8 hown hK hP hD hS 0 rfl rfl 7 (by decide) (hts _ tw_980) (fun _ h9 => h9) rfl (by decide +kernel) rfl rfl (Nat.le_of_ble_eq_true rfl) dX8_takeFigures_92 (fun H locs hP hD hS => ?_)
        replace hP : va_P D classes [((a 0), .inr (8, (fX8 a (nI tx) fp (nI (t_1 + 1)) wd (nI we) nu2_1 na (nI rd) ts (nI ru) (nI rw) (nI ca) df db sd))), (aI k (a 5) 240 ftext)] H := hP
        replace hD : va_D A [((a 0), .inr (8, (fX8 a (nI tx) fp (nI (t_1 + 1)) wd (nI we) nu2_1 na (nI rd) ts (nI ru) (nI rw) (nI ca) df db sd))), (aI k (a 5) 240 ftext)] := hD
        refine lv_goto (tgt := 11) hx hb dX8_takeFigures_95 (by decide) ?_
        have hst_20 := fg_step (by omega) hw_14 hv_1.2.2.1 hv_1.2.2.2
        exact ih_1 _ (t_1 + 1, nu2_1) _ _ _ (by omega) ⟨rfl, ⟨by omega, by omega, hst_20.1, hst_20.2.1 c_15⟩, hP, hD, hS, (lv_sub hl [0, 1, 2, 3, 4, 5] rfl)⟩
    · refine lv_if_eq (tgt := 98) hx hb dX8_takeFigures_41 (by decide) (fun _ => ?_) (fun h => absurd (by decide) h)
      obtain ⟨hle_21, hve_21⟩ := fg_out (figA_no hw_14) hv_1.2.2.1 hv_1.2.2.2
      refine lv_aload_n hx hb dX8_takeFigures_98 rfl (lv_at hl 1 rfl) ?_
      refine va_get (D := D) (ci := 8) (v := .int (nI t_1)) (C := RX8) (T := TX8) (N := 44) hx hb hts inX8 hown hK hP 0 rfl rfl 7 (by decide) (hts _ tw_980) (fun _ h9 => h9) rfl dX8_takeFigures_99 ?_
      refine lv_iload hx hb dX8_takeFigures_102 (lv_at hl 0 rfl) ?_
      refine lv_icmp_ne (tgt := 115) hx hb dX8_takeFigures_104 (by decide) (fun c_22 => ?_) (fun c_22 => ?_)
      · have c_22 : ¬ (t_1 = t0) := fun h => c_22 ((nI_eq (a := t_1) (b := t0) (by omega) (by omega)).mpr h)
        refine lv_aload_n hx hb dX8_takeFigures_115 rfl (lv_at hl 1 rfl) ?_
        refine va_get (D := D) (ci := 8) (v := .int (nI t_1)) (C := RX8) (T := TX8) (N := 44) hx hb hts inX8 hown hK hP 0 rfl rfl 7 (by decide) (hts _ tw_980) (fun _ h9 => h9) rfl dX8_takeFigures_116 ?_
        refine lv_iload hx hb dX8_takeFigures_119 (lv_at hl 0 rfl) ?_
        refine lv_isub hx hb dX8_takeFigures_121 ?_
        refine lv_ti (y := (nI (t_1 - t0))) (pk_sub (a := t_1) (b := t0) (by omega)) ?_
        refine lv_istore (lv' := [(6, .int (nI (t_1 - t0))), (5, .int (nI t0)), (0, .ref (a 0)), (1, .int (nI qa)), (2, .int p1), (3, .int p2), (4, .int 1)]) hx hb dX8_takeFigures_122 hl (by decide) rfl (fun ls hl => ?_)
        refine lv_aload_n hx hb dX8_takeFigures_124 rfl (lv_at hl 2 rfl) ?_
        refine lv_iload hx hb dX8_takeFigures_125 (lv_at hl 6 rfl) ?_
        refine lv_if_eq (tgt := 138) hx hb dX8_takeFigures_127 (by decide) (fun h => absurd h (by decide)) (fun _ => ?_)
        refine lv_aload_n hx hb dX8_takeFigures_130 rfl (lv_at hl 2 rfl) ?_
        refine va_get (D := D) (ci := 8) (v := .int nu2_1) (C := RX8) (T := TX8) (N := 44) hx hb hts inX8 hown hK hP 0 rfl rfl 10 (by decide) (hts _ tw_983) (fun _ h9 => h9) rfl dX8_takeFigures_131 ?_
        refine lv_ineg hx hb dX8_takeFigures_134 ?_
        refine lv_topi (fun x_23 ex_23 => ?_)
        refine lv_goto (tgt := 142) hx hb dX8_takeFigures_135 (by decide) ?_
        refine va_put (D := D) (ci := 8) (v := .int x_23) (ty := .int) (C := RX8) (T := TX8) (N := 44) hx hb hts inX8 tyX8 tyX8_ok nmX8 hown hK hP hD hS 0 rfl rfl 10 (by decide) (hts _ tw_983) (fun _ h9 => h9) rfl (by decide +kernel) rfl rfl (Nat.le_of_ble_eq_true rfl) dX8_takeFigures_142 (fun H locs hP hD hS => ?_)
        replace hP : va_P D classes [((a 0), .inr (8, (fX8 a (nI tx) fp (nI t_1) wd (nI we) x_23 na (nI rd) ts (nI ru) (nI rw) (nI ca) df db sd))), (aI k (a 5) 240 ftext)] H := hP
        replace hD : va_D A [((a 0), .inr (8, (fX8 a (nI tx) fp (nI t_1) wd (nI we) x_23 na (nI rd) ts (nI ru) (nI rw) (nI ca) df db sd))), (aI k (a 5) 240 ftext)] := hD
        refine lv_iload hx hb dX8_takeFigures_145 (lv_at hl 0 rfl) ?_
        refine lv_iconst (v := 3) hx hb dX8_takeFigures_147 (by decide) ?_
        refine lv_icmp_gt (tgt := 166) hx hb dX8_takeFigures_148 (by decide) (fun c_24 => ?_) (fun c_24 => ?_)
        · have c_24 := (nI_ltI (a := 3) (b := (t_1 - t0)) (by omega) (by omega)).mp c_24
          refine lv_aload_n hx hb dX8_takeFigures_166 rfl (lv_at hl 2 rfl) ?_
          refine lv_iconst (v := 2) hx hb dX8_takeFigures_167 (by decide) ?_
          refine lv_iload_n hx hb dX8_takeFigures_168 rfl (lv_at hl 3 rfl) ?_
          refine rw_i (D := D) (wr := [(aI k (a 5) 240 ftext)]) (va_runV (As := [.int 2, .int (nI qa)]) (rest := []) ⟨hx, hb, hml, hown, hts⟩ ((n_fails l D k st lo a tx t_1 we rd ru rw ca fp wd x_23 na ts df db sd 2 (nI qa)) H.size) (cwV 2 hts (gV tw_1151 tw_1153 tw_31 tw_87 tw_1154) rfl rfl rfl (by decide +kernel) ⟨Nat.le_of_ble_eq_true rfl, Nat.le_of_ble_eq_true rfl⟩) (pV hS hAlo hlo hP hK (va_Dlo hD hAlo) hZ [0] (by decide) rfl (ci := 8) (q := (RX8, TX8, 44)) (q0 := 0) rfl rfl) rfl rfl hl.1 rfl (lv_room (Nat.le_of_ble_eq_true rfl)) dX8_takeFigures_169 ⟨Nat.le_of_ble_eq_true rfl, Nat.le_of_ble_eq_true rfl⟩) hS hA hP hD [0] [1] rfl rfl (by decide) (by decide) (fun r_25 u H locs hw_25 hP hD hS => ?_)
          obtain ⟨fp__25, rfl⟩ : ∃ z, z = u := ⟨_, rfl⟩
          replace hP : va_P D classes [(aI k (a 5) 240 ftext), ((a 0), .inr (8, (fX8 a (nI tx) fp__25 (nI t_1) wd (nI we) x_23 na (nI rd) ts (nI ru) (nI rw) (nI ca) df db sd)))] H := hP
          replace hD : va_D A [(aI k (a 5) 240 ftext), ((a 0), .inr (8, (fX8 a (nI tx) fp__25 (nI t_1) wd (nI we) x_23 na (nI rd) ts (nI ru) (nI rw) (nI ca) df db sd)))] := hD
          try dsimp only at hw_25
          obtain ⟨hs0_26, hs1_26⟩ := hw_25
          replace hs0_26 := hs0_26.symm
          subst hs0_26
          replace hs1_26 := hs1_26.symm
          subst hs1_26
          refine lv_goto (tgt := 176) hx hb dX8_takeFigures_172 (by decide) ?_
          have hP9 := hP.sub (ws' := [((a 0), .inr (8, (fX8 a (nI tx) (nI qa) (nI t_1) wd (nI we) x_23 na (nI rd) ts (nI ru) (nI rw) (nI ca) df db sd))), (aI k (a 5) 240 ftext)]) [1, 0] rfl
          have hD9 := hD.sub (ws' := [((a 0), .inr (8, (fX8 a (nI tx) (nI qa) (nI t_1) wd (nI we) x_23 na (nI rd) ts (nI ru) (nI rw) (nI ca) df db sd))), (aI k (a 5) 240 ftext)]) [1, 0] (by decide) rfl
          exact W.iret (v := 2) hx hb hr (fun t ht hW => ⟨⟨2, (t_1, x_23, (nI qa)), rfl, ⟨.inr (.inr ⟨rfl, _, nuS_2 hle_21 (by omega) rfl (.inl (by omega)), rfl⟩), by omega, by omega⟩, by rw [ht]; exact hP9, hD9⟩, hS.F ht⟩) hS.2.2 dX8_takeFigures_176
        · have c_24 : ¬ (3 < (t_1 - t0)) := fun h => c_24 ((nI_ltI (a := 3) (b := (t_1 - t0)) (by omega) (by omega)).mpr h)
          refine lv_aload_n hx hb dX8_takeFigures_151 rfl (lv_at hl 2 rfl) ?_
          refine va_get (D := D) (ci := 8) (v := .int x_23) (C := RX8) (T := TX8) (N := 44) hx hb hts inX8 hown hK hP 0 rfl rfl 10 (by decide) (hts _ tw_983) (fun _ h9 => h9) rfl dX8_takeFigures_152 ?_
          refine lv_i2l (v := x_23.toInt64) hx hb dX8_takeFigures_155 rfl ?_
          refine lv_iload_n hx hb dX8_takeFigures_156 rfl (lv_at hl 4 rfl) ?_
          refine lv_i2l (v := p1.toInt64) hx hb dX8_takeFigures_157 rfl ?_
          refine lv_iload_n hx hb dX8_takeFigures_158 rfl (lv_at hl 5 rfl) ?_
          refine lv_i2l (v := p2.toInt64) hx hb dX8_takeFigures_159 rfl ?_
          refine ro_i (D := D) (va_runS (As := [.long (x_23.toInt64), .long (p1.toInt64), .long (p2.toInt64)]) (rest := []) ⟨hx, hb, hml, hown, hts⟩ ((k_in l D k st lo x_23 p1 p2) H.size) (va_cwS 3 hts (gS tw_1111 tw_1112 tw_87 tw_1113) rfl rfl rfl (by decide +kernel) ⟨Nat.le_of_ble_eq_true rfl, Nat.le_of_ble_eq_true rfl⟩) (pS hS hAlo hlo hP hK (va_Dlo hD hAlo) hZ [] (by decide) rfl) rfl rfl hl.1 rfl (lv_room (Nat.le_of_ble_eq_true rfl)) dX8_takeFigures_160 ⟨Nat.le_of_ble_eq_true rfl, Nat.le_of_ble_eq_true rfl⟩) hS hA hP (fun r_27 H locs hw_27 hP hS => ?_)
          try dsimp only at hw_27
          rcases hw_27 with ⟨rfl, hw_27⟩ | ⟨rfl, hw_27⟩
          · refine lv_if_ne (tgt := 175) hx hb dX8_takeFigures_163 (by decide) (fun _ => ?_) (fun h => absurd h (by decide))
            refine lv_iconst (v := 0) hx hb dX8_takeFigures_175 (by decide) ?_
            have hP9 := hP.sub (ws' := [((a 0), .inr (8, (fX8 a (nI tx) fp (nI t_1) wd (nI we) x_23 na (nI rd) ts (nI ru) (nI rw) (nI ca) df db sd))), (aI k (a 5) 240 ftext)]) [0, 1] rfl
            have hD9 := hD.sub (ws' := [((a 0), .inr (8, (fX8 a (nI tx) fp (nI t_1) wd (nI we) x_23 na (nI rd) ts (nI ru) (nI rw) (nI ca) df db sd))), (aI k (a 5) 240 ftext)]) [0, 1] (by decide) rfl
            exact W.iret (v := 0) hx hb hr (fun t ht hW => ⟨⟨0, (t_1, x_23, fp), rfl, ⟨.inl ⟨rfl, nuS_0 hle_21 (by omega) (vS_tm hle_21 (by omega) hve_21 ex_23) (by omega) hw_27, rfl⟩, by omega, by omega⟩, by rw [ht]; exact hP9, hD9⟩, hS.F ht⟩) hS.2.2 dX8_takeFigures_176
          · refine lv_if_ne (tgt := 175) hx hb dX8_takeFigures_163 (by decide) (fun h => absurd (by decide) h) (fun _ => ?_)
            refine lv_aload_n hx hb dX8_takeFigures_166 rfl (lv_at hl 2 rfl) ?_
            refine lv_iconst (v := 2) hx hb dX8_takeFigures_167 (by decide) ?_
            refine lv_iload_n hx hb dX8_takeFigures_168 rfl (lv_at hl 3 rfl) ?_
            refine rw_i (D := D) (wr := [(aI k (a 5) 240 ftext)]) (va_runV (As := [.int 2, .int (nI qa)]) (rest := []) ⟨hx, hb, hml, hown, hts⟩ ((n_fails l D k st lo a tx t_1 we rd ru rw ca fp wd x_23 na ts df db sd 2 (nI qa)) H.size) (cwV 2 hts (gV tw_1151 tw_1153 tw_31 tw_87 tw_1154) rfl rfl rfl (by decide +kernel) ⟨Nat.le_of_ble_eq_true rfl, Nat.le_of_ble_eq_true rfl⟩) (pV hS hAlo hlo hP hK (va_Dlo hD hAlo) hZ [0] (by decide) rfl (ci := 8) (q := (RX8, TX8, 44)) (q0 := 0) rfl rfl) rfl rfl hl.1 rfl (lv_room (Nat.le_of_ble_eq_true rfl)) dX8_takeFigures_169 ⟨Nat.le_of_ble_eq_true rfl, Nat.le_of_ble_eq_true rfl⟩) hS hA hP hD [0] [1] rfl rfl (by decide) (by decide) (fun r_28 u H locs hw_28 hP hD hS => ?_)
            obtain ⟨fp__28, rfl⟩ : ∃ z, z = u := ⟨_, rfl⟩
            replace hP : va_P D classes [(aI k (a 5) 240 ftext), ((a 0), .inr (8, (fX8 a (nI tx) fp__28 (nI t_1) wd (nI we) x_23 na (nI rd) ts (nI ru) (nI rw) (nI ca) df db sd)))] H := hP
            replace hD : va_D A [(aI k (a 5) 240 ftext), ((a 0), .inr (8, (fX8 a (nI tx) fp__28 (nI t_1) wd (nI we) x_23 na (nI rd) ts (nI ru) (nI rw) (nI ca) df db sd)))] := hD
            try dsimp only at hw_28
            obtain ⟨hs0_29, hs1_29⟩ := hw_28
            replace hs0_29 := hs0_29.symm
            subst hs0_29
            replace hs1_29 := hs1_29.symm
            subst hs1_29
            refine lv_goto (tgt := 176) hx hb dX8_takeFigures_172 (by decide) ?_
            have hP9 := hP.sub (ws' := [((a 0), .inr (8, (fX8 a (nI tx) (nI qa) (nI t_1) wd (nI we) x_23 na (nI rd) ts (nI ru) (nI rw) (nI ca) df db sd))), (aI k (a 5) 240 ftext)]) [1, 0] rfl
            have hD9 := hD.sub (ws' := [((a 0), .inr (8, (fX8 a (nI tx) (nI qa) (nI t_1) wd (nI we) x_23 na (nI rd) ts (nI ru) (nI rw) (nI ca) df db sd))), (aI k (a 5) 240 ftext)]) [1, 0] (by decide) rfl
            exact W.iret (v := 2) hx hb hr (fun t ht hW => ⟨⟨2, (t_1, x_23, (nI qa)), rfl, ⟨.inr (.inr ⟨rfl, _, nuS_2 hle_21 (by omega) (vS_tm hle_21 (by omega) hve_21 ex_23) (.inr (fun h => hw_27 h)), rfl⟩), by omega, by omega⟩, by rw [ht]; exact hP9, hD9⟩, hS.F ht⟩) hS.2.2 dX8_takeFigures_176
      · have c_22 := (nI_eq (a := t_1) (b := t0) (by omega) (by omega)).mp c_22
        refine lv_aload_n hx hb dX8_takeFigures_107 rfl (lv_at hl 1 rfl) ?_
        refine lv_iconst (v := 1) hx hb dX8_takeFigures_108 (by decide) ?_
        refine lv_iload hx hb dX8_takeFigures_109 (lv_at hl 0 rfl) ?_
        refine rw_i (D := D) (wr := [(aI k (a 5) 240 ftext)]) (va_runV (As := [.int 1, .int (nI t0)]) (rest := []) ⟨hx, hb, hml, hown, hts⟩ ((n_fails l D k st lo a tx t_1 we rd ru rw ca fp wd nu2_1 na ts df db sd 1 (nI t0)) H.size) (cwV 2 hts (gV tw_1151 tw_1153 tw_31 tw_87 tw_1154) rfl rfl rfl (by decide +kernel) ⟨Nat.le_of_ble_eq_true rfl, Nat.le_of_ble_eq_true rfl⟩) (pV hS hAlo hlo hP hK (va_Dlo hD hAlo) hZ [0] (by decide) rfl (ci := 8) (q := (RX8, TX8, 44)) (q0 := 0) rfl rfl) rfl rfl hl.1 rfl (lv_room (Nat.le_of_ble_eq_true rfl)) dX8_takeFigures_111 ⟨Nat.le_of_ble_eq_true rfl, Nat.le_of_ble_eq_true rfl⟩) hS hA hP hD [0] [1] rfl rfl (by decide) (by decide) (fun r_30 u H locs hw_30 hP hD hS => ?_)
        obtain ⟨fp__30, rfl⟩ : ∃ z, z = u := ⟨_, rfl⟩
        replace hP : va_P D classes [(aI k (a 5) 240 ftext), ((a 0), .inr (8, (fX8 a (nI tx) fp__30 (nI t_1) wd (nI we) nu2_1 na (nI rd) ts (nI ru) (nI rw) (nI ca) df db sd)))] H := hP
        replace hD : va_D A [(aI k (a 5) 240 ftext), ((a 0), .inr (8, (fX8 a (nI tx) fp__30 (nI t_1) wd (nI we) nu2_1 na (nI rd) ts (nI ru) (nI rw) (nI ca) df db sd)))] := hD
        try dsimp only at hw_30
        obtain ⟨hs0_31, hs1_31⟩ := hw_30
        replace hs0_31 := hs0_31.symm
        subst hs0_31
        replace hs1_31 := hs1_31.symm
        subst hs1_31
        have hP9 := hP.sub (ws' := [((a 0), .inr (8, (fX8 a (nI tx) (nI t0) (nI t_1) wd (nI we) nu2_1 na (nI rd) ts (nI ru) (nI rw) (nI ca) df db sd))), (aI k (a 5) 240 ftext)]) [1, 0] rfl
        have hD9 := hD.sub (ws' := [((a 0), .inr (8, (fX8 a (nI tx) (nI t0) (nI t_1) wd (nI we) nu2_1 na (nI rd) ts (nI ru) (nI rw) (nI ca) df db sd))), (aI k (a 5) 240 ftext)]) [1, 0] (by decide) rfl
        exact W.iret (v := 1) hx hb hr (fun t ht hW => ⟨⟨1, (t_1, nu2_1, (nI t0)), rfl, ⟨.inr (.inl ⟨rfl, _, nuS_1t hle_21 (by omega), congrArg nI (by omega)⟩), by omega, by omega⟩, by rw [ht]; exact hP9, hD9⟩, hS.F ht⟩) hS.2.2 dX8_takeFigures_114


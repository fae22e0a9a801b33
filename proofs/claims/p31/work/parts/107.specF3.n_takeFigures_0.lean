
set_option maxHeartbeats 4000000 in
set_option maxRecDepth 100000 in
theorem n_takeFigures_0 (l : Launch) (D : va_G) (k : Nat → ClassId) (st : Nat → Nat) (lo : Nat) (a : Nat → Nat) (tx : Nat) (t0 : Nat) (we : Nat) (rd : Nat) (ru : Nat) (rw : Nat) (ca : Nat) (fp : Int32) (wd : Int64) (nu : Int32) (na : Int32) (ts : Int32) (df : Int32) (db : Int32) (sd : Int32) (ftext : Nat → Int32) (qa : Nat) (p1 : Int32) (p2 : Int32) (ht : t0 ≤ tx) (htx : tx ≤ 240) : CWi l D k st lo yX8_takeFigures cX8_takeFigures 7 (some .int) ({ frames := 1, cells := 0, slots := 0, locals := 25 }) 0 0 [.ref (a 0), .int (nI qa), .int p1, .int p2, .int 0] [((a 0), .inr (8, (fX8 a (nI tx) fp (nI t0) wd (nI we) nu na (nI rd) ts (nI ru) (nI rw) (nI ca) df db sd))), (aI k (a 5) 240 ftext)] (fun (r : Int32) (u : Nat × Int32 × Int32) => match u with | (t0_, nu_, fp_) => ((r = 0 ∧ nuS ftext tx false p1 p2 qa t0 = (0, 0, t0_, nu_, qa) ∧ fp_ = fp) ∨ (r = 1 ∧ ∃ pl : Nat, nuS ftext tx false p1 p2 qa t0 = (1, pl, t0_, 0, qa) ∧ fp_ = nI pl) ∨ (r = 2 ∧ ∃ pl : Nat, nuS ftext tx false p1 p2 qa t0 = (2, pl, t0_, 0, qa) ∧ fp_ = nI pl)) ∧ t0 ≤ t0_ ∧ t0_ ≤ tx) (fun (u : Nat × Int32 × Int32) => match u with | (t0_, nu_, fp_) => [((a 0), .inr (8, (fX8 a (nI tx) fp_ (nI t0_) wd (nI we) nu_ na (nI rd) ts (nI ru) (nI rw) (nI ca) df db sd))), (aI k (a 5) 240 ftext)]) := by
  intro sz
  refine Met.ofW (cc := cX8_takeFigures) (maxL := 7) (ret := (some .int)) (by decide) rfl ?_
  intro p e s m args below meth c s₁ B hml hv
  obtain ⟨rfl, hsz, hlo, hP, hK, hDL, hZ⟩ := hv
  have hx := B.exec
  have hb := B.bytes
  have hr := B.returns
  have hts := WS_ts B.pre
  have hown : s.vm.findClass RX8 = some m.cls := findClass_of_methodNamed B.named
  have hlocks := B.notSynchronized
  subst hsz
  have hD := hDL.self (sz := s.heap.size)
  have hAlo := A_lo hDL hlo
  generalize hAe : va_A [((a 0), .inr (8, (fX8 a (nI tx) fp (nI t0) wd (nI we) nu na (nI rd) ts (nI ru) (nI rw) (nI ca) df db sd))), (aI k (a 5) 240 ftext)] s.heap.size = A at hD hAlo ⊢
  have hA : ∀ q : Nat, s.heap.size ≤ q → A q := fun q h => by rw [← hAe]; exact Or.inr h
  have hS : va_S A s.heap s.heap [] := va_S.rf
  have hl := lv_entry ([.ref (a 0), .int (nI qa), .int p1, .int p2, .int 0]) (n := 7) (Nat.le_of_ble_eq_true rfl)
  rw [lg_entry_eq]
  generalize (lg_sl ([.ref (a 0), .int (nI qa), .int p1, .int p2, .int 0]) ++ List.replicate (7 - (lg_sl ([.ref (a 0), .int (nI qa), .int p1, .int p2, .int 0])).length) Slot.unset).toArray = ls at hl ⊢
  have hl : lv_has ls 7 [(0, .ref (a 0)), (1, .int (nI qa)), (2, .int p1), (3, .int p2), (4, .int 0)] := hl
  refine lv_aload_n hx hb dX8_takeFigures_0 rfl (lv_at hl 0 rfl) ?_
  refine va_get (D := D) (ci := 8) (v := .int (nI t0)) (C := RX8) (T := TX8) (N := 44) hx hb hts inX8 hown hK hP 0 rfl rfl 7 (by decide) (hts _ tw_980) (fun _ h9 => h9) rfl dX8_takeFigures_1 ?_
  refine lv_istore (lv' := [(5, .int (nI t0)), (0, .ref (a 0)), (1, .int (nI qa)), (2, .int p1), (3, .int p2), (4, .int 0)]) hx hb dX8_takeFigures_4 hl (by decide) rfl (fun ls hl => ?_)
  refine lv_aload_n hx hb dX8_takeFigures_6 rfl (lv_at hl 1 rfl) ?_
  refine lv_iconst (v := 0) hx hb dX8_takeFigures_7 (by decide) ?_
  refine va_put (D := D) (ci := 8) (v := .int 0) (ty := .int) (C := RX8) (T := TX8) (N := 44) hx hb hts inX8 tyX8 tyX8_ok nmX8 hown hK hP hD hS 0 rfl rfl 10 (by decide) (hts _ tw_983) (fun _ h9 => h9) rfl (by decide +kernel) rfl rfl (Nat.le_of_ble_eq_true rfl) dX8_takeFigures_8 (fun H locs hP hD hS => ?_)
  have hQ9 := pd_mk [((a 0), .inr (8, (fX8 a (nI tx) fp (nI t0) wd (nI we) 0 na (nI rd) ts (nI ru) (nI rw) (nI ca) df db sd))), (aI k (a 5) 240 ftext)] hP hD
  clear hP hD
  obtain ⟨hP, hD⟩ := hQ9
  refine W_loop (σ := Nat × Int32) (fun (n_ : Nat) (x_ : Nat × Int32) (H : Heap) (locs : List Loc) (ls : Array Slot) => match x_ with | (t_1, nu2_1) => n_ = tx - t_1 ∧ (t0 ≤ t_1 ∧ t_1 ≤ tx ∧ t_1 + (figA ftext tx t_1).length = t0 + (figA ftext tx t0).length ∧ (figA ftext tx t_1).foldl stN nu2_1 = vM (figA ftext tx t0)) ∧ va_P D classes [((a 0), .inr (8, (fX8 a (nI tx) fp (nI t_1) wd (nI we) nu2_1 na (nI rd) ts (nI ru) (nI rw) (nI ca) df db sd))), (aI k (a 5) 240 ftext)] H ∧ va_D A [((a 0), .inr (8, (fX8 a (nI tx) fp (nI t_1) wd (nI we) nu2_1 na (nI rd) ts (nI ru) (nI rw) (nI ca) df db sd))), (aI k (a 5) 240 ftext)] ∧ va_S A s.heap H locs ∧ lv_has ls 7 [(5, .int (nI t0)), (0, .ref (a 0)), (1, .int (nI qa)), (2, .int p1), (3, .int p2), (4, .int 0)]) (fun n_1 x_1 H locs ls hI ih_1 => ?_) _ (t0, 0) ⟨rfl, ⟨by omega, by omega, rfl, rfl⟩, hP, hD, hS, (lv_sub hl [0, 1, 2, 3, 4, 5] rfl)⟩
  obtain ⟨t_1, nu2_1⟩ := x_1
  obtain ⟨hm_1, hv_1, hP, hD, hS, hl⟩ := hI
  subst hm_1
  refine lv_aload_n hx hb dX8_takeFigures_11 rfl (lv_at hl 1 rfl) ?_
  refine va_get (D := D) (ci := 8) (v := .int (nI t_1)) (C := RX8) (T := TX8) (N := 44) hx hb hts inX8 hown hK hP 0 rfl rfl 7 (by decide) (hts _ tw_980) (fun _ h9 => h9) rfl dX8_takeFigures_12 ?_
  refine lv_aload_n hx hb dX8_takeFigures_15 rfl (lv_at hl 1 rfl) ?_
  refine va_get (D := D) (ci := 8) (v := .int (nI tx)) (C := RX8) (T := TX8) (N := 44) hx hb hts inX8 hown hK hP 0 rfl rfl 5 (by decide) (hts _ tw_978) (fun _ h9 => h9) rfl dX8_takeFigures_16 ?_
  refine lv_icmp_ge (tgt := 98) hx hb dX8_takeFigures_19 (by decide) (fun c_2 => ?_) (fun c_2 => ?_)
  · have c_2 := (nI_leI (a := tx) (b := t_1) (by omega) (by omega)).mp c_2
    obtain ⟨hle_3, hve_3⟩ := fg_out (figA_end (by omega)) hv_1.2.2.1 hv_1.2.2.2
    refine lv_aload_n hx hb dX8_takeFigures_98 rfl (lv_at hl 1 rfl) ?_
    refine va_get (D := D) (ci := 8) (v := .int (nI t_1)) (C := RX8) (T := TX8) (N := 44) hx hb hts inX8 hown hK hP 0 rfl rfl 7 (by decide) (hts _ tw_980) (fun _ h9 => h9) rfl dX8_takeFigures_99 ?_
    refine lv_iload hx hb dX8_takeFigures_102 (lv_at hl 0 rfl) ?_
    refine lv_icmp_ne (tgt := 115) hx hb dX8_takeFigures_104 (by decide) (fun c_4 => ?_) (fun c_4 => ?_)
    · have c_4 : ¬ (t_1 = t0) := fun h => c_4 ((nI_eq (a := t_1) (b := t0) (by omega) (by omega)).mpr h)
      refine lv_aload_n hx hb dX8_takeFigures_115 rfl (lv_at hl 1 rfl) ?_
      refine va_get (D := D) (ci := 8) (v := .int (nI t_1)) (C := RX8) (T := TX8) (N := 44) hx hb hts inX8 hown hK hP 0 rfl rfl 7 (by decide) (hts _ tw_980) (fun _ h9 => h9) rfl dX8_takeFigures_116 ?_
      refine lv_iload hx hb dX8_takeFigures_119 (lv_at hl 0 rfl) ?_
      refine lv_isub hx hb dX8_takeFigures_121 ?_
      refine lv_ti (y := (nI (t_1 - t0))) (pk_sub (a := t_1) (b := t0) (by omega)) ?_
      refine lv_istore (lv' := [(6, .int (nI (t_1 - t0))), (5, .int (nI t0)), (0, .ref (a 0)), (1, .int (nI qa)), (2, .int p1), (3, .int p2), (4, .int 0)]) hx hb dX8_takeFigures_122 hl (by decide) rfl (fun ls hl => ?_)
      refine lv_aload_n hx hb dX8_takeFigures_124 rfl (lv_at hl 2 rfl) ?_
      refine lv_iload hx hb dX8_takeFigures_125 (lv_at hl 6 rfl) ?_
      refine lv_if_eq (tgt := 138) hx hb dX8_takeFigures_127 (by decide) (fun _ => ?_) (fun h => absurd (by decide) h)
      refine lv_aload_n hx hb dX8_takeFigures_138 rfl (lv_at hl 2 rfl) ?_
      refine va_get (D := D) (ci := 8) (v := .int nu2_1) (C := RX8) (T := TX8) (N := 44) hx hb hts inX8 hown hK hP 0 rfl rfl 10 (by decide) (hts _ tw_983) (fun _ h9 => h9) rfl dX8_takeFigures_139 ?_
      refine va_put (D := D) (ci := 8) (v := .int nu2_1) (ty := .int) (C := RX8) (T := TX8) (N := 44) hx hb hts inX8 tyX8 tyX8_ok nmX8 hown hK hP hD hS 0 rfl rfl 10 (by decide) (hts _ tw_983) (fun _ h9 => h9) rfl (by decide +kernel) rfl rfl (Nat.le_of_ble_eq_true rfl) dX8_takeFigures_142 (fun H locs hP hD hS => ?_)
      have hQ9 := pd_mk [((a 0), .inr (8, (fX8 a (nI tx) fp (nI t_1) wd (nI we) nu2_1 na (nI rd) ts (nI ru) (nI rw) (nI ca) df db sd))), (aI k (a 5) 240 ftext)] hP hD
      clear hP hD
      obtain ⟨hP, hD⟩ := hQ9
      refine lv_iload hx hb dX8_takeFigures_145 (lv_at hl 0 rfl) ?_
      refine lv_iconst (v := 3) hx hb dX8_takeFigures_147 (by decide) ?_
      refine lv_icmp_gt (tgt := 166) hx hb dX8_takeFigures_148 (by decide) (fun c_5 => ?_) (fun c_5 => ?_)
      · have c_5 := (nI_ltI (a := 3) (b := (t_1 - t0)) (by omega) (by omega)).mp c_5
        refine lv_aload_n hx hb dX8_takeFigures_166 rfl (lv_at hl 2 rfl) ?_
        refine lv_iconst (v := 2) hx hb dX8_takeFigures_167 (by decide) ?_
        refine lv_iload_n hx hb dX8_takeFigures_168 rfl (lv_at hl 3 rfl) ?_
        refine rw_i (D := D) (wr := [(aI k (a 5) 240 ftext)]) (va_runV (As := [.int 2, .int (nI qa)]) (rest := []) ⟨hx, hb, hml, hown, hts⟩ ((n_fails l D k st lo a tx t_1 we rd ru rw ca fp wd nu2_1 na ts df db sd 2 (nI qa)) H.size) (cwV 2 hts (gV tw_1151 tw_1153 tw_31 tw_87 tw_1154) rfl rfl rfl (by decide +kernel) ⟨Nat.le_of_ble_eq_true rfl, Nat.le_of_ble_eq_true rfl⟩) (pV hS hAlo hlo hP hK (va_Dlo hD hAlo) hZ [0] (by decide) rfl (ci := 8) (q := (RX8, TX8, 44)) (q0 := 0) rfl rfl) rfl rfl hl.1 rfl (lv_room (Nat.le_of_ble_eq_true rfl)) dX8_takeFigures_169 ⟨Nat.le_of_ble_eq_true rfl, Nat.le_of_ble_eq_true rfl⟩) hS hA hP hD [0] [1] rfl rfl (by decide) (by decide) (fun r_6 u H locs hw_6 hP hD hS => ?_)
        obtain ⟨fp__6, rfl⟩ : ∃ z, z = u := ⟨_, rfl⟩
        have hQ9 := pd_mk [(aI k (a 5) 240 ftext), ((a 0), .inr (8, (fX8 a (nI tx) fp__6 (nI t_1) wd (nI we) nu2_1 na (nI rd) ts (nI ru) (nI rw) (nI ca) df db sd)))] hP hD
        clear hP hD
        obtain ⟨hP, hD⟩ := hQ9
        try dsimp only at hw_6
        obtain ⟨hs0_7, hs1_7⟩ := hw_6
        replace hs0_7 := hs0_7.symm
        subst hs0_7
        replace hs1_7 := hs1_7.symm
        subst hs1_7
        refine lv_goto (tgt := 176) hx hb dX8_takeFigures_172 (by decide) ?_
        obtain ⟨hP9, hD9⟩ := pd_sub [((a 0), .inr (8, (fX8 a (nI tx) (nI qa) (nI t_1) wd (nI we) nu2_1 na (nI rd) ts (nI ru) (nI rw) (nI ca) df db sd))), (aI k (a 5) 240 ftext)] [1, 0] hP hD (by decide) rfl
        exact W.iret (v := 2) hx hb hr (fun t ht hW => ⟨⟨2, (t_1, nu2_1, (nI qa)), rfl, ⟨.inr (.inr ⟨rfl, _, nuS_2 hle_3 (by omega) rfl (.inl (by omega)), rfl⟩), by omega, by omega⟩, by rw [ht]; exact hP9, hD9⟩, hS.F ht⟩) hS.2.2 dX8_takeFigures_176
      · have c_5 : ¬ (3 < (t_1 - t0)) := fun h => c_5 ((nI_ltI (a := 3) (b := (t_1 - t0)) (by omega) (by omega)).mpr h)
        refine lv_aload_n hx hb dX8_takeFigures_151 rfl (lv_at hl 2 rfl) ?_
        refine va_get (D := D) (ci := 8) (v := .int nu2_1) (C := RX8) (T := TX8) (N := 44) hx hb hts inX8 hown hK hP 0 rfl rfl 10 (by decide) (hts _ tw_983) (fun _ h9 => h9) rfl dX8_takeFigures_152 ?_
        refine lv_i2l (v := nu2_1.toInt64) hx hb dX8_takeFigures_155 rfl ?_
        refine lv_iload_n hx hb dX8_takeFigures_156 rfl (lv_at hl 4 rfl) ?_
        refine lv_i2l (v := p1.toInt64) hx hb dX8_takeFigures_157 rfl ?_
        refine lv_iload_n hx hb dX8_takeFigures_158 rfl (lv_at hl 5 rfl) ?_
        refine lv_i2l (v := p2.toInt64) hx hb dX8_takeFigures_159 rfl ?_
        refine ro_i (D := D) (va_runS (As := [.long (nu2_1.toInt64), .long (p1.toInt64), .long (p2.toInt64)]) (rest := []) ⟨hx, hb, hml, hown, hts⟩ ((k_in l D k st lo nu2_1 p1 p2) H.size) (va_cwS 3 hts (gS tw_1111 tw_1112 tw_87 tw_1113) rfl rfl rfl (by decide +kernel) ⟨Nat.le_of_ble_eq_true rfl, Nat.le_of_ble_eq_true rfl⟩) (pS hS hAlo hlo hP hK (va_Dlo hD hAlo) hZ [] (by decide) rfl) rfl rfl hl.1 rfl (lv_room (Nat.le_of_ble_eq_true rfl)) dX8_takeFigures_160 ⟨Nat.le_of_ble_eq_true rfl, Nat.le_of_ble_eq_true rfl⟩) hS hA hP (fun r_8 H locs hw_8 hP hS => ?_)
        try dsimp only at hw_8
        rcases hw_8 with ⟨rfl, hw_8⟩ | ⟨rfl, hw_8⟩
        · refine lv_if_ne (tgt := 175) hx hb dX8_takeFigures_163 (by decide) (fun _ => ?_) (fun h => absurd h (by decide))
          refine lv_iconst (v := 0) hx hb dX8_takeFigures_175 (by decide) ?_
          obtain ⟨hP9, hD9⟩ := pd_sub [((a 0), .inr (8, (fX8 a (nI tx) fp (nI t_1) wd (nI we) nu2_1 na (nI rd) ts (nI ru) (nI rw) (nI ca) df db sd))), (aI k (a 5) 240 ftext)] [0, 1] hP hD (by decide) rfl
          exact W.iret (v := 0) hx hb hr (fun t ht hW => ⟨⟨0, (t_1, nu2_1, fp), rfl, ⟨.inl ⟨rfl, nuS_0 hle_3 (by omega) (vS_fm hle_3 (by omega) hve_3) (by omega) hw_8, rfl⟩, by omega, by omega⟩, by rw [ht]; exact hP9, hD9⟩, hS.F ht⟩) hS.2.2 dX8_takeFigures_176
        · refine lv_if_ne (tgt := 175) hx hb dX8_takeFigures_163 (by decide) (fun h => absurd (by decide) h) (fun _ => ?_)
          refine lv_aload_n hx hb dX8_takeFigures_166 rfl (lv_at hl 2 rfl) ?_
          refine lv_iconst (v := 2) hx hb dX8_takeFigures_167 (by decide) ?_
          refine lv_iload_n hx hb dX8_takeFigures_168 rfl (lv_at hl 3 rfl) ?_
          refine rw_i (D := D) (wr := [(aI k (a 5) 240 ftext)]) (va_runV (As := [.int 2, .int (nI qa)]) (rest := []) ⟨hx, hb, hml, hown, hts⟩ ((n_fails l D k st lo a tx t_1 we rd ru rw ca fp wd nu2_1 na ts df db sd 2 (nI qa)) H.size) (cwV 2 hts (gV tw_1151 tw_1153 tw_31 tw_87 tw_1154) rfl rfl rfl (by decide +kernel) ⟨Nat.le_of_ble_eq_true rfl, Nat.le_of_ble_eq_true rfl⟩) (pV hS hAlo hlo hP hK (va_Dlo hD hAlo) hZ [0] (by decide) rfl (ci := 8) (q := (RX8, TX8, 44)) (q0 := 0) rfl rfl) rfl rfl hl.1 rfl (lv_room (Nat.le_of_ble_eq_true rfl)) dX8_takeFigures_169 ⟨Nat.le_of_ble_eq_true rfl, Nat.le_of_ble_eq_true rfl⟩) hS hA hP hD [0] [1] rfl rfl (by decide) (by decide) (fun r_9 u H locs hw_9 hP hD hS => ?_)
          obtain ⟨fp__9, rfl⟩ : ∃ z, z = u := ⟨_, rfl⟩
          have hQ9 := pd_mk [(aI k (a 5) 240 ftext), ((a 0), .inr (8, (fX8 a (nI tx) fp__9 (nI t_1) wd (nI we) nu2_1 na (nI rd) ts (nI ru) (nI rw) (nI ca) df db sd)))] hP hD
          clear hP hD
          obtain ⟨hP, hD⟩ := hQ9
          try dsimp only at hw_9
          obtain ⟨hs0_10, hs1_10⟩ := hw_9
          replace hs0_10 := hs0_10.symm
          subst hs0_10
          replace hs1_10 := hs1_10.symm
          subst hs1_10
          refine lv_goto (tgt := 176) hx hb dX8_takeFigures_172 (by decide) ?_
          obtain ⟨hP9, hD9⟩ := pd_sub [((a 0), .inr (8, (fX8 a (nI tx) (nI qa) (nI t_1) wd (nI we) nu2_1 na (nI rd) ts (nI ru) (nI rw) (nI ca) df db sd))), (aI k (a 5) 240 ftext)] [1, 0] hP hD (by decide) rfl
          exact W.iret (v := 2) hx hb hr (fun t ht hW => ⟨⟨2, (t_1, nu2_1, (nI qa)), rfl, ⟨.inr (.inr ⟨rfl, _, nuS_2 hle_3 (by omega) (vS_fm hle_3 (by omega) hve_3) (.inr (fun h => hw_8 h)), rfl⟩), by omega, by omega⟩, by rw [ht]; exact hP9, hD9⟩, hS.F ht⟩) hS.2.2 dX8_takeFigures_176
    · have c_4 := (nI_eq (a := t_1) (b := t0) (by omega) (by omega)).mp c_4
      refine lv_aload_n hx hb dX8_takeFigures_107 rfl (lv_at hl 1 rfl) ?_
      refine lv_iconst (v := 1) hx hb dX8_takeFigures_108 (by decide) ?_
      refine lv_iload hx hb dX8_takeFigures_109 (lv_at hl 0 rfl) ?_
      refine rw_i (D := D) (wr := [(aI k (a 5) 240 ftext)]) (va_runV (As := [.int 1, .int (nI t0)]) (rest := []) ⟨hx, hb, hml, hown, hts⟩ ((n_fails l D k st lo a tx t_1 we rd ru rw ca fp wd nu2_1 na ts df db sd 1 (nI t0)) H.size) (cwV 2 hts (gV tw_1151 tw_1153 tw_31 tw_87 tw_1154) rfl rfl rfl (by decide +kernel) ⟨Nat.le_of_ble_eq_true rfl, Nat.le_of_ble_eq_true rfl⟩) (pV hS hAlo hlo hP hK (va_Dlo hD hAlo) hZ [0] (by decide) rfl (ci := 8) (q := (RX8, TX8, 44)) (q0 := 0) rfl rfl) rfl rfl hl.1 rfl (lv_room (Nat.le_of_ble_eq_true rfl)) dX8_takeFigures_111 ⟨Nat.le_of_ble_eq_true rfl, Nat.le_of_ble_eq_true rfl⟩) hS hA hP hD [0] [1] rfl rfl (by decide) (by decide) (fun r_11 u H locs hw_11 hP hD hS => ?_)
      obtain ⟨fp__11, rfl⟩ : ∃ z, z = u := ⟨_, rfl⟩
      have hQ9 := pd_mk [(aI k (a 5) 240 ftext), ((a 0), .inr (8, (fX8 a (nI tx) fp__11 (nI t_1) wd (nI we) nu2_1 na (nI rd) ts (nI ru) (nI rw) (nI ca) df db sd)))] hP hD
      clear hP hD
      obtain ⟨hP, hD⟩ := hQ9
      try dsimp only at hw_11
      obtain ⟨hs0_12, hs1_12⟩ := hw_11
      replace hs0_12 := hs0_12.symm
      subst hs0_12
      replace hs1_12 := hs1_12.symm
      subst hs1_12
      obtain ⟨hP9, hD9⟩ := pd_sub [((a 0), .inr (8, (fX8 a (nI tx) (nI t0) (nI t_1) wd (nI we) nu2_1 na (nI rd) ts (nI ru) (nI rw) (nI ca) df db sd))), (aI k (a 5) 240 ftext)] [1, 0] hP hD (by decide) rfl
      exact W.iret (v := 1) hx hb hr (fun t ht hW => ⟨⟨1, (t_1, nu2_1, (nI t0)), rfl, ⟨.inr (.inl ⟨rfl, _, nuS_1t hle_3 (by omega), congrArg nI (by omega)⟩), by omega, by omega⟩, by rw [ht]; exact hP9, hD9⟩, hS.F ht⟩) hS.2.2 dX8_takeFigures_114
  · have c_2 : ¬ (tx ≤ t_1) := fun h => c_2 ((nI_leI (a := tx) (b := t_1) (by omega) (by omega)).mpr h)
    refine lv_aload_n hx hb dX8_takeFigures_22 rfl (lv_at hl 1 rfl) ?_
    refine va_get (D := D) (ci := 8) (v := .ref (a 5)) (C := RX8) (T := TX8) (N := 44) hx hb hts inX8 hown hK hP 0 rfl rfl 4 (by decide) (hts _ tw_977) (fun _ h9 => h9) rfl dX8_takeFigures_23 ?_
    refine lv_aload_n hx hb dX8_takeFigures_26 rfl (lv_at hl 1 rfl) ?_
    refine va_get (D := D) (ci := 8) (v := .int (nI t_1)) (C := RX8) (T := TX8) (N := 44) hx hb hts inX8 hown hK hP 0 rfl rfl 7 (by decide) (hts _ tw_980) (fun _ h9 => h9) rfl dX8_takeFigures_27 ?_
    refine va_iald hx hb hK hP 1 1 rfl rfl (vp_in_nI (by omega) (by decide)) dX8_takeFigures_30 ?_
    refine lv_ti (y := (ftext t_1)) (by rw [nI_clamp (by omega)]) ?_
    refine lv_i2l (v := (ftext t_1).toInt64) hx hb dX8_takeFigures_31 rfl ?_
    refine lv_ldc2 hx hb hown (hts _ tw_1163) dX8_takeFigures_32 ?_
    refine lv_tl (y := ((48 : Int32).toInt64)) (by decide) ?_
    refine lv_ldc2 hx hb hown (hts _ tw_1164) dX8_takeFigures_35 ?_
    refine lv_tl (y := ((57 : Int32).toInt64)) (by decide) ?_
    refine ro_i (D := D) (va_runS (As := [.long ((ftext t_1).toInt64), .long ((48 : Int32).toInt64), .long ((57 : Int32).toInt64)]) (rest := []) ⟨hx, hb, hml, hown, hts⟩ ((k_in l D k st lo (ftext t_1) (48 : Int32) (57 : Int32)) H.size) (va_cwS 3 hts (gS tw_1111 tw_1112 tw_87 tw_1113) rfl rfl rfl (by decide +kernel) ⟨Nat.le_of_ble_eq_true rfl, Nat.le_of_ble_eq_true rfl⟩) (pS hS hAlo hlo hP hK (va_Dlo hD hAlo) hZ [] (by decide) rfl) rfl rfl hl.1 rfl (lv_room (Nat.le_of_ble_eq_true rfl)) dX8_takeFigures_38 ⟨Nat.le_of_ble_eq_true rfl, Nat.le_of_ble_eq_true rfl⟩) hS hA hP (fun r_13 H locs hw_13 hP hS => ?_)
    try dsimp only at hw_13
    rcases hw_13 with ⟨rfl, hw_13⟩ | ⟨rfl, hw_13⟩
    · refine lv_if_eq (tgt := 98) hx hb dX8_takeFigures_41 (by decide) (fun h => absurd h (by decide)) (fun _ => ?_)
      refine lv_aload_n hx hb dX8_takeFigures_44 rfl (lv_at hl 1 rfl) ?_
      refine lv_aload_n hx hb dX8_takeFigures_45 rfl (lv_at hl 1 rfl) ?_
      refine va_get (D := D) (ci := 8) (v := .int nu2_1) (C := RX8) (T := TX8) (N := 44) hx hb hts inX8 hown hK hP 0 rfl rfl 10 (by decide) (hts _ tw_983) (fun _ h9 => h9) rfl dX8_takeFigures_46 ?_
      refine lv_sipush (v := 10000) hx hb dX8_takeFigures_49 (by decide) ?_
      refine lv_icmp_le (tgt := 62) hx hb dX8_takeFigures_52 (by decide) (fun c_14 => ?_) (fun c_14 => ?_)
      · refine lv_bipush (v := 10) hx hb dX8_takeFigures_62 (by decide) ?_
        refine lv_aload_n hx hb dX8_takeFigures_64 rfl (lv_at hl 1 rfl) ?_
        refine va_get (D := D) (ci := 8) (v := .int nu2_1) (C := RX8) (T := TX8) (N := 44) hx hb hts inX8 hown hK hP 0 rfl rfl 10 (by decide) (hts _ tw_983) (fun _ h9 => h9) rfl dX8_takeFigures_65 ?_
        refine lv_imul hx hb dX8_takeFigures_68 ?_
        refine lv_topi (fun x_15 ex_15 => ?_)
        refine lv_aload_n hx hb dX8_takeFigures_69 rfl (lv_at hl 1 rfl) ?_
        refine va_get (D := D) (ci := 8) (v := .ref (a 5)) (C := RX8) (T := TX8) (N := 44) hx hb hts inX8 hown hK hP 0 rfl rfl 4 (by decide) (hts _ tw_977) (fun _ h9 => h9) rfl dX8_takeFigures_70 ?_
        refine lv_aload_n hx hb dX8_takeFigures_73 rfl (lv_at hl 1 rfl) ?_
        refine va_get (D := D) (ci := 8) (v := .int (nI t_1)) (C := RX8) (T := TX8) (N := 44) hx hb hts inX8 hown hK hP 0 rfl rfl 7 (by decide) (hts _ tw_980) (fun _ h9 => h9) rfl dX8_takeFigures_74 ?_
        refine va_iald hx hb hK hP 1 1 rfl rfl (vp_in_nI (by omega) (by decide)) dX8_takeFigures_77 ?_
        refine lv_ti (y := (ftext t_1)) (by rw [nI_clamp (by omega)]) ?_
        refine lv_iadd hx hb dX8_takeFigures_78 ?_
        refine lv_topi (fun x_16 ex_16 => ?_)
        refine lv_bipush (v := 48) hx hb dX8_takeFigures_79 (by decide) ?_
        refine lv_isub hx hb dX8_takeFigures_81 ?_
        refine lv_topi (fun x_17 ex_17 => ?_)
        refine va_put (D := D) (ci := 8) (v := .int x_17) (ty := .int) (C := RX8) (T := TX8) (N := 44) hx hb hts inX8 tyX8 tyX8_ok nmX8 hown hK hP hD hS 0 rfl rfl 10 (by decide) (hts _ tw_983) (fun _ h9 => h9) rfl (by decide +kernel) rfl rfl (Nat.le_of_ble_eq_true rfl) dX8_takeFigures_82 (fun H locs hP hD hS => ?_)
        have hQ9 := pd_mk [((a 0), .inr (8, (fX8 a (nI tx) fp (nI t_1) wd (nI we) x_17 na (nI rd) ts (nI ru) (nI rw) (nI ca) df db sd))), (aI k (a 5) 240 ftext)] hP hD
        clear hP hD
        obtain ⟨hP, hD⟩ := hQ9
        refine lv_aload_n hx hb dX8_takeFigures_85 rfl (lv_at hl 1 rfl) ?_
        refine lv_dup hx hb dX8_takeFigures_86 rfl ?_
        refine va_get (D := D) (ci := 8) (v := .int (nI t_1)) (C := RX8) (T := TX8) (N := 44) hx hb hts inX8 hown hK hP 0 rfl rfl 7 (by decide) (hts _ tw_980) (fun _ h9 => h9) rfl dX8_takeFigures_87 ?_
        refine lv_iconst (v := 1) hx hb dX8_takeFigures_90 (by decide) ?_
        refine lv_iadd hx hb dX8_takeFigures_91 ?_
        refine lv_ti (y := (nI (t_1 + 1))) (nI_add t_1 1) ?_
        refine va_put (D := D) (ci := 8) (v := .int (nI (t_1 + 1))) (ty := .int) (C := RX8) (T := TX8) (N := 44) hx hb hts inX8 tyX8 tyX8_ok nmX8 hown hK hP hD hS 0 rfl rfl 7 (by decide) (hts _ tw_980) (fun _ h9 => h9) rfl (by decide +kernel) rfl rfl (Nat.le_of_ble_eq_true rfl) dX8_takeFigures_92 (fun H locs hP hD hS => ?_)
        have hQ9 := pd_mk [((a 0), .inr (8, (fX8 a (nI tx) fp (nI (t_1 + 1)) wd (nI we) x_17 na (nI rd) ts (nI ru) (nI rw) (nI ca) df db sd))), (aI k (a 5) 240 ftext)] hP hD
        clear hP hD
        obtain ⟨hP, hD⟩ := hQ9
        refine lv_goto (tgt := 11) hx hb dX8_takeFigures_95 (by decide) ?_
        have hst_18 := fg_step (by omega) hw_13 hv_1.2.2.1 hv_1.2.2.2
        exact ih_1 _ (t_1 + 1, x_17) _ _ _ (by omega) ⟨rfl, ⟨by omega, by omega, hst_18.1, (by rw [ex_17, ex_16, ex_15]; exact hst_18.2.2 c_14)⟩, hP, hD, hS, (lv_sub hl [0, 1, 2, 3, 4, 5] rfl)⟩
      · refine lv_aload_n hx hb dX8_takeFigures_55 rfl (lv_at hl 1 rfl) ?_
        refine va_get (D := D) (ci := 8) (v := .int nu2_1) (C := RX8) (T := TX8) (N := 44) hx hb hts inX8 hown hK hP 0 rfl rfl 10 (by decide) (hts _ tw_983) (fun _ h9 => h9) rfl dX8_takeFigures_56 ?_
        refine lv_goto (tgt := 82) hx hb dX8_takeFigures_59 (by decide) ?_
        refine va_put (D := D) (ci := 8) (v := .int nu2_1) (ty := .int) (C := RX8) (T := TX8) (N := 44) hx hb hts inX8 tyX8 tyX8_ok nmX8 hown hK hP hD hS 0 rfl rfl 10 (by decide) (hts _ tw_983) (fun _ h9 => h9) rfl (by decide +kernel) rfl rfl (Nat.le_of_ble_eq_true rfl) dX8_takeFigures_82 (fun H locs hP hD hS => ?_)
        have hQ9 := pd_mk [((a 0), .inr (8, (fX8 a (nI tx) fp (nI t_1) wd (nI we) nu2_1 na (nI rd) ts (nI ru) (nI rw) (nI ca) df db sd))), (aI k (a 5) 240 ftext)] hP hD
        clear hP hD
        obtain ⟨hP, hD⟩ := hQ9
        refine lv_aload_n hx hb dX8_takeFigures_85 rfl (lv_at hl 1 rfl) ?_
        refine lv_dup hx hb dX8_takeFigures_86 rfl ?_
        refine va_get (D := D) (ci := 8) (v := .int (nI t_1)) (C := RX8) (T := TX8) (N := 44) hx hb hts inX8 hown hK hP 0 rfl rfl 7 (by decide) (hts _ tw_980) (fun _ h9 => h9) rfl dX8_takeFigures_87 ?_
        refine lv_iconst (v := 1) hx hb dX8_takeFigures_90 (by decide) ?_
        refine lv_iadd hx hb dX8_takeFigures_91 ?_
        refine lv_ti (y := (nI (t_1 + 1))) (nI_add t_1 1) ?_
        refine va_put (D := D) (ci := 8) (v := .int (nI (t_1 + 1))) (ty := .int) (C := RX8) (T := TX8) (N := 44) hx hb hts inX8 tyX8 tyX8_ok nmX8 hown hK hP hD hS 0 rfl rfl 7 (by decide) (hts _ tw_980) (fun _ h9 => h9) rfl (by decide +kernel) rfl rfl (Nat.le_of_ble_eq_true rfl) dX8_takeFigures_92 (fun H locs hP hD hS => ?_)
        have hQ9 := pd_mk [((a 0), .inr (8, (fX8 a (nI tx) fp (nI (t_1 + 1)) wd (nI we) nu2_1 na (nI rd) ts (nI ru) (nI rw) (nI ca) df db sd))), (aI k (a 5) 240 ftext)] hP hD
        clear hP hD
        obtain ⟨hP, hD⟩ := hQ9
        refine lv_goto (tgt := 11) hx hb dX8_takeFigures_95 (by decide) ?_
        have hst_19 := fg_step (by omega) hw_13 hv_1.2.2.1 hv_1.2.2.2
        exact ih_1 _ (t_1 + 1, nu2_1) _ _ _ (by omega) ⟨rfl, ⟨by omega, by omega, hst_19.1, hst_19.2.1 c_14⟩, hP, hD, hS, (lv_sub hl [0, 1, 2, 3, 4, 5] rfl)⟩
    · refine lv_if_eq (tgt := 98) hx hb dX8_takeFigures_41 (by decide) (fun _ => ?_) (fun h => absurd (by decide) h)
      obtain ⟨hle_20, hve_20⟩ := fg_out (figA_no hw_13) hv_1.2.2.1 hv_1.2.2.2
      refine lv_aload_n hx hb dX8_takeFigures_98 rfl (lv_at hl 1 rfl) ?_
      refine va_get (D := D) (ci := 8) (v := .int (nI t_1)) (C := RX8) (T := TX8) (N := 44) hx hb hts inX8 hown hK hP 0 rfl rfl 7 (by decide) (hts _ tw_980) (fun _ h9 => h9) rfl dX8_takeFigures_99 ?_
      refine lv_iload hx hb dX8_takeFigures_102 (lv_at hl 0 rfl) ?_
      refine lv_icmp_ne (tgt := 115) hx hb dX8_takeFigures_104 (by decide) (fun c_21 => ?_) (fun c_21 => ?_)
      · have c_21 : ¬ (t_1 = t0) := fun h => c_21 ((nI_eq (a := t_1) (b := t0) (by omega) (by omega)).mpr h)
        refine lv_aload_n hx hb dX8_takeFigures_115 rfl (lv_at hl 1 rfl) ?_
        refine va_get (D := D) (ci := 8) (v := .int (nI t_1)) (C := RX8) (T := TX8) (N := 44) hx hb hts inX8 hown hK hP 0 rfl rfl 7 (by decide) (hts _ tw_980) (fun _ h9 => h9) rfl dX8_takeFigures_116 ?_
        refine lv_iload hx hb dX8_takeFigures_119 (lv_at hl 0 rfl) ?_
        refine lv_isub hx hb dX8_takeFigures_121 ?_
        refine lv_ti (y := (nI (t_1 - t0))) (pk_sub (a := t_1) (b := t0) (by omega)) ?_
        refine lv_istore (lv' := [(6, .int (nI (t_1 - t0))), (5, .int (nI t0)), (0, .ref (a 0)), (1, .int (nI qa)), (2, .int p1), (3, .int p2), (4, .int 0)]) hx hb dX8_takeFigures_122 hl (by decide) rfl (fun ls hl => ?_)
        refine lv_aload_n hx hb dX8_takeFigures_124 rfl (lv_at hl 2 rfl) ?_
        refine lv_iload hx hb dX8_takeFigures_125 (lv_at hl 6 rfl) ?_
        refine lv_if_eq (tgt := 138) hx hb dX8_takeFigures_127 (by decide) (fun _ => ?_) (fun h => absurd (by decide) h)
        refine lv_aload_n hx hb dX8_takeFigures_138 rfl (lv_at hl 2 rfl) ?_
        refine va_get (D := D) (ci := 8) (v := .int nu2_1) (C := RX8) (T := TX8) (N := 44) hx hb hts inX8 hown hK hP 0 rfl rfl 10 (by decide) (hts _ tw_983) (fun _ h9 => h9) rfl dX8_takeFigures_139 ?_
        refine va_put (D := D) (ci := 8) (v := .int nu2_1) (ty := .int) (C := RX8) (T := TX8) (N := 44) hx hb hts inX8 tyX8 tyX8_ok nmX8 hown hK hP hD hS 0 rfl rfl 10 (by decide) (hts _ tw_983) (fun _ h9 => h9) rfl (by decide +kernel) rfl rfl (Nat.le_of_ble_eq_true rfl) dX8_takeFigures_142 (fun H locs hP hD hS => ?_)
        have hQ9 := pd_mk [((a 0), .inr (8, (fX8 a (nI tx) fp (nI t_1) wd (nI we) nu2_1 na (nI rd) ts (nI ru) (nI rw) (nI ca) df db sd))), (aI k (a 5) 240 ftext)] hP hD
        clear hP hD
        obtain ⟨hP, hD⟩ := hQ9
        refine lv_iload hx hb dX8_takeFigures_145 (lv_at hl 0 rfl) ?_
        refine lv_iconst (v := 3) hx hb dX8_takeFigures_147 (by decide) ?_
        refine lv_icmp_gt (tgt := 166) hx hb dX8_takeFigures_148 (by decide) (fun c_22 => ?_) (fun c_22 => ?_)
        · have c_22 := (nI_ltI (a := 3) (b := (t_1 - t0)) (by omega) (by omega)).mp c_22
          refine lv_aload_n hx hb dX8_takeFigures_166 rfl (lv_at hl 2 rfl) ?_
          refine lv_iconst (v := 2) hx hb dX8_takeFigures_167 (by decide) ?_
          refine lv_iload_n hx hb dX8_takeFigures_168 rfl (lv_at hl 3 rfl) ?_
          refine rw_i (D := D) (wr := [(aI k (a 5) 240 ftext)]) (va_runV (As := [.int 2, .int (nI qa)]) (rest := []) ⟨hx, hb, hml, hown, hts⟩ ((n_fails l D k st lo a tx t_1 we rd ru rw ca fp wd nu2_1 na ts df db sd 2 (nI qa)) H.size) (cwV 2 hts (gV tw_1151 tw_1153 tw_31 tw_87 tw_1154) rfl rfl rfl (by decide +kernel) ⟨Nat.le_of_ble_eq_true rfl, Nat.le_of_ble_eq_true rfl⟩) (pV hS hAlo hlo hP hK (va_Dlo hD hAlo) hZ [0] (by decide) rfl (ci := 8) (q := (RX8, TX8, 44)) (q0 := 0) rfl rfl) rfl rfl hl.1 rfl (lv_room (Nat.le_of_ble_eq_true rfl)) dX8_takeFigures_169 ⟨Nat.le_of_ble_eq_true rfl, Nat.le_of_ble_eq_true rfl⟩) hS hA hP hD [0] [1] rfl rfl (by decide) (by decide) (fun r_23 u H locs hw_23 hP hD hS => ?_)
          obtain ⟨fp__23, rfl⟩ : ∃ z, z = u := ⟨_, rfl⟩
          have hQ9 := pd_mk [(aI k (a 5) 240 ftext), ((a 0), .inr (8, (fX8 a (nI tx) fp__23 (nI t_1) wd (nI we) nu2_1 na (nI rd) ts (nI ru) (nI rw) (nI ca) df db sd)))] hP hD
          clear hP hD
          obtain ⟨hP, hD⟩ := hQ9
          try dsimp only at hw_23
          obtain ⟨hs0_24, hs1_24⟩ := hw_23
          replace hs0_24 := hs0_24.symm
          subst hs0_24
          replace hs1_24 := hs1_24.symm
          subst hs1_24
          refine lv_goto (tgt := 176) hx hb dX8_takeFigures_172 (by decide) ?_
          obtain ⟨hP9, hD9⟩ := pd_sub [((a 0), .inr (8, (fX8 a (nI tx) (nI qa) (nI t_1) wd (nI we) nu2_1 na (nI rd) ts (nI ru) (nI rw) (nI ca) df db sd))), (aI k (a 5) 240 ftext)] [1, 0] hP hD (by decide) rfl
          exact W.iret (v := 2) hx hb hr (fun t ht hW => ⟨⟨2, (t_1, nu2_1, (nI qa)), rfl, ⟨.inr (.inr ⟨rfl, _, nuS_2 hle_20 (by omega) rfl (.inl (by omega)), rfl⟩), by omega, by omega⟩, by rw [ht]; exact hP9, hD9⟩, hS.F ht⟩) hS.2.2 dX8_takeFigures_176
        · have c_22 : ¬ (3 < (t_1 - t0)) := fun h => c_22 ((nI_ltI (a := 3) (b := (t_1 - t0)) (by omega) (by omega)).mpr h)
          refine lv_aload_n hx hb dX8_takeFigures_151 rfl (lv_at hl 2 rfl) ?_
          refine va_get (D := D) (ci := 8) (v := .int nu2_1) (C := RX8) (T := TX8) (N := 44) hx hb hts inX8 hown hK hP 0 rfl rfl 10 (by decide) (hts _ tw_983) (fun _ h9 => h9) rfl dX8_takeFigures_152 ?_
          refine lv_i2l (v := nu2_1.toInt64) hx hb dX8_takeFigures_155 rfl ?_
          refine lv_iload_n hx hb dX8_takeFigures_156 rfl (lv_at hl 4 rfl) ?_
          refine lv_i2l (v := p1.toInt64) hx hb dX8_takeFigures_157 rfl ?_
          refine lv_iload_n hx hb dX8_takeFigures_158 rfl (lv_at hl 5 rfl) ?_
          refine lv_i2l (v := p2.toInt64) hx hb dX8_takeFigures_159 rfl ?_
          refine ro_i (D := D) (va_runS (As := [.long (nu2_1.toInt64), .long (p1.toInt64), .long (p2.toInt64)]) (rest := []) ⟨hx, hb, hml, hown, hts⟩ ((k_in l D k st lo nu2_1 p1 p2) H.size) (va_cwS 3 hts (gS tw_1111 tw_1112 tw_87 tw_1113) rfl rfl rfl (by decide +kernel) ⟨Nat.le_of_ble_eq_true rfl, Nat.le_of_ble_eq_true rfl⟩) (pS hS hAlo hlo hP hK (va_Dlo hD hAlo) hZ [] (by decide) rfl) rfl rfl hl.1 rfl (lv_room (Nat.le_of_ble_eq_true rfl)) dX8_takeFigures_160 ⟨Nat.le_of_ble_eq_true rfl, Nat.le_of_ble_eq_true rfl⟩) hS hA hP (fun r_25 H locs hw_25 hP hS => ?_)
          try dsimp only at hw_25
          rcases hw_25 with ⟨rfl, hw_25⟩ | ⟨rfl, hw_25⟩
          · refine lv_if_ne (tgt := 175) hx hb dX8_takeFigures_163 (by decide) (fun _ => ?_) (fun h => absurd h (by decide))
            refine lv_iconst (v := 0) hx hb dX8_takeFigures_175 (by decide) ?_
            obtain ⟨hP9, hD9⟩ := pd_sub [((a 0), .inr (8, (fX8 a (nI tx) fp (nI t_1) wd (nI we) nu2_1 na (nI rd) ts (nI ru) (nI rw) (nI ca) df db sd))), (aI k (a 5) 240 ftext)] [0, 1] hP hD (by decide) rfl
            exact W.iret (v := 0) hx hb hr (fun t ht hW => ⟨⟨0, (t_1, nu2_1, fp), rfl, ⟨.inl ⟨rfl, nuS_0 hle_20 (by omega) (vS_fm hle_20 (by omega) hve_20) (by omega) hw_25, rfl⟩, by omega, by omega⟩, by rw [ht]; exact hP9, hD9⟩, hS.F ht⟩) hS.2.2 dX8_takeFigures_176
          · refine lv_if_ne (tgt := 175) hx hb dX8_takeFigures_163 (by decide) (fun h => absurd (by decide) h) (fun _ => ?_)
            refine lv_aload_n hx hb dX8_takeFigures_166 rfl (lv_at hl 2 rfl) ?_
            refine lv_iconst (v := 2) hx hb dX8_takeFigures_167 (by decide) ?_
            refine lv_iload_n hx hb dX8_takeFigures_168 rfl (lv_at hl 3 rfl) ?_
            refine rw_i (D := D) (wr := [(aI k (a 5) 240 ftext)]) (va_runV (As := [.int 2, .int (nI qa)]) (rest := []) ⟨hx, hb, hml, hown, hts⟩ ((n_fails l D k st lo a tx t_1 we rd ru rw ca fp wd nu2_1 na ts df db sd 2 (nI qa)) H.size) (cwV 2 hts (gV tw_1151 tw_1153 tw_31 tw_87 tw_1154) rfl rfl rfl (by decide +kernel) ⟨Nat.le_of_ble_eq_true rfl, Nat.le_of_ble_eq_true rfl⟩) (pV hS hAlo hlo hP hK (va_Dlo hD hAlo) hZ [0] (by decide) rfl (ci := 8) (q := (RX8, TX8, 44)) (q0 := 0) rfl rfl) rfl rfl hl.1 rfl (lv_room (Nat.le_of_ble_eq_true rfl)) dX8_takeFigures_169 ⟨Nat.le_of_ble_eq_true rfl, Nat.le_of_ble_eq_true rfl⟩) hS hA hP hD [0] [1] rfl rfl (by decide) (by decide) (fun r_26 u H locs hw_26 hP hD hS => ?_)
            obtain ⟨fp__26, rfl⟩ : ∃ z, z = u := ⟨_, rfl⟩
            have hQ9 := pd_mk [(aI k (a 5) 240 ftext), ((a 0), .inr (8, (fX8 a (nI tx) fp__26 (nI t_1) wd (nI we) nu2_1 na (nI rd) ts (nI ru) (nI rw) (nI ca) df db sd)))] hP hD
            clear hP hD
            obtain ⟨hP, hD⟩ := hQ9
            try dsimp only at hw_26
            obtain ⟨hs0_27, hs1_27⟩ := hw_26
            replace hs0_27 := hs0_27.symm
            subst hs0_27
            replace hs1_27 := hs1_27.symm
            subst hs1_27
            refine lv_goto (tgt := 176) hx hb dX8_takeFigures_172 (by decide) ?_
            obtain ⟨hP9, hD9⟩ := pd_sub [((a 0), .inr (8, (fX8 a (nI tx) (nI qa) (nI t_1) wd (nI we) nu2_1 na (nI rd) ts (nI ru) (nI rw) (nI ca) df db sd))), (aI k (a 5) 240 ftext)] [1, 0] hP hD (by decide) rfl
            exact W.iret (v := 2) hx hb hr (fun t ht hW => ⟨⟨2, (t_1, nu2_1, (nI qa)), rfl, ⟨.inr (.inr ⟨rfl, _, nuS_2 hle_20 (by omega) (vS_fm hle_20 (by omega) hve_20) (.inr (fun h => hw_25 h)), rfl⟩), by omega, by omega⟩, by rw [ht]; exact hP9, hD9⟩, hS.F ht⟩) hS.2.2 dX8_takeFigures_176
      · have c_21 := (nI_eq (a := t_1) (b := t0) (by omega) (by omega)).mp c_21
        refine lv_aload_n hx hb dX8_takeFigures_107 rfl (lv_at hl 1 rfl) ?_
        refine lv_iconst (v := 1) hx hb dX8_takeFigures_108 (by decide) ?_
        refine lv_iload hx hb dX8_takeFigures_109 (lv_at hl 0 rfl) ?_
        refine rw_i (D := D) (wr := [(aI k (a 5) 240 ftext)]) (va_runV (As := [.int 1, .int (nI t0)]) (rest := []) ⟨hx, hb, hml, hown, hts⟩ ((n_fails l D k st lo a tx t_1 we rd ru rw ca fp wd nu2_1 na ts df db sd 1 (nI t0)) H.size) (cwV 2 hts (gV tw_1151 tw_1153 tw_31 tw_87 tw_1154) rfl rfl rfl (by decide +kernel) ⟨Nat.le_of_ble_eq_true rfl, Nat.le_of_ble_eq_true rfl⟩) (pV hS hAlo hlo hP hK (va_Dlo hD hAlo) hZ [0] (by decide) rfl (ci := 8) (q := (RX8, TX8, 44)) (q0 := 0) rfl rfl) rfl rfl hl.1 rfl (lv_room (Nat.le_of_ble_eq_true rfl)) dX8_takeFigures_111 ⟨Nat.le_of_ble_eq_true rfl, Nat.le_of_ble_eq_true rfl⟩) hS hA hP hD [0] [1] rfl rfl (by decide) (by decide) (fun r_28 u H locs hw_28 hP hD hS => ?_)
        obtain ⟨fp__28, rfl⟩ : ∃ z, z = u := ⟨_, rfl⟩
        have hQ9 := pd_mk [(aI k (a 5) 240 ftext), ((a 0), .inr (8, (fX8 a (nI tx) fp__28 (nI t_1) wd (nI we) nu2_1 na (nI rd) ts (nI ru) (nI rw) (nI ca) df db sd)))] hP hD
        clear hP hD
        obtain ⟨hP, hD⟩ := hQ9
        try dsimp only at hw_28
        obtain ⟨hs0_29, hs1_29⟩ := hw_28
        replace hs0_29 := hs0_29.symm
        subst hs0_29
        replace hs1_29 := hs1_29.symm
        subst hs1_29
        obtain ⟨hP9, hD9⟩ := pd_sub [((a 0), .inr (8, (fX8 a (nI tx) (nI t0) (nI t_1) wd (nI we) nu2_1 na (nI rd) ts (nI ru) (nI rw) (nI ca) df db sd))), (aI k (a 5) 240 ftext)] [1, 0] hP hD (by decide) rfl
        exact W.iret (v := 1) hx hb hr (fun t ht hW => ⟨⟨1, (t_1, nu2_1, (nI t0)), rfl, ⟨.inr (.inl ⟨rfl, _, nuS_1t hle_20 (by omega), congrArg nI (by omega)⟩), by omega, by omega⟩, by rw [ht]; exact hP9, hD9⟩, hS.F ht⟩) hS.2.2 dX8_takeFigures_114


set_option maxHeartbeats 4000000 in
set_option maxRecDepth 100000 in
theorem n_takeFigures_1 (l : Launch) (D : va_G) (k : Nat → ClassId) (st : Nat → Nat) (lo : Nat) (a : Nat → Nat) (tx : Nat) (t0 : Nat) (we : Nat) (rd : Nat) (ru : Nat) (rw : Nat) (ca : Nat) (fp : Int32) (wd : Int64) (nu : Int32) (na : Int32) (ts : Int32) (df : Int32) (db : Int32) (sd : Int32) (ftext : Nat → Int32) (qa : Nat) (p1 : Int32) (p2 : Int32) (ht : t0 ≤ tx) (htx : tx ≤ 240) : CWi l D k st lo yX8_takeFigures cX8_takeFigures 7 (some .int) ({ frames := 1, cells := 0, slots := 0, locals := 25 }) 0 0 [.ref (a 0), .int (nI qa), .int p1, .int p2, .int 1] [((a 0), .inr (8, (fX8 a (nI tx) fp (nI t0) wd (nI we) nu na (nI rd) ts (nI ru) (nI rw) (nI ca) df db sd))), (aI k (a 5) 240 ftext)] (fun (r : Int32) (u : Nat × Int32 × Int32) => match u with | (t0_, nu_, fp_) => ((r = 0 ∧ nuS ftext tx true p1 p2 qa t0 = (0, 0, t0_, nu_, qa) ∧ fp_ = fp) ∨ (r = 1 ∧ ∃ pl : Nat, nuS ftext tx true p1 p2 qa t0 = (1, pl, t0_, 0, qa) ∧ fp_ = nI pl) ∨ (r = 2 ∧ ∃ pl : Nat, nuS ftext tx true p1 p2 qa t0 = (2, pl, t0_, 0, qa) ∧ fp_ = nI pl)) ∧ t0 ≤ t0_ ∧ t0_ ≤ tx) (fun (u : Nat × Int32 × Int32) => match u with | (t0_, nu_, fp_) => [((a 0), .inr (8, (fX8 a (nI tx) fp_ (nI t0_) wd (nI we) nu_ na (nI rd) ts (nI ru) (nI rw) (nI ca) df db sd))), (aI k (a 5) 240 ftext)]) := by
  intro sz
  refine Met.ofW (cc := cX8_takeFigures) (maxL := 7) (ret := (some .int)) (by decide) rfl ?_
  intro p e s m args below meth c s₁ B hml hv
  obtain ⟨rfl, hsz, hlo, hP, hK, hDL, hZ⟩ := hv
  have hx := B.exec
  have hb := B.bytes
  have hr := B.returns
  have hts := WS_ts B.pre
  have hown : s.vm.findClass RX8 = some m.cls := findClass_of_methodNamed B.named
  have hlocks := B.notSynchronized
  subst hsz
  have hD := hDL.self (sz := s.heap.size)
  have hAlo := A_lo hDL hlo
  generalize hAe : va_A [((a 0), .inr (8, (fX8 a (nI tx) fp (nI t0) wd (nI we) nu na (nI rd) ts (nI ru) (nI rw) (nI ca) df db sd))), (aI k (a 5) 240 ftext)] s.heap.size = A at hD hAlo ⊢
  have hA : ∀ q : Nat, s.heap.size ≤ q → A q := fun q h => by rw [← hAe]; exact Or.inr h
  have hS : va_S A s.heap s.heap [] := va_S.rf
  have hl := lv_entry ([.ref (a 0), .int (nI qa), .int p1, .int p2, .int 1]) (n := 7) (Nat.le_of_ble_eq_true rfl)
  rw [lg_entry_eq]
  generalize (lg_sl ([.ref (a 0), .int (nI qa), .int p1, .int p2, .int 1]) ++ List.replicate (7 - (lg_sl ([.ref (a 0), .int (nI qa), .int p1, .int p2, .int 1])).length) Slot.unset).toArray = ls at hl ⊢
  have hl : lv_has ls 7 [(0, .ref (a 0)), (1, .int (nI qa)), (2, .int p1), (3, .int p2), (4, .int 1)] := hl
  refine lv_aload_n hx hb dX8_takeFigures_0 rfl (lv_at hl 0 rfl) ?_
  refine va_get (D := D) (ci := 8) (v := .int (nI t0)) (C := RX8) (T := TX8) (N := 44) hx hb hts inX8 hown hK hP 0 rfl rfl 7 (by decide) (hts _ tw_980) (fun _ h9 => h9) rfl dX8_takeFigures_1 ?_
  refine lv_istore (lv' := [(5, .int (nI t0)), (0, .ref (a 0)), (1, .int (nI qa)), (2, .int p1), (3, .int p2), (4, .int 1)]) hx hb dX8_takeFigures_4 hl (by decide) rfl (fun ls hl => ?_)
  refine lv_aload_n hx hb dX8_takeFigures_6 rfl (lv_at hl 1 rfl) ?_
  refine lv_iconst (v := 0) hx hb dX8_takeFigures_7 (by decide) ?_
  refine va_put (D := D) (ci := 8) (v := .int 0) (ty := .int) (C := RX8) (T := TX8) (N := 44) hx hb hts inX8 tyX8 tyX8_ok nmX8 hown hK hP hD hS 0 rfl rfl 10 (by decide) (hts _ tw_983) (fun _ h9 => h9) rfl (by decide +kernel) rfl rfl (Nat.le_of_ble_eq_true rfl) dX8_takeFigures_8 (fun H locs hP hD hS => ?_)
  have hQ9 := pd_mk [((a 0), .inr (8, (fX8 a (nI tx) fp (nI t0) wd (nI we) 0 na (nI rd) ts (nI ru) (nI rw) (nI ca) df db sd))), (aI k (a 5) 240 ftext)] hP hD
  clear hP hD
  obtain ⟨hP, hD⟩ := hQ9
  refine W_loop (σ := Nat × Int32) (fun (n_ : Nat) (x_ : Nat × Int32) (H : Heap) (locs : List Loc) (ls : Array Slot) => match x_ with | (t_1, nu2_1) => n_ = tx - t_1 ∧ (t0 ≤ t_1 ∧ t_1 ≤ tx ∧ t_1 + (figA ftext tx t_1).length = t0 + (figA ftext tx t0).length ∧ (figA ftext tx t_1).foldl stN nu2_1 = vM (figA ftext tx t0)) ∧ va_P D classes [((a 0), .inr (8, (fX8 a (nI tx) fp (nI t_1) wd (nI we) nu2_1 na (nI rd) ts (nI ru) (nI rw) (nI ca) df db sd))), (aI k (a 5) 240 ftext)] H ∧ va_D A [((a 0), .inr (8, (fX8 a (nI tx) fp (nI t_1) wd (nI we) nu2_1 na (nI rd) ts (nI ru) (nI rw) (nI ca) df db sd))), (aI k (a 5) 240 ftext)] ∧ va_S A s.heap H locs ∧ lv_has ls 7 [(5, .int (nI t0)), (0, .ref (a 0)), (1, .int (nI qa)), (2, .int p1), (3, .int p2), (4, .int 1)]) (fun n_1 x_1 H locs ls hI ih_1 => ?_) _ (t0, 0) ⟨rfl, ⟨by omega, by omega, rfl, rfl⟩, hP, hD, hS, (lv_sub hl [0, 1, 2, 3, 4, 5] rfl)⟩
  obtain ⟨t_1, nu2_1⟩ := x_1
  obtain ⟨hm_1, hv_1, hP, hD, hS, hl⟩ := hI
  subst hm_1
  refine lv_aload_n hx hb dX8_takeFigures_11 rfl (lv_at hl 1 rfl) ?_
  refine va_get (D := D) (ci := 8) (v := .int (nI t_1)) (C := RX8) (T := TX8) (N := 44) hx hb hts inX8 hown hK hP 0 rfl rfl 7 (by decide) (hts _ tw_980) (fun _ h9 => h9) rfl dX8_takeFigures_12 ?_
  refine lv_aload_n hx hb dX8_takeFigures_15 rfl (lv_at hl 1 rfl) ?_
  refine va_get (D := D) (ci := 8) (v := .int (nI tx)) (C := RX8) (T := TX8) (N := 44) hx hb hts inX8 hown hK hP 0 rfl rfl 5 (by decide) (hts _ tw_978) (fun _ h9 => h9) rfl dX8_takeFigures_16 ?_
  refine lv_icmp_ge (tgt := 98) hx hb dX8_takeFigures_19 (by decide) (fun c_2 => ?_) (fun c_2 => ?_)
  · have c_2 := (nI_leI (a := tx) (b := t_1) (by omega) (by omega)).mp c_2
    obtain ⟨hle_3, hve_3⟩ := fg_out (figA_end (by omega)) hv_1.2.2.1 hv_1.2.2.2
    refine lv_aload_n hx hb dX8_takeFigures_98 rfl (lv_at hl 1 rfl) ?_
    refine va_get (D := D) (ci := 8) (v := .int (nI t_1)) (C := RX8) (T := TX8) (N := 44) hx hb hts inX8 hown hK hP 0 rfl rfl 7 (by decide) (hts _ tw_980) (fun _ h9 => h9) rfl dX8_takeFigures_99 ?_
    refine lv_iload hx hb dX8_takeFigures_102 (lv_at hl 0 rfl) ?_
    refine lv_icmp_ne (tgt := 115) hx hb dX8_takeFigures_104 (by decide) (fun c_4 => ?_) (fun c_4 => ?_)
    · have c_4 : ¬ (t_1 = t0) := fun h => c_4 ((nI_eq (a := t_1) (b := t0) (by omega) (by omega)).mpr h)
      refine lv_aload_n hx hb dX8_takeFigures_115 rfl (lv_at hl 1 rfl) ?_
      refine va_get (D := D) (ci := 8) (v := .int (nI t_1)) (C := RX8) (T := TX8) (N := 44) hx hb hts inX8 hown hK hP 0 rfl rfl 7 (by decide) (hts _ tw_980) (fun _ h9 => h9) rfl dX8_takeFigures_116 ?_
      refine lv_iload hx hb dX8_takeFigures_119 (lv_at hl 0 rfl) ?_
      refine lv_isub hx hb dX8_takeFigures_121 ?_
      refine lv_ti (y := (nI (t_1 - t0))) (pk_sub (a := t_1) (b := t0) (by omega)) ?_
      refine lv_istore (lv' := [(6, .int (nI (t_1 - t0))), (5, .int (nI t0)), (0, .ref (a 0)), (1, .int (nI qa)), (2, .int p1), (3, .int p2), (4, .int 1)]) hx hb dX8_takeFigures_122 hl (by decide) rfl (fun ls hl => ?_)
      refine lv_aload_n hx hb dX8_takeFigures_124 rfl (lv_at hl 2 rfl) ?_
      refine lv_iload hx hb dX8_takeFigures_125 (lv_at hl 6 rfl) ?_
      refine lv_if_eq (tgt := 138) hx hb dX8_takeFigures_127 (by decide) (fun h => absurd h (by decide)) (fun _ => ?_)
      refine lv_aload_n hx hb dX8_takeFigures_130 rfl (lv_at hl 2 rfl) ?_
      refine va_get (D := D) (ci := 8) (v := .int nu2_1) (C := RX8) (T := TX8) (N := 44) hx hb hts inX8 hown hK hP 0 rfl rfl 10 (by decide) (hts _ tw_983) (fun _ h9 => h9) rfl dX8_takeFigures_131 ?_
      refine lv_ineg hx hb dX8_takeFigures_134 ?_
      refine lv_topi (fun x_5 ex_5 => ?_)
      refine lv_goto (tgt := 142) hx hb dX8_takeFigures_135 (by decide) ?_
      refine va_put (D := D) (ci := 8) (v := .int x_5) (ty := .int) (C := RX8) (T := TX8) (N := 44) hx hb hts inX8 tyX8 tyX8_ok nmX8 hown hK hP hD hS 0 rfl rfl 10 (by decide) (hts _ tw_983) (fun _ h9 => h9) rfl (by decide +kernel) rfl rfl (Nat.le_of_ble_eq_true rfl) dX8_takeFigures_142 (fun H locs hP hD hS => ?_)
      have hQ9 := pd_mk [((a 0), .inr (8, (fX8 a (nI tx) fp (nI t_1) wd (nI we) x_5 na (nI rd) ts (nI ru) (nI rw) (nI ca) df db sd))), (aI k (a 5) 240 ftext)] hP hD
      clear hP hD
      obtain ⟨hP, hD⟩ := hQ9
      refine lv_iload hx hb dX8_takeFigures_145 (lv_at hl 0 rfl) ?_
      refine lv_iconst (v := 3) hx hb dX8_takeFigures_147 (by decide) ?_
      refine lv_icmp_gt (tgt := 166) hx hb dX8_takeFigures_148 (by decide) (fun c_6 => ?_) (fun c_6 => ?_)
      · have c_6 := (nI_ltI (a := 3) (b := (t_1 - t0)) (by omega) (by omega)).mp c_6
        refine lv_aload_n hx hb dX8_takeFigures_166 rfl (lv_at hl 2 rfl) ?_
        refine lv_iconst (v := 2) hx hb dX8_takeFigures_167 (by decide) ?_
        refine lv_iload_n hx hb dX8_takeFigures_168 rfl (lv_at hl 3 rfl) ?_
        refine rw_i (D := D) (wr := [(aI k (a 5) 240 ftext)]) (va_runV (As := [.int 2, .int (nI qa)]) (rest := []) ⟨hx, hb, hml, hown, hts⟩ ((n_fails l D k st lo a tx t_1 we rd ru rw ca fp wd x_5 na ts df db sd 2 (nI qa)) H.size) (cwV 2 hts (gV tw_1151 tw_1153 tw_31 tw_87 tw_1154) rfl rfl rfl (by decide +kernel) ⟨Nat.le_of_ble_eq_true rfl, Nat.le_of_ble_eq_true rfl⟩) (pV hS hAlo hlo hP hK (va_Dlo hD hAlo) hZ [0] (by decide) rfl (ci := 8) (q := (RX8, TX8, 44)) (q0 := 0) rfl rfl) rfl rfl hl.1 rfl (lv_room (Nat.le_of_ble_eq_true rfl)) dX8_takeFigures_169 ⟨Nat.le_of_ble_eq_true rfl, Nat.le_of_ble_eq_true rfl⟩) hS hA hP hD [0] [1] rfl rfl (by decide) (by decide) (fun r_7 u H locs hw_7 hP hD hS => ?_)
        obtain ⟨fp__7, rfl⟩ : ∃ z, z = u := ⟨_, rfl⟩
        have hQ9 := pd_mk [(aI k (a 5) 240 ftext), ((a 0), .inr (8, (fX8 a (nI tx) fp__7 (nI t_1) wd (nI we) x_5 na (nI rd) ts (nI ru) (nI rw) (nI ca) df db sd)))] hP hD
        clear hP hD
        obtain ⟨hP, hD⟩ := hQ9
        try dsimp only at hw_7
        obtain ⟨hs0_8, hs1_8⟩ := hw_7
        replace hs0_8 := hs0_8.symm
        subst hs0_8
        replace hs1_8 := hs1_8.symm
        subst hs1_8
        refine lv_goto (tgt := 176) hx hb dX8_takeFigures_172 (by decide) ?_
        obtain ⟨hP9, hD9⟩ := pd_sub [((a 0), .inr (8, (fX8 a (nI tx) (nI qa) (nI t_1) wd (nI we) x_5 na (nI rd) ts (nI ru) (nI rw) (nI ca) df db sd))), (aI k (a 5) 240 ftext)] [1, 0] hP hD (by decide) rfl
        exact W.iret (v := 2) hx hb hr (fun t ht hW => ⟨⟨2, (t_1, x_5, (nI qa)), rfl, ⟨.inr (.inr ⟨rfl, _, nuS_2 hle_3 (by omega) rfl (.inl (by omega)), rfl⟩), by omega, by omega⟩, by rw [ht]; exact hP9, hD9⟩, hS.F ht⟩) hS.2.2 dX8_takeFigures_176
      · have c_6 : ¬ (3 < (t_1 - t0)) := fun h => c_6 ((nI_ltI (a := 3) (b := (t_1 - t0)) (by omega) (by omega)).mpr h)
        refine lv_aload_n hx hb dX8_takeFigures_151 rfl (lv_at hl 2 rfl) ?_
        refine va_get (D := D) (ci := 8) (v := .int x_5) (C := RX8) (T := TX8) (N := 44) hx hb hts inX8 hown hK hP 0 rfl rfl 10 (by decide) (hts _ tw_983) (fun _ h9 => h9) rfl dX8_takeFigures_152 ?_
        refine lv_i2l (v := x_5.toInt64) hx hb dX8_takeFigures_155 rfl ?_
        refine lv_iload_n hx hb dX8_takeFigures_156 rfl (lv_at hl 4 rfl) ?_
        refine lv_i2l (v := p1.toInt64) hx hb dX8_takeFigures_157 rfl ?_
        refine lv_iload_n hx hb dX8_takeFigures_158 rfl (lv_at hl 5 rfl) ?_
        refine lv_i2l (v := p2.toInt64) hx hb dX8_takeFigures_159 rfl ?_
        refine ro_i (D := D) (va_runS (As := [.long (x_5.toInt64), .long (p1.toInt64), .long (p2.toInt64)]) (rest := []) ⟨hx, hb, hml, hown, hts⟩ ((k_in l D k st lo x_5 p1 p2) H.size) (va_cwS 3 hts (gS tw_1111 tw_1112 tw_87 tw_1113) rfl rfl rfl (by decide +kernel) ⟨Nat.le_of_ble_eq_true rfl, Nat.le_of_ble_eq_true rfl⟩) (pS hS hAlo hlo hP hK (va_Dlo hD hAlo) hZ [] (by decide) rfl) rfl rfl hl.1 rfl (lv_room (Nat.le_of_ble_eq_true rfl)) dX8_takeFigures_160 ⟨Nat.le_of_ble_eq_true rfl, Nat.le_of_ble_eq_true rfl⟩) hS hA hP (fun r_9 H locs hw_9 hP hS => ?_)
        try dsimp only at hw_9
        rcases hw_9 with ⟨rfl, hw_9⟩ | ⟨rfl, hw_9⟩
        · refine lv_if_ne (tgt := 175) hx hb dX8_takeFigures_163 (by decide) (fun _ => ?_) (fun h => absurd h (by decide))
          refine lv_iconst (v := 0) hx hb dX8_takeFigures_175 (by decide) ?_
          obtain ⟨hP9, hD9⟩ := pd_sub [((a 0), .inr (8, (fX8 a (nI tx) fp (nI t_1) wd (nI we) x_5 na (nI rd) ts (nI ru) (nI rw) (nI ca) df db sd))), (aI k (a 5) 240 ftext)] [0, 1] hP hD (by decide) rfl
          exact W.iret (v := 0) hx hb hr (fun t ht hW => ⟨⟨0, (t_1, x_5, fp), rfl, ⟨.inl ⟨rfl, nuS_0 hle_3 (by omega) (vS_tm hle_3 (by omega) hve_3 ex_5) (by omega) hw_9, rfl⟩, by omega, by omega⟩, by rw [ht]; exact hP9, hD9⟩, hS.F ht⟩) hS.2.2 dX8_takeFigures_176
        · refine lv_if_ne (tgt := 175) hx hb dX8_takeFigures_163 (by decide) (fun h => absurd (by decide) h) (fun _ => ?_)
          refine lv_aload_n hx hb dX8_takeFigures_166 rfl (lv_at hl 2 rfl) ?_
          refine lv_iconst (v := 2) hx hb dX8_takeFigures_167 (by decide) ?_
          refine lv_iload_n hx hb dX8_takeFigures_168 rfl (lv_at hl 3 rfl) ?_
          refine rw_i (D := D) (wr := [(aI k (a 5) 240 ftext)]) (va_runV (As := [.int 2, .int (nI qa)]) (rest := []) ⟨hx, hb, hml, hown, hts⟩ ((n_fails l D k st lo a tx t_1 we rd ru rw ca fp wd x_5 na ts df db sd 2 (nI qa)) H.size) (cwV 2 hts (gV tw_1151 tw_1153 tw_31 tw_87 tw_1154) rfl rfl rfl (by decide +kernel) ⟨Nat.le_of_ble_eq_true rfl, Nat.le_of_ble_eq_true rfl⟩) (pV hS hAlo hlo hP hK (va_Dlo hD hAlo) hZ [0] (by decide) rfl (ci := 8) (q := (RX8, TX8, 44)) (q0 := 0) rfl rfl) rfl rfl hl.1 rfl (lv_room (Nat.le_of_ble_eq_true rfl)) dX8_takeFigures_169 ⟨Nat.le_of_ble_eq_true rfl, Nat.le_of_ble_eq_true rfl⟩) hS hA hP hD [0] [1] rfl rfl (by decide) (by decide) (fun r_10 u H locs hw_10 hP hD hS => ?_)
          obtain ⟨fp__10, rfl⟩ : ∃ z, z = u := ⟨_, rfl⟩
          have hQ9 := pd_mk [(aI k (a 5) 240 ftext), ((a 0), .inr (8, (fX8 a (nI tx) fp__10 (nI t_1) wd (nI we) x_5 na (nI rd) ts (nI ru) (nI rw) (nI ca) df db sd)))] hP hD
          clear hP hD
          obtain ⟨hP, hD⟩ := hQ9
          try dsimp only at hw_10
          obtain ⟨hs0_11, hs1_11⟩ := hw_10
          replace hs0_11 := hs0_11.symm
          subst hs0_11
          replace hs1_11 := hs1_11.symm
          subst hs1_11
          refine lv_goto (tgt := 176) hx hb dX8_takeFigures_172 (by decide) ?_
          obtain ⟨hP9, hD9⟩ := pd_sub [((a 0), .inr (8, (fX8 a (nI tx) (nI qa) (nI t_1) wd (nI we) x_5 na (nI rd) ts (nI ru) (nI rw) (nI ca) df db sd))), (aI k (a 5) 240 ftext)] [1, 0] hP hD (by decide) rfl
          exact W.iret (v := 2) hx hb hr (fun t ht hW => ⟨⟨2, (t_1, x_5, (nI qa)), rfl, ⟨.inr (.inr ⟨rfl, _, nuS_2 hle_3 (by omega) (vS_tm hle_3 (by omega) hve_3 ex_5) (.inr (fun h => hw_9 h)), rfl⟩), by omega, by omega⟩, by rw [ht]; exact hP9, hD9⟩, hS.F ht⟩) hS.2.2 dX8_takeFigures_176
    · have c_4 := (nI_eq (a := t_1) (b := t0) (by omega) (by omega)).mp c_4
      refine lv_aload_n hx hb dX8_takeFigures_107 rfl (lv_at hl 1 rfl) ?_
      refine lv_iconst (v := 1) hx hb dX8_takeFigures_108 (by decide) ?_
      refine lv_iload hx hb dX8_takeFigures_109 (lv_at hl 0 rfl) ?_
      refine rw_i (D := D) (wr := [(aI k (a 5) 240 ftext)]) (va_runV (As := [.int 1, .int (nI t0)]) (rest := []) ⟨hx, hb, hml, hown, hts⟩ ((n_fails l D k st lo a tx t_1 we rd ru rw ca fp wd nu2_1 na ts df db sd 1 (nI t0)) H.size) (cwV 2 hts (gV tw_1151 tw_1153 tw_31 tw_87 tw_1154) rfl rfl rfl (by decide +kernel) ⟨Nat.le_of_ble_eq_true rfl, Nat.le_of_ble_eq_true rfl⟩) (pV hS hAlo hlo hP hK (va_Dlo hD hAlo) hZ [0] (by decide) rfl (ci := 8) (q := (RX8, TX8, 44)) (q0 := 0) rfl rfl) rfl rfl hl.1 rfl (lv_room (Nat.le_of_ble_eq_true rfl)) dX8_takeFigures_111 ⟨Nat.le_of_ble_eq_true rfl, Nat.le_of_ble_eq_true rfl⟩) hS hA hP hD [0] [1] rfl rfl (by decide) (by decide) (fun r_12 u H locs hw_12 hP hD hS => ?_)
      obtain ⟨fp__12, rfl⟩ : ∃ z, z = u := ⟨_, rfl⟩
      have hQ9 := pd_mk [(aI k (a 5) 240 ftext), ((a 0), .inr (8, (fX8 a (nI tx) fp__12 (nI t_1) wd (nI we) nu2_1 na (nI rd) ts (nI ru) (nI rw) (nI ca) df db sd)))] hP hD
      clear hP hD
      obtain ⟨hP, hD⟩ := hQ9
      try dsimp only at hw_12
      obtain ⟨hs0_13, hs1_13⟩ := hw_12
      replace hs0_13 := hs0_13.symm
      subst hs0_13
      replace hs1_13 := hs1_13.symm
      subst hs1_13
      obtain ⟨hP9, hD9⟩ := pd_sub [((a 0), .inr (8, (fX8 a (nI tx) (nI t0) (nI t_1) wd (nI we) nu2_1 na (nI rd) ts (nI ru) (nI rw) (nI ca) df db sd))), (aI k (a 5) 240 ftext)] [1, 0] hP hD (by decide) rfl
      exact W.iret (v := 1) hx hb hr (fun t ht hW => ⟨⟨1, (t_1, nu2_1, (nI t0)), rfl, ⟨.inr (.inl ⟨rfl, _, nuS_1t hle_3 (by omega), congrArg nI (by omega)⟩), by omega, by omega⟩, by rw [ht]; exact hP9, hD9⟩, hS.F ht⟩) hS.2.2 dX8_takeFigures_114
  · have c_2 : ¬ (tx ≤ t_1) := fun h => c_2 ((nI_leI (a := tx) (b := t_1) (by omega) (by omega)).mpr h)
    refine lv_aload_n hx hb dX8_takeFigures_22 rfl (lv_at hl 1 rfl) ?_
    refine va_get (D := D) (ci := 8) (v := .ref (a 5)) (C := RX8) (T := TX8) (N := 44) hx hb hts inX8 hown hK hP 0 rfl rfl 4 (by decide) (hts _ tw_977) (fun _ h9 => h9) rfl dX8_takeFigures_23 ?_
    refine lv_aload_n hx hb dX8_takeFigures_26 rfl (lv_at hl 1 rfl) ?_
    refine va_get (D := D) (ci := 8) (v := .int (nI t_1)) (C := RX8) (T := TX8) (N := 44) hx hb hts inX8 hown hK hP 0 rfl rfl 7 (by decide) (hts _ tw_980) (fun _ h9 => h9) rfl dX8_takeFigures_27 ?_
    refine va_iald hx hb hK hP 1 1 rfl rfl (vp_in_nI (by omega) (by decide)) dX8_takeFigures_30 ?_
    refine lv_ti (y := (ftext t_1)) (by rw [nI_clamp (by omega)]) ?_
    refine lv_i2l (v := (ftext t_1).toInt64) hx hb dX8_takeFigures_31 rfl ?_
    refine lv_ldc2 hx hb hown (hts _ tw_1163) dX8_takeFigures_32 ?_
    refine lv_tl (y := ((48 : Int32).toInt64)) (by decide) ?_
    refine lv_ldc2 hx hb hown (hts _ tw_1164) dX8_takeFigures_35 ?_
    refine lv_tl (y := ((57 : Int32).toInt64)) (by decide) ?_
    refine ro_i (D := D) (va_runS (As := [.long ((ftext t_1).toInt64), .long ((48 : Int32).toInt64), .long ((57 : Int32).toInt64)]) (rest := []) ⟨hx, hb, hml, hown, hts⟩ ((k_in l D k st lo (ftext t_1) (48 : Int32) (57 : Int32)) H.size) (va_cwS 3 hts (gS tw_1111 tw_1112 tw_87 tw_1113) rfl rfl rfl (by decide +kernel) ⟨Nat.le_of_ble_eq_true rfl, Nat.le_of_ble_eq_true rfl⟩) (pS hS hAlo hlo hP hK (va_Dlo hD hAlo) hZ [] (by decide) rfl) rfl rfl hl.1 rfl (lv_room (Nat.le_of_ble_eq_true rfl)) dX8_takeFigures_38 ⟨Nat.le_of_ble_eq_true rfl, Nat.le_of_ble_eq_true rfl⟩) hS hA hP (fun r_14 H locs hw_14 hP hS => ?_)
    try dsimp only at hw_14
    rcases hw_14 with ⟨rfl, hw_14⟩ | ⟨rfl, hw_14⟩
    · refine lv_if_eq (tgt := 98) hx hb dX8_takeFigures_41 (by decide) (fun h => absurd h (by decide)) (fun _ => ?_)
      refine lv_aload_n hx hb dX8_takeFigures_44 rfl (lv_at hl 1 rfl) ?_
      refine lv_aload_n hx hb dX8_takeFigures_45 rfl (lv_at hl 1 rfl) ?_
      refine va_get (D := D) (ci := 8) (v := .int nu2_1) (C := RX8) (T := TX8) (N := 44) hx hb hts inX8 hown hK hP 0 rfl rfl 10 (by decide) (hts _ tw_983) (fun _ h9 => h9) rfl dX8_takeFigures_46 ?_
      refine lv_sipush (v := 10000) hx hb dX8_takeFigures_49 (by decide) ?_
      refine lv_icmp_le (tgt := 62) hx hb dX8_takeFigures_52 (by decide) (fun c_15 => ?_) (fun c_15 => ?_)
      · refine lv_bipush (v := 10) hx hb dX8_takeFigures_62 (by decide) ?_
        refine lv_aload_n hx hb dX8_takeFigures_64 rfl (lv_at hl 1 rfl) ?_
        refine va_get (D := D) (ci := 8) (v := .int nu2_1) (C := RX8) (T := TX8) (N := 44) hx hb hts inX8 hown hK hP 0 rfl rfl 10 (by decide) (hts _ tw_983) (fun _ h9 => h9) rfl dX8_takeFigures_65 ?_
        refine lv_imul hx hb dX8_takeFigures_68 ?_
        refine lv_topi (fun x_16 ex_16 => ?_)
        refine lv_aload_n hx hb dX8_takeFigures_69 rfl (lv_at hl 1 rfl) ?_
        refine va_get (D := D) (ci := 8) (v := .ref (a 5)) (C := RX8) (T := TX8) (N := 44) hx hb hts inX8 hown hK hP 0 rfl rfl 4 (by decide) (hts _ tw_977) (fun _ h9 => h9) rfl dX8_takeFigures_70 ?_
        refine lv_aload_n hx hb dX8_takeFigures_73 rfl (lv_at hl 1 rfl) ?_
        refine va_get (D := D) (ci := 8) (v := .int (nI t_1)) (C := RX8) (T := TX8) (N := 44) hx hb hts inX8 hown hK hP 0 rfl rfl 7 (by decide) (hts _ tw_980) (fun _ h9 => h9) rfl dX8_takeFigures_74 ?_
        refine va_iald hx hb hK hP 1 1 rfl rfl (vp_in_nI (by omega) (by decide)) dX8_takeFigures_77 ?_
        refine lv_ti (y := (ftext t_1)) (by rw [nI_clamp (by omega)]) ?_
        refine lv_iadd hx hb dX8_takeFigures_78 ?_
        refine lv_topi (fun x_17 ex_17 => ?_)
        refine lv_bipush (v := 48) hx hb dX8_takeFigures_79 (by decide) ?_
        refine lv_isub hx hb dX8_takeFigures_81 ?_
        refine lv_topi (fun x_18 ex_18 => ?_)
        refine va_put (D := D) (ci := 8) (v := .int x_18) (ty := .int) (C := RX8) (T := TX8) (N := 44) hx hb hts inX8 tyX8 tyX8_ok nmX8 hown hK hP hD hS 0 rfl rfl 10 (by decide) (hts _ tw_983) (fun _ h9 => h9) rfl (by decide +kernel) rfl rfl (Nat.le_of_ble_eq_true rfl) dX8_takeFigures_82 (fun H locs hP hD hS => ?_)
        have hQ9 := pd_mk [((a 0), .inr (8, (fX8 a (nI tx) fp (nI t_1) wd (nI we) x_18 na (nI rd) ts (nI ru) (nI rw) (nI ca) df db sd))), (aI k (a 5) 240 ftext)] hP hD
        clear hP hD
        obtain ⟨hP, hD⟩ := hQ9
        refine lv_aload_n hx hb dX8_takeFigures_85 rfl (lv_at hl 1 rfl) ?_
        refine lv_dup hx hb dX8_takeFigures_86 rfl ?_
        refine va_get (D := D) (ci := 8) (v := .int (nI t_1)) (C := RX8) (T := TX8) (N := 44) hx hb hts inX8 hown hK hP 0 rfl rfl 7 (by decide) (hts _ tw_980) (fun _ h9 => h9) rfl dX8_takeFigures_87 ?_
        refine lv_iconst (v := 1) hx hb dX8_takeFigures_90 (by decide) ?_
        refine lv_iadd hx hb dX8_takeFigures_91 ?_
        refine lv_ti (y := (nI (t_1 + 1))) (nI_add t_1 1) ?_
        refine va_put (D := D) (ci := 8) (v := .int (nI (t_1 + 1))) (ty := .int) (C := RX8) (T := TX8) (N := 44) hx hb hts inX8 tyX8 tyX8_ok nmX8 hown hK hP hD hS 0 rfl rfl 7 (by decide) (hts _ tw_980) (fun _ h9 => h9) rfl (by decide +kernel) rfl rfl (Nat.le_of_ble_eq_true rfl) dX8_takeFigures_92 (fun H locs hP hD hS => ?_)
        have hQ9 := pd_mk [((a 0), .inr (8, (fX8 a (nI tx) fp (nI (t_1 + 1)) wd (nI we) x_18 na (nI rd) ts (nI ru) (nI rw) (nI ca) df db sd))), (aI k (a 5) 240 ftext)] hP hD
        clear hP hD
        obtain ⟨hP, hD⟩ := hQ9
        refine lv_goto (tgt := 11) hx hb dX8_takeFigures_95 (by decide) ?_
        have hst_19 := fg_step (by omega) hw_14 hv_1.2.2.1 hv_1.2.2.2
        exact ih_1 _ (t_1 + 1, x_18) _ _ _ (by omega) ⟨rfl, ⟨by omega, by omega, hst_19.1, (by rw [ex_18, ex_17, ex_16]; exact hst_19.2.2 c_15)⟩, hP, hD, hS, (lv_sub hl [0, 1, 2, 3, 4, 5] rfl)⟩
      · refine lv_aload_n hx hb dX8_takeFigures_55 rfl (lv_at hl 1 rfl) ?_
        refine va_get (D := D) (ci := 8) (v := .int nu2_1) (C := RX8) (T := TX8) (N := 44) hx hb hts inX8 hown hK hP 0 rfl rfl 10 (by decide) (hts _ tw_983) (fun _ h9 => h9) rfl dX8_takeFigures_56 ?_
        refine lv_goto (tgt := 82) hx hb dX8_takeFigures_59 (by decide) ?_
        refine va_put (D := D) (ci := 8) (v := .int nu2_1) (ty := .int) (C := RX8) (T := TX8) (N := 44) hx hb hts inX8 tyX8 tyX8_ok nmX8 hown hK hP hD hS 0 rfl rfl 10 (by decide) (hts _ tw_983) (fun _ h9 => h9) rfl (by decide +kernel) rfl rfl (Nat.le_of_ble_eq_true rfl) dX8_takeFigures_82 (fun H locs hP hD hS => ?_)
        have hQ9 := pd_mk [((a 0), .inr (8, (fX8 a (nI tx) fp (nI t_1) wd (nI we) nu2_1 na (nI rd) ts (nI ru) (nI rw) (nI ca) df db sd))), (aI k (a 5) 240 ftext)] hP hD
        clear hP hD
        obtain ⟨hP, hD⟩ := hQ9
        refine lv_aload_n hx hb dX8_takeFigures_85 rfl (lv_at hl 1 rfl) ?_
        refine lv_dup hx hb dX8_takeFigures_86 rfl ?_
        refine va_get (D := D) (ci := 8) (v := .int (nI t_1)) (C := RX8) (T := TX8) (N := 44) hx hb hts inX8 hown hK hP 0 rfl rfl 7 (by decide) (hts _ tw_980) (fun _ h9 => h9) rfl dX8_takeFigures_87 ?_
        refine lv_iconst (v := 1) hx hb dX8_takeFigures_90 (by decide) ?_
        refine lv_iadd hx hb dX8_takeFigures_91 ?_
        refine lv_ti (y := (nI (t_1 + 1))) (nI_add t_1 1) ?_
        refine va_put (D := D) (ci := 8) (v := .int (nI (t_1 + 1))) (ty := .int) (C := RX8) (T := TX8) (N := 44) hx hb hts inX8 tyX8 tyX8_ok nmX8 hown hK hP hD hS 0 rfl rfl 7 (by decide) (hts _ tw_980) (fun _ h9 => h9) rfl (by decide +kernel) rfl rfl (Nat.le_of_ble_eq_true rfl) dX8_takeFigures_92 (fun H locs hP hD hS => ?_)
        have hQ9 := pd_mk [((a 0), .inr (8, (fX8 a (nI tx) fp (nI (t_1 + 1)) wd (nI we) nu2_1 na (nI rd) ts (nI ru) (nI rw) (nI ca) df db sd))), (aI k (a 5) 240 ftext)] hP hD
        clear hP hD
        obtain ⟨hP, hD⟩ := hQ9
        refine lv_goto (tgt := 11) hx hb dX8_takeFigures_95 (by decide) ?_
        have hst_20 := fg_step (by omega) hw_14 hv_1.2.2.1 hv_1.2.2.2
        exact ih_1 _ (t_1 + 1, nu2_1) _ _ _ (by omega) ⟨rfl, ⟨by omega, by omega, hst_20.1, hst_20.2.1 c_15⟩, hP, hD, hS, (lv_sub hl [0, 1, 2, 3, 4, 5] rfl)⟩
    · refine lv_if_eq (tgt := 98) hx hb dX8_takeFigures_41 (by decide) (fun _ => ?_) (fun h => absurd (by decide) h)
      obtain ⟨hle_21, hve_21⟩ := fg_out (figA_no hw_14) hv_1.2.2.1 hv_1.2.2.2
      refine lv_aload_n hx hb dX8_takeFigures_98 rfl (lv_at hl 1 rfl) ?_
      refine va_get (D := D) (ci := 8) (v := .int (nI t_1)) (C := RX8) (T := TX8) (N := 44) hx hb hts inX8 hown hK hP 0 rfl rfl 7 (by decide) (hts _ tw_980) (fun _ h9 => h9) rfl dX8_takeFigures_99 ?_
      refine lv_iload hx hb dX8_takeFigures_102 (lv_at hl 0 rfl) ?_
      refine lv_icmp_ne (tgt := 115) hx hb dX8_takeFigures_104 (by decide) (fun c_22 => ?_) (fun c_22 => ?_)
      · have c_22 : ¬ (t_1 = t0) := fun h => c_22 ((nI_eq (a := t_1) (b := t0) (by omega) (by omega)).mpr h)
        refine lv_aload_n hx hb dX8_takeFigures_115 rfl (lv_at hl 1 rfl) ?_
        refine va_get (D := D) (ci := 8) (v := .int (nI t_1)) (C := RX8) (T := TX8) (N := 44) hx hb hts inX8 hown hK hP 0 rfl rfl 7 (by decide) (hts _ tw_980) (fun _ h9 => h9) rfl dX8_takeFigures_116 ?_
        refine lv_iload hx hb dX8_takeFigures_119 (lv_at hl 0 rfl) ?_
        refine lv_isub hx hb dX8_takeFigures_121 ?_
        refine lv_ti (y := (nI (t_1 - t0))) (pk_sub (a := t_1) (b := t0) (by omega)) ?_
        refine lv_istore (lv' := [(6, .int (nI (t_1 - t0))), (5, .int (nI t0)), (0, .ref (a 0)), (1, .int (nI qa)), (2, .int p1), (3, .int p2), (4, .int 1)]) hx hb dX8_takeFigures_122 hl (by decide) rfl (fun ls hl => ?_)
        refine lv_aload_n hx hb dX8_takeFigures_124 rfl (lv_at hl 2 rfl) ?_
        refine lv_iload hx hb dX8_takeFigures_125 (lv_at hl 6 rfl) ?_
        refine lv_if_eq (tgt := 138) hx hb dX8_takeFigures_127 (by decide) (fun h => absurd h (by decide)) (fun _ => ?_)
        refine lv_aload_n hx hb dX8_takeFigures_130 rfl (lv_at hl 2 rfl) ?_
        refine va_get (D := D) (ci := 8) (v := .int nu2_1) (C := RX8) (T := TX8) (N := 44) hx hb hts inX8 hown hK hP 0 rfl rfl 10 (by decide) (hts _ tw_983) (fun _ h9 => h9) rfl dX8_takeFigures_131 ?_
        refine lv_ineg hx hb dX8_takeFigures_134 ?_
        refine lv_topi (fun x_23 ex_23 => ?_)
        refine lv_goto (tgt := 142) hx hb dX8_takeFigures_135 (by decide) ?_
        refine va_put (D := D) (ci := 8) (v := .int x_23) (ty := .int) (C := RX8) (T := TX8) (N := 44) hx hb hts inX8 tyX8 tyX8_ok nmX8 hown hK hP hD hS 0 rfl rfl 10 (by decide) (hts _ tw_983) (fun _ h9 => h9) rfl (by decide +kernel) rfl rfl (Nat.le_of_ble_eq_true rfl) dX8_takeFigures_142 (fun H locs hP hD hS => ?_)
        have hQ9 := pd_mk [((a 0), .inr (8, (fX8 a (nI tx) fp (nI t_1) wd (nI we) x_23 na (nI rd) ts (nI ru) (nI rw) (nI ca) df db sd))), (aI k (a 5) 240 ftext)] hP hD
        clear hP hD
        obtain ⟨hP, hD⟩ := hQ9
        refine lv_iload hx hb dX8_takeFigures_145 (lv_at hl 0 rfl) ?_
        refine lv_iconst (v := 3) hx hb dX8_takeFigures_147 (by decide) ?_
        refine lv_icmp_gt (tgt := 166) hx hb dX8_takeFigures_148 (by decide) (fun c_24 => ?_) (fun c_24 => ?_)
        · have c_24 := (nI_ltI (a := 3) (b := (t_1 - t0)) (by omega) (by omega)).mp c_24
          refine lv_aload_n hx hb dX8_takeFigures_166 rfl (lv_at hl 2 rfl) ?_
          refine lv_iconst (v := 2) hx hb dX8_takeFigures_167 (by decide) ?_
          refine lv_iload_n hx hb dX8_takeFigures_168 rfl (lv_at hl 3 rfl) ?_
          refine rw_i (D := D) (wr := [(aI k (a 5) 240 ftext)]) (va_runV (As := [.int 2, .int (nI qa)]) (rest := []) ⟨hx, hb, hml, hown, hts⟩ ((n_fails l D k st lo a tx t_1 we rd ru rw ca fp wd x_23 na ts df db sd 2 (nI qa)) H.size) (cwV 2 hts (gV tw_1151 tw_1153 tw_31 tw_87 tw_1154) rfl rfl rfl (by decide +kernel) ⟨Nat.le_of_ble_eq_true rfl, Nat.le_of_ble_eq_true rfl⟩) (pV hS hAlo hlo hP hK (va_Dlo hD hAlo) hZ [0] (by decide) rfl (ci := 8) (q := (RX8, TX8, 44)) (q0 := 0) rfl rfl) rfl rfl hl.1 rfl (lv_room (Nat.le_of_ble_eq_true rfl)) dX8_takeFigures_169 ⟨Nat.le_of_ble_eq_true rfl, Nat.le_of_ble_eq_true rfl⟩) hS hA hP hD [0] [1] rfl rfl (by decide) (by decide) (fun r_25 u H locs hw_25 hP hD hS => ?_)
          obtain ⟨fp__25, rfl⟩ : ∃ z, z = u := ⟨_, rfl⟩
          have hQ9 := pd_mk [(aI k (a 5) 240 ftext), ((a 0), .inr (8, (fX8 a (nI tx) fp__25 (nI t_1) wd (nI we) x_23 na (nI rd) ts (nI ru) (nI rw) (nI ca) df db sd)))] hP hD
          clear hP hD
          obtain ⟨hP, hD⟩ := hQ9
          try dsimp only at hw_25
          obtain ⟨hs0_26, hs1_26⟩ := hw_25
          replace hs0_26 := hs0_26.symm
          subst hs0_26
          replace hs1_26 := hs1_26.symm
          subst hs1_26
          refine lv_goto (tgt := 176) hx hb dX8_takeFigures_172 (by decide) ?_
          obtain ⟨hP9, hD9⟩ := pd_sub [((a 0), .inr (8, (fX8 a (nI tx) (nI qa) (nI t_1) wd (nI we) x_23 na (nI rd) ts (nI ru) (nI rw) (nI ca) df db sd))), (aI k (a 5) 240 ftext)] [1, 0] hP hD (by decide) rfl
          exact W.iret (v := 2) hx hb hr (fun t ht hW => ⟨⟨2, (t_1, x_23, (nI qa)), rfl, ⟨.inr (.inr ⟨rfl, _, nuS_2 hle_21 (by omega) rfl (.inl (by omega)), rfl⟩), by omega, by omega⟩, by rw [ht]; exact hP9, hD9⟩, hS.F ht⟩) hS.2.2 dX8_takeFigures_176
        · have c_24 : ¬ (3 < (t_1 - t0)) := fun h => c_24 ((nI_ltI (a := 3) (b := (t_1 - t0)) (by omega) (by omega)).mpr h)
          refine lv_aload_n hx hb dX8_takeFigures_151 rfl (lv_at hl 2 rfl) ?_
          refine va_get (D := D) (ci := 8) (v := .int x_23) (C := RX8) (T := TX8) (N := 44) hx hb hts inX8 hown hK hP 0 rfl rfl 10 (by decide) (hts _ tw_983) (fun _ h9 => h9) rfl dX8_takeFigures_152 ?_
          refine lv_i2l (v := x_23.toInt64) hx hb dX8_takeFigures_155 rfl ?_
          refine lv_iload_n hx hb dX8_takeFigures_156 rfl (lv_at hl 4 rfl) ?_
          refine lv_i2l (v := p1.toInt64) hx hb dX8_takeFigures_157 rfl ?_
          refine lv_iload_n hx hb dX8_takeFigures_158 rfl (lv_at hl 5 rfl) ?_
          refine lv_i2l (v := p2.toInt64) hx hb dX8_takeFigures_159 rfl ?_
          refine ro_i (D := D) (va_runS (As := [.long (x_23.toInt64), .long (p1.toInt64), .long (p2.toInt64)]) (rest := []) ⟨hx, hb, hml, hown, hts⟩ ((k_in l D k st lo x_23 p1 p2) H.size) (va_cwS 3 hts (gS tw_1111 tw_1112 tw_87 tw_1113) rfl rfl rfl (by decide +kernel) ⟨Nat.le_of_ble_eq_true rfl, Nat.le_of_ble_eq_true rfl⟩) (pS hS hAlo hlo hP hK (va_Dlo hD hAlo) hZ [] (by decide) rfl) rfl rfl hl.1 rfl (lv_room (Nat.le_of_ble_eq_true rfl)) dX8_takeFigures_160 ⟨Nat.le_of_ble_eq_true rfl, Nat.le_of_ble_eq_true rfl⟩) hS hA hP (fun r_27 H locs hw_27 hP hS => ?_)
          try dsimp only at hw_27
          rcases hw_27 with ⟨rfl, hw_27⟩ | ⟨rfl, hw_27⟩
          · refine lv_if_ne (tgt := 175) hx hb dX8_takeFigures_163 (by decide) (fun _ => ?_) (fun h => absurd h (by decide))
            refine lv_iconst (v := 0) hx hb dX8_takeFigures_175 (by decide) ?_
            obtain ⟨hP9, hD9⟩ := pd_sub [((a 0), .inr (8, (fX8 a (nI tx) fp (nI t_1) wd (nI we) x_23 na (nI rd) ts (nI ru) (nI rw) (nI ca) df db sd))), (aI k (a 5) 240 ftext)] [0, 1] hP hD (by decide) rfl
            exact W.iret (v := 0) hx hb hr (fun t ht hW => ⟨⟨0, (t_1, x_23, fp), rfl, ⟨.inl ⟨rfl, nuS_0 hle_21 (by omega) (vS_tm hle_21 (by omega) hve_21 ex_23) (by omega) hw_27, rfl⟩, by omega, by omega⟩, by rw [ht]; exact hP9, hD9⟩, hS.F ht⟩) hS.2.2 dX8_takeFigures_176
          · refine lv_if_ne (tgt := 175) hx hb dX8_takeFigures_163 (by decide) (fun h => absurd (by decide) h) (fun _ => ?_)
            refine lv_aload_n hx hb dX8_takeFigures_166 rfl (lv_at hl 2 rfl) ?_
            refine lv_iconst (v := 2) hx hb dX8_takeFigures_167 (by decide) ?_
            refine lv_iload_n hx hb dX8_takeFigures_168 rfl (lv_at hl 3 rfl) ?_
            refine rw_i (D := D) (wr := [(aI k (a 5) 240 ftext)]) (va_runV (As := [.int 2, .int (nI qa)]) (rest := []) ⟨hx, hb, hml, hown, hts⟩ ((n_fails l D k st lo a tx t_1 we rd ru rw ca fp wd x_23 na ts df db sd 2 (nI qa)) H.size) (cwV 2 hts (gV tw_1151 tw_1153 tw_31 tw_87 tw_1154) rfl rfl rfl (by decide +kernel) ⟨Nat.le_of_ble_eq_true rfl, Nat.le_of_ble_eq_true rfl⟩) (pV hS hAlo hlo hP hK (va_Dlo hD hAlo) hZ [0] (by decide) rfl (ci := 8) (q := (RX8, TX8, 44)) (q0 := 0) rfl rfl) rfl rfl hl.1 rfl (lv_room (Nat.le_of_ble_eq_true rfl)) dX8_takeFigures_169 ⟨Nat.le_of_ble_eq_true rfl, Nat.le_of_ble_eq_true rfl⟩) hS hA hP hD [0] [1] rfl rfl (by decide) (by decide) (fun r_28 u H locs hw_28 hP hD hS => ?_)
            obtain ⟨fp__28, rfl⟩ : ∃ z, z = u := ⟨_, rfl⟩
            have hQ9 := pd_mk [(aI k (a 5) 240 ftext), ((a 0), .inr (8, (fX8 a (nI tx) fp__28 (nI t_1) wd (nI we) x_23 na (nI rd) ts (nI ru) (nI rw) (nI ca) df db sd)))] hP hD
            clear hP hD
            obtain ⟨hP, hD⟩ := hQ9
            try dsimp only at hw_28
            obtain ⟨hs0_29, hs1_29⟩ := hw_28
            replace hs0_29 := hs0_29.symm
            subst hs0_29
            replace hs1_29 := hs1_29.symm
            subst hs1_29
            refine lv_goto (tgt := 176) hx hb dX8_takeFigures_172 (by decide) ?_
            obtain ⟨hP9, hD9⟩ := pd_sub [((a 0), .inr (8, (fX8 a (nI tx) (nI qa) (nI t_1) wd (nI we) x_23 na (nI rd) ts (nI ru) (nI rw) (nI ca) df db sd))), (aI k (a 5) 240 ftext)] [1, 0] hP hD (by decide) rfl
            exact W.iret (v := 2) hx hb hr (fun t ht hW => ⟨⟨2, (t_1, x_23, (nI qa)), rfl, ⟨.inr (.inr ⟨rfl, _, nuS_2 hle_21 (by omega) (vS_tm hle_21 (by omega) hve_21 ex_23) (.inr (fun h => hw_27 h)), rfl⟩), by omega, by omega⟩, by rw [ht]; exact hP9, hD9⟩, hS.F ht⟩) hS.2.2 dX8_takeFigures_176
      · have c_22 := (nI_eq (a := t_1) (b := t0) (by omega) (by omega)).mp c_22
        refine lv_aload_n hx hb dX8_takeFigures_107 rfl (lv_at hl 1 rfl) ?_
        refine lv_iconst (v := 1) hx hb dX8_takeFigures_108 (by decide) ?_
        refine lv_iload hx hb dX8_takeFigures_109 (lv_at hl 0 rfl) ?_
        refine rw_i (D := D) (wr := [(aI k (a 5) 240 ftext)]) (va_runV (As := [.int 1, .int (nI t0)]) (rest := []) ⟨hx, hb, hml, hown, hts⟩ ((n_fails l D k st lo a tx t_1 we rd ru rw ca fp wd nu2_1 na ts df db sd 1 (nI t0)) H.size) (cwV 2 hts (gV tw_1151 tw_1153 tw_31 tw_87 tw_1154) rfl rfl rfl (by decide +kernel) ⟨Nat.le_of_ble_eq_true rfl, Nat.le_of_ble_eq_true rfl⟩) (pV hS hAlo hlo hP hK (va_Dlo hD hAlo) hZ [0] (by decide) rfl (ci := 8) (q := (RX8, TX8, 44)) (q0 := 0) rfl rfl) rfl rfl hl.1 rfl (lv_room (Nat.le_of_ble_eq_true rfl)) dX8_takeFigures_111 ⟨Nat.le_of_ble_eq_true rfl, Nat.le_of_ble_eq_true rfl⟩) hS hA hP hD [0] [1] rfl rfl (by decide) (by decide) (fun r_30 u H locs hw_30 hP hD hS => ?_)
        obtain ⟨fp__30, rfl⟩ : ∃ z, z = u := ⟨_, rfl⟩
        have hQ9 := pd_mk [(aI k (a 5) 240 ftext), ((a 0), .inr (8, (fX8 a (nI tx) fp__30 (nI t_1) wd (nI we) nu2_1 na (nI rd) ts (nI ru) (nI rw) (nI ca) df db sd)))] hP hD
        clear hP hD
        obtain ⟨hP, hD⟩ := hQ9
        try dsimp only at hw_30
        obtain ⟨hs0_31, hs1_31⟩ := hw_30
        replace hs0_31 := hs0_31.symm
        subst hs0_31
        replace hs1_31 := hs1_31.symm
        subst hs1_31
        obtain ⟨hP9, hD9⟩ := pd_sub [((a 0), .inr (8, (fX8 a (nI tx) (nI t0) (nI t_1) wd (nI we) nu2_1 na (nI rd) ts (nI ru) (nI rw) (nI ca) df db sd))), (aI k (a 5) 240 ftext)] [1, 0] hP hD (by decide) rfl
        exact W.iret (v := 1) hx hb hr (fun t ht hW => ⟨⟨1, (t_1, nu2_1, (nI t0)), rfl, ⟨.inr (.inl ⟨rfl, _, nuS_1t hle_21 (by omega), congrArg nI (by omega)⟩), by omega, by omega⟩, by rw [ht]; exact hP9, hD9⟩, hS.F ht⟩) hS.2.2 dX8_takeFigures_114


set_option maxHeartbeats 4000000 in
set_option maxRecDepth 100000 in
theorem n_takeNumber (l : Launch) (D : va_G) (k : Nat → ClassId) (st : Nat → Nat) (lo : Nat) (a : Nat → Nat) (tx : Nat) (t0 : Nat) (we : Nat) (rd : Nat) (ru : Nat) (rw : Nat) (ca : Nat) (fp : Int32) (wd : Int64) (nu : Int32) (na : Int32) (ts : Int32) (df : Int32) (db : Int32) (sd : Int32) (ftext : Nat → Int32) (p0 : Int32) (p1 : Int32) (ht : t0 ≤ tx) (htx : tx ≤ 240) : CWi l D k st lo yX8_takeNumber cX8_takeNumber 4 (some .int) ({ frames := 2, cells := 0, slots := 0, locals := 51 }) 0 0 [.ref (a 0), .int p0, .int p1] [((a 0), .inr (8, (fX8 a (nI tx) fp (nI t0) wd (nI we) nu na (nI rd) ts (nI ru) (nI rw) (nI ca) df db sd))), (aI k (a 5) 240 ftext)] (fun (r : Int32) (u : Nat × Int32 × Int32 × Int32) => match u with | (t0_, nu_, na_, fp_) => ∃ q : Nat, na_ = nI q ∧ ((r = 0 ∧ nuR ftext tx false p0 p1 t0 = (0, 0, t0_, nu_, q) ∧ fp_ = fp) ∨ (r = 1 ∧ ∃ pl : Nat, nuR ftext tx false p0 p1 t0 = (1, pl, t0_, 0, q) ∧ fp_ = nI pl) ∨ (r = 2 ∧ ∃ pl : Nat, nuR ftext tx false p0 p1 t0 = (2, pl, t0_, 0, q) ∧ fp_ = nI pl)) ∧ t0 ≤ t0_ ∧ t0_ ≤ tx) (fun (u : Nat × Int32 × Int32 × Int32) => match u with | (t0_, nu_, na_, fp_) => [((a 0), .inr (8, (fX8 a (nI tx) fp_ (nI t0_) wd (nI we) nu_ na_ (nI rd) ts (nI ru) (nI rw) (nI ca) df db sd))), (aI k (a 5) 240 ftext)]) := by
  intro sz
  refine Met.ofW (cc := cX8_takeNumber) (maxL := 4) (ret := (some .int)) (by decide) rfl ?_
  intro p e s m args below meth c s₁ B hml hv
  obtain ⟨rfl, hsz, hlo, hP, hK, hDL, hZ⟩ := hv
  have hx := B.exec
  have hb := B.bytes
  have hr := B.returns
  have hts := WS_ts B.pre
  have hown : s.vm.findClass RX8 = some m.cls := findClass_of_methodNamed B.named
  have hlocks := B.notSynchronized
  subst hsz
  have hD := hDL.self (sz := s.heap.size)
  have hAlo := A_lo hDL hlo
  generalize hAe : va_A [((a 0), .inr (8, (fX8 a (nI tx) fp (nI t0) wd (nI we) nu na (nI rd) ts (nI ru) (nI rw) (nI ca) df db sd))), (aI k (a 5) 240 ftext)] s.heap.size = A at hD hAlo ⊢
  have hA : ∀ q : Nat, s.heap.size ≤ q → A q := fun q h => by rw [← hAe]; exact Or.inr h
  have hS : va_S A s.heap s.heap [] := va_S.rf
  have hl := lv_entry ([.ref (a 0), .int p0, .int p1]) (n := 4) (Nat.le_of_ble_eq_true rfl)
  rw [lg_entry_eq]
  generalize (lg_sl ([.ref (a 0), .int p0, .int p1]) ++ List.replicate (4 - (lg_sl ([.ref (a 0), .int p0, .int p1])).length) Slot.unset).toArray = ls at hl ⊢
  have hl : lv_has ls 4 [(0, .ref (a 0)), (1, .int p0), (2, .int p1)] := hl
  refine lv_aload_n hx hb dX8_takeNumber_0 rfl (lv_at hl 0 rfl) ?_
  refine rw_i (D := D) (wr := []) (va_runV (As := []) (rest := []) ⟨hx, hb, hml, hown, hts⟩ ((n_here l D k st lo a tx t0 we rd ru rw ca fp wd nu na ts df db sd ftext (by first | assumption | omega) (by first | assumption | omega)) s.heap.size) (cwV 0 hts (gV tw_1120 tw_1122 tw_27 tw_87 tw_1123) rfl rfl rfl (by decide +kernel) ⟨Nat.le_of_ble_eq_true rfl, Nat.le_of_ble_eq_true rfl⟩) (pV hS hAlo hlo hP hK (va_Dlo hD hAlo) hZ [0, 1] (by decide) rfl (ci := 8) (q := (RX8, TX8, 44)) (q0 := 0) rfl rfl) rfl rfl hl.1 rfl (lv_room (Nat.le_of_ble_eq_true rfl)) dX8_takeNumber_1 ⟨Nat.le_of_ble_eq_true rfl, Nat.le_of_ble_eq_true rfl⟩) hS hA hP hD [0, 1] [] rfl rfl (by decide) (by decide) (fun r_1 u H locs hw_1 hP hD hS => ?_)
  obtain ⟨t0__1, rfl⟩ : ∃ z, z = u := ⟨_, rfl⟩
  have hQ9 := pd_mk [((a 0), .inr (8, (fX8 a (nI tx) fp (nI t0__1) wd (nI we) nu na (nI rd) ts (nI ru) (nI rw) (nI ca) df db sd))), (aI k (a 5) 240 ftext)] hP hD
  clear hP hD
  obtain ⟨hP, hD⟩ := hQ9
  try dsimp only at hw_1
  refine lv_istore_n (lv' := [(3, .int r_1), (0, .ref (a 0)), (1, .int p0), (2, .int p1)]) hx hb dX8_takeNumber_4 rfl hl (by decide) rfl (fun ls hl => ?_)
  refine lv_aload_n hx hb dX8_takeNumber_5 rfl (lv_at hl 1 rfl) ?_
  refine lv_aload_n hx hb dX8_takeNumber_6 rfl (lv_at hl 1 rfl) ?_
  refine va_get (D := D) (ci := 8) (v := .int (nI t0__1)) (C := RX8) (T := TX8) (N := 44) hx hb hts inX8 hown hK hP 0 rfl rfl 7 (by decide) (hts _ tw_980) (fun _ h9 => h9) rfl dX8_takeNumber_7 ?_
  refine va_put (D := D) (ci := 8) (v := .int (nI t0__1)) (ty := .int) (C := RX8) (T := TX8) (N := 44) hx hb hts inX8 tyX8 tyX8_ok nmX8 hown hK hP hD hS 0 rfl rfl 11 (by decide) (hts _ tw_984) (fun _ h9 => h9) rfl (by decide +kernel) rfl rfl (Nat.le_of_ble_eq_true rfl) dX8_takeNumber_10 (fun H locs hP hD hS => ?_)
  have hQ9 := pd_mk [((a 0), .inr (8, (fX8 a (nI tx) fp (nI t0__1) wd (nI we) nu (nI t0__1) (nI rd) ts (nI ru) (nI rw) (nI ca) df db sd))), (aI k (a 5) 240 ftext)] hP hD
  clear hP hD
  obtain ⟨hP, hD⟩ := hQ9
  refine lv_iload_n hx hb dX8_takeNumber_13 rfl (lv_at hl 0 rfl) ?_
  refine lv_i2l (v := r_1.toInt64) hx hb dX8_takeNumber_14 rfl ?_
  refine lv_ldc2 hx hb hown (hts _ tw_1163) dX8_takeNumber_15 ?_
  refine lv_tl (y := ((48 : Int32).toInt64)) (by decide) ?_
  refine lv_ldc2 hx hb hown (hts _ tw_1164) dX8_takeNumber_18 ?_
  refine lv_tl (y := ((57 : Int32).toInt64)) (by decide) ?_
  refine ro_i (D := D) (va_runS (As := [.long (r_1.toInt64), .long ((48 : Int32).toInt64), .long ((57 : Int32).toInt64)]) (rest := []) ⟨hx, hb, hml, hown, hts⟩ ((k_in l D k st lo r_1 (48 : Int32) (57 : Int32)) H.size) (va_cwS 3 hts (gS tw_1111 tw_1112 tw_87 tw_1113) rfl rfl rfl (by decide +kernel) ⟨Nat.le_of_ble_eq_true rfl, Nat.le_of_ble_eq_true rfl⟩) (pS hS hAlo hlo hP hK (va_Dlo hD hAlo) hZ [] (by decide) rfl) rfl rfl hl.1 rfl (lv_room (Nat.le_of_ble_eq_true rfl)) dX8_takeNumber_21 ⟨Nat.le_of_ble_eq_true rfl, Nat.le_of_ble_eq_true rfl⟩) hS hA hP (fun r_2 H locs hw_2 hP hS => ?_)
  try dsimp only at hw_2
  rcases hw_2 with ⟨rfl, hw_2⟩ | ⟨rfl, hw_2⟩
  · refine lv_if_eq (tgt := 41) hx hb dX8_takeNumber_24 (by decide) (fun h => absurd h (by decide)) (fun _ => ?_)
    refine lv_aload_n hx hb dX8_takeNumber_27 rfl (lv_at hl 1 rfl) ?_
    refine lv_aload_n hx hb dX8_takeNumber_28 rfl (lv_at hl 1 rfl) ?_
    refine va_get (D := D) (ci := 8) (v := .int (nI t0__1)) (C := RX8) (T := TX8) (N := 44) hx hb hts inX8 hown hK hP 0 rfl rfl 11 (by decide) (hts _ tw_984) (fun _ h9 => h9) rfl dX8_takeNumber_29 ?_
    refine lv_iload_n hx hb dX8_takeNumber_32 rfl (lv_at hl 2 rfl) ?_
    refine lv_iload_n hx hb dX8_takeNumber_33 rfl (lv_at hl 3 rfl) ?_
    refine lv_iconst (v := 0) hx hb dX8_takeNumber_34 (by decide) ?_
    refine rw_i (D := D) (wr := []) (va_runV (As := [.int (nI t0__1), .int p0, .int p1, .int 0]) (rest := []) ⟨hx, hb, hml, hown, hts⟩ ((n_takeFigures_0 l D k st lo a tx t0__1 we rd ru rw ca fp wd nu (nI t0__1) ts df db sd ftext t0__1 p0 p1 (by first | assumption | omega) (by first | assumption | omega)) H.size) (cwV 4 hts (gV tw_1165 tw_1167 tw_34 tw_87 tw_1168) rfl rfl rfl (by decide +kernel) ⟨Nat.le_of_ble_eq_true rfl, Nat.le_of_ble_eq_true rfl⟩) (pV hS hAlo hlo hP hK (va_Dlo hD hAlo) hZ [0, 1] (by decide) rfl (ci := 8) (q := (RX8, TX8, 44)) (q0 := 0) rfl rfl) rfl rfl hl.1 rfl (lv_room (Nat.le_of_ble_eq_true rfl)) dX8_takeNumber_35 ⟨Nat.le_of_ble_eq_true rfl, Nat.le_of_ble_eq_true rfl⟩) hS hA hP hD [0, 1] [] rfl rfl (by decide) (by decide) (fun r_3 u H locs hw_3 hP hD hS => ?_)
    obtain ⟨t0__3, nu__3, fp__3⟩ := u
    have hQ9 := pd_mk [((a 0), .inr (8, (fX8 a (nI tx) fp__3 (nI t0__3) wd (nI we) nu__3 (nI t0__1) (nI rd) ts (nI ru) (nI rw) (nI ca) df db sd))), (aI k (a 5) 240 ftext)] hP hD
    clear hP hD
    obtain ⟨hP, hD⟩ := hQ9
    try dsimp only at hw_3
    rcases hw_3 with ⟨⟨rfl, hq_4, hfp_4⟩ | ⟨rfl, pl_4, hq_4, rfl⟩ | ⟨rfl, pl_4, hq_4, rfl⟩, hw_3⟩
    · replace hfp_4 := hfp_4.symm
      subst hfp_4
      refine lv_goto (tgt := 50) hx hb dX8_takeNumber_38 (by decide) ?_
      obtain ⟨hP9, hD9⟩ := pd_sub [((a 0), .inr (8, (fX8 a (nI tx) fp (nI t0__3) wd (nI we) nu__3 (nI t0__1) (nI rd) ts (nI ru) (nI rw) (nI ca) df db sd))), (aI k (a 5) 240 ftext)] [0, 1] hP hD (by decide) rfl
      exact W.iret (v := 0) hx hb hr (fun t ht hW => ⟨⟨0, (t0__3, nu__3, (nI t0__1), fp), rfl, ⟨_, rfl, .inl ⟨rfl, (nuR_F hw_1.1).trans hq_4, rfl⟩, by omega, by omega⟩, by rw [ht]; exact hP9, hD9⟩, hS.F ht⟩) hS.2.2 dX8_takeNumber_50
    · refine lv_goto (tgt := 50) hx hb dX8_takeNumber_38 (by decide) ?_
      obtain ⟨hP9, hD9⟩ := pd_sub [((a 0), .inr (8, (fX8 a (nI tx) (nI pl_4) (nI t0__3) wd (nI we) nu__3 (nI t0__1) (nI rd) ts (nI ru) (nI rw) (nI ca) df db sd))), (aI k (a 5) 240 ftext)] [0, 1] hP hD (by decide) rfl
      exact W.iret (v := 1) hx hb hr (fun t ht hW => ⟨⟨1, (t0__3, nu__3, (nI t0__1), (nI pl_4)), rfl, ⟨_, rfl, .inr (.inl ⟨rfl, _, (nuR_F hw_1.1).trans hq_4, rfl⟩), by omega, by omega⟩, by rw [ht]; exact hP9, hD9⟩, hS.F ht⟩) hS.2.2 dX8_takeNumber_50
    · refine lv_goto (tgt := 50) hx hb dX8_takeNumber_38 (by decide) ?_
      obtain ⟨hP9, hD9⟩ := pd_sub [((a 0), .inr (8, (fX8 a (nI tx) (nI pl_4) (nI t0__3) wd (nI we) nu__3 (nI t0__1) (nI rd) ts (nI ru) (nI rw) (nI ca) df db sd))), (aI k (a 5) 240 ftext)] [0, 1] hP hD (by decide) rfl
      exact W.iret (v := 2) hx hb hr (fun t ht hW => ⟨⟨2, (t0__3, nu__3, (nI t0__1), (nI pl_4)), rfl, ⟨_, rfl, .inr (.inr ⟨rfl, _, (nuR_F hw_1.1).trans hq_4, rfl⟩), by omega, by omega⟩, by rw [ht]; exact hP9, hD9⟩, hS.F ht⟩) hS.2.2 dX8_takeNumber_50
  · refine lv_if_eq (tgt := 41) hx hb dX8_takeNumber_24 (by decide) (fun _ => ?_) (fun h => absurd (by decide) h)
    refine lv_aload_n hx hb dX8_takeNumber_41 rfl (lv_at hl 1 rfl) ?_
    refine lv_iconst (v := 1) hx hb dX8_takeNumber_42 (by decide) ?_
    refine lv_aload_n hx hb dX8_takeNumber_43 rfl (lv_at hl 1 rfl) ?_
    refine va_get (D := D) (ci := 8) (v := .int (nI t0__1)) (C := RX8) (T := TX8) (N := 44) hx hb hts inX8 hown hK hP 0 rfl rfl 7 (by decide) (hts _ tw_980) (fun _ h9 => h9) rfl dX8_takeNumber_44 ?_
    refine rw_i (D := D) (wr := [(aI k (a 5) 240 ftext)]) (va_runV (As := [.int 1, .int (nI t0__1)]) (rest := []) ⟨hx, hb, hml, hown, hts⟩ ((n_fails l D k st lo a tx t0__1 we rd ru rw ca fp wd nu (nI t0__1) ts df db sd 1 (nI t0__1)) H.size) (cwV 2 hts (gV tw_1151 tw_1153 tw_31 tw_87 tw_1154) rfl rfl rfl (by decide +kernel) ⟨Nat.le_of_ble_eq_true rfl, Nat.le_of_ble_eq_true rfl⟩) (pV hS hAlo hlo hP hK (va_Dlo hD hAlo) hZ [0] (by decide) rfl (ci := 8) (q := (RX8, TX8, 44)) (q0 := 0) rfl rfl) rfl rfl hl.1 rfl (lv_room (Nat.le_of_ble_eq_true rfl)) dX8_takeNumber_47 ⟨Nat.le_of_ble_eq_true rfl, Nat.le_of_ble_eq_true rfl⟩) hS hA hP hD [0] [1] rfl rfl (by decide) (by decide) (fun r_5 u H locs hw_5 hP hD hS => ?_)
    obtain ⟨fp__5, rfl⟩ : ∃ z, z = u := ⟨_, rfl⟩
    have hQ9 := pd_mk [(aI k (a 5) 240 ftext), ((a 0), .inr (8, (fX8 a (nI tx) fp__5 (nI t0__1) wd (nI we) nu (nI t0__1) (nI rd) ts (nI ru) (nI rw) (nI ca) df db sd)))] hP hD
    clear hP hD
    obtain ⟨hP, hD⟩ := hQ9
    try dsimp only at hw_5
    obtain ⟨hs0_6, hs1_6⟩ := hw_5
    replace hs0_6 := hs0_6.symm
    subst hs0_6
    replace hs1_6 := hs1_6.symm
    subst hs1_6
    obtain ⟨hP9, hD9⟩ := pd_sub [((a 0), .inr (8, (fX8 a (nI tx) (nI t0__1) (nI t0__1) wd (nI we) nu (nI t0__1) (nI rd) ts (nI ru) (nI rw) (nI ca) df db sd))), (aI k (a 5) 240 ftext)] [1, 0] hP hD (by decide) rfl
    exact W.iret (v := 1) hx hb hr (fun t ht hW => ⟨⟨1, (t0__1, nu, (nI t0__1), (nI t0__1)), rfl, ⟨_, rfl, .inr (.inl ⟨rfl, _, (nuR_F hw_1.1).trans (nuS_1 (nn_fe (by rw [← hw_1.2.1]; exact hw_2))), rfl⟩), by omega, by omega⟩, by rw [ht]; exact hP9, hD9⟩, hS.F ht⟩) hS.2.2 dX8_takeNumber_50


set_option maxHeartbeats 4000000 in
set_option maxRecDepth 100000 in
theorem n_takeSigned (l : Launch) (D : va_G) (k : Nat → ClassId) (st : Nat → Nat) (lo : Nat) (a : Nat → Nat) (tx : Nat) (t0 : Nat) (we : Nat) (rd : Nat) (ru : Nat) (rw : Nat) (ca : Nat) (fp : Int32) (wd : Int64) (nu : Int32) (na : Int32) (ts : Int32) (df : Int32) (db : Int32) (sd : Int32) (ftext : Nat → Int32) (p0 : Int32) (ht : t0 ≤ tx) (htx : tx ≤ 240) : CWi l D k st lo yX8_takeSigned cX8_takeSigned 4 (some .int) ({ frames := 2, cells := 0, slots := 0, locals := 51 }) 0 0 [.ref (a 0), .int p0] [((a 0), .inr (8, (fX8 a (nI tx) fp (nI t0) wd (nI we) nu na (nI rd) ts (nI ru) (nI rw) (nI ca) df db sd))), (aI k (a 5) 240 ftext)] (fun (r : Int32) (u : Nat × Int32 × Int32 × Int32) => match u with | (t0_, nu_, na_, fp_) => ∃ q : Nat, na_ = nI q ∧ ((r = 0 ∧ nuR ftext tx true (-p0) p0 t0 = (0, 0, t0_, nu_, q) ∧ fp_ = fp) ∨ (r = 1 ∧ ∃ pl : Nat, nuR ftext tx true (-p0) p0 t0 = (1, pl, t0_, 0, q) ∧ fp_ = nI pl) ∨ (r = 2 ∧ ∃ pl : Nat, nuR ftext tx true (-p0) p0 t0 = (2, pl, t0_, 0, q) ∧ fp_ = nI pl)) ∧ t0 ≤ t0_ ∧ t0_ ≤ tx) (fun (u : Nat × Int32 × Int32 × Int32) => match u with | (t0_, nu_, na_, fp_) => [((a 0), .inr (8, (fX8 a (nI tx) fp_ (nI t0_) wd (nI we) nu_ na_ (nI rd) ts (nI ru) (nI rw) (nI ca) df db sd))), (aI k (a 5) 240 ftext)]) := by
  intro sz
  refine Met.ofW (cc := cX8_takeSigned) (maxL := 4) (ret := (some .int)) (by decide) rfl ?_
  intro p e s m args below meth c s₁ B hml hv
  obtain ⟨rfl, hsz, hlo, hP, hK, hDL, hZ⟩ := hv
  have hx := B.exec
  have hb := B.bytes
  have hr := B.returns
  have hts := WS_ts B.pre
  have hown : s.vm.findClass RX8 = some m.cls := findClass_of_methodNamed B.named
  have hlocks := B.notSynchronized
  subst hsz
  have hD := hDL.self (sz := s.heap.size)
  have hAlo := A_lo hDL hlo
  generalize hAe : va_A [((a 0), .inr (8, (fX8 a (nI tx) fp (nI t0) wd (nI we) nu na (nI rd) ts (nI ru) (nI rw) (nI ca) df db sd))), (aI k (a 5) 240 ftext)] s.heap.size = A at hD hAlo ⊢
  have hA : ∀ q : Nat, s.heap.size ≤ q → A q := fun q h => by rw [← hAe]; exact Or.inr h
  have hS : va_S A s.heap s.heap [] := va_S.rf
  have hl := lv_entry ([.ref (a 0), .int p0]) (n := 4) (Nat.le_of_ble_eq_true rfl)
  rw [lg_entry_eq]
  generalize (lg_sl ([.ref (a 0), .int p0]) ++ List.replicate (4 - (lg_sl ([.ref (a 0), .int p0])).length) Slot.unset).toArray = ls at hl ⊢
  have hl : lv_has ls 4 [(0, .ref (a 0)), (1, .int p0)] := hl
  refine lv_aload_n hx hb dX8_takeSigned_0 rfl (lv_at hl 0 rfl) ?_
  refine rw_i (D := D) (wr := []) (va_runV (As := []) (rest := []) ⟨hx, hb, hml, hown, hts⟩ ((n_here l D k st lo a tx t0 we rd ru rw ca fp wd nu na ts df db sd ftext (by first | assumption | omega) (by first | assumption | omega)) s.heap.size) (cwV 0 hts (gV tw_1120 tw_1122 tw_27 tw_87 tw_1123) rfl rfl rfl (by decide +kernel) ⟨Nat.le_of_ble_eq_true rfl, Nat.le_of_ble_eq_true rfl⟩) (pV hS hAlo hlo hP hK (va_Dlo hD hAlo) hZ [0, 1] (by decide) rfl (ci := 8) (q := (RX8, TX8, 44)) (q0 := 0) rfl rfl) rfl rfl hl.1 rfl (lv_room (Nat.le_of_ble_eq_true rfl)) dX8_takeSigned_1 ⟨Nat.le_of_ble_eq_true rfl, Nat.le_of_ble_eq_true rfl⟩) hS hA hP hD [0, 1] [] rfl rfl (by decide) (by decide) (fun r_1 u H locs hw_1 hP hD hS => ?_)
  obtain ⟨t0__1, rfl⟩ : ∃ z, z = u := ⟨_, rfl⟩
  have hQ9 := pd_mk [((a 0), .inr (8, (fX8 a (nI tx) fp (nI t0__1) wd (nI we) nu na (nI rd) ts (nI ru) (nI rw) (nI ca) df db sd))), (aI k (a 5) 240 ftext)] hP hD
  clear hP hD
  obtain ⟨hP, hD⟩ := hQ9
  try dsimp only at hw_1
  refine lv_istore_n (lv' := [(2, .int r_1), (0, .ref (a 0)), (1, .int p0)]) hx hb dX8_takeSigned_4 rfl hl (by decide) rfl (fun ls hl => ?_)
  refine lv_aload_n hx hb dX8_takeSigned_5 rfl (lv_at hl 1 rfl) ?_
  refine lv_aload_n hx hb dX8_takeSigned_6 rfl (lv_at hl 1 rfl) ?_
  refine va_get (D := D) (ci := 8) (v := .int (nI t0__1)) (C := RX8) (T := TX8) (N := 44) hx hb hts inX8 hown hK hP 0 rfl rfl 7 (by decide) (hts _ tw_980) (fun _ h9 => h9) rfl dX8_takeSigned_7 ?_
  refine va_put (D := D) (ci := 8) (v := .int (nI t0__1)) (ty := .int) (C := RX8) (T := TX8) (N := 44) hx hb hts inX8 tyX8 tyX8_ok nmX8 hown hK hP hD hS 0 rfl rfl 11 (by decide) (hts _ tw_984) (fun _ h9 => h9) rfl (by decide +kernel) rfl rfl (Nat.le_of_ble_eq_true rfl) dX8_takeSigned_10 (fun H locs hP hD hS => ?_)
  have hQ9 := pd_mk [((a 0), .inr (8, (fX8 a (nI tx) fp (nI t0__1) wd (nI we) nu (nI t0__1) (nI rd) ts (nI ru) (nI rw) (nI ca) df db sd))), (aI k (a 5) 240 ftext)] hP hD
  clear hP hD
  obtain ⟨hP, hD⟩ := hQ9
  refine lv_iload_n hx hb dX8_takeSigned_13 rfl (lv_at hl 0 rfl) ?_
  refine lv_bipush (v := 45) hx hb dX8_takeSigned_14 (by decide) ?_
  refine lv_icmp_ne (tgt := 23) hx hb dX8_takeSigned_16 (by decide) (fun c_2 => ?_) (fun c_2 => ?_)
  · refine lv_iconst (v := 0) hx hb dX8_takeSigned_23 (by decide) ?_
    refine lv_istore_n (lv' := [(3, .int 0), (2, .int r_1), (0, .ref (a 0)), (1, .int p0)]) hx hb dX8_takeSigned_24 rfl hl (by decide) rfl (fun ls hl => ?_)
    refine lv_aload_n hx hb dX8_takeSigned_25 rfl (lv_at hl 2 rfl) ?_
    refine lv_dup hx hb dX8_takeSigned_26 rfl ?_
    refine va_get (D := D) (ci := 8) (v := .int (nI t0__1)) (C := RX8) (T := TX8) (N := 44) hx hb hts inX8 hown hK hP 0 rfl rfl 7 (by decide) (hts _ tw_980) (fun _ h9 => h9) rfl dX8_takeSigned_27 ?_
    refine lv_iload_n hx hb dX8_takeSigned_30 rfl (lv_at hl 0 rfl) ?_
    refine lv_if_eq (tgt := 38) hx hb dX8_takeSigned_31 (by decide) (fun _ => ?_) (fun h => absurd (by decide) h)
    refine lv_iconst (v := 0) hx hb dX8_takeSigned_38 (by decide) ?_
    refine lv_iadd hx hb dX8_takeSigned_39 ?_
    refine lv_ti (y := (nI (t0__1 + 0))) (nI_add t0__1 0) ?_
    refine va_put (D := D) (ci := 8) (v := .int (nI (t0__1 + 0))) (ty := .int) (C := RX8) (T := TX8) (N := 44) hx hb hts inX8 tyX8 tyX8_ok nmX8 hown hK hP hD hS 0 rfl rfl 7 (by decide) (hts _ tw_980) (fun _ h9 => h9) rfl (by decide +kernel) rfl rfl (Nat.le_of_ble_eq_true rfl) dX8_takeSigned_40 (fun H locs hP hD hS => ?_)
    have hQ9 := pd_mk [((a 0), .inr (8, (fX8 a (nI tx) fp (nI (t0__1 + 0)) wd (nI we) nu (nI t0__1) (nI rd) ts (nI ru) (nI rw) (nI ca) df db sd))), (aI k (a 5) 240 ftext)] hP hD
    clear hP hD
    obtain ⟨hP, hD⟩ := hQ9
    refine lv_aload_n hx hb dX8_takeSigned_43 rfl (lv_at hl 2 rfl) ?_
    refine lv_aload_n hx hb dX8_takeSigned_44 rfl (lv_at hl 2 rfl) ?_
    refine va_get (D := D) (ci := 8) (v := .int (nI t0__1)) (C := RX8) (T := TX8) (N := 44) hx hb hts inX8 hown hK hP 0 rfl rfl 11 (by decide) (hts _ tw_984) (fun _ h9 => h9) rfl dX8_takeSigned_45 ?_
    refine lv_iload_n hx hb dX8_takeSigned_48 rfl (lv_at hl 3 rfl) ?_
    refine lv_ineg hx hb dX8_takeSigned_49 ?_
    refine lv_topi (fun x_3 ex_3 => ?_)
    refine lv_iload_n hx hb dX8_takeSigned_50 rfl (lv_at hl 3 rfl) ?_
    refine lv_iload_n hx hb dX8_takeSigned_51 rfl (lv_at hl 0 rfl) ?_
    refine rw_i (D := D) (wr := []) (va_runV (As := [.int (nI t0__1), .int x_3, .int p0, .int 0]) (rest := []) ⟨hx, hb, hml, hown, hts⟩ ((n_takeFigures_0 l D k st lo a tx (t0__1 + 0) we rd ru rw ca fp wd nu (nI t0__1) ts df db sd ftext t0__1 x_3 p0 (by first | assumption | omega) (by first | assumption | omega)) H.size) (cwV 4 hts (gV tw_1165 tw_1167 tw_34 tw_87 tw_1168) rfl rfl rfl (by decide +kernel) ⟨Nat.le_of_ble_eq_true rfl, Nat.le_of_ble_eq_true rfl⟩) (pV hS hAlo hlo hP hK (va_Dlo hD hAlo) hZ [0, 1] (by decide) rfl (ci := 8) (q := (RX8, TX8, 44)) (q0 := 0) rfl rfl) rfl rfl hl.1 rfl (lv_room (Nat.le_of_ble_eq_true rfl)) dX8_takeSigned_52 ⟨Nat.le_of_ble_eq_true rfl, Nat.le_of_ble_eq_true rfl⟩) hS hA hP hD [0, 1] [] rfl rfl (by decide) (by decide) (fun r_4 u H locs hw_4 hP hD hS => ?_)
    obtain ⟨t0__4, nu__4, fp__4⟩ := u
    have hQ9 := pd_mk [((a 0), .inr (8, (fX8 a (nI tx) fp__4 (nI t0__4) wd (nI we) nu__4 (nI t0__1) (nI rd) ts (nI ru) (nI rw) (nI ca) df db sd))), (aI k (a 5) 240 ftext)] hP hD
    clear hP hD
    obtain ⟨hP, hD⟩ := hQ9
    try dsimp only at hw_4
    rcases hw_4 with ⟨⟨rfl, hq_5, hfp_5⟩ | ⟨rfl, pl_5, hq_5, rfl⟩ | ⟨rfl, pl_5, hq_5, rfl⟩, hw_4⟩
    · replace hfp_5 := hfp_5.symm
      subst hfp_5
      obtain ⟨hP9, hD9⟩ := pd_sub [((a 0), .inr (8, (fX8 a (nI tx) fp (nI t0__4) wd (nI we) nu__4 (nI t0__1) (nI rd) ts (nI ru) (nI rw) (nI ca) df db sd))), (aI k (a 5) 240 ftext)] [0, 1] hP hD (by decide) rfl
      exact W.iret (v := 0) hx hb hr (fun t ht hW => ⟨⟨0, (t0__4, nu__4, (nI t0__1), fp), rfl, ⟨_, rfl, .inl ⟨rfl, (by rw [← ex_3]; exact (nuR_B hw_1.2.1 c_2 hw_1.1).trans hq_5), rfl⟩, by omega, by omega⟩, by rw [ht]; exact hP9, hD9⟩, hS.F ht⟩) hS.2.2 dX8_takeSigned_55
    · obtain ⟨hP9, hD9⟩ := pd_sub [((a 0), .inr (8, (fX8 a (nI tx) (nI pl_5) (nI t0__4) wd (nI we) nu__4 (nI t0__1) (nI rd) ts (nI ru) (nI rw) (nI ca) df db sd))), (aI k (a 5) 240 ftext)] [0, 1] hP hD (by decide) rfl
      exact W.iret (v := 1) hx hb hr (fun t ht hW => ⟨⟨1, (t0__4, nu__4, (nI t0__1), (nI pl_5)), rfl, ⟨_, rfl, .inr (.inl ⟨rfl, _, (by rw [← ex_3]; exact (nuR_B hw_1.2.1 c_2 hw_1.1).trans hq_5), rfl⟩), by omega, by omega⟩, by rw [ht]; exact hP9, hD9⟩, hS.F ht⟩) hS.2.2 dX8_takeSigned_55
    · obtain ⟨hP9, hD9⟩ := pd_sub [((a 0), .inr (8, (fX8 a (nI tx) (nI pl_5) (nI t0__4) wd (nI we) nu__4 (nI t0__1) (nI rd) ts (nI ru) (nI rw) (nI ca) df db sd))), (aI k (a 5) 240 ftext)] [0, 1] hP hD (by decide) rfl
      exact W.iret (v := 2) hx hb hr (fun t ht hW => ⟨⟨2, (t0__4, nu__4, (nI t0__1), (nI pl_5)), rfl, ⟨_, rfl, .inr (.inr ⟨rfl, _, (by rw [← ex_3]; exact (nuR_B hw_1.2.1 c_2 hw_1.1).trans hq_5), rfl⟩), by omega, by omega⟩, by rw [ht]; exact hP9, hD9⟩, hS.F ht⟩) hS.2.2 dX8_takeSigned_55
  · have hlt_6 : t0__1 < tx := by rcases Nat.lt_or_ge (t0__1) tx with h | h; exact h; exact absurd (c_2.symm.trans (hw_1.2.1.trans (byF_out (by omega)))) (by decide)
    refine lv_iconst (v := 1) hx hb dX8_takeSigned_19 (by decide) ?_
    refine lv_goto (tgt := 24) hx hb dX8_takeSigned_20 (by decide) ?_
    refine lv_istore_n (lv' := [(3, .int 1), (2, .int r_1), (0, .ref (a 0)), (1, .int p0)]) hx hb dX8_takeSigned_24 rfl hl (by decide) rfl (fun ls hl => ?_)
    refine lv_aload_n hx hb dX8_takeSigned_25 rfl (lv_at hl 2 rfl) ?_
    refine lv_dup hx hb dX8_takeSigned_26 rfl ?_
    refine va_get (D := D) (ci := 8) (v := .int (nI t0__1)) (C := RX8) (T := TX8) (N := 44) hx hb hts inX8 hown hK hP 0 rfl rfl 7 (by decide) (hts _ tw_980) (fun _ h9 => h9) rfl dX8_takeSigned_27 ?_
    refine lv_iload_n hx hb dX8_takeSigned_30 rfl (lv_at hl 0 rfl) ?_
    refine lv_if_eq (tgt := 38) hx hb dX8_takeSigned_31 (by decide) (fun h => absurd h (by decide)) (fun _ => ?_)
    refine lv_iconst (v := 1) hx hb dX8_takeSigned_34 (by decide) ?_
    refine lv_goto (tgt := 39) hx hb dX8_takeSigned_35 (by decide) ?_
    refine lv_iadd hx hb dX8_takeSigned_39 ?_
    refine lv_ti (y := (nI (t0__1 + 1))) (nI_add t0__1 1) ?_
    refine va_put (D := D) (ci := 8) (v := .int (nI (t0__1 + 1))) (ty := .int) (C := RX8) (T := TX8) (N := 44) hx hb hts inX8 tyX8 tyX8_ok nmX8 hown hK hP hD hS 0 rfl rfl 7 (by decide) (hts _ tw_980) (fun _ h9 => h9) rfl (by decide +kernel) rfl rfl (Nat.le_of_ble_eq_true rfl) dX8_takeSigned_40 (fun H locs hP hD hS => ?_)
    have hQ9 := pd_mk [((a 0), .inr (8, (fX8 a (nI tx) fp (nI (t0__1 + 1)) wd (nI we) nu (nI t0__1) (nI rd) ts (nI ru) (nI rw) (nI ca) df db sd))), (aI k (a 5) 240 ftext)] hP hD
    clear hP hD
    obtain ⟨hP, hD⟩ := hQ9
    refine lv_aload_n hx hb dX8_takeSigned_43 rfl (lv_at hl 2 rfl) ?_
    refine lv_aload_n hx hb dX8_takeSigned_44 rfl (lv_at hl 2 rfl) ?_
    refine va_get (D := D) (ci := 8) (v := .int (nI t0__1)) (C := RX8) (T := TX8) (N := 44) hx hb hts inX8 hown hK hP 0 rfl rfl 11 (by decide) (hts _ tw_984) (fun _ h9 => h9) rfl dX8_takeSigned_45 ?_
    refine lv_iload_n hx hb dX8_takeSigned_48 rfl (lv_at hl 3 rfl) ?_
    refine lv_ineg hx hb dX8_takeSigned_49 ?_
    refine lv_topi (fun x_7 ex_7 => ?_)
    refine lv_iload_n hx hb dX8_takeSigned_50 rfl (lv_at hl 3 rfl) ?_
    refine lv_iload_n hx hb dX8_takeSigned_51 rfl (lv_at hl 0 rfl) ?_
    refine rw_i (D := D) (wr := []) (va_runV (As := [.int (nI t0__1), .int x_7, .int p0, .int 1]) (rest := []) ⟨hx, hb, hml, hown, hts⟩ ((n_takeFigures_1 l D k st lo a tx (t0__1 + 1) we rd ru rw ca fp wd nu (nI t0__1) ts df db sd ftext t0__1 x_7 p0 (by first | assumption | omega) (by first | assumption | omega)) H.size) (cwV 4 hts (gV tw_1165 tw_1167 tw_34 tw_87 tw_1168) rfl rfl rfl (by decide +kernel) ⟨Nat.le_of_ble_eq_true rfl, Nat.le_of_ble_eq_true rfl⟩) (pV hS hAlo hlo hP hK (va_Dlo hD hAlo) hZ [0, 1] (by decide) rfl (ci := 8) (q := (RX8, TX8, 44)) (q0 := 0) rfl rfl) rfl rfl hl.1 rfl (lv_room (Nat.le_of_ble_eq_true rfl)) dX8_takeSigned_52 ⟨Nat.le_of_ble_eq_true rfl, Nat.le_of_ble_eq_true rfl⟩) hS hA hP hD [0, 1] [] rfl rfl (by decide) (by decide) (fun r_8 u H locs hw_8 hP hD hS => ?_)
    obtain ⟨t0__8, nu__8, fp__8⟩ := u
    have hQ9 := pd_mk [((a 0), .inr (8, (fX8 a (nI tx) fp__8 (nI t0__8) wd (nI we) nu__8 (nI t0__1) (nI rd) ts (nI ru) (nI rw) (nI ca) df db sd))), (aI k (a 5) 240 ftext)] hP hD
    clear hP hD
    obtain ⟨hP, hD⟩ := hQ9
    try dsimp only at hw_8
    rcases hw_8 with ⟨⟨rfl, hq_9, hfp_9⟩ | ⟨rfl, pl_9, hq_9, rfl⟩ | ⟨rfl, pl_9, hq_9, rfl⟩, hw_8⟩
    · replace hfp_9 := hfp_9.symm
      subst hfp_9
      obtain ⟨hP9, hD9⟩ := pd_sub [((a 0), .inr (8, (fX8 a (nI tx) fp (nI t0__8) wd (nI we) nu__8 (nI t0__1) (nI rd) ts (nI ru) (nI rw) (nI ca) df db sd))), (aI k (a 5) 240 ftext)] [0, 1] hP hD (by decide) rfl
      exact W.iret (v := 0) hx hb hr (fun t ht hW => ⟨⟨0, (t0__8, nu__8, (nI t0__1), fp), rfl, ⟨_, rfl, .inl ⟨rfl, (by rw [← ex_7]; exact (nuR_T hw_1.2.1 c_2 hw_1.1).trans hq_9), rfl⟩, by omega, by omega⟩, by rw [ht]; exact hP9, hD9⟩, hS.F ht⟩) hS.2.2 dX8_takeSigned_55
    · obtain ⟨hP9, hD9⟩ := pd_sub [((a 0), .inr (8, (fX8 a (nI tx) (nI pl_9) (nI t0__8) wd (nI we) nu__8 (nI t0__1) (nI rd) ts (nI ru) (nI rw) (nI ca) df db sd))), (aI k (a 5) 240 ftext)] [0, 1] hP hD (by decide) rfl
      exact W.iret (v := 1) hx hb hr (fun t ht hW => ⟨⟨1, (t0__8, nu__8, (nI t0__1), (nI pl_9)), rfl, ⟨_, rfl, .inr (.inl ⟨rfl, _, (by rw [← ex_7]; exact (nuR_T hw_1.2.1 c_2 hw_1.1).trans hq_9), rfl⟩), by omega, by omega⟩, by rw [ht]; exact hP9, hD9⟩, hS.F ht⟩) hS.2.2 dX8_takeSigned_55
    · obtain ⟨hP9, hD9⟩ := pd_sub [((a 0), .inr (8, (fX8 a (nI tx) (nI pl_9) (nI t0__8) wd (nI we) nu__8 (nI t0__1) (nI rd) ts (nI ru) (nI rw) (nI ca) df db sd))), (aI k (a 5) 240 ftext)] [0, 1] hP hD (by decide) rfl
      exact W.iret (v := 2) hx hb hr (fun t ht hW => ⟨⟨2, (t0__8, nu__8, (nI t0__1), (nI pl_9)), rfl, ⟨_, rfl, .inr (.inr ⟨rfl, _, (by rw [← ex_7]; exact (nuR_T hw_1.2.1 c_2 hw_1.1).trans hq_9), rfl⟩), by omega, by omega⟩, by rw [ht]; exact hP9, hD9⟩, hS.F ht⟩) hS.2.2 dX8_takeSigned_55

theorem f_glueP4 : True := trivial
/-! clauses of a street's text -/
def doF (b : Nat → Int32) (n rd t : Nat) : Nat × Nat × Nat × Nat × Int32 × Int32 :=
  match nuR b n false 1 24 t with
  | (e1, p1, t1, v1, q1) =>
    if e1 = 0 then
      if rd + v1.toNatClampNeg ≤ 24 then
        match wdR b n (sByt.getD 10 []) t1 with
        | (e2, p2, t2) =>
          if e2 = 0 then
            match nuR b n false 0 100 t2 with
            | (e3, p3, t3, v3, _) =>
              if e3 = 0 then
                match wdR b n (sByt.getD 11 []) t3 with
                | (e4, p4, t4) =>
                  if e4 = 0 then
                    match nuR b n false 0 999 t4 with
                    | (e5, p5, t5, v5, _) => if e5 = 0 then (0, 0, t5, v1.toNatClampNeg, v3, v5) else (e5, p5, t5, 0, 0, 0)
                  else (e4, p4, t4, 0, 0, 0)
              else (e3, p3, t3, 0, 0, 0)
          else (e2, p2, t2, 0, 0, 0)
      else (4, q1, t1, 0, 0, 0)
    else (e1, p1, t1, 0, 0, 0)
def doC (b : Nat → Int32) (n rd t : Nat) : Nat × Nat × Nat × Nat × Int32 × Int32 :=
  match doF b n rd t with
  | (e, p, t1, m, v3, v5) =>
    if e = 0 then
      match smR b n t1 with
      | (e6, p6, t6) => if e6 = 0 then (0, 0, t6, m, v3, v5) else (e6, p6, t6, 0, 0, 0)
    else (e, p, t1, 0, 0, 0)
def siF (b : Nat → Int32) (n k t : Nat) : Nat × Nat × Nat × Int32 × Int32 :=
  match nuR b n (decide (k = 1)) (zLE k) (zMO k) t with
  | (e1, p1, t1, v1, _) =>
    if e1 = 0 then
      if k = 7 then
        match wdR b n (sByt.getD 8 []) t1 with
        | (e2, p2, t2) =>
          if e2 = 0 then
            match nuR b n false 0 3 t2 with
            | (e3, p3, t3, v3, _) => if e3 = 0 then (0, 0, t3, v1, v3) else (e3, p3, t3, 0, 0)
          else (e2, p2, t2, 0, 0)
      else (0, 0, t1, v1, 0)
    else (e1, p1, t1, 0, 0)
def siC (b : Nat → Int32) (n k t : Nat) : Nat × Nat × Nat × Int32 × Int32 :=
  match siF b n k t with
  | (e, p, t1, v, v2) =>
    if e = 0 then
      match smR b n t1 with
      | (e6, p6, t6) => if e6 = 0 then (0, 0, t6, v, v2) else (e6, p6, t6, 0, 0)
    else (e, p, t1, 0, 0)
/-- which clause the letters name: the number that told() asks for; 10: none -/
def kwN (L : List Int32) : Nat :=
  if L = (sByt.getD 0 []) then 0 else if L = (sByt.getD 1 []) then 1 else if L = (sByt.getD 2 []) then 2 else if L = (sByt.getD 3 []) then 3 else if L = (sByt.getD 4 []) then 4 else if L = (sByt.getD 5 []) then 5 else if L = (sByt.getD 6 []) then 6 else if L = (sByt.getD 7 []) then 7 else if L = (sByt.getD 9 []) then 9 else 10
abbrev PSt : Type := Nat × (Nat → Int32) × (Nat → Int32) × (Nat → Int32) × (Nat → Bool)
def filF (f : Nat → Int32) (rd m : Nat) (v : Int32) : Nat → Int32 := fun j => if rd ≤ j ∧ j < rd + m then v else f j
def setB (f : Nat → Bool) (k : Nat) : Nat → Bool := fun j => if j = k then true else f j
/-- one clause: fault, its place, where one stands, what is told -/
def clF (b : Nat → Int32) (n t : Nat) (σ : PSt) : Nat × Nat × Nat × PSt :=
  if kwN (letA b n (skA b n t)) = 10 then (1, skA b n t, skA b n t, σ)
  else if kwN (letA b n (skA b n t)) = 0 then
    match doC b n σ.1 (skA b n t + (letA b n (skA b n t)).length) with
    | (e, p, t1, m, v3, v5) => if e = 0 then (0, 0, t1, (σ.1 + m, σ.2.1, filF σ.2.2.1 σ.1 m v3, filF σ.2.2.2.1 σ.1 m v5, σ.2.2.2.2)) else (e, p, t1, σ)
  else if σ.2.2.2.2 (kwN (letA b n (skA b n t))) = true then (3, skA b n t, skA b n t, σ)
  else
    match siC b n (kwN (letA b n (skA b n t))) (skA b n t + (letA b n (skA b n t)).length) with
    | (e, p, t1, v, v2) =>
      if e = 0 then (0, 0, t1, (σ.1, (if kwN (letA b n (skA b n t)) = 7 then upd (upd σ.2.1 7 v) 8 v2 else upd σ.2.1 (kwN (letA b n (skA b n t))) v), σ.2.2.1, σ.2.2.2.1, setB σ.2.2.2.2 (kwN (letA b n (skA b n t)))))
      else (e, p, t1, σ)
/-- clause by clause -/
def stL (b : Nat → Int32) (n : Nat) : Nat → Nat → PSt → Nat × Nat × PSt
  | 0, _, σ => (0, 0, σ)
  | k + 1, t, σ =>
    if skA b n t < n then
      if (clF b n t σ).1 = 0 then stL b n k (clF b n t σ).2.2.1 (clF b n t σ).2.2.2 else ((clF b n t σ).1, (clF b n t σ).2.1, σ)
    else (0, 0, σ)
def nG (f : Nat → Int32) : Nat → Int32 := fun j => if 1 ≤ j ∧ j ≤ 9 then f j else 0
def clp (n : Nat) (f : Nat → Int32) : Nat → Int32 := fun j => if j < n then f j else 0
def st0 : PSt := (0, nG zNT, fun _ => 0, fun _ => 0, fun _ => false)
/-- the whole text of a street, from t on -/
def stF (b : Nat → Int32) (n t : Nat) : Nat × Nat × PSt :=
  if (stL b n 240 t st0).1 = 0 ∧ (stL b n 240 t st0).2.2.1 = 0 then (1, n, (stL b n 240 t st0).2.2) else stL b n 240 t st0
theorem sf_ok {b : Nat → Int32} {n t : Nat} {σ : PSt} (h : stL b n 240 t st0 = (0, 0, σ)) (hn : 1 ≤ σ.1) : stF b n t = (0, 0, σ) := by
  unfold stF
  rw [h, if_neg (fun q => absurd (show σ.1 = 0 from q.2) (by omega))]
theorem sf_no {b : Nat → Int32} {n t : Nat} {σ : PSt} (h : stL b n 240 t st0 = (0, 0, σ)) (hn : σ.1 = 0) : (stF b n t).1 = 1 ∧ (stF b n t).2.1 = n := by
  unfold stF
  rw [h, if_pos ⟨rfl, hn⟩]
  exact ⟨rfl, rfl⟩
theorem sf_er {b : Nat → Int32} {n t e p : Nat} (h : (stL b n 240 t st0).1 = e) (h1 : 1 ≤ e) (hp : (stL b n 240 t st0).2.1 = p) : (stF b n t).1 = e ∧ (stF b n t).2.1 = p := by
  unfold stF
  rw [if_neg (fun q => absurd (h.symm.trans q.1) (by omega))]
  exact ⟨h, hp⟩
theorem clp_fil {n m : Nat} {f : Nat → Int32} {v : Int32} {g : Nat → Int32} (h : ∀ j, g j = if n ≤ j ∧ j < n + m then v else f j) : clp (n + m) g = filF (clp n f) n m v := by
  funext j
  show (if j < n + m then g j else 0) = (if n ≤ j ∧ j < n + m then v else (if j < n then f j else 0))
  rw [h j]
  by_cases h1 : n ≤ j ∧ j < n + m
  · simp only [h1, h1.2, if_true, and_self]
  · by_cases h2 : j < n
    · rw [if_neg h1, if_neg h1, if_pos h2, if_pos (by omega)]
    · rw [if_neg h1, if_neg h1, if_neg h2, if_neg (by omega)]
theorem nG_vv (n n2 see tm : Nat) (g : Nat → Int32) : nG (vv n see tm g) = nG (vv n2 see tm g) := by
  funext j
  unfold nG vv
  by_cases h : 1 ≤ j ∧ j ≤ 9
  · rw [if_pos h, if_pos h, if_neg (show ¬ j = 0 by omega), if_neg (show ¬ j = 0 by omega)]
  · rw [if_neg h, if_neg h]
theorem nG_upd {f : Nat → Int32} {k : Nat} {v : Int32} (hk : 1 ≤ k ∧ k ≤ 9) : nG (upd f k v) = upd (nG f) k v := by
  funext j
  unfold nG upd
  by_cases h : j = k
  · subst h
    rw [if_pos hk, if_pos rfl, if_pos rfl]
  · rw [if_neg h, if_neg h]
theorem fill_step {f g : Nat → Int32} {n i : Nat} {v : Int32} (hi : n ≤ i) (h : ∀ j, g j = if n ≤ j ∧ j < i then v else f j) : ∀ j, upd g i v j = if n ≤ j ∧ j < i + 1 then v else f j := by
  intro j
  unfold upd
  by_cases h1 : j = i
  · rw [if_pos h1, if_pos (by omega)]
  · rw [if_neg h1, h j]
    by_cases h2 : n ≤ j ∧ j < i
    · rw [if_pos h2, if_pos (by omega)]
    · rw [if_neg h2, if_neg (by omega)]


set_option maxHeartbeats 4000000 in
set_option maxRecDepth 100000 in
theorem y_readDoors (l : Launch) (D : va_G) (k : Nat → ClassId) (st : Nat → Nat) (lo : Nat) (h0 : Nat) (h1 : Nat) (h2 : Nat) (h3 : Nat) (h4 : Nat) (n : Nat) (see : Nat) (tm : Nat) (g : Nat → Int32) (ff : Nat → Int32) (fp : Nat → Int32) (x0 : Nat) (x1 : Nat) (tz : Nat) (ta : Nat) (na : Int32) (fn : Int32) (fb : Int32) (fx : Nat → Int32) (ht : ta ≤ tz) (hz : tz ≤ 240) (hn : n ≤ 24) (hf0 : fn = 0) : CWv l D k st lo yX5_readDoors cX5_readDoors 7 none ({ frames := 6, cells := 0, slots := 0, locals := 129 }) 0 0 [.ref h0, .ref x0] [(h0, .inr (5, (fX5 h1 h2 h3 h4))), (aI k h1 10 (vv n see tm g)), (aI k h2 24 ff), (aI k h3 24 fp), (x0, .inr (6, (fX6 x1 (nI tz) (nI ta) na fn fb))), (aB k x1 240 fx)] (fun (u : Nat × (Nat → Int32) × (Nat → Int32) × Nat × Int32 × Int32 × Int32) => match u with | (n_, ff_, fp_, ta_, na_, fn_, fb_) => ((fn_ = 0 ∧ ∃ (m : Nat) (v3 v5 : Int32), doC (bF fx) tz n ta = (0, 0, ta_, m, v3, v5) ∧ n_ = n + m ∧ (∀ j, ff_ j = if n ≤ j ∧ j < n + m then v3 else ff j) ∧ (∀ j, fp_ j = if n ≤ j ∧ j < n + m then v5 else fp j)) ∨ (∃ e pl : Nat, fn_ = nI e ∧ 1 ≤ e ∧ e ≤ 4 ∧ (doC (bF fx) tz n ta).1 = e ∧ (doC (bF fx) tz n ta).2.1 = pl ∧ fb_ = nI pl)) ∧ n_ ≤ 24 ∧ ta ≤ ta_ ∧ ta_ ≤ tz) (fun (u : Nat × (Nat → Int32) × (Nat → Int32) × Nat × Int32 × Int32 × Int32) => match u with | (n_, ff_, fp_, ta_, na_, fn_, fb_) => [(h0, .inr (5, (fX5 h1 h2 h3 h4))), (aI k h1 10 (vv n_ see tm g)), (aI k h2 24 ff_), (aI k h3 24 fp_), (x0, .inr (6, (fX6 x1 (nI tz) (nI ta_) na_ fn_ fb_))), (aB k x1 240 fx)]) := by
  intro sz
  refine Met.ofW (cc := cX5_readDoors) (maxL := 7) (ret := none) (by decide) rfl ?_
  intro p e s m args below meth c s₁ B hml hv
  obtain ⟨rfl, hsz, hlo, hP, hK, hDL, hZ⟩ := hv
  have hx := B.exec
  have hb := B.bytes
  have hr := B.returns
  have hts := WS_ts B.pre
  have hown : s.vm.findClass RX5 = some m.cls := findClass_of_methodNamed B.named
  have hlocks := B.notSynchronized
  subst hsz
  have hD := hDL.self (sz := s.heap.size)
  have hAlo := A_lo hDL hlo
  generalize hAe : va_A [(h0, .inr (5, (fX5 h1 h2 h3 h4))), (aI k h1 10 (vv n see tm g)), (aI k h2 24 ff), (aI k h3 24 fp), (x0, .inr (6, (fX6 x1 (nI tz) (nI ta) na fn fb))), (aB k x1 240 fx)] s.heap.size = A at hD hAlo ⊢
  have hA : ∀ q : Nat, s.heap.size ≤ q → A q := fun q h => by rw [← hAe]; exact Or.inr h
  have hS : va_S A s.heap s.heap [] := va_S.rf
  have hl := lv_entry ([.ref h0, .ref x0]) (n := 7) (Nat.le_of_ble_eq_true rfl)
  rw [lg_entry_eq]
  generalize (lg_sl ([.ref h0, .ref x0]) ++ List.replicate (7 - (lg_sl ([.ref h0, .ref x0])).length) Slot.unset).toArray = ls at hl ⊢
  have hl : lv_has ls 7 [(0, .ref h0), (1, .ref x0)] := hl
  subst hf0
  refine lv_aload_n hx hb dX5_readDoors_0 rfl (lv_at hl 1 rfl) ?_
  refine va_getsN (A := A) hx hb (hZ.2.2.2.2.1.narrow hAlo) hS hown ((hZ.2.2.2.2.2.2.2.2.1.2.1 (RX5, 106, "LastPlace", "LEAST", "[I", RX7) (List.mem_of_getElem? (i := 1) rfl)).use rfl) (fun _ h9 => h9) dX5_readDoors_1 ?_
  refine lv_iconst (v := 0) hx hb dX5_readDoors_4 (by decide) ?_
  refine va_ti (A := A) hx hb (hZ.2.2.2.2.2.1.narrow hAlo) hS (i := 0) (by unfold vp_in; decide) (v := .int 1) rfl dX5_readDoors_5 ?_
  refine va_getsN (A := A) hx hb (hZ.2.2.1.narrow hAlo) hS hown ((hZ.2.2.2.2.2.2.2.2.1.2.1 (RX5, 109, "LastPlace", "MOST", "[I", RX7) (List.mem_of_getElem? (i := 2) rfl)).use rfl) (fun _ h9 => h9) dX5_readDoors_6 ?_
  refine lv_iconst (v := 0) hx hb dX5_readDoors_9 (by decide) ?_
  refine va_ti (A := A) hx hb (hZ.2.2.2.1.narrow hAlo) hS (i := 0) (by unfold vp_in; decide) (v := .int 24) rfl dX5_readDoors_10 ?_
  refine rw_i (D := D) (wr := [(h0, .inr (5, (fX5 h1 h2 h3 h4))), (aI k h1 10 (vv n see tm g)), (aI k h2 24 ff), (aI k h3 24 fp)]) (va_runV (As := [.int 1, .int 24]) (rest := []) ⟨hx, hb, hml, hown, hts⟩ ((y_needNumber l D k st lo x0 x1 tz ta na 0 fb fx 1 24 (by first | assumption | omega) (by first | assumption | omega) (by decide)) s.heap.size) (cwV 2 hts (gV tw_467 tw_468 tw_469 tw_80 tw_470) rfl rfl rfl (by decide +kernel) ⟨Nat.le_of_ble_eq_true rfl, Nat.le_of_ble_eq_true rfl⟩) (pV hS hAlo hlo hP hK (va_Dlo hD hAlo) hZ [4, 5] (by decide) rfl (ci := 6) (q := (RX6, TX6, 6)) (q0 := 0) rfl rfl) rfl rfl hl.1 rfl (lv_room (Nat.le_of_ble_eq_true rfl)) dX5_readDoors_11 ⟨Nat.le_of_ble_eq_true rfl, Nat.le_of_ble_eq_true rfl⟩) hS hA hP hD [4, 5] [0, 1, 2, 3] rfl rfl (by decide) (by decide) (fun r_1 u H locs hw_1 hP hD hS => ?_)
  obtain ⟨ta__1, na__1, fn__1, fb__1⟩ := u
  have hQ9 := pd_mk [(h0, .inr (5, (fX5 h1 h2 h3 h4))), (aI k h1 10 (vv n see tm g)), (aI k h2 24 ff), (aI k h3 24 fp), (x0, .inr (6, (fX6 x1 (nI tz) (nI ta__1) na__1 fn__1 fb__1))), (aB k x1 240 fx)] hP hD
  clear hP hD
  obtain ⟨hP, hD⟩ := hQ9
  try dsimp only at hw_1
  obtain ⟨pl_2, nq_2, rfl, hq_2⟩ := hw_1.2.1 rfl
  rw [show decide ((1 : Int32) < 0) = false from by decide] at hq_2
  rcases hq_2 with ⟨rfl, hq_2⟩ | ⟨rfl, hr_2, rfl, hq_2⟩ | ⟨rfl, hr_2, rfl, hq_2⟩
  · obtain ⟨nb_3, hnl_3, hnh_3, rfl⟩ := inB_ofc (a := 1) (b := 24) (by omega) (by omega) hw_1.2.2.2.2
    refine lv_istore_n (lv' := [(2, .int (nI nb_3)), (0, .ref h0), (1, .ref x0)]) hx hb dX5_readDoors_14 rfl hl (by decide) rfl (fun ls hl => ?_)
    refine lv_aload_n hx hb dX5_readDoors_15 rfl (lv_at hl 1 rfl) ?_
    refine ro_i (D := D) (va_runV (As := []) (rest := []) ⟨hx, hb, hml, hown, hts⟩ ((x_doors l D k st lo h0 h1 h2 h3 h4 n see tm g) H.size) (cwV 0 hts (gV tw_477 tw_478 tw_479 tw_81 tw_480) rfl rfl rfl (by decide +kernel) ⟨Nat.le_of_ble_eq_true rfl, Nat.le_of_ble_eq_true rfl⟩) (pV hS hAlo hlo hP hK (va_Dlo hD hAlo) hZ [0, 1] (by decide) rfl (ci := 5) (q := (RX5, TX5, 4)) (q0 := 0) rfl rfl) rfl rfl hl.1 rfl (lv_room (Nat.le_of_ble_eq_true rfl)) dX5_readDoors_16 ⟨Nat.le_of_ble_eq_true rfl, Nat.le_of_ble_eq_true rfl⟩) hS hA hP (fun r_4 H locs hw_4 hP hS => ?_)
    try dsimp only at hw_4
    subst hw_4
    refine lv_istore_n (lv' := [(3, .int (nI n)), (2, .int (nI nb_3)), (0, .ref h0), (1, .ref x0)]) hx hb dX5_readDoors_19 rfl hl (by decide) rfl (fun ls hl => ?_)
    refine lv_aload_n hx hb dX5_readDoors_20 rfl (lv_at hl 3 rfl) ?_
    refine ro_i (D := D) (va_runV (As := []) (rest := []) ⟨hx, hb, hml, hown, hts⟩ ((x_failed l D k st lo x0 x1 tz ta__1 (nI nq_2) 0 fb__1) H.size) (cwV 0 hts (gV tw_367 tw_368 tw_369 tw_80 tw_370) rfl rfl rfl (by decide +kernel) ⟨Nat.le_of_ble_eq_true rfl, Nat.le_of_ble_eq_true rfl⟩) (pV hS hAlo hlo hP hK (va_Dlo hD hAlo) hZ [4] (by decide) rfl (ci := 6) (q := (RX6, TX6, 6)) (q0 := 0) rfl rfl) rfl rfl hl.1 rfl (lv_room (Nat.le_of_ble_eq_true rfl)) dX5_readDoors_21 ⟨Nat.le_of_ble_eq_true rfl, Nat.le_of_ble_eq_true rfl⟩) hS hA hP (fun r_5 H locs hw_5 hP hS => ?_)
    try dsimp only at hw_5
    obtain rfl : r_5 = 0 := by rcases hw_5 with ⟨h, h2⟩ | ⟨h, h2⟩ <;> first | exact h | exact absurd rfl h2 | exact absurd h2 (by decide)
    refine lv_if_ne (tgt := 44) hx hb dX5_readDoors_24 (by decide) (fun h => absurd (by decide) h) (fun _ => ?_)
    refine lv_iload_n hx hb dX5_readDoors_27 rfl (lv_at hl 0 rfl) ?_
    refine lv_iload_n hx hb dX5_readDoors_28 rfl (lv_at hl 1 rfl) ?_
    refine lv_iadd hx hb dX5_readDoors_29 ?_
    refine lv_ti (y := (nI (n + nb_3))) (nI_add n nb_3) ?_
    refine lv_bipush (v := 24) hx hb dX5_readDoors_30 (by decide) ?_
    refine lv_icmp_le (tgt := 44) hx hb dX5_readDoors_32 (by decide) (fun c_6 => ?_) (fun c_6 => ?_)
    · have c_6 := (nI_leI (a := (n + nb_3)) (b := 24) (by omega) (by omega)).mp c_6
      refine lv_aload_n hx hb dX5_readDoors_44 rfl (lv_at hl 3 rfl) ?_
      refine va_ldcS hx hb hown (hZ.2.2.2.2.2.2.2.2.2.2 (RX5, 118, "free", 10) (List.mem_of_getElem? (i := 10) rfl)) dX5_readDoors_45 ?_
      refine rw_v (D := D) (wr := [(h0, .inr (5, (fX5 h1 h2 h3 h4))), (aI k h1 10 (vv n see tm g)), (aI k h2 24 ff), (aI k h3 24 fp)]) (va_runV (As := [.ref (st (100 + 10))]) (rest := []) ⟨hx, hb, hml, hown, hts⟩ ((y_needWord l D k st lo x0 x1 tz ta__1 (nI nq_2) 0 fb__1 fx 10 (by first | assumption | omega) (by first | assumption | omega) (by first | assumption | omega)) H.size) (cwV 1 hts (gV tw_482 tw_483 tw_484 tw_80 tw_485) rfl rfl rfl (by decide +kernel) ⟨Nat.le_of_ble_eq_true rfl, Nat.le_of_ble_eq_true rfl⟩) (pV hS hAlo hlo hP hK (va_Dlo hD hAlo) hZ [4, 5] (by decide) rfl (ci := 6) (q := (RX6, TX6, 6)) (q0 := 0) rfl rfl) rfl rfl hl.1 rfl (lv_room (Nat.le_of_ble_eq_true rfl)) dX5_readDoors_47 ⟨Nat.le_of_ble_eq_true rfl, Nat.le_of_ble_eq_true rfl⟩) hS hA hP hD [4, 5] [0, 1, 2, 3] rfl rfl (by decide) (by decide) (fun u H locs hw_7 hP hD hS => ?_)
      obtain ⟨ta__7, fn__7, fb__7⟩ := u
      have hQ9 := pd_mk [(h0, .inr (5, (fX5 h1 h2 h3 h4))), (aI k h1 10 (vv n see tm g)), (aI k h2 24 ff), (aI k h3 24 fp), (x0, .inr (6, (fX6 x1 (nI tz) (nI ta__7) (nI nq_2) fn__7 fb__7))), (aB k x1 240 fx)] hP hD
      clear hP hD
      obtain ⟨hP, hD⟩ := hQ9
      try dsimp only at hw_7
      rcases hw_7.2.1 rfl with ⟨rfl, hq_8⟩ | ⟨rfl, pl_8, hq_8, rfl⟩
      · refine lv_aload_n hx hb dX5_readDoors_50 rfl (lv_at hl 3 rfl) ?_
        refine lv_iconst (v := 0) hx hb dX5_readDoors_51 (by decide) ?_
        refine lv_bipush (v := 100) hx hb dX5_readDoors_52 (by decide) ?_
        refine rw_i (D := D) (wr := [(h0, .inr (5, (fX5 h1 h2 h3 h4))), (aI k h1 10 (vv n see tm g)), (aI k h2 24 ff), (aI k h3 24 fp)]) (va_runV (As := [.int 0, .int 100]) (rest := []) ⟨hx, hb, hml, hown, hts⟩ ((y_needNumber l D k st lo x0 x1 tz ta__7 (nI nq_2) 0 fb__7 fx 0 100 (by first | assumption | omega) (by first | assumption | omega) (by decide)) H.size) (cwV 2 hts (gV tw_467 tw_468 tw_469 tw_80 tw_470) rfl rfl rfl (by decide +kernel) ⟨Nat.le_of_ble_eq_true rfl, Nat.le_of_ble_eq_true rfl⟩) (pV hS hAlo hlo hP hK (va_Dlo hD hAlo) hZ [4, 5] (by decide) rfl (ci := 6) (q := (RX6, TX6, 6)) (q0 := 0) rfl rfl) rfl rfl hl.1 rfl (lv_room (Nat.le_of_ble_eq_true rfl)) dX5_readDoors_54 ⟨Nat.le_of_ble_eq_true rfl, Nat.le_of_ble_eq_true rfl⟩) hS hA hP hD [4, 5] [0, 1, 2, 3] rfl rfl (by decide) (by decide) (fun r_9 u H locs hw_9 hP hD hS => ?_)
        obtain ⟨ta__9, na__9, fn__9, fb__9⟩ := u
        have hQ9 := pd_mk [(h0, .inr (5, (fX5 h1 h2 h3 h4))), (aI k h1 10 (vv n see tm g)), (aI k h2 24 ff), (aI k h3 24 fp), (x0, .inr (6, (fX6 x1 (nI tz) (nI ta__9) na__9 fn__9 fb__9))), (aB k x1 240 fx)] hP hD
        clear hP hD
        obtain ⟨hP, hD⟩ := hQ9
        try dsimp only at hw_9
        obtain ⟨pl_10, nq_10, rfl, hq_10⟩ := hw_9.2.1 rfl
        rw [show decide ((0 : Int32) < 0) = false from by decide] at hq_10
        rcases hq_10 with ⟨rfl, hq_10⟩ | ⟨rfl, hr_10, rfl, hq_10⟩ | ⟨rfl, hr_10, rfl, hq_10⟩
        · refine lv_istore (lv' := [(4, .int r_9), (3, .int (nI n)), (2, .int (nI nb_3)), (0, .ref h0), (1, .ref x0)]) hx hb dX5_readDoors_57 hl (by decide) rfl (fun ls hl => ?_)
          refine lv_aload_n hx hb dX5_readDoors_59 rfl (lv_at hl 4 rfl) ?_
          refine va_ldcS hx hb hown (hZ.2.2.2.2.2.2.2.2.2.2 (RX5, 124, "price", 11) (List.mem_of_getElem? (i := 11) rfl)) dX5_readDoors_60 ?_
          refine rw_v (D := D) (wr := [(h0, .inr (5, (fX5 h1 h2 h3 h4))), (aI k h1 10 (vv n see tm g)), (aI k h2 24 ff), (aI k h3 24 fp)]) (va_runV (As := [.ref (st (100 + 11))]) (rest := []) ⟨hx, hb, hml, hown, hts⟩ ((y_needWord l D k st lo x0 x1 tz ta__9 (nI nq_10) 0 fb__9 fx 11 (by first | assumption | omega) (by first | assumption | omega) (by first | assumption | omega)) H.size) (cwV 1 hts (gV tw_482 tw_483 tw_484 tw_80 tw_485) rfl rfl rfl (by decide +kernel) ⟨Nat.le_of_ble_eq_true rfl, Nat.le_of_ble_eq_true rfl⟩) (pV hS hAlo hlo hP hK (va_Dlo hD hAlo) hZ [4, 5] (by decide) rfl (ci := 6) (q := (RX6, TX6, 6)) (q0 := 0) rfl rfl) rfl rfl hl.1 rfl (lv_room (Nat.le_of_ble_eq_true rfl)) dX5_readDoors_62 ⟨Nat.le_of_ble_eq_true rfl, Nat.le_of_ble_eq_true rfl⟩) hS hA hP hD [4, 5] [0, 1, 2, 3] rfl rfl (by decide) (by decide) (fun u H locs hw_11 hP hD hS => ?_)
          obtain ⟨ta__11, fn__11, fb__11⟩ := u
          have hQ9 := pd_mk [(h0, .inr (5, (fX5 h1 h2 h3 h4))), (aI k h1 10 (vv n see tm g)), (aI k h2 24 ff), (aI k h3 24 fp), (x0, .inr (6, (fX6 x1 (nI tz) (nI ta__11) (nI nq_10) fn__11 fb__11))), (aB k x1 240 fx)] hP hD
          clear hP hD
          obtain ⟨hP, hD⟩ := hQ9
          try dsimp only at hw_11
          rcases hw_11.2.1 rfl with ⟨rfl, hq_12⟩ | ⟨rfl, pl_12, hq_12, rfl⟩
          · refine lv_aload_n hx hb dX5_readDoors_65 rfl (lv_at hl 4 rfl) ?_
            refine lv_iconst (v := 0) hx hb dX5_readDoors_66 (by decide) ?_
            refine lv_sipush (v := 999) hx hb dX5_readDoors_67 (by decide) ?_
            refine rw_i (D := D) (wr := [(h0, .inr (5, (fX5 h1 h2 h3 h4))), (aI k h1 10 (vv n see tm g)), (aI k h2 24 ff), (aI k h3 24 fp)]) (va_runV (As := [.int 0, .int 999]) (rest := []) ⟨hx, hb, hml, hown, hts⟩ ((y_needNumber l D k st lo x0 x1 tz ta__11 (nI nq_10) 0 fb__11 fx 0 999 (by first | assumption | omega) (by first | assumption | omega) (by decide)) H.size) (cwV 2 hts (gV tw_467 tw_468 tw_469 tw_80 tw_470) rfl rfl rfl (by decide +kernel) ⟨Nat.le_of_ble_eq_true rfl, Nat.le_of_ble_eq_true rfl⟩) (pV hS hAlo hlo hP hK (va_Dlo hD hAlo) hZ [4, 5] (by decide) rfl (ci := 6) (q := (RX6, TX6, 6)) (q0 := 0) rfl rfl) rfl rfl hl.1 rfl (lv_room (Nat.le_of_ble_eq_true rfl)) dX5_readDoors_70 ⟨Nat.le_of_ble_eq_true rfl, Nat.le_of_ble_eq_true rfl⟩) hS hA hP hD [4, 5] [0, 1, 2, 3] rfl rfl (by decide) (by decide) (fun r_13 u H locs hw_13 hP hD hS => ?_)
            obtain ⟨ta__13, na__13, fn__13, fb__13⟩ := u
            have hQ9 := pd_mk [(h0, .inr (5, (fX5 h1 h2 h3 h4))), (aI k h1 10 (vv n see tm g)), (aI k h2 24 ff), (aI k h3 24 fp), (x0, .inr (6, (fX6 x1 (nI tz) (nI ta__13) na__13 fn__13 fb__13))), (aB k x1 240 fx)] hP hD
            clear hP hD
            obtain ⟨hP, hD⟩ := hQ9
            try dsimp only at hw_13
            obtain ⟨pl_14, nq_14, rfl, hq_14⟩ := hw_13.2.1 rfl
            rw [show decide ((0 : Int32) < 0) = false from by decide] at hq_14
            rcases hq_14 with ⟨rfl, hq_14⟩ | ⟨rfl, hr_14, rfl, hq_14⟩ | ⟨rfl, hr_14, rfl, hq_14⟩
            · refine lv_istore (lv' := [(5, .int r_13), (4, .int r_9), (3, .int (nI n)), (2, .int (nI nb_3)), (0, .ref h0), (1, .ref x0)]) hx hb dX5_readDoors_73 hl (by decide) rfl (fun ls hl => ?_)
              refine lv_aload_n hx hb dX5_readDoors_75 rfl (lv_at hl 5 rfl) ?_
              refine rw_v (D := D) (wr := [(h0, .inr (5, (fX5 h1 h2 h3 h4))), (aI k h1 10 (vv n see tm g)), (aI k h2 24 ff), (aI k h3 24 fp)]) (va_runV (As := []) (rest := []) ⟨hx, hb, hml, hown, hts⟩ ((y_needSemicolon l D k st lo x0 x1 tz ta__13 (nI nq_14) 0 fb__13 fx (by first | assumption | omega) (by first | assumption | omega)) H.size) (cwV 0 hts (gV tw_488 tw_489 tw_490 tw_80 tw_491) rfl rfl rfl (by decide +kernel) ⟨Nat.le_of_ble_eq_true rfl, Nat.le_of_ble_eq_true rfl⟩) (pV hS hAlo hlo hP hK (va_Dlo hD hAlo) hZ [4, 5] (by decide) rfl (ci := 6) (q := (RX6, TX6, 6)) (q0 := 0) rfl rfl) rfl rfl hl.1 rfl (lv_room (Nat.le_of_ble_eq_true rfl)) dX5_readDoors_76 ⟨Nat.le_of_ble_eq_true rfl, Nat.le_of_ble_eq_true rfl⟩) hS hA hP hD [4, 5] [0, 1, 2, 3] rfl rfl (by decide) (by decide) (fun u H locs hw_15 hP hD hS => ?_)
              obtain ⟨ta__15, fn__15, fb__15⟩ := u
              have hQ9 := pd_mk [(h0, .inr (5, (fX5 h1 h2 h3 h4))), (aI k h1 10 (vv n see tm g)), (aI k h2 24 ff), (aI k h3 24 fp), (x0, .inr (6, (fX6 x1 (nI tz) (nI ta__15) (nI nq_14) fn__15 fb__15))), (aB k x1 240 fx)] hP hD
              clear hP hD
              obtain ⟨hP, hD⟩ := hQ9
              try dsimp only at hw_15
              rcases hw_15.2.1 rfl with ⟨rfl, hq_16⟩ | ⟨rfl, pl_16, hq_16, rfl⟩
              · refine lv_aload_n hx hb dX5_readDoors_79 rfl (lv_at hl 5 rfl) ?_
                refine ro_i (D := D) (va_runV (As := []) (rest := []) ⟨hx, hb, hml, hown, hts⟩ ((x_failed l D k st lo x0 x1 tz ta__15 (nI nq_14) 0 fb__15) H.size) (cwV 0 hts (gV tw_367 tw_368 tw_369 tw_80 tw_370) rfl rfl rfl (by decide +kernel) ⟨Nat.le_of_ble_eq_true rfl, Nat.le_of_ble_eq_true rfl⟩) (pV hS hAlo hlo hP hK (va_Dlo hD hAlo) hZ [4] (by decide) rfl (ci := 6) (q := (RX6, TX6, 6)) (q0 := 0) rfl rfl) rfl rfl hl.1 rfl (lv_room (Nat.le_of_ble_eq_true rfl)) dX5_readDoors_80 ⟨Nat.le_of_ble_eq_true rfl, Nat.le_of_ble_eq_true rfl⟩) hS hA hP (fun r_17 H locs hw_17 hP hS => ?_)
                try dsimp only at hw_17
                obtain rfl : r_17 = 0 := by rcases hw_17 with ⟨h, h2⟩ | ⟨h, h2⟩ <;> first | exact h | exact absurd rfl h2 | exact absurd h2 (by decide)
                refine lv_if_eq (tgt := 87) hx hb dX5_readDoors_83 (by decide) (fun _ => ?_) (fun h => absurd (by decide) h)
                refine lv_iload_n hx hb dX5_readDoors_87 rfl (lv_at hl 2 rfl) ?_
                refine lv_istore (lv' := [(6, .int (nI n)), (5, .int r_13), (4, .int r_9), (3, .int (nI n)), (2, .int (nI nb_3)), (0, .ref h0), (1, .ref x0)]) hx hb dX5_readDoors_88 hl (by decide) rfl (fun ls hl => ?_)
                refine W_loop (σ := Nat × (Nat → Int32) × (Nat → Int32)) (fun (n_ : Nat) (x_ : Nat × (Nat → Int32) × (Nat → Int32)) (H : Heap) (locs : List Loc) (ls : Array Slot) => match x_ with | (ii_18, ff2_18, fp2_18) => n_ = 25 - ii_18 ∧ (n ≤ ii_18 ∧ ii_18 ≤ n + nb_3 ∧ (∀ j, ff2_18 j = if n ≤ j ∧ j < ii_18 then r_9 else ff j) ∧ (∀ j, fp2_18 j = if n ≤ j ∧ j < ii_18 then r_13 else fp j)) ∧ va_P D classes [(h0, .inr (5, (fX5 h1 h2 h3 h4))), (aI k h1 10 (vv n see tm g)), (aI k h2 24 ff2_18), (aI k h3 24 fp2_18), (x0, .inr (6, (fX6 x1 (nI tz) (nI ta__15) (nI nq_14) 0 fb__15))), (aB k x1 240 fx)] H ∧ va_D A [(h0, .inr (5, (fX5 h1 h2 h3 h4))), (aI k h1 10 (vv n see tm g)), (aI k h2 24 ff2_18), (aI k h3 24 fp2_18), (x0, .inr (6, (fX6 x1 (nI tz) (nI ta__15) (nI nq_14) 0 fb__15))), (aB k x1 240 fx)] ∧ va_S A s.heap H locs ∧ lv_has ls 7 [(6, .int (nI ii_18)), (5, .int r_13), (4, .int r_9), (3, .int (nI n)), (2, .int (nI nb_3)), (0, .ref h0), (1, .ref x0)]) (fun n_18 x_18 H locs ls hI ih_18 => ?_) _ (n, ff, fp) ⟨rfl, ⟨by omega, by omega, fun j => by rw [if_neg (by omega)], fun j => by rw [if_neg (by omega)]⟩, hP, hD, hS, (lv_sub hl [0, 1, 2, 3, 4, 5, 6] rfl)⟩
                obtain ⟨ii_18, ff2_18, fp2_18⟩ := x_18
                obtain ⟨hm_18, hv_18, hP, hD, hS, hl⟩ := hI
                subst hm_18
                refine lv_iload hx hb dX5_readDoors_90 (lv_at hl 0 rfl) ?_
                refine lv_iload_n hx hb dX5_readDoors_92 rfl (lv_at hl 3 rfl) ?_
                refine lv_iload_n hx hb dX5_readDoors_93 rfl (lv_at hl 4 rfl) ?_
                refine lv_iadd hx hb dX5_readDoors_94 ?_
                refine lv_ti (y := (nI (n + nb_3))) (nI_add n nb_3) ?_
                refine lv_icmp_ge (tgt := 129) hx hb dX5_readDoors_95 (by decide) (fun c_19 => ?_) (fun c_19 => ?_)
                · have c_19 := (nI_leI (a := (n + nb_3)) (b := ii_18) (by omega) (by omega)).mp c_19
                  refine lv_aload_n hx hb dX5_readDoors_129 rfl (lv_at hl 5 rfl) ?_
                  refine va_get (D := D) (ci := 5) (v := .ref h1) (C := RX5) (T := TX5) (N := 4) hx hb hts inX5 hown hK hP 0 rfl rfl 0 (by decide) (hts _ tw_146) (fun _ h9 => h9) rfl dX5_readDoors_130 ?_
                  refine lv_iconst (v := 0) hx hb dX5_readDoors_133 (by decide) ?_
                  refine lv_iload_n hx hb dX5_readDoors_134 rfl (lv_at hl 3 rfl) ?_
                  refine lv_iload_n hx hb dX5_readDoors_135 rfl (lv_at hl 4 rfl) ?_
                  refine lv_iadd hx hb dX5_readDoors_136 ?_
                  refine lv_ti (y := (nI (n + nb_3))) (nI_add n nb_3) ?_
                  refine va_iast hx hb hK hP hD hS 1 1 rfl rfl (by unfold vp_in; decide) dX5_readDoors_137 (fun H locs hP hD hS => ?_)
                  have hQ9 := pd_mk [(h0, .inr (5, (fX5 h1 h2 h3 h4))), (aI k h1 10 (upd (vv n see tm g) (Int32.toNatClampNeg 0) (nI (n + nb_3)))), (aI k h2 24 ff2_18), (aI k h3 24 fp2_18), (x0, .inr (6, (fX6 x1 (nI tz) (nI ta__15) (nI nq_14) 0 fb__15))), (aB k x1 240 fx)] hP hD
                  clear hP hD
                  obtain ⟨hP, hD⟩ := hQ9
                  rw [show upd (vv n see tm g) (Int32.toNatClampNeg 0) (nI (n + nb_3)) = vv (n + nb_3) see tm g from vv_upd0 _ _ _ _ _] at hP hD
                  have hQ9 := pd_mk [(h0, .inr (5, (fX5 h1 h2 h3 h4))), (aI k h1 10 (vv (n + nb_3) see tm g)), (aI k h2 24 ff2_18), (aI k h3 24 fp2_18), (x0, .inr (6, (fX6 x1 (nI tz) (nI ta__15) (nI nq_14) 0 fb__15))), (aB k x1 240 fx)] hP hD
                  clear hP hD
                  obtain ⟨hP, hD⟩ := hQ9
                  obtain ⟨hP9, hD9⟩ := pd_sub [(h0, .inr (5, (fX5 h1 h2 h3 h4))), (aI k h1 10 (vv (n + nb_3) see tm g)), (aI k h2 24 ff2_18), (aI k h3 24 fp2_18), (x0, .inr (6, (fX6 x1 (nI tz) (nI ta__15) (nI nq_14) 0 fb__15))), (aB k x1 240 fx)] [0, 1, 2, 3, 4, 5] hP hD (by decide) rfl
                  exact W.vret hx hb hr (fun t ht hW => ⟨⟨((n + nb_3), ff2_18, fp2_18, ta__15, (nI nq_14), 0, fb__15), rfl, ⟨.inl ⟨rfl, nb_3, r_9, r_13, by simp [doC, doF, hq_2, hq_8, hq_10, hq_12, hq_14, hq_16, nI_clamp (show nb_3 < 2 ^ 31 by omega), c_6, -List.getD_eq_getElem?_getD], rfl, (fun j => (hv_18.2.2.1 j).trans (by rw [show ii_18 = n + nb_3 by omega])), (fun j => (hv_18.2.2.2 j).trans (by rw [show ii_18 = n + nb_3 by omega]))⟩, by omega, by omega, by omega⟩, by rw [ht]; exact hP9, hD9⟩, hS.F ht⟩) hS.2.2 dX5_readDoors_138
                · have c_19 : ¬ ((n + nb_3) ≤ ii_18) := fun h => c_19 ((nI_leI (a := (n + nb_3)) (b := ii_18) (by omega) (by omega)).mpr h)
                  refine lv_iload hx hb dX5_readDoors_98 (lv_at hl 0 rfl) ?_
                  refine lv_bipush (v := 24) hx hb dX5_readDoors_100 (by decide) ?_
                  refine lv_icmp_ge (tgt := 129) hx hb dX5_readDoors_102 (by decide) (fun c_22 => ?_) (fun c_22 => ?_)
                  · have c_22 := (nI_leI (a := 24) (b := ii_18) (by omega) (by omega)).mp c_22
                    refine lv_aload_n hx hb dX5_readDoors_129 rfl (lv_at hl 5 rfl) ?_
                    refine va_get (D := D) (ci := 5) (v := .ref h1) (C := RX5) (T := TX5) (N := 4) hx hb hts inX5 hown hK hP 0 rfl rfl 0 (by decide) (hts _ tw_146) (fun _ h9 => h9) rfl dX5_readDoors_130 ?_
                    refine lv_iconst (v := 0) hx hb dX5_readDoors_133 (by decide) ?_
                    refine lv_iload_n hx hb dX5_readDoors_134 rfl (lv_at hl 3 rfl) ?_
                    refine lv_iload_n hx hb dX5_readDoors_135 rfl (lv_at hl 4 rfl) ?_
                    refine lv_iadd hx hb dX5_readDoors_136 ?_
                    refine lv_ti (y := (nI (n + nb_3))) (nI_add n nb_3) ?_
                    refine va_iast hx hb hK hP hD hS 1 1 rfl rfl (by unfold vp_in; decide) dX5_readDoors_137 (fun H locs hP hD hS => ?_)
                    have hQ9 := pd_mk [(h0, .inr (5, (fX5 h1 h2 h3 h4))), (aI k h1 10 (upd (vv n see tm g) (Int32.toNatClampNeg 0) (nI (n + nb_3)))), (aI k h2 24 ff2_18), (aI k h3 24 fp2_18), (x0, .inr (6, (fX6 x1 (nI tz) (nI ta__15) (nI nq_14) 0 fb__15))), (aB k x1 240 fx)] hP hD
                    clear hP hD
                    obtain ⟨hP, hD⟩ := hQ9
                    rw [show upd (vv n see tm g) (Int32.toNatClampNeg 0) (nI (n + nb_3)) = vv (n + nb_3) see tm g from vv_upd0 _ _ _ _ _] at hP hD
                    have hQ9 := pd_mk [(h0, .inr (5, (fX5 h1 h2 h3 h4))), (aI k h1 10 (vv (n + nb_3) see tm g)), (aI k h2 24 ff2_18), (aI k h3 24 fp2_18), (x0, .inr (6, (fX6 x1 (nI tz) (nI ta__15) (nI nq_14) 0 fb__15))), (aB k x1 240 fx)] hP hD
                    clear hP hD
                    obtain ⟨hP, hD⟩ := hQ9
                    obtain ⟨hP9, hD9⟩ := pd_sub [(h0, .inr (5, (fX5 h1 h2 h3 h4))), (aI k h1 10 (vv (n + nb_3) see tm g)), (aI k h2 24 ff2_18), (aI k h3 24 fp2_18), (x0, .inr (6, (fX6 x1 (nI tz) (nI ta__15) (nI nq_14) 0 fb__15))), (aB k x1 240 fx)] [0, 1, 2, 3, 4, 5] hP hD (by decide) rfl
                    exact W.vret hx hb hr (fun t ht hW => ⟨⟨((n + nb_3), ff2_18, fp2_18, ta__15, (nI nq_14), 0, fb__15), rfl, ⟨.inl ⟨rfl, nb_3, r_9, r_13, by simp [doC, doF, hq_2, hq_8, hq_10, hq_12, hq_14, hq_16, nI_clamp (show nb_3 < 2 ^ 31 by omega), c_6, -List.getD_eq_getElem?_getD], rfl, (fun j => (hv_18.2.2.1 j).trans (by rw [show ii_18 = n + nb_3 by omega])), (fun j => (hv_18.2.2.2 j).trans (by rw [show ii_18 = n + nb_3 by omega]))⟩, by omega, by omega, by omega⟩, by rw [ht]; exact hP9, hD9⟩, hS.F ht⟩) hS.2.2 dX5_readDoors_138
                  · have c_22 : ¬ (24 ≤ ii_18) := fun h => c_22 ((nI_leI (a := 24) (b := ii_18) (by omega) (by omega)).mpr h)
                    refine lv_aload_n hx hb dX5_readDoors_105 rfl (lv_at hl 5 rfl) ?_
                    refine va_get (D := D) (ci := 5) (v := .ref h2) (C := RX5) (T := TX5) (N := 4) hx hb hts inX5 hown hK hP 0 rfl rfl 1 (by decide) (hts _ tw_150) (fun _ h9 => h9) rfl dX5_readDoors_106 ?_
                    refine lv_iload hx hb dX5_readDoors_109 (lv_at hl 0 rfl) ?_
                    refine lv_iload hx hb dX5_readDoors_111 (lv_at hl 2 rfl) ?_
                    refine va_iast hx hb hK hP hD hS 2 1 rfl rfl (vp_in_nI (by omega) (by decide)) dX5_readDoors_113 (fun H locs hP hD hS => ?_)
                    have hQ9 := pd_mk [(h0, .inr (5, (fX5 h1 h2 h3 h4))), (aI k h1 10 (vv n see tm g)), (aI k h2 24 (upd ff2_18 (Int32.toNatClampNeg (nI ii_18)) r_9)), (aI k h3 24 fp2_18), (x0, .inr (6, (fX6 x1 (nI tz) (nI ta__15) (nI nq_14) 0 fb__15))), (aB k x1 240 fx)] hP hD
                    clear hP hD
                    obtain ⟨hP, hD⟩ := hQ9
                    rw [nI_clamp (n := ii_18) (by omega)] at hP hD
                    have hQ9 := pd_mk [(h0, .inr (5, (fX5 h1 h2 h3 h4))), (aI k h1 10 (vv n see tm g)), (aI k h2 24 (upd ff2_18 ii_18 r_9)), (aI k h3 24 fp2_18), (x0, .inr (6, (fX6 x1 (nI tz) (nI ta__15) (nI nq_14) 0 fb__15))), (aB k x1 240 fx)] hP hD
                    clear hP hD
                    obtain ⟨hP, hD⟩ := hQ9
                    refine lv_aload_n hx hb dX5_readDoors_114 rfl (lv_at hl 5 rfl) ?_
                    refine va_get (D := D) (ci := 5) (v := .ref h3) (C := RX5) (T := TX5) (N := 4) hx hb hts inX5 hown hK hP 0 rfl rfl 2 (by decide) (hts _ tw_152) (fun _ h9 => h9) rfl dX5_readDoors_115 ?_
                    refine lv_iload hx hb dX5_readDoors_118 (lv_at hl 0 rfl) ?_
                    refine lv_iload hx hb dX5_readDoors_120 (lv_at hl 1 rfl) ?_
                    refine va_iast hx hb hK hP hD hS 3 1 rfl rfl (vp_in_nI (by omega) (by decide)) dX5_readDoors_122 (fun H locs hP hD hS => ?_)
                    have hQ9 := pd_mk [(h0, .inr (5, (fX5 h1 h2 h3 h4))), (aI k h1 10 (vv n see tm g)), (aI k h2 24 (upd ff2_18 ii_18 r_9)), (aI k h3 24 (upd fp2_18 (Int32.toNatClampNeg (nI ii_18)) r_13)), (x0, .inr (6, (fX6 x1 (nI tz) (nI ta__15) (nI nq_14) 0 fb__15))), (aB k x1 240 fx)] hP hD
                    clear hP hD
                    obtain ⟨hP, hD⟩ := hQ9
                    rw [nI_clamp (n := ii_18) (by omega)] at hP hD
                    have hQ9 := pd_mk [(h0, .inr (5, (fX5 h1 h2 h3 h4))), (aI k h1 10 (vv n see tm g)), (aI k h2 24 (upd ff2_18 ii_18 r_9)), (aI k h3 24 (upd fp2_18 ii_18 r_13)), (x0, .inr (6, (fX6 x1 (nI tz) (nI ta__15) (nI nq_14) 0 fb__15))), (aB k x1 240 fx)] hP hD
                    clear hP hD
                    obtain ⟨hP, hD⟩ := hQ9
                    refine lv_iinc (v := (nI (ii_18 + 1))) (lv' := [(6, .int (nI (ii_18 + 1))), (5, .int r_13), (4, .int r_9), (3, .int (nI n)), (2, .int (nI nb_3)), (0, .ref h0), (1, .ref x0)]) hx hb dX5_readDoors_123 hl (k := 0) rfl (nI_add ii_18 1) (by decide) rfl (fun ls hl => ?_)
                    refine lv_goto (tgt := 90) hx hb dX5_readDoors_126 (by decide) ?_
                    exact ih_18 _ (ii_18 + 1, (upd ff2_18 ii_18 r_9), (upd fp2_18 ii_18 r_13)) _ _ _ (by omega) ⟨rfl, ⟨by omega, by omega, fill_step (by omega) hv_18.2.2.1, fill_step (by omega) hv_18.2.2.2⟩, hP, hD, hS, (lv_sub hl [0, 1, 2, 3, 4, 5, 6] rfl)⟩
              · refine lv_aload_n hx hb dX5_readDoors_79 rfl (lv_at hl 5 rfl) ?_
                refine ro_i (D := D) (va_runV (As := []) (rest := []) ⟨hx, hb, hml, hown, hts⟩ ((x_failed l D k st lo x0 x1 tz ta__15 (nI nq_14) 1 (nI pl_16)) H.size) (cwV 0 hts (gV tw_367 tw_368 tw_369 tw_80 tw_370) rfl rfl rfl (by decide +kernel) ⟨Nat.le_of_ble_eq_true rfl, Nat.le_of_ble_eq_true rfl⟩) (pV hS hAlo hlo hP hK (va_Dlo hD hAlo) hZ [4] (by decide) rfl (ci := 6) (q := (RX6, TX6, 6)) (q0 := 0) rfl rfl) rfl rfl hl.1 rfl (lv_room (Nat.le_of_ble_eq_true rfl)) dX5_readDoors_80 ⟨Nat.le_of_ble_eq_true rfl, Nat.le_of_ble_eq_true rfl⟩) hS hA hP (fun r_27 H locs hw_27 hP hS => ?_)
                try dsimp only at hw_27
                obtain rfl : r_27 = 1 := by rcases hw_27 with ⟨h, h2⟩ | ⟨h, h2⟩ <;> first | exact h | exact absurd rfl h2 | exact absurd h2 (by decide)
                refine lv_if_eq (tgt := 87) hx hb dX5_readDoors_83 (by decide) (fun h => absurd h (by decide)) (fun _ => ?_)
                obtain ⟨hP9, hD9⟩ := pd_sub [(h0, .inr (5, (fX5 h1 h2 h3 h4))), (aI k h1 10 (vv n see tm g)), (aI k h2 24 ff), (aI k h3 24 fp), (x0, .inr (6, (fX6 x1 (nI tz) (nI ta__15) (nI nq_14) 1 (nI pl_16)))), (aB k x1 240 fx)] [0, 1, 2, 3, 4, 5] hP hD (by decide) rfl
                exact W.vret hx hb hr (fun t ht hW => ⟨⟨(n, ff, fp, ta__15, (nI nq_14), 1, (nI pl_16)), rfl, ⟨.inr ⟨1, pl_16, rfl, by decide, by decide, by simp [doC, doF, hq_2, hq_8, hq_10, hq_12, hq_14, hq_16, nI_clamp (show nb_3 < 2 ^ 31 by omega), c_6, -List.getD_eq_getElem?_getD], by simp [doC, doF, hq_2, hq_8, hq_10, hq_12, hq_14, hq_16, nI_clamp (show nb_3 < 2 ^ 31 by omega), c_6, -List.getD_eq_getElem?_getD], rfl⟩, by omega, by omega, by omega⟩, by rw [ht]; exact hP9, hD9⟩, hS.F ht⟩) hS.2.2 dX5_readDoors_86
            · refine lv_istore (lv' := [(5, .int r_13), (4, .int r_9), (3, .int (nI n)), (2, .int (nI nb_3)), (0, .ref h0), (1, .ref x0)]) hx hb dX5_readDoors_73 hl (by decide) rfl (fun ls hl => ?_)
              refine lv_aload_n hx hb dX5_readDoors_75 rfl (lv_at hl 5 rfl) ?_
              refine rw_v (D := D) (wr := [(h0, .inr (5, (fX5 h1 h2 h3 h4))), (aI k h1 10 (vv n see tm g)), (aI k h2 24 ff), (aI k h3 24 fp)]) (va_runV (As := []) (rest := []) ⟨hx, hb, hml, hown, hts⟩ ((y_needSemicolon l D k st lo x0 x1 tz ta__13 (nI nq_14) 1 (nI pl_14) fx (by first | assumption | omega) (by first | assumption | omega)) H.size) (cwV 0 hts (gV tw_488 tw_489 tw_490 tw_80 tw_491) rfl rfl rfl (by decide +kernel) ⟨Nat.le_of_ble_eq_true rfl, Nat.le_of_ble_eq_true rfl⟩) (pV hS hAlo hlo hP hK (va_Dlo hD hAlo) hZ [4, 5] (by decide) rfl (ci := 6) (q := (RX6, TX6, 6)) (q0 := 0) rfl rfl) rfl rfl hl.1 rfl (lv_room (Nat.le_of_ble_eq_true rfl)) dX5_readDoors_76 ⟨Nat.le_of_ble_eq_true rfl, Nat.le_of_ble_eq_true rfl⟩) hS hA hP hD [4, 5] [0, 1, 2, 3] rfl rfl (by decide) (by decide) (fun u H locs hw_28 hP hD hS => ?_)
              obtain ⟨ta__28, fn__28, fb__28⟩ := u
              have hQ9 := pd_mk [(h0, .inr (5, (fX5 h1 h2 h3 h4))), (aI k h1 10 (vv n see tm g)), (aI k h2 24 ff), (aI k h3 24 fp), (x0, .inr (6, (fX6 x1 (nI tz) (nI ta__28) (nI nq_14) fn__28 fb__28))), (aB k x1 240 fx)] hP hD
              clear hP hD
              obtain ⟨hP, hD⟩ := hQ9
              try dsimp only at hw_28
              obtain ⟨hs0_29, hs1_29⟩ := hw_28.1 (by decide)
              replace hs0_29 := hs0_29.symm
              subst hs0_29
              replace hs1_29 := hs1_29.symm
              subst hs1_29
              refine lv_aload_n hx hb dX5_readDoors_79 rfl (lv_at hl 5 rfl) ?_
              refine ro_i (D := D) (va_runV (As := []) (rest := []) ⟨hx, hb, hml, hown, hts⟩ ((x_failed l D k st lo x0 x1 tz ta__28 (nI nq_14) 1 (nI pl_14)) H.size) (cwV 0 hts (gV tw_367 tw_368 tw_369 tw_80 tw_370) rfl rfl rfl (by decide +kernel) ⟨Nat.le_of_ble_eq_true rfl, Nat.le_of_ble_eq_true rfl⟩) (pV hS hAlo hlo hP hK (va_Dlo hD hAlo) hZ [4] (by decide) rfl (ci := 6) (q := (RX6, TX6, 6)) (q0 := 0) rfl rfl) rfl rfl hl.1 rfl (lv_room (Nat.le_of_ble_eq_true rfl)) dX5_readDoors_80 ⟨Nat.le_of_ble_eq_true rfl, Nat.le_of_ble_eq_true rfl⟩) hS hA hP (fun r_30 H locs hw_30 hP hS => ?_)
              try dsimp only at hw_30
              obtain rfl : r_30 = 1 := by rcases hw_30 with ⟨h, h2⟩ | ⟨h, h2⟩ <;> first | exact h | exact absurd rfl h2 | exact absurd h2 (by decide)
              refine lv_if_eq (tgt := 87) hx hb dX5_readDoors_83 (by decide) (fun h => absurd h (by decide)) (fun _ => ?_)
              obtain ⟨hP9, hD9⟩ := pd_sub [(h0, .inr (5, (fX5 h1 h2 h3 h4))), (aI k h1 10 (vv n see tm g)), (aI k h2 24 ff), (aI k h3 24 fp), (x0, .inr (6, (fX6 x1 (nI tz) (nI ta__28) (nI nq_14) 1 (nI pl_14)))), (aB k x1 240 fx)] [0, 1, 2, 3, 4, 5] hP hD (by decide) rfl
              exact W.vret hx hb hr (fun t ht hW => ⟨⟨(n, ff, fp, ta__28, (nI nq_14), 1, (nI pl_14)), rfl, ⟨.inr ⟨1, pl_14, rfl, by decide, by decide, by simp [doC, doF, hq_2, hq_8, hq_10, hq_12, hq_14, nI_clamp (show nb_3 < 2 ^ 31 by omega), c_6, -List.getD_eq_getElem?_getD], by simp [doC, doF, hq_2, hq_8, hq_10, hq_12, hq_14, nI_clamp (show nb_3 < 2 ^ 31 by omega), c_6, -List.getD_eq_getElem?_getD], rfl⟩, by omega, by omega, by omega⟩, by rw [ht]; exact hP9, hD9⟩, hS.F ht⟩) hS.2.2 dX5_readDoors_86
            · refine lv_istore (lv' := [(5, .int r_13), (4, .int r_9), (3, .int (nI n)), (2, .int (nI nb_3)), (0, .ref h0), (1, .ref x0)]) hx hb dX5_readDoors_73 hl (by decide) rfl (fun ls hl => ?_)
              refine lv_aload_n hx hb dX5_readDoors_75 rfl (lv_at hl 5 rfl) ?_
              refine rw_v (D := D) (wr := [(h0, .inr (5, (fX5 h1 h2 h3 h4))), (aI k h1 10 (vv n see tm g)), (aI k h2 24 ff), (aI k h3 24 fp)]) (va_runV (As := []) (rest := []) ⟨hx, hb, hml, hown, hts⟩ ((y_needSemicolon l D k st lo x0 x1 tz ta__13 (nI nq_14) 2 (nI pl_14) fx (by first | assumption | omega) (by first | assumption | omega)) H.size) (cwV 0 hts (gV tw_488 tw_489 tw_490 tw_80 tw_491) rfl rfl rfl (by decide +kernel) ⟨Nat.le_of_ble_eq_true rfl, Nat.le_of_ble_eq_true rfl⟩) (pV hS hAlo hlo hP hK (va_Dlo hD hAlo) hZ [4, 5] (by decide) rfl (ci := 6) (q := (RX6, TX6, 6)) (q0 := 0) rfl rfl) rfl rfl hl.1 rfl (lv_room (Nat.le_of_ble_eq_true rfl)) dX5_readDoors_76 ⟨Nat.le_of_ble_eq_true rfl, Nat.le_of_ble_eq_true rfl⟩) hS hA hP hD [4, 5] [0, 1, 2, 3] rfl rfl (by decide) (by decide) (fun u H locs hw_31 hP hD hS => ?_)
              obtain ⟨ta__31, fn__31, fb__31⟩ := u
              have hQ9 := pd_mk [(h0, .inr (5, (fX5 h1 h2 h3 h4))), (aI k h1 10 (vv n see tm g)), (aI k h2 24 ff), (aI k h3 24 fp), (x0, .inr (6, (fX6 x1 (nI tz) (nI ta__31) (nI nq_14) fn__31 fb__31))), (aB k x1 240 fx)] hP hD
              clear hP hD
              obtain ⟨hP, hD⟩ := hQ9
              try dsimp only at hw_31
              obtain ⟨hs0_32, hs1_32⟩ := hw_31.1 (by decide)
              replace hs0_32 := hs0_32.symm
              subst hs0_32
              replace hs1_32 := hs1_32.symm
              subst hs1_32
              refine lv_aload_n hx hb dX5_readDoors_79 rfl (lv_at hl 5 rfl) ?_
              refine ro_i (D := D) (va_runV (As := []) (rest := []) ⟨hx, hb, hml, hown, hts⟩ ((x_failed l D k st lo x0 x1 tz ta__31 (nI nq_14) 2 (nI pl_14)) H.size) (cwV 0 hts (gV tw_367 tw_368 tw_369 tw_80 tw_370) rfl rfl rfl (by decide +kernel) ⟨Nat.le_of_ble_eq_true rfl, Nat.le_of_ble_eq_true rfl⟩) (pV hS hAlo hlo hP hK (va_Dlo hD hAlo) hZ [4] (by decide) rfl (ci := 6) (q := (RX6, TX6, 6)) (q0 := 0) rfl rfl) rfl rfl hl.1 rfl (lv_room (Nat.le_of_ble_eq_true rfl)) dX5_readDoors_80 ⟨Nat.le_of_ble_eq_true rfl, Nat.le_of_ble_eq_true rfl⟩) hS hA hP (fun r_33 H locs hw_33 hP hS => ?_)
              try dsimp only at hw_33
              obtain rfl : r_33 = 1 := by rcases hw_33 with ⟨h, h2⟩ | ⟨h, h2⟩ <;> first | exact h | exact absurd rfl h2 | exact absurd h2 (by decide)
              refine lv_if_eq (tgt := 87) hx hb dX5_readDoors_83 (by decide) (fun h => absurd h (by decide)) (fun _ => ?_)
              obtain ⟨hP9, hD9⟩ := pd_sub [(h0, .inr (5, (fX5 h1 h2 h3 h4))), (aI k h1 10 (vv n see tm g)), (aI k h2 24 ff), (aI k h3 24 fp), (x0, .inr (6, (fX6 x1 (nI tz) (nI ta__31) (nI nq_14) 2 (nI pl_14)))), (aB k x1 240 fx)] [0, 1, 2, 3, 4, 5] hP hD (by decide) rfl
              exact W.vret hx hb hr (fun t ht hW => ⟨⟨(n, ff, fp, ta__31, (nI nq_14), 2, (nI pl_14)), rfl, ⟨.inr ⟨2, pl_14, rfl, by decide, by decide, by simp [doC, doF, hq_2, hq_8, hq_10, hq_12, hq_14, nI_clamp (show nb_3 < 2 ^ 31 by omega), c_6, -List.getD_eq_getElem?_getD], by simp [doC, doF, hq_2, hq_8, hq_10, hq_12, hq_14, nI_clamp (show nb_3 < 2 ^ 31 by omega), c_6, -List.getD_eq_getElem?_getD], rfl⟩, by omega, by omega, by omega⟩, by rw [ht]; exact hP9, hD9⟩, hS.F ht⟩) hS.2.2 dX5_readDoors_86
          · refine lv_aload_n hx hb dX5_readDoors_65 rfl (lv_at hl 4 rfl) ?_
            refine lv_iconst (v := 0) hx hb dX5_readDoors_66 (by decide) ?_
            refine lv_sipush (v := 999) hx hb dX5_readDoors_67 (by decide) ?_
            refine rw_i (D := D) (wr := [(h0, .inr (5, (fX5 h1 h2 h3 h4))), (aI k h1 10 (vv n see tm g)), (aI k h2 24 ff), (aI k h3 24 fp)]) (va_runV (As := [.int 0, .int 999]) (rest := []) ⟨hx, hb, hml, hown, hts⟩ ((y_needNumber l D k st lo x0 x1 tz ta__11 (nI nq_10) 1 (nI pl_12) fx 0 999 (by first | assumption | omega) (by first | assumption | omega) (by decide)) H.size) (cwV 2 hts (gV tw_467 tw_468 tw_469 tw_80 tw_470) rfl rfl rfl (by decide +kernel) ⟨Nat.le_of_ble_eq_true rfl, Nat.le_of_ble_eq_true rfl⟩) (pV hS hAlo hlo hP hK (va_Dlo hD hAlo) hZ [4, 5] (by decide) rfl (ci := 6) (q := (RX6, TX6, 6)) (q0 := 0) rfl rfl) rfl rfl hl.1 rfl (lv_room (Nat.le_of_ble_eq_true rfl)) dX5_readDoors_70 ⟨Nat.le_of_ble_eq_true rfl, Nat.le_of_ble_eq_true rfl⟩) hS hA hP hD [4, 5] [0, 1, 2, 3] rfl rfl (by decide) (by decide) (fun r_34 u H locs hw_34 hP hD hS => ?_)
            obtain ⟨ta__34, na__34, fn__34, fb__34⟩ := u
            have hQ9 := pd_mk [(h0, .inr (5, (fX5 h1 h2 h3 h4))), (aI k h1 10 (vv n see tm g)), (aI k h2 24 ff), (aI k h3 24 fp), (x0, .inr (6, (fX6 x1 (nI tz) (nI ta__34) na__34 fn__34 fb__34))), (aB k x1 240 fx)] hP hD
            clear hP hD
            obtain ⟨hP, hD⟩ := hQ9
            try dsimp only at hw_34
            have hr_35 := (hw_34.1 (by decide)).1
            obtain ⟨hs0_36, hs1_36, hs2_36, hs3_36⟩ := (hw_34.1 (by decide)).2
            replace hs0_36 := hs0_36.symm
            subst hs0_36
            replace hs1_36 := hs1_36.symm
            subst hs1_36
            replace hs2_36 := hs2_36.symm
            subst hs2_36
            replace hs3_36 := hs3_36.symm
            subst hs3_36
            refine lv_istore (lv' := [(5, .int r_34), (4, .int r_9), (3, .int (nI n)), (2, .int (nI nb_3)), (0, .ref h0), (1, .ref x0)]) hx hb dX5_readDoors_73 hl (by decide) rfl (fun ls hl => ?_)
            refine lv_aload_n hx hb dX5_readDoors_75 rfl (lv_at hl 5 rfl) ?_
            refine rw_v (D := D) (wr := [(h0, .inr (5, (fX5 h1 h2 h3 h4))), (aI k h1 10 (vv n see tm g)), (aI k h2 24 ff), (aI k h3 24 fp)]) (va_runV (As := []) (rest := []) ⟨hx, hb, hml, hown, hts⟩ ((y_needSemicolon l D k st lo x0 x1 tz ta__11 (nI nq_10) 1 (nI pl_12) fx (by first | assumption | omega) (by first | assumption | omega)) H.size) (cwV 0 hts (gV tw_488 tw_489 tw_490 tw_80 tw_491) rfl rfl rfl (by decide +kernel) ⟨Nat.le_of_ble_eq_true rfl, Nat.le_of_ble_eq_true rfl⟩) (pV hS hAlo hlo hP hK (va_Dlo hD hAlo) hZ [4, 5] (by decide) rfl (ci := 6) (q := (RX6, TX6, 6)) (q0 := 0) rfl rfl) rfl rfl hl.1 rfl (lv_room (Nat.le_of_ble_eq_true rfl)) dX5_readDoors_76 ⟨Nat.le_of_ble_eq_true rfl, Nat.le_of_ble_eq_true rfl⟩) hS hA hP hD [4, 5] [0, 1, 2, 3] rfl rfl (by decide) (by decide) (fun u H locs hw_37 hP hD hS => ?_)
            obtain ⟨ta__37, fn__37, fb__37⟩ := u
            have hQ9 := pd_mk [(h0, .inr (5, (fX5 h1 h2 h3 h4))), (aI k h1 10 (vv n see tm g)), (aI k h2 24 ff), (aI k h3 24 fp), (x0, .inr (6, (fX6 x1 (nI tz) (nI ta__37) (nI nq_10) fn__37 fb__37))), (aB k x1 240 fx)] hP hD
            clear hP hD
            obtain ⟨hP, hD⟩ := hQ9
            try dsimp only at hw_37
            obtain ⟨hs0_38, hs1_38⟩ := hw_37.1 (by decide)
            replace hs0_38 := hs0_38.symm
            subst hs0_38
            replace hs1_38 := hs1_38.symm
            subst hs1_38
            refine lv_aload_n hx hb dX5_readDoors_79 rfl (lv_at hl 5 rfl) ?_
            refine ro_i (D := D) (va_runV (As := []) (rest := []) ⟨hx, hb, hml, hown, hts⟩ ((x_failed l D k st lo x0 x1 tz ta__37 (nI nq_10) 1 (nI pl_12)) H.size) (cwV 0 hts (gV tw_367 tw_368 tw_369 tw_80 tw_370) rfl rfl rfl (by decide +kernel) ⟨Nat.le_of_ble_eq_true rfl, Nat.le_of_ble_eq_true rfl⟩) (pV hS hAlo hlo hP hK (va_Dlo hD hAlo) hZ [4] (by decide) rfl (ci := 6) (q := (RX6, TX6, 6)) (q0 := 0) rfl rfl) rfl rfl hl.1 rfl (lv_room (Nat.le_of_ble_eq_true rfl)) dX5_readDoors_80 ⟨Nat.le_of_ble_eq_true rfl, Nat.le_of_ble_eq_true rfl⟩) hS hA hP (fun r_39 H locs hw_39 hP hS => ?_)
            try dsimp only at hw_39
            obtain rfl : r_39 = 1 := by rcases hw_39 with ⟨h, h2⟩ | ⟨h, h2⟩ <;> first | exact h | exact absurd rfl h2 | exact absurd h2 (by decide)
            refine lv_if_eq (tgt := 87) hx hb dX5_readDoors_83 (by decide) (fun h => absurd h (by decide)) (fun _ => ?_)
            obtain ⟨hP9, hD9⟩ := pd_sub [(h0, .inr (5, (fX5 h1 h2 h3 h4))), (aI k h1 10 (vv n see tm g)), (aI k h2 24 ff), (aI k h3 24 fp), (x0, .inr (6, (fX6 x1 (nI tz) (nI ta__37) (nI nq_10) 1 (nI pl_12)))), (aB k x1 240 fx)] [0, 1, 2, 3, 4, 5] hP hD (by decide) rfl
            exact W.vret hx hb hr (fun t ht hW => ⟨⟨(n, ff, fp, ta__37, (nI nq_10), 1, (nI pl_12)), rfl, ⟨.inr ⟨1, pl_12, rfl, by decide, by decide, by simp [doC, doF, hq_2, hq_8, hq_10, hq_12, nI_clamp (show nb_3 < 2 ^ 31 by omega), c_6, -List.getD_eq_getElem?_getD], by simp [doC, doF, hq_2, hq_8, hq_10, hq_12, nI_clamp (show nb_3 < 2 ^ 31 by omega), c_6, -List.getD_eq_getElem?_getD], rfl⟩, by omega, by omega, by omega⟩, by rw [ht]; exact hP9, hD9⟩, hS.F ht⟩) hS.2.2 dX5_readDoors_86
        · refine lv_istore (lv' := [(4, .int r_9), (3, .int (nI n)), (2, .int (nI nb_3)), (0, .ref h0), (1, .ref x0)]) hx hb dX5_readDoors_57 hl (by decide) rfl (fun ls hl => ?_)
          refine lv_aload_n hx hb dX5_readDoors_59 rfl (lv_at hl 4 rfl) ?_
          refine va_ldcS hx hb hown (hZ.2.2.2.2.2.2.2.2.2.2 (RX5, 124, "price", 11) (List.mem_of_getElem? (i := 11) rfl)) dX5_readDoors_60 ?_
          refine rw_v (D := D) (wr := [(h0, .inr (5, (fX5 h1 h2 h3 h4))), (aI k h1 10 (vv n see tm g)), (aI k h2 24 ff), (aI k h3 24 fp)]) (va_runV (As := [.ref (st (100 + 11))]) (rest := []) ⟨hx, hb, hml, hown, hts⟩ ((y_needWord l D k st lo x0 x1 tz ta__9 (nI nq_10) 1 (nI pl_10) fx 11 (by first | assumption | omega) (by first | assumption | omega) (by first | assumption | omega)) H.size) (cwV 1 hts (gV tw_482 tw_483 tw_484 tw_80 tw_485) rfl rfl rfl (by decide +kernel) ⟨Nat.le_of_ble_eq_true rfl, Nat.le_of_ble_eq_true rfl⟩) (pV hS hAlo hlo hP hK (va_Dlo hD hAlo) hZ [4, 5] (by decide) rfl (ci := 6) (q := (RX6, TX6, 6)) (q0 := 0) rfl rfl) rfl rfl hl.1 rfl (lv_room (Nat.le_of_ble_eq_true rfl)) dX5_readDoors_62 ⟨Nat.le_of_ble_eq_true rfl, Nat.le_of_ble_eq_true rfl⟩) hS hA hP hD [4, 5] [0, 1, 2, 3] rfl rfl (by decide) (by decide) (fun u H locs hw_40 hP hD hS => ?_)
          obtain ⟨ta__40, fn__40, fb__40⟩ := u
          have hQ9 := pd_mk [(h0, .inr (5, (fX5 h1 h2 h3 h4))), (aI k h1 10 (vv n see tm g)), (aI k h2 24 ff), (aI k h3 24 fp), (x0, .inr (6, (fX6 x1 (nI tz) (nI ta__40) (nI nq_10) fn__40 fb__40))), (aB k x1 240 fx)] hP hD
          clear hP hD
          obtain ⟨hP, hD⟩ := hQ9
          try dsimp only at hw_40
          obtain ⟨hs0_41, hs1_41, hs2_41⟩ := hw_40.1 (by decide)
          replace hs0_41 := hs0_41.symm
          subst hs0_41
          replace hs1_41 := hs1_41.symm
          subst hs1_41
          replace hs2_41 := hs2_41.symm
          subst hs2_41
          refine lv_aload_n hx hb dX5_readDoors_65 rfl (lv_at hl 4 rfl) ?_
          refine lv_iconst (v := 0) hx hb dX5_readDoors_66 (by decide) ?_
          refine lv_sipush (v := 999) hx hb dX5_readDoors_67 (by decide) ?_
          refine rw_i (D := D) (wr := [(h0, .inr (5, (fX5 h1 h2 h3 h4))), (aI k h1 10 (vv n see tm g)), (aI k h2 24 ff), (aI k h3 24 fp)]) (va_runV (As := [.int 0, .int 999]) (rest := []) ⟨hx, hb, hml, hown, hts⟩ ((y_needNumber l D k st lo x0 x1 tz ta__9 (nI nq_10) 1 (nI pl_10) fx 0 999 (by first | assumption | omega) (by first | assumption | omega) (by decide)) H.size) (cwV 2 hts (gV tw_467 tw_468 tw_469 tw_80 tw_470) rfl rfl rfl (by decide +kernel) ⟨Nat.le_of_ble_eq_true rfl, Nat.le_of_ble_eq_true rfl⟩) (pV hS hAlo hlo hP hK (va_Dlo hD hAlo) hZ [4, 5] (by decide) rfl (ci := 6) (q := (RX6, TX6, 6)) (q0 := 0) rfl rfl) rfl rfl hl.1 rfl (lv_room (Nat.le_of_ble_eq_true rfl)) dX5_readDoors_70 ⟨Nat.le_of_ble_eq_true rfl, Nat.le_of_ble_eq_true rfl⟩) hS hA hP hD [4, 5] [0, 1, 2, 3] rfl rfl (by decide) (by decide) (fun r_42 u H locs hw_42 hP hD hS => ?_)
          obtain ⟨ta__42, na__42, fn__42, fb__42⟩ := u
          have hQ9 := pd_mk [(h0, .inr (5, (fX5 h1 h2 h3 h4))), (aI k h1 10 (vv n see tm g)), (aI k h2 24 ff), (aI k h3 24 fp), (x0, .inr (6, (fX6 x1 (nI tz) (nI ta__42) na__42 fn__42 fb__42))), (aB k x1 240 fx)] hP hD
          clear hP hD
          obtain ⟨hP, hD⟩ := hQ9
          try dsimp only at hw_42
          have hr_43 := (hw_42.1 (by decide)).1
          obtain ⟨hs0_44, hs1_44, hs2_44, hs3_44⟩ := (hw_42.1 (by decide)).2
          replace hs0_44 := hs0_44.symm
          subst hs0_44
          replace hs1_44 := hs1_44.symm
          subst hs1_44
          replace hs2_44 := hs2_44.symm
          subst hs2_44
          replace hs3_44 := hs3_44.symm
          subst hs3_44
          refine lv_istore (lv' := [(5, .int r_42), (4, .int r_9), (3, .int (nI n)), (2, .int (nI nb_3)), (0, .ref h0), (1, .ref x0)]) hx hb dX5_readDoors_73 hl (by decide) rfl (fun ls hl => ?_)
          refine lv_aload_n hx hb dX5_readDoors_75 rfl (lv_at hl 5 rfl) ?_
          refine rw_v (D := D) (wr := [(h0, .inr (5, (fX5 h1 h2 h3 h4))), (aI k h1 10 (vv n see tm g)), (aI k h2 24 ff), (aI k h3 24 fp)]) (va_runV (As := []) (rest := []) ⟨hx, hb, hml, hown, hts⟩ ((y_needSemicolon l D k st lo x0 x1 tz ta__9 (nI nq_10) 1 (nI pl_10) fx (by first | assumption | omega) (by first | assumption | omega)) H.size) (cwV 0 hts (gV tw_488 tw_489 tw_490 tw_80 tw_491) rfl rfl rfl (by decide +kernel) ⟨Nat.le_of_ble_eq_true rfl, Nat.le_of_ble_eq_true rfl⟩) (pV hS hAlo hlo hP hK (va_Dlo hD hAlo) hZ [4, 5] (by decide) rfl (ci := 6) (q := (RX6, TX6, 6)) (q0 := 0) rfl rfl) rfl rfl hl.1 rfl (lv_room (Nat.le_of_ble_eq_true rfl)) dX5_readDoors_76 ⟨Nat.le_of_ble_eq_true rfl, Nat.le_of_ble_eq_true rfl⟩) hS hA hP hD [4, 5] [0, 1, 2, 3] rfl rfl (by decide) (by decide) (fun u H locs hw_45 hP hD hS => ?_)
          obtain ⟨ta__45, fn__45, fb__45⟩ := u
          have hQ9 := pd_mk [(h0, .inr (5, (fX5 h1 h2 h3 h4))), (aI k h1 10 (vv n see tm g)), (aI k h2 24 ff), (aI k h3 24 fp), (x0, .inr (6, (fX6 x1 (nI tz) (nI ta__45) (nI nq_10) fn__45 fb__45))), (aB k x1 240 fx)] hP hD
          clear hP hD
          obtain ⟨hP, hD⟩ := hQ9
          try dsimp only at hw_45
          obtain ⟨hs0_46, hs1_46⟩ := hw_45.1 (by decide)
          replace hs0_46 := hs0_46.symm
          subst hs0_46
          replace hs1_46 := hs1_46.symm
          subst hs1_46
          refine lv_aload_n hx hb dX5_readDoors_79 rfl (lv_at hl 5 rfl) ?_
          refine ro_i (D := D) (va_runV (As := []) (rest := []) ⟨hx, hb, hml, hown, hts⟩ ((x_failed l D k st lo x0 x1 tz ta__45 (nI nq_10) 1 (nI pl_10)) H.size) (cwV 0 hts (gV tw_367 tw_368 tw_369 tw_80 tw_370) rfl rfl rfl (by decide +kernel) ⟨Nat.le_of_ble_eq_true rfl, Nat.le_of_ble_eq_true rfl⟩) (pV hS hAlo hlo hP hK (va_Dlo hD hAlo) hZ [4] (by decide) rfl (ci := 6) (q := (RX6, TX6, 6)) (q0 := 0) rfl rfl) rfl rfl hl.1 rfl (lv_room (Nat.le_of_ble_eq_true rfl)) dX5_readDoors_80 ⟨Nat.le_of_ble_eq_true rfl, Nat.le_of_ble_eq_true rfl⟩) hS hA hP (fun r_47 H locs hw_47 hP hS => ?_)
          try dsimp only at hw_47
          obtain rfl : r_47 = 1 := by rcases hw_47 with ⟨h, h2⟩ | ⟨h, h2⟩ <;> first | exact h | exact absurd rfl h2 | exact absurd h2 (by decide)
          refine lv_if_eq (tgt := 87) hx hb dX5_readDoors_83 (by decide) (fun h => absurd h (by decide)) (fun _ => ?_)
          obtain ⟨hP9, hD9⟩ := pd_sub [(h0, .inr (5, (fX5 h1 h2 h3 h4))), (aI k h1 10 (vv n see tm g)), (aI k h2 24 ff), (aI k h3 24 fp), (x0, .inr (6, (fX6 x1 (nI tz) (nI ta__45) (nI nq_10) 1 (nI pl_10)))), (aB k x1 240 fx)] [0, 1, 2, 3, 4, 5] hP hD (by decide) rfl
          exact W.vret hx hb hr (fun t ht hW => ⟨⟨(n, ff, fp, ta__45, (nI nq_10), 1, (nI pl_10)), rfl, ⟨.inr ⟨1, pl_10, rfl, by decide, by decide, by simp [doC, doF, hq_2, hq_8, hq_10, nI_clamp (show nb_3 < 2 ^ 31 by omega), c_6, -List.getD_eq_getElem?_getD], by simp [doC, doF, hq_2, hq_8, hq_10, nI_clamp (show nb_3 < 2 ^ 31 by omega), c_6, -List.getD_eq_getElem?_getD], rfl⟩, by omega, by omega, by omega⟩, by rw [ht]; exact hP9, hD9⟩, hS.F ht⟩) hS.2.2 dX5_readDoors_86
        · refine lv_istore (lv' := [(4, .int r_9), (3, .int (nI n)), (2, .int (nI nb_3)), (0, .ref h0), (1, .ref x0)]) hx hb dX5_readDoors_57 hl (by decide) rfl (fun ls hl => ?_)
          refine lv_aload_n hx hb dX5_readDoors_59 rfl (lv_at hl 4 rfl) ?_
          refine va_ldcS hx hb hown (hZ.2.2.2.2.2.2.2.2.2.2 (RX5, 124, "price", 11) (List.mem_of_getElem? (i := 11) rfl)) dX5_readDoors_60 ?_
          refine rw_v (D := D) (wr := [(h0, .inr (5, (fX5 h1 h2 h3 h4))), (aI k h1 10 (vv n see tm g)), (aI k h2 24 ff), (aI k h3 24 fp)]) (va_runV (As := [.ref (st (100 + 11))]) (rest := []) ⟨hx, hb, hml, hown, hts⟩ ((y_needWord l D k st lo x0 x1 tz ta__9 (nI nq_10) 2 (nI pl_10) fx 11 (by first | assumption | omega) (by first | assumption | omega) (by first | assumption | omega)) H.size) (cwV 1 hts (gV tw_482 tw_483 tw_484 tw_80 tw_485) rfl rfl rfl (by decide +kernel) ⟨Nat.le_of_ble_eq_true rfl, Nat.le_of_ble_eq_true rfl⟩) (pV hS hAlo hlo hP hK (va_Dlo hD hAlo) hZ [4, 5] (by decide) rfl (ci := 6) (q := (RX6, TX6, 6)) (q0 := 0) rfl rfl) rfl rfl hl.1 rfl (lv_room (Nat.le_of_ble_eq_true rfl)) dX5_readDoors_62 ⟨Nat.le_of_ble_eq_true rfl, Nat.le_of_ble_eq_true rfl⟩) hS hA hP hD [4, 5] [0, 1, 2, 3] rfl rfl (by decide) (by decide) (fun u H locs hw_48 hP hD hS => ?_)
          obtain ⟨ta__48, fn__48, fb__48⟩ := u
          have hQ9 := pd_mk [(h0, .inr (5, (fX5 h1 h2 h3 h4))), (aI k h1 10 (vv n see tm g)), (aI k h2 24 ff), (aI k h3 24 fp), (x0, .inr (6, (fX6 x1 (nI tz) (nI ta__48) (nI nq_10) fn__48 fb__48))), (aB k x1 240 fx)] hP hD
          clear hP hD
          obtain ⟨hP, hD⟩ := hQ9
          try dsimp only at hw_48
          obtain ⟨hs0_49, hs1_49, hs2_49⟩ := hw_48.1 (by decide)
          replace hs0_49 := hs0_49.symm
          subst hs0_49
          replace hs1_49 := hs1_49.symm
          subst hs1_49
          replace hs2_49 := hs2_49.symm
          subst hs2_49
          refine lv_aload_n hx hb dX5_readDoors_65 rfl (lv_at hl 4 rfl) ?_
          refine lv_iconst (v := 0) hx hb dX5_readDoors_66 (by decide) ?_
          refine lv_sipush (v := 999) hx hb dX5_readDoors_67 (by decide) ?_
          refine rw_i (D := D) (wr := [(h0, .inr (5, (fX5 h1 h2 h3 h4))), (aI k h1 10 (vv n see tm g)), (aI k h2 24 ff), (aI k h3 24 fp)]) (va_runV (As := [.int 0, .int 999]) (rest := []) ⟨hx, hb, hml, hown, hts⟩ ((y_needNumber l D k st lo x0 x1 tz ta__9 (nI nq_10) 2 (nI pl_10) fx 0 999 (by first | assumption | omega) (by first | assumption | omega) (by decide)) H.size) (cwV 2 hts (gV tw_467 tw_468 tw_469 tw_80 tw_470) rfl rfl rfl (by decide +kernel) ⟨Nat.le_of_ble_eq_true rfl, Nat.le_of_ble_eq_true rfl⟩) (pV hS hAlo hlo hP hK (va_Dlo hD hAlo) hZ [4, 5] (by decide) rfl (ci := 6) (q := (RX6, TX6, 6)) (q0 := 0) rfl rfl) rfl rfl hl.1 rfl (lv_room (Nat.le_of_ble_eq_true rfl)) dX5_readDoors_70 ⟨Nat.le_of_ble_eq_true rfl, Nat.le_of_ble_eq_true rfl⟩) hS hA hP hD [4, 5] [0, 1, 2, 3] rfl rfl (by decide) (by decide) (fun r_50 u H locs hw_50 hP hD hS => ?_)
          obtain ⟨ta__50, na__50, fn__50, fb__50⟩ := u
          have hQ9 := pd_mk [(h0, .inr (5, (fX5 h1 h2 h3 h4))), (aI k h1 10 (vv n see tm g)), (aI k h2 24 ff), (aI k h3 24 fp), (x0, .inr (6, (fX6 x1 (nI tz) (nI ta__50) na__50 fn__50 fb__50))), (aB k x1 240 fx)] hP hD
          clear hP hD
          obtain ⟨hP, hD⟩ := hQ9
          try dsimp only at hw_50
          have hr_51 := (hw_50.1 (by decide)).1
          obtain ⟨hs0_52, hs1_52, hs2_52, hs3_52⟩ := (hw_50.1 (by decide)).2
          replace hs0_52 := hs0_52.symm
          subst hs0_52
          replace hs1_52 := hs1_52.symm
          subst hs1_52
          replace hs2_52 := hs2_52.symm
          subst hs2_52
          replace hs3_52 := hs3_52.symm
          subst hs3_52
          refine lv_istore (lv' := [(5, .int r_50), (4, .int r_9), (3, .int (nI n)), (2, .int (nI nb_3)), (0, .ref h0), (1, .ref x0)]) hx hb dX5_readDoors_73 hl (by decide) rfl (fun ls hl => ?_)
          refine lv_aload_n hx hb dX5_readDoors_75 rfl (lv_at hl 5 rfl) ?_
          refine rw_v (D := D) (wr := [(h0, .inr (5, (fX5 h1 h2 h3 h4))), (aI k h1 10 (vv n see tm g)), (aI k h2 24 ff), (aI k h3 24 fp)]) (va_runV (As := []) (rest := []) ⟨hx, hb, hml, hown, hts⟩ ((y_needSemicolon l D k st lo x0 x1 tz ta__9 (nI nq_10) 2 (nI pl_10) fx (by first | assumption | omega) (by first | assumption | omega)) H.size) (cwV 0 hts (gV tw_488 tw_489 tw_490 tw_80 tw_491) rfl rfl rfl (by decide +kernel) ⟨Nat.le_of_ble_eq_true rfl, Nat.le_of_ble_eq_true rfl⟩) (pV hS hAlo hlo hP hK (va_Dlo hD hAlo) hZ [4, 5] (by decide) rfl (ci := 6) (q := (RX6, TX6, 6)) (q0 := 0) rfl rfl) rfl rfl hl.1 rfl (lv_room (Nat.le_of_ble_eq_true rfl)) dX5_readDoors_76 ⟨Nat.le_of_ble_eq_true rfl, Nat.le_of_ble_eq_true rfl⟩) hS hA hP hD [4, 5] [0, 1, 2, 3] rfl rfl (by decide) (by decide) (fun u H locs hw_53 hP hD hS => ?_)
          obtain ⟨ta__53, fn__53, fb__53⟩ := u
          have hQ9 := pd_mk [(h0, .inr (5, (fX5 h1 h2 h3 h4))), (aI k h1 10 (vv n see tm g)), (aI k h2 24 ff), (aI k h3 24 fp), (x0, .inr (6, (fX6 x1 (nI tz) (nI ta__53) (nI nq_10) fn__53 fb__53))), (aB k x1 240 fx)] hP hD
          clear hP hD
          obtain ⟨hP, hD⟩ := hQ9
          try dsimp only at hw_53
          obtain ⟨hs0_54, hs1_54⟩ := hw_53.1 (by decide)
          replace hs0_54 := hs0_54.symm
          subst hs0_54
          replace hs1_54 := hs1_54.symm
          subst hs1_54
          refine lv_aload_n hx hb dX5_readDoors_79 rfl (lv_at hl 5 rfl) ?_
          refine ro_i (D := D) (va_runV (As := []) (rest := []) ⟨hx, hb, hml, hown, hts⟩ ((x_failed l D k st lo x0 x1 tz ta__53 (nI nq_10) 2 (nI pl_10)) H.size) (cwV 0 hts (gV tw_367 tw_368 tw_369 tw_80 tw_370) rfl rfl rfl (by decide +kernel) ⟨Nat.le_of_ble_eq_true rfl, Nat.le_of_ble_eq_true rfl⟩) (pV hS hAlo hlo hP hK (va_Dlo hD hAlo) hZ [4] (by decide) rfl (ci := 6) (q := (RX6, TX6, 6)) (q0 := 0) rfl rfl) rfl rfl hl.1 rfl (lv_room (Nat.le_of_ble_eq_true rfl)) dX5_readDoors_80 ⟨Nat.le_of_ble_eq_true rfl, Nat.le_of_ble_eq_true rfl⟩) hS hA hP (fun r_55 H locs hw_55 hP hS => ?_)
          try dsimp only at hw_55
          obtain rfl : r_55 = 1 := by rcases hw_55 with ⟨h, h2⟩ | ⟨h, h2⟩ <;> first | exact h | exact absurd rfl h2 | exact absurd h2 (by decide)
          refine lv_if_eq (tgt := 87) hx hb dX5_readDoors_83 (by decide) (fun h => absurd h (by decide)) (fun _ => ?_)
          obtain ⟨hP9, hD9⟩ := pd_sub [(h0, .inr (5, (fX5 h1 h2 h3 h4))), (aI k h1 10 (vv n see tm g)), (aI k h2 24 ff), (aI k h3 24 fp), (x0, .inr (6, (fX6 x1 (nI tz) (nI ta__53) (nI nq_10) 2 (nI pl_10)))), (aB k x1 240 fx)] [0, 1, 2, 3, 4, 5] hP hD (by decide) rfl
          exact W.vret hx hb hr (fun t ht hW => ⟨⟨(n, ff, fp, ta__53, (nI nq_10), 2, (nI pl_10)), rfl, ⟨.inr ⟨2, pl_10, rfl, by decide, by decide, by simp [doC, doF, hq_2, hq_8, hq_10, nI_clamp (show nb_3 < 2 ^ 31 by omega), c_6, -List.getD_eq_getElem?_getD], by simp [doC, doF, hq_2, hq_8, hq_10, nI_clamp (show nb_3 < 2 ^ 31 by omega), c_6, -List.getD_eq_getElem?_getD], rfl⟩, by omega, by omega, by omega⟩, by rw [ht]; exact hP9, hD9⟩, hS.F ht⟩) hS.2.2 dX5_readDoors_86
      · refine lv_aload_n hx hb dX5_readDoors_50 rfl (lv_at hl 3 rfl) ?_
        refine lv_iconst (v := 0) hx hb dX5_readDoors_51 (by decide) ?_
        refine lv_bipush (v := 100) hx hb dX5_readDoors_52 (by decide) ?_
        refine rw_i (D := D) (wr := [(h0, .inr (5, (fX5 h1 h2 h3 h4))), (aI k h1 10 (vv n see tm g)), (aI k h2 24 ff), (aI k h3 24 fp)]) (va_runV (As := [.int 0, .int 100]) (rest := []) ⟨hx, hb, hml, hown, hts⟩ ((y_needNumber l D k st lo x0 x1 tz ta__7 (nI nq_2) 1 (nI pl_8) fx 0 100 (by first | assumption | omega) (by first | assumption | omega) (by decide)) H.size) (cwV 2 hts (gV tw_467 tw_468 tw_469 tw_80 tw_470) rfl rfl rfl (by decide +kernel) ⟨Nat.le_of_ble_eq_true rfl, Nat.le_of_ble_eq_true rfl⟩) (pV hS hAlo hlo hP hK (va_Dlo hD hAlo) hZ [4, 5] (by decide) rfl (ci := 6) (q := (RX6, TX6, 6)) (q0 := 0) rfl rfl) rfl rfl hl.1 rfl (lv_room (Nat.le_of_ble_eq_true rfl)) dX5_readDoors_54 ⟨Nat.le_of_ble_eq_true rfl, Nat.le_of_ble_eq_true rfl⟩) hS hA hP hD [4, 5] [0, 1, 2, 3] rfl rfl (by decide) (by decide) (fun r_56 u H locs hw_56 hP hD hS => ?_)
        obtain ⟨ta__56, na__56, fn__56, fb__56⟩ := u
        have hQ9 := pd_mk [(h0, .inr (5, (fX5 h1 h2 h3 h4))), (aI k h1 10 (vv n see tm g)), (aI k h2 24 ff), (aI k h3 24 fp), (x0, .inr (6, (fX6 x1 (nI tz) (nI ta__56) na__56 fn__56 fb__56))), (aB k x1 240 fx)] hP hD
        clear hP hD
        obtain ⟨hP, hD⟩ := hQ9
        try dsimp only at hw_56
        have hr_57 := (hw_56.1 (by decide)).1
        obtain ⟨hs0_58, hs1_58, hs2_58, hs3_58⟩ := (hw_56.1 (by decide)).2
        replace hs0_58 := hs0_58.symm
        subst hs0_58
        replace hs1_58 := hs1_58.symm
        subst hs1_58
        replace hs2_58 := hs2_58.symm
        subst hs2_58
        replace hs3_58 := hs3_58.symm
        subst hs3_58
        refine lv_istore (lv' := [(4, .int r_56), (3, .int (nI n)), (2, .int (nI nb_3)), (0, .ref h0), (1, .ref x0)]) hx hb dX5_readDoors_57 hl (by decide) rfl (fun ls hl => ?_)
        refine lv_aload_n hx hb dX5_readDoors_59 rfl (lv_at hl 4 rfl) ?_
        refine va_ldcS hx hb hown (hZ.2.2.2.2.2.2.2.2.2.2 (RX5, 124, "price", 11) (List.mem_of_getElem? (i := 11) rfl)) dX5_readDoors_60 ?_
        refine rw_v (D := D) (wr := [(h0, .inr (5, (fX5 h1 h2 h3 h4))), (aI k h1 10 (vv n see tm g)), (aI k h2 24 ff), (aI k h3 24 fp)]) (va_runV (As := [.ref (st (100 + 11))]) (rest := []) ⟨hx, hb, hml, hown, hts⟩ ((y_needWord l D k st lo x0 x1 tz ta__7 (nI nq_2) 1 (nI pl_8) fx 11 (by first | assumption | omega) (by first | assumption | omega) (by first | assumption | omega)) H.size) (cwV 1 hts (gV tw_482 tw_483 tw_484 tw_80 tw_485) rfl rfl rfl (by decide +kernel) ⟨Nat.le_of_ble_eq_true rfl, Nat.le_of_ble_eq_true rfl⟩) (pV hS hAlo hlo hP hK (va_Dlo hD hAlo) hZ [4, 5] (by decide) rfl (ci := 6) (q := (RX6, TX6, 6)) (q0 := 0) rfl rfl) rfl rfl hl.1 rfl (lv_room (Nat.le_of_ble_eq_true rfl)) dX5_readDoors_62 ⟨Nat.le_of_ble_eq_true rfl, Nat.le_of_ble_eq_true rfl⟩) hS hA hP hD [4, 5] [0, 1, 2, 3] rfl rfl (by decide) (by decide) (fun u H locs hw_59 hP hD hS => ?_)
        obtain ⟨ta__59, fn__59, fb__59⟩ := u
        have hQ9 := pd_mk [(h0, .inr (5, (fX5 h1 h2 h3 h4))), (aI k h1 10 (vv n see tm g)), (aI k h2 24 ff), (aI k h3 24 fp), (x0, .inr (6, (fX6 x1 (nI tz) (nI ta__59) (nI nq_2) fn__59 fb__59))), (aB k x1 240 fx)] hP hD
        clear hP hD
        obtain ⟨hP, hD⟩ := hQ9
        try dsimp only at hw_59
        obtain ⟨hs0_60, hs1_60, hs2_60⟩ := hw_59.1 (by decide)
        replace hs0_60 := hs0_60.symm
        subst hs0_60
        replace hs1_60 := hs1_60.symm
        subst hs1_60
        replace hs2_60 := hs2_60.symm
        subst hs2_60
        refine lv_aload_n hx hb dX5_readDoors_65 rfl (lv_at hl 4 rfl) ?_
        refine lv_iconst (v := 0) hx hb dX5_readDoors_66 (by decide) ?_
        refine lv_sipush (v := 999) hx hb dX5_readDoors_67 (by decide) ?_
        refine rw_i (D := D) (wr := [(h0, .inr (5, (fX5 h1 h2 h3 h4))), (aI k h1 10 (vv n see tm g)), (aI k h2 24 ff), (aI k h3 24 fp)]) (va_runV (As := [.int 0, .int 999]) (rest := []) ⟨hx, hb, hml, hown, hts⟩ ((y_needNumber l D k st lo x0 x1 tz ta__7 (nI nq_2) 1 (nI pl_8) fx 0 999 (by first | assumption | omega) (by first | assumption | omega) (by decide)) H.size) (cwV 2 hts (gV tw_467 tw_468 tw_469 tw_80 tw_470) rfl rfl rfl (by decide +kernel) ⟨Nat.le_of_ble_eq_true rfl, Nat.le_of_ble_eq_true rfl⟩) (pV hS hAlo hlo hP hK (va_Dlo hD hAlo) hZ [4, 5] (by decide) rfl (ci := 6) (q := (RX6, TX6, 6)) (q0 := 0) rfl rfl) rfl rfl hl.1 rfl (lv_room (Nat.le_of_ble_eq_true rfl)) dX5_readDoors_70 ⟨Nat.le_of_ble_eq_true rfl, Nat.le_of_ble_eq_true rfl⟩) hS hA hP hD [4, 5] [0, 1, 2, 3] rfl rfl (by decide) (by decide) (fun r_61 u H locs hw_61 hP hD hS => ?_)
        obtain ⟨ta__61, na__61, fn__61, fb__61⟩ := u
        have hQ9 := pd_mk [(h0, .inr (5, (fX5 h1 h2 h3 h4))), (aI k h1 10 (vv n see tm g)), (aI k h2 24 ff), (aI k h3 24 fp), (x0, .inr (6, (fX6 x1 (nI tz) (nI ta__61) na__61 fn__61 fb__61))), (aB k x1 240 fx)] hP hD
        clear hP hD
        obtain ⟨hP, hD⟩ := hQ9
        try dsimp only at hw_61
        have hr_62 := (hw_61.1 (by decide)).1
        obtain ⟨hs0_63, hs1_63, hs2_63, hs3_63⟩ := (hw_61.1 (by decide)).2
        replace hs0_63 := hs0_63.symm
        subst hs0_63
        replace hs1_63 := hs1_63.symm
        subst hs1_63
        replace hs2_63 := hs2_63.symm
        subst hs2_63
        replace hs3_63 := hs3_63.symm
        subst hs3_63
        refine lv_istore (lv' := [(5, .int r_61), (4, .int r_56), (3, .int (nI n)), (2, .int (nI nb_3)), (0, .ref h0), (1, .ref x0)]) hx hb dX5_readDoors_73 hl (by decide) rfl (fun ls hl => ?_)
        refine lv_aload_n hx hb dX5_readDoors_75 rfl (lv_at hl 5 rfl) ?_
        refine rw_v (D := D) (wr := [(h0, .inr (5, (fX5 h1 h2 h3 h4))), (aI k h1 10 (vv n see tm g)), (aI k h2 24 ff), (aI k h3 24 fp)]) (va_runV (As := []) (rest := []) ⟨hx, hb, hml, hown, hts⟩ ((y_needSemicolon l D k st lo x0 x1 tz ta__7 (nI nq_2) 1 (nI pl_8) fx (by first | assumption | omega) (by first | assumption | omega)) H.size) (cwV 0 hts (gV tw_488 tw_489 tw_490 tw_80 tw_491) rfl rfl rfl (by decide +kernel) ⟨Nat.le_of_ble_eq_true rfl, Nat.le_of_ble_eq_true rfl⟩) (pV hS hAlo hlo hP hK (va_Dlo hD hAlo) hZ [4, 5] (by decide) rfl (ci := 6) (q := (RX6, TX6, 6)) (q0 := 0) rfl rfl) rfl rfl hl.1 rfl (lv_room (Nat.le_of_ble_eq_true rfl)) dX5_readDoors_76 ⟨Nat.le_of_ble_eq_true rfl, Nat.le_of_ble_eq_true rfl⟩) hS hA hP hD [4, 5] [0, 1, 2, 3] rfl rfl (by decide) (by decide) (fun u H locs hw_64 hP hD hS => ?_)
        obtain ⟨ta__64, fn__64, fb__64⟩ := u
        have hQ9 := pd_mk [(h0, .inr (5, (fX5 h1 h2 h3 h4))), (aI k h1 10 (vv n see tm g)), (aI k h2 24 ff), (aI k h3 24 fp), (x0, .inr (6, (fX6 x1 (nI tz) (nI ta__64) (nI nq_2) fn__64 fb__64))), (aB k x1 240 fx)] hP hD
        clear hP hD
        obtain ⟨hP, hD⟩ := hQ9
        try dsimp only at hw_64
        obtain ⟨hs0_65, hs1_65⟩ := hw_64.1 (by decide)
        replace hs0_65 := hs0_65.symm
        subst hs0_65
        replace hs1_65 := hs1_65.symm
        subst hs1_65
        refine lv_aload_n hx hb dX5_readDoors_79 rfl (lv_at hl 5 rfl) ?_
        refine ro_i (D := D) (va_runV (As := []) (rest := []) ⟨hx, hb, hml, hown, hts⟩ ((x_failed l D k st lo x0 x1 tz ta__64 (nI nq_2) 1 (nI pl_8)) H.size) (cwV 0 hts (gV tw_367 tw_368 tw_369 tw_80 tw_370) rfl rfl rfl (by decide +kernel) ⟨Nat.le_of_ble_eq_true rfl, Nat.le_of_ble_eq_true rfl⟩) (pV hS hAlo hlo hP hK (va_Dlo hD hAlo) hZ [4] (by decide) rfl (ci := 6) (q := (RX6, TX6, 6)) (q0 := 0) rfl rfl) rfl rfl hl.1 rfl (lv_room (Nat.le_of_ble_eq_true rfl)) dX5_readDoors_80 ⟨Nat.le_of_ble_eq_true rfl, Nat.le_of_ble_eq_true rfl⟩) hS hA hP (fun r_66 H locs hw_66 hP hS => ?_)
        try dsimp only at hw_66
        obtain rfl : r_66 = 1 := by rcases hw_66 with ⟨h, h2⟩ | ⟨h, h2⟩ <;> first | exact h | exact absurd rfl h2 | exact absurd h2 (by decide)
        refine lv_if_eq (tgt := 87) hx hb dX5_readDoors_83 (by decide) (fun h => absurd h (by decide)) (fun _ => ?_)
        obtain ⟨hP9, hD9⟩ := pd_sub [(h0, .inr (5, (fX5 h1 h2 h3 h4))), (aI k h1 10 (vv n see tm g)), (aI k h2 24 ff), (aI k h3 24 fp), (x0, .inr (6, (fX6 x1 (nI tz) (nI ta__64) (nI nq_2) 1 (nI pl_8)))), (aB k x1 240 fx)] [0, 1, 2, 3, 4, 5] hP hD (by decide) rfl
        exact W.vret hx hb hr (fun t ht hW => ⟨⟨(n, ff, fp, ta__64, (nI nq_2), 1, (nI pl_8)), rfl, ⟨.inr ⟨1, pl_8, rfl, by decide, by decide, by simp [doC, doF, hq_2, hq_8, nI_clamp (show nb_3 < 2 ^ 31 by omega), c_6, -List.getD_eq_getElem?_getD], by simp [doC, doF, hq_2, hq_8, nI_clamp (show nb_3 < 2 ^ 31 by omega), c_6, -List.getD_eq_getElem?_getD], rfl⟩, by omega, by omega, by omega⟩, by rw [ht]; exact hP9, hD9⟩, hS.F ht⟩) hS.2.2 dX5_readDoors_86
    · have c_6 : ¬ ((n + nb_3) ≤ 24) := fun h => c_6 ((nI_leI (a := (n + nb_3)) (b := 24) (by omega) (by omega)).mpr h)
      refine lv_aload_n hx hb dX5_readDoors_35 rfl (lv_at hl 3 rfl) ?_
      refine lv_iconst (v := 4) hx hb dX5_readDoors_36 (by decide) ?_
      refine lv_aload_n hx hb dX5_readDoors_37 rfl (lv_at hl 3 rfl) ?_
      refine va_get (D := D) (ci := 6) (v := .int (nI nq_2)) (C := RX6) (T := TX6) (N := 6) hx hb hts inX6 hown hK hP 4 rfl rfl 3 (by decide) (hts _ tw_118) (fun _ h9 => h9) rfl dX5_readDoors_38 ?_
      refine rw_v (D := D) (wr := [(h0, .inr (5, (fX5 h1 h2 h3 h4))), (aI k h1 10 (vv n see tm g)), (aI k h2 24 ff), (aI k h3 24 fp), (aB k x1 240 fx)]) (va_runV (As := [.int 4, .int (nI nq_2)]) (rest := []) ⟨hx, hb, hml, hown, hts⟩ ((y_fail l D k st lo x0 x1 tz ta__1 (nI nq_2) 0 fb__1 4 (nI nq_2) (by decide)) H.size) (cwV 2 hts (gV tw_455 tw_456 tw_457 tw_80 tw_458) rfl rfl rfl (by decide +kernel) ⟨Nat.le_of_ble_eq_true rfl, Nat.le_of_ble_eq_true rfl⟩) (pV hS hAlo hlo hP hK (va_Dlo hD hAlo) hZ [4] (by decide) rfl (ci := 6) (q := (RX6, TX6, 6)) (q0 := 0) rfl rfl) rfl rfl hl.1 rfl (lv_room (Nat.le_of_ble_eq_true rfl)) dX5_readDoors_41 ⟨Nat.le_of_ble_eq_true rfl, Nat.le_of_ble_eq_true rfl⟩) hS hA hP hD [4] [0, 1, 2, 3, 5] rfl rfl (by decide) (by decide) (fun u H locs hw_67 hP hD hS => ?_)
      obtain ⟨fn__67, fb__67⟩ := u
      have hQ9 := pd_mk [(h0, .inr (5, (fX5 h1 h2 h3 h4))), (aI k h1 10 (vv n see tm g)), (aI k h2 24 ff), (aI k h3 24 fp), (aB k x1 240 fx), (x0, .inr (6, (fX6 x1 (nI tz) (nI ta__1) (nI nq_2) fn__67 fb__67)))] hP hD
      clear hP hD
      obtain ⟨hP, hD⟩ := hQ9
      try dsimp only at hw_67
      obtain ⟨hs0_68, hs1_68⟩ := hw_67.2.1 rfl
      replace hs0_68 := hs0_68.symm
      subst hs0_68
      replace hs1_68 := hs1_68.symm
      subst hs1_68
      refine lv_aload_n hx hb dX5_readDoors_44 rfl (lv_at hl 3 rfl) ?_
      refine va_ldcS hx hb hown (hZ.2.2.2.2.2.2.2.2.2.2 (RX5, 118, "free", 10) (List.mem_of_getElem? (i := 10) rfl)) dX5_readDoors_45 ?_
      refine rw_v (D := D) (wr := [(h0, .inr (5, (fX5 h1 h2 h3 h4))), (aI k h1 10 (vv n see tm g)), (aI k h2 24 ff), (aI k h3 24 fp)]) (va_runV (As := [.ref (st (100 + 10))]) (rest := []) ⟨hx, hb, hml, hown, hts⟩ ((y_needWord l D k st lo x0 x1 tz ta__1 (nI nq_2) 4 (nI nq_2) fx 10 (by first | assumption | omega) (by first | assumption | omega) (by first | assumption | omega)) H.size) (cwV 1 hts (gV tw_482 tw_483 tw_484 tw_80 tw_485) rfl rfl rfl (by decide +kernel) ⟨Nat.le_of_ble_eq_true rfl, Nat.le_of_ble_eq_true rfl⟩) (pV hS hAlo hlo hP hK (va_Dlo hD hAlo) hZ [5, 4] (by decide) rfl (ci := 6) (q := (RX6, TX6, 6)) (q0 := 0) rfl rfl) rfl rfl hl.1 rfl (lv_room (Nat.le_of_ble_eq_true rfl)) dX5_readDoors_47 ⟨Nat.le_of_ble_eq_true rfl, Nat.le_of_ble_eq_true rfl⟩) hS hA hP hD [5, 4] [0, 1, 2, 3] rfl rfl (by decide) (by decide) (fun u H locs hw_69 hP hD hS => ?_)
      obtain ⟨ta__69, fn__69, fb__69⟩ := u
      have hQ9 := pd_mk [(h0, .inr (5, (fX5 h1 h2 h3 h4))), (aI k h1 10 (vv n see tm g)), (aI k h2 24 ff), (aI k h3 24 fp), (x0, .inr (6, (fX6 x1 (nI tz) (nI ta__69) (nI nq_2) fn__69 fb__69))), (aB k x1 240 fx)] hP hD
      clear hP hD
      obtain ⟨hP, hD⟩ := hQ9
      try dsimp only at hw_69
      obtain ⟨hs0_70, hs1_70, hs2_70⟩ := hw_69.1 (by decide)
      replace hs0_70 := hs0_70.symm
      subst hs0_70
      replace hs1_70 := hs1_70.symm
      subst hs1_70
      replace hs2_70 := hs2_70.symm
      subst hs2_70
      refine lv_aload_n hx hb dX5_readDoors_50 rfl (lv_at hl 3 rfl) ?_
      refine lv_iconst (v := 0) hx hb dX5_readDoors_51 (by decide) ?_
      refine lv_bipush (v := 100) hx hb dX5_readDoors_52 (by decide) ?_
      refine rw_i (D := D) (wr := [(h0, .inr (5, (fX5 h1 h2 h3 h4))), (aI k h1 10 (vv n see tm g)), (aI k h2 24 ff), (aI k h3 24 fp)]) (va_runV (As := [.int 0, .int 100]) (rest := []) ⟨hx, hb, hml, hown, hts⟩ ((y_needNumber l D k st lo x0 x1 tz ta__1 (nI nq_2) 4 (nI nq_2) fx 0 100 (by first | assumption | omega) (by first | assumption | omega) (by decide)) H.size) (cwV 2 hts (gV tw_467 tw_468 tw_469 tw_80 tw_470) rfl rfl rfl (by decide +kernel) ⟨Nat.le_of_ble_eq_true rfl, Nat.le_of_ble_eq_true rfl⟩) (pV hS hAlo hlo hP hK (va_Dlo hD hAlo) hZ [4, 5] (by decide) rfl (ci := 6) (q := (RX6, TX6, 6)) (q0 := 0) rfl rfl) rfl rfl hl.1 rfl (lv_room (Nat.le_of_ble_eq_true rfl)) dX5_readDoors_54 ⟨Nat.le_of_ble_eq_true rfl, Nat.le_of_ble_eq_true rfl⟩) hS hA hP hD [4, 5] [0, 1, 2, 3] rfl rfl (by decide) (by decide) (fun r_71 u H locs hw_71 hP hD hS => ?_)
      obtain ⟨ta__71, na__71, fn__71, fb__71⟩ := u
      have hQ9 := pd_mk [(h0, .inr (5, (fX5 h1 h2 h3 h4))), (aI k h1 10 (vv n see tm g)), (aI k h2 24 ff), (aI k h3 24 fp), (x0, .inr (6, (fX6 x1 (nI tz) (nI ta__71) na__71 fn__71 fb__71))), (aB k x1 240 fx)] hP hD
      clear hP hD
      obtain ⟨hP, hD⟩ := hQ9
      try dsimp only at hw_71
      have hr_72 := (hw_71.1 (by decide)).1
      obtain ⟨hs0_73, hs1_73, hs2_73, hs3_73⟩ := (hw_71.1 (by decide)).2
      replace hs0_73 := hs0_73.symm
      subst hs0_73
      replace hs1_73 := hs1_73.symm
      subst hs1_73
      replace hs2_73 := hs2_73.symm
      subst hs2_73
      replace hs3_73 := hs3_73.symm
      subst hs3_73
      refine lv_istore (lv' := [(4, .int r_71), (3, .int (nI n)), (2, .int (nI nb_3)), (0, .ref h0), (1, .ref x0)]) hx hb dX5_readDoors_57 hl (by decide) rfl (fun ls hl => ?_)
      refine lv_aload_n hx hb dX5_readDoors_59 rfl (lv_at hl 4 rfl) ?_
      refine va_ldcS hx hb hown (hZ.2.2.2.2.2.2.2.2.2.2 (RX5, 124, "price", 11) (List.mem_of_getElem? (i := 11) rfl)) dX5_readDoors_60 ?_
      refine rw_v (D := D) (wr := [(h0, .inr (5, (fX5 h1 h2 h3 h4))), (aI k h1 10 (vv n see tm g)), (aI k h2 24 ff), (aI k h3 24 fp)]) (va_runV (As := [.ref (st (100 + 11))]) (rest := []) ⟨hx, hb, hml, hown, hts⟩ ((y_needWord l D k st lo x0 x1 tz ta__1 (nI nq_2) 4 (nI nq_2) fx 11 (by first | assumption | omega) (by first | assumption | omega) (by first | assumption | omega)) H.size) (cwV 1 hts (gV tw_482 tw_483 tw_484 tw_80 tw_485) rfl rfl rfl (by decide +kernel) ⟨Nat.le_of_ble_eq_true rfl, Nat.le_of_ble_eq_true rfl⟩) (pV hS hAlo hlo hP hK (va_Dlo hD hAlo) hZ [4, 5] (by decide) rfl (ci := 6) (q := (RX6, TX6, 6)) (q0 := 0) rfl rfl) rfl rfl hl.1 rfl (lv_room (Nat.le_of_ble_eq_true rfl)) dX5_readDoors_62 ⟨Nat.le_of_ble_eq_true rfl, Nat.le_of_ble_eq_true rfl⟩) hS hA hP hD [4, 5] [0, 1, 2, 3] rfl rfl (by decide) (by decide) (fun u H locs hw_74 hP hD hS => ?_)
      obtain ⟨ta__74, fn__74, fb__74⟩ := u
      have hQ9 := pd_mk [(h0, .inr (5, (fX5 h1 h2 h3 h4))), (aI k h1 10 (vv n see tm g)), (aI k h2 24 ff), (aI k h3 24 fp), (x0, .inr (6, (fX6 x1 (nI tz) (nI ta__74) (nI nq_2) fn__74 fb__74))), (aB k x1 240 fx)] hP hD
      clear hP hD
      obtain ⟨hP, hD⟩ := hQ9
      try dsimp only at hw_74
      obtain ⟨hs0_75, hs1_75, hs2_75⟩ := hw_74.1 (by decide)
      replace hs0_75 := hs0_75.symm
      subst hs0_75
      replace hs1_75 := hs1_75.symm
      subst hs1_75
      replace hs2_75 := hs2_75.symm
      subst hs2_75
      refine lv_aload_n hx hb dX5_readDoors_65 rfl (lv_at hl 4 rfl) ?_
      refine lv_iconst (v := 0) hx hb dX5_readDoors_66 (by decide) ?_
      refine lv_sipush (v := 999) hx hb dX5_readDoors_67 (by decide) ?_
      refine rw_i (D := D) (wr := [(h0, .inr (5, (fX5 h1 h2 h3 h4))), (aI k h1 10 (vv n see tm g)), (aI k h2 24 ff), (aI k h3 24 fp)]) (va_runV (As := [.int 0, .int 999]) (rest := []) ⟨hx, hb, hml, hown, hts⟩ ((y_needNumber l D k st lo x0 x1 tz ta__1 (nI nq_2) 4 (nI nq_2) fx 0 999 (by first | assumption | omega) (by first | assumption | omega) (by decide)) H.size) (cwV 2 hts (gV tw_467 tw_468 tw_469 tw_80 tw_470) rfl rfl rfl (by decide +kernel) ⟨Nat.le_of_ble_eq_true rfl, Nat.le_of_ble_eq_true rfl⟩) (pV hS hAlo hlo hP hK (va_Dlo hD hAlo) hZ [4, 5] (by decide) rfl (ci := 6) (q := (RX6, TX6, 6)) (q0 := 0) rfl rfl) rfl rfl hl.1 rfl (lv_room (Nat.le_of_ble_eq_true rfl)) dX5_readDoors_70 ⟨Nat.le_of_ble_eq_true rfl, Nat.le_of_ble_eq_true rfl⟩) hS hA hP hD [4, 5] [0, 1, 2, 3] rfl rfl (by decide) (by decide) (fun r_76 u H locs hw_76 hP hD hS => ?_)
      obtain ⟨ta__76, na__76, fn__76, fb__76⟩ := u
      have hQ9 := pd_mk [(h0, .inr (5, (fX5 h1 h2 h3 h4))), (aI k h1 10 (vv n see tm g)), (aI k h2 24 ff), (aI k h3 24 fp), (x0, .inr (6, (fX6 x1 (nI tz) (nI ta__76) na__76 fn__76 fb__76))), (aB k x1 240 fx)] hP hD
      clear hP hD
      obtain ⟨hP, hD⟩ := hQ9
      try dsimp only at hw_76
      have hr_77 := (hw_76.1 (by decide)).1
      obtain ⟨hs0_78, hs1_78, hs2_78, hs3_78⟩ := (hw_76.1 (by decide)).2
      replace hs0_78 := hs0_78.symm
      subst hs0_78
      replace hs1_78 := hs1_78.symm
      subst hs1_78
      replace hs2_78 := hs2_78.symm
      subst hs2_78
      replace hs3_78 := hs3_78.symm
      subst hs3_78
      refine lv_istore (lv' := [(5, .int r_76), (4, .int r_71), (3, .int (nI n)), (2, .int (nI nb_3)), (0, .ref h0), (1, .ref x0)]) hx hb dX5_readDoors_73 hl (by decide) rfl (fun ls hl => ?_)
      refine lv_aload_n hx hb dX5_readDoors_75 rfl (lv_at hl 5 rfl) ?_
      refine rw_v (D := D) (wr := [(h0, .inr (5, (fX5 h1 h2 h3 h4))), (aI k h1 10 (vv n see tm g)), (aI k h2 24 ff), (aI k h3 24 fp)]) (va_runV (As := []) (rest := []) ⟨hx, hb, hml, hown, hts⟩ ((y_needSemicolon l D k st lo x0 x1 tz ta__1 (nI nq_2) 4 (nI nq_2) fx (by first | assumption | omega) (by first | assumption | omega)) H.size) (cwV 0 hts (gV tw_488 tw_489 tw_490 tw_80 tw_491) rfl rfl rfl (by decide +kernel) ⟨Nat.le_of_ble_eq_true rfl, Nat.le_of_ble_eq_true rfl⟩) (pV hS hAlo hlo hP hK (va_Dlo hD hAlo) hZ [4, 5] (by decide) rfl (ci := 6) (q := (RX6, TX6, 6)) (q0 := 0) rfl rfl) rfl rfl hl.1 rfl (lv_room (Nat.le_of_ble_eq_true rfl)) dX5_readDoors_76 ⟨Nat.le_of_ble_eq_true rfl, Nat.le_of_ble_eq_true rfl⟩) hS hA hP hD [4, 5] [0, 1, 2, 3] rfl rfl (by decide) (by decide) (fun u H locs hw_79 hP hD hS => ?_)
      obtain ⟨ta__79, fn__79, fb__79⟩ := u
      have hQ9 := pd_mk [(h0, .inr (5, (fX5 h1 h2 h3 h4))), (aI k h1 10 (vv n see tm g)), (aI k h2 24 ff), (aI k h3 24 fp), (x0, .inr (6, (fX6 x1 (nI tz) (nI ta__79) (nI nq_2) fn__79 fb__79))), (aB k x1 240 fx)] hP hD
      clear hP hD
      obtain ⟨hP, hD⟩ := hQ9
      try dsimp only at hw_79
      obtain ⟨hs0_80, hs1_80⟩ := hw_79.1 (by decide)
      replace hs0_80 := hs0_80.symm
      subst hs0_80
      replace hs1_80 := hs1_80.symm
      subst hs1_80
      refine lv_aload_n hx hb dX5_readDoors_79 rfl (lv_at hl 5 rfl) ?_
      refine ro_i (D := D) (va_runV (As := []) (rest := []) ⟨hx, hb, hml, hown, hts⟩ ((x_failed l D k st lo x0 x1 tz ta__79 (nI nq_2) 4 (nI nq_2)) H.size) (cwV 0 hts (gV tw_367 tw_368 tw_369 tw_80 tw_370) rfl rfl rfl (by decide +kernel) ⟨Nat.le_of_ble_eq_true rfl, Nat.le_of_ble_eq_true rfl⟩) (pV hS hAlo hlo hP hK (va_Dlo hD hAlo) hZ [4] (by decide) rfl (ci := 6) (q := (RX6, TX6, 6)) (q0 := 0) rfl rfl) rfl rfl hl.1 rfl (lv_room (Nat.le_of_ble_eq_true rfl)) dX5_readDoors_80 ⟨Nat.le_of_ble_eq_true rfl, Nat.le_of_ble_eq_true rfl⟩) hS hA hP (fun r_81 H locs hw_81 hP hS => ?_)
      try dsimp only at hw_81
      obtain rfl : r_81 = 1 := by rcases hw_81 with ⟨h, h2⟩ | ⟨h, h2⟩ <;> first | exact h | exact absurd rfl h2 | exact absurd h2 (by decide)
      refine lv_if_eq (tgt := 87) hx hb dX5_readDoors_83 (by decide) (fun h => absurd h (by decide)) (fun _ => ?_)
      obtain ⟨hP9, hD9⟩ := pd_sub [(h0, .inr (5, (fX5 h1 h2 h3 h4))), (aI k h1 10 (vv n see tm g)), (aI k h2 24 ff), (aI k h3 24 fp), (x0, .inr (6, (fX6 x1 (nI tz) (nI ta__79) (nI nq_2) 4 (nI nq_2)))), (aB k x1 240 fx)] [0, 1, 2, 3, 4, 5] hP hD (by decide) rfl
      exact W.vret hx hb hr (fun t ht hW => ⟨⟨(n, ff, fp, ta__79, (nI nq_2), 4, (nI nq_2)), rfl, ⟨.inr ⟨4, nq_2, rfl, by decide, by decide, by simp [doC, doF, hq_2, nI_clamp (show nb_3 < 2 ^ 31 by omega), c_6, -List.getD_eq_getElem?_getD], by simp [doC, doF, hq_2, nI_clamp (show nb_3 < 2 ^ 31 by omega), c_6, -List.getD_eq_getElem?_getD], rfl⟩, by omega, by omega, by omega⟩, by rw [ht]; exact hP9, hD9⟩, hS.F ht⟩) hS.2.2 dX5_readDoors_86
  · obtain ⟨nb_82, hnl_82, hnh_82, rfl⟩ := inB_ofc (a := 1) (b := 24) (by omega) (by omega) hw_1.2.2.2.2
    refine lv_istore_n (lv' := [(2, .int (nI nb_82)), (0, .ref h0), (1, .ref x0)]) hx hb dX5_readDoors_14 rfl hl (by decide) rfl (fun ls hl => ?_)
    refine lv_aload_n hx hb dX5_readDoors_15 rfl (lv_at hl 1 rfl) ?_
    refine ro_i (D := D) (va_runV (As := []) (rest := []) ⟨hx, hb, hml, hown, hts⟩ ((x_doors l D k st lo h0 h1 h2 h3 h4 n see tm g) H.size) (cwV 0 hts (gV tw_477 tw_478 tw_479 tw_81 tw_480) rfl rfl rfl (by decide +kernel) ⟨Nat.le_of_ble_eq_true rfl, Nat.le_of_ble_eq_true rfl⟩) (pV hS hAlo hlo hP hK (va_Dlo hD hAlo) hZ [0, 1] (by decide) rfl (ci := 5) (q := (RX5, TX5, 4)) (q0 := 0) rfl rfl) rfl rfl hl.1 rfl (lv_room (Nat.le_of_ble_eq_true rfl)) dX5_readDoors_16 ⟨Nat.le_of_ble_eq_true rfl, Nat.le_of_ble_eq_true rfl⟩) hS hA hP (fun r_83 H locs hw_83 hP hS => ?_)
    try dsimp only at hw_83
    subst hw_83
    refine lv_istore_n (lv' := [(3, .int (nI n)), (2, .int (nI nb_82)), (0, .ref h0), (1, .ref x0)]) hx hb dX5_readDoors_19 rfl hl (by decide) rfl (fun ls hl => ?_)
    refine lv_aload_n hx hb dX5_readDoors_20 rfl (lv_at hl 3 rfl) ?_
    refine ro_i (D := D) (va_runV (As := []) (rest := []) ⟨hx, hb, hml, hown, hts⟩ ((x_failed l D k st lo x0 x1 tz ta__1 (nI nq_2) 1 (nI pl_2)) H.size) (cwV 0 hts (gV tw_367 tw_368 tw_369 tw_80 tw_370) rfl rfl rfl (by decide +kernel) ⟨Nat.le_of_ble_eq_true rfl, Nat.le_of_ble_eq_true rfl⟩) (pV hS hAlo hlo hP hK (va_Dlo hD hAlo) hZ [4] (by decide) rfl (ci := 6) (q := (RX6, TX6, 6)) (q0 := 0) rfl rfl) rfl rfl hl.1 rfl (lv_room (Nat.le_of_ble_eq_true rfl)) dX5_readDoors_21 ⟨Nat.le_of_ble_eq_true rfl, Nat.le_of_ble_eq_true rfl⟩) hS hA hP (fun r_84 H locs hw_84 hP hS => ?_)
    try dsimp only at hw_84
    obtain rfl : r_84 = 1 := by rcases hw_84 with ⟨h, h2⟩ | ⟨h, h2⟩ <;> first | exact h | exact absurd rfl h2 | exact absurd h2 (by decide)
    refine lv_if_ne (tgt := 44) hx hb dX5_readDoors_24 (by decide) (fun _ => ?_) (fun h => absurd h (by decide))
    refine lv_aload_n hx hb dX5_readDoors_44 rfl (lv_at hl 3 rfl) ?_
    refine va_ldcS hx hb hown (hZ.2.2.2.2.2.2.2.2.2.2 (RX5, 118, "free", 10) (List.mem_of_getElem? (i := 10) rfl)) dX5_readDoors_45 ?_
    refine rw_v (D := D) (wr := [(h0, .inr (5, (fX5 h1 h2 h3 h4))), (aI k h1 10 (vv n see tm g)), (aI k h2 24 ff), (aI k h3 24 fp)]) (va_runV (As := [.ref (st (100 + 10))]) (rest := []) ⟨hx, hb, hml, hown, hts⟩ ((y_needWord l D k st lo x0 x1 tz ta__1 (nI nq_2) 1 (nI pl_2) fx 10 (by first | assumption | omega) (by first | assumption | omega) (by first | assumption | omega)) H.size) (cwV 1 hts (gV tw_482 tw_483 tw_484 tw_80 tw_485) rfl rfl rfl (by decide +kernel) ⟨Nat.le_of_ble_eq_true rfl, Nat.le_of_ble_eq_true rfl⟩) (pV hS hAlo hlo hP hK (va_Dlo hD hAlo) hZ [4, 5] (by decide) rfl (ci := 6) (q := (RX6, TX6, 6)) (q0 := 0) rfl rfl) rfl rfl hl.1 rfl (lv_room (Nat.le_of_ble_eq_true rfl)) dX5_readDoors_47 ⟨Nat.le_of_ble_eq_true rfl, Nat.le_of_ble_eq_true rfl⟩) hS hA hP hD [4, 5] [0, 1, 2, 3] rfl rfl (by decide) (by decide) (fun u H locs hw_85 hP hD hS => ?_)
    obtain ⟨ta__85, fn__85, fb__85⟩ := u
    have hQ9 := pd_mk [(h0, .inr (5, (fX5 h1 h2 h3 h4))), (aI k h1 10 (vv n see tm g)), (aI k h2 24 ff), (aI k h3 24 fp), (x0, .inr (6, (fX6 x1 (nI tz) (nI ta__85) (nI nq_2) fn__85 fb__85))), (aB k x1 240 fx)] hP hD
    clear hP hD
    obtain ⟨hP, hD⟩ := hQ9
    try dsimp only at hw_85
    obtain ⟨hs0_86, hs1_86, hs2_86⟩ := hw_85.1 (by decide)
    replace hs0_86 := hs0_86.symm
    subst hs0_86
    replace hs1_86 := hs1_86.symm
    subst hs1_86
    replace hs2_86 := hs2_86.symm
    subst hs2_86
    refine lv_aload_n hx hb dX5_readDoors_50 rfl (lv_at hl 3 rfl) ?_
    refine lv_iconst (v := 0) hx hb dX5_readDoors_51 (by decide) ?_
    refine lv_bipush (v := 100) hx hb dX5_readDoors_52 (by decide) ?_
    refine rw_i (D := D) (wr := [(h0, .inr (5, (fX5 h1 h2 h3 h4))), (aI k h1 10 (vv n see tm g)), (aI k h2 24 ff), (aI k h3 24 fp)]) (va_runV (As := [.int 0, .int 100]) (rest := []) ⟨hx, hb, hml, hown, hts⟩ ((y_needNumber l D k st lo x0 x1 tz ta__1 (nI nq_2) 1 (nI pl_2) fx 0 100 (by first | assumption | omega) (by first | assumption | omega) (by decide)) H.size) (cwV 2 hts (gV tw_467 tw_468 tw_469 tw_80 tw_470) rfl rfl rfl (by decide +kernel) ⟨Nat.le_of_ble_eq_true rfl, Nat.le_of_ble_eq_true rfl⟩) (pV hS hAlo hlo hP hK (va_Dlo hD hAlo) hZ [4, 5] (by decide) rfl (ci := 6) (q := (RX6, TX6, 6)) (q0 := 0) rfl rfl) rfl rfl hl.1 rfl (lv_room (Nat.le_of_ble_eq_true rfl)) dX5_readDoors_54 ⟨Nat.le_of_ble_eq_true rfl, Nat.le_of_ble_eq_true rfl⟩) hS hA hP hD [4, 5] [0, 1, 2, 3] rfl rfl (by decide) (by decide) (fun r_87 u H locs hw_87 hP hD hS => ?_)
    obtain ⟨ta__87, na__87, fn__87, fb__87⟩ := u
    have hQ9 := pd_mk [(h0, .inr (5, (fX5 h1 h2 h3 h4))), (aI k h1 10 (vv n see tm g)), (aI k h2 24 ff), (aI k h3 24 fp), (x0, .inr (6, (fX6 x1 (nI tz) (nI ta__87) na__87 fn__87 fb__87))), (aB k x1 240 fx)] hP hD
    clear hP hD
    obtain ⟨hP, hD⟩ := hQ9
    try dsimp only at hw_87
    have hr_88 := (hw_87.1 (by decide)).1
    obtain ⟨hs0_89, hs1_89, hs2_89, hs3_89⟩ := (hw_87.1 (by decide)).2
    replace hs0_89 := hs0_89.symm
    subst hs0_89
    replace hs1_89 := hs1_89.symm
    subst hs1_89
    replace hs2_89 := hs2_89.symm
    subst hs2_89
    replace hs3_89 := hs3_89.symm
    subst hs3_89
    refine lv_istore (lv' := [(4, .int r_87), (3, .int (nI n)), (2, .int (nI nb_82)), (0, .ref h0), (1, .ref x0)]) hx hb dX5_readDoors_57 hl (by decide) rfl (fun ls hl => ?_)
    refine lv_aload_n hx hb dX5_readDoors_59 rfl (lv_at hl 4 rfl) ?_
    refine va_ldcS hx hb hown (hZ.2.2.2.2.2.2.2.2.2.2 (RX5, 124, "price", 11) (List.mem_of_getElem? (i := 11) rfl)) dX5_readDoors_60 ?_
    refine rw_v (D := D) (wr := [(h0, .inr (5, (fX5 h1 h2 h3 h4))), (aI k h1 10 (vv n see tm g)), (aI k h2 24 ff), (aI k h3 24 fp)]) (va_runV (As := [.ref (st (100 + 11))]) (rest := []) ⟨hx, hb, hml, hown, hts⟩ ((y_needWord l D k st lo x0 x1 tz ta__1 (nI nq_2) 1 (nI pl_2) fx 11 (by first | assumption | omega) (by first | assumption | omega) (by first | assumption | omega)) H.size) (cwV 1 hts (gV tw_482 tw_483 tw_484 tw_80 tw_485) rfl rfl rfl (by decide +kernel) ⟨Nat.le_of_ble_eq_true rfl, Nat.le_of_ble_eq_true rfl⟩) (pV hS hAlo hlo hP hK (va_Dlo hD hAlo) hZ [4, 5] (by decide) rfl (ci := 6) (q := (RX6, TX6, 6)) (q0 := 0) rfl rfl) rfl rfl hl.1 rfl (lv_room (Nat.le_of_ble_eq_true rfl)) dX5_readDoors_62 ⟨Nat.le_of_ble_eq_true rfl, Nat.le_of_ble_eq_true rfl⟩) hS hA hP hD [4, 5] [0, 1, 2, 3] rfl rfl (by decide) (by decide) (fun u H locs hw_90 hP hD hS => ?_)
    obtain ⟨ta__90, fn__90, fb__90⟩ := u
    have hQ9 := pd_mk [(h0, .inr (5, (fX5 h1 h2 h3 h4))), (aI k h1 10 (vv n see tm g)), (aI k h2 24 ff), (aI k h3 24 fp), (x0, .inr (6, (fX6 x1 (nI tz) (nI ta__90) (nI nq_2) fn__90 fb__90))), (aB k x1 240 fx)] hP hD
    clear hP hD
    obtain ⟨hP, hD⟩ := hQ9
    try dsimp only at hw_90
    obtain ⟨hs0_91, hs1_91, hs2_91⟩ := hw_90.1 (by decide)
    replace hs0_91 := hs0_91.symm
    subst hs0_91
    replace hs1_91 := hs1_91.symm
    subst hs1_91
    replace hs2_91 := hs2_91.symm
    subst hs2_91
    refine lv_aload_n hx hb dX5_readDoors_65 rfl (lv_at hl 4 rfl) ?_
    refine lv_iconst (v := 0) hx hb dX5_readDoors_66 (by decide) ?_
    refine lv_sipush (v := 999) hx hb dX5_readDoors_67 (by decide) ?_
    refine rw_i (D := D) (wr := [(h0, .inr (5, (fX5 h1 h2 h3 h4))), (aI k h1 10 (vv n see tm g)), (aI k h2 24 ff), (aI k h3 24 fp)]) (va_runV (As := [.int 0, .int 999]) (rest := []) ⟨hx, hb, hml, hown, hts⟩ ((y_needNumber l D k st lo x0 x1 tz ta__1 (nI nq_2) 1 (nI pl_2) fx 0 999 (by first | assumption | omega) (by first | assumption | omega) (by decide)) H.size) (cwV 2 hts (gV tw_467 tw_468 tw_469 tw_80 tw_470) rfl rfl rfl (by decide +kernel) ⟨Nat.le_of_ble_eq_true rfl, Nat.le_of_ble_eq_true rfl⟩) (pV hS hAlo hlo hP hK (va_Dlo hD hAlo) hZ [4, 5] (by decide) rfl (ci := 6) (q := (RX6, TX6, 6)) (q0 := 0) rfl rfl) rfl rfl hl.1 rfl (lv_room (Nat.le_of_ble_eq_true rfl)) dX5_readDoors_70 ⟨Nat.le_of_ble_eq_true rfl, Nat.le_of_ble_eq_true rfl⟩) hS hA hP hD [4, 5] [0, 1, 2, 3] rfl rfl (by decide) (by decide) (fun r_92 u H locs hw_92 hP hD hS => ?_)
    obtain ⟨ta__92, na__92, fn__92, fb__92⟩ := u
    have hQ9 := pd_mk [(h0, .inr (5, (fX5 h1 h2 h3 h4))), (aI k h1 10 (vv n see tm g)), (aI k h2 24 ff), (aI k h3 24 fp), (x0, .inr (6, (fX6 x1 (nI tz) (nI ta__92) na__92 fn__92 fb__92))), (aB k x1 240 fx)] hP hD
    clear hP hD
    obtain ⟨hP, hD⟩ := hQ9
    try dsimp only at hw_92
    have hr_93 := (hw_92.1 (by decide)).1
    obtain ⟨hs0_94, hs1_94, hs2_94, hs3_94⟩ := (hw_92.1 (by decide)).2
    replace hs0_94 := hs0_94.symm
    subst hs0_94
    replace hs1_94 := hs1_94.symm
    subst hs1_94
    replace hs2_94 := hs2_94.symm
    subst hs2_94
    replace hs3_94 := hs3_94.symm
    subst hs3_94
    refine lv_istore (lv' := [(5, .int r_92), (4, .int r_87), (3, .int (nI n)), (2, .int (nI nb_82)), (0, .ref h0), (1, .ref x0)]) hx hb dX5_readDoors_73 hl (by decide) rfl (fun ls hl => ?_)
    refine lv_aload_n hx hb dX5_readDoors_75 rfl (lv_at hl 5 rfl) ?_
    refine rw_v (D := D) (wr := [(h0, .inr (5, (fX5 h1 h2 h3 h4))), (aI k h1 10 (vv n see tm g)), (aI k h2 24 ff), (aI k h3 24 fp)]) (va_runV (As := []) (rest := []) ⟨hx, hb, hml, hown, hts⟩ ((y_needSemicolon l D k st lo x0 x1 tz ta__1 (nI nq_2) 1 (nI pl_2) fx (by first | assumption | omega) (by first | assumption | omega)) H.size) (cwV 0 hts (gV tw_488 tw_489 tw_490 tw_80 tw_491) rfl rfl rfl (by decide +kernel) ⟨Nat.le_of_ble_eq_true rfl, Nat.le_of_ble_eq_true rfl⟩) (pV hS hAlo hlo hP hK (va_Dlo hD hAlo) hZ [4, 5] (by decide) rfl (ci := 6) (q := (RX6, TX6, 6)) (q0 := 0) rfl rfl) rfl rfl hl.1 rfl (lv_room (Nat.le_of_ble_eq_true rfl)) dX5_readDoors_76 ⟨Nat.le_of_ble_eq_true rfl, Nat.le_of_ble_eq_true rfl⟩) hS hA hP hD [4, 5] [0, 1, 2, 3] rfl rfl (by decide) (by decide) (fun u H locs hw_95 hP hD hS => ?_)
    obtain ⟨ta__95, fn__95, fb__95⟩ := u
    have hQ9 := pd_mk [(h0, .inr (5, (fX5 h1 h2 h3 h4))), (aI k h1 10 (vv n see tm g)), (aI k h2 24 ff), (aI k h3 24 fp), (x0, .inr (6, (fX6 x1 (nI tz) (nI ta__95) (nI nq_2) fn__95 fb__95))), (aB k x1 240 fx)] hP hD
    clear hP hD
    obtain ⟨hP, hD⟩ := hQ9
    try dsimp only at hw_95
    obtain ⟨hs0_96, hs1_96⟩ := hw_95.1 (by decide)
    replace hs0_96 := hs0_96.symm
    subst hs0_96
    replace hs1_96 := hs1_96.symm
    subst hs1_96
    refine lv_aload_n hx hb dX5_readDoors_79 rfl (lv_at hl 5 rfl) ?_
    refine ro_i (D := D) (va_runV (As := []) (rest := []) ⟨hx, hb, hml, hown, hts⟩ ((x_failed l D k st lo x0 x1 tz ta__95 (nI nq_2) 1 (nI pl_2)) H.size) (cwV 0 hts (gV tw_367 tw_368 tw_369 tw_80 tw_370) rfl rfl rfl (by decide +kernel) ⟨Nat.le_of_ble_eq_true rfl, Nat.le_of_ble_eq_true rfl⟩) (pV hS hAlo hlo hP hK (va_Dlo hD hAlo) hZ [4] (by decide) rfl (ci := 6) (q := (RX6, TX6, 6)) (q0 := 0) rfl rfl) rfl rfl hl.1 rfl (lv_room (Nat.le_of_ble_eq_true rfl)) dX5_readDoors_80 ⟨Nat.le_of_ble_eq_true rfl, Nat.le_of_ble_eq_true rfl⟩) hS hA hP (fun r_97 H locs hw_97 hP hS => ?_)
    try dsimp only at hw_97
    obtain rfl : r_97 = 1 := by rcases hw_97 with ⟨h, h2⟩ | ⟨h, h2⟩ <;> first | exact h | exact absurd rfl h2 | exact absurd h2 (by decide)
    refine lv_if_eq (tgt := 87) hx hb dX5_readDoors_83 (by decide) (fun h => absurd h (by decide)) (fun _ => ?_)
    obtain ⟨hP9, hD9⟩ := pd_sub [(h0, .inr (5, (fX5 h1 h2 h3 h4))), (aI k h1 10 (vv n see tm g)), (aI k h2 24 ff), (aI k h3 24 fp), (x0, .inr (6, (fX6 x1 (nI tz) (nI ta__95) (nI nq_2) 1 (nI pl_2)))), (aB k x1 240 fx)] [0, 1, 2, 3, 4, 5] hP hD (by decide) rfl
    exact W.vret hx hb hr (fun t ht hW => ⟨⟨(n, ff, fp, ta__95, (nI nq_2), 1, (nI pl_2)), rfl, ⟨.inr ⟨1, pl_2, rfl, by decide, by decide, by simp [doC, doF, hq_2, nI_clamp (show nb_82 < 2 ^ 31 by omega), -List.getD_eq_getElem?_getD], by simp [doC, doF, hq_2, nI_clamp (show nb_82 < 2 ^ 31 by omega), -List.getD_eq_getElem?_getD], rfl⟩, by omega, by omega, by omega⟩, by rw [ht]; exact hP9, hD9⟩, hS.F ht⟩) hS.2.2 dX5_readDoors_86
  · obtain ⟨nb_98, hnl_98, hnh_98, rfl⟩ := inB_ofc (a := 1) (b := 24) (by omega) (by omega) hw_1.2.2.2.2
    refine lv_istore_n (lv' := [(2, .int (nI nb_98)), (0, .ref h0), (1, .ref x0)]) hx hb dX5_readDoors_14 rfl hl (by decide) rfl (fun ls hl => ?_)
    refine lv_aload_n hx hb dX5_readDoors_15 rfl (lv_at hl 1 rfl) ?_
    refine ro_i (D := D) (va_runV (As := []) (rest := []) ⟨hx, hb, hml, hown, hts⟩ ((x_doors l D k st lo h0 h1 h2 h3 h4 n see tm g) H.size) (cwV 0 hts (gV tw_477 tw_478 tw_479 tw_81 tw_480) rfl rfl rfl (by decide +kernel) ⟨Nat.le_of_ble_eq_true rfl, Nat.le_of_ble_eq_true rfl⟩) (pV hS hAlo hlo hP hK (va_Dlo hD hAlo) hZ [0, 1] (by decide) rfl (ci := 5) (q := (RX5, TX5, 4)) (q0 := 0) rfl rfl) rfl rfl hl.1 rfl (lv_room (Nat.le_of_ble_eq_true rfl)) dX5_readDoors_16 ⟨Nat.le_of_ble_eq_true rfl, Nat.le_of_ble_eq_true rfl⟩) hS hA hP (fun r_99 H locs hw_99 hP hS => ?_)
    try dsimp only at hw_99
    subst hw_99
    refine lv_istore_n (lv' := [(3, .int (nI n)), (2, .int (nI nb_98)), (0, .ref h0), (1, .ref x0)]) hx hb dX5_readDoors_19 rfl hl (by decide) rfl (fun ls hl => ?_)
    refine lv_aload_n hx hb dX5_readDoors_20 rfl (lv_at hl 3 rfl) ?_
    refine ro_i (D := D) (va_runV (As := []) (rest := []) ⟨hx, hb, hml, hown, hts⟩ ((x_failed l D k st lo x0 x1 tz ta__1 (nI nq_2) 2 (nI pl_2)) H.size) (cwV 0 hts (gV tw_367 tw_368 tw_369 tw_80 tw_370) rfl rfl rfl (by decide +kernel) ⟨Nat.le_of_ble_eq_true rfl, Nat.le_of_ble_eq_true rfl⟩) (pV hS hAlo hlo hP hK (va_Dlo hD hAlo) hZ [4] (by decide) rfl (ci := 6) (q := (RX6, TX6, 6)) (q0 := 0) rfl rfl) rfl rfl hl.1 rfl (lv_room (Nat.le_of_ble_eq_true rfl)) dX5_readDoors_21 ⟨Nat.le_of_ble_eq_true rfl, Nat.le_of_ble_eq_true rfl⟩) hS hA hP (fun r_100 H locs hw_100 hP hS => ?_)
    try dsimp only at hw_100
    obtain rfl : r_100 = 1 := by rcases hw_100 with ⟨h, h2⟩ | ⟨h, h2⟩ <;> first | exact h | exact absurd rfl h2 | exact absurd h2 (by decide)
    refine lv_if_ne (tgt := 44) hx hb dX5_readDoors_24 (by decide) (fun _ => ?_) (fun h => absurd h (by decide))
    refine lv_aload_n hx hb dX5_readDoors_44 rfl (lv_at hl 3 rfl) ?_
    refine va_ldcS hx hb hown (hZ.2.2.2.2.2.2.2.2.2.2 (RX5, 118, "free", 10) (List.mem_of_getElem? (i := 10) rfl)) dX5_readDoors_45 ?_
    refine rw_v (D := D) (wr := [(h0, .inr (5, (fX5 h1 h2 h3 h4))), (aI k h1 10 (vv n see tm g)), (aI k h2 24 ff), (aI k h3 24 fp)]) (va_runV (As := [.ref (st (100 + 10))]) (rest := []) ⟨hx, hb, hml, hown, hts⟩ ((y_needWord l D k st lo x0 x1 tz ta__1 (nI nq_2) 2 (nI pl_2) fx 10 (by first | assumption | omega) (by first | assumption | omega) (by first | assumption | omega)) H.size) (cwV 1 hts (gV tw_482 tw_483 tw_484 tw_80 tw_485) rfl rfl rfl (by decide +kernel) ⟨Nat.le_of_ble_eq_true rfl, Nat.le_of_ble_eq_true rfl⟩) (pV hS hAlo hlo hP hK (va_Dlo hD hAlo) hZ [4, 5] (by decide) rfl (ci := 6) (q := (RX6, TX6, 6)) (q0 := 0) rfl rfl) rfl rfl hl.1 rfl (lv_room (Nat.le_of_ble_eq_true rfl)) dX5_readDoors_47 ⟨Nat.le_of_ble_eq_true rfl, Nat.le_of_ble_eq_true rfl⟩) hS hA hP hD [4, 5] [0, 1, 2, 3] rfl rfl (by decide) (by decide) (fun u H locs hw_101 hP hD hS => ?_)
    obtain ⟨ta__101, fn__101, fb__101⟩ := u
    have hQ9 := pd_mk [(h0, .inr (5, (fX5 h1 h2 h3 h4))), (aI k h1 10 (vv n see tm g)), (aI k h2 24 ff), (aI k h3 24 fp), (x0, .inr (6, (fX6 x1 (nI tz) (nI ta__101) (nI nq_2) fn__101 fb__101))), (aB k x1 240 fx)] hP hD
    clear hP hD
    obtain ⟨hP, hD⟩ := hQ9
    try dsimp only at hw_101
    obtain ⟨hs0_102, hs1_102, hs2_102⟩ := hw_101.1 (by decide)
    replace hs0_102 := hs0_102.symm
    subst hs0_102
    replace hs1_102 := hs1_102.symm
    subst hs1_102
    replace hs2_102 := hs2_102.symm
    subst hs2_102
    refine lv_aload_n hx hb dX5_readDoors_50 rfl (lv_at hl 3 rfl) ?_
    refine lv_iconst (v := 0) hx hb dX5_readDoors_51 (by decide) ?_
    refine lv_bipush (v := 100) hx hb dX5_readDoors_52 (by decide) ?_
    refine rw_i (D := D) (wr := [(h0, .inr (5, (fX5 h1 h2 h3 h4))), (aI k h1 10 (vv n see tm g)), (aI k h2 24 ff), (aI k h3 24 fp)]) (va_runV (As := [.int 0, .int 100]) (rest := []) ⟨hx, hb, hml, hown, hts⟩ ((y_needNumber l D k st lo x0 x1 tz ta__1 (nI nq_2) 2 (nI pl_2) fx 0 100 (by first | assumption | omega) (by first | assumption | omega) (by decide)) H.size) (cwV 2 hts (gV tw_467 tw_468 tw_469 tw_80 tw_470) rfl rfl rfl (by decide +kernel) ⟨Nat.le_of_ble_eq_true rfl, Nat.le_of_ble_eq_true rfl⟩) (pV hS hAlo hlo hP hK (va_Dlo hD hAlo) hZ [4, 5] (by decide) rfl (ci := 6) (q := (RX6, TX6, 6)) (q0 := 0) rfl rfl) rfl rfl hl.1 rfl (lv_room (Nat.le_of_ble_eq_true rfl)) dX5_readDoors_54 ⟨Nat.le_of_ble_eq_true rfl, Nat.le_of_ble_eq_true rfl⟩) hS hA hP hD [4, 5] [0, 1, 2, 3] rfl rfl (by decide) (by decide) (fun r_103 u H locs hw_103 hP hD hS => ?_)
    obtain ⟨ta__103, na__103, fn__103, fb__103⟩ := u
    have hQ9 := pd_mk [(h0, .inr (5, (fX5 h1 h2 h3 h4))), (aI k h1 10 (vv n see tm g)), (aI k h2 24 ff), (aI k h3 24 fp), (x0, .inr (6, (fX6 x1 (nI tz) (nI ta__103) na__103 fn__103 fb__103))), (aB k x1 240 fx)] hP hD
    clear hP hD
    obtain ⟨hP, hD⟩ := hQ9
    try dsimp only at hw_103
    have hr_104 := (hw_103.1 (by decide)).1
    obtain ⟨hs0_105, hs1_105, hs2_105, hs3_105⟩ := (hw_103.1 (by decide)).2
    replace hs0_105 := hs0_105.symm
    subst hs0_105
    replace hs1_105 := hs1_105.symm
    subst hs1_105
    replace hs2_105 := hs2_105.symm
    subst hs2_105
    replace hs3_105 := hs3_105.symm
    subst hs3_105
    refine lv_istore (lv' := [(4, .int r_103), (3, .int (nI n)), (2, .int (nI nb_98)), (0, .ref h0), (1, .ref x0)]) hx hb dX5_readDoors_57 hl (by decide) rfl (fun ls hl => ?_)
    refine lv_aload_n hx hb dX5_readDoors_59 rfl (lv_at hl 4 rfl) ?_
    refine va_ldcS hx hb hown (hZ.2.2.2.2.2.2.2.2.2.2 (RX5, 124, "price", 11) (List.mem_of_getElem? (i := 11) rfl)) dX5_readDoors_60 ?_
    refine rw_v (D := D) (wr := [(h0, .inr (5, (fX5 h1 h2 h3 h4))), (aI k h1 10 (vv n see tm g)), (aI k h2 24 ff), (aI k h3 24 fp)]) (va_runV (As := [.ref (st (100 + 11))]) (rest := []) ⟨hx, hb, hml, hown, hts⟩ ((y_needWord l D k st lo x0 x1 tz ta__1 (nI nq_2) 2 (nI pl_2) fx 11 (by first | assumption | omega) (by first | assumption | omega) (by first | assumption | omega)) H.size) (cwV 1 hts (gV tw_482 tw_483 tw_484 tw_80 tw_485) rfl rfl rfl (by decide +kernel) ⟨Nat.le_of_ble_eq_true rfl, Nat.le_of_ble_eq_true rfl⟩) (pV hS hAlo hlo hP hK (va_Dlo hD hAlo) hZ [4, 5] (by decide) rfl (ci := 6) (q := (RX6, TX6, 6)) (q0 := 0) rfl rfl) rfl rfl hl.1 rfl (lv_room (Nat.le_of_ble_eq_true rfl)) dX5_readDoors_62 ⟨Nat.le_of_ble_eq_true rfl, Nat.le_of_ble_eq_true rfl⟩) hS hA hP hD [4, 5] [0, 1, 2, 3] rfl rfl (by decide) (by decide) (fun u H locs hw_106 hP hD hS => ?_)
    obtain ⟨ta__106, fn__106, fb__106⟩ := u
    have hQ9 := pd_mk [(h0, .inr (5, (fX5 h1 h2 h3 h4))), (aI k h1 10 (vv n see tm g)), (aI k h2 24 ff), (aI k h3 24 fp), (x0, .inr (6, (fX6 x1 (nI tz) (nI ta__106) (nI nq_2) fn__106 fb__106))), (aB k x1 240 fx)] hP hD
    clear hP hD
    obtain ⟨hP, hD⟩ := hQ9
    try dsimp only at hw_106
    obtain ⟨hs0_107, hs1_107, hs2_107⟩ := hw_106.1 (by decide)
    replace hs0_107 := hs0_107.symm
    subst hs0_107
    replace hs1_107 := hs1_107.symm
    subst hs1_107
    replace hs2_107 := hs2_107.symm
    subst hs2_107
    refine lv_aload_n hx hb dX5_readDoors_65 rfl (lv_at hl 4 rfl) ?_
    refine lv_iconst (v := 0) hx hb dX5_readDoors_66 (by decide) ?_
    refine lv_sipush (v := 999) hx hb dX5_readDoors_67 (by decide) ?_
    refine rw_i (D := D) (wr := [(h0, .inr (5, (fX5 h1 h2 h3 h4))), (aI k h1 10 (vv n see tm g)), (aI k h2 24 ff), (aI k h3 24 fp)]) (va_runV (As := [.int 0, .int 999]) (rest := []) ⟨hx, hb, hml, hown, hts⟩ ((y_needNumber l D k st lo x0 x1 tz ta__1 (nI nq_2) 2 (nI pl_2) fx 0 999 (by first | assumption | omega) (by first | assumption | omega) (by decide)) H.size) (cwV 2 hts (gV tw_467 tw_468 tw_469 tw_80 tw_470) rfl rfl rfl (by decide +kernel) ⟨Nat.le_of_ble_eq_true rfl, Nat.le_of_ble_eq_true rfl⟩) (pV hS hAlo hlo hP hK (va_Dlo hD hAlo) hZ [4, 5] (by decide) rfl (ci := 6) (q := (RX6, TX6, 6)) (q0 := 0) rfl rfl) rfl rfl hl.1 rfl (lv_room (Nat.le_of_ble_eq_true rfl)) dX5_readDoors_70 ⟨Nat.le_of_ble_eq_true rfl, Nat.le_of_ble_eq_true rfl⟩) hS hA hP hD [4, 5] [0, 1, 2, 3] rfl rfl (by decide) (by decide) (fun r_108 u H locs hw_108 hP hD hS => ?_)
    obtain ⟨ta__108, na__108, fn__108, fb__108⟩ := u
    have hQ9 := pd_mk [(h0, .inr (5, (fX5 h1 h2 h3 h4))), (aI k h1 10 (vv n see tm g)), (aI k h2 24 ff), (aI k h3 24 fp), (x0, .inr (6, (fX6 x1 (nI tz) (nI ta__108) na__108 fn__108 fb__108))), (aB k x1 240 fx)] hP hD
    clear hP hD
    obtain ⟨hP, hD⟩ := hQ9
    try dsimp only at hw_108
    have hr_109 := (hw_108.1 (by decide)).1
    obtain ⟨hs0_110, hs1_110, hs2_110, hs3_110⟩ := (hw_108.1 (by decide)).2
    replace hs0_110 := hs0_110.symm
    subst hs0_110
    replace hs1_110 := hs1_110.symm
    subst hs1_110
    replace hs2_110 := hs2_110.symm
    subst hs2_110
    replace hs3_110 := hs3_110.symm
    subst hs3_110
    refine lv_istore (lv' := [(5, .int r_108), (4, .int r_103), (3, .int (nI n)), (2, .int (nI nb_98)), (0, .ref h0), (1, .ref x0)]) hx hb dX5_readDoors_73 hl (by decide) rfl (fun ls hl => ?_)
    refine lv_aload_n hx hb dX5_readDoors_75 rfl (lv_at hl 5 rfl) ?_
    refine rw_v (D := D) (wr := [(h0, .inr (5, (fX5 h1 h2 h3 h4))), (aI k h1 10 (vv n see tm g)), (aI k h2 24 ff), (aI k h3 24 fp)]) (va_runV (As := []) (rest := []) ⟨hx, hb, hml, hown, hts⟩ ((y_needSemicolon l D k st lo x0 x1 tz ta__1 (nI nq_2) 2 (nI pl_2) fx (by first | assumption | omega) (by first | assumption | omega)) H.size) (cwV 0 hts (gV tw_488 tw_489 tw_490 tw_80 tw_491) rfl rfl rfl (by decide +kernel) ⟨Nat.le_of_ble_eq_true rfl, Nat.le_of_ble_eq_true rfl⟩) (pV hS hAlo hlo hP hK (va_Dlo hD hAlo) hZ [4, 5] (by decide) rfl (ci := 6) (q := (RX6, TX6, 6)) (q0 := 0) rfl rfl) rfl rfl hl.1 rfl (lv_room (Nat.le_of_ble_eq_true rfl)) dX5_readDoors_76 ⟨Nat.le_of_ble_eq_true rfl, Nat.le_of_ble_eq_true rfl⟩) hS hA hP hD [4, 5] [0, 1, 2, 3] rfl rfl (by decide) (by decide) (fun u H locs hw_111 hP hD hS => ?_)
    obtain ⟨ta__111, fn__111, fb__111⟩ := u
    have hQ9 := pd_mk [(h0, .inr (5, (fX5 h1 h2 h3 h4))), (aI k h1 10 (vv n see tm g)), (aI k h2 24 ff), (aI k h3 24 fp), (x0, .inr (6, (fX6 x1 (nI tz) (nI ta__111) (nI nq_2) fn__111 fb__111))), (aB k x1 240 fx)] hP hD
    clear hP hD
    obtain ⟨hP, hD⟩ := hQ9
    try dsimp only at hw_111
    obtain ⟨hs0_112, hs1_112⟩ := hw_111.1 (by decide)
    replace hs0_112 := hs0_112.symm
    subst hs0_112
    replace hs1_112 := hs1_112.symm
    subst hs1_112
    refine lv_aload_n hx hb dX5_readDoors_79 rfl (lv_at hl 5 rfl) ?_
    refine ro_i (D := D) (va_runV (As := []) (rest := []) ⟨hx, hb, hml, hown, hts⟩ ((x_failed l D k st lo x0 x1 tz ta__111 (nI nq_2) 2 (nI pl_2)) H.size) (cwV 0 hts (gV tw_367 tw_368 tw_369 tw_80 tw_370) rfl rfl rfl (by decide +kernel) ⟨Nat.le_of_ble_eq_true rfl, Nat.le_of_ble_eq_true rfl⟩) (pV hS hAlo hlo hP hK (va_Dlo hD hAlo) hZ [4] (by decide) rfl (ci := 6) (q := (RX6, TX6, 6)) (q0 := 0) rfl rfl) rfl rfl hl.1 rfl (lv_room (Nat.le_of_ble_eq_true rfl)) dX5_readDoors_80 ⟨Nat.le_of_ble_eq_true rfl, Nat.le_of_ble_eq_true rfl⟩) hS hA hP (fun r_113 H locs hw_113 hP hS => ?_)
    try dsimp only at hw_113
    obtain rfl : r_113 = 1 := by rcases hw_113 with ⟨h, h2⟩ | ⟨h, h2⟩ <;> first | exact h | exact absurd rfl h2 | exact absurd h2 (by decide)
    refine lv_if_eq (tgt := 87) hx hb dX5_readDoors_83 (by decide) (fun h => absurd h (by decide)) (fun _ => ?_)
    obtain ⟨hP9, hD9⟩ := pd_sub [(h0, .inr (5, (fX5 h1 h2 h3 h4))), (aI k h1 10 (vv n see tm g)), (aI k h2 24 ff), (aI k h3 24 fp), (x0, .inr (6, (fX6 x1 (nI tz) (nI ta__111) (nI nq_2) 2 (nI pl_2)))), (aB k x1 240 fx)] [0, 1, 2, 3, 4, 5] hP hD (by decide) rfl
    exact W.vret hx hb hr (fun t ht hW => ⟨⟨(n, ff, fp, ta__111, (nI nq_2), 2, (nI pl_2)), rfl, ⟨.inr ⟨2, pl_2, rfl, by decide, by decide, by simp [doC, doF, hq_2, nI_clamp (show nb_98 < 2 ^ 31 by omega), -List.getD_eq_getElem?_getD], by simp [doC, doF, hq_2, nI_clamp (show nb_98 < 2 ^ 31 by omega), -List.getD_eq_getElem?_getD], rfl⟩, by omega, by omega, by omega⟩, by rw [ht]; exact hP9, hD9⟩, hS.F ht⟩) hS.2.2 dX5_readDoors_86


set_option maxHeartbeats 4000000 in
set_option maxRecDepth 100000 in
theorem y_takeClauseWord (l : Launch) (D : va_G) (k : Nat → ClassId) (st : Nat → Nat) (lo : Nat) (x0 : Nat) (x1 : Nat) (tz : Nat) (ta : Nat) (na : Int32) (fn : Int32) (fb : Int32) (fx : Nat → Int32) (ht : ta ≤ tz) (hz : tz ≤ 240) : CWi l D k st lo yX5_takeClauseWord cX5_takeClauseWord 2 (some .int) ({ frames := 5, cells := 0, slots := 0, locals := 108 }) 0 0 [.ref x0] [(x0, .inr (6, (fX6 x1 (nI tz) (nI ta) na fn fb))), (aB k x1 240 fx)] (fun (r : Int32) (ta_ : Nat) => ((r = -1 ∧ kwN (letA (bF fx) tz (skA (bF fx) tz ta)) = 10 ∧ ta_ = skA (bF fx) tz ta) ∨ ∃ j : Nat, kwN (letA (bF fx) tz (skA (bF fx) tz ta)) = j ∧ j ≤ 9 ∧ j ≠ 8 ∧ r = nI j ∧ ta_ = skA (bF fx) tz ta + (letA (bF fx) tz (skA (bF fx) tz ta)).length) ∧ ta ≤ ta_ ∧ ta_ ≤ tz) (fun (ta_ : Nat) => [(x0, .inr (6, (fX6 x1 (nI tz) (nI ta_) na fn fb))), (aB k x1 240 fx)]) := by
  intro sz
  refine Met.ofW (cc := cX5_takeClauseWord) (maxL := 2) (ret := (some .int)) (by decide) rfl ?_
  intro p e s m args below meth c s₁ B hml hv
  obtain ⟨rfl, hsz, hlo, hP, hK, hDL, hZ⟩ := hv
  have hx := B.exec
  have hb := B.bytes
  have hr := B.returns
  have hts := WS_ts B.pre
  have hown : s.vm.findClass RX5 = some m.cls := findClass_of_methodNamed B.named
  have hlocks := B.notSynchronized
  subst hsz
  have hD := hDL.self (sz := s.heap.size)
  have hAlo := A_lo hDL hlo
  generalize hAe : va_A [(x0, .inr (6, (fX6 x1 (nI tz) (nI ta) na fn fb))), (aB k x1 240 fx)] s.heap.size = A at hD hAlo ⊢
  have hA : ∀ q : Nat, s.heap.size ≤ q → A q := fun q h => by rw [← hAe]; exact Or.inr h
  have hS : va_S A s.heap s.heap [] := va_S.rf
  have hl := lv_entry ([.ref x0]) (n := 2) (Nat.le_of_ble_eq_true rfl)
  rw [lg_entry_eq]
  generalize (lg_sl ([.ref x0]) ++ List.replicate (2 - (lg_sl ([.ref x0])).length) Slot.unset).toArray = ls at hl ⊢
  have hl : lv_has ls 2 [(0, .ref x0)] := hl
  refine lv_iconst (v := 0) hx hb dX5_takeClauseWord_0 (by decide) ?_
  refine lv_istore_n (lv' := [(1, .int 0), (0, .ref x0)]) hx hb dX5_takeClauseWord_1 rfl hl (by decide) rfl (fun ls hl => ?_)
  refine lv_iload_n hx hb dX5_takeClauseWord_2 rfl (lv_at hl 0 rfl) ?_
  refine lv_bipush (v := 10) hx hb dX5_takeClauseWord_3 (by decide) ?_
  refine lv_icmp_ge (tgt := 33) hx hb dX5_takeClauseWord_5 (by decide) (fun h => absurd h (by decide)) (fun _ => ?_)
  refine lv_iload_n hx hb dX5_takeClauseWord_8 rfl (lv_at hl 0 rfl) ?_
  refine lv_bipush (v := 8) hx hb dX5_takeClauseWord_9 (by decide) ?_
  refine lv_icmp_eq (tgt := 27) hx hb dX5_takeClauseWord_11 (by decide) (fun h => absurd h (by decide)) (fun _ => ?_)
  refine lv_aload_n hx hb dX5_takeClauseWord_14 rfl (lv_at hl 1 rfl) ?_
  refine lv_iload_n hx hb dX5_takeClauseWord_15 rfl (lv_at hl 0 rfl) ?_
  refine ro_r (D := D) (va_runS (As := [.int 0]) (rest := [.ref x0]) ⟨hx, hb, hml, hown, hts⟩ ((x_wordOf_0 l D k st lo ) s.heap.size) (va_cwS 1 hts (gS tw_386 tw_387 tw_81 tw_388) rfl rfl rfl (by decide +kernel) ⟨Nat.le_of_ble_eq_true rfl, Nat.le_of_ble_eq_true rfl⟩) (pS hS hAlo hlo hP hK (va_Dlo hD hAlo) hZ [] (by decide) rfl) rfl rfl hl.1 rfl (lv_room (Nat.le_of_ble_eq_true rfl)) dX5_takeClauseWord_16 ⟨Nat.le_of_ble_eq_true rfl, Nat.le_of_ble_eq_true rfl⟩) hS hA hP (fun H locs hP hS => ?_)
  refine rw_i (D := D) (wr := []) (va_runV (As := [.ref (st (100 + 0))]) (rest := []) ⟨hx, hb, hml, hown, hts⟩ ((y_takeWord l D k st lo x0 x1 tz ta na fn fb fx 0 (by first | assumption | omega) (by first | assumption | omega) (by first | assumption | omega)) H.size) (cwV 1 hts (gV tw_399 tw_400 tw_401 tw_80 tw_402) rfl rfl rfl (by decide +kernel) ⟨Nat.le_of_ble_eq_true rfl, Nat.le_of_ble_eq_true rfl⟩) (pV hS hAlo hlo hP hK (va_Dlo hD hAlo) hZ [0, 1] (by decide) rfl (ci := 6) (q := (RX6, TX6, 6)) (q0 := 0) rfl rfl) rfl rfl hl.1 rfl (lv_room (Nat.le_of_ble_eq_true rfl)) dX5_takeClauseWord_19 ⟨Nat.le_of_ble_eq_true rfl, Nat.le_of_ble_eq_true rfl⟩) hS hA hP hD [0, 1] [] rfl rfl (by decide) (by decide) (fun r_2 u H locs hw_2 hP hD hS => ?_)
  obtain ⟨ta__2, rfl⟩ : ∃ z, z = u := ⟨_, rfl⟩
  have hQ9 := pd_mk [(x0, .inr (6, (fX6 x1 (nI tz) (nI ta__2) na fn fb))), (aB k x1 240 fx)] hP hD
  clear hP hD
  obtain ⟨hP, hD⟩ := hQ9
  try dsimp only at hw_2
  rcases hw_2 with ⟨⟨rfl, hL_3, hT_3⟩ | ⟨rfl, hL_3, hT_3⟩, hw_2⟩
  · refine lv_if_eq (tgt := 27) hx hb dX5_takeClauseWord_22 (by decide) (fun h => absurd h (by decide)) (fun _ => ?_)
    refine lv_iload_n hx hb dX5_takeClauseWord_25 rfl (lv_at hl 0 rfl) ?_
    obtain ⟨hP9, hD9⟩ := pd_sub [(x0, .inr (6, (fX6 x1 (nI tz) (nI ta__2) na fn fb))), (aB k x1 240 fx)] [0, 1] hP hD (by decide) rfl
    exact W.iret (v := 0) hx hb hr (fun t ht hW => ⟨⟨0, ta__2, rfl, ⟨.inr ⟨0, (by unfold kwN; rw [if_pos hL_3]), by decide, by decide, rfl, (by rw [hL_3]; exact hT_3)⟩, by omega, by omega⟩, by rw [ht]; exact hP9, hD9⟩, hS.F ht⟩) hS.2.2 dX5_takeClauseWord_26
  · refine lv_if_eq (tgt := 27) hx hb dX5_takeClauseWord_22 (by decide) (fun _ => ?_) (fun h => absurd (by decide) h)
    refine lv_iinc (v := 1) (lv' := [(1, .int 1), (0, .ref x0)]) hx hb dX5_takeClauseWord_27 hl (k := 0) rfl (by decide) (by decide) rfl (fun ls hl => ?_)
    refine lv_goto (tgt := 2) hx hb dX5_takeClauseWord_30 (by decide) ?_
    refine lv_iload_n hx hb dX5_takeClauseWord_2 rfl (lv_at hl 0 rfl) ?_
    refine lv_bipush (v := 10) hx hb dX5_takeClauseWord_3 (by decide) ?_
    refine lv_icmp_ge (tgt := 33) hx hb dX5_takeClauseWord_5 (by decide) (fun h => absurd h (by decide)) (fun _ => ?_)
    refine lv_iload_n hx hb dX5_takeClauseWord_8 rfl (lv_at hl 0 rfl) ?_
    refine lv_bipush (v := 8) hx hb dX5_takeClauseWord_9 (by decide) ?_
    refine lv_icmp_eq (tgt := 27) hx hb dX5_takeClauseWord_11 (by decide) (fun h => absurd h (by decide)) (fun _ => ?_)
    refine lv_aload_n hx hb dX5_takeClauseWord_14 rfl (lv_at hl 1 rfl) ?_
    refine lv_iload_n hx hb dX5_takeClauseWord_15 rfl (lv_at hl 0 rfl) ?_
    refine ro_r (D := D) (va_runS (As := [.int 1]) (rest := [.ref x0]) ⟨hx, hb, hml, hown, hts⟩ ((x_wordOf_1 l D k st lo ) H.size) (va_cwS 1 hts (gS tw_386 tw_387 tw_81 tw_388) rfl rfl rfl (by decide +kernel) ⟨Nat.le_of_ble_eq_true rfl, Nat.le_of_ble_eq_true rfl⟩) (pS hS hAlo hlo hP hK (va_Dlo hD hAlo) hZ [] (by decide) rfl) rfl rfl hl.1 rfl (lv_room (Nat.le_of_ble_eq_true rfl)) dX5_takeClauseWord_16 ⟨Nat.le_of_ble_eq_true rfl, Nat.le_of_ble_eq_true rfl⟩) hS hA hP (fun H locs hP hS => ?_)
    refine rw_i (D := D) (wr := []) (va_runV (As := [.ref (st (100 + 1))]) (rest := []) ⟨hx, hb, hml, hown, hts⟩ ((y_takeWord l D k st lo x0 x1 tz ta__2 na fn fb fx 1 (by first | assumption | omega) (by first | assumption | omega) (by first | assumption | omega)) H.size) (cwV 1 hts (gV tw_399 tw_400 tw_401 tw_80 tw_402) rfl rfl rfl (by decide +kernel) ⟨Nat.le_of_ble_eq_true rfl, Nat.le_of_ble_eq_true rfl⟩) (pV hS hAlo hlo hP hK (va_Dlo hD hAlo) hZ [0, 1] (by decide) rfl (ci := 6) (q := (RX6, TX6, 6)) (q0 := 0) rfl rfl) rfl rfl hl.1 rfl (lv_room (Nat.le_of_ble_eq_true rfl)) dX5_takeClauseWord_19 ⟨Nat.le_of_ble_eq_true rfl, Nat.le_of_ble_eq_true rfl⟩) hS hA hP hD [0, 1] [] rfl rfl (by decide) (by decide) (fun r_5 u H locs hw_5 hP hD hS => ?_)
    obtain ⟨ta__5, rfl⟩ : ∃ z, z = u := ⟨_, rfl⟩
    have hQ9 := pd_mk [(x0, .inr (6, (fX6 x1 (nI tz) (nI ta__5) na fn fb))), (aB k x1 240 fx)] hP hD
    clear hP hD
    obtain ⟨hP, hD⟩ := hQ9
    try dsimp only at hw_5
    rcases hw_5 with ⟨⟨rfl, hL_6, hT_6⟩ | ⟨rfl, hL_6, hT_6⟩, hw_5⟩
    · rw [hT_3, skA_idem] at hL_6 hT_6
      refine lv_if_eq (tgt := 27) hx hb dX5_takeClauseWord_22 (by decide) (fun h => absurd h (by decide)) (fun _ => ?_)
      refine lv_iload_n hx hb dX5_takeClauseWord_25 rfl (lv_at hl 0 rfl) ?_
      obtain ⟨hP9, hD9⟩ := pd_sub [(x0, .inr (6, (fX6 x1 (nI tz) (nI ta__5) na fn fb))), (aB k x1 240 fx)] [0, 1] hP hD (by decide) rfl
      exact W.iret (v := 1) hx hb hr (fun t ht hW => ⟨⟨1, ta__5, rfl, ⟨.inr ⟨1, (by unfold kwN; rw [if_neg hL_3, if_pos hL_6]), by decide, by decide, rfl, (by rw [hL_6]; exact hT_6)⟩, by omega, by omega⟩, by rw [ht]; exact hP9, hD9⟩, hS.F ht⟩) hS.2.2 dX5_takeClauseWord_26
    · rw [hT_3, skA_idem] at hL_6 hT_6
      refine lv_if_eq (tgt := 27) hx hb dX5_takeClauseWord_22 (by decide) (fun _ => ?_) (fun h => absurd (by decide) h)
      refine lv_iinc (v := 2) (lv' := [(1, .int 2), (0, .ref x0)]) hx hb dX5_takeClauseWord_27 hl (k := 0) rfl (by decide) (by decide) rfl (fun ls hl => ?_)
      refine lv_goto (tgt := 2) hx hb dX5_takeClauseWord_30 (by decide) ?_
      refine lv_iload_n hx hb dX5_takeClauseWord_2 rfl (lv_at hl 0 rfl) ?_
      refine lv_bipush (v := 10) hx hb dX5_takeClauseWord_3 (by decide) ?_
      refine lv_icmp_ge (tgt := 33) hx hb dX5_takeClauseWord_5 (by decide) (fun h => absurd h (by decide)) (fun _ => ?_)
      refine lv_iload_n hx hb dX5_takeClauseWord_8 rfl (lv_at hl 0 rfl) ?_
      refine lv_bipush (v := 8) hx hb dX5_takeClauseWord_9 (by decide) ?_
      refine lv_icmp_eq (tgt := 27) hx hb dX5_takeClauseWord_11 (by decide) (fun h => absurd h (by decide)) (fun _ => ?_)
      refine lv_aload_n hx hb dX5_takeClauseWord_14 rfl (lv_at hl 1 rfl) ?_
      refine lv_iload_n hx hb dX5_takeClauseWord_15 rfl (lv_at hl 0 rfl) ?_
      refine ro_r (D := D) (va_runS (As := [.int 2]) (rest := [.ref x0]) ⟨hx, hb, hml, hown, hts⟩ ((x_wordOf_2 l D k st lo ) H.size) (va_cwS 1 hts (gS tw_386 tw_387 tw_81 tw_388) rfl rfl rfl (by decide +kernel) ⟨Nat.le_of_ble_eq_true rfl, Nat.le_of_ble_eq_true rfl⟩) (pS hS hAlo hlo hP hK (va_Dlo hD hAlo) hZ [] (by decide) rfl) rfl rfl hl.1 rfl (lv_room (Nat.le_of_ble_eq_true rfl)) dX5_takeClauseWord_16 ⟨Nat.le_of_ble_eq_true rfl, Nat.le_of_ble_eq_true rfl⟩) hS hA hP (fun H locs hP hS => ?_)
      refine rw_i (D := D) (wr := []) (va_runV (As := [.ref (st (100 + 2))]) (rest := []) ⟨hx, hb, hml, hown, hts⟩ ((y_takeWord l D k st lo x0 x1 tz ta__5 na fn fb fx 2 (by first | assumption | omega) (by first | assumption | omega) (by first | assumption | omega)) H.size) (cwV 1 hts (gV tw_399 tw_400 tw_401 tw_80 tw_402) rfl rfl rfl (by decide +kernel) ⟨Nat.le_of_ble_eq_true rfl, Nat.le_of_ble_eq_true rfl⟩) (pV hS hAlo hlo hP hK (va_Dlo hD hAlo) hZ [0, 1] (by decide) rfl (ci := 6) (q := (RX6, TX6, 6)) (q0 := 0) rfl rfl) rfl rfl hl.1 rfl (lv_room (Nat.le_of_ble_eq_true rfl)) dX5_takeClauseWord_19 ⟨Nat.le_of_ble_eq_true rfl, Nat.le_of_ble_eq_true rfl⟩) hS hA hP hD [0, 1] [] rfl rfl (by decide) (by decide) (fun r_8 u H locs hw_8 hP hD hS => ?_)
      obtain ⟨ta__8, rfl⟩ : ∃ z, z = u := ⟨_, rfl⟩
      have hQ9 := pd_mk [(x0, .inr (6, (fX6 x1 (nI tz) (nI ta__8) na fn fb))), (aB k x1 240 fx)] hP hD
      clear hP hD
      obtain ⟨hP, hD⟩ := hQ9
      try dsimp only at hw_8
      rcases hw_8 with ⟨⟨rfl, hL_9, hT_9⟩ | ⟨rfl, hL_9, hT_9⟩, hw_8⟩
      · rw [hT_6, skA_idem] at hL_9 hT_9
        refine lv_if_eq (tgt := 27) hx hb dX5_takeClauseWord_22 (by decide) (fun h => absurd h (by decide)) (fun _ => ?_)
        refine lv_iload_n hx hb dX5_takeClauseWord_25 rfl (lv_at hl 0 rfl) ?_
        obtain ⟨hP9, hD9⟩ := pd_sub [(x0, .inr (6, (fX6 x1 (nI tz) (nI ta__8) na fn fb))), (aB k x1 240 fx)] [0, 1] hP hD (by decide) rfl
        exact W.iret (v := 2) hx hb hr (fun t ht hW => ⟨⟨2, ta__8, rfl, ⟨.inr ⟨2, (by unfold kwN; rw [if_neg hL_3, if_neg hL_6, if_pos hL_9]), by decide, by decide, rfl, (by rw [hL_9]; exact hT_9)⟩, by omega, by omega⟩, by rw [ht]; exact hP9, hD9⟩, hS.F ht⟩) hS.2.2 dX5_takeClauseWord_26
      · rw [hT_6, skA_idem] at hL_9 hT_9
        refine lv_if_eq (tgt := 27) hx hb dX5_takeClauseWord_22 (by decide) (fun _ => ?_) (fun h => absurd (by decide) h)
        refine lv_iinc (v := 3) (lv' := [(1, .int 3), (0, .ref x0)]) hx hb dX5_takeClauseWord_27 hl (k := 0) rfl (by decide) (by decide) rfl (fun ls hl => ?_)
        refine lv_goto (tgt := 2) hx hb dX5_takeClauseWord_30 (by decide) ?_
        refine lv_iload_n hx hb dX5_takeClauseWord_2 rfl (lv_at hl 0 rfl) ?_
        refine lv_bipush (v := 10) hx hb dX5_takeClauseWord_3 (by decide) ?_
        refine lv_icmp_ge (tgt := 33) hx hb dX5_takeClauseWord_5 (by decide) (fun h => absurd h (by decide)) (fun _ => ?_)
        refine lv_iload_n hx hb dX5_takeClauseWord_8 rfl (lv_at hl 0 rfl) ?_
        refine lv_bipush (v := 8) hx hb dX5_takeClauseWord_9 (by decide) ?_
        refine lv_icmp_eq (tgt := 27) hx hb dX5_takeClauseWord_11 (by decide) (fun h => absurd h (by decide)) (fun _ => ?_)
        refine lv_aload_n hx hb dX5_takeClauseWord_14 rfl (lv_at hl 1 rfl) ?_
        refine lv_iload_n hx hb dX5_takeClauseWord_15 rfl (lv_at hl 0 rfl) ?_
        refine ro_r (D := D) (va_runS (As := [.int 3]) (rest := [.ref x0]) ⟨hx, hb, hml, hown, hts⟩ ((x_wordOf_3 l D k st lo ) H.size) (va_cwS 1 hts (gS tw_386 tw_387 tw_81 tw_388) rfl rfl rfl (by decide +kernel) ⟨Nat.le_of_ble_eq_true rfl, Nat.le_of_ble_eq_true rfl⟩) (pS hS hAlo hlo hP hK (va_Dlo hD hAlo) hZ [] (by decide) rfl) rfl rfl hl.1 rfl (lv_room (Nat.le_of_ble_eq_true rfl)) dX5_takeClauseWord_16 ⟨Nat.le_of_ble_eq_true rfl, Nat.le_of_ble_eq_true rfl⟩) hS hA hP (fun H locs hP hS => ?_)
        refine rw_i (D := D) (wr := []) (va_runV (As := [.ref (st (100 + 3))]) (rest := []) ⟨hx, hb, hml, hown, hts⟩ ((y_takeWord l D k st lo x0 x1 tz ta__8 na fn fb fx 3 (by first | assumption | omega) (by first | assumption | omega) (by first | assumption | omega)) H.size) (cwV 1 hts (gV tw_399 tw_400 tw_401 tw_80 tw_402) rfl rfl rfl (by decide +kernel) ⟨Nat.le_of_ble_eq_true rfl, Nat.le_of_ble_eq_true rfl⟩) (pV hS hAlo hlo hP hK (va_Dlo hD hAlo) hZ [0, 1] (by decide) rfl (ci := 6) (q := (RX6, TX6, 6)) (q0 := 0) rfl rfl) rfl rfl hl.1 rfl (lv_room (Nat.le_of_ble_eq_true rfl)) dX5_takeClauseWord_19 ⟨Nat.le_of_ble_eq_true rfl, Nat.le_of_ble_eq_true rfl⟩) hS hA hP hD [0, 1] [] rfl rfl (by decide) (by decide) (fun r_11 u H locs hw_11 hP hD hS => ?_)
        obtain ⟨ta__11, rfl⟩ : ∃ z, z = u := ⟨_, rfl⟩
        have hQ9 := pd_mk [(x0, .inr (6, (fX6 x1 (nI tz) (nI ta__11) na fn fb))), (aB k x1 240 fx)] hP hD
        clear hP hD
        obtain ⟨hP, hD⟩ := hQ9
        try dsimp only at hw_11
        rcases hw_11 with ⟨⟨rfl, hL_12, hT_12⟩ | ⟨rfl, hL_12, hT_12⟩, hw_11⟩
        · rw [hT_9, skA_idem] at hL_12 hT_12
          refine lv_if_eq (tgt := 27) hx hb dX5_takeClauseWord_22 (by decide) (fun h => absurd h (by decide)) (fun _ => ?_)
          refine lv_iload_n hx hb dX5_takeClauseWord_25 rfl (lv_at hl 0 rfl) ?_
          obtain ⟨hP9, hD9⟩ := pd_sub [(x0, .inr (6, (fX6 x1 (nI tz) (nI ta__11) na fn fb))), (aB k x1 240 fx)] [0, 1] hP hD (by decide) rfl
          exact W.iret (v := 3) hx hb hr (fun t ht hW => ⟨⟨3, ta__11, rfl, ⟨.inr ⟨3, (by unfold kwN; rw [if_neg hL_3, if_neg hL_6, if_neg hL_9, if_pos hL_12]), by decide, by decide, rfl, (by rw [hL_12]; exact hT_12)⟩, by omega, by omega⟩, by rw [ht]; exact hP9, hD9⟩, hS.F ht⟩) hS.2.2 dX5_takeClauseWord_26
        · rw [hT_9, skA_idem] at hL_12 hT_12
          refine lv_if_eq (tgt := 27) hx hb dX5_takeClauseWord_22 (by decide) (fun _ => ?_) (fun h => absurd (by decide) h)
          refine lv_iinc (v := 4) (lv' := [(1, .int 4), (0, .ref x0)]) hx hb dX5_takeClauseWord_27 hl (k := 0) rfl (by decide) (by decide) rfl (fun ls hl => ?_)
          refine lv_goto (tgt := 2) hx hb dX5_takeClauseWord_30 (by decide) ?_
          refine lv_iload_n hx hb dX5_takeClauseWord_2 rfl (lv_at hl 0 rfl) ?_
          refine lv_bipush (v := 10) hx hb dX5_takeClauseWord_3 (by decide) ?_
          refine lv_icmp_ge (tgt := 33) hx hb dX5_takeClauseWord_5 (by decide) (fun h => absurd h (by decide)) (fun _ => ?_)
          refine lv_iload_n hx hb dX5_takeClauseWord_8 rfl (lv_at hl 0 rfl) ?_
          refine lv_bipush (v := 8) hx hb dX5_takeClauseWord_9 (by decide) ?_
          refine lv_icmp_eq (tgt := 27) hx hb dX5_takeClauseWord_11 (by decide) (fun h => absurd h (by decide)) (fun _ => ?_)
          refine lv_aload_n hx hb dX5_takeClauseWord_14 rfl (lv_at hl 1 rfl) ?_
          refine lv_iload_n hx hb dX5_takeClauseWord_15 rfl (lv_at hl 0 rfl) ?_
          refine ro_r (D := D) (va_runS (As := [.int 4]) (rest := [.ref x0]) ⟨hx, hb, hml, hown, hts⟩ ((x_wordOf_4 l D k st lo ) H.size) (va_cwS 1 hts (gS tw_386 tw_387 tw_81 tw_388) rfl rfl rfl (by decide +kernel) ⟨Nat.le_of_ble_eq_true rfl, Nat.le_of_ble_eq_true rfl⟩) (pS hS hAlo hlo hP hK (va_Dlo hD hAlo) hZ [] (by decide) rfl) rfl rfl hl.1 rfl (lv_room (Nat.le_of_ble_eq_true rfl)) dX5_takeClauseWord_16 ⟨Nat.le_of_ble_eq_true rfl, Nat.le_of_ble_eq_true rfl⟩) hS hA hP (fun H locs hP hS => ?_)
          refine rw_i (D := D) (wr := []) (va_runV (As := [.ref (st (100 + 4))]) (rest := []) ⟨hx, hb, hml, hown, hts⟩ ((y_takeWord l D k st lo x0 x1 tz ta__11 na fn fb fx 4 (by first | assumption | omega) (by first | assumption | omega) (by first | assumption | omega)) H.size) (cwV 1 hts (gV tw_399 tw_400 tw_401 tw_80 tw_402) rfl rfl rfl (by decide +kernel) ⟨Nat.le_of_ble_eq_true rfl, Nat.le_of_ble_eq_true rfl⟩) (pV hS hAlo hlo hP hK (va_Dlo hD hAlo) hZ [0, 1] (by decide) rfl (ci := 6) (q := (RX6, TX6, 6)) (q0 := 0) rfl rfl) rfl rfl hl.1 rfl (lv_room (Nat.le_of_ble_eq_true rfl)) dX5_takeClauseWord_19 ⟨Nat.le_of_ble_eq_true rfl, Nat.le_of_ble_eq_true rfl⟩) hS hA hP hD [0, 1] [] rfl rfl (by decide) (by decide) (fun r_14 u H locs hw_14 hP hD hS => ?_)
          obtain ⟨ta__14, rfl⟩ : ∃ z, z = u := ⟨_, rfl⟩
          have hQ9 := pd_mk [(x0, .inr (6, (fX6 x1 (nI tz) (nI ta__14) na fn fb))), (aB k x1 240 fx)] hP hD
          clear hP hD
          obtain ⟨hP, hD⟩ := hQ9
          try dsimp only at hw_14
          rcases hw_14 with ⟨⟨rfl, hL_15, hT_15⟩ | ⟨rfl, hL_15, hT_15⟩, hw_14⟩
          · rw [hT_12, skA_idem] at hL_15 hT_15
            refine lv_if_eq (tgt := 27) hx hb dX5_takeClauseWord_22 (by decide) (fun h => absurd h (by decide)) (fun _ => ?_)
            refine lv_iload_n hx hb dX5_takeClauseWord_25 rfl (lv_at hl 0 rfl) ?_
            obtain ⟨hP9, hD9⟩ := pd_sub [(x0, .inr (6, (fX6 x1 (nI tz) (nI ta__14) na fn fb))), (aB k x1 240 fx)] [0, 1] hP hD (by decide) rfl
            exact W.iret (v := 4) hx hb hr (fun t ht hW => ⟨⟨4, ta__14, rfl, ⟨.inr ⟨4, (by unfold kwN; rw [if_neg hL_3, if_neg hL_6, if_neg hL_9, if_neg hL_12, if_pos hL_15]), by decide, by decide, rfl, (by rw [hL_15]; exact hT_15)⟩, by omega, by omega⟩, by rw [ht]; exact hP9, hD9⟩, hS.F ht⟩) hS.2.2 dX5_takeClauseWord_26
          · rw [hT_12, skA_idem] at hL_15 hT_15
            refine lv_if_eq (tgt := 27) hx hb dX5_takeClauseWord_22 (by decide) (fun _ => ?_) (fun h => absurd (by decide) h)
            refine lv_iinc (v := 5) (lv' := [(1, .int 5), (0, .ref x0)]) hx hb dX5_takeClauseWord_27 hl (k := 0) rfl (by decide) (by decide) rfl (fun ls hl => ?_)
            refine lv_goto (tgt := 2) hx hb dX5_takeClauseWord_30 (by decide) ?_
            refine lv_iload_n hx hb dX5_takeClauseWord_2 rfl (lv_at hl 0 rfl) ?_
            refine lv_bipush (v := 10) hx hb dX5_takeClauseWord_3 (by decide) ?_
            refine lv_icmp_ge (tgt := 33) hx hb dX5_takeClauseWord_5 (by decide) (fun h => absurd h (by decide)) (fun _ => ?_)
            refine lv_iload_n hx hb dX5_takeClauseWord_8 rfl (lv_at hl 0 rfl) ?_
            refine lv_bipush (v := 8) hx hb dX5_takeClauseWord_9 (by decide) ?_
            refine lv_icmp_eq (tgt := 27) hx hb dX5_takeClauseWord_11 (by decide) (fun h => absurd h (by decide)) (fun _ => ?_)
            refine lv_aload_n hx hb dX5_takeClauseWord_14 rfl (lv_at hl 1 rfl) ?_
            refine lv_iload_n hx hb dX5_takeClauseWord_15 rfl (lv_at hl 0 rfl) ?_
            refine ro_r (D := D) (va_runS (As := [.int 5]) (rest := [.ref x0]) ⟨hx, hb, hml, hown, hts⟩ ((x_wordOf_5 l D k st lo ) H.size) (va_cwS 1 hts (gS tw_386 tw_387 tw_81 tw_388) rfl rfl rfl (by decide +kernel) ⟨Nat.le_of_ble_eq_true rfl, Nat.le_of_ble_eq_true rfl⟩) (pS hS hAlo hlo hP hK (va_Dlo hD hAlo) hZ [] (by decide) rfl) rfl rfl hl.1 rfl (lv_room (Nat.le_of_ble_eq_true rfl)) dX5_takeClauseWord_16 ⟨Nat.le_of_ble_eq_true rfl, Nat.le_of_ble_eq_true rfl⟩) hS hA hP (fun H locs hP hS => ?_)
            refine rw_i (D := D) (wr := []) (va_runV (As := [.ref (st (100 + 5))]) (rest := []) ⟨hx, hb, hml, hown, hts⟩ ((y_takeWord l D k st lo x0 x1 tz ta__14 na fn fb fx 5 (by first | assumption | omega) (by first | assumption | omega) (by first | assumption | omega)) H.size) (cwV 1 hts (gV tw_399 tw_400 tw_401 tw_80 tw_402) rfl rfl rfl (by decide +kernel) ⟨Nat.le_of_ble_eq_true rfl, Nat.le_of_ble_eq_true rfl⟩) (pV hS hAlo hlo hP hK (va_Dlo hD hAlo) hZ [0, 1] (by decide) rfl (ci := 6) (q := (RX6, TX6, 6)) (q0 := 0) rfl rfl) rfl rfl hl.1 rfl (lv_room (Nat.le_of_ble_eq_true rfl)) dX5_takeClauseWord_19 ⟨Nat.le_of_ble_eq_true rfl, Nat.le_of_ble_eq_true rfl⟩) hS hA hP hD [0, 1] [] rfl rfl (by decide) (by decide) (fun r_17 u H locs hw_17 hP hD hS => ?_)
            obtain ⟨ta__17, rfl⟩ : ∃ z, z = u := ⟨_, rfl⟩
            have hQ9 := pd_mk [(x0, .inr (6, (fX6 x1 (nI tz) (nI ta__17) na fn fb))), (aB k x1 240 fx)] hP hD
            clear hP hD
            obtain ⟨hP, hD⟩ := hQ9
            try dsimp only at hw_17
            rcases hw_17 with ⟨⟨rfl, hL_18, hT_18⟩ | ⟨rfl, hL_18, hT_18⟩, hw_17⟩
            · rw [hT_15, skA_idem] at hL_18 hT_18
              refine lv_if_eq (tgt := 27) hx hb dX5_takeClauseWord_22 (by decide) (fun h => absurd h (by decide)) (fun _ => ?_)
              refine lv_iload_n hx hb dX5_takeClauseWord_25 rfl (lv_at hl 0 rfl) ?_
              obtain ⟨hP9, hD9⟩ := pd_sub [(x0, .inr (6, (fX6 x1 (nI tz) (nI ta__17) na fn fb))), (aB k x1 240 fx)] [0, 1] hP hD (by decide) rfl
              exact W.iret (v := 5) hx hb hr (fun t ht hW => ⟨⟨5, ta__17, rfl, ⟨.inr ⟨5, (by unfold kwN; rw [if_neg hL_3, if_neg hL_6, if_neg hL_9, if_neg hL_12, if_neg hL_15, if_pos hL_18]), by decide, by decide, rfl, (by rw [hL_18]; exact hT_18)⟩, by omega, by omega⟩, by rw [ht]; exact hP9, hD9⟩, hS.F ht⟩) hS.2.2 dX5_takeClauseWord_26
            · rw [hT_15, skA_idem] at hL_18 hT_18
              refine lv_if_eq (tgt := 27) hx hb dX5_takeClauseWord_22 (by decide) (fun _ => ?_) (fun h => absurd (by decide) h)
              refine lv_iinc (v := 6) (lv' := [(1, .int 6), (0, .ref x0)]) hx hb dX5_takeClauseWord_27 hl (k := 0) rfl (by decide) (by decide) rfl (fun ls hl => ?_)
              refine lv_goto (tgt := 2) hx hb dX5_takeClauseWord_30 (by decide) ?_
              refine lv_iload_n hx hb dX5_takeClauseWord_2 rfl (lv_at hl 0 rfl) ?_
              refine lv_bipush (v := 10) hx hb dX5_takeClauseWord_3 (by decide) ?_
              refine lv_icmp_ge (tgt := 33) hx hb dX5_takeClauseWord_5 (by decide) (fun h => absurd h (by decide)) (fun _ => ?_)
              refine lv_iload_n hx hb dX5_takeClauseWord_8 rfl (lv_at hl 0 rfl) ?_
              refine lv_bipush (v := 8) hx hb dX5_takeClauseWord_9 (by decide) ?_
              refine lv_icmp_eq (tgt := 27) hx hb dX5_takeClauseWord_11 (by decide) (fun h => absurd h (by decide)) (fun _ => ?_)
              refine lv_aload_n hx hb dX5_takeClauseWord_14 rfl (lv_at hl 1 rfl) ?_
              refine lv_iload_n hx hb dX5_takeClauseWord_15 rfl (lv_at hl 0 rfl) ?_
              refine ro_r (D := D) (va_runS (As := [.int 6]) (rest := [.ref x0]) ⟨hx, hb, hml, hown, hts⟩ ((x_wordOf_6 l D k st lo ) H.size) (va_cwS 1 hts (gS tw_386 tw_387 tw_81 tw_388) rfl rfl rfl (by decide +kernel) ⟨Nat.le_of_ble_eq_true rfl, Nat.le_of_ble_eq_true rfl⟩) (pS hS hAlo hlo hP hK (va_Dlo hD hAlo) hZ [] (by decide) rfl) rfl rfl hl.1 rfl (lv_room (Nat.le_of_ble_eq_true rfl)) dX5_takeClauseWord_16 ⟨Nat.le_of_ble_eq_true rfl, Nat.le_of_ble_eq_true rfl⟩) hS hA hP (fun H locs hP hS => ?_)
              refine rw_i (D := D) (wr := []) (va_runV (As := [.ref (st (100 + 6))]) (rest := []) ⟨hx, hb, hml, hown, hts⟩ ((y_takeWord l D k st lo x0 x1 tz ta__17 na fn fb fx 6 (by first | assumption | omega) (by first | assumption | omega) (by first | assumption | omega)) H.size) (cwV 1 hts (gV tw_399 tw_400 tw_401 tw_80 tw_402) rfl rfl rfl (by decide +kernel) ⟨Nat.le_of_ble_eq_true rfl, Nat.le_of_ble_eq_true rfl⟩) (pV hS hAlo hlo hP hK (va_Dlo hD hAlo) hZ [0, 1] (by decide) rfl (ci := 6) (q := (RX6, TX6, 6)) (q0 := 0) rfl rfl) rfl rfl hl.1 rfl (lv_room (Nat.le_of_ble_eq_true rfl)) dX5_takeClauseWord_19 ⟨Nat.le_of_ble_eq_true rfl, Nat.le_of_ble_eq_true rfl⟩) hS hA hP hD [0, 1] [] rfl rfl (by decide) (by decide) (fun r_20 u H locs hw_20 hP hD hS => ?_)
              obtain ⟨ta__20, rfl⟩ : ∃ z, z = u := ⟨_, rfl⟩
              have hQ9 := pd_mk [(x0, .inr (6, (fX6 x1 (nI tz) (nI ta__20) na fn fb))), (aB k x1 240 fx)] hP hD
              clear hP hD
              obtain ⟨hP, hD⟩ := hQ9
              try dsimp only at hw_20
              rcases hw_20 with ⟨⟨rfl, hL_21, hT_21⟩ | ⟨rfl, hL_21, hT_21⟩, hw_20⟩
              · rw [hT_18, skA_idem] at hL_21 hT_21
                refine lv_if_eq (tgt := 27) hx hb dX5_takeClauseWord_22 (by decide) (fun h => absurd h (by decide)) (fun _ => ?_)
                refine lv_iload_n hx hb dX5_takeClauseWord_25 rfl (lv_at hl 0 rfl) ?_
                obtain ⟨hP9, hD9⟩ := pd_sub [(x0, .inr (6, (fX6 x1 (nI tz) (nI ta__20) na fn fb))), (aB k x1 240 fx)] [0, 1] hP hD (by decide) rfl
                exact W.iret (v := 6) hx hb hr (fun t ht hW => ⟨⟨6, ta__20, rfl, ⟨.inr ⟨6, (by unfold kwN; rw [if_neg hL_3, if_neg hL_6, if_neg hL_9, if_neg hL_12, if_neg hL_15, if_neg hL_18, if_pos hL_21]), by decide, by decide, rfl, (by rw [hL_21]; exact hT_21)⟩, by omega, by omega⟩, by rw [ht]; exact hP9, hD9⟩, hS.F ht⟩) hS.2.2 dX5_takeClauseWord_26
              · rw [hT_18, skA_idem] at hL_21 hT_21
                refine lv_if_eq (tgt := 27) hx hb dX5_takeClauseWord_22 (by decide) (fun _ => ?_) (fun h => absurd (by decide) h)
                refine lv_iinc (v := 7) (lv' := [(1, .int 7), (0, .ref x0)]) hx hb dX5_takeClauseWord_27 hl (k := 0) rfl (by decide) (by decide) rfl (fun ls hl => ?_)
                refine lv_goto (tgt := 2) hx hb dX5_takeClauseWord_30 (by decide) ?_
                refine lv_iload_n hx hb dX5_takeClauseWord_2 rfl (lv_at hl 0 rfl) ?_
                refine lv_bipush (v := 10) hx hb dX5_takeClauseWord_3 (by decide) ?_
                refine lv_icmp_ge (tgt := 33) hx hb dX5_takeClauseWord_5 (by decide) (fun h => absurd h (by decide)) (fun _ => ?_)
                refine lv_iload_n hx hb dX5_takeClauseWord_8 rfl (lv_at hl 0 rfl) ?_
                refine lv_bipush (v := 8) hx hb dX5_takeClauseWord_9 (by decide) ?_
                refine lv_icmp_eq (tgt := 27) hx hb dX5_takeClauseWord_11 (by decide) (fun h => absurd h (by decide)) (fun _ => ?_)
                refine lv_aload_n hx hb dX5_takeClauseWord_14 rfl (lv_at hl 1 rfl) ?_
                refine lv_iload_n hx hb dX5_takeClauseWord_15 rfl (lv_at hl 0 rfl) ?_
                refine ro_r (D := D) (va_runS (As := [.int 7]) (rest := [.ref x0]) ⟨hx, hb, hml, hown, hts⟩ ((x_wordOf_7 l D k st lo ) H.size) (va_cwS 1 hts (gS tw_386 tw_387 tw_81 tw_388) rfl rfl rfl (by decide +kernel) ⟨Nat.le_of_ble_eq_true rfl, Nat.le_of_ble_eq_true rfl⟩) (pS hS hAlo hlo hP hK (va_Dlo hD hAlo) hZ [] (by decide) rfl) rfl rfl hl.1 rfl (lv_room (Nat.le_of_ble_eq_true rfl)) dX5_takeClauseWord_16 ⟨Nat.le_of_ble_eq_true rfl, Nat.le_of_ble_eq_true rfl⟩) hS hA hP (fun H locs hP hS => ?_)
                refine rw_i (D := D) (wr := []) (va_runV (As := [.ref (st (100 + 7))]) (rest := []) ⟨hx, hb, hml, hown, hts⟩ ((y_takeWord l D k st lo x0 x1 tz ta__20 na fn fb fx 7 (by first | assumption | omega) (by first | assumption | omega) (by first | assumption | omega)) H.size) (cwV 1 hts (gV tw_399 tw_400 tw_401 tw_80 tw_402) rfl rfl rfl (by decide +kernel) ⟨Nat.le_of_ble_eq_true rfl, Nat.le_of_ble_eq_true rfl⟩) (pV hS hAlo hlo hP hK (va_Dlo hD hAlo) hZ [0, 1] (by decide) rfl (ci := 6) (q := (RX6, TX6, 6)) (q0 := 0) rfl rfl) rfl rfl hl.1 rfl (lv_room (Nat.le_of_ble_eq_true rfl)) dX5_takeClauseWord_19 ⟨Nat.le_of_ble_eq_true rfl, Nat.le_of_ble_eq_true rfl⟩) hS hA hP hD [0, 1] [] rfl rfl (by decide) (by decide) (fun r_23 u H locs hw_23 hP hD hS => ?_)
                obtain ⟨ta__23, rfl⟩ : ∃ z, z = u := ⟨_, rfl⟩
                have hQ9 := pd_mk [(x0, .inr (6, (fX6 x1 (nI tz) (nI ta__23) na fn fb))), (aB k x1 240 fx)] hP hD
                clear hP hD
                obtain ⟨hP, hD⟩ := hQ9
                try dsimp only at hw_23
                rcases hw_23 with ⟨⟨rfl, hL_24, hT_24⟩ | ⟨rfl, hL_24, hT_24⟩, hw_23⟩
                · rw [hT_21, skA_idem] at hL_24 hT_24
                  refine lv_if_eq (tgt := 27) hx hb dX5_takeClauseWord_22 (by decide) (fun h => absurd h (by decide)) (fun _ => ?_)
                  refine lv_iload_n hx hb dX5_takeClauseWord_25 rfl (lv_at hl 0 rfl) ?_
                  obtain ⟨hP9, hD9⟩ := pd_sub [(x0, .inr (6, (fX6 x1 (nI tz) (nI ta__23) na fn fb))), (aB k x1 240 fx)] [0, 1] hP hD (by decide) rfl
                  exact W.iret (v := 7) hx hb hr (fun t ht hW => ⟨⟨7, ta__23, rfl, ⟨.inr ⟨7, (by unfold kwN; rw [if_neg hL_3, if_neg hL_6, if_neg hL_9, if_neg hL_12, if_neg hL_15, if_neg hL_18, if_neg hL_21, if_pos hL_24]), by decide, by decide, rfl, (by rw [hL_24]; exact hT_24)⟩, by omega, by omega⟩, by rw [ht]; exact hP9, hD9⟩, hS.F ht⟩) hS.2.2 dX5_takeClauseWord_26
                · rw [hT_21, skA_idem] at hL_24 hT_24
                  refine lv_if_eq (tgt := 27) hx hb dX5_takeClauseWord_22 (by decide) (fun _ => ?_) (fun h => absurd (by decide) h)
                  refine lv_iinc (v := 8) (lv' := [(1, .int 8), (0, .ref x0)]) hx hb dX5_takeClauseWord_27 hl (k := 0) rfl (by decide) (by decide) rfl (fun ls hl => ?_)
                  refine lv_goto (tgt := 2) hx hb dX5_takeClauseWord_30 (by decide) ?_
                  refine lv_iload_n hx hb dX5_takeClauseWord_2 rfl (lv_at hl 0 rfl) ?_
                  refine lv_bipush (v := 10) hx hb dX5_takeClauseWord_3 (by decide) ?_
                  refine lv_icmp_ge (tgt := 33) hx hb dX5_takeClauseWord_5 (by decide) (fun h => absurd h (by decide)) (fun _ => ?_)
                  refine lv_iload_n hx hb dX5_takeClauseWord_8 rfl (lv_at hl 0 rfl) ?_
                  refine lv_bipush (v := 8) hx hb dX5_takeClauseWord_9 (by decide) ?_
                  refine lv_icmp_eq (tgt := 27) hx hb dX5_takeClauseWord_11 (by decide) (fun _ => ?_) (fun h => absurd (by decide) h)
                  refine lv_iinc (v := 9) (lv' := [(1, .int 9), (0, .ref x0)]) hx hb dX5_takeClauseWord_27 hl (k := 0) rfl (by decide) (by decide) rfl (fun ls hl => ?_)
                  refine lv_goto (tgt := 2) hx hb dX5_takeClauseWord_30 (by decide) ?_
                  refine lv_iload_n hx hb dX5_takeClauseWord_2 rfl (lv_at hl 0 rfl) ?_
                  refine lv_bipush (v := 10) hx hb dX5_takeClauseWord_3 (by decide) ?_
                  refine lv_icmp_ge (tgt := 33) hx hb dX5_takeClauseWord_5 (by decide) (fun h => absurd h (by decide)) (fun _ => ?_)
                  refine lv_iload_n hx hb dX5_takeClauseWord_8 rfl (lv_at hl 0 rfl) ?_
                  refine lv_bipush (v := 8) hx hb dX5_takeClauseWord_9 (by decide) ?_
                  refine lv_icmp_eq (tgt := 27) hx hb dX5_takeClauseWord_11 (by decide) (fun h => absurd h (by decide)) (fun _ => ?_)
                  refine lv_aload_n hx hb dX5_takeClauseWord_14 rfl (lv_at hl 1 rfl) ?_
                  refine lv_iload_n hx hb dX5_takeClauseWord_15 rfl (lv_at hl 0 rfl) ?_
                  refine ro_r (D := D) (va_runS (As := [.int 9]) (rest := [.ref x0]) ⟨hx, hb, hml, hown, hts⟩ ((x_wordOf_9 l D k st lo ) H.size) (va_cwS 1 hts (gS tw_386 tw_387 tw_81 tw_388) rfl rfl rfl (by decide +kernel) ⟨Nat.le_of_ble_eq_true rfl, Nat.le_of_ble_eq_true rfl⟩) (pS hS hAlo hlo hP hK (va_Dlo hD hAlo) hZ [] (by decide) rfl) rfl rfl hl.1 rfl (lv_room (Nat.le_of_ble_eq_true rfl)) dX5_takeClauseWord_16 ⟨Nat.le_of_ble_eq_true rfl, Nat.le_of_ble_eq_true rfl⟩) hS hA hP (fun H locs hP hS => ?_)
                  refine rw_i (D := D) (wr := []) (va_runV (As := [.ref (st (100 + 9))]) (rest := []) ⟨hx, hb, hml, hown, hts⟩ ((y_takeWord l D k st lo x0 x1 tz ta__23 na fn fb fx 9 (by first | assumption | omega) (by first | assumption | omega) (by first | assumption | omega)) H.size) (cwV 1 hts (gV tw_399 tw_400 tw_401 tw_80 tw_402) rfl rfl rfl (by decide +kernel) ⟨Nat.le_of_ble_eq_true rfl, Nat.le_of_ble_eq_true rfl⟩) (pV hS hAlo hlo hP hK (va_Dlo hD hAlo) hZ [0, 1] (by decide) rfl (ci := 6) (q := (RX6, TX6, 6)) (q0 := 0) rfl rfl) rfl rfl hl.1 rfl (lv_room (Nat.le_of_ble_eq_true rfl)) dX5_takeClauseWord_19 ⟨Nat.le_of_ble_eq_true rfl, Nat.le_of_ble_eq_true rfl⟩) hS hA hP hD [0, 1] [] rfl rfl (by decide) (by decide) (fun r_26 u H locs hw_26 hP hD hS => ?_)
                  obtain ⟨ta__26, rfl⟩ : ∃ z, z = u := ⟨_, rfl⟩
                  have hQ9 := pd_mk [(x0, .inr (6, (fX6 x1 (nI tz) (nI ta__26) na fn fb))), (aB k x1 240 fx)] hP hD
                  clear hP hD
                  obtain ⟨hP, hD⟩ := hQ9
                  try dsimp only at hw_26
                  rcases hw_26 with ⟨⟨rfl, hL_27, hT_27⟩ | ⟨rfl, hL_27, hT_27⟩, hw_26⟩
                  · rw [hT_24, skA_idem] at hL_27 hT_27
                    refine lv_if_eq (tgt := 27) hx hb dX5_takeClauseWord_22 (by decide) (fun h => absurd h (by decide)) (fun _ => ?_)
                    refine lv_iload_n hx hb dX5_takeClauseWord_25 rfl (lv_at hl 0 rfl) ?_
                    obtain ⟨hP9, hD9⟩ := pd_sub [(x0, .inr (6, (fX6 x1 (nI tz) (nI ta__26) na fn fb))), (aB k x1 240 fx)] [0, 1] hP hD (by decide) rfl
                    exact W.iret (v := 9) hx hb hr (fun t ht hW => ⟨⟨9, ta__26, rfl, ⟨.inr ⟨9, (by unfold kwN; rw [if_neg hL_3, if_neg hL_6, if_neg hL_9, if_neg hL_12, if_neg hL_15, if_neg hL_18, if_neg hL_21, if_neg hL_24, if_pos hL_27]), by decide, by decide, rfl, (by rw [hL_27]; exact hT_27)⟩, by omega, by omega⟩, by rw [ht]; exact hP9, hD9⟩, hS.F ht⟩) hS.2.2 dX5_takeClauseWord_26
                  · rw [hT_24, skA_idem] at hL_27 hT_27
                    refine lv_if_eq (tgt := 27) hx hb dX5_takeClauseWord_22 (by decide) (fun _ => ?_) (fun h => absurd (by decide) h)
                    refine lv_iinc (v := 10) (lv' := [(1, .int 10), (0, .ref x0)]) hx hb dX5_takeClauseWord_27 hl (k := 0) rfl (by decide) (by decide) rfl (fun ls hl => ?_)
                    refine lv_goto (tgt := 2) hx hb dX5_takeClauseWord_30 (by decide) ?_
                    refine lv_iload_n hx hb dX5_takeClauseWord_2 rfl (lv_at hl 0 rfl) ?_
                    refine lv_bipush (v := 10) hx hb dX5_takeClauseWord_3 (by decide) ?_
                    refine lv_icmp_ge (tgt := 33) hx hb dX5_takeClauseWord_5 (by decide) (fun _ => ?_) (fun h => absurd (by decide) h)
                    refine lv_iconst (v := (-1)) hx hb dX5_takeClauseWord_33 (by decide) ?_
                    obtain ⟨hP9, hD9⟩ := pd_sub [(x0, .inr (6, (fX6 x1 (nI tz) (nI ta__26) na fn fb))), (aB k x1 240 fx)] [0, 1] hP hD (by decide) rfl
                    exact W.iret (v := (-1)) hx hb hr (fun t ht hW => ⟨⟨(-1), ta__26, rfl, ⟨.inl ⟨rfl, (by unfold kwN; rw [if_neg hL_3, if_neg hL_6, if_neg hL_9, if_neg hL_12, if_neg hL_15, if_neg hL_18, if_neg hL_21, if_neg hL_24, if_neg hL_27]), hT_27⟩, by omega, by omega⟩, by rw [ht]; exact hP9, hD9⟩, hS.F ht⟩) hS.2.2 dX5_takeClauseWord_34


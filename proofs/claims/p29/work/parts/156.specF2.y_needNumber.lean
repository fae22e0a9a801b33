
set_option maxHeartbeats 4000000 in
set_option maxRecDepth 100000 in
theorem y_needNumber (l : Launch) (D : va_G) (k : Nat → ClassId) (st : Nat → Nat) (lo : Nat) (x0 : Nat) (x1 : Nat) (tz : Nat) (ta : Nat) (na : Int32) (fn : Int32) (fb : Int32) (fx : Nat → Int32) (p0 : Int32) (p1 : Int32) (ht : ta ≤ tz) (hz : tz ≤ 240) (hle : p0 ≤ p1) : CWi l D k st lo yX6_needNumber cX6_needNumber 6 (some .int) ({ frames := 2, cells := 0, slots := 0, locals := 43 }) 0 0 [.ref x0, .int p0, .int p1] [(x0, .inr (6, (fX6 x1 (nI tz) (nI ta) na fn fb))), (aB k x1 240 fx)] (fun (r : Int32) (u : Nat × Int32 × Int32 × Int32) => match u with | (ta_, na_, fn_, fb_) => (¬ fn = 0 → r = p0 ∧ ta_ = ta ∧ na_ = na ∧ fn_ = fn ∧ fb_ = fb) ∧ (fn = 0 → ∃ pl q : Nat, na_ = nI q ∧ ((fn_ = 0 ∧ nuR (bF fx) tz (decide (p0 < 0)) p0 p1 ta = (0, 0, ta_, r, q)) ∨ (fn_ = 1 ∧ r = p0 ∧ fb_ = nI pl ∧ nuR (bF fx) tz (decide (p0 < 0)) p0 p1 ta = (1, pl, ta_, 0, q)) ∨ (fn_ = 2 ∧ r = p0 ∧ fb_ = nI pl ∧ nuR (bF fx) tz (decide (p0 < 0)) p0 p1 ta = (2, pl, ta_, 0, q)))) ∧ ta ≤ ta_ ∧ ta_ ≤ tz ∧ inB r p0 p1) (fun (u : Nat × Int32 × Int32 × Int32) => match u with | (ta_, na_, fn_, fb_) => [(x0, .inr (6, (fX6 x1 (nI tz) (nI ta_) na_ fn_ fb_))), (aB k x1 240 fx)]) := by
  intro sz
  refine Met.ofW (cc := cX6_needNumber) (maxL := 6) (ret := (some .int)) (by decide) rfl ?_
  intro p e s m args below meth c s₁ B hml hv
  obtain ⟨rfl, hsz, hlo, hP, hK, hDL, hZ⟩ := hv
  have hx := B.exec
  have hb := B.bytes
  have hr := B.returns
  have hts := WS_ts B.pre
  have hown : s.vm.findClass RX6 = some m.cls := findClass_of_methodNamed B.named
  have hlocks := B.notSynchronized
  subst hsz
  have hD := hDL.self (sz := s.heap.size)
  have hAlo := A_lo hDL hlo
  generalize hAe : va_A [(x0, .inr (6, (fX6 x1 (nI tz) (nI ta) na fn fb))), (aB k x1 240 fx)] s.heap.size = A at hD hAlo ⊢
  have hA : ∀ q : Nat, s.heap.size ≤ q → A q := fun q h => by rw [← hAe]; exact Or.inr h
  have hS : va_S A s.heap s.heap [] := va_S.rf
  have hl := lv_entry ([.ref x0, .int p0, .int p1]) (n := 6) (Nat.le_of_ble_eq_true rfl)
  rw [lg_entry_eq]
  generalize (lg_sl ([.ref x0, .int p0, .int p1]) ++ List.replicate (6 - (lg_sl ([.ref x0, .int p0, .int p1])).length) Slot.unset).toArray = ls at hl ⊢
  have hl : lv_has ls 6 [(0, .ref x0), (1, .int p0), (2, .int p1)] := hl
  refine lv_aload_n hx hb dX6_needNumber_0 rfl (lv_at hl 0 rfl) ?_
  refine ro_i (D := D) (va_runV (As := []) (rest := []) ⟨hx, hb, hml, hown, hts⟩ ((x_failed l D k st lo x0 x1 tz ta na fn fb) s.heap.size) (cwV 0 hts (gV tw_471 tw_368 tw_369 tw_80 tw_370) rfl rfl rfl (by decide +kernel) ⟨Nat.le_of_ble_eq_true rfl, Nat.le_of_ble_eq_true rfl⟩) (pV hS hAlo hlo hP hK (va_Dlo hD hAlo) hZ [0] (by decide) rfl (ci := 6) (q := (RX6, TX6, 6)) (q0 := 0) rfl rfl) rfl rfl hl.1 rfl (lv_room (Nat.le_of_ble_eq_true rfl)) dX6_needNumber_1 ⟨Nat.le_of_ble_eq_true rfl, Nat.le_of_ble_eq_true rfl⟩) hS hA hP (fun r_1 H locs hw_1 hP hS => ?_)
  try dsimp only at hw_1
  rcases hw_1 with ⟨rfl, hw_1⟩ | ⟨rfl, rfl⟩
  · refine lv_if_eq (tgt := 9) hx hb dX6_needNumber_4 (by decide) (fun h => absurd h (by decide)) (fun _ => ?_)
    refine lv_iload_n hx hb dX6_needNumber_7 rfl (lv_at hl 1 rfl) ?_
    have hP9 := hP.sub (ws' := [(x0, .inr (6, (fX6 x1 (nI tz) (nI ta) na fn fb))), (aB k x1 240 fx)]) [0, 1] rfl
    have hD9 := hD.sub (ws' := [(x0, .inr (6, (fX6 x1 (nI tz) (nI ta) na fn fb))), (aB k x1 240 fx)]) [0, 1] (by decide) rfl
    exact W.iret (v := p0) hx hb hr (fun t ht hW => ⟨⟨p0, (ta, na, fn, fb), rfl, ⟨fun _ => ⟨rfl, rfl, rfl, rfl, rfl⟩, fun h => absurd h hw_1, by omega, by omega, Int32.le_refl _, hle⟩, by rw [ht]; exact hP9, hD9⟩, hS.F ht⟩) hS.2.2 dX6_needNumber_8
  · refine lv_if_eq (tgt := 9) hx hb dX6_needNumber_4 (by decide) (fun _ => ?_) (fun h => absurd (by decide) h)
    refine lv_aload_n hx hb dX6_needNumber_9 rfl (lv_at hl 0 rfl) ?_
    refine rw_v (D := D) (wr := []) (va_runV (As := []) (rest := []) ⟨hx, hb, hml, hown, hts⟩ ((y_skip l D k st lo x0 x1 tz ta na 0 fb fx (by first | assumption | omega) (by first | assumption | omega)) H.size) (cwV 0 hts (gV tw_375 tw_376 tw_377 tw_80 tw_378) rfl rfl rfl (by decide +kernel) ⟨Nat.le_of_ble_eq_true rfl, Nat.le_of_ble_eq_true rfl⟩) (pV hS hAlo hlo hP hK (va_Dlo hD hAlo) hZ [0, 1] (by decide) rfl (ci := 6) (q := (RX6, TX6, 6)) (q0 := 0) rfl rfl) rfl rfl hl.1 rfl (lv_room (Nat.le_of_ble_eq_true rfl)) dX6_needNumber_10 ⟨Nat.le_of_ble_eq_true rfl, Nat.le_of_ble_eq_true rfl⟩) hS hA hP hD [0, 1] [] rfl rfl (by decide) (by decide) (fun u H locs hw_2 hP hD hS => ?_)
    obtain ⟨ta__2, rfl⟩ : ∃ z, z = u := ⟨_, rfl⟩
    replace hP : va_P D classes [(x0, .inr (6, (fX6 x1 (nI tz) (nI ta__2) na 0 fb))), (aB k x1 240 fx)] H := hP
    replace hD : va_D A [(x0, .inr (6, (fX6 x1 (nI tz) (nI ta__2) na 0 fb))), (aB k x1 240 fx)] := hD
    try dsimp only at hw_2
    refine lv_aload_n hx hb dX6_needNumber_13 rfl (lv_at hl 0 rfl) ?_
    refine lv_aload_n hx hb dX6_needNumber_14 rfl (lv_at hl 0 rfl) ?_
    refine va_get (D := D) (ci := 6) (v := .int (nI ta__2)) (C := RX6) (T := TX6) (N := 6) hx hb hts inX6 hown hK hP 0 rfl rfl 2 (by decide) (hts _ tw_113) (fun _ h9 => h9) rfl dX6_needNumber_15 ?_
    refine va_put (D := D) (ci := 6) (v := .int (nI ta__2)) (ty := .int) (C := RX6) (T := TX6) (N := 6) hx hb hts inX6 tyX6 tyX6_ok nmX6 hown hK hP hD hS 0 rfl rfl 3 (by decide) (hts _ tw_116) (fun _ h9 => h9) rfl (by decide +kernel) rfl rfl (Nat.le_of_ble_eq_true rfl) dX6_needNumber_18 (fun H locs hP hD hS => ?_)
    replace hP : va_P D classes [(x0, .inr (6, (fX6 x1 (nI tz) (nI ta__2) (nI ta__2) 0 fb))), (aB k x1 240 fx)] H := hP
    replace hD : va_D A [(x0, .inr (6, (fX6 x1 (nI tz) (nI ta__2) (nI ta__2) 0 fb))), (aB k x1 240 fx)] := hD
    refine lv_iload_n hx hb dX6_needNumber_21 rfl (lv_at hl 1 rfl) ?_
    refine lv_if_ge (tgt := 42) hx hb dX6_needNumber_22 (by decide) (fun c_3 => ?_) (fun c_3 => ?_)
    · refine lv_iconst (v := 0) hx hb dX6_needNumber_42 (by decide) ?_
      refine lv_istore_n (lv' := [(3, .int 0), (0, .ref x0), (1, .int p0), (2, .int p1)]) hx hb dX6_needNumber_43 rfl hl (by decide) rfl (fun ls hl => ?_)
      refine lv_iload_n hx hb dX6_needNumber_44 rfl (lv_at hl 0 rfl) ?_
      refine lv_if_eq (tgt := 58) hx hb dX6_needNumber_45 (by decide) (fun _ => ?_) (fun h => absurd (by decide) h)
      refine lv_aload_n hx hb dX6_needNumber_58 rfl (lv_at hl 1 rfl) ?_
      refine va_get (D := D) (ci := 6) (v := .int (nI ta__2)) (C := RX6) (T := TX6) (N := 6) hx hb hts inX6 hown hK hP 0 rfl rfl 2 (by decide) (hts _ tw_113) (fun _ h9 => h9) rfl dX6_needNumber_59 ?_
      refine lv_istore (lv' := [(4, .int (nI ta__2)), (3, .int 0), (0, .ref x0), (1, .int p0), (2, .int p1)]) hx hb dX6_needNumber_62 hl (by decide) rfl (fun ls hl => ?_)
      refine lv_iconst (v := 0) hx hb dX6_needNumber_64 (by decide) ?_
      refine lv_istore (lv' := [(5, .int 0), (4, .int (nI ta__2)), (3, .int 0), (0, .ref x0), (1, .int p0), (2, .int p1)]) hx hb dX6_needNumber_65 hl (by decide) rfl (fun ls hl => ?_)
      refine W_loop (σ := Nat × Int32) (fun (n_ : Nat) (x_ : Nat × Int32) (H : Heap) (locs : List Loc) (ls : Array Slot) => match x_ with | (t2_4, va_4) => n_ = tz - t2_4 ∧ (ta__2 ≤ t2_4 ∧ t2_4 ≤ tz ∧ ta__2 + (figA (bF fx) tz (ta__2)).length = t2_4 + (figA (bF fx) tz t2_4).length ∧ vXk (t2_4 - (ta__2)) va_4 (figA (bF fx) tz t2_4) = vX (figA (bF fx) tz (ta__2))) ∧ va_P D classes [(x0, .inr (6, (fX6 x1 (nI tz) (nI t2_4) (nI ta__2) 0 fb))), (aB k x1 240 fx)] H ∧ va_D A [(x0, .inr (6, (fX6 x1 (nI tz) (nI t2_4) (nI ta__2) 0 fb))), (aB k x1 240 fx)] ∧ va_S A s.heap H locs ∧ lv_has ls 6 [(5, .int va_4), (4, .int (nI ta__2)), (3, .int 0), (0, .ref x0), (1, .int p0), (2, .int p1)]) (fun n_4 x_4 H locs ls hI ih_4 => ?_) _ (ta__2, 0) ⟨rfl, ⟨by omega, by omega, rfl, by rw [Nat.sub_self]; rfl⟩, hP, hD, hS, (lv_sub hl [0, 1, 2, 3, 4, 5] rfl)⟩
      obtain ⟨t2_4, va_4⟩ := x_4
      obtain ⟨hm_4, hv_4, hP, hD, hS, hl⟩ := hI
      subst hm_4
      refine lv_aload_n hx hb dX6_needNumber_67 rfl (lv_at hl 3 rfl) ?_
      refine va_get (D := D) (ci := 6) (v := .int (nI t2_4)) (C := RX6) (T := TX6) (N := 6) hx hb hts inX6 hown hK hP 0 rfl rfl 2 (by decide) (hts _ tw_113) (fun _ h9 => h9) rfl dX6_needNumber_68 ?_
      refine lv_aload_n hx hb dX6_needNumber_71 rfl (lv_at hl 3 rfl) ?_
      refine va_get (D := D) (ci := 6) (v := .int (nI tz)) (C := RX6) (T := TX6) (N := 6) hx hb hts inX6 hown hK hP 0 rfl rfl 1 (by decide) (hts _ tw_110) (fun _ h9 => h9) rfl dX6_needNumber_72 ?_
      refine lv_icmp_ge (tgt := 132) hx hb dX6_needNumber_75 (by decide) (fun c_5 => ?_) (fun c_5 => ?_)
      · have c_5 := (nI_leI (a := tz) (b := t2_4) (by omega) (by omega)).mp c_5
        obtain ⟨hle_6, hve_6⟩ := nn_out (figA_end (by omega)) hv_4.2.2.1 hv_4.2.2.2
        refine lv_iload_n hx hb dX6_needNumber_132 rfl (lv_at hl 2 rfl) ?_
        refine lv_if_eq (tgt := 141) hx hb dX6_needNumber_133 (by decide) (fun _ => ?_) (fun h => absurd (by decide) h)
        refine lv_aload_n hx hb dX6_needNumber_141 rfl (lv_at hl 3 rfl) ?_
        refine va_get (D := D) (ci := 6) (v := .int (nI t2_4)) (C := RX6) (T := TX6) (N := 6) hx hb hts inX6 hown hK hP 0 rfl rfl 2 (by decide) (hts _ tw_113) (fun _ h9 => h9) rfl dX6_needNumber_142 ?_
        refine lv_iload hx hb dX6_needNumber_145 (lv_at hl 1 rfl) ?_
        refine lv_icmp_ne (tgt := 162) hx hb dX6_needNumber_147 (by decide) (fun c_7 => ?_) (fun c_7 => ?_)
        · have c_7 : ¬ (t2_4 = ta__2) := fun h => c_7 ((nI_eq (a := t2_4) (b := ta__2) (by omega) (by omega)).mpr h)
          refine lv_aload_n hx hb dX6_needNumber_162 rfl (lv_at hl 3 rfl) ?_
          refine va_get (D := D) (ci := 6) (v := .int (nI t2_4)) (C := RX6) (T := TX6) (N := 6) hx hb hts inX6 hown hK hP 0 rfl rfl 2 (by decide) (hts _ tw_113) (fun _ h9 => h9) rfl dX6_needNumber_163 ?_
          refine lv_iload hx hb dX6_needNumber_166 (lv_at hl 1 rfl) ?_
          refine lv_isub hx hb dX6_needNumber_168 ?_
          refine lv_ti (y := (nI (t2_4 - ta__2))) (pk_sub (a := t2_4) (b := ta__2) (by omega)) ?_
          refine lv_iconst (v := 3) hx hb dX6_needNumber_169 (by decide) ?_
          refine lv_icmp_gt (tgt := 185) hx hb dX6_needNumber_170 (by decide) (fun c_8 => ?_) (fun c_8 => ?_)
          · have c_8 := (nI_ltI (a := 3) (b := (t2_4 - ta__2)) (by omega) (by omega)).mp c_8
            refine lv_aload_n hx hb dX6_needNumber_185 rfl (lv_at hl 3 rfl) ?_
            refine lv_iconst (v := 2) hx hb dX6_needNumber_186 (by decide) ?_
            refine lv_aload_n hx hb dX6_needNumber_187 rfl (lv_at hl 3 rfl) ?_
            refine va_get (D := D) (ci := 6) (v := .int (nI ta__2)) (C := RX6) (T := TX6) (N := 6) hx hb hts inX6 hown hK hP 0 rfl rfl 3 (by decide) (hts _ tw_116) (fun _ h9 => h9) rfl dX6_needNumber_188 ?_
            refine rw_v (D := D) (wr := [(aB k x1 240 fx)]) (va_runV (As := [.int 2, .int (nI ta__2)]) (rest := []) ⟨hx, hb, hml, hown, hts⟩ ((y_fail l D k st lo x0 x1 tz t2_4 (nI ta__2) 0 fb 2 (nI ta__2) (by decide)) H.size) (cwV 2 hts (gV tw_476 tw_456 tw_457 tw_80 tw_458) rfl rfl rfl (by decide +kernel) ⟨Nat.le_of_ble_eq_true rfl, Nat.le_of_ble_eq_true rfl⟩) (pV hS hAlo hlo hP hK (va_Dlo hD hAlo) hZ [0] (by decide) rfl (ci := 6) (q := (RX6, TX6, 6)) (q0 := 0) rfl rfl) rfl rfl hl.1 rfl (lv_room (Nat.le_of_ble_eq_true rfl)) dX6_needNumber_191 ⟨Nat.le_of_ble_eq_true rfl, Nat.le_of_ble_eq_true rfl⟩) hS hA hP hD [0] [1] rfl rfl (by decide) (by decide) (fun u H locs hw_9 hP hD hS => ?_)
            obtain ⟨fn__9, fb__9⟩ := u
            replace hP : va_P D classes [(aB k x1 240 fx), (x0, .inr (6, (fX6 x1 (nI tz) (nI t2_4) (nI ta__2) fn__9 fb__9)))] H := hP
            replace hD : va_D A [(aB k x1 240 fx), (x0, .inr (6, (fX6 x1 (nI tz) (nI t2_4) (nI ta__2) fn__9 fb__9)))] := hD
            try dsimp only at hw_9
            obtain ⟨hs0_10, hs1_10⟩ := hw_9.2.1 rfl
            replace hs0_10 := hs0_10.symm
            subst hs0_10
            replace hs1_10 := hs1_10.symm
            subst hs1_10
            refine lv_aload_n hx hb dX6_needNumber_194 rfl (lv_at hl 3 rfl) ?_
            refine ro_i (D := D) (va_runV (As := []) (rest := []) ⟨hx, hb, hml, hown, hts⟩ ((x_failed l D k st lo x0 x1 tz t2_4 (nI ta__2) 2 (nI ta__2)) H.size) (cwV 0 hts (gV tw_471 tw_368 tw_369 tw_80 tw_370) rfl rfl rfl (by decide +kernel) ⟨Nat.le_of_ble_eq_true rfl, Nat.le_of_ble_eq_true rfl⟩) (pV hS hAlo hlo hP hK (va_Dlo hD hAlo) hZ [1] (by decide) rfl (ci := 6) (q := (RX6, TX6, 6)) (q0 := 0) rfl rfl) rfl rfl hl.1 rfl (lv_room (Nat.le_of_ble_eq_true rfl)) dX6_needNumber_195 ⟨Nat.le_of_ble_eq_true rfl, Nat.le_of_ble_eq_true rfl⟩) hS hA hP (fun r_11 H locs hw_11 hP hS => ?_)
            try dsimp only at hw_11
            obtain rfl : r_11 = 1 := by rcases hw_11 with ⟨h, h2⟩ | ⟨h, h2⟩ <;> first | exact h | exact absurd rfl h2 | exact absurd h2 (by decide)
            refine lv_if_eq (tgt := 205) hx hb dX6_needNumber_198 (by decide) (fun h => absurd h (by decide)) (fun _ => ?_)
            refine lv_iload_n hx hb dX6_needNumber_201 rfl (lv_at hl 4 rfl) ?_
            refine lv_goto (tgt := 207) hx hb dX6_needNumber_202 (by decide) ?_
            have hP9 := hP.sub (ws' := [(x0, .inr (6, (fX6 x1 (nI tz) (nI t2_4) (nI ta__2) 2 (nI ta__2)))), (aB k x1 240 fx)]) [1, 0] rfl
            have hD9 := hD.sub (ws' := [(x0, .inr (6, (fX6 x1 (nI tz) (nI t2_4) (nI ta__2) 2 (nI ta__2)))), (aB k x1 240 fx)]) [1, 0] (by decide) rfl
            exact W.iret (v := p0) hx hb hr (fun t ht hW => ⟨⟨p0, (t2_4, (nI ta__2), 2, (nI ta__2)), rfl, ⟨fun h => absurd rfl h, fun _ => ⟨_, _, rfl, .inr (.inr ⟨rfl, rfl, rfl, (nuR_A c_3 hw_2.1).trans (nuS_2 hle_6 (by omega) (vS_f hve_6) (.inl (by omega)))⟩)⟩, by omega, by omega, ⟨Int32.le_refl _, hle⟩⟩, by rw [ht]; exact hP9, hD9⟩, hS.F ht⟩) hS.2.2 dX6_needNumber_207
          · have c_8 : ¬ (3 < (t2_4 - ta__2)) := fun h => c_8 ((nI_ltI (a := 3) (b := (t2_4 - ta__2)) (by omega) (by omega)).mpr h)
            refine lv_iload hx hb dX6_needNumber_173 (lv_at hl 0 rfl) ?_
            refine lv_iload_n hx hb dX6_needNumber_175 rfl (lv_at hl 4 rfl) ?_
            refine lv_icmp_lt (tgt := 185) hx hb dX6_needNumber_176 (by decide) (fun c_12 => ?_) (fun c_12 => ?_)
            · refine lv_aload_n hx hb dX6_needNumber_185 rfl (lv_at hl 3 rfl) ?_
              refine lv_iconst (v := 2) hx hb dX6_needNumber_186 (by decide) ?_
              refine lv_aload_n hx hb dX6_needNumber_187 rfl (lv_at hl 3 rfl) ?_
              refine va_get (D := D) (ci := 6) (v := .int (nI ta__2)) (C := RX6) (T := TX6) (N := 6) hx hb hts inX6 hown hK hP 0 rfl rfl 3 (by decide) (hts _ tw_116) (fun _ h9 => h9) rfl dX6_needNumber_188 ?_
              refine rw_v (D := D) (wr := [(aB k x1 240 fx)]) (va_runV (As := [.int 2, .int (nI ta__2)]) (rest := []) ⟨hx, hb, hml, hown, hts⟩ ((y_fail l D k st lo x0 x1 tz t2_4 (nI ta__2) 0 fb 2 (nI ta__2) (by decide)) H.size) (cwV 2 hts (gV tw_476 tw_456 tw_457 tw_80 tw_458) rfl rfl rfl (by decide +kernel) ⟨Nat.le_of_ble_eq_true rfl, Nat.le_of_ble_eq_true rfl⟩) (pV hS hAlo hlo hP hK (va_Dlo hD hAlo) hZ [0] (by decide) rfl (ci := 6) (q := (RX6, TX6, 6)) (q0 := 0) rfl rfl) rfl rfl hl.1 rfl (lv_room (Nat.le_of_ble_eq_true rfl)) dX6_needNumber_191 ⟨Nat.le_of_ble_eq_true rfl, Nat.le_of_ble_eq_true rfl⟩) hS hA hP hD [0] [1] rfl rfl (by decide) (by decide) (fun u H locs hw_13 hP hD hS => ?_)
              obtain ⟨fn__13, fb__13⟩ := u
              replace hP : va_P D classes [(aB k x1 240 fx), (x0, .inr (6, (fX6 x1 (nI tz) (nI t2_4) (nI ta__2) fn__13 fb__13)))] H := hP
              replace hD : va_D A [(aB k x1 240 fx), (x0, .inr (6, (fX6 x1 (nI tz) (nI t2_4) (nI ta__2) fn__13 fb__13)))] := hD
              try dsimp only at hw_13
              obtain ⟨hs0_14, hs1_14⟩ := hw_13.2.1 rfl
              replace hs0_14 := hs0_14.symm
              subst hs0_14
              replace hs1_14 := hs1_14.symm
              subst hs1_14
              refine lv_aload_n hx hb dX6_needNumber_194 rfl (lv_at hl 3 rfl) ?_
              refine ro_i (D := D) (va_runV (As := []) (rest := []) ⟨hx, hb, hml, hown, hts⟩ ((x_failed l D k st lo x0 x1 tz t2_4 (nI ta__2) 2 (nI ta__2)) H.size) (cwV 0 hts (gV tw_471 tw_368 tw_369 tw_80 tw_370) rfl rfl rfl (by decide +kernel) ⟨Nat.le_of_ble_eq_true rfl, Nat.le_of_ble_eq_true rfl⟩) (pV hS hAlo hlo hP hK (va_Dlo hD hAlo) hZ [1] (by decide) rfl (ci := 6) (q := (RX6, TX6, 6)) (q0 := 0) rfl rfl) rfl rfl hl.1 rfl (lv_room (Nat.le_of_ble_eq_true rfl)) dX6_needNumber_195 ⟨Nat.le_of_ble_eq_true rfl, Nat.le_of_ble_eq_true rfl⟩) hS hA hP (fun r_15 H locs hw_15 hP hS => ?_)
              try dsimp only at hw_15
              obtain rfl : r_15 = 1 := by rcases hw_15 with ⟨h, h2⟩ | ⟨h, h2⟩ <;> first | exact h | exact absurd rfl h2 | exact absurd h2 (by decide)
              refine lv_if_eq (tgt := 205) hx hb dX6_needNumber_198 (by decide) (fun h => absurd h (by decide)) (fun _ => ?_)
              refine lv_iload_n hx hb dX6_needNumber_201 rfl (lv_at hl 4 rfl) ?_
              refine lv_goto (tgt := 207) hx hb dX6_needNumber_202 (by decide) ?_
              have hP9 := hP.sub (ws' := [(x0, .inr (6, (fX6 x1 (nI tz) (nI t2_4) (nI ta__2) 2 (nI ta__2)))), (aB k x1 240 fx)]) [1, 0] rfl
              have hD9 := hD.sub (ws' := [(x0, .inr (6, (fX6 x1 (nI tz) (nI t2_4) (nI ta__2) 2 (nI ta__2)))), (aB k x1 240 fx)]) [1, 0] (by decide) rfl
              exact W.iret (v := p0) hx hb hr (fun t ht hW => ⟨⟨p0, (t2_4, (nI ta__2), 2, (nI ta__2)), rfl, ⟨fun h => absurd rfl h, fun _ => ⟨_, _, rfl, .inr (.inr ⟨rfl, rfl, rfl, (nuR_A c_3 hw_2.1).trans (nuS_2 hle_6 (by omega) (vS_f hve_6) (.inr (fun h => absurd h.1 (Int32.not_le.mpr c_12))))⟩)⟩, by omega, by omega, ⟨Int32.le_refl _, hle⟩⟩, by rw [ht]; exact hP9, hD9⟩, hS.F ht⟩) hS.2.2 dX6_needNumber_207
            · refine lv_iload hx hb dX6_needNumber_179 (lv_at hl 0 rfl) ?_
              refine lv_iload_n hx hb dX6_needNumber_181 rfl (lv_at hl 5 rfl) ?_
              refine lv_icmp_le (tgt := 194) hx hb dX6_needNumber_182 (by decide) (fun c_16 => ?_) (fun c_16 => ?_)
              · refine lv_aload_n hx hb dX6_needNumber_194 rfl (lv_at hl 3 rfl) ?_
                refine ro_i (D := D) (va_runV (As := []) (rest := []) ⟨hx, hb, hml, hown, hts⟩ ((x_failed l D k st lo x0 x1 tz t2_4 (nI ta__2) 0 fb) H.size) (cwV 0 hts (gV tw_471 tw_368 tw_369 tw_80 tw_370) rfl rfl rfl (by decide +kernel) ⟨Nat.le_of_ble_eq_true rfl, Nat.le_of_ble_eq_true rfl⟩) (pV hS hAlo hlo hP hK (va_Dlo hD hAlo) hZ [0] (by decide) rfl (ci := 6) (q := (RX6, TX6, 6)) (q0 := 0) rfl rfl) rfl rfl hl.1 rfl (lv_room (Nat.le_of_ble_eq_true rfl)) dX6_needNumber_195 ⟨Nat.le_of_ble_eq_true rfl, Nat.le_of_ble_eq_true rfl⟩) hS hA hP (fun r_17 H locs hw_17 hP hS => ?_)
                try dsimp only at hw_17
                obtain rfl : r_17 = 0 := by rcases hw_17 with ⟨h, h2⟩ | ⟨h, h2⟩ <;> first | exact h | exact absurd rfl h2 | exact absurd h2 (by decide)
                refine lv_if_eq (tgt := 205) hx hb dX6_needNumber_198 (by decide) (fun _ => ?_) (fun h => absurd (by decide) h)
                refine lv_iload hx hb dX6_needNumber_205 (lv_at hl 0 rfl) ?_
                have hP9 := hP.sub (ws' := [(x0, .inr (6, (fX6 x1 (nI tz) (nI t2_4) (nI ta__2) 0 fb))), (aB k x1 240 fx)]) [0, 1] rfl
                have hD9 := hD.sub (ws' := [(x0, .inr (6, (fX6 x1 (nI tz) (nI t2_4) (nI ta__2) 0 fb))), (aB k x1 240 fx)]) [0, 1] (by decide) rfl
                exact W.iret (v := va_4) hx hb hr (fun t ht hW => ⟨⟨va_4, (t2_4, (nI ta__2), 0, fb), rfl, ⟨fun h => absurd rfl h, fun _ => ⟨0, _, rfl, .inl ⟨rfl, (nuR_A c_3 hw_2.1).trans (nuS_0 hle_6 (by omega) (vS_f hve_6) (by omega) ⟨Int32.not_lt.mp c_12, c_16⟩)⟩⟩, by omega, by omega, ⟨Int32.not_lt.mp c_12, c_16⟩⟩, by rw [ht]; exact hP9, hD9⟩, hS.F ht⟩) hS.2.2 dX6_needNumber_207
              · refine lv_aload_n hx hb dX6_needNumber_185 rfl (lv_at hl 3 rfl) ?_
                refine lv_iconst (v := 2) hx hb dX6_needNumber_186 (by decide) ?_
                refine lv_aload_n hx hb dX6_needNumber_187 rfl (lv_at hl 3 rfl) ?_
                refine va_get (D := D) (ci := 6) (v := .int (nI ta__2)) (C := RX6) (T := TX6) (N := 6) hx hb hts inX6 hown hK hP 0 rfl rfl 3 (by decide) (hts _ tw_116) (fun _ h9 => h9) rfl dX6_needNumber_188 ?_
                refine rw_v (D := D) (wr := [(aB k x1 240 fx)]) (va_runV (As := [.int 2, .int (nI ta__2)]) (rest := []) ⟨hx, hb, hml, hown, hts⟩ ((y_fail l D k st lo x0 x1 tz t2_4 (nI ta__2) 0 fb 2 (nI ta__2) (by decide)) H.size) (cwV 2 hts (gV tw_476 tw_456 tw_457 tw_80 tw_458) rfl rfl rfl (by decide +kernel) ⟨Nat.le_of_ble_eq_true rfl, Nat.le_of_ble_eq_true rfl⟩) (pV hS hAlo hlo hP hK (va_Dlo hD hAlo) hZ [0] (by decide) rfl (ci := 6) (q := (RX6, TX6, 6)) (q0 := 0) rfl rfl) rfl rfl hl.1 rfl (lv_room (Nat.le_of_ble_eq_true rfl)) dX6_needNumber_191 ⟨Nat.le_of_ble_eq_true rfl, Nat.le_of_ble_eq_true rfl⟩) hS hA hP hD [0] [1] rfl rfl (by decide) (by decide) (fun u H locs hw_18 hP hD hS => ?_)
                obtain ⟨fn__18, fb__18⟩ := u
                replace hP : va_P D classes [(aB k x1 240 fx), (x0, .inr (6, (fX6 x1 (nI tz) (nI t2_4) (nI ta__2) fn__18 fb__18)))] H := hP
                replace hD : va_D A [(aB k x1 240 fx), (x0, .inr (6, (fX6 x1 (nI tz) (nI t2_4) (nI ta__2) fn__18 fb__18)))] := hD
                try dsimp only at hw_18
                obtain ⟨hs0_19, hs1_19⟩ := hw_18.2.1 rfl
                replace hs0_19 := hs0_19.symm
                subst hs0_19
                replace hs1_19 := hs1_19.symm
                subst hs1_19
                refine lv_aload_n hx hb dX6_needNumber_194 rfl (lv_at hl 3 rfl) ?_
                refine ro_i (D := D) (va_runV (As := []) (rest := []) ⟨hx, hb, hml, hown, hts⟩ ((x_failed l D k st lo x0 x1 tz t2_4 (nI ta__2) 2 (nI ta__2)) H.size) (cwV 0 hts (gV tw_471 tw_368 tw_369 tw_80 tw_370) rfl rfl rfl (by decide +kernel) ⟨Nat.le_of_ble_eq_true rfl, Nat.le_of_ble_eq_true rfl⟩) (pV hS hAlo hlo hP hK (va_Dlo hD hAlo) hZ [1] (by decide) rfl (ci := 6) (q := (RX6, TX6, 6)) (q0 := 0) rfl rfl) rfl rfl hl.1 rfl (lv_room (Nat.le_of_ble_eq_true rfl)) dX6_needNumber_195 ⟨Nat.le_of_ble_eq_true rfl, Nat.le_of_ble_eq_true rfl⟩) hS hA hP (fun r_20 H locs hw_20 hP hS => ?_)
                try dsimp only at hw_20
                obtain rfl : r_20 = 1 := by rcases hw_20 with ⟨h, h2⟩ | ⟨h, h2⟩ <;> first | exact h | exact absurd rfl h2 | exact absurd h2 (by decide)
                refine lv_if_eq (tgt := 205) hx hb dX6_needNumber_198 (by decide) (fun h => absurd h (by decide)) (fun _ => ?_)
                refine lv_iload_n hx hb dX6_needNumber_201 rfl (lv_at hl 4 rfl) ?_
                refine lv_goto (tgt := 207) hx hb dX6_needNumber_202 (by decide) ?_
                have hP9 := hP.sub (ws' := [(x0, .inr (6, (fX6 x1 (nI tz) (nI t2_4) (nI ta__2) 2 (nI ta__2)))), (aB k x1 240 fx)]) [1, 0] rfl
                have hD9 := hD.sub (ws' := [(x0, .inr (6, (fX6 x1 (nI tz) (nI t2_4) (nI ta__2) 2 (nI ta__2)))), (aB k x1 240 fx)]) [1, 0] (by decide) rfl
                exact W.iret (v := p0) hx hb hr (fun t ht hW => ⟨⟨p0, (t2_4, (nI ta__2), 2, (nI ta__2)), rfl, ⟨fun h => absurd rfl h, fun _ => ⟨_, _, rfl, .inr (.inr ⟨rfl, rfl, rfl, (nuR_A c_3 hw_2.1).trans (nuS_2 hle_6 (by omega) (vS_f hve_6) (.inr (fun h => absurd h.2 c_16)))⟩)⟩, by omega, by omega, ⟨Int32.le_refl _, hle⟩⟩, by rw [ht]; exact hP9, hD9⟩, hS.F ht⟩) hS.2.2 dX6_needNumber_207
        · have c_7 := (nI_eq (a := t2_4) (b := ta__2) (by omega) (by omega)).mp c_7
          refine lv_aload_n hx hb dX6_needNumber_150 rfl (lv_at hl 3 rfl) ?_
          refine lv_iconst (v := 1) hx hb dX6_needNumber_151 (by decide) ?_
          refine lv_aload_n hx hb dX6_needNumber_152 rfl (lv_at hl 3 rfl) ?_
          refine va_get (D := D) (ci := 6) (v := .int (nI t2_4)) (C := RX6) (T := TX6) (N := 6) hx hb hts inX6 hown hK hP 0 rfl rfl 2 (by decide) (hts _ tw_113) (fun _ h9 => h9) rfl dX6_needNumber_153 ?_
          refine rw_v (D := D) (wr := [(aB k x1 240 fx)]) (va_runV (As := [.int 1, .int (nI t2_4)]) (rest := []) ⟨hx, hb, hml, hown, hts⟩ ((y_fail l D k st lo x0 x1 tz t2_4 (nI ta__2) 0 fb 1 (nI t2_4) (by decide)) H.size) (cwV 2 hts (gV tw_476 tw_456 tw_457 tw_80 tw_458) rfl rfl rfl (by decide +kernel) ⟨Nat.le_of_ble_eq_true rfl, Nat.le_of_ble_eq_true rfl⟩) (pV hS hAlo hlo hP hK (va_Dlo hD hAlo) hZ [0] (by decide) rfl (ci := 6) (q := (RX6, TX6, 6)) (q0 := 0) rfl rfl) rfl rfl hl.1 rfl (lv_room (Nat.le_of_ble_eq_true rfl)) dX6_needNumber_156 ⟨Nat.le_of_ble_eq_true rfl, Nat.le_of_ble_eq_true rfl⟩) hS hA hP hD [0] [1] rfl rfl (by decide) (by decide) (fun u H locs hw_21 hP hD hS => ?_)
          obtain ⟨fn__21, fb__21⟩ := u
          replace hP : va_P D classes [(aB k x1 240 fx), (x0, .inr (6, (fX6 x1 (nI tz) (nI t2_4) (nI ta__2) fn__21 fb__21)))] H := hP
          replace hD : va_D A [(aB k x1 240 fx), (x0, .inr (6, (fX6 x1 (nI tz) (nI t2_4) (nI ta__2) fn__21 fb__21)))] := hD
          try dsimp only at hw_21
          obtain ⟨hs0_22, hs1_22⟩ := hw_21.2.1 rfl
          replace hs0_22 := hs0_22.symm
          subst hs0_22
          replace hs1_22 := hs1_22.symm
          subst hs1_22
          refine lv_goto (tgt := 194) hx hb dX6_needNumber_159 (by decide) ?_
          refine lv_aload_n hx hb dX6_needNumber_194 rfl (lv_at hl 3 rfl) ?_
          refine ro_i (D := D) (va_runV (As := []) (rest := []) ⟨hx, hb, hml, hown, hts⟩ ((x_failed l D k st lo x0 x1 tz t2_4 (nI ta__2) 1 (nI t2_4)) H.size) (cwV 0 hts (gV tw_471 tw_368 tw_369 tw_80 tw_370) rfl rfl rfl (by decide +kernel) ⟨Nat.le_of_ble_eq_true rfl, Nat.le_of_ble_eq_true rfl⟩) (pV hS hAlo hlo hP hK (va_Dlo hD hAlo) hZ [1] (by decide) rfl (ci := 6) (q := (RX6, TX6, 6)) (q0 := 0) rfl rfl) rfl rfl hl.1 rfl (lv_room (Nat.le_of_ble_eq_true rfl)) dX6_needNumber_195 ⟨Nat.le_of_ble_eq_true rfl, Nat.le_of_ble_eq_true rfl⟩) hS hA hP (fun r_23 H locs hw_23 hP hS => ?_)
          try dsimp only at hw_23
          obtain rfl : r_23 = 1 := by rcases hw_23 with ⟨h, h2⟩ | ⟨h, h2⟩ <;> first | exact h | exact absurd rfl h2 | exact absurd h2 (by decide)
          refine lv_if_eq (tgt := 205) hx hb dX6_needNumber_198 (by decide) (fun h => absurd h (by decide)) (fun _ => ?_)
          refine lv_iload_n hx hb dX6_needNumber_201 rfl (lv_at hl 4 rfl) ?_
          refine lv_goto (tgt := 207) hx hb dX6_needNumber_202 (by decide) ?_
          have hP9 := hP.sub (ws' := [(x0, .inr (6, (fX6 x1 (nI tz) (nI t2_4) (nI ta__2) 1 (nI t2_4)))), (aB k x1 240 fx)]) [1, 0] rfl
          have hD9 := hD.sub (ws' := [(x0, .inr (6, (fX6 x1 (nI tz) (nI t2_4) (nI ta__2) 1 (nI t2_4)))), (aB k x1 240 fx)]) [1, 0] (by decide) rfl
          exact W.iret (v := p0) hx hb hr (fun t ht hW => ⟨⟨p0, (t2_4, (nI ta__2), 1, (nI t2_4)), rfl, ⟨fun h => absurd rfl h, fun _ => ⟨_, _, rfl, .inr (.inl ⟨rfl, rfl, rfl, (nuR_A c_3 hw_2.1).trans (nuS_1t hle_6 (by omega))⟩)⟩, by omega, by omega, ⟨Int32.le_refl _, hle⟩⟩, by rw [ht]; exact hP9, hD9⟩, hS.F ht⟩) hS.2.2 dX6_needNumber_207
      · have c_5 : ¬ (tz ≤ t2_4) := fun h => c_5 ((nI_leI (a := tz) (b := t2_4) (by omega) (by omega)).mpr h)
        refine lv_aload_n hx hb dX6_needNumber_78 rfl (lv_at hl 3 rfl) ?_
        refine lv_aload_n hx hb dX6_needNumber_79 rfl (lv_at hl 3 rfl) ?_
        refine va_get (D := D) (ci := 6) (v := .int (nI t2_4)) (C := RX6) (T := TX6) (N := 6) hx hb hts inX6 hown hK hP 0 rfl rfl 2 (by decide) (hts _ tw_113) (fun _ h9 => h9) rfl dX6_needNumber_80 ?_
        refine ro_i (D := D) (va_runV (As := [.int (nI t2_4)]) (rest := []) ⟨hx, hb, hml, hown, hts⟩ ((y_isFigureAt l D k st lo x0 x1 tz t2_4 (nI ta__2) 0 fb fx t2_4 (by first | assumption | omega) (by first | assumption | omega)) H.size) (cwV 1 hts (gV tw_472 tw_473 tw_474 tw_80 tw_475) rfl rfl rfl (by decide +kernel) ⟨Nat.le_of_ble_eq_true rfl, Nat.le_of_ble_eq_true rfl⟩) (pV hS hAlo hlo hP hK (va_Dlo hD hAlo) hZ [0, 1] (by decide) rfl (ci := 6) (q := (RX6, TX6, 6)) (q0 := 0) rfl rfl) rfl rfl hl.1 rfl (lv_room (Nat.le_of_ble_eq_true rfl)) dX6_needNumber_83 ⟨Nat.le_of_ble_eq_true rfl, Nat.le_of_ble_eq_true rfl⟩) hS hA hP (fun r_24 H locs hw_24 hP hS => ?_)
        try dsimp only at hw_24
        rcases hw_24 with ⟨rfl, hw_24⟩ | ⟨rfl, hw_24⟩
        · refine lv_if_eq (tgt := 132) hx hb dX6_needNumber_86 (by decide) (fun h => absurd h (by decide)) (fun _ => ?_)
          refine lv_aload_n hx hb dX6_needNumber_89 rfl (lv_at hl 3 rfl) ?_
          refine va_get (D := D) (ci := 6) (v := .int (nI t2_4)) (C := RX6) (T := TX6) (N := 6) hx hb hts inX6 hown hK hP 0 rfl rfl 2 (by decide) (hts _ tw_113) (fun _ h9 => h9) rfl dX6_needNumber_90 ?_
          refine lv_iload hx hb dX6_needNumber_93 (lv_at hl 1 rfl) ?_
          refine lv_isub hx hb dX6_needNumber_95 ?_
          refine lv_ti (y := (nI (t2_4 - ta__2))) (pk_sub (a := t2_4) (b := ta__2) (by omega)) ?_
          refine lv_iconst (v := 3) hx hb dX6_needNumber_96 (by decide) ?_
          refine lv_icmp_ge (tgt := 119) hx hb dX6_needNumber_97 (by decide) (fun c_25 => ?_) (fun c_25 => ?_)
          · have c_25 := (nI_leI (a := 3) (b := (t2_4 - ta__2)) (by omega) (by omega)).mp c_25
            refine lv_aload_n hx hb dX6_needNumber_119 rfl (lv_at hl 3 rfl) ?_
            refine lv_dup hx hb dX6_needNumber_120 rfl ?_
            refine va_get (D := D) (ci := 6) (v := .int (nI t2_4)) (C := RX6) (T := TX6) (N := 6) hx hb hts inX6 hown hK hP 0 rfl rfl 2 (by decide) (hts _ tw_113) (fun _ h9 => h9) rfl dX6_needNumber_121 ?_
            refine lv_iconst (v := 1) hx hb dX6_needNumber_124 (by decide) ?_
            refine lv_iadd hx hb dX6_needNumber_125 ?_
            refine lv_ti (y := (nI (t2_4 + 1))) (nI_add t2_4 1) ?_
            refine va_put (D := D) (ci := 6) (v := .int (nI (t2_4 + 1))) (ty := .int) (C := RX6) (T := TX6) (N := 6) hx hb hts inX6 tyX6 tyX6_ok nmX6 hown hK hP hD hS 0 rfl rfl 2 (by decide) (hts _ tw_113) (fun _ h9 => h9) rfl (by decide +kernel) rfl rfl (Nat.le_of_ble_eq_true rfl) dX6_needNumber_126 (fun H locs hP hD hS => ?_)
            replace hP : va_P D classes [(x0, .inr (6, (fX6 x1 (nI tz) (nI (t2_4 + 1)) (nI ta__2) 0 fb))), (aB k x1 240 fx)] H := hP
            replace hD : va_D A [(x0, .inr (6, (fX6 x1 (nI tz) (nI (t2_4 + 1)) (nI ta__2) 0 fb))), (aB k x1 240 fx)] := hD
            refine lv_goto (tgt := 67) hx hb dX6_needNumber_129 (by decide) ?_
            have hst_26 := nn_step (by omega) (by omega) hw_24 hv_4.2.2.1 hv_4.2.2.2
            exact ih_4 _ (t2_4 + 1, va_4) _ _ _ (by omega) ⟨rfl, ⟨by omega, by omega, hst_26.1, hst_26.2.2 (by omega)⟩, hP, hD, hS, (lv_sub hl [0, 1, 2, 3, 4, 5] rfl)⟩
          · have c_25 : ¬ (3 ≤ (t2_4 - ta__2)) := fun h => c_25 ((nI_leI (a := 3) (b := (t2_4 - ta__2)) (by omega) (by omega)).mpr h)
            refine lv_iload hx hb dX6_needNumber_100 (lv_at hl 0 rfl) ?_
            refine lv_bipush (v := 10) hx hb dX6_needNumber_102 (by decide) ?_
            refine lv_imul hx hb dX6_needNumber_104 ?_
            refine lv_topi (fun x_27 ex_27 => ?_)
            refine lv_aload_n hx hb dX6_needNumber_105 rfl (lv_at hl 3 rfl) ?_
            refine lv_aload_n hx hb dX6_needNumber_106 rfl (lv_at hl 3 rfl) ?_
            refine va_get (D := D) (ci := 6) (v := .int (nI t2_4)) (C := RX6) (T := TX6) (N := 6) hx hb hts inX6 hown hK hP 0 rfl rfl 2 (by decide) (hts _ tw_113) (fun _ h9 => h9) rfl dX6_needNumber_107 ?_
            refine ro_i (D := D) (va_runV (As := [.int (nI t2_4)]) (rest := [.int x_27]) ⟨hx, hb, hml, hown, hts⟩ ((y_byteAt l D k st lo x0 x1 tz t2_4 (nI ta__2) 0 fb fx t2_4 (by first | assumption | omega) (by first | assumption | omega)) H.size) (cwV 1 hts (gV tw_379 tw_380 tw_381 tw_80 tw_382) rfl rfl rfl (by decide +kernel) ⟨Nat.le_of_ble_eq_true rfl, Nat.le_of_ble_eq_true rfl⟩) (pV hS hAlo hlo hP hK (va_Dlo hD hAlo) hZ [0, 1] (by decide) rfl (ci := 6) (q := (RX6, TX6, 6)) (q0 := 0) rfl rfl) rfl rfl hl.1 rfl (lv_room (Nat.le_of_ble_eq_true rfl)) dX6_needNumber_110 ⟨Nat.le_of_ble_eq_true rfl, Nat.le_of_ble_eq_true rfl⟩) hS hA hP (fun r_28 H locs hw_28 hP hS => ?_)
            try dsimp only at hw_28
            refine lv_iadd hx hb dX6_needNumber_113 ?_
            refine lv_topi (fun x_29 ex_29 => ?_)
            refine lv_bipush (v := 48) hx hb dX6_needNumber_114 (by decide) ?_
            refine lv_isub hx hb dX6_needNumber_116 ?_
            refine lv_topi (fun x_30 ex_30 => ?_)
            refine lv_istore (lv' := [(5, .int x_30), (4, .int (nI ta__2)), (3, .int 0), (0, .ref x0), (1, .int p0), (2, .int p1)]) hx hb dX6_needNumber_117 hl (by decide) rfl (fun ls hl => ?_)
            refine lv_aload_n hx hb dX6_needNumber_119 rfl (lv_at hl 3 rfl) ?_
            refine lv_dup hx hb dX6_needNumber_120 rfl ?_
            refine va_get (D := D) (ci := 6) (v := .int (nI t2_4)) (C := RX6) (T := TX6) (N := 6) hx hb hts inX6 hown hK hP 0 rfl rfl 2 (by decide) (hts _ tw_113) (fun _ h9 => h9) rfl dX6_needNumber_121 ?_
            refine lv_iconst (v := 1) hx hb dX6_needNumber_124 (by decide) ?_
            refine lv_iadd hx hb dX6_needNumber_125 ?_
            refine lv_ti (y := (nI (t2_4 + 1))) (nI_add t2_4 1) ?_
            refine va_put (D := D) (ci := 6) (v := .int (nI (t2_4 + 1))) (ty := .int) (C := RX6) (T := TX6) (N := 6) hx hb hts inX6 tyX6 tyX6_ok nmX6 hown hK hP hD hS 0 rfl rfl 2 (by decide) (hts _ tw_113) (fun _ h9 => h9) rfl (by decide +kernel) rfl rfl (Nat.le_of_ble_eq_true rfl) dX6_needNumber_126 (fun H locs hP hD hS => ?_)
            replace hP : va_P D classes [(x0, .inr (6, (fX6 x1 (nI tz) (nI (t2_4 + 1)) (nI ta__2) 0 fb))), (aB k x1 240 fx)] H := hP
            replace hD : va_D A [(x0, .inr (6, (fX6 x1 (nI tz) (nI (t2_4 + 1)) (nI ta__2) 0 fb))), (aB k x1 240 fx)] := hD
            refine lv_goto (tgt := 67) hx hb dX6_needNumber_129 (by decide) ?_
            have hst_31 := nn_step (by omega) (by omega) hw_24 hv_4.2.2.1 hv_4.2.2.2
            exact ih_4 _ (t2_4 + 1, x_30) _ _ _ (by omega) ⟨rfl, ⟨by omega, by omega, hst_31.1, (by rw [ex_30, ex_29, ex_27]; exact hst_31.2.1 (by omega) _ hw_28)⟩, hP, hD, hS, (lv_sub hl [0, 1, 2, 3, 4, 5] rfl)⟩
        · refine lv_if_eq (tgt := 132) hx hb dX6_needNumber_86 (by decide) (fun _ => ?_) (fun h => absurd (by decide) h)
          obtain ⟨hle_32, hve_32⟩ := nn_out (nn_fe hw_24) hv_4.2.2.1 hv_4.2.2.2
          refine lv_iload_n hx hb dX6_needNumber_132 rfl (lv_at hl 2 rfl) ?_
          refine lv_if_eq (tgt := 141) hx hb dX6_needNumber_133 (by decide) (fun _ => ?_) (fun h => absurd (by decide) h)
          refine lv_aload_n hx hb dX6_needNumber_141 rfl (lv_at hl 3 rfl) ?_
          refine va_get (D := D) (ci := 6) (v := .int (nI t2_4)) (C := RX6) (T := TX6) (N := 6) hx hb hts inX6 hown hK hP 0 rfl rfl 2 (by decide) (hts _ tw_113) (fun _ h9 => h9) rfl dX6_needNumber_142 ?_
          refine lv_iload hx hb dX6_needNumber_145 (lv_at hl 1 rfl) ?_
          refine lv_icmp_ne (tgt := 162) hx hb dX6_needNumber_147 (by decide) (fun c_33 => ?_) (fun c_33 => ?_)
          · have c_33 : ¬ (t2_4 = ta__2) := fun h => c_33 ((nI_eq (a := t2_4) (b := ta__2) (by omega) (by omega)).mpr h)
            refine lv_aload_n hx hb dX6_needNumber_162 rfl (lv_at hl 3 rfl) ?_
            refine va_get (D := D) (ci := 6) (v := .int (nI t2_4)) (C := RX6) (T := TX6) (N := 6) hx hb hts inX6 hown hK hP 0 rfl rfl 2 (by decide) (hts _ tw_113) (fun _ h9 => h9) rfl dX6_needNumber_163 ?_
            refine lv_iload hx hb dX6_needNumber_166 (lv_at hl 1 rfl) ?_
            refine lv_isub hx hb dX6_needNumber_168 ?_
            refine lv_ti (y := (nI (t2_4 - ta__2))) (pk_sub (a := t2_4) (b := ta__2) (by omega)) ?_
            refine lv_iconst (v := 3) hx hb dX6_needNumber_169 (by decide) ?_
            refine lv_icmp_gt (tgt := 185) hx hb dX6_needNumber_170 (by decide) (fun c_34 => ?_) (fun c_34 => ?_)
            · have c_34 := (nI_ltI (a := 3) (b := (t2_4 - ta__2)) (by omega) (by omega)).mp c_34
              refine lv_aload_n hx hb dX6_needNumber_185 rfl (lv_at hl 3 rfl) ?_
              refine lv_iconst (v := 2) hx hb dX6_needNumber_186 (by decide) ?_
              refine lv_aload_n hx hb dX6_needNumber_187 rfl (lv_at hl 3 rfl) ?_
              refine va_get (D := D) (ci := 6) (v := .int (nI ta__2)) (C := RX6) (T := TX6) (N := 6) hx hb hts inX6 hown hK hP 0 rfl rfl 3 (by decide) (hts _ tw_116) (fun _ h9 => h9) rfl dX6_needNumber_188 ?_
              refine rw_v (D := D) (wr := [(aB k x1 240 fx)]) (va_runV (As := [.int 2, .int (nI ta__2)]) (rest := []) ⟨hx, hb, hml, hown, hts⟩ ((y_fail l D k st lo x0 x1 tz t2_4 (nI ta__2) 0 fb 2 (nI ta__2) (by decide)) H.size) (cwV 2 hts (gV tw_476 tw_456 tw_457 tw_80 tw_458) rfl rfl rfl (by decide +kernel) ⟨Nat.le_of_ble_eq_true rfl, Nat.le_of_ble_eq_true rfl⟩) (pV hS hAlo hlo hP hK (va_Dlo hD hAlo) hZ [0] (by decide) rfl (ci := 6) (q := (RX6, TX6, 6)) (q0 := 0) rfl rfl) rfl rfl hl.1 rfl (lv_room (Nat.le_of_ble_eq_true rfl)) dX6_needNumber_191 ⟨Nat.le_of_ble_eq_true rfl, Nat.le_of_ble_eq_true rfl⟩) hS hA hP hD [0] [1] rfl rfl (by decide) (by decide) (fun u H locs hw_35 hP hD hS => ?_)
              obtain ⟨fn__35, fb__35⟩ := u
              replace hP : va_P D classes [(aB k x1 240 fx), (x0, .inr (6, (fX6 x1 (nI tz) (nI t2_4) (nI ta__2) fn__35 fb__35)))] H := hP
              replace hD : va_D A [(aB k x1 240 fx), (x0, .inr (6, (fX6 x1 (nI tz) (nI t2_4) (nI ta__2) fn__35 fb__35)))] := hD
              try dsimp only at hw_35
              obtain ⟨hs0_36, hs1_36⟩ := hw_35.2.1 rfl
              replace hs0_36 := hs0_36.symm
              subst hs0_36
              replace hs1_36 := hs1_36.symm
              subst hs1_36
              refine lv_aload_n hx hb dX6_needNumber_194 rfl (lv_at hl 3 rfl) ?_
              refine ro_i (D := D) (va_runV (As := []) (rest := []) ⟨hx, hb, hml, hown, hts⟩ ((x_failed l D k st lo x0 x1 tz t2_4 (nI ta__2) 2 (nI ta__2)) H.size) (cwV 0 hts (gV tw_471 tw_368 tw_369 tw_80 tw_370) rfl rfl rfl (by decide +kernel) ⟨Nat.le_of_ble_eq_true rfl, Nat.le_of_ble_eq_true rfl⟩) (pV hS hAlo hlo hP hK (va_Dlo hD hAlo) hZ [1] (by decide) rfl (ci := 6) (q := (RX6, TX6, 6)) (q0 := 0) rfl rfl) rfl rfl hl.1 rfl (lv_room (Nat.le_of_ble_eq_true rfl)) dX6_needNumber_195 ⟨Nat.le_of_ble_eq_true rfl, Nat.le_of_ble_eq_true rfl⟩) hS hA hP (fun r_37 H locs hw_37 hP hS => ?_)
              try dsimp only at hw_37
              obtain rfl : r_37 = 1 := by rcases hw_37 with ⟨h, h2⟩ | ⟨h, h2⟩ <;> first | exact h | exact absurd rfl h2 | exact absurd h2 (by decide)
              refine lv_if_eq (tgt := 205) hx hb dX6_needNumber_198 (by decide) (fun h => absurd h (by decide)) (fun _ => ?_)
              refine lv_iload_n hx hb dX6_needNumber_201 rfl (lv_at hl 4 rfl) ?_
              refine lv_goto (tgt := 207) hx hb dX6_needNumber_202 (by decide) ?_
              have hP9 := hP.sub (ws' := [(x0, .inr (6, (fX6 x1 (nI tz) (nI t2_4) (nI ta__2) 2 (nI ta__2)))), (aB k x1 240 fx)]) [1, 0] rfl
              have hD9 := hD.sub (ws' := [(x0, .inr (6, (fX6 x1 (nI tz) (nI t2_4) (nI ta__2) 2 (nI ta__2)))), (aB k x1 240 fx)]) [1, 0] (by decide) rfl
              exact W.iret (v := p0) hx hb hr (fun t ht hW => ⟨⟨p0, (t2_4, (nI ta__2), 2, (nI ta__2)), rfl, ⟨fun h => absurd rfl h, fun _ => ⟨_, _, rfl, .inr (.inr ⟨rfl, rfl, rfl, (nuR_A c_3 hw_2.1).trans (nuS_2 hle_32 (by omega) (vS_f hve_32) (.inl (by omega)))⟩)⟩, by omega, by omega, ⟨Int32.le_refl _, hle⟩⟩, by rw [ht]; exact hP9, hD9⟩, hS.F ht⟩) hS.2.2 dX6_needNumber_207
            · have c_34 : ¬ (3 < (t2_4 - ta__2)) := fun h => c_34 ((nI_ltI (a := 3) (b := (t2_4 - ta__2)) (by omega) (by omega)).mpr h)
              refine lv_iload hx hb dX6_needNumber_173 (lv_at hl 0 rfl) ?_
              refine lv_iload_n hx hb dX6_needNumber_175 rfl (lv_at hl 4 rfl) ?_
              refine lv_icmp_lt (tgt := 185) hx hb dX6_needNumber_176 (by decide) (fun c_38 => ?_) (fun c_38 => ?_)
              · refine lv_aload_n hx hb dX6_needNumber_185 rfl (lv_at hl 3 rfl) ?_
                refine lv_iconst (v := 2) hx hb dX6_needNumber_186 (by decide) ?_
                refine lv_aload_n hx hb dX6_needNumber_187 rfl (lv_at hl 3 rfl) ?_
                refine va_get (D := D) (ci := 6) (v := .int (nI ta__2)) (C := RX6) (T := TX6) (N := 6) hx hb hts inX6 hown hK hP 0 rfl rfl 3 (by decide) (hts _ tw_116) (fun _ h9 => h9) rfl dX6_needNumber_188 ?_
                refine rw_v (D := D) (wr := [(aB k x1 240 fx)]) (va_runV (As := [.int 2, .int (nI ta__2)]) (rest := []) ⟨hx, hb, hml, hown, hts⟩ ((y_fail l D k st lo x0 x1 tz t2_4 (nI ta__2) 0 fb 2 (nI ta__2) (by decide)) H.size) (cwV 2 hts (gV tw_476 tw_456 tw_457 tw_80 tw_458) rfl rfl rfl (by decide +kernel) ⟨Nat.le_of_ble_eq_true rfl, Nat.le_of_ble_eq_true rfl⟩) (pV hS hAlo hlo hP hK (va_Dlo hD hAlo) hZ [0] (by decide) rfl (ci := 6) (q := (RX6, TX6, 6)) (q0 := 0) rfl rfl) rfl rfl hl.1 rfl (lv_room (Nat.le_of_ble_eq_true rfl)) dX6_needNumber_191 ⟨Nat.le_of_ble_eq_true rfl, Nat.le_of_ble_eq_true rfl⟩) hS hA hP hD [0] [1] rfl rfl (by decide) (by decide) (fun u H locs hw_39 hP hD hS => ?_)
                obtain ⟨fn__39, fb__39⟩ := u
                replace hP : va_P D classes [(aB k x1 240 fx), (x0, .inr (6, (fX6 x1 (nI tz) (nI t2_4) (nI ta__2) fn__39 fb__39)))] H := hP
                replace hD : va_D A [(aB k x1 240 fx), (x0, .inr (6, (fX6 x1 (nI tz) (nI t2_4) (nI ta__2) fn__39 fb__39)))] := hD
                try dsimp only at hw_39
                obtain ⟨hs0_40, hs1_40⟩ := hw_39.2.1 rfl
                replace hs0_40 := hs0_40.symm
                subst hs0_40
                replace hs1_40 := hs1_40.symm
                subst hs1_40
                refine lv_aload_n hx hb dX6_needNumber_194 rfl (lv_at hl 3 rfl) ?_
                refine ro_i (D := D) (va_runV (As := []) (rest := []) ⟨hx, hb, hml, hown, hts⟩ ((x_failed l D k st lo x0 x1 tz t2_4 (nI ta__2) 2 (nI ta__2)) H.size) (cwV 0 hts (gV tw_471 tw_368 tw_369 tw_80 tw_370) rfl rfl rfl (by decide +kernel) ⟨Nat.le_of_ble_eq_true rfl, Nat.le_of_ble_eq_true rfl⟩) (pV hS hAlo hlo hP hK (va_Dlo hD hAlo) hZ [1] (by decide) rfl (ci := 6) (q := (RX6, TX6, 6)) (q0 := 0) rfl rfl) rfl rfl hl.1 rfl (lv_room (Nat.le_of_ble_eq_true rfl)) dX6_needNumber_195 ⟨Nat.le_of_ble_eq_true rfl, Nat.le_of_ble_eq_true rfl⟩) hS hA hP (fun r_41 H locs hw_41 hP hS => ?_)
                try dsimp only at hw_41
                obtain rfl : r_41 = 1 := by rcases hw_41 with ⟨h, h2⟩ | ⟨h, h2⟩ <;> first | exact h | exact absurd rfl h2 | exact absurd h2 (by decide)
                refine lv_if_eq (tgt := 205) hx hb dX6_needNumber_198 (by decide) (fun h => absurd h (by decide)) (fun _ => ?_)
                refine lv_iload_n hx hb dX6_needNumber_201 rfl (lv_at hl 4 rfl) ?_
                refine lv_goto (tgt := 207) hx hb dX6_needNumber_202 (by decide) ?_
                have hP9 := hP.sub (ws' := [(x0, .inr (6, (fX6 x1 (nI tz) (nI t2_4) (nI ta__2) 2 (nI ta__2)))), (aB k x1 240 fx)]) [1, 0] rfl
                have hD9 := hD.sub (ws' := [(x0, .inr (6, (fX6 x1 (nI tz) (nI t2_4) (nI ta__2) 2 (nI ta__2)))), (aB k x1 240 fx)]) [1, 0] (by decide) rfl
                exact W.iret (v := p0) hx hb hr (fun t ht hW => ⟨⟨p0, (t2_4, (nI ta__2), 2, (nI ta__2)), rfl, ⟨fun h => absurd rfl h, fun _ => ⟨_, _, rfl, .inr (.inr ⟨rfl, rfl, rfl, (nuR_A c_3 hw_2.1).trans (nuS_2 hle_32 (by omega) (vS_f hve_32) (.inr (fun h => absurd h.1 (Int32.not_le.mpr c_38))))⟩)⟩, by omega, by omega, ⟨Int32.le_refl _, hle⟩⟩, by rw [ht]; exact hP9, hD9⟩, hS.F ht⟩) hS.2.2 dX6_needNumber_207
              · refine lv_iload hx hb dX6_needNumber_179 (lv_at hl 0 rfl) ?_
                refine lv_iload_n hx hb dX6_needNumber_181 rfl (lv_at hl 5 rfl) ?_
                refine lv_icmp_le (tgt := 194) hx hb dX6_needNumber_182 (by decide) (fun c_42 => ?_) (fun c_42 => ?_)
                · refine lv_aload_n hx hb dX6_needNumber_194 rfl (lv_at hl 3 rfl) ?_
                  refine ro_i (D := D) (va_runV (As := []) (rest := []) ⟨hx, hb, hml, hown, hts⟩ ((x_failed l D k st lo x0 x1 tz t2_4 (nI ta__2) 0 fb) H.size) (cwV 0 hts (gV tw_471 tw_368 tw_369 tw_80 tw_370) rfl rfl rfl (by decide +kernel) ⟨Nat.le_of_ble_eq_true rfl, Nat.le_of_ble_eq_true rfl⟩) (pV hS hAlo hlo hP hK (va_Dlo hD hAlo) hZ [0] (by decide) rfl (ci := 6) (q := (RX6, TX6, 6)) (q0 := 0) rfl rfl) rfl rfl hl.1 rfl (lv_room (Nat.le_of_ble_eq_true rfl)) dX6_needNumber_195 ⟨Nat.le_of_ble_eq_true rfl, Nat.le_of_ble_eq_true rfl⟩) hS hA hP (fun r_43 H locs hw_43 hP hS => ?_)
                  try dsimp only at hw_43
                  obtain rfl : r_43 = 0 := by rcases hw_43 with ⟨h, h2⟩ | ⟨h, h2⟩ <;> first | exact h | exact absurd rfl h2 | exact absurd h2 (by decide)
                  refine lv_if_eq (tgt := 205) hx hb dX6_needNumber_198 (by decide) (fun _ => ?_) (fun h => absurd (by decide) h)
                  refine lv_iload hx hb dX6_needNumber_205 (lv_at hl 0 rfl) ?_
                  have hP9 := hP.sub (ws' := [(x0, .inr (6, (fX6 x1 (nI tz) (nI t2_4) (nI ta__2) 0 fb))), (aB k x1 240 fx)]) [0, 1] rfl
                  have hD9 := hD.sub (ws' := [(x0, .inr (6, (fX6 x1 (nI tz) (nI t2_4) (nI ta__2) 0 fb))), (aB k x1 240 fx)]) [0, 1] (by decide) rfl
                  exact W.iret (v := va_4) hx hb hr (fun t ht hW => ⟨⟨va_4, (t2_4, (nI ta__2), 0, fb), rfl, ⟨fun h => absurd rfl h, fun _ => ⟨0, _, rfl, .inl ⟨rfl, (nuR_A c_3 hw_2.1).trans (nuS_0 hle_32 (by omega) (vS_f hve_32) (by omega) ⟨Int32.not_lt.mp c_38, c_42⟩)⟩⟩, by omega, by omega, ⟨Int32.not_lt.mp c_38, c_42⟩⟩, by rw [ht]; exact hP9, hD9⟩, hS.F ht⟩) hS.2.2 dX6_needNumber_207
                · refine lv_aload_n hx hb dX6_needNumber_185 rfl (lv_at hl 3 rfl) ?_
                  refine lv_iconst (v := 2) hx hb dX6_needNumber_186 (by decide) ?_
                  refine lv_aload_n hx hb dX6_needNumber_187 rfl (lv_at hl 3 rfl) ?_
                  refine va_get (D := D) (ci := 6) (v := .int (nI ta__2)) (C := RX6) (T := TX6) (N := 6) hx hb hts inX6 hown hK hP 0 rfl rfl 3 (by decide) (hts _ tw_116) (fun _ h9 => h9) rfl dX6_needNumber_188 ?_
                  refine rw_v (D := D) (wr := [(aB k x1 240 fx)]) (va_runV (As := [.int 2, .int (nI ta__2)]) (rest := []) ⟨hx, hb, hml, hown, hts⟩ ((y_fail l D k st lo x0 x1 tz t2_4 (nI ta__2) 0 fb 2 (nI ta__2) (by decide)) H.size) (cwV 2 hts (gV tw_476 tw_456 tw_457 tw_80 tw_458) rfl rfl rfl (by decide +kernel) ⟨Nat.le_of_ble_eq_true rfl, Nat.le_of_ble_eq_true rfl⟩) (pV hS hAlo hlo hP hK (va_Dlo hD hAlo) hZ [0] (by decide) rfl (ci := 6) (q := (RX6, TX6, 6)) (q0 := 0) rfl rfl) rfl rfl hl.1 rfl (lv_room (Nat.le_of_ble_eq_true rfl)) dX6_needNumber_191 ⟨Nat.le_of_ble_eq_true rfl, Nat.le_of_ble_eq_true rfl⟩) hS hA hP hD [0] [1] rfl rfl (by decide) (by decide) (fun u H locs hw_44 hP hD hS => ?_)
                  obtain ⟨fn__44, fb__44⟩ := u
                  replace hP : va_P D classes [(aB k x1 240 fx), (x0, .inr (6, (fX6 x1 (nI tz) (nI t2_4) (nI ta__2) fn__44 fb__44)))] H := hP
                  replace hD : va_D A [(aB k x1 240 fx), (x0, .inr (6, (fX6 x1 (nI tz) (nI t2_4) (nI ta__2) fn__44 fb__44)))] := hD
                  try dsimp only at hw_44
                  obtain ⟨hs0_45, hs1_45⟩ := hw_44.2.1 rfl
                  replace hs0_45 := hs0_45.symm
                  subst hs0_45
                  replace hs1_45 := hs1_45.symm
                  subst hs1_45
                  refine lv_aload_n hx hb dX6_needNumber_194 rfl (lv_at hl 3 rfl) ?_
                  refine ro_i (D := D) (va_runV (As := []) (rest := []) ⟨hx, hb, hml, hown, hts⟩ ((x_failed l D k st lo x0 x1 tz t2_4 (nI ta__2) 2 (nI ta__2)) H.size) (cwV 0 hts (gV tw_471 tw_368 tw_369 tw_80 tw_370) rfl rfl rfl (by decide +kernel) ⟨Nat.le_of_ble_eq_true rfl, Nat.le_of_ble_eq_true rfl⟩) (pV hS hAlo hlo hP hK (va_Dlo hD hAlo) hZ [1] (by decide) rfl (ci := 6) (q := (RX6, TX6, 6)) (q0 := 0) rfl rfl) rfl rfl hl.1 rfl (lv_room (Nat.le_of_ble_eq_true rfl)) dX6_needNumber_195 ⟨Nat.le_of_ble_eq_true rfl, Nat.le_of_ble_eq_true rfl⟩) hS hA hP (fun r_46 H locs hw_46 hP hS => ?_)
                  try dsimp only at hw_46
                  obtain rfl : r_46 = 1 := by rcases hw_46 with ⟨h, h2⟩ | ⟨h, h2⟩ <;> first | exact h | exact absurd rfl h2 | exact absurd h2 (by decide)
                  refine lv_if_eq (tgt := 205) hx hb dX6_needNumber_198 (by decide) (fun h => absurd h (by decide)) (fun _ => ?_)
                  refine lv_iload_n hx hb dX6_needNumber_201 rfl (lv_at hl 4 rfl) ?_
                  refine lv_goto (tgt := 207) hx hb dX6_needNumber_202 (by decide) ?_
                  have hP9 := hP.sub (ws' := [(x0, .inr (6, (fX6 x1 (nI tz) (nI t2_4) (nI ta__2) 2 (nI ta__2)))), (aB k x1 240 fx)]) [1, 0] rfl
                  have hD9 := hD.sub (ws' := [(x0, .inr (6, (fX6 x1 (nI tz) (nI t2_4) (nI ta__2) 2 (nI ta__2)))), (aB k x1 240 fx)]) [1, 0] (by decide) rfl
                  exact W.iret (v := p0) hx hb hr (fun t ht hW => ⟨⟨p0, (t2_4, (nI ta__2), 2, (nI ta__2)), rfl, ⟨fun h => absurd rfl h, fun _ => ⟨_, _, rfl, .inr (.inr ⟨rfl, rfl, rfl, (nuR_A c_3 hw_2.1).trans (nuS_2 hle_32 (by omega) (vS_f hve_32) (.inr (fun h => absurd h.2 c_42)))⟩)⟩, by omega, by omega, ⟨Int32.le_refl _, hle⟩⟩, by rw [ht]; exact hP9, hD9⟩, hS.F ht⟩) hS.2.2 dX6_needNumber_207
          · have c_33 := (nI_eq (a := t2_4) (b := ta__2) (by omega) (by omega)).mp c_33
            refine lv_aload_n hx hb dX6_needNumber_150 rfl (lv_at hl 3 rfl) ?_
            refine lv_iconst (v := 1) hx hb dX6_needNumber_151 (by decide) ?_
            refine lv_aload_n hx hb dX6_needNumber_152 rfl (lv_at hl 3 rfl) ?_
            refine va_get (D := D) (ci := 6) (v := .int (nI t2_4)) (C := RX6) (T := TX6) (N := 6) hx hb hts inX6 hown hK hP 0 rfl rfl 2 (by decide) (hts _ tw_113) (fun _ h9 => h9) rfl dX6_needNumber_153 ?_
            refine rw_v (D := D) (wr := [(aB k x1 240 fx)]) (va_runV (As := [.int 1, .int (nI t2_4)]) (rest := []) ⟨hx, hb, hml, hown, hts⟩ ((y_fail l D k st lo x0 x1 tz t2_4 (nI ta__2) 0 fb 1 (nI t2_4) (by decide)) H.size) (cwV 2 hts (gV tw_476 tw_456 tw_457 tw_80 tw_458) rfl rfl rfl (by decide +kernel) ⟨Nat.le_of_ble_eq_true rfl, Nat.le_of_ble_eq_true rfl⟩) (pV hS hAlo hlo hP hK (va_Dlo hD hAlo) hZ [0] (by decide) rfl (ci := 6) (q := (RX6, TX6, 6)) (q0 := 0) rfl rfl) rfl rfl hl.1 rfl (lv_room (Nat.le_of_ble_eq_true rfl)) dX6_needNumber_156 ⟨Nat.le_of_ble_eq_true rfl, Nat.le_of_ble_eq_true rfl⟩) hS hA hP hD [0] [1] rfl rfl (by decide) (by decide) (fun u H locs hw_47 hP hD hS => ?_)
            obtain ⟨fn__47, fb__47⟩ := u
            replace hP : va_P D classes [(aB k x1 240 fx), (x0, .inr (6, (fX6 x1 (nI tz) (nI t2_4) (nI ta__2) fn__47 fb__47)))] H := hP
            replace hD : va_D A [(aB k x1 240 fx), (x0, .inr (6, (fX6 x1 (nI tz) (nI t2_4) (nI ta__2) fn__47 fb__47)))] := hD
            try dsimp only at hw_47
            obtain ⟨hs0_48, hs1_48⟩ := hw_47.2.1 rfl
            replace hs0_48 := hs0_48.symm
            subst hs0_48
            replace hs1_48 := hs1_48.symm
            subst hs1_48
            refine lv_goto (tgt := 194) hx hb dX6_needNumber_159 (by decide) ?_
            refine lv_aload_n hx hb dX6_needNumber_194 rfl (lv_at hl 3 rfl) ?_
            refine ro_i (D := D) (va_runV (As := []) (rest := []) ⟨hx, hb, hml, hown, hts⟩ ((x_failed l D k st lo x0 x1 tz t2_4 (nI ta__2) 1 (nI t2_4)) H.size) (cwV 0 hts (gV tw_471 tw_368 tw_369 tw_80 tw_370) rfl rfl rfl (by decide +kernel) ⟨Nat.le_of_ble_eq_true rfl, Nat.le_of_ble_eq_true rfl⟩) (pV hS hAlo hlo hP hK (va_Dlo hD hAlo) hZ [1] (by decide) rfl (ci := 6) (q := (RX6, TX6, 6)) (q0 := 0) rfl rfl) rfl rfl hl.1 rfl (lv_room (Nat.le_of_ble_eq_true rfl)) dX6_needNumber_195 ⟨Nat.le_of_ble_eq_true rfl, Nat.le_of_ble_eq_true rfl⟩) hS hA hP (fun r_49 H locs hw_49 hP hS => ?_)
            try dsimp only at hw_49
            obtain rfl : r_49 = 1 := by rcases hw_49 with ⟨h, h2⟩ | ⟨h, h2⟩ <;> first | exact h | exact absurd rfl h2 | exact absurd h2 (by decide)
            refine lv_if_eq (tgt := 205) hx hb dX6_needNumber_198 (by decide) (fun h => absurd h (by decide)) (fun _ => ?_)
            refine lv_iload_n hx hb dX6_needNumber_201 rfl (lv_at hl 4 rfl) ?_
            refine lv_goto (tgt := 207) hx hb dX6_needNumber_202 (by decide) ?_
            have hP9 := hP.sub (ws' := [(x0, .inr (6, (fX6 x1 (nI tz) (nI t2_4) (nI ta__2) 1 (nI t2_4)))), (aB k x1 240 fx)]) [1, 0] rfl
            have hD9 := hD.sub (ws' := [(x0, .inr (6, (fX6 x1 (nI tz) (nI t2_4) (nI ta__2) 1 (nI t2_4)))), (aB k x1 240 fx)]) [1, 0] (by decide) rfl
            exact W.iret (v := p0) hx hb hr (fun t ht hW => ⟨⟨p0, (t2_4, (nI ta__2), 1, (nI t2_4)), rfl, ⟨fun h => absurd rfl h, fun _ => ⟨_, _, rfl, .inr (.inl ⟨rfl, rfl, rfl, (nuR_A c_3 hw_2.1).trans (nuS_1t hle_32 (by omega))⟩)⟩, by omega, by omega, ⟨Int32.le_refl _, hle⟩⟩, by rw [ht]; exact hP9, hD9⟩, hS.F ht⟩) hS.2.2 dX6_needNumber_207
    · refine lv_aload_n hx hb dX6_needNumber_25 rfl (lv_at hl 0 rfl) ?_
      refine lv_aload_n hx hb dX6_needNumber_26 rfl (lv_at hl 0 rfl) ?_
      refine va_get (D := D) (ci := 6) (v := .int (nI ta__2)) (C := RX6) (T := TX6) (N := 6) hx hb hts inX6 hown hK hP 0 rfl rfl 2 (by decide) (hts _ tw_113) (fun _ h9 => h9) rfl dX6_needNumber_27 ?_
      refine ro_i (D := D) (va_runV (As := [.int (nI ta__2)]) (rest := []) ⟨hx, hb, hml, hown, hts⟩ ((y_byteAt l D k st lo x0 x1 tz ta__2 (nI ta__2) 0 fb fx ta__2 (by first | assumption | omega) (by first | assumption | omega)) H.size) (cwV 1 hts (gV tw_379 tw_380 tw_381 tw_80 tw_382) rfl rfl rfl (by decide +kernel) ⟨Nat.le_of_ble_eq_true rfl, Nat.le_of_ble_eq_true rfl⟩) (pV hS hAlo hlo hP hK (va_Dlo hD hAlo) hZ [0, 1] (by decide) rfl (ci := 6) (q := (RX6, TX6, 6)) (q0 := 0) rfl rfl) rfl rfl hl.1 rfl (lv_room (Nat.le_of_ble_eq_true rfl)) dX6_needNumber_30 ⟨Nat.le_of_ble_eq_true rfl, Nat.le_of_ble_eq_true rfl⟩) hS hA hP (fun r_50 H locs hw_50 hP hS => ?_)
      try dsimp only at hw_50
      refine lv_bipush (v := 45) hx hb dX6_needNumber_33 (by decide) ?_
      refine lv_icmp_ne (tgt := 42) hx hb dX6_needNumber_35 (by decide) (fun c_51 => ?_) (fun c_51 => ?_)
      · refine lv_iconst (v := 0) hx hb dX6_needNumber_42 (by decide) ?_
        refine lv_istore_n (lv' := [(3, .int 0), (0, .ref x0), (1, .int p0), (2, .int p1)]) hx hb dX6_needNumber_43 rfl hl (by decide) rfl (fun ls hl => ?_)
        refine lv_iload_n hx hb dX6_needNumber_44 rfl (lv_at hl 0 rfl) ?_
        refine lv_if_eq (tgt := 58) hx hb dX6_needNumber_45 (by decide) (fun _ => ?_) (fun h => absurd (by decide) h)
        refine lv_aload_n hx hb dX6_needNumber_58 rfl (lv_at hl 1 rfl) ?_
        refine va_get (D := D) (ci := 6) (v := .int (nI ta__2)) (C := RX6) (T := TX6) (N := 6) hx hb hts inX6 hown hK hP 0 rfl rfl 2 (by decide) (hts _ tw_113) (fun _ h9 => h9) rfl dX6_needNumber_59 ?_
        refine lv_istore (lv' := [(4, .int (nI ta__2)), (3, .int 0), (0, .ref x0), (1, .int p0), (2, .int p1)]) hx hb dX6_needNumber_62 hl (by decide) rfl (fun ls hl => ?_)
        refine lv_iconst (v := 0) hx hb dX6_needNumber_64 (by decide) ?_
        refine lv_istore (lv' := [(5, .int 0), (4, .int (nI ta__2)), (3, .int 0), (0, .ref x0), (1, .int p0), (2, .int p1)]) hx hb dX6_needNumber_65 hl (by decide) rfl (fun ls hl => ?_)
        refine W_loop (σ := Nat × Int32) (fun (n_ : Nat) (x_ : Nat × Int32) (H : Heap) (locs : List Loc) (ls : Array Slot) => match x_ with | (t2_52, va_52) => n_ = tz - t2_52 ∧ (ta__2 ≤ t2_52 ∧ t2_52 ≤ tz ∧ ta__2 + (figA (bF fx) tz (ta__2)).length = t2_52 + (figA (bF fx) tz t2_52).length ∧ vXk (t2_52 - (ta__2)) va_52 (figA (bF fx) tz t2_52) = vX (figA (bF fx) tz (ta__2))) ∧ va_P D classes [(x0, .inr (6, (fX6 x1 (nI tz) (nI t2_52) (nI ta__2) 0 fb))), (aB k x1 240 fx)] H ∧ va_D A [(x0, .inr (6, (fX6 x1 (nI tz) (nI t2_52) (nI ta__2) 0 fb))), (aB k x1 240 fx)] ∧ va_S A s.heap H locs ∧ lv_has ls 6 [(5, .int va_52), (4, .int (nI ta__2)), (3, .int 0), (0, .ref x0), (1, .int p0), (2, .int p1)]) (fun n_52 x_52 H locs ls hI ih_52 => ?_) _ (ta__2, 0) ⟨rfl, ⟨by omega, by omega, rfl, by rw [Nat.sub_self]; rfl⟩, hP, hD, hS, (lv_sub hl [0, 1, 2, 3, 4, 5] rfl)⟩
        obtain ⟨t2_52, va_52⟩ := x_52
        obtain ⟨hm_52, hv_52, hP, hD, hS, hl⟩ := hI
        subst hm_52
        refine lv_aload_n hx hb dX6_needNumber_67 rfl (lv_at hl 3 rfl) ?_
        refine va_get (D := D) (ci := 6) (v := .int (nI t2_52)) (C := RX6) (T := TX6) (N := 6) hx hb hts inX6 hown hK hP 0 rfl rfl 2 (by decide) (hts _ tw_113) (fun _ h9 => h9) rfl dX6_needNumber_68 ?_
        refine lv_aload_n hx hb dX6_needNumber_71 rfl (lv_at hl 3 rfl) ?_
        refine va_get (D := D) (ci := 6) (v := .int (nI tz)) (C := RX6) (T := TX6) (N := 6) hx hb hts inX6 hown hK hP 0 rfl rfl 1 (by decide) (hts _ tw_110) (fun _ h9 => h9) rfl dX6_needNumber_72 ?_
        refine lv_icmp_ge (tgt := 132) hx hb dX6_needNumber_75 (by decide) (fun c_53 => ?_) (fun c_53 => ?_)
        · have c_53 := (nI_leI (a := tz) (b := t2_52) (by omega) (by omega)).mp c_53
          obtain ⟨hle_54, hve_54⟩ := nn_out (figA_end (by omega)) hv_52.2.2.1 hv_52.2.2.2
          refine lv_iload_n hx hb dX6_needNumber_132 rfl (lv_at hl 2 rfl) ?_
          refine lv_if_eq (tgt := 141) hx hb dX6_needNumber_133 (by decide) (fun _ => ?_) (fun h => absurd (by decide) h)
          refine lv_aload_n hx hb dX6_needNumber_141 rfl (lv_at hl 3 rfl) ?_
          refine va_get (D := D) (ci := 6) (v := .int (nI t2_52)) (C := RX6) (T := TX6) (N := 6) hx hb hts inX6 hown hK hP 0 rfl rfl 2 (by decide) (hts _ tw_113) (fun _ h9 => h9) rfl dX6_needNumber_142 ?_
          refine lv_iload hx hb dX6_needNumber_145 (lv_at hl 1 rfl) ?_
          refine lv_icmp_ne (tgt := 162) hx hb dX6_needNumber_147 (by decide) (fun c_55 => ?_) (fun c_55 => ?_)
          · have c_55 : ¬ (t2_52 = ta__2) := fun h => c_55 ((nI_eq (a := t2_52) (b := ta__2) (by omega) (by omega)).mpr h)
            refine lv_aload_n hx hb dX6_needNumber_162 rfl (lv_at hl 3 rfl) ?_
            refine va_get (D := D) (ci := 6) (v := .int (nI t2_52)) (C := RX6) (T := TX6) (N := 6) hx hb hts inX6 hown hK hP 0 rfl rfl 2 (by decide) (hts _ tw_113) (fun _ h9 => h9) rfl dX6_needNumber_163 ?_
            refine lv_iload hx hb dX6_needNumber_166 (lv_at hl 1 rfl) ?_
            refine lv_isub hx hb dX6_needNumber_168 ?_
            refine lv_ti (y := (nI (t2_52 - ta__2))) (pk_sub (a := t2_52) (b := ta__2) (by omega)) ?_
            refine lv_iconst (v := 3) hx hb dX6_needNumber_169 (by decide) ?_
            refine lv_icmp_gt (tgt := 185) hx hb dX6_needNumber_170 (by decide) (fun c_56 => ?_) (fun c_56 => ?_)
            · have c_56 := (nI_ltI (a := 3) (b := (t2_52 - ta__2)) (by omega) (by omega)).mp c_56
              refine lv_aload_n hx hb dX6_needNumber_185 rfl (lv_at hl 3 rfl) ?_
              refine lv_iconst (v := 2) hx hb dX6_needNumber_186 (by decide) ?_
              refine lv_aload_n hx hb dX6_needNumber_187 rfl (lv_at hl 3 rfl) ?_
              refine va_get (D := D) (ci := 6) (v := .int (nI ta__2)) (C := RX6) (T := TX6) (N := 6) hx hb hts inX6 hown hK hP 0 rfl rfl 3 (by decide) (hts _ tw_116) (fun _ h9 => h9) rfl dX6_needNumber_188 ?_
              refine rw_v (D := D) (wr := [(aB k x1 240 fx)]) (va_runV (As := [.int 2, .int (nI ta__2)]) (rest := []) ⟨hx, hb, hml, hown, hts⟩ ((y_fail l D k st lo x0 x1 tz t2_52 (nI ta__2) 0 fb 2 (nI ta__2) (by decide)) H.size) (cwV 2 hts (gV tw_476 tw_456 tw_457 tw_80 tw_458) rfl rfl rfl (by decide +kernel) ⟨Nat.le_of_ble_eq_true rfl, Nat.le_of_ble_eq_true rfl⟩) (pV hS hAlo hlo hP hK (va_Dlo hD hAlo) hZ [0] (by decide) rfl (ci := 6) (q := (RX6, TX6, 6)) (q0 := 0) rfl rfl) rfl rfl hl.1 rfl (lv_room (Nat.le_of_ble_eq_true rfl)) dX6_needNumber_191 ⟨Nat.le_of_ble_eq_true rfl, Nat.le_of_ble_eq_true rfl⟩) hS hA hP hD [0] [1] rfl rfl (by decide) (by decide) (fun u H locs hw_57 hP hD hS => ?_)
              obtain ⟨fn__57, fb__57⟩ := u
              replace hP : va_P D classes [(aB k x1 240 fx), (x0, .inr (6, (fX6 x1 (nI tz) (nI t2_52) (nI ta__2) fn__57 fb__57)))] H := hP
              replace hD : va_D A [(aB k x1 240 fx), (x0, .inr (6, (fX6 x1 (nI tz) (nI t2_52) (nI ta__2) fn__57 fb__57)))] := hD
              try dsimp only at hw_57
              obtain ⟨hs0_58, hs1_58⟩ := hw_57.2.1 rfl
              replace hs0_58 := hs0_58.symm
              subst hs0_58
              replace hs1_58 := hs1_58.symm
              subst hs1_58
              refine lv_aload_n hx hb dX6_needNumber_194 rfl (lv_at hl 3 rfl) ?_
              refine ro_i (D := D) (va_runV (As := []) (rest := []) ⟨hx, hb, hml, hown, hts⟩ ((x_failed l D k st lo x0 x1 tz t2_52 (nI ta__2) 2 (nI ta__2)) H.size) (cwV 0 hts (gV tw_471 tw_368 tw_369 tw_80 tw_370) rfl rfl rfl (by decide +kernel) ⟨Nat.le_of_ble_eq_true rfl, Nat.le_of_ble_eq_true rfl⟩) (pV hS hAlo hlo hP hK (va_Dlo hD hAlo) hZ [1] (by decide) rfl (ci := 6) (q := (RX6, TX6, 6)) (q0 := 0) rfl rfl) rfl rfl hl.1 rfl (lv_room (Nat.le_of_ble_eq_true rfl)) dX6_needNumber_195 ⟨Nat.le_of_ble_eq_true rfl, Nat.le_of_ble_eq_true rfl⟩) hS hA hP (fun r_59 H locs hw_59 hP hS => ?_)
              try dsimp only at hw_59
              obtain rfl : r_59 = 1 := by rcases hw_59 with ⟨h, h2⟩ | ⟨h, h2⟩ <;> first | exact h | exact absurd rfl h2 | exact absurd h2 (by decide)
              refine lv_if_eq (tgt := 205) hx hb dX6_needNumber_198 (by decide) (fun h => absurd h (by decide)) (fun _ => ?_)
              refine lv_iload_n hx hb dX6_needNumber_201 rfl (lv_at hl 4 rfl) ?_
              refine lv_goto (tgt := 207) hx hb dX6_needNumber_202 (by decide) ?_
              have hP9 := hP.sub (ws' := [(x0, .inr (6, (fX6 x1 (nI tz) (nI t2_52) (nI ta__2) 2 (nI ta__2)))), (aB k x1 240 fx)]) [1, 0] rfl
              have hD9 := hD.sub (ws' := [(x0, .inr (6, (fX6 x1 (nI tz) (nI t2_52) (nI ta__2) 2 (nI ta__2)))), (aB k x1 240 fx)]) [1, 0] (by decide) rfl
              exact W.iret (v := p0) hx hb hr (fun t ht hW => ⟨⟨p0, (t2_52, (nI ta__2), 2, (nI ta__2)), rfl, ⟨fun h => absurd rfl h, fun _ => ⟨_, _, rfl, .inr (.inr ⟨rfl, rfl, rfl, (nuR_B hw_50 c_51 hw_2.1).trans (nuS_2 hle_54 (by omega) (vS_f hve_54) (.inl (by omega)))⟩)⟩, by omega, by omega, ⟨Int32.le_refl _, hle⟩⟩, by rw [ht]; exact hP9, hD9⟩, hS.F ht⟩) hS.2.2 dX6_needNumber_207
            · have c_56 : ¬ (3 < (t2_52 - ta__2)) := fun h => c_56 ((nI_ltI (a := 3) (b := (t2_52 - ta__2)) (by omega) (by omega)).mpr h)
              refine lv_iload hx hb dX6_needNumber_173 (lv_at hl 0 rfl) ?_
              refine lv_iload_n hx hb dX6_needNumber_175 rfl (lv_at hl 4 rfl) ?_
              refine lv_icmp_lt (tgt := 185) hx hb dX6_needNumber_176 (by decide) (fun c_60 => ?_) (fun c_60 => ?_)
              · refine lv_aload_n hx hb dX6_needNumber_185 rfl (lv_at hl 3 rfl) ?_
                refine lv_iconst (v := 2) hx hb dX6_needNumber_186 (by decide) ?_
                refine lv_aload_n hx hb dX6_needNumber_187 rfl (lv_at hl 3 rfl) ?_
                refine va_get (D := D) (ci := 6) (v := .int (nI ta__2)) (C := RX6) (T := TX6) (N := 6) hx hb hts inX6 hown hK hP 0 rfl rfl 3 (by decide) (hts _ tw_116) (fun _ h9 => h9) rfl dX6_needNumber_188 ?_
                refine rw_v (D := D) (wr := [(aB k x1 240 fx)]) (va_runV (As := [.int 2, .int (nI ta__2)]) (rest := []) ⟨hx, hb, hml, hown, hts⟩ ((y_fail l D k st lo x0 x1 tz t2_52 (nI ta__2) 0 fb 2 (nI ta__2) (by decide)) H.size) (cwV 2 hts (gV tw_476 tw_456 tw_457 tw_80 tw_458) rfl rfl rfl (by decide +kernel) ⟨Nat.le_of_ble_eq_true rfl, Nat.le_of_ble_eq_true rfl⟩) (pV hS hAlo hlo hP hK (va_Dlo hD hAlo) hZ [0] (by decide) rfl (ci := 6) (q := (RX6, TX6, 6)) (q0 := 0) rfl rfl) rfl rfl hl.1 rfl (lv_room (Nat.le_of_ble_eq_true rfl)) dX6_needNumber_191 ⟨Nat.le_of_ble_eq_true rfl, Nat.le_of_ble_eq_true rfl⟩) hS hA hP hD [0] [1] rfl rfl (by decide) (by decide) (fun u H locs hw_61 hP hD hS => ?_)
                obtain ⟨fn__61, fb__61⟩ := u
                replace hP : va_P D classes [(aB k x1 240 fx), (x0, .inr (6, (fX6 x1 (nI tz) (nI t2_52) (nI ta__2) fn__61 fb__61)))] H := hP
                replace hD : va_D A [(aB k x1 240 fx), (x0, .inr (6, (fX6 x1 (nI tz) (nI t2_52) (nI ta__2) fn__61 fb__61)))] := hD
                try dsimp only at hw_61
                obtain ⟨hs0_62, hs1_62⟩ := hw_61.2.1 rfl
                replace hs0_62 := hs0_62.symm
                subst hs0_62
                replace hs1_62 := hs1_62.symm
                subst hs1_62
                refine lv_aload_n hx hb dX6_needNumber_194 rfl (lv_at hl 3 rfl) ?_
                refine ro_i (D := D) (va_runV (As := []) (rest := []) ⟨hx, hb, hml, hown, hts⟩ ((x_failed l D k st lo x0 x1 tz t2_52 (nI ta__2) 2 (nI ta__2)) H.size) (cwV 0 hts (gV tw_471 tw_368 tw_369 tw_80 tw_370) rfl rfl rfl (by decide +kernel) ⟨Nat.le_of_ble_eq_true rfl, Nat.le_of_ble_eq_true rfl⟩) (pV hS hAlo hlo hP hK (va_Dlo hD hAlo) hZ [1] (by decide) rfl (ci := 6) (q := (RX6, TX6, 6)) (q0 := 0) rfl rfl) rfl rfl hl.1 rfl (lv_room (Nat.le_of_ble_eq_true rfl)) dX6_needNumber_195 ⟨Nat.le_of_ble_eq_true rfl, Nat.le_of_ble_eq_true rfl⟩) hS hA hP (fun r_63 H locs hw_63 hP hS => ?_)
                try dsimp only at hw_63
                obtain rfl : r_63 = 1 := by rcases hw_63 with ⟨h, h2⟩ | ⟨h, h2⟩ <;> first | exact h | exact absurd rfl h2 | exact absurd h2 (by decide)
                refine lv_if_eq (tgt := 205) hx hb dX6_needNumber_198 (by decide) (fun h => absurd h (by decide)) (fun _ => ?_)
                refine lv_iload_n hx hb dX6_needNumber_201 rfl (lv_at hl 4 rfl) ?_
                refine lv_goto (tgt := 207) hx hb dX6_needNumber_202 (by decide) ?_
                have hP9 := hP.sub (ws' := [(x0, .inr (6, (fX6 x1 (nI tz) (nI t2_52) (nI ta__2) 2 (nI ta__2)))), (aB k x1 240 fx)]) [1, 0] rfl
                have hD9 := hD.sub (ws' := [(x0, .inr (6, (fX6 x1 (nI tz) (nI t2_52) (nI ta__2) 2 (nI ta__2)))), (aB k x1 240 fx)]) [1, 0] (by decide) rfl
                exact W.iret (v := p0) hx hb hr (fun t ht hW => ⟨⟨p0, (t2_52, (nI ta__2), 2, (nI ta__2)), rfl, ⟨fun h => absurd rfl h, fun _ => ⟨_, _, rfl, .inr (.inr ⟨rfl, rfl, rfl, (nuR_B hw_50 c_51 hw_2.1).trans (nuS_2 hle_54 (by omega) (vS_f hve_54) (.inr (fun h => absurd h.1 (Int32.not_le.mpr c_60))))⟩)⟩, by omega, by omega, ⟨Int32.le_refl _, hle⟩⟩, by rw [ht]; exact hP9, hD9⟩, hS.F ht⟩) hS.2.2 dX6_needNumber_207
              · refine lv_iload hx hb dX6_needNumber_179 (lv_at hl 0 rfl) ?_
                refine lv_iload_n hx hb dX6_needNumber_181 rfl (lv_at hl 5 rfl) ?_
                refine lv_icmp_le (tgt := 194) hx hb dX6_needNumber_182 (by decide) (fun c_64 => ?_) (fun c_64 => ?_)
                · refine lv_aload_n hx hb dX6_needNumber_194 rfl (lv_at hl 3 rfl) ?_
                  refine ro_i (D := D) (va_runV (As := []) (rest := []) ⟨hx, hb, hml, hown, hts⟩ ((x_failed l D k st lo x0 x1 tz t2_52 (nI ta__2) 0 fb) H.size) (cwV 0 hts (gV tw_471 tw_368 tw_369 tw_80 tw_370) rfl rfl rfl (by decide +kernel) ⟨Nat.le_of_ble_eq_true rfl, Nat.le_of_ble_eq_true rfl⟩) (pV hS hAlo hlo hP hK (va_Dlo hD hAlo) hZ [0] (by decide) rfl (ci := 6) (q := (RX6, TX6, 6)) (q0 := 0) rfl rfl) rfl rfl hl.1 rfl (lv_room (Nat.le_of_ble_eq_true rfl)) dX6_needNumber_195 ⟨Nat.le_of_ble_eq_true rfl, Nat.le_of_ble_eq_true rfl⟩) hS hA hP (fun r_65 H locs hw_65 hP hS => ?_)
                  try dsimp only at hw_65
                  obtain rfl : r_65 = 0 := by rcases hw_65 with ⟨h, h2⟩ | ⟨h, h2⟩ <;> first | exact h | exact absurd rfl h2 | exact absurd h2 (by decide)
                  refine lv_if_eq (tgt := 205) hx hb dX6_needNumber_198 (by decide) (fun _ => ?_) (fun h => absurd (by decide) h)
                  refine lv_iload hx hb dX6_needNumber_205 (lv_at hl 0 rfl) ?_
                  have hP9 := hP.sub (ws' := [(x0, .inr (6, (fX6 x1 (nI tz) (nI t2_52) (nI ta__2) 0 fb))), (aB k x1 240 fx)]) [0, 1] rfl
                  have hD9 := hD.sub (ws' := [(x0, .inr (6, (fX6 x1 (nI tz) (nI t2_52) (nI ta__2) 0 fb))), (aB k x1 240 fx)]) [0, 1] (by decide) rfl
                  exact W.iret (v := va_52) hx hb hr (fun t ht hW => ⟨⟨va_52, (t2_52, (nI ta__2), 0, fb), rfl, ⟨fun h => absurd rfl h, fun _ => ⟨0, _, rfl, .inl ⟨rfl, (nuR_B hw_50 c_51 hw_2.1).trans (nuS_0 hle_54 (by omega) (vS_f hve_54) (by omega) ⟨Int32.not_lt.mp c_60, c_64⟩)⟩⟩, by omega, by omega, ⟨Int32.not_lt.mp c_60, c_64⟩⟩, by rw [ht]; exact hP9, hD9⟩, hS.F ht⟩) hS.2.2 dX6_needNumber_207
                · refine lv_aload_n hx hb dX6_needNumber_185 rfl (lv_at hl 3 rfl) ?_
                  refine lv_iconst (v := 2) hx hb dX6_needNumber_186 (by decide) ?_
                  refine lv_aload_n hx hb dX6_needNumber_187 rfl (lv_at hl 3 rfl) ?_
                  refine va_get (D := D) (ci := 6) (v := .int (nI ta__2)) (C := RX6) (T := TX6) (N := 6) hx hb hts inX6 hown hK hP 0 rfl rfl 3 (by decide) (hts _ tw_116) (fun _ h9 => h9) rfl dX6_needNumber_188 ?_
                  refine rw_v (D := D) (wr := [(aB k x1 240 fx)]) (va_runV (As := [.int 2, .int (nI ta__2)]) (rest := []) ⟨hx, hb, hml, hown, hts⟩ ((y_fail l D k st lo x0 x1 tz t2_52 (nI ta__2) 0 fb 2 (nI ta__2) (by decide)) H.size) (cwV 2 hts (gV tw_476 tw_456 tw_457 tw_80 tw_458) rfl rfl rfl (by decide +kernel) ⟨Nat.le_of_ble_eq_true rfl, Nat.le_of_ble_eq_true rfl⟩) (pV hS hAlo hlo hP hK (va_Dlo hD hAlo) hZ [0] (by decide) rfl (ci := 6) (q := (RX6, TX6, 6)) (q0 := 0) rfl rfl) rfl rfl hl.1 rfl (lv_room (Nat.le_of_ble_eq_true rfl)) dX6_needNumber_191 ⟨Nat.le_of_ble_eq_true rfl, Nat.le_of_ble_eq_true rfl⟩) hS hA hP hD [0] [1] rfl rfl (by decide) (by decide) (fun u H locs hw_66 hP hD hS => ?_)
                  obtain ⟨fn__66, fb__66⟩ := u
                  replace hP : va_P D classes [(aB k x1 240 fx), (x0, .inr (6, (fX6 x1 (nI tz) (nI t2_52) (nI ta__2) fn__66 fb__66)))] H := hP
                  replace hD : va_D A [(aB k x1 240 fx), (x0, .inr (6, (fX6 x1 (nI tz) (nI t2_52) (nI ta__2) fn__66 fb__66)))] := hD
                  try dsimp only at hw_66
                  obtain ⟨hs0_67, hs1_67⟩ := hw_66.2.1 rfl
                  replace hs0_67 := hs0_67.symm
                  subst hs0_67
                  replace hs1_67 := hs1_67.symm
                  subst hs1_67
                  refine lv_aload_n hx hb dX6_needNumber_194 rfl (lv_at hl 3 rfl) ?_
                  refine ro_i (D := D) (va_runV (As := []) (rest := []) ⟨hx, hb, hml, hown, hts⟩ ((x_failed l D k st lo x0 x1 tz t2_52 (nI ta__2) 2 (nI ta__2)) H.size) (cwV 0 hts (gV tw_471 tw_368 tw_369 tw_80 tw_370) rfl rfl rfl (by decide +kernel) ⟨Nat.le_of_ble_eq_true rfl, Nat.le_of_ble_eq_true rfl⟩) (pV hS hAlo hlo hP hK (va_Dlo hD hAlo) hZ [1] (by decide) rfl (ci := 6) (q := (RX6, TX6, 6)) (q0 := 0) rfl rfl) rfl rfl hl.1 rfl (lv_room (Nat.le_of_ble_eq_true rfl)) dX6_needNumber_195 ⟨Nat.le_of_ble_eq_true rfl, Nat.le_of_ble_eq_true rfl⟩) hS hA hP (fun r_68 H locs hw_68 hP hS => ?_)
                  try dsimp only at hw_68
                  obtain rfl : r_68 = 1 := by rcases hw_68 with ⟨h, h2⟩ | ⟨h, h2⟩ <;> first | exact h | exact absurd rfl h2 | exact absurd h2 (by decide)
                  refine lv_if_eq (tgt := 205) hx hb dX6_needNumber_198 (by decide) (fun h => absurd h (by decide)) (fun _ => ?_)
                  refine lv_iload_n hx hb dX6_needNumber_201 rfl (lv_at hl 4 rfl) ?_
                  refine lv_goto (tgt := 207) hx hb dX6_needNumber_202 (by decide) ?_
                  have hP9 := hP.sub (ws' := [(x0, .inr (6, (fX6 x1 (nI tz) (nI t2_52) (nI ta__2) 2 (nI ta__2)))), (aB k x1 240 fx)]) [1, 0] rfl
                  have hD9 := hD.sub (ws' := [(x0, .inr (6, (fX6 x1 (nI tz) (nI t2_52) (nI ta__2) 2 (nI ta__2)))), (aB k x1 240 fx)]) [1, 0] (by decide) rfl
                  exact W.iret (v := p0) hx hb hr (fun t ht hW => ⟨⟨p0, (t2_52, (nI ta__2), 2, (nI ta__2)), rfl, ⟨fun h => absurd rfl h, fun _ => ⟨_, _, rfl, .inr (.inr ⟨rfl, rfl, rfl, (nuR_B hw_50 c_51 hw_2.1).trans (nuS_2 hle_54 (by omega) (vS_f hve_54) (.inr (fun h => absurd h.2 c_64)))⟩)⟩, by omega, by omega, ⟨Int32.le_refl _, hle⟩⟩, by rw [ht]; exact hP9, hD9⟩, hS.F ht⟩) hS.2.2 dX6_needNumber_207
          · have c_55 := (nI_eq (a := t2_52) (b := ta__2) (by omega) (by omega)).mp c_55
            refine lv_aload_n hx hb dX6_needNumber_150 rfl (lv_at hl 3 rfl) ?_
            refine lv_iconst (v := 1) hx hb dX6_needNumber_151 (by decide) ?_
            refine lv_aload_n hx hb dX6_needNumber_152 rfl (lv_at hl 3 rfl) ?_
            refine va_get (D := D) (ci := 6) (v := .int (nI t2_52)) (C := RX6) (T := TX6) (N := 6) hx hb hts inX6 hown hK hP 0 rfl rfl 2 (by decide) (hts _ tw_113) (fun _ h9 => h9) rfl dX6_needNumber_153 ?_
            refine rw_v (D := D) (wr := [(aB k x1 240 fx)]) (va_runV (As := [.int 1, .int (nI t2_52)]) (rest := []) ⟨hx, hb, hml, hown, hts⟩ ((y_fail l D k st lo x0 x1 tz t2_52 (nI ta__2) 0 fb 1 (nI t2_52) (by decide)) H.size) (cwV 2 hts (gV tw_476 tw_456 tw_457 tw_80 tw_458) rfl rfl rfl (by decide +kernel) ⟨Nat.le_of_ble_eq_true rfl, Nat.le_of_ble_eq_true rfl⟩) (pV hS hAlo hlo hP hK (va_Dlo hD hAlo) hZ [0] (by decide) rfl (ci := 6) (q := (RX6, TX6, 6)) (q0 := 0) rfl rfl) rfl rfl hl.1 rfl (lv_room (Nat.le_of_ble_eq_true rfl)) dX6_needNumber_156 ⟨Nat.le_of_ble_eq_true rfl, Nat.le_of_ble_eq_true rfl⟩) hS hA hP hD [0] [1] rfl rfl (by decide) (by decide) (fun u H locs hw_69 hP hD hS => ?_)
            obtain ⟨fn__69, fb__69⟩ := u
            replace hP : va_P D classes [(aB k x1 240 fx), (x0, .inr (6, (fX6 x1 (nI tz) (nI t2_52) (nI ta__2) fn__69 fb__69)))] H := hP
            replace hD : va_D A [(aB k x1 240 fx), (x0, .inr (6, (fX6 x1 (nI tz) (nI t2_52) (nI ta__2) fn__69 fb__69)))] := hD
            try dsimp only at hw_69
            obtain ⟨hs0_70, hs1_70⟩ := hw_69.2.1 rfl
            replace hs0_70 := hs0_70.symm
            subst hs0_70
            replace hs1_70 := hs1_70.symm
            subst hs1_70
            refine lv_goto (tgt := 194) hx hb dX6_needNumber_159 (by decide) ?_
            refine lv_aload_n hx hb dX6_needNumber_194 rfl (lv_at hl 3 rfl) ?_
            refine ro_i (D := D) (va_runV (As := []) (rest := []) ⟨hx, hb, hml, hown, hts⟩ ((x_failed l D k st lo x0 x1 tz t2_52 (nI ta__2) 1 (nI t2_52)) H.size) (cwV 0 hts (gV tw_471 tw_368 tw_369 tw_80 tw_370) rfl rfl rfl (by decide +kernel) ⟨Nat.le_of_ble_eq_true rfl, Nat.le_of_ble_eq_true rfl⟩) (pV hS hAlo hlo hP hK (va_Dlo hD hAlo) hZ [1] (by decide) rfl (ci := 6) (q := (RX6, TX6, 6)) (q0 := 0) rfl rfl) rfl rfl hl.1 rfl (lv_room (Nat.le_of_ble_eq_true rfl)) dX6_needNumber_195 ⟨Nat.le_of_ble_eq_true rfl, Nat.le_of_ble_eq_true rfl⟩) hS hA hP (fun r_71 H locs hw_71 hP hS => ?_)
            try dsimp only at hw_71
            obtain rfl : r_71 = 1 := by rcases hw_71 with ⟨h, h2⟩ | ⟨h, h2⟩ <;> first | exact h | exact absurd rfl h2 | exact absurd h2 (by decide)
            refine lv_if_eq (tgt := 205) hx hb dX6_needNumber_198 (by decide) (fun h => absurd h (by decide)) (fun _ => ?_)
            refine lv_iload_n hx hb dX6_needNumber_201 rfl (lv_at hl 4 rfl) ?_
            refine lv_goto (tgt := 207) hx hb dX6_needNumber_202 (by decide) ?_
            have hP9 := hP.sub (ws' := [(x0, .inr (6, (fX6 x1 (nI tz) (nI t2_52) (nI ta__2) 1 (nI t2_52)))), (aB k x1 240 fx)]) [1, 0] rfl
            have hD9 := hD.sub (ws' := [(x0, .inr (6, (fX6 x1 (nI tz) (nI t2_52) (nI ta__2) 1 (nI t2_52)))), (aB k x1 240 fx)]) [1, 0] (by decide) rfl
            exact W.iret (v := p0) hx hb hr (fun t ht hW => ⟨⟨p0, (t2_52, (nI ta__2), 1, (nI t2_52)), rfl, ⟨fun h => absurd rfl h, fun _ => ⟨_, _, rfl, .inr (.inl ⟨rfl, rfl, rfl, (nuR_B hw_50 c_51 hw_2.1).trans (nuS_1t hle_54 (by omega))⟩)⟩, by omega, by omega, ⟨Int32.le_refl _, hle⟩⟩, by rw [ht]; exact hP9, hD9⟩, hS.F ht⟩) hS.2.2 dX6_needNumber_207
        · have c_53 : ¬ (tz ≤ t2_52) := fun h => c_53 ((nI_leI (a := tz) (b := t2_52) (by omega) (by omega)).mpr h)
          refine lv_aload_n hx hb dX6_needNumber_78 rfl (lv_at hl 3 rfl) ?_
          refine lv_aload_n hx hb dX6_needNumber_79 rfl (lv_at hl 3 rfl) ?_
          refine va_get (D := D) (ci := 6) (v := .int (nI t2_52)) (C := RX6) (T := TX6) (N := 6) hx hb hts inX6 hown hK hP 0 rfl rfl 2 (by decide) (hts _ tw_113) (fun _ h9 => h9) rfl dX6_needNumber_80 ?_
          refine ro_i (D := D) (va_runV (As := [.int (nI t2_52)]) (rest := []) ⟨hx, hb, hml, hown, hts⟩ ((y_isFigureAt l D k st lo x0 x1 tz t2_52 (nI ta__2) 0 fb fx t2_52 (by first | assumption | omega) (by first | assumption | omega)) H.size) (cwV 1 hts (gV tw_472 tw_473 tw_474 tw_80 tw_475) rfl rfl rfl (by decide +kernel) ⟨Nat.le_of_ble_eq_true rfl, Nat.le_of_ble_eq_true rfl⟩) (pV hS hAlo hlo hP hK (va_Dlo hD hAlo) hZ [0, 1] (by decide) rfl (ci := 6) (q := (RX6, TX6, 6)) (q0 := 0) rfl rfl) rfl rfl hl.1 rfl (lv_room (Nat.le_of_ble_eq_true rfl)) dX6_needNumber_83 ⟨Nat.le_of_ble_eq_true rfl, Nat.le_of_ble_eq_true rfl⟩) hS hA hP (fun r_72 H locs hw_72 hP hS => ?_)
          try dsimp only at hw_72
          rcases hw_72 with ⟨rfl, hw_72⟩ | ⟨rfl, hw_72⟩
          · refine lv_if_eq (tgt := 132) hx hb dX6_needNumber_86 (by decide) (fun h => absurd h (by decide)) (fun _ => ?_)
            refine lv_aload_n hx hb dX6_needNumber_89 rfl (lv_at hl 3 rfl) ?_
            refine va_get (D := D) (ci := 6) (v := .int (nI t2_52)) (C := RX6) (T := TX6) (N := 6) hx hb hts inX6 hown hK hP 0 rfl rfl 2 (by decide) (hts _ tw_113) (fun _ h9 => h9) rfl dX6_needNumber_90 ?_
            refine lv_iload hx hb dX6_needNumber_93 (lv_at hl 1 rfl) ?_
            refine lv_isub hx hb dX6_needNumber_95 ?_
            refine lv_ti (y := (nI (t2_52 - ta__2))) (pk_sub (a := t2_52) (b := ta__2) (by omega)) ?_
            refine lv_iconst (v := 3) hx hb dX6_needNumber_96 (by decide) ?_
            refine lv_icmp_ge (tgt := 119) hx hb dX6_needNumber_97 (by decide) (fun c_73 => ?_) (fun c_73 => ?_)
            · have c_73 := (nI_leI (a := 3) (b := (t2_52 - ta__2)) (by omega) (by omega)).mp c_73
              refine lv_aload_n hx hb dX6_needNumber_119 rfl (lv_at hl 3 rfl) ?_
              refine lv_dup hx hb dX6_needNumber_120 rfl ?_
              refine va_get (D := D) (ci := 6) (v := .int (nI t2_52)) (C := RX6) (T := TX6) (N := 6) hx hb hts inX6 hown hK hP 0 rfl rfl 2 (by decide) (hts _ tw_113) (fun _ h9 => h9) rfl dX6_needNumber_121 ?_
              refine lv_iconst (v := 1) hx hb dX6_needNumber_124 (by decide) ?_
              refine lv_iadd hx hb dX6_needNumber_125 ?_
              refine lv_ti (y := (nI (t2_52 + 1))) (nI_add t2_52 1) ?_
              refine va_put (D := D) (ci := 6) (v := .int (nI (t2_52 + 1))) (ty := .int) (C := RX6) (T := TX6) (N := 6) hx hb hts inX6 tyX6 tyX6_ok nmX6 hown hK hP hD hS 0 rfl rfl 2 (by decide) (hts _ tw_113) (fun _ h9 => h9) rfl (by decide +kernel) rfl rfl (Nat.le_of_ble_eq_true rfl) dX6_needNumber_126 (fun H locs hP hD hS => ?_)
              replace hP : va_P D classes [(x0, .inr (6, (fX6 x1 (nI tz) (nI (t2_52 + 1)) (nI ta__2) 0 fb))), (aB k x1 240 fx)] H := hP
              replace hD : va_D A [(x0, .inr (6, (fX6 x1 (nI tz) (nI (t2_52 + 1)) (nI ta__2) 0 fb))), (aB k x1 240 fx)] := hD
              refine lv_goto (tgt := 67) hx hb dX6_needNumber_129 (by decide) ?_
              have hst_74 := nn_step (by omega) (by omega) hw_72 hv_52.2.2.1 hv_52.2.2.2
              exact ih_52 _ (t2_52 + 1, va_52) _ _ _ (by omega) ⟨rfl, ⟨by omega, by omega, hst_74.1, hst_74.2.2 (by omega)⟩, hP, hD, hS, (lv_sub hl [0, 1, 2, 3, 4, 5] rfl)⟩
            · have c_73 : ¬ (3 ≤ (t2_52 - ta__2)) := fun h => c_73 ((nI_leI (a := 3) (b := (t2_52 - ta__2)) (by omega) (by omega)).mpr h)
              refine lv_iload hx hb dX6_needNumber_100 (lv_at hl 0 rfl) ?_
              refine lv_bipush (v := 10) hx hb dX6_needNumber_102 (by decide) ?_
              refine lv_imul hx hb dX6_needNumber_104 ?_
              refine lv_topi (fun x_75 ex_75 => ?_)
              refine lv_aload_n hx hb dX6_needNumber_105 rfl (lv_at hl 3 rfl) ?_
              refine lv_aload_n hx hb dX6_needNumber_106 rfl (lv_at hl 3 rfl) ?_
              refine va_get (D := D) (ci := 6) (v := .int (nI t2_52)) (C := RX6) (T := TX6) (N := 6) hx hb hts inX6 hown hK hP 0 rfl rfl 2 (by decide) (hts _ tw_113) (fun _ h9 => h9) rfl dX6_needNumber_107 ?_
              refine ro_i (D := D) (va_runV (As := [.int (nI t2_52)]) (rest := [.int x_75]) ⟨hx, hb, hml, hown, hts⟩ ((y_byteAt l D k st lo x0 x1 tz t2_52 (nI ta__2) 0 fb fx t2_52 (by first | assumption | omega) (by first | assumption | omega)) H.size) (cwV 1 hts (gV tw_379 tw_380 tw_381 tw_80 tw_382) rfl rfl rfl (by decide +kernel) ⟨Nat.le_of_ble_eq_true rfl, Nat.le_of_ble_eq_true rfl⟩) (pV hS hAlo hlo hP hK (va_Dlo hD hAlo) hZ [0, 1] (by decide) rfl (ci := 6) (q := (RX6, TX6, 6)) (q0 := 0) rfl rfl) rfl rfl hl.1 rfl (lv_room (Nat.le_of_ble_eq_true rfl)) dX6_needNumber_110 ⟨Nat.le_of_ble_eq_true rfl, Nat.le_of_ble_eq_true rfl⟩) hS hA hP (fun r_76 H locs hw_76 hP hS => ?_)
              try dsimp only at hw_76
              refine lv_iadd hx hb dX6_needNumber_113 ?_
              refine lv_topi (fun x_77 ex_77 => ?_)
              refine lv_bipush (v := 48) hx hb dX6_needNumber_114 (by decide) ?_
              refine lv_isub hx hb dX6_needNumber_116 ?_
              refine lv_topi (fun x_78 ex_78 => ?_)
              refine lv_istore (lv' := [(5, .int x_78), (4, .int (nI ta__2)), (3, .int 0), (0, .ref x0), (1, .int p0), (2, .int p1)]) hx hb dX6_needNumber_117 hl (by decide) rfl (fun ls hl => ?_)
              refine lv_aload_n hx hb dX6_needNumber_119 rfl (lv_at hl 3 rfl) ?_
              refine lv_dup hx hb dX6_needNumber_120 rfl ?_
              refine va_get (D := D) (ci := 6) (v := .int (nI t2_52)) (C := RX6) (T := TX6) (N := 6) hx hb hts inX6 hown hK hP 0 rfl rfl 2 (by decide) (hts _ tw_113) (fun _ h9 => h9) rfl dX6_needNumber_121 ?_
              refine lv_iconst (v := 1) hx hb dX6_needNumber_124 (by decide) ?_
              refine lv_iadd hx hb dX6_needNumber_125 ?_
              refine lv_ti (y := (nI (t2_52 + 1))) (nI_add t2_52 1) ?_
              refine va_put (D := D) (ci := 6) (v := .int (nI (t2_52 + 1))) (ty := .int) (C := RX6) (T := TX6) (N := 6) hx hb hts inX6 tyX6 tyX6_ok nmX6 hown hK hP hD hS 0 rfl rfl 2 (by decide) (hts _ tw_113) (fun _ h9 => h9) rfl (by decide +kernel) rfl rfl (Nat.le_of_ble_eq_true rfl) dX6_needNumber_126 (fun H locs hP hD hS => ?_)
              replace hP : va_P D classes [(x0, .inr (6, (fX6 x1 (nI tz) (nI (t2_52 + 1)) (nI ta__2) 0 fb))), (aB k x1 240 fx)] H := hP
              replace hD : va_D A [(x0, .inr (6, (fX6 x1 (nI tz) (nI (t2_52 + 1)) (nI ta__2) 0 fb))), (aB k x1 240 fx)] := hD
              refine lv_goto (tgt := 67) hx hb dX6_needNumber_129 (by decide) ?_
              have hst_79 := nn_step (by omega) (by omega) hw_72 hv_52.2.2.1 hv_52.2.2.2
              exact ih_52 _ (t2_52 + 1, x_78) _ _ _ (by omega) ⟨rfl, ⟨by omega, by omega, hst_79.1, (by rw [ex_78, ex_77, ex_75]; exact hst_79.2.1 (by omega) _ hw_76)⟩, hP, hD, hS, (lv_sub hl [0, 1, 2, 3, 4, 5] rfl)⟩
          · refine lv_if_eq (tgt := 132) hx hb dX6_needNumber_86 (by decide) (fun _ => ?_) (fun h => absurd (by decide) h)
            obtain ⟨hle_80, hve_80⟩ := nn_out (nn_fe hw_72) hv_52.2.2.1 hv_52.2.2.2
            refine lv_iload_n hx hb dX6_needNumber_132 rfl (lv_at hl 2 rfl) ?_
            refine lv_if_eq (tgt := 141) hx hb dX6_needNumber_133 (by decide) (fun _ => ?_) (fun h => absurd (by decide) h)
            refine lv_aload_n hx hb dX6_needNumber_141 rfl (lv_at hl 3 rfl) ?_
            refine va_get (D := D) (ci := 6) (v := .int (nI t2_52)) (C := RX6) (T := TX6) (N := 6) hx hb hts inX6 hown hK hP 0 rfl rfl 2 (by decide) (hts _ tw_113) (fun _ h9 => h9) rfl dX6_needNumber_142 ?_
            refine lv_iload hx hb dX6_needNumber_145 (lv_at hl 1 rfl) ?_
            refine lv_icmp_ne (tgt := 162) hx hb dX6_needNumber_147 (by decide) (fun c_81 => ?_) (fun c_81 => ?_)
            · have c_81 : ¬ (t2_52 = ta__2) := fun h => c_81 ((nI_eq (a := t2_52) (b := ta__2) (by omega) (by omega)).mpr h)
              refine lv_aload_n hx hb dX6_needNumber_162 rfl (lv_at hl 3 rfl) ?_
              refine va_get (D := D) (ci := 6) (v := .int (nI t2_52)) (C := RX6) (T := TX6) (N := 6) hx hb hts inX6 hown hK hP 0 rfl rfl 2 (by decide) (hts _ tw_113) (fun _ h9 => h9) rfl dX6_needNumber_163 ?_
              refine lv_iload hx hb dX6_needNumber_166 (lv_at hl 1 rfl) ?_
              refine lv_isub hx hb dX6_needNumber_168 ?_
              refine lv_ti (y := (nI (t2_52 - ta__2))) (pk_sub (a := t2_52) (b := ta__2) (by omega)) ?_
              refine lv_iconst (v := 3) hx hb dX6_needNumber_169 (by decide) ?_
              refine lv_icmp_gt (tgt := 185) hx hb dX6_needNumber_170 (by decide) (fun c_82 => ?_) (fun c_82 => ?_)
              · have c_82 := (nI_ltI (a := 3) (b := (t2_52 - ta__2)) (by omega) (by omega)).mp c_82
                refine lv_aload_n hx hb dX6_needNumber_185 rfl (lv_at hl 3 rfl) ?_
                refine lv_iconst (v := 2) hx hb dX6_needNumber_186 (by decide) ?_
                refine lv_aload_n hx hb dX6_needNumber_187 rfl (lv_at hl 3 rfl) ?_
                refine va_get (D := D) (ci := 6) (v := .int (nI ta__2)) (C := RX6) (T := TX6) (N := 6) hx hb hts inX6 hown hK hP 0 rfl rfl 3 (by decide) (hts _ tw_116) (fun _ h9 => h9) rfl dX6_needNumber_188 ?_
                refine rw_v (D := D) (wr := [(aB k x1 240 fx)]) (va_runV (As := [.int 2, .int (nI ta__2)]) (rest := []) ⟨hx, hb, hml, hown, hts⟩ ((y_fail l D k st lo x0 x1 tz t2_52 (nI ta__2) 0 fb 2 (nI ta__2) (by decide)) H.size) (cwV 2 hts (gV tw_476 tw_456 tw_457 tw_80 tw_458) rfl rfl rfl (by decide +kernel) ⟨Nat.le_of_ble_eq_true rfl, Nat.le_of_ble_eq_true rfl⟩) (pV hS hAlo hlo hP hK (va_Dlo hD hAlo) hZ [0] (by decide) rfl (ci := 6) (q := (RX6, TX6, 6)) (q0 := 0) rfl rfl) rfl rfl hl.1 rfl (lv_room (Nat.le_of_ble_eq_true rfl)) dX6_needNumber_191 ⟨Nat.le_of_ble_eq_true rfl, Nat.le_of_ble_eq_true rfl⟩) hS hA hP hD [0] [1] rfl rfl (by decide) (by decide) (fun u H locs hw_83 hP hD hS => ?_)
                obtain ⟨fn__83, fb__83⟩ := u
                replace hP : va_P D classes [(aB k x1 240 fx), (x0, .inr (6, (fX6 x1 (nI tz) (nI t2_52) (nI ta__2) fn__83 fb__83)))] H := hP
                replace hD : va_D A [(aB k x1 240 fx), (x0, .inr (6, (fX6 x1 (nI tz) (nI t2_52) (nI ta__2) fn__83 fb__83)))] := hD
                try dsimp only at hw_83
                obtain ⟨hs0_84, hs1_84⟩ := hw_83.2.1 rfl
                replace hs0_84 := hs0_84.symm
                subst hs0_84
                replace hs1_84 := hs1_84.symm
                subst hs1_84
                refine lv_aload_n hx hb dX6_needNumber_194 rfl (lv_at hl 3 rfl) ?_
                refine ro_i (D := D) (va_runV (As := []) (rest := []) ⟨hx, hb, hml, hown, hts⟩ ((x_failed l D k st lo x0 x1 tz t2_52 (nI ta__2) 2 (nI ta__2)) H.size) (cwV 0 hts (gV tw_471 tw_368 tw_369 tw_80 tw_370) rfl rfl rfl (by decide +kernel) ⟨Nat.le_of_ble_eq_true rfl, Nat.le_of_ble_eq_true rfl⟩) (pV hS hAlo hlo hP hK (va_Dlo hD hAlo) hZ [1] (by decide) rfl (ci := 6) (q := (RX6, TX6, 6)) (q0 := 0) rfl rfl) rfl rfl hl.1 rfl (lv_room (Nat.le_of_ble_eq_true rfl)) dX6_needNumber_195 ⟨Nat.le_of_ble_eq_true rfl, Nat.le_of_ble_eq_true rfl⟩) hS hA hP (fun r_85 H locs hw_85 hP hS => ?_)
                try dsimp only at hw_85
                obtain rfl : r_85 = 1 := by rcases hw_85 with ⟨h, h2⟩ | ⟨h, h2⟩ <;> first | exact h | exact absurd rfl h2 | exact absurd h2 (by decide)
                refine lv_if_eq (tgt := 205) hx hb dX6_needNumber_198 (by decide) (fun h => absurd h (by decide)) (fun _ => ?_)
                refine lv_iload_n hx hb dX6_needNumber_201 rfl (lv_at hl 4 rfl) ?_
                refine lv_goto (tgt := 207) hx hb dX6_needNumber_202 (by decide) ?_
                have hP9 := hP.sub (ws' := [(x0, .inr (6, (fX6 x1 (nI tz) (nI t2_52) (nI ta__2) 2 (nI ta__2)))), (aB k x1 240 fx)]) [1, 0] rfl
                have hD9 := hD.sub (ws' := [(x0, .inr (6, (fX6 x1 (nI tz) (nI t2_52) (nI ta__2) 2 (nI ta__2)))), (aB k x1 240 fx)]) [1, 0] (by decide) rfl
                exact W.iret (v := p0) hx hb hr (fun t ht hW => ⟨⟨p0, (t2_52, (nI ta__2), 2, (nI ta__2)), rfl, ⟨fun h => absurd rfl h, fun _ => ⟨_, _, rfl, .inr (.inr ⟨rfl, rfl, rfl, (nuR_B hw_50 c_51 hw_2.1).trans (nuS_2 hle_80 (by omega) (vS_f hve_80) (.inl (by omega)))⟩)⟩, by omega, by omega, ⟨Int32.le_refl _, hle⟩⟩, by rw [ht]; exact hP9, hD9⟩, hS.F ht⟩) hS.2.2 dX6_needNumber_207
              · have c_82 : ¬ (3 < (t2_52 - ta__2)) := fun h => c_82 ((nI_ltI (a := 3) (b := (t2_52 - ta__2)) (by omega) (by omega)).mpr h)
                refine lv_iload hx hb dX6_needNumber_173 (lv_at hl 0 rfl) ?_
                refine lv_iload_n hx hb dX6_needNumber_175 rfl (lv_at hl 4 rfl) ?_
                refine lv_icmp_lt (tgt := 185) hx hb dX6_needNumber_176 (by decide) (fun c_86 => ?_) (fun c_86 => ?_)
                · refine lv_aload_n hx hb dX6_needNumber_185 rfl (lv_at hl 3 rfl) ?_
                  refine lv_iconst (v := 2) hx hb dX6_needNumber_186 (by decide) ?_
                  refine lv_aload_n hx hb dX6_needNumber_187 rfl (lv_at hl 3 rfl) ?_
                  refine va_get (D := D) (ci := 6) (v := .int (nI ta__2)) (C := RX6) (T := TX6) (N := 6) hx hb hts inX6 hown hK hP 0 rfl rfl 3 (by decide) (hts _ tw_116) (fun _ h9 => h9) rfl dX6_needNumber_188 ?_
                  refine rw_v (D := D) (wr := [(aB k x1 240 fx)]) (va_runV (As := [.int 2, .int (nI ta__2)]) (rest := []) ⟨hx, hb, hml, hown, hts⟩ ((y_fail l D k st lo x0 x1 tz t2_52 (nI ta__2) 0 fb 2 (nI ta__2) (by decide)) H.size) (cwV 2 hts (gV tw_476 tw_456 tw_457 tw_80 tw_458) rfl rfl rfl (by decide +kernel) ⟨Nat.le_of_ble_eq_true rfl, Nat.le_of_ble_eq_true rfl⟩) (pV hS hAlo hlo hP hK (va_Dlo hD hAlo) hZ [0] (by decide) rfl (ci := 6) (q := (RX6, TX6, 6)) (q0 := 0) rfl rfl) rfl rfl hl.1 rfl (lv_room (Nat.le_of_ble_eq_true rfl)) dX6_needNumber_191 ⟨Nat.le_of_ble_eq_true rfl, Nat.le_of_ble_eq_true rfl⟩) hS hA hP hD [0] [1] rfl rfl (by decide) (by decide) (fun u H locs hw_87 hP hD hS => ?_)
                  obtain ⟨fn__87, fb__87⟩ := u
                  replace hP : va_P D classes [(aB k x1 240 fx), (x0, .inr (6, (fX6 x1 (nI tz) (nI t2_52) (nI ta__2) fn__87 fb__87)))] H := hP
                  replace hD : va_D A [(aB k x1 240 fx), (x0, .inr (6, (fX6 x1 (nI tz) (nI t2_52) (nI ta__2) fn__87 fb__87)))] := hD
                  try dsimp only at hw_87
                  obtain ⟨hs0_88, hs1_88⟩ := hw_87.2.1 rfl
                  replace hs0_88 := hs0_88.symm
                  subst hs0_88
                  replace hs1_88 := hs1_88.symm
                  subst hs1_88
                  refine lv_aload_n hx hb dX6_needNumber_194 rfl (lv_at hl 3 rfl) ?_
                  refine ro_i (D := D) (va_runV (As := []) (rest := []) ⟨hx, hb, hml, hown, hts⟩ ((x_failed l D k st lo x0 x1 tz t2_52 (nI ta__2) 2 (nI ta__2)) H.size) (cwV 0 hts (gV tw_471 tw_368 tw_369 tw_80 tw_370) rfl rfl rfl (by decide +kernel) ⟨Nat.le_of_ble_eq_true rfl, Nat.le_of_ble_eq_true rfl⟩) (pV hS hAlo hlo hP hK (va_Dlo hD hAlo) hZ [1] (by decide) rfl (ci := 6) (q := (RX6, TX6, 6)) (q0 := 0) rfl rfl) rfl rfl hl.1 rfl (lv_room (Nat.le_of_ble_eq_true rfl)) dX6_needNumber_195 ⟨Nat.le_of_ble_eq_true rfl, Nat.le_of_ble_eq_true rfl⟩) hS hA hP (fun r_89 H locs hw_89 hP hS => ?_)
                  try dsimp only at hw_89
                  obtain rfl : r_89 = 1 := by rcases hw_89 with ⟨h, h2⟩ | ⟨h, h2⟩ <;> first | exact h | exact absurd rfl h2 | exact absurd h2 (by decide)
                  refine lv_if_eq (tgt := 205) hx hb dX6_needNumber_198 (by decide) (fun h => absurd h (by decide)) (fun _ => ?_)
                  refine lv_iload_n hx hb dX6_needNumber_201 rfl (lv_at hl 4 rfl) ?_
                  refine lv_goto (tgt := 207) hx hb dX6_needNumber_202 (by decide) ?_
                  have hP9 := hP.sub (ws' := [(x0, .inr (6, (fX6 x1 (nI tz) (nI t2_52) (nI ta__2) 2 (nI ta__2)))), (aB k x1 240 fx)]) [1, 0] rfl
                  have hD9 := hD.sub (ws' := [(x0, .inr (6, (fX6 x1 (nI tz) (nI t2_52) (nI ta__2) 2 (nI ta__2)))), (aB k x1 240 fx)]) [1, 0] (by decide) rfl
                  exact W.iret (v := p0) hx hb hr (fun t ht hW => ⟨⟨p0, (t2_52, (nI ta__2), 2, (nI ta__2)), rfl, ⟨fun h => absurd rfl h, fun _ => ⟨_, _, rfl, .inr (.inr ⟨rfl, rfl, rfl, (nuR_B hw_50 c_51 hw_2.1).trans (nuS_2 hle_80 (by omega) (vS_f hve_80) (.inr (fun h => absurd h.1 (Int32.not_le.mpr c_86))))⟩)⟩, by omega, by omega, ⟨Int32.le_refl _, hle⟩⟩, by rw [ht]; exact hP9, hD9⟩, hS.F ht⟩) hS.2.2 dX6_needNumber_207
                · refine lv_iload hx hb dX6_needNumber_179 (lv_at hl 0 rfl) ?_
                  refine lv_iload_n hx hb dX6_needNumber_181 rfl (lv_at hl 5 rfl) ?_
                  refine lv_icmp_le (tgt := 194) hx hb dX6_needNumber_182 (by decide) (fun c_90 => ?_) (fun c_90 => ?_)
                  · refine lv_aload_n hx hb dX6_needNumber_194 rfl (lv_at hl 3 rfl) ?_
                    refine ro_i (D := D) (va_runV (As := []) (rest := []) ⟨hx, hb, hml, hown, hts⟩ ((x_failed l D k st lo x0 x1 tz t2_52 (nI ta__2) 0 fb) H.size) (cwV 0 hts (gV tw_471 tw_368 tw_369 tw_80 tw_370) rfl rfl rfl (by decide +kernel) ⟨Nat.le_of_ble_eq_true rfl, Nat.le_of_ble_eq_true rfl⟩) (pV hS hAlo hlo hP hK (va_Dlo hD hAlo) hZ [0] (by decide) rfl (ci := 6) (q := (RX6, TX6, 6)) (q0 := 0) rfl rfl) rfl rfl hl.1 rfl (lv_room (Nat.le_of_ble_eq_true rfl)) dX6_needNumber_195 ⟨Nat.le_of_ble_eq_true rfl, Nat.le_of_ble_eq_true rfl⟩) hS hA hP (fun r_91 H locs hw_91 hP hS => ?_)
                    try dsimp only at hw_91
                    obtain rfl : r_91 = 0 := by rcases hw_91 with ⟨h, h2⟩ | ⟨h, h2⟩ <;> first | exact h | exact absurd rfl h2 | exact absurd h2 (by decide)
                    refine lv_if_eq (tgt := 205) hx hb dX6_needNumber_198 (by decide) (fun _ => ?_) (fun h => absurd (by decide) h)
                    refine lv_iload hx hb dX6_needNumber_205 (lv_at hl 0 rfl) ?_
                    have hP9 := hP.sub (ws' := [(x0, .inr (6, (fX6 x1 (nI tz) (nI t2_52) (nI ta__2) 0 fb))), (aB k x1 240 fx)]) [0, 1] rfl
                    have hD9 := hD.sub (ws' := [(x0, .inr (6, (fX6 x1 (nI tz) (nI t2_52) (nI ta__2) 0 fb))), (aB k x1 240 fx)]) [0, 1] (by decide) rfl
                    exact W.iret (v := va_52) hx hb hr (fun t ht hW => ⟨⟨va_52, (t2_52, (nI ta__2), 0, fb), rfl, ⟨fun h => absurd rfl h, fun _ => ⟨0, _, rfl, .inl ⟨rfl, (nuR_B hw_50 c_51 hw_2.1).trans (nuS_0 hle_80 (by omega) (vS_f hve_80) (by omega) ⟨Int32.not_lt.mp c_86, c_90⟩)⟩⟩, by omega, by omega, ⟨Int32.not_lt.mp c_86, c_90⟩⟩, by rw [ht]; exact hP9, hD9⟩, hS.F ht⟩) hS.2.2 dX6_needNumber_207
                  · refine lv_aload_n hx hb dX6_needNumber_185 rfl (lv_at hl 3 rfl) ?_
                    refine lv_iconst (v := 2) hx hb dX6_needNumber_186 (by decide) ?_
                    refine lv_aload_n hx hb dX6_needNumber_187 rfl (lv_at hl 3 rfl) ?_
                    refine va_get (D := D) (ci := 6) (v := .int (nI ta__2)) (C := RX6) (T := TX6) (N := 6) hx hb hts inX6 hown hK hP 0 rfl rfl 3 (by decide) (hts _ tw_116) (fun _ h9 => h9) rfl dX6_needNumber_188 ?_
                    refine rw_v (D := D) (wr := [(aB k x1 240 fx)]) (va_runV (As := [.int 2, .int (nI ta__2)]) (rest := []) ⟨hx, hb, hml, hown, hts⟩ ((y_fail l D k st lo x0 x1 tz t2_52 (nI ta__2) 0 fb 2 (nI ta__2) (by decide)) H.size) (cwV 2 hts (gV tw_476 tw_456 tw_457 tw_80 tw_458) rfl rfl rfl (by decide +kernel) ⟨Nat.le_of_ble_eq_true rfl, Nat.le_of_ble_eq_true rfl⟩) (pV hS hAlo hlo hP hK (va_Dlo hD hAlo) hZ [0] (by decide) rfl (ci := 6) (q := (RX6, TX6, 6)) (q0 := 0) rfl rfl) rfl rfl hl.1 rfl (lv_room (Nat.le_of_ble_eq_true rfl)) dX6_needNumber_191 ⟨Nat.le_of_ble_eq_true rfl, Nat.le_of_ble_eq_true rfl⟩) hS hA hP hD [0] [1] rfl rfl (by decide) (by decide) (fun u H locs hw_92 hP hD hS => ?_)
                    obtain ⟨fn__92, fb__92⟩ := u
                    replace hP : va_P D classes [(aB k x1 240 fx), (x0, .inr (6, (fX6 x1 (nI tz) (nI t2_52) (nI ta__2) fn__92 fb__92)))] H := hP
                    replace hD : va_D A [(aB k x1 240 fx), (x0, .inr (6, (fX6 x1 (nI tz) (nI t2_52) (nI ta__2) fn__92 fb__92)))] := hD
                    try dsimp only at hw_92
                    obtain ⟨hs0_93, hs1_93⟩ := hw_92.2.1 rfl
                    replace hs0_93 := hs0_93.symm
                    subst hs0_93
                    replace hs1_93 := hs1_93.symm
                    subst hs1_93
                    refine lv_aload_n hx hb dX6_needNumber_194 rfl (lv_at hl 3 rfl) ?_
                    refine ro_i (D := D) (va_runV (As := []) (rest := []) ⟨hx, hb, hml, hown, hts⟩ ((x_failed l D k st lo x0 x1 tz t2_52 (nI ta__2) 2 (nI ta__2)) H.size) (cwV 0 hts (gV tw_471 tw_368 tw_369 tw_80 tw_370) rfl rfl rfl (by decide +kernel) ⟨Nat.le_of_ble_eq_true rfl, Nat.le_of_ble_eq_true rfl⟩) (pV hS hAlo hlo hP hK (va_Dlo hD hAlo) hZ [1] (by decide) rfl (ci := 6) (q := (RX6, TX6, 6)) (q0 := 0) rfl rfl) rfl rfl hl.1 rfl (lv_room (Nat.le_of_ble_eq_true rfl)) dX6_needNumber_195 ⟨Nat.le_of_ble_eq_true rfl, Nat.le_of_ble_eq_true rfl⟩) hS hA hP (fun r_94 H locs hw_94 hP hS => ?_)
                    try dsimp only at hw_94
                    obtain rfl : r_94 = 1 := by rcases hw_94 with ⟨h, h2⟩ | ⟨h, h2⟩ <;> first | exact h | exact absurd rfl h2 | exact absurd h2 (by decide)
                    refine lv_if_eq (tgt := 205) hx hb dX6_needNumber_198 (by decide) (fun h => absurd h (by decide)) (fun _ => ?_)
                    refine lv_iload_n hx hb dX6_needNumber_201 rfl (lv_at hl 4 rfl) ?_
                    refine lv_goto (tgt := 207) hx hb dX6_needNumber_202 (by decide) ?_
                    have hP9 := hP.sub (ws' := [(x0, .inr (6, (fX6 x1 (nI tz) (nI t2_52) (nI ta__2) 2 (nI ta__2)))), (aB k x1 240 fx)]) [1, 0] rfl
                    have hD9 := hD.sub (ws' := [(x0, .inr (6, (fX6 x1 (nI tz) (nI t2_52) (nI ta__2) 2 (nI ta__2)))), (aB k x1 240 fx)]) [1, 0] (by decide) rfl
                    exact W.iret (v := p0) hx hb hr (fun t ht hW => ⟨⟨p0, (t2_52, (nI ta__2), 2, (nI ta__2)), rfl, ⟨fun h => absurd rfl h, fun _ => ⟨_, _, rfl, .inr (.inr ⟨rfl, rfl, rfl, (nuR_B hw_50 c_51 hw_2.1).trans (nuS_2 hle_80 (by omega) (vS_f hve_80) (.inr (fun h => absurd h.2 c_90)))⟩)⟩, by omega, by omega, ⟨Int32.le_refl _, hle⟩⟩, by rw [ht]; exact hP9, hD9⟩, hS.F ht⟩) hS.2.2 dX6_needNumber_207
            · have c_81 := (nI_eq (a := t2_52) (b := ta__2) (by omega) (by omega)).mp c_81
              refine lv_aload_n hx hb dX6_needNumber_150 rfl (lv_at hl 3 rfl) ?_
              refine lv_iconst (v := 1) hx hb dX6_needNumber_151 (by decide) ?_
              refine lv_aload_n hx hb dX6_needNumber_152 rfl (lv_at hl 3 rfl) ?_
              refine va_get (D := D) (ci := 6) (v := .int (nI t2_52)) (C := RX6) (T := TX6) (N := 6) hx hb hts inX6 hown hK hP 0 rfl rfl 2 (by decide) (hts _ tw_113) (fun _ h9 => h9) rfl dX6_needNumber_153 ?_
              refine rw_v (D := D) (wr := [(aB k x1 240 fx)]) (va_runV (As := [.int 1, .int (nI t2_52)]) (rest := []) ⟨hx, hb, hml, hown, hts⟩ ((y_fail l D k st lo x0 x1 tz t2_52 (nI ta__2) 0 fb 1 (nI t2_52) (by decide)) H.size) (cwV 2 hts (gV tw_476 tw_456 tw_457 tw_80 tw_458) rfl rfl rfl (by decide +kernel) ⟨Nat.le_of_ble_eq_true rfl, Nat.le_of_ble_eq_true rfl⟩) (pV hS hAlo hlo hP hK (va_Dlo hD hAlo) hZ [0] (by decide) rfl (ci := 6) (q := (RX6, TX6, 6)) (q0 := 0) rfl rfl) rfl rfl hl.1 rfl (lv_room (Nat.le_of_ble_eq_true rfl)) dX6_needNumber_156 ⟨Nat.le_of_ble_eq_true rfl, Nat.le_of_ble_eq_true rfl⟩) hS hA hP hD [0] [1] rfl rfl (by decide) (by decide) (fun u H locs hw_95 hP hD hS => ?_)
              obtain ⟨fn__95, fb__95⟩ := u
              replace hP : va_P D classes [(aB k x1 240 fx), (x0, .inr (6, (fX6 x1 (nI tz) (nI t2_52) (nI ta__2) fn__95 fb__95)))] H := hP
              replace hD : va_D A [(aB k x1 240 fx), (x0, .inr (6, (fX6 x1 (nI tz) (nI t2_52) (nI ta__2) fn__95 fb__95)))] := hD
              try dsimp only at hw_95
              obtain ⟨hs0_96, hs1_96⟩ := hw_95.2.1 rfl
              replace hs0_96 := hs0_96.symm
              subst hs0_96
              replace hs1_96 := hs1_96.symm
              subst hs1_96
              refine lv_goto (tgt := 194) hx hb dX6_needNumber_159 (by decide) ?_
              refine lv_aload_n hx hb dX6_needNumber_194 rfl (lv_at hl 3 rfl) ?_
              refine ro_i (D := D) (va_runV (As := []) (rest := []) ⟨hx, hb, hml, hown, hts⟩ ((x_failed l D k st lo x0 x1 tz t2_52 (nI ta__2) 1 (nI t2_52)) H.size) (cwV 0 hts (gV tw_471 tw_368 tw_369 tw_80 tw_370) rfl rfl rfl (by decide +kernel) ⟨Nat.le_of_ble_eq_true rfl, Nat.le_of_ble_eq_true rfl⟩) (pV hS hAlo hlo hP hK (va_Dlo hD hAlo) hZ [1] (by decide) rfl (ci := 6) (q := (RX6, TX6, 6)) (q0 := 0) rfl rfl) rfl rfl hl.1 rfl (lv_room (Nat.le_of_ble_eq_true rfl)) dX6_needNumber_195 ⟨Nat.le_of_ble_eq_true rfl, Nat.le_of_ble_eq_true rfl⟩) hS hA hP (fun r_97 H locs hw_97 hP hS => ?_)
              try dsimp only at hw_97
              obtain rfl : r_97 = 1 := by rcases hw_97 with ⟨h, h2⟩ | ⟨h, h2⟩ <;> first | exact h | exact absurd rfl h2 | exact absurd h2 (by decide)
              refine lv_if_eq (tgt := 205) hx hb dX6_needNumber_198 (by decide) (fun h => absurd h (by decide)) (fun _ => ?_)
              refine lv_iload_n hx hb dX6_needNumber_201 rfl (lv_at hl 4 rfl) ?_
              refine lv_goto (tgt := 207) hx hb dX6_needNumber_202 (by decide) ?_
              have hP9 := hP.sub (ws' := [(x0, .inr (6, (fX6 x1 (nI tz) (nI t2_52) (nI ta__2) 1 (nI t2_52)))), (aB k x1 240 fx)]) [1, 0] rfl
              have hD9 := hD.sub (ws' := [(x0, .inr (6, (fX6 x1 (nI tz) (nI t2_52) (nI ta__2) 1 (nI t2_52)))), (aB k x1 240 fx)]) [1, 0] (by decide) rfl
              exact W.iret (v := p0) hx hb hr (fun t ht hW => ⟨⟨p0, (t2_52, (nI ta__2), 1, (nI t2_52)), rfl, ⟨fun h => absurd rfl h, fun _ => ⟨_, _, rfl, .inr (.inl ⟨rfl, rfl, rfl, (nuR_B hw_50 c_51 hw_2.1).trans (nuS_1t hle_80 (by omega))⟩)⟩, by omega, by omega, ⟨Int32.le_refl _, hle⟩⟩, by rw [ht]; exact hP9, hD9⟩, hS.F ht⟩) hS.2.2 dX6_needNumber_207
      · have hlt_98 : ta__2 < tz := by rcases Nat.lt_or_ge (ta__2) tz with h | h; exact h; exact absurd (c_51.symm.trans (hw_50.trans (byF_out (by omega)))) (by decide)
        refine lv_iconst (v := 1) hx hb dX6_needNumber_38 (by decide) ?_
        refine lv_goto (tgt := 43) hx hb dX6_needNumber_39 (by decide) ?_
        refine lv_istore_n (lv' := [(3, .int 1), (0, .ref x0), (1, .int p0), (2, .int p1)]) hx hb dX6_needNumber_43 rfl hl (by decide) rfl (fun ls hl => ?_)
        refine lv_iload_n hx hb dX6_needNumber_44 rfl (lv_at hl 0 rfl) ?_
        refine lv_if_eq (tgt := 58) hx hb dX6_needNumber_45 (by decide) (fun h => absurd h (by decide)) (fun _ => ?_)
        refine lv_aload_n hx hb dX6_needNumber_48 rfl (lv_at hl 1 rfl) ?_
        refine lv_dup hx hb dX6_needNumber_49 rfl ?_
        refine va_get (D := D) (ci := 6) (v := .int (nI ta__2)) (C := RX6) (T := TX6) (N := 6) hx hb hts inX6 hown hK hP 0 rfl rfl 2 (by decide) (hts _ tw_113) (fun _ h9 => h9) rfl dX6_needNumber_50 ?_
        refine lv_iconst (v := 1) hx hb dX6_needNumber_53 (by decide) ?_
        refine lv_iadd hx hb dX6_needNumber_54 ?_
        refine lv_ti (y := (nI (ta__2 + 1))) (nI_add ta__2 1) ?_
        refine va_put (D := D) (ci := 6) (v := .int (nI (ta__2 + 1))) (ty := .int) (C := RX6) (T := TX6) (N := 6) hx hb hts inX6 tyX6 tyX6_ok nmX6 hown hK hP hD hS 0 rfl rfl 2 (by decide) (hts _ tw_113) (fun _ h9 => h9) rfl (by decide +kernel) rfl rfl (Nat.le_of_ble_eq_true rfl) dX6_needNumber_55 (fun H locs hP hD hS => ?_)
        replace hP : va_P D classes [(x0, .inr (6, (fX6 x1 (nI tz) (nI (ta__2 + 1)) (nI ta__2) 0 fb))), (aB k x1 240 fx)] H := hP
        replace hD : va_D A [(x0, .inr (6, (fX6 x1 (nI tz) (nI (ta__2 + 1)) (nI ta__2) 0 fb))), (aB k x1 240 fx)] := hD
        refine lv_aload_n hx hb dX6_needNumber_58 rfl (lv_at hl 1 rfl) ?_
        refine va_get (D := D) (ci := 6) (v := .int (nI (ta__2 + 1))) (C := RX6) (T := TX6) (N := 6) hx hb hts inX6 hown hK hP 0 rfl rfl 2 (by decide) (hts _ tw_113) (fun _ h9 => h9) rfl dX6_needNumber_59 ?_
        refine lv_istore (lv' := [(4, .int (nI (ta__2 + 1))), (3, .int 1), (0, .ref x0), (1, .int p0), (2, .int p1)]) hx hb dX6_needNumber_62 hl (by decide) rfl (fun ls hl => ?_)
        refine lv_iconst (v := 0) hx hb dX6_needNumber_64 (by decide) ?_
        refine lv_istore (lv' := [(5, .int 0), (4, .int (nI (ta__2 + 1))), (3, .int 1), (0, .ref x0), (1, .int p0), (2, .int p1)]) hx hb dX6_needNumber_65 hl (by decide) rfl (fun ls hl => ?_)
        refine W_loop (σ := Nat × Int32) (fun (n_ : Nat) (x_ : Nat × Int32) (H : Heap) (locs : List Loc) (ls : Array Slot) => match x_ with | (t2_99, va_99) => n_ = tz - t2_99 ∧ (ta__2 + 1 ≤ t2_99 ∧ t2_99 ≤ tz ∧ ta__2 + 1 + (figA (bF fx) tz (ta__2 + 1)).length = t2_99 + (figA (bF fx) tz t2_99).length ∧ vXk (t2_99 - (ta__2 + 1)) va_99 (figA (bF fx) tz t2_99) = vX (figA (bF fx) tz (ta__2 + 1))) ∧ va_P D classes [(x0, .inr (6, (fX6 x1 (nI tz) (nI t2_99) (nI ta__2) 0 fb))), (aB k x1 240 fx)] H ∧ va_D A [(x0, .inr (6, (fX6 x1 (nI tz) (nI t2_99) (nI ta__2) 0 fb))), (aB k x1 240 fx)] ∧ va_S A s.heap H locs ∧ lv_has ls 6 [(5, .int va_99), (4, .int (nI (ta__2 + 1))), (3, .int 1), (0, .ref x0), (1, .int p0), (2, .int p1)]) (fun n_99 x_99 H locs ls hI ih_99 => ?_) _ (ta__2 + 1, 0) ⟨rfl, ⟨by omega, by omega, rfl, by rw [Nat.sub_self]; rfl⟩, hP, hD, hS, (lv_sub hl [0, 1, 2, 3, 4, 5] rfl)⟩
        obtain ⟨t2_99, va_99⟩ := x_99
        obtain ⟨hm_99, hv_99, hP, hD, hS, hl⟩ := hI
        subst hm_99
        refine lv_aload_n hx hb dX6_needNumber_67 rfl (lv_at hl 3 rfl) ?_
        refine va_get (D := D) (ci := 6) (v := .int (nI t2_99)) (C := RX6) (T := TX6) (N := 6) hx hb hts inX6 hown hK hP 0 rfl rfl 2 (by decide) (hts _ tw_113) (fun _ h9 => h9) rfl dX6_needNumber_68 ?_
        refine lv_aload_n hx hb dX6_needNumber_71 rfl (lv_at hl 3 rfl) ?_
        refine va_get (D := D) (ci := 6) (v := .int (nI tz)) (C := RX6) (T := TX6) (N := 6) hx hb hts inX6 hown hK hP 0 rfl rfl 1 (by decide) (hts _ tw_110) (fun _ h9 => h9) rfl dX6_needNumber_72 ?_
        refine lv_icmp_ge (tgt := 132) hx hb dX6_needNumber_75 (by decide) (fun c_100 => ?_) (fun c_100 => ?_)
        · have c_100 := (nI_leI (a := tz) (b := t2_99) (by omega) (by omega)).mp c_100
          obtain ⟨hle_101, hve_101⟩ := nn_out (figA_end (by omega)) hv_99.2.2.1 hv_99.2.2.2
          refine lv_iload_n hx hb dX6_needNumber_132 rfl (lv_at hl 2 rfl) ?_
          refine lv_if_eq (tgt := 141) hx hb dX6_needNumber_133 (by decide) (fun h => absurd h (by decide)) (fun _ => ?_)
          refine lv_iload hx hb dX6_needNumber_136 (lv_at hl 0 rfl) ?_
          refine lv_ineg hx hb dX6_needNumber_138 ?_
          refine lv_topi (fun x_102 ex_102 => ?_)
          refine lv_istore (lv' := [(5, .int x_102), (4, .int (nI (ta__2 + 1))), (3, .int 1), (0, .ref x0), (1, .int p0), (2, .int p1)]) hx hb dX6_needNumber_139 hl (by decide) rfl (fun ls hl => ?_)
          refine lv_aload_n hx hb dX6_needNumber_141 rfl (lv_at hl 3 rfl) ?_
          refine va_get (D := D) (ci := 6) (v := .int (nI t2_99)) (C := RX6) (T := TX6) (N := 6) hx hb hts inX6 hown hK hP 0 rfl rfl 2 (by decide) (hts _ tw_113) (fun _ h9 => h9) rfl dX6_needNumber_142 ?_
          refine lv_iload hx hb dX6_needNumber_145 (lv_at hl 1 rfl) ?_
          refine lv_icmp_ne (tgt := 162) hx hb dX6_needNumber_147 (by decide) (fun c_103 => ?_) (fun c_103 => ?_)
          · have c_103 : ¬ (t2_99 = (ta__2 + 1)) := fun h => c_103 ((nI_eq (a := t2_99) (b := (ta__2 + 1)) (by omega) (by omega)).mpr h)
            refine lv_aload_n hx hb dX6_needNumber_162 rfl (lv_at hl 3 rfl) ?_
            refine va_get (D := D) (ci := 6) (v := .int (nI t2_99)) (C := RX6) (T := TX6) (N := 6) hx hb hts inX6 hown hK hP 0 rfl rfl 2 (by decide) (hts _ tw_113) (fun _ h9 => h9) rfl dX6_needNumber_163 ?_
            refine lv_iload hx hb dX6_needNumber_166 (lv_at hl 1 rfl) ?_
            refine lv_isub hx hb dX6_needNumber_168 ?_
            refine lv_ti (y := (nI (t2_99 - (ta__2 + 1)))) (pk_sub (a := t2_99) (b := (ta__2 + 1)) (by omega)) ?_
            refine lv_iconst (v := 3) hx hb dX6_needNumber_169 (by decide) ?_
            refine lv_icmp_gt (tgt := 185) hx hb dX6_needNumber_170 (by decide) (fun c_104 => ?_) (fun c_104 => ?_)
            · have c_104 := (nI_ltI (a := 3) (b := (t2_99 - (ta__2 + 1))) (by omega) (by omega)).mp c_104
              refine lv_aload_n hx hb dX6_needNumber_185 rfl (lv_at hl 3 rfl) ?_
              refine lv_iconst (v := 2) hx hb dX6_needNumber_186 (by decide) ?_
              refine lv_aload_n hx hb dX6_needNumber_187 rfl (lv_at hl 3 rfl) ?_
              refine va_get (D := D) (ci := 6) (v := .int (nI ta__2)) (C := RX6) (T := TX6) (N := 6) hx hb hts inX6 hown hK hP 0 rfl rfl 3 (by decide) (hts _ tw_116) (fun _ h9 => h9) rfl dX6_needNumber_188 ?_
              refine rw_v (D := D) (wr := [(aB k x1 240 fx)]) (va_runV (As := [.int 2, .int (nI ta__2)]) (rest := []) ⟨hx, hb, hml, hown, hts⟩ ((y_fail l D k st lo x0 x1 tz t2_99 (nI ta__2) 0 fb 2 (nI ta__2) (by decide)) H.size) (cwV 2 hts (gV tw_476 tw_456 tw_457 tw_80 tw_458) rfl rfl rfl (by decide +kernel) ⟨Nat.le_of_ble_eq_true rfl, Nat.le_of_ble_eq_true rfl⟩) (pV hS hAlo hlo hP hK (va_Dlo hD hAlo) hZ [0] (by decide) rfl (ci := 6) (q := (RX6, TX6, 6)) (q0 := 0) rfl rfl) rfl rfl hl.1 rfl (lv_room (Nat.le_of_ble_eq_true rfl)) dX6_needNumber_191 ⟨Nat.le_of_ble_eq_true rfl, Nat.le_of_ble_eq_true rfl⟩) hS hA hP hD [0] [1] rfl rfl (by decide) (by decide) (fun u H locs hw_105 hP hD hS => ?_)
              obtain ⟨fn__105, fb__105⟩ := u
              replace hP : va_P D classes [(aB k x1 240 fx), (x0, .inr (6, (fX6 x1 (nI tz) (nI t2_99) (nI ta__2) fn__105 fb__105)))] H := hP
              replace hD : va_D A [(aB k x1 240 fx), (x0, .inr (6, (fX6 x1 (nI tz) (nI t2_99) (nI ta__2) fn__105 fb__105)))] := hD
              try dsimp only at hw_105
              obtain ⟨hs0_106, hs1_106⟩ := hw_105.2.1 rfl
              replace hs0_106 := hs0_106.symm
              subst hs0_106
              replace hs1_106 := hs1_106.symm
              subst hs1_106
              refine lv_aload_n hx hb dX6_needNumber_194 rfl (lv_at hl 3 rfl) ?_
              refine ro_i (D := D) (va_runV (As := []) (rest := []) ⟨hx, hb, hml, hown, hts⟩ ((x_failed l D k st lo x0 x1 tz t2_99 (nI ta__2) 2 (nI ta__2)) H.size) (cwV 0 hts (gV tw_471 tw_368 tw_369 tw_80 tw_370) rfl rfl rfl (by decide +kernel) ⟨Nat.le_of_ble_eq_true rfl, Nat.le_of_ble_eq_true rfl⟩) (pV hS hAlo hlo hP hK (va_Dlo hD hAlo) hZ [1] (by decide) rfl (ci := 6) (q := (RX6, TX6, 6)) (q0 := 0) rfl rfl) rfl rfl hl.1 rfl (lv_room (Nat.le_of_ble_eq_true rfl)) dX6_needNumber_195 ⟨Nat.le_of_ble_eq_true rfl, Nat.le_of_ble_eq_true rfl⟩) hS hA hP (fun r_107 H locs hw_107 hP hS => ?_)
              try dsimp only at hw_107
              obtain rfl : r_107 = 1 := by rcases hw_107 with ⟨h, h2⟩ | ⟨h, h2⟩ <;> first | exact h | exact absurd rfl h2 | exact absurd h2 (by decide)
              refine lv_if_eq (tgt := 205) hx hb dX6_needNumber_198 (by decide) (fun h => absurd h (by decide)) (fun _ => ?_)
              refine lv_iload_n hx hb dX6_needNumber_201 rfl (lv_at hl 4 rfl) ?_
              refine lv_goto (tgt := 207) hx hb dX6_needNumber_202 (by decide) ?_
              have hP9 := hP.sub (ws' := [(x0, .inr (6, (fX6 x1 (nI tz) (nI t2_99) (nI ta__2) 2 (nI ta__2)))), (aB k x1 240 fx)]) [1, 0] rfl
              have hD9 := hD.sub (ws' := [(x0, .inr (6, (fX6 x1 (nI tz) (nI t2_99) (nI ta__2) 2 (nI ta__2)))), (aB k x1 240 fx)]) [1, 0] (by decide) rfl
              exact W.iret (v := p0) hx hb hr (fun t ht hW => ⟨⟨p0, (t2_99, (nI ta__2), 2, (nI ta__2)), rfl, ⟨fun h => absurd rfl h, fun _ => ⟨_, _, rfl, .inr (.inr ⟨rfl, rfl, rfl, (nuR_C c_3 hw_50 c_51 hw_2.1).trans (nuS_2 hle_101 (by omega) (vS_t hve_101 ex_102) (.inl (by omega)))⟩)⟩, by omega, by omega, ⟨Int32.le_refl _, hle⟩⟩, by rw [ht]; exact hP9, hD9⟩, hS.F ht⟩) hS.2.2 dX6_needNumber_207
            · have c_104 : ¬ (3 < (t2_99 - (ta__2 + 1))) := fun h => c_104 ((nI_ltI (a := 3) (b := (t2_99 - (ta__2 + 1))) (by omega) (by omega)).mpr h)
              refine lv_iload hx hb dX6_needNumber_173 (lv_at hl 0 rfl) ?_
              refine lv_iload_n hx hb dX6_needNumber_175 rfl (lv_at hl 4 rfl) ?_
              refine lv_icmp_lt (tgt := 185) hx hb dX6_needNumber_176 (by decide) (fun c_108 => ?_) (fun c_108 => ?_)
              · refine lv_aload_n hx hb dX6_needNumber_185 rfl (lv_at hl 3 rfl) ?_
                refine lv_iconst (v := 2) hx hb dX6_needNumber_186 (by decide) ?_
                refine lv_aload_n hx hb dX6_needNumber_187 rfl (lv_at hl 3 rfl) ?_
                refine va_get (D := D) (ci := 6) (v := .int (nI ta__2)) (C := RX6) (T := TX6) (N := 6) hx hb hts inX6 hown hK hP 0 rfl rfl 3 (by decide) (hts _ tw_116) (fun _ h9 => h9) rfl dX6_needNumber_188 ?_
                refine rw_v (D := D) (wr := [(aB k x1 240 fx)]) (va_runV (As := [.int 2, .int (nI ta__2)]) (rest := []) ⟨hx, hb, hml, hown, hts⟩ ((y_fail l D k st lo x0 x1 tz t2_99 (nI ta__2) 0 fb 2 (nI ta__2) (by decide)) H.size) (cwV 2 hts (gV tw_476 tw_456 tw_457 tw_80 tw_458) rfl rfl rfl (by decide +kernel) ⟨Nat.le_of_ble_eq_true rfl, Nat.le_of_ble_eq_true rfl⟩) (pV hS hAlo hlo hP hK (va_Dlo hD hAlo) hZ [0] (by decide) rfl (ci := 6) (q := (RX6, TX6, 6)) (q0 := 0) rfl rfl) rfl rfl hl.1 rfl (lv_room (Nat.le_of_ble_eq_true rfl)) dX6_needNumber_191 ⟨Nat.le_of_ble_eq_true rfl, Nat.le_of_ble_eq_true rfl⟩) hS hA hP hD [0] [1] rfl rfl (by decide) (by decide) (fun u H locs hw_109 hP hD hS => ?_)
                obtain ⟨fn__109, fb__109⟩ := u
                replace hP : va_P D classes [(aB k x1 240 fx), (x0, .inr (6, (fX6 x1 (nI tz) (nI t2_99) (nI ta__2) fn__109 fb__109)))] H := hP
                replace hD : va_D A [(aB k x1 240 fx), (x0, .inr (6, (fX6 x1 (nI tz) (nI t2_99) (nI ta__2) fn__109 fb__109)))] := hD
                try dsimp only at hw_109
                obtain ⟨hs0_110, hs1_110⟩ := hw_109.2.1 rfl
                replace hs0_110 := hs0_110.symm
                subst hs0_110
                replace hs1_110 := hs1_110.symm
                subst hs1_110
                refine lv_aload_n hx hb dX6_needNumber_194 rfl (lv_at hl 3 rfl) ?_
                refine ro_i (D := D) (va_runV (As := []) (rest := []) ⟨hx, hb, hml, hown, hts⟩ ((x_failed l D k st lo x0 x1 tz t2_99 (nI ta__2) 2 (nI ta__2)) H.size) (cwV 0 hts (gV tw_471 tw_368 tw_369 tw_80 tw_370) rfl rfl rfl (by decide +kernel) ⟨Nat.le_of_ble_eq_true rfl, Nat.le_of_ble_eq_true rfl⟩) (pV hS hAlo hlo hP hK (va_Dlo hD hAlo) hZ [1] (by decide) rfl (ci := 6) (q := (RX6, TX6, 6)) (q0 := 0) rfl rfl) rfl rfl hl.1 rfl (lv_room (Nat.le_of_ble_eq_true rfl)) dX6_needNumber_195 ⟨Nat.le_of_ble_eq_true rfl, Nat.le_of_ble_eq_true rfl⟩) hS hA hP (fun r_111 H locs hw_111 hP hS => ?_)
                try dsimp only at hw_111
                obtain rfl : r_111 = 1 := by rcases hw_111 with ⟨h, h2⟩ | ⟨h, h2⟩ <;> first | exact h | exact absurd rfl h2 | exact absurd h2 (by decide)
                refine lv_if_eq (tgt := 205) hx hb dX6_needNumber_198 (by decide) (fun h => absurd h (by decide)) (fun _ => ?_)
                refine lv_iload_n hx hb dX6_needNumber_201 rfl (lv_at hl 4 rfl) ?_
                refine lv_goto (tgt := 207) hx hb dX6_needNumber_202 (by decide) ?_
                have hP9 := hP.sub (ws' := [(x0, .inr (6, (fX6 x1 (nI tz) (nI t2_99) (nI ta__2) 2 (nI ta__2)))), (aB k x1 240 fx)]) [1, 0] rfl
                have hD9 := hD.sub (ws' := [(x0, .inr (6, (fX6 x1 (nI tz) (nI t2_99) (nI ta__2) 2 (nI ta__2)))), (aB k x1 240 fx)]) [1, 0] (by decide) rfl
                exact W.iret (v := p0) hx hb hr (fun t ht hW => ⟨⟨p0, (t2_99, (nI ta__2), 2, (nI ta__2)), rfl, ⟨fun h => absurd rfl h, fun _ => ⟨_, _, rfl, .inr (.inr ⟨rfl, rfl, rfl, (nuR_C c_3 hw_50 c_51 hw_2.1).trans (nuS_2 hle_101 (by omega) (vS_t hve_101 ex_102) (.inr (fun h => absurd h.1 (Int32.not_le.mpr c_108))))⟩)⟩, by omega, by omega, ⟨Int32.le_refl _, hle⟩⟩, by rw [ht]; exact hP9, hD9⟩, hS.F ht⟩) hS.2.2 dX6_needNumber_207
              · refine lv_iload hx hb dX6_needNumber_179 (lv_at hl 0 rfl) ?_
                refine lv_iload_n hx hb dX6_needNumber_181 rfl (lv_at hl 5 rfl) ?_
                refine lv_icmp_le (tgt := 194) hx hb dX6_needNumber_182 (by decide) (fun c_112 => ?_) (fun c_112 => ?_)
                · refine lv_aload_n hx hb dX6_needNumber_194 rfl (lv_at hl 3 rfl) ?_
                  refine ro_i (D := D) (va_runV (As := []) (rest := []) ⟨hx, hb, hml, hown, hts⟩ ((x_failed l D k st lo x0 x1 tz t2_99 (nI ta__2) 0 fb) H.size) (cwV 0 hts (gV tw_471 tw_368 tw_369 tw_80 tw_370) rfl rfl rfl (by decide +kernel) ⟨Nat.le_of_ble_eq_true rfl, Nat.le_of_ble_eq_true rfl⟩) (pV hS hAlo hlo hP hK (va_Dlo hD hAlo) hZ [0] (by decide) rfl (ci := 6) (q := (RX6, TX6, 6)) (q0 := 0) rfl rfl) rfl rfl hl.1 rfl (lv_room (Nat.le_of_ble_eq_true rfl)) dX6_needNumber_195 ⟨Nat.le_of_ble_eq_true rfl, Nat.le_of_ble_eq_true rfl⟩) hS hA hP (fun r_113 H locs hw_113 hP hS => ?_)
                  try dsimp only at hw_113
                  obtain rfl : r_113 = 0 := by rcases hw_113 with ⟨h, h2⟩ | ⟨h, h2⟩ <;> first | exact h | exact absurd rfl h2 | exact absurd h2 (by decide)
                  refine lv_if_eq (tgt := 205) hx hb dX6_needNumber_198 (by decide) (fun _ => ?_) (fun h => absurd (by decide) h)
                  refine lv_iload hx hb dX6_needNumber_205 (lv_at hl 0 rfl) ?_
                  have hP9 := hP.sub (ws' := [(x0, .inr (6, (fX6 x1 (nI tz) (nI t2_99) (nI ta__2) 0 fb))), (aB k x1 240 fx)]) [0, 1] rfl
                  have hD9 := hD.sub (ws' := [(x0, .inr (6, (fX6 x1 (nI tz) (nI t2_99) (nI ta__2) 0 fb))), (aB k x1 240 fx)]) [0, 1] (by decide) rfl
                  exact W.iret (v := x_102) hx hb hr (fun t ht hW => ⟨⟨x_102, (t2_99, (nI ta__2), 0, fb), rfl, ⟨fun h => absurd rfl h, fun _ => ⟨0, _, rfl, .inl ⟨rfl, (nuR_C c_3 hw_50 c_51 hw_2.1).trans (nuS_0 hle_101 (by omega) (vS_t hve_101 ex_102) (by omega) ⟨Int32.not_lt.mp c_108, c_112⟩)⟩⟩, by omega, by omega, ⟨Int32.not_lt.mp c_108, c_112⟩⟩, by rw [ht]; exact hP9, hD9⟩, hS.F ht⟩) hS.2.2 dX6_needNumber_207
                · refine lv_aload_n hx hb dX6_needNumber_185 rfl (lv_at hl 3 rfl) ?_
                  refine lv_iconst (v := 2) hx hb dX6_needNumber_186 (by decide) ?_
                  refine lv_aload_n hx hb dX6_needNumber_187 rfl (lv_at hl 3 rfl) ?_
                  refine va_get (D := D) (ci := 6) (v := .int (nI ta__2)) (C := RX6) (T := TX6) (N := 6) hx hb hts inX6 hown hK hP 0 rfl rfl 3 (by decide) (hts _ tw_116) (fun _ h9 => h9) rfl dX6_needNumber_188 ?_
                  refine rw_v (D := D) (wr := [(aB k x1 240 fx)]) (va_runV (As := [.int 2, .int (nI ta__2)]) (rest := []) ⟨hx, hb, hml, hown, hts⟩ ((y_fail l D k st lo x0 x1 tz t2_99 (nI ta__2) 0 fb 2 (nI ta__2) (by decide)) H.size) (cwV 2 hts (gV tw_476 tw_456 tw_457 tw_80 tw_458) rfl rfl rfl (by decide +kernel) ⟨Nat.le_of_ble_eq_true rfl, Nat.le_of_ble_eq_true rfl⟩) (pV hS hAlo hlo hP hK (va_Dlo hD hAlo) hZ [0] (by decide) rfl (ci := 6) (q := (RX6, TX6, 6)) (q0 := 0) rfl rfl) rfl rfl hl.1 rfl (lv_room (Nat.le_of_ble_eq_true rfl)) dX6_needNumber_191 ⟨Nat.le_of_ble_eq_true rfl, Nat.le_of_ble_eq_true rfl⟩) hS hA hP hD [0] [1] rfl rfl (by decide) (by decide) (fun u H locs hw_114 hP hD hS => ?_)
                  obtain ⟨fn__114, fb__114⟩ := u
                  replace hP : va_P D classes [(aB k x1 240 fx), (x0, .inr (6, (fX6 x1 (nI tz) (nI t2_99) (nI ta__2) fn__114 fb__114)))] H := hP
                  replace hD : va_D A [(aB k x1 240 fx), (x0, .inr (6, (fX6 x1 (nI tz) (nI t2_99) (nI ta__2) fn__114 fb__114)))] := hD
                  try dsimp only at hw_114
                  obtain ⟨hs0_115, hs1_115⟩ := hw_114.2.1 rfl
                  replace hs0_115 := hs0_115.symm
                  subst hs0_115
                  replace hs1_115 := hs1_115.symm
                  subst hs1_115
                  refine lv_aload_n hx hb dX6_needNumber_194 rfl (lv_at hl 3 rfl) ?_
                  refine ro_i (D := D) (va_runV (As := []) (rest := []) ⟨hx, hb, hml, hown, hts⟩ ((x_failed l D k st lo x0 x1 tz t2_99 (nI ta__2) 2 (nI ta__2)) H.size) (cwV 0 hts (gV tw_471 tw_368 tw_369 tw_80 tw_370) rfl rfl rfl (by decide +kernel) ⟨Nat.le_of_ble_eq_true rfl, Nat.le_of_ble_eq_true rfl⟩) (pV hS hAlo hlo hP hK (va_Dlo hD hAlo) hZ [1] (by decide) rfl (ci := 6) (q := (RX6, TX6, 6)) (q0 := 0) rfl rfl) rfl rfl hl.1 rfl (lv_room (Nat.le_of_ble_eq_true rfl)) dX6_needNumber_195 ⟨Nat.le_of_ble_eq_true rfl, Nat.le_of_ble_eq_true rfl⟩) hS hA hP (fun r_116 H locs hw_116 hP hS => ?_)
                  try dsimp only at hw_116
                  obtain rfl : r_116 = 1 := by rcases hw_116 with ⟨h, h2⟩ | ⟨h, h2⟩ <;> first | exact h | exact absurd rfl h2 | exact absurd h2 (by decide)
                  refine lv_if_eq (tgt := 205) hx hb dX6_needNumber_198 (by decide) (fun h => absurd h (by decide)) (fun _ => ?_)
                  refine lv_iload_n hx hb dX6_needNumber_201 rfl (lv_at hl 4 rfl) ?_
                  refine lv_goto (tgt := 207) hx hb dX6_needNumber_202 (by decide) ?_
                  have hP9 := hP.sub (ws' := [(x0, .inr (6, (fX6 x1 (nI tz) (nI t2_99) (nI ta__2) 2 (nI ta__2)))), (aB k x1 240 fx)]) [1, 0] rfl
                  have hD9 := hD.sub (ws' := [(x0, .inr (6, (fX6 x1 (nI tz) (nI t2_99) (nI ta__2) 2 (nI ta__2)))), (aB k x1 240 fx)]) [1, 0] (by decide) rfl
                  exact W.iret (v := p0) hx hb hr (fun t ht hW => ⟨⟨p0, (t2_99, (nI ta__2), 2, (nI ta__2)), rfl, ⟨fun h => absurd rfl h, fun _ => ⟨_, _, rfl, .inr (.inr ⟨rfl, rfl, rfl, (nuR_C c_3 hw_50 c_51 hw_2.1).trans (nuS_2 hle_101 (by omega) (vS_t hve_101 ex_102) (.inr (fun h => absurd h.2 c_112)))⟩)⟩, by omega, by omega, ⟨Int32.le_refl _, hle⟩⟩, by rw [ht]; exact hP9, hD9⟩, hS.F ht⟩) hS.2.2 dX6_needNumber_207
          · have c_103 := (nI_eq (a := t2_99) (b := (ta__2 + 1)) (by omega) (by omega)).mp c_103
            refine lv_aload_n hx hb dX6_needNumber_150 rfl (lv_at hl 3 rfl) ?_
            refine lv_iconst (v := 1) hx hb dX6_needNumber_151 (by decide) ?_
            refine lv_aload_n hx hb dX6_needNumber_152 rfl (lv_at hl 3 rfl) ?_
            refine va_get (D := D) (ci := 6) (v := .int (nI t2_99)) (C := RX6) (T := TX6) (N := 6) hx hb hts inX6 hown hK hP 0 rfl rfl 2 (by decide) (hts _ tw_113) (fun _ h9 => h9) rfl dX6_needNumber_153 ?_
            refine rw_v (D := D) (wr := [(aB k x1 240 fx)]) (va_runV (As := [.int 1, .int (nI t2_99)]) (rest := []) ⟨hx, hb, hml, hown, hts⟩ ((y_fail l D k st lo x0 x1 tz t2_99 (nI ta__2) 0 fb 1 (nI t2_99) (by decide)) H.size) (cwV 2 hts (gV tw_476 tw_456 tw_457 tw_80 tw_458) rfl rfl rfl (by decide +kernel) ⟨Nat.le_of_ble_eq_true rfl, Nat.le_of_ble_eq_true rfl⟩) (pV hS hAlo hlo hP hK (va_Dlo hD hAlo) hZ [0] (by decide) rfl (ci := 6) (q := (RX6, TX6, 6)) (q0 := 0) rfl rfl) rfl rfl hl.1 rfl (lv_room (Nat.le_of_ble_eq_true rfl)) dX6_needNumber_156 ⟨Nat.le_of_ble_eq_true rfl, Nat.le_of_ble_eq_true rfl⟩) hS hA hP hD [0] [1] rfl rfl (by decide) (by decide) (fun u H locs hw_117 hP hD hS => ?_)
            obtain ⟨fn__117, fb__117⟩ := u
            replace hP : va_P D classes [(aB k x1 240 fx), (x0, .inr (6, (fX6 x1 (nI tz) (nI t2_99) (nI ta__2) fn__117 fb__117)))] H := hP
            replace hD : va_D A [(aB k x1 240 fx), (x0, .inr (6, (fX6 x1 (nI tz) (nI t2_99) (nI ta__2) fn__117 fb__117)))] := hD
            try dsimp only at hw_117
            obtain ⟨hs0_118, hs1_118⟩ := hw_117.2.1 rfl
            replace hs0_118 := hs0_118.symm
            subst hs0_118
            replace hs1_118 := hs1_118.symm
            subst hs1_118
            refine lv_goto (tgt := 194) hx hb dX6_needNumber_159 (by decide) ?_
            refine lv_aload_n hx hb dX6_needNumber_194 rfl (lv_at hl 3 rfl) ?_
            refine ro_i (D := D) (va_runV (As := []) (rest := []) ⟨hx, hb, hml, hown, hts⟩ ((x_failed l D k st lo x0 x1 tz t2_99 (nI ta__2) 1 (nI t2_99)) H.size) (cwV 0 hts (gV tw_471 tw_368 tw_369 tw_80 tw_370) rfl rfl rfl (by decide +kernel) ⟨Nat.le_of_ble_eq_true rfl, Nat.le_of_ble_eq_true rfl⟩) (pV hS hAlo hlo hP hK (va_Dlo hD hAlo) hZ [1] (by decide) rfl (ci := 6) (q := (RX6, TX6, 6)) (q0 := 0) rfl rfl) rfl rfl hl.1 rfl (lv_room (Nat.le_of_ble_eq_true rfl)) dX6_needNumber_195 ⟨Nat.le_of_ble_eq_true rfl, Nat.le_of_ble_eq_true rfl⟩) hS hA hP (fun r_119 H locs hw_119 hP hS => ?_)
            try dsimp only at hw_119
            obtain rfl : r_119 = 1 := by rcases hw_119 with ⟨h, h2⟩ | ⟨h, h2⟩ <;> first | exact h | exact absurd rfl h2 | exact absurd h2 (by decide)
            refine lv_if_eq (tgt := 205) hx hb dX6_needNumber_198 (by decide) (fun h => absurd h (by decide)) (fun _ => ?_)
            refine lv_iload_n hx hb dX6_needNumber_201 rfl (lv_at hl 4 rfl) ?_
            refine lv_goto (tgt := 207) hx hb dX6_needNumber_202 (by decide) ?_
            have hP9 := hP.sub (ws' := [(x0, .inr (6, (fX6 x1 (nI tz) (nI t2_99) (nI ta__2) 1 (nI t2_99)))), (aB k x1 240 fx)]) [1, 0] rfl
            have hD9 := hD.sub (ws' := [(x0, .inr (6, (fX6 x1 (nI tz) (nI t2_99) (nI ta__2) 1 (nI t2_99)))), (aB k x1 240 fx)]) [1, 0] (by decide) rfl
            exact W.iret (v := p0) hx hb hr (fun t ht hW => ⟨⟨p0, (t2_99, (nI ta__2), 1, (nI t2_99)), rfl, ⟨fun h => absurd rfl h, fun _ => ⟨_, _, rfl, .inr (.inl ⟨rfl, rfl, rfl, (nuR_C c_3 hw_50 c_51 hw_2.1).trans (nuS_1t hle_101 (by omega))⟩)⟩, by omega, by omega, ⟨Int32.le_refl _, hle⟩⟩, by rw [ht]; exact hP9, hD9⟩, hS.F ht⟩) hS.2.2 dX6_needNumber_207
        · have c_100 : ¬ (tz ≤ t2_99) := fun h => c_100 ((nI_leI (a := tz) (b := t2_99) (by omega) (by omega)).mpr h)
          refine lv_aload_n hx hb dX6_needNumber_78 rfl (lv_at hl 3 rfl) ?_
          refine lv_aload_n hx hb dX6_needNumber_79 rfl (lv_at hl 3 rfl) ?_
          refine va_get (D := D) (ci := 6) (v := .int (nI t2_99)) (C := RX6) (T := TX6) (N := 6) hx hb hts inX6 hown hK hP 0 rfl rfl 2 (by decide) (hts _ tw_113) (fun _ h9 => h9) rfl dX6_needNumber_80 ?_
          refine ro_i (D := D) (va_runV (As := [.int (nI t2_99)]) (rest := []) ⟨hx, hb, hml, hown, hts⟩ ((y_isFigureAt l D k st lo x0 x1 tz t2_99 (nI ta__2) 0 fb fx t2_99 (by first | assumption | omega) (by first | assumption | omega)) H.size) (cwV 1 hts (gV tw_472 tw_473 tw_474 tw_80 tw_475) rfl rfl rfl (by decide +kernel) ⟨Nat.le_of_ble_eq_true rfl, Nat.le_of_ble_eq_true rfl⟩) (pV hS hAlo hlo hP hK (va_Dlo hD hAlo) hZ [0, 1] (by decide) rfl (ci := 6) (q := (RX6, TX6, 6)) (q0 := 0) rfl rfl) rfl rfl hl.1 rfl (lv_room (Nat.le_of_ble_eq_true rfl)) dX6_needNumber_83 ⟨Nat.le_of_ble_eq_true rfl, Nat.le_of_ble_eq_true rfl⟩) hS hA hP (fun r_120 H locs hw_120 hP hS => ?_)
          try dsimp only at hw_120
          rcases hw_120 with ⟨rfl, hw_120⟩ | ⟨rfl, hw_120⟩
          · refine lv_if_eq (tgt := 132) hx hb dX6_needNumber_86 (by decide) (fun h => absurd h (by decide)) (fun _ => ?_)
            refine lv_aload_n hx hb dX6_needNumber_89 rfl (lv_at hl 3 rfl) ?_
            refine va_get (D := D) (ci := 6) (v := .int (nI t2_99)) (C := RX6) (T := TX6) (N := 6) hx hb hts inX6 hown hK hP 0 rfl rfl 2 (by decide) (hts _ tw_113) (fun _ h9 => h9) rfl dX6_needNumber_90 ?_
            refine lv_iload hx hb dX6_needNumber_93 (lv_at hl 1 rfl) ?_
            refine lv_isub hx hb dX6_needNumber_95 ?_
            refine lv_ti (y := (nI (t2_99 - (ta__2 + 1)))) (pk_sub (a := t2_99) (b := (ta__2 + 1)) (by omega)) ?_
            refine lv_iconst (v := 3) hx hb dX6_needNumber_96 (by decide) ?_
            refine lv_icmp_ge (tgt := 119) hx hb dX6_needNumber_97 (by decide) (fun c_121 => ?_) (fun c_121 => ?_)
            · have c_121 := (nI_leI (a := 3) (b := (t2_99 - (ta__2 + 1))) (by omega) (by omega)).mp c_121
              refine lv_aload_n hx hb dX6_needNumber_119 rfl (lv_at hl 3 rfl) ?_
              refine lv_dup hx hb dX6_needNumber_120 rfl ?_
              refine va_get (D := D) (ci := 6) (v := .int (nI t2_99)) (C := RX6) (T := TX6) (N := 6) hx hb hts inX6 hown hK hP 0 rfl rfl 2 (by decide) (hts _ tw_113) (fun _ h9 => h9) rfl dX6_needNumber_121 ?_
              refine lv_iconst (v := 1) hx hb dX6_needNumber_124 (by decide) ?_
              refine lv_iadd hx hb dX6_needNumber_125 ?_
              refine lv_ti (y := (nI (t2_99 + 1))) (nI_add t2_99 1) ?_
              refine va_put (D := D) (ci := 6) (v := .int (nI (t2_99 + 1))) (ty := .int) (C := RX6) (T := TX6) (N := 6) hx hb hts inX6 tyX6 tyX6_ok nmX6 hown hK hP hD hS 0 rfl rfl 2 (by decide) (hts _ tw_113) (fun _ h9 => h9) rfl (by decide +kernel) rfl rfl (Nat.le_of_ble_eq_true rfl) dX6_needNumber_126 (fun H locs hP hD hS => ?_)
              replace hP : va_P D classes [(x0, .inr (6, (fX6 x1 (nI tz) (nI (t2_99 + 1)) (nI ta__2) 0 fb))), (aB k x1 240 fx)] H := hP
              replace hD : va_D A [(x0, .inr (6, (fX6 x1 (nI tz) (nI (t2_99 + 1)) (nI ta__2) 0 fb))), (aB k x1 240 fx)] := hD
              refine lv_goto (tgt := 67) hx hb dX6_needNumber_129 (by decide) ?_
              have hst_122 := nn_step (by omega) (by omega) hw_120 hv_99.2.2.1 hv_99.2.2.2
              exact ih_99 _ (t2_99 + 1, va_99) _ _ _ (by omega) ⟨rfl, ⟨by omega, by omega, hst_122.1, hst_122.2.2 (by omega)⟩, hP, hD, hS, (lv_sub hl [0, 1, 2, 3, 4, 5] rfl)⟩
            · have c_121 : ¬ (3 ≤ (t2_99 - (ta__2 + 1))) := fun h => c_121 ((nI_leI (a := 3) (b := (t2_99 - (ta__2 + 1))) (by omega) (by omega)).mpr h)
              refine lv_iload hx hb dX6_needNumber_100 (lv_at hl 0 rfl) ?_
              refine lv_bipush (v := 10) hx hb dX6_needNumber_102 (by decide) ?_
              refine lv_imul hx hb dX6_needNumber_104 ?_
              refine lv_topi (fun x_123 ex_123 => ?_)
              refine lv_aload_n hx hb dX6_needNumber_105 rfl (lv_at hl 3 rfl) ?_
              refine lv_aload_n hx hb dX6_needNumber_106 rfl (lv_at hl 3 rfl) ?_
              refine va_get (D := D) (ci := 6) (v := .int (nI t2_99)) (C := RX6) (T := TX6) (N := 6) hx hb hts inX6 hown hK hP 0 rfl rfl 2 (by decide) (hts _ tw_113) (fun _ h9 => h9) rfl dX6_needNumber_107 ?_
              refine ro_i (D := D) (va_runV (As := [.int (nI t2_99)]) (rest := [.int x_123]) ⟨hx, hb, hml, hown, hts⟩ ((y_byteAt l D k st lo x0 x1 tz t2_99 (nI ta__2) 0 fb fx t2_99 (by first | assumption | omega) (by first | assumption | omega)) H.size) (cwV 1 hts (gV tw_379 tw_380 tw_381 tw_80 tw_382) rfl rfl rfl (by decide +kernel) ⟨Nat.le_of_ble_eq_true rfl, Nat.le_of_ble_eq_true rfl⟩) (pV hS hAlo hlo hP hK (va_Dlo hD hAlo) hZ [0, 1] (by decide) rfl (ci := 6) (q := (RX6, TX6, 6)) (q0 := 0) rfl rfl) rfl rfl hl.1 rfl (lv_room (Nat.le_of_ble_eq_true rfl)) dX6_needNumber_110 ⟨Nat.le_of_ble_eq_true rfl, Nat.le_of_ble_eq_true rfl⟩) hS hA hP (fun r_124 H locs hw_124 hP hS => ?_)
              try dsimp only at hw_124
              refine lv_iadd hx hb dX6_needNumber_113 ?_
              refine lv_topi (fun x_125 ex_125 => ?_)
              refine lv_bipush (v := 48) hx hb dX6_needNumber_114 (by decide) ?_
              refine lv_isub hx hb dX6_needNumber_116 ?_
              refine lv_topi (fun x_126 ex_126 => ?_)
              refine lv_istore (lv' := [(5, .int x_126), (4, .int (nI (ta__2 + 1))), (3, .int 1), (0, .ref x0), (1, .int p0), (2, .int p1)]) hx hb dX6_needNumber_117 hl (by decide) rfl (fun ls hl => ?_)
              refine lv_aload_n hx hb dX6_needNumber_119 rfl (lv_at hl 3 rfl) ?_
              refine lv_dup hx hb dX6_needNumber_120 rfl ?_
              refine va_get (D := D) (ci := 6) (v := .int (nI t2_99)) (C := RX6) (T := TX6) (N := 6) hx hb hts inX6 hown hK hP 0 rfl rfl 2 (by decide) (hts _ tw_113) (fun _ h9 => h9) rfl dX6_needNumber_121 ?_
              refine lv_iconst (v := 1) hx hb dX6_needNumber_124 (by decide) ?_
              refine lv_iadd hx hb dX6_needNumber_125 ?_
              refine lv_ti (y := (nI (t2_99 + 1))) (nI_add t2_99 1) ?_
              refine va_put (D := D) (ci := 6) (v := .int (nI (t2_99 + 1))) (ty := .int) (C := RX6) (T := TX6) (N := 6) hx hb hts inX6 tyX6 tyX6_ok nmX6 hown hK hP hD hS 0 rfl rfl 2 (by decide) (hts _ tw_113) (fun _ h9 => h9) rfl (by decide +kernel) rfl rfl (Nat.le_of_ble_eq_true rfl) dX6_needNumber_126 (fun H locs hP hD hS => ?_)
              replace hP : va_P D classes [(x0, .inr (6, (fX6 x1 (nI tz) (nI (t2_99 + 1)) (nI ta__2) 0 fb))), (aB k x1 240 fx)] H := hP
              replace hD : va_D A [(x0, .inr (6, (fX6 x1 (nI tz) (nI (t2_99 + 1)) (nI ta__2) 0 fb))), (aB k x1 240 fx)] := hD
              refine lv_goto (tgt := 67) hx hb dX6_needNumber_129 (by decide) ?_
              have hst_127 := nn_step (by omega) (by omega) hw_120 hv_99.2.2.1 hv_99.2.2.2
              exact ih_99 _ (t2_99 + 1, x_126) _ _ _ (by omega) ⟨rfl, ⟨by omega, by omega, hst_127.1, (by rw [ex_126, ex_125, ex_123]; exact hst_127.2.1 (by omega) _ hw_124)⟩, hP, hD, hS, (lv_sub hl [0, 1, 2, 3, 4, 5] rfl)⟩
          · refine lv_if_eq (tgt := 132) hx hb dX6_needNumber_86 (by decide) (fun _ => ?_) (fun h => absurd (by decide) h)
            obtain ⟨hle_128, hve_128⟩ := nn_out (nn_fe hw_120) hv_99.2.2.1 hv_99.2.2.2
            refine lv_iload_n hx hb dX6_needNumber_132 rfl (lv_at hl 2 rfl) ?_
            refine lv_if_eq (tgt := 141) hx hb dX6_needNumber_133 (by decide) (fun h => absurd h (by decide)) (fun _ => ?_)
            refine lv_iload hx hb dX6_needNumber_136 (lv_at hl 0 rfl) ?_
            refine lv_ineg hx hb dX6_needNumber_138 ?_
            refine lv_topi (fun x_129 ex_129 => ?_)
            refine lv_istore (lv' := [(5, .int x_129), (4, .int (nI (ta__2 + 1))), (3, .int 1), (0, .ref x0), (1, .int p0), (2, .int p1)]) hx hb dX6_needNumber_139 hl (by decide) rfl (fun ls hl => ?_)
            refine lv_aload_n hx hb dX6_needNumber_141 rfl (lv_at hl 3 rfl) ?_
            refine va_get (D := D) (ci := 6) (v := .int (nI t2_99)) (C := RX6) (T := TX6) (N := 6) hx hb hts inX6 hown hK hP 0 rfl rfl 2 (by decide) (hts _ tw_113) (fun _ h9 => h9) rfl dX6_needNumber_142 ?_
            refine lv_iload hx hb dX6_needNumber_145 (lv_at hl 1 rfl) ?_
            refine lv_icmp_ne (tgt := 162) hx hb dX6_needNumber_147 (by decide) (fun c_130 => ?_) (fun c_130 => ?_)
            · have c_130 : ¬ (t2_99 = (ta__2 + 1)) := fun h => c_130 ((nI_eq (a := t2_99) (b := (ta__2 + 1)) (by omega) (by omega)).mpr h)
              refine lv_aload_n hx hb dX6_needNumber_162 rfl (lv_at hl 3 rfl) ?_
              refine va_get (D := D) (ci := 6) (v := .int (nI t2_99)) (C := RX6) (T := TX6) (N := 6) hx hb hts inX6 hown hK hP 0 rfl rfl 2 (by decide) (hts _ tw_113) (fun _ h9 => h9) rfl dX6_needNumber_163 ?_
              refine lv_iload hx hb dX6_needNumber_166 (lv_at hl 1 rfl) ?_
              refine lv_isub hx hb dX6_needNumber_168 ?_
              refine lv_ti (y := (nI (t2_99 - (ta__2 + 1)))) (pk_sub (a := t2_99) (b := (ta__2 + 1)) (by omega)) ?_
              refine lv_iconst (v := 3) hx hb dX6_needNumber_169 (by decide) ?_
              refine lv_icmp_gt (tgt := 185) hx hb dX6_needNumber_170 (by decide) (fun c_131 => ?_) (fun c_131 => ?_)
              · have c_131 := (nI_ltI (a := 3) (b := (t2_99 - (ta__2 + 1))) (by omega) (by omega)).mp c_131
                refine lv_aload_n hx hb dX6_needNumber_185 rfl (lv_at hl 3 rfl) ?_
                refine lv_iconst (v := 2) hx hb dX6_needNumber_186 (by decide) ?_
                refine lv_aload_n hx hb dX6_needNumber_187 rfl (lv_at hl 3 rfl) ?_
                refine va_get (D := D) (ci := 6) (v := .int (nI ta__2)) (C := RX6) (T := TX6) (N := 6) hx hb hts inX6 hown hK hP 0 rfl rfl 3 (by decide) (hts _ tw_116) (fun _ h9 => h9) rfl dX6_needNumber_188 ?_
                refine rw_v (D := D) (wr := [(aB k x1 240 fx)]) (va_runV (As := [.int 2, .int (nI ta__2)]) (rest := []) ⟨hx, hb, hml, hown, hts⟩ ((y_fail l D k st lo x0 x1 tz t2_99 (nI ta__2) 0 fb 2 (nI ta__2) (by decide)) H.size) (cwV 2 hts (gV tw_476 tw_456 tw_457 tw_80 tw_458) rfl rfl rfl (by decide +kernel) ⟨Nat.le_of_ble_eq_true rfl, Nat.le_of_ble_eq_true rfl⟩) (pV hS hAlo hlo hP hK (va_Dlo hD hAlo) hZ [0] (by decide) rfl (ci := 6) (q := (RX6, TX6, 6)) (q0 := 0) rfl rfl) rfl rfl hl.1 rfl (lv_room (Nat.le_of_ble_eq_true rfl)) dX6_needNumber_191 ⟨Nat.le_of_ble_eq_true rfl, Nat.le_of_ble_eq_true rfl⟩) hS hA hP hD [0] [1] rfl rfl (by decide) (by decide) (fun u H locs hw_132 hP hD hS => ?_)
                obtain ⟨fn__132, fb__132⟩ := u
                replace hP : va_P D classes [(aB k x1 240 fx), (x0, .inr (6, (fX6 x1 (nI tz) (nI t2_99) (nI ta__2) fn__132 fb__132)))] H := hP
                replace hD : va_D A [(aB k x1 240 fx), (x0, .inr (6, (fX6 x1 (nI tz) (nI t2_99) (nI ta__2) fn__132 fb__132)))] := hD
                try dsimp only at hw_132
                obtain ⟨hs0_133, hs1_133⟩ := hw_132.2.1 rfl
                replace hs0_133 := hs0_133.symm
                subst hs0_133
                replace hs1_133 := hs1_133.symm
                subst hs1_133
                refine lv_aload_n hx hb dX6_needNumber_194 rfl (lv_at hl 3 rfl) ?_
                refine ro_i (D := D) (va_runV (As := []) (rest := []) ⟨hx, hb, hml, hown, hts⟩ ((x_failed l D k st lo x0 x1 tz t2_99 (nI ta__2) 2 (nI ta__2)) H.size) (cwV 0 hts (gV tw_471 tw_368 tw_369 tw_80 tw_370) rfl rfl rfl (by decide +kernel) ⟨Nat.le_of_ble_eq_true rfl, Nat.le_of_ble_eq_true rfl⟩) (pV hS hAlo hlo hP hK (va_Dlo hD hAlo) hZ [1] (by decide) rfl (ci := 6) (q := (RX6, TX6, 6)) (q0 := 0) rfl rfl) rfl rfl hl.1 rfl (lv_room (Nat.le_of_ble_eq_true rfl)) dX6_needNumber_195 ⟨Nat.le_of_ble_eq_true rfl, Nat.le_of_ble_eq_true rfl⟩) hS hA hP (fun r_134 H locs hw_134 hP hS => ?_)
                try dsimp only at hw_134
                obtain rfl : r_134 = 1 := by rcases hw_134 with ⟨h, h2⟩ | ⟨h, h2⟩ <;> first | exact h | exact absurd rfl h2 | exact absurd h2 (by decide)
                refine lv_if_eq (tgt := 205) hx hb dX6_needNumber_198 (by decide) (fun h => absurd h (by decide)) (fun _ => ?_)
                refine lv_iload_n hx hb dX6_needNumber_201 rfl (lv_at hl 4 rfl) ?_
                refine lv_goto (tgt := 207) hx hb dX6_needNumber_202 (by decide) ?_
                have hP9 := hP.sub (ws' := [(x0, .inr (6, (fX6 x1 (nI tz) (nI t2_99) (nI ta__2) 2 (nI ta__2)))), (aB k x1 240 fx)]) [1, 0] rfl
                have hD9 := hD.sub (ws' := [(x0, .inr (6, (fX6 x1 (nI tz) (nI t2_99) (nI ta__2) 2 (nI ta__2)))), (aB k x1 240 fx)]) [1, 0] (by decide) rfl
                exact W.iret (v := p0) hx hb hr (fun t ht hW => ⟨⟨p0, (t2_99, (nI ta__2), 2, (nI ta__2)), rfl, ⟨fun h => absurd rfl h, fun _ => ⟨_, _, rfl, .inr (.inr ⟨rfl, rfl, rfl, (nuR_C c_3 hw_50 c_51 hw_2.1).trans (nuS_2 hle_128 (by omega) (vS_t hve_128 ex_129) (.inl (by omega)))⟩)⟩, by omega, by omega, ⟨Int32.le_refl _, hle⟩⟩, by rw [ht]; exact hP9, hD9⟩, hS.F ht⟩) hS.2.2 dX6_needNumber_207
              · have c_131 : ¬ (3 < (t2_99 - (ta__2 + 1))) := fun h => c_131 ((nI_ltI (a := 3) (b := (t2_99 - (ta__2 + 1))) (by omega) (by omega)).mpr h)
                refine lv_iload hx hb dX6_needNumber_173 (lv_at hl 0 rfl) ?_
                refine lv_iload_n hx hb dX6_needNumber_175 rfl (lv_at hl 4 rfl) ?_
                refine lv_icmp_lt (tgt := 185) hx hb dX6_needNumber_176 (by decide) (fun c_135 => ?_) (fun c_135 => ?_)
                · refine lv_aload_n hx hb dX6_needNumber_185 rfl (lv_at hl 3 rfl) ?_
                  refine lv_iconst (v := 2) hx hb dX6_needNumber_186 (by decide) ?_
                  refine lv_aload_n hx hb dX6_needNumber_187 rfl (lv_at hl 3 rfl) ?_
                  refine va_get (D := D) (ci := 6) (v := .int (nI ta__2)) (C := RX6) (T := TX6) (N := 6) hx hb hts inX6 hown hK hP 0 rfl rfl 3 (by decide) (hts _ tw_116) (fun _ h9 => h9) rfl dX6_needNumber_188 ?_
                  refine rw_v (D := D) (wr := [(aB k x1 240 fx)]) (va_runV (As := [.int 2, .int (nI ta__2)]) (rest := []) ⟨hx, hb, hml, hown, hts⟩ ((y_fail l D k st lo x0 x1 tz t2_99 (nI ta__2) 0 fb 2 (nI ta__2) (by decide)) H.size) (cwV 2 hts (gV tw_476 tw_456 tw_457 tw_80 tw_458) rfl rfl rfl (by decide +kernel) ⟨Nat.le_of_ble_eq_true rfl, Nat.le_of_ble_eq_true rfl⟩) (pV hS hAlo hlo hP hK (va_Dlo hD hAlo) hZ [0] (by decide) rfl (ci := 6) (q := (RX6, TX6, 6)) (q0 := 0) rfl rfl) rfl rfl hl.1 rfl (lv_room (Nat.le_of_ble_eq_true rfl)) dX6_needNumber_191 ⟨Nat.le_of_ble_eq_true rfl, Nat.le_of_ble_eq_true rfl⟩) hS hA hP hD [0] [1] rfl rfl (by decide) (by decide) (fun u H locs hw_136 hP hD hS => ?_)
                  obtain ⟨fn__136, fb__136⟩ := u
                  replace hP : va_P D classes [(aB k x1 240 fx), (x0, .inr (6, (fX6 x1 (nI tz) (nI t2_99) (nI ta__2) fn__136 fb__136)))] H := hP
                  replace hD : va_D A [(aB k x1 240 fx), (x0, .inr (6, (fX6 x1 (nI tz) (nI t2_99) (nI ta__2) fn__136 fb__136)))] := hD
                  try dsimp only at hw_136
                  obtain ⟨hs0_137, hs1_137⟩ := hw_136.2.1 rfl
                  replace hs0_137 := hs0_137.symm
                  subst hs0_137
                  replace hs1_137 := hs1_137.symm
                  subst hs1_137
                  refine lv_aload_n hx hb dX6_needNumber_194 rfl (lv_at hl 3 rfl) ?_
                  refine ro_i (D := D) (va_runV (As := []) (rest := []) ⟨hx, hb, hml, hown, hts⟩ ((x_failed l D k st lo x0 x1 tz t2_99 (nI ta__2) 2 (nI ta__2)) H.size) (cwV 0 hts (gV tw_471 tw_368 tw_369 tw_80 tw_370) rfl rfl rfl (by decide +kernel) ⟨Nat.le_of_ble_eq_true rfl, Nat.le_of_ble_eq_true rfl⟩) (pV hS hAlo hlo hP hK (va_Dlo hD hAlo) hZ [1] (by decide) rfl (ci := 6) (q := (RX6, TX6, 6)) (q0 := 0) rfl rfl) rfl rfl hl.1 rfl (lv_room (Nat.le_of_ble_eq_true rfl)) dX6_needNumber_195 ⟨Nat.le_of_ble_eq_true rfl, Nat.le_of_ble_eq_true rfl⟩) hS hA hP (fun r_138 H locs hw_138 hP hS => ?_)
                  try dsimp only at hw_138
                  obtain rfl : r_138 = 1 := by rcases hw_138 with ⟨h, h2⟩ | ⟨h, h2⟩ <;> first | exact h | exact absurd rfl h2 | exact absurd h2 (by decide)
                  refine lv_if_eq (tgt := 205) hx hb dX6_needNumber_198 (by decide) (fun h => absurd h (by decide)) (fun _ => ?_)
                  refine lv_iload_n hx hb dX6_needNumber_201 rfl (lv_at hl 4 rfl) ?_
                  refine lv_goto (tgt := 207) hx hb dX6_needNumber_202 (by decide) ?_
                  have hP9 := hP.sub (ws' := [(x0, .inr (6, (fX6 x1 (nI tz) (nI t2_99) (nI ta__2) 2 (nI ta__2)))), (aB k x1 240 fx)]) [1, 0] rfl
                  have hD9 := hD.sub (ws' := [(x0, .inr (6, (fX6 x1 (nI tz) (nI t2_99) (nI ta__2) 2 (nI ta__2)))), (aB k x1 240 fx)]) [1, 0] (by decide) rfl
                  exact W.iret (v := p0) hx hb hr (fun t ht hW => ⟨⟨p0, (t2_99, (nI ta__2), 2, (nI ta__2)), rfl, ⟨fun h => absurd rfl h, fun _ => ⟨_, _, rfl, .inr (.inr ⟨rfl, rfl, rfl, (nuR_C c_3 hw_50 c_51 hw_2.1).trans (nuS_2 hle_128 (by omega) (vS_t hve_128 ex_129) (.inr (fun h => absurd h.1 (Int32.not_le.mpr c_135))))⟩)⟩, by omega, by omega, ⟨Int32.le_refl _, hle⟩⟩, by rw [ht]; exact hP9, hD9⟩, hS.F ht⟩) hS.2.2 dX6_needNumber_207
                · refine lv_iload hx hb dX6_needNumber_179 (lv_at hl 0 rfl) ?_
                  refine lv_iload_n hx hb dX6_needNumber_181 rfl (lv_at hl 5 rfl) ?_
                  refine lv_icmp_le (tgt := 194) hx hb dX6_needNumber_182 (by decide) (fun c_139 => ?_) (fun c_139 => ?_)
                  · refine lv_aload_n hx hb dX6_needNumber_194 rfl (lv_at hl 3 rfl) ?_
                    refine ro_i (D := D) (va_runV (As := []) (rest := []) ⟨hx, hb, hml, hown, hts⟩ ((x_failed l D k st lo x0 x1 tz t2_99 (nI ta__2) 0 fb) H.size) (cwV 0 hts (gV tw_471 tw_368 tw_369 tw_80 tw_370) rfl rfl rfl (by decide +kernel) ⟨Nat.le_of_ble_eq_true rfl, Nat.le_of_ble_eq_true rfl⟩) (pV hS hAlo hlo hP hK (va_Dlo hD hAlo) hZ [0] (by decide) rfl (ci := 6) (q := (RX6, TX6, 6)) (q0 := 0) rfl rfl) rfl rfl hl.1 rfl (lv_room (Nat.le_of_ble_eq_true rfl)) dX6_needNumber_195 ⟨Nat.le_of_ble_eq_true rfl, Nat.le_of_ble_eq_true rfl⟩) hS hA hP (fun r_140 H locs hw_140 hP hS => ?_)
                    try dsimp only at hw_140
                    obtain rfl : r_140 = 0 := by rcases hw_140 with ⟨h, h2⟩ | ⟨h, h2⟩ <;> first | exact h | exact absurd rfl h2 | exact absurd h2 (by decide)
                    refine lv_if_eq (tgt := 205) hx hb dX6_needNumber_198 (by decide) (fun _ => ?_) (fun h => absurd (by decide) h)
                    refine lv_iload hx hb dX6_needNumber_205 (lv_at hl 0 rfl) ?_
                    have hP9 := hP.sub (ws' := [(x0, .inr (6, (fX6 x1 (nI tz) (nI t2_99) (nI ta__2) 0 fb))), (aB k x1 240 fx)]) [0, 1] rfl
                    have hD9 := hD.sub (ws' := [(x0, .inr (6, (fX6 x1 (nI tz) (nI t2_99) (nI ta__2) 0 fb))), (aB k x1 240 fx)]) [0, 1] (by decide) rfl
                    exact W.iret (v := x_129) hx hb hr (fun t ht hW => ⟨⟨x_129, (t2_99, (nI ta__2), 0, fb), rfl, ⟨fun h => absurd rfl h, fun _ => ⟨0, _, rfl, .inl ⟨rfl, (nuR_C c_3 hw_50 c_51 hw_2.1).trans (nuS_0 hle_128 (by omega) (vS_t hve_128 ex_129) (by omega) ⟨Int32.not_lt.mp c_135, c_139⟩)⟩⟩, by omega, by omega, ⟨Int32.not_lt.mp c_135, c_139⟩⟩, by rw [ht]; exact hP9, hD9⟩, hS.F ht⟩) hS.2.2 dX6_needNumber_207
                  · refine lv_aload_n hx hb dX6_needNumber_185 rfl (lv_at hl 3 rfl) ?_
                    refine lv_iconst (v := 2) hx hb dX6_needNumber_186 (by decide) ?_
                    refine lv_aload_n hx hb dX6_needNumber_187 rfl (lv_at hl 3 rfl) ?_
                    refine va_get (D := D) (ci := 6) (v := .int (nI ta__2)) (C := RX6) (T := TX6) (N := 6) hx hb hts inX6 hown hK hP 0 rfl rfl 3 (by decide) (hts _ tw_116) (fun _ h9 => h9) rfl dX6_needNumber_188 ?_
                    refine rw_v (D := D) (wr := [(aB k x1 240 fx)]) (va_runV (As := [.int 2, .int (nI ta__2)]) (rest := []) ⟨hx, hb, hml, hown, hts⟩ ((y_fail l D k st lo x0 x1 tz t2_99 (nI ta__2) 0 fb 2 (nI ta__2) (by decide)) H.size) (cwV 2 hts (gV tw_476 tw_456 tw_457 tw_80 tw_458) rfl rfl rfl (by decide +kernel) ⟨Nat.le_of_ble_eq_true rfl, Nat.le_of_ble_eq_true rfl⟩) (pV hS hAlo hlo hP hK (va_Dlo hD hAlo) hZ [0] (by decide) rfl (ci := 6) (q := (RX6, TX6, 6)) (q0 := 0) rfl rfl) rfl rfl hl.1 rfl (lv_room (Nat.le_of_ble_eq_true rfl)) dX6_needNumber_191 ⟨Nat.le_of_ble_eq_true rfl, Nat.le_of_ble_eq_true rfl⟩) hS hA hP hD [0] [1] rfl rfl (by decide) (by decide) (fun u H locs hw_141 hP hD hS => ?_)
                    obtain ⟨fn__141, fb__141⟩ := u
                    replace hP : va_P D classes [(aB k x1 240 fx), (x0, .inr (6, (fX6 x1 (nI tz) (nI t2_99) (nI ta__2) fn__141 fb__141)))] H := hP
                    replace hD : va_D A [(aB k x1 240 fx), (x0, .inr (6, (fX6 x1 (nI tz) (nI t2_99) (nI ta__2) fn__141 fb__141)))] := hD
                    try dsimp only at hw_141
                    obtain ⟨hs0_142, hs1_142⟩ := hw_141.2.1 rfl
                    replace hs0_142 := hs0_142.symm
                    subst hs0_142
                    replace hs1_142 := hs1_142.symm
                    subst hs1_142
                    refine lv_aload_n hx hb dX6_needNumber_194 rfl (lv_at hl 3 rfl) ?_
                    refine ro_i (D := D) (va_runV (As := []) (rest := []) ⟨hx, hb, hml, hown, hts⟩ ((x_failed l D k st lo x0 x1 tz t2_99 (nI ta__2) 2 (nI ta__2)) H.size) (cwV 0 hts (gV tw_471 tw_368 tw_369 tw_80 tw_370) rfl rfl rfl (by decide +kernel) ⟨Nat.le_of_ble_eq_true rfl, Nat.le_of_ble_eq_true rfl⟩) (pV hS hAlo hlo hP hK (va_Dlo hD hAlo) hZ [1] (by decide) rfl (ci := 6) (q := (RX6, TX6, 6)) (q0 := 0) rfl rfl) rfl rfl hl.1 rfl (lv_room (Nat.le_of_ble_eq_true rfl)) dX6_needNumber_195 ⟨Nat.le_of_ble_eq_true rfl, Nat.le_of_ble_eq_true rfl⟩) hS hA hP (fun r_143 H locs hw_143 hP hS => ?_)
                    try dsimp only at hw_143
                    obtain rfl : r_143 = 1 := by rcases hw_143 with ⟨h, h2⟩ | ⟨h, h2⟩ <;> first | exact h | exact absurd rfl h2 | exact absurd h2 (by decide)
                    refine lv_if_eq (tgt := 205) hx hb dX6_needNumber_198 (by decide) (fun h => absurd h (by decide)) (fun _ => ?_)
                    refine lv_iload_n hx hb dX6_needNumber_201 rfl (lv_at hl 4 rfl) ?_
                    refine lv_goto (tgt := 207) hx hb dX6_needNumber_202 (by decide) ?_
                    have hP9 := hP.sub (ws' := [(x0, .inr (6, (fX6 x1 (nI tz) (nI t2_99) (nI ta__2) 2 (nI ta__2)))), (aB k x1 240 fx)]) [1, 0] rfl
                    have hD9 := hD.sub (ws' := [(x0, .inr (6, (fX6 x1 (nI tz) (nI t2_99) (nI ta__2) 2 (nI ta__2)))), (aB k x1 240 fx)]) [1, 0] (by decide) rfl
                    exact W.iret (v := p0) hx hb hr (fun t ht hW => ⟨⟨p0, (t2_99, (nI ta__2), 2, (nI ta__2)), rfl, ⟨fun h => absurd rfl h, fun _ => ⟨_, _, rfl, .inr (.inr ⟨rfl, rfl, rfl, (nuR_C c_3 hw_50 c_51 hw_2.1).trans (nuS_2 hle_128 (by omega) (vS_t hve_128 ex_129) (.inr (fun h => absurd h.2 c_139)))⟩)⟩, by omega, by omega, ⟨Int32.le_refl _, hle⟩⟩, by rw [ht]; exact hP9, hD9⟩, hS.F ht⟩) hS.2.2 dX6_needNumber_207
            · have c_130 := (nI_eq (a := t2_99) (b := (ta__2 + 1)) (by omega) (by omega)).mp c_130
              refine lv_aload_n hx hb dX6_needNumber_150 rfl (lv_at hl 3 rfl) ?_
              refine lv_iconst (v := 1) hx hb dX6_needNumber_151 (by decide) ?_
              refine lv_aload_n hx hb dX6_needNumber_152 rfl (lv_at hl 3 rfl) ?_
              refine va_get (D := D) (ci := 6) (v := .int (nI t2_99)) (C := RX6) (T := TX6) (N := 6) hx hb hts inX6 hown hK hP 0 rfl rfl 2 (by decide) (hts _ tw_113) (fun _ h9 => h9) rfl dX6_needNumber_153 ?_
              refine rw_v (D := D) (wr := [(aB k x1 240 fx)]) (va_runV (As := [.int 1, .int (nI t2_99)]) (rest := []) ⟨hx, hb, hml, hown, hts⟩ ((y_fail l D k st lo x0 x1 tz t2_99 (nI ta__2) 0 fb 1 (nI t2_99) (by decide)) H.size) (cwV 2 hts (gV tw_476 tw_456 tw_457 tw_80 tw_458) rfl rfl rfl (by decide +kernel) ⟨Nat.le_of_ble_eq_true rfl, Nat.le_of_ble_eq_true rfl⟩) (pV hS hAlo hlo hP hK (va_Dlo hD hAlo) hZ [0] (by decide) rfl (ci := 6) (q := (RX6, TX6, 6)) (q0 := 0) rfl rfl) rfl rfl hl.1 rfl (lv_room (Nat.le_of_ble_eq_true rfl)) dX6_needNumber_156 ⟨Nat.le_of_ble_eq_true rfl, Nat.le_of_ble_eq_true rfl⟩) hS hA hP hD [0] [1] rfl rfl (by decide) (by decide) (fun u H locs hw_144 hP hD hS => ?_)
              obtain ⟨fn__144, fb__144⟩ := u
              replace hP : va_P D classes [(aB k x1 240 fx), (x0, .inr (6, (fX6 x1 (nI tz) (nI t2_99) (nI ta__2) fn__144 fb__144)))] H := hP
              replace hD : va_D A [(aB k x1 240 fx), (x0, .inr (6, (fX6 x1 (nI tz) (nI t2_99) (nI ta__2) fn__144 fb__144)))] := hD
              try dsimp only at hw_144
              obtain ⟨hs0_145, hs1_145⟩ := hw_144.2.1 rfl
              replace hs0_145 := hs0_145.symm
              subst hs0_145
              replace hs1_145 := hs1_145.symm
              subst hs1_145
              refine lv_goto (tgt := 194) hx hb dX6_needNumber_159 (by decide) ?_
              refine lv_aload_n hx hb dX6_needNumber_194 rfl (lv_at hl 3 rfl) ?_
              refine ro_i (D := D) (va_runV (As := []) (rest := []) ⟨hx, hb, hml, hown, hts⟩ ((x_failed l D k st lo x0 x1 tz t2_99 (nI ta__2) 1 (nI t2_99)) H.size) (cwV 0 hts (gV tw_471 tw_368 tw_369 tw_80 tw_370) rfl rfl rfl (by decide +kernel) ⟨Nat.le_of_ble_eq_true rfl, Nat.le_of_ble_eq_true rfl⟩) (pV hS hAlo hlo hP hK (va_Dlo hD hAlo) hZ [1] (by decide) rfl (ci := 6) (q := (RX6, TX6, 6)) (q0 := 0) rfl rfl) rfl rfl hl.1 rfl (lv_room (Nat.le_of_ble_eq_true rfl)) dX6_needNumber_195 ⟨Nat.le_of_ble_eq_true rfl, Nat.le_of_ble_eq_true rfl⟩) hS hA hP (fun r_146 H locs hw_146 hP hS => ?_)
              try dsimp only at hw_146
              obtain rfl : r_146 = 1 := by rcases hw_146 with ⟨h, h2⟩ | ⟨h, h2⟩ <;> first | exact h | exact absurd rfl h2 | exact absurd h2 (by decide)
              refine lv_if_eq (tgt := 205) hx hb dX6_needNumber_198 (by decide) (fun h => absurd h (by decide)) (fun _ => ?_)
              refine lv_iload_n hx hb dX6_needNumber_201 rfl (lv_at hl 4 rfl) ?_
              refine lv_goto (tgt := 207) hx hb dX6_needNumber_202 (by decide) ?_
              have hP9 := hP.sub (ws' := [(x0, .inr (6, (fX6 x1 (nI tz) (nI t2_99) (nI ta__2) 1 (nI t2_99)))), (aB k x1 240 fx)]) [1, 0] rfl
              have hD9 := hD.sub (ws' := [(x0, .inr (6, (fX6 x1 (nI tz) (nI t2_99) (nI ta__2) 1 (nI t2_99)))), (aB k x1 240 fx)]) [1, 0] (by decide) rfl
              exact W.iret (v := p0) hx hb hr (fun t ht hW => ⟨⟨p0, (t2_99, (nI ta__2), 1, (nI t2_99)), rfl, ⟨fun h => absurd rfl h, fun _ => ⟨_, _, rfl, .inr (.inl ⟨rfl, rfl, rfl, (nuR_C c_3 hw_50 c_51 hw_2.1).trans (nuS_1t hle_128 (by omega))⟩)⟩, by omega, by omega, ⟨Int32.le_refl _, hle⟩⟩, by rw [ht]; exact hP9, hD9⟩, hS.F ht⟩) hS.2.2 dX6_needNumber_207


set_option maxHeartbeats 4000000 in
set_option maxRecDepth 100000 in
theorem y_feed (l : Launch) (D : va_G) (k : Nat → ClassId) (st : Nat → Nat) (lo : Nat) (a : Nat → Nat) (rk : Nat) (lfa : Int32) (tz : Nat) (ta : Int32) (na : Int32) (fn : Int32) (fb : Int32) (fx : Nat → Int32) (p0 : Int32) (q1 : Int64) (hz : tz ≤ 240) : CWi l D k st lo yX7_feed cX7_feed 5 (some .int) ({ frames := 1, cells := 0, slots := 0, locals := 21 }) 0 0 [.ref (a 0), .int p0, .long q1] [((a 0), .inr (7, (fX7 (a 1) (a 3) (a 19) (a 35) (a 40) (nI rk) lfa (a 53) (a 56) (a 63) (a 64) (a 68)))), ((a 1), .inr (6, (fX6 (a 2) (nI tz) ta na fn fb))), (aB k (a 2) 240 fx)] (fun (r : Int32) (u : Nat × (Nat → Int32)) => match u with | (tz_, fx_) => feP p0 q1 tz (bF fx) r tz_ (bF fx_) ∧ tz_ ≤ 240) (fun (u : Nat × (Nat → Int32)) => match u with | (tz_, fx_) => [((a 0), .inr (7, (fX7 (a 1) (a 3) (a 19) (a 35) (a 40) (nI rk) lfa (a 53) (a 56) (a 63) (a 64) (a 68)))), ((a 1), .inr (6, (fX6 (a 2) (nI tz_) ta na fn fb))), (aB k (a 2) 240 fx_)]) := by
  intro sz
  refine Met.ofW (cc := cX7_feed) (maxL := 5) (ret := (some .int)) (by decide) rfl ?_
  intro p e s m args below meth c s₁ B hml hv
  obtain ⟨rfl, hsz, hlo, hP, hK, hDL, hZ⟩ := hv
  have hx := B.exec
  have hb := B.bytes
  have hr := B.returns
  have hts := WS_ts B.pre
  have hown : s.vm.findClass RX7 = some m.cls := findClass_of_methodNamed B.named
  have hlocks := B.notSynchronized
  subst hsz
  have hD := hDL.self (sz := s.heap.size)
  have hAlo := A_lo hDL hlo
  generalize hAe : va_A [((a 0), .inr (7, (fX7 (a 1) (a 3) (a 19) (a 35) (a 40) (nI rk) lfa (a 53) (a 56) (a 63) (a 64) (a 68)))), ((a 1), .inr (6, (fX6 (a 2) (nI tz) ta na fn fb))), (aB k (a 2) 240 fx)] s.heap.size = A at hD hAlo ⊢
  have hA : ∀ q : Nat, s.heap.size ≤ q → A q := fun q h => by rw [← hAe]; exact Or.inr h
  have hS : va_S A s.heap s.heap [] := va_S.rf
  have hl := lv_entry ([.ref (a 0), .int p0, .long q1]) (n := 5) (Nat.le_of_ble_eq_true rfl)
  rw [lg_entry_eq]
  generalize (lg_sl ([.ref (a 0), .int p0, .long q1]) ++ List.replicate (5 - (lg_sl ([.ref (a 0), .int p0, .long q1])).length) Slot.unset).toArray = ls at hl ⊢
  have hl : lv_has ls 5 [(0, .ref (a 0)), (1, .int p0), (2, .long q1)] := hl
  refine lv_iload_n hx hb dX7_feed_0 rfl (lv_at hl 1 rfl) ?_
  refine lv_iconst (v := 1) hx hb dX7_feed_1 (by decide) ?_
  refine lv_icmp_lt (tgt := 11) hx hb dX7_feed_2 (by decide) (fun c_1 => ?_) (fun c_1 => ?_)
  · refine lv_sipush (v := (-1002)) hx hb dX7_feed_11 (by decide) ?_
    have hP9 := hP.sub (ws' := [((a 0), .inr (7, (fX7 (a 1) (a 3) (a 19) (a 35) (a 40) (nI rk) lfa (a 53) (a 56) (a 63) (a 64) (a 68)))), ((a 1), .inr (6, (fX6 (a 2) (nI tz) ta na fn fb))), (aB k (a 2) 240 fx)]) [0, 1, 2] rfl
    have hD9 := hD.sub (ws' := [((a 0), .inr (7, (fX7 (a 1) (a 3) (a 19) (a 35) (a 40) (nI rk) lfa (a 53) (a 56) (a 63) (a 64) (a 68)))), ((a 1), .inr (6, (fX6 (a 2) (nI tz) ta na fn fb))), (aB k (a 2) 240 fx)]) [0, 1, 2] (by decide) rfl
    exact W.iret (v := (-1002)) hx hb hr (fun t ht hW => ⟨⟨(-1002), (tz, fx), rfl, ⟨fe_out (fun h => absurd c_1 (Int32.not_lt.mpr h.1)), by omega⟩, by rw [ht]; exact hP9, hD9⟩, hS.F ht⟩) hS.2.2 dX7_feed_14
  · refine lv_iload_n hx hb dX7_feed_5 rfl (lv_at hl 1 rfl) ?_
    refine lv_bipush (v := 8) hx hb dX7_feed_6 (by decide) ?_
    refine lv_icmp_le (tgt := 15) hx hb dX7_feed_8 (by decide) (fun c_2 => ?_) (fun c_2 => ?_)
    · obtain ⟨nb_3, hnl_3, hnh_3, rfl⟩ := inB_ofc (a := 1) (b := 8) (by omega) (by omega) ⟨Int32.not_lt.mp c_1, c_2⟩
      refine lv_aload_n hx hb dX7_feed_15 rfl (lv_at hl 0 rfl) ?_
      refine va_get (D := D) (ci := 7) (v := .ref (a 1)) (C := RX7) (T := TX7) (N := 12) hx hb hts inX7 hown hK hP 0 rfl rfl 0 (by decide) (hts _ tw_305) (fun _ h9 => h9) rfl dX7_feed_16 ?_
      refine va_get (D := D) (ci := 6) (v := .int (nI tz)) (C := RX6) (T := TX6) (N := 6) hx hb hts inX6 hown hK hP 1 rfl rfl 1 (by decide) (hts _ tw_111) (fun _ h9 => h9) rfl dX7_feed_19 ?_
      refine lv_iload_n hx hb dX7_feed_22 rfl (lv_at hl 1 rfl) ?_
      refine lv_iadd hx hb dX7_feed_23 ?_
      refine lv_ti (y := (nI (tz + nb_3))) (nI_add tz nb_3) ?_
      refine lv_sipush (v := 240) hx hb dX7_feed_24 (by decide) ?_
      refine lv_icmp_le (tgt := 34) hx hb dX7_feed_27 (by decide) (fun c_4 => ?_) (fun c_4 => ?_)
      · have c_4 := (nI_leI (a := (tz + nb_3)) (b := 240) (by omega) (by omega)).mp c_4
        refine lv_iload_n hx hb dX7_feed_34 rfl (lv_at hl 1 rfl) ?_
        refine lv_iconst (v := 1) hx hb dX7_feed_35 (by decide) ?_
        refine lv_isub hx hb dX7_feed_36 ?_
        refine lv_ti (y := (nI nb_3 - 1)) rfl ?_
        refine lv_istore (lv' := [(4, .int (nI nb_3 - 1)), (0, .ref (a 0)), (1, .int (nI nb_3)), (2, .long q1)]) hx hb dX7_feed_37 hl (by decide) rfl (fun ls hl => ?_)
        refine W_loop (σ := Nat × Nat × (Nat → Int32)) (fun (n_ : Nat) (x_ : Nat × Nat × (Nat → Int32)) (H : Heap) (locs : List Loc) (ls : Array Slot) => match x_ with | (q_5, tz2_5, fx2_5) => n_ = 2 * q_5 ∧ (q_5 ≤ nb_3 ∧ tz2_5 = tz + (nb_3 - q_5) ∧ bF fx2_5 = feB (bF fx) tz q1 nb_3 (nb_3 - q_5)) ∧ va_P D classes [((a 0), .inr (7, (fX7 (a 1) (a 3) (a 19) (a 35) (a 40) (nI rk) lfa (a 53) (a 56) (a 63) (a 64) (a 68)))), ((a 1), .inr (6, (fX6 (a 2) (nI tz2_5) ta na fn fb))), (aB k (a 2) 240 fx2_5)] H ∧ va_D A [((a 0), .inr (7, (fX7 (a 1) (a 3) (a 19) (a 35) (a 40) (nI rk) lfa (a 53) (a 56) (a 63) (a 64) (a 68)))), ((a 1), .inr (6, (fX6 (a 2) (nI tz2_5) ta na fn fb))), (aB k (a 2) 240 fx2_5)] ∧ va_S A s.heap H locs ∧ lv_has ls 5 [(4, .int (nI q_5 - 1)), (0, .ref (a 0)), (1, .int (nI nb_3)), (2, .long q1)]) (fun n_5 x_5 H locs ls hI ih_5 => ?_) _ (nb_3, tz, fx) ⟨rfl, ⟨by omega, by omega, by rw [Nat.sub_self, feB_0]⟩, hP, hD, hS, (lv_sub hl [0, 1, 2, 3] rfl)⟩
        obtain ⟨q_5, tz2_5, fx2_5⟩ := x_5
        obtain ⟨hm_5, hv_5, hP, hD, hS, hl⟩ := hI
        subst hm_5
        rcases q_5 with _ | q_5
        · rw [dn0] at hl
          refine lv_iload hx hb dX7_feed_39 (lv_at hl 0 rfl) ?_
          refine lv_if_lt (tgt := 66) hx hb dX7_feed_41 (by decide) (fun _ => ?_) (fun h => absurd (by decide) h)
          refine lv_aload_n hx hb dX7_feed_66 rfl (lv_at hl 1 rfl) ?_
          refine va_get (D := D) (ci := 7) (v := .ref (a 1)) (C := RX7) (T := TX7) (N := 12) hx hb hts inX7 hown hK hP 0 rfl rfl 0 (by decide) (hts _ tw_305) (fun _ h9 => h9) rfl dX7_feed_67 ?_
          refine va_get (D := D) (ci := 6) (v := .int (nI tz2_5)) (C := RX6) (T := TX6) (N := 6) hx hb hts inX6 hown hK hP 1 rfl rfl 1 (by decide) (hts _ tw_111) (fun _ h9 => h9) rfl dX7_feed_70 ?_
          have hP9 := hP.sub (ws' := [((a 0), .inr (7, (fX7 (a 1) (a 3) (a 19) (a 35) (a 40) (nI rk) lfa (a 53) (a 56) (a 63) (a 64) (a 68)))), ((a 1), .inr (6, (fX6 (a 2) (nI tz2_5) ta na fn fb))), (aB k (a 2) 240 fx2_5)]) [0, 1, 2] rfl
          have hD9 := hD.sub (ws' := [((a 0), .inr (7, (fX7 (a 1) (a 3) (a 19) (a 35) (a 40) (nI rk) lfa (a 53) (a 56) (a 63) (a 64) (a 68)))), ((a 1), .inr (6, (fX6 (a 2) (nI tz2_5) ta na fn fb))), (aB k (a 2) 240 fx2_5)]) [0, 1, 2] (by decide) rfl
          exact W.iret (v := (nI tz2_5)) hx hb hr (fun t ht hW => ⟨⟨(nI tz2_5), (tz2_5, fx2_5), rfl, ⟨fe_ok (by omega) (by omega) (by omega) rfl (by omega) (by have h9 := hv_5.2.2; exact h9), by omega⟩, by rw [ht]; exact hP9, hD9⟩, hS.F ht⟩) hS.2.2 dX7_feed_73
        · rw [nI_pred] at hl
          refine lv_iload hx hb dX7_feed_39 (lv_at hl 0 rfl) ?_
          refine lv_if_lt (tgt := 66) hx hb dX7_feed_41 (by decide) (fun h => absurd h (nI_pos0 (by omega))) (fun _ => ?_)
          refine lv_aload_n hx hb dX7_feed_44 rfl (lv_at hl 1 rfl) ?_
          refine va_get (D := D) (ci := 7) (v := .ref (a 1)) (C := RX7) (T := TX7) (N := 12) hx hb hts inX7 hown hK hP 0 rfl rfl 0 (by decide) (hts _ tw_305) (fun _ h9 => h9) rfl dX7_feed_45 ?_
          refine lv_lload_n hx hb dX7_feed_48 rfl (lv_at hl 3 rfl) ?_
          refine lv_bipush (v := 8) hx hb dX7_feed_49 (by decide) ?_
          refine lv_iload hx hb dX7_feed_51 (lv_at hl 0 rfl) ?_
          refine lv_imul hx hb dX7_feed_53 ?_
          refine lv_ti (y := (nI (8 * q_5))) (pk_mul 8 q_5) ?_
          refine lv_lshr hx hb dX7_feed_54 rfl ?_
          refine lv_topl (fun x_6 ex_6 => ?_)
          refine lv_l2i hx hb dX7_feed_55 rfl ?_
          refine lv_topi (fun x_7 ex_7 => ?_)
          refine lv_i2b hx hb dX7_feed_56 rfl ?_
          refine lv_topi (fun x_8 ex_8 => ?_)
          refine rw_v (D := D) (wr := [((a 0), .inr (7, (fX7 (a 1) (a 3) (a 19) (a 35) (a 40) (nI rk) lfa (a 53) (a 56) (a 63) (a 64) (a 68))))]) (va_runV (As := [.int x_8]) (rest := []) ⟨hx, hb, hml, hown, hts⟩ ((y_append l D k st lo (a 1) (a 2) tz2_5 ta na fn fb fx2_5 x_8 (by omega)) H.size) (cwV 1 hts (gV tw_346 tw_347 tw_348 tw_80 tw_349) rfl rfl rfl (by decide +kernel) ⟨Nat.le_of_ble_eq_true rfl, Nat.le_of_ble_eq_true rfl⟩) (pV hS hAlo hlo hP hK (va_Dlo hD hAlo) hZ [1, 2] (by decide) rfl (ci := 6) (q := (RX6, TX6, 6)) (q0 := 0) rfl rfl) rfl rfl hl.1 rfl (lv_room (Nat.le_of_ble_eq_true rfl)) dX7_feed_57 ⟨Nat.le_of_ble_eq_true rfl, Nat.le_of_ble_eq_true rfl⟩) hS hA hP hD [1, 2] [0] rfl rfl (by decide) (by decide) (fun u H locs hw_9 hP hD hS => ?_)
          obtain ⟨tz__9, fx__9⟩ := u
          replace hP : va_P D classes [((a 0), .inr (7, (fX7 (a 1) (a 3) (a 19) (a 35) (a 40) (nI rk) lfa (a 53) (a 56) (a 63) (a 64) (a 68)))), ((a 1), .inr (6, (fX6 (a 2) (nI tz__9) ta na fn fb))), (aB k (a 2) 240 fx__9)] H := hP
          replace hD : va_D A [((a 0), .inr (7, (fX7 (a 1) (a 3) (a 19) (a 35) (a 40) (nI rk) lfa (a 53) (a 56) (a 63) (a 64) (a 68)))), ((a 1), .inr (6, (fX6 (a 2) (nI tz__9) ta na fn fb))), (aB k (a 2) 240 fx__9)] := hD
          try dsimp only at hw_9
          refine lv_iinc (v := (nI q_5 - 1)) (lv' := [(4, .int (nI q_5 - 1)), (0, .ref (a 0)), (1, .int (nI nb_3)), (2, .long q1)]) hx hb dX7_feed_60 hl (k := 0) rfl (dn1 _) (by decide) rfl (fun ls hl => ?_)
          refine lv_goto (tgt := 39) hx hb dX7_feed_63 (by decide) ?_
          exact ih_5 _ (q_5, tz__9, fx__9) _ _ _ (by omega) ⟨rfl, ⟨by omega, by omega, by rw [hw_9.2]; exact fe_step hv_5.2.2 hv_5.2.1 (by omega) (byW_x ex_6 ex_7 ex_8)⟩, hP, hD, hS, (lv_sub hl [0, 1, 2, 3] rfl)⟩
      · have c_4 : ¬ ((tz + nb_3) ≤ 240) := fun h => c_4 ((nI_leI (a := (tz + nb_3)) (b := 240) (by omega) (by omega)).mpr h)
        refine lv_sipush (v := (-1004)) hx hb dX7_feed_30 (by decide) ?_
        have hP9 := hP.sub (ws' := [((a 0), .inr (7, (fX7 (a 1) (a 3) (a 19) (a 35) (a 40) (nI rk) lfa (a 53) (a 56) (a 63) (a 64) (a 68)))), ((a 1), .inr (6, (fX6 (a 2) (nI tz) ta na fn fb))), (aB k (a 2) 240 fx)]) [0, 1, 2] rfl
        have hD9 := hD.sub (ws' := [((a 0), .inr (7, (fX7 (a 1) (a 3) (a 19) (a 35) (a 40) (nI rk) lfa (a 53) (a 56) (a 63) (a 64) (a 68)))), ((a 1), .inr (6, (fX6 (a 2) (nI tz) ta na fn fb))), (aB k (a 2) 240 fx)]) [0, 1, 2] (by decide) rfl
        exact W.iret (v := (-1004)) hx hb hr (fun t ht hW => ⟨⟨(-1004), (tz, fx), rfl, ⟨fe_full (by omega) (by omega) (by omega), by omega⟩, by rw [ht]; exact hP9, hD9⟩, hS.F ht⟩) hS.2.2 dX7_feed_33
    · refine lv_sipush (v := (-1002)) hx hb dX7_feed_11 (by decide) ?_
      have hP9 := hP.sub (ws' := [((a 0), .inr (7, (fX7 (a 1) (a 3) (a 19) (a 35) (a 40) (nI rk) lfa (a 53) (a 56) (a 63) (a 64) (a 68)))), ((a 1), .inr (6, (fX6 (a 2) (nI tz) ta na fn fb))), (aB k (a 2) 240 fx)]) [0, 1, 2] rfl
      have hD9 := hD.sub (ws' := [((a 0), .inr (7, (fX7 (a 1) (a 3) (a 19) (a 35) (a 40) (nI rk) lfa (a 53) (a 56) (a 63) (a 64) (a 68)))), ((a 1), .inr (6, (fX6 (a 2) (nI tz) ta na fn fb))), (aB k (a 2) 240 fx)]) [0, 1, 2] (by decide) rfl
      exact W.iret (v := (-1002)) hx hb hr (fun t ht hW => ⟨⟨(-1002), (tz, fx), rfl, ⟨fe_out (fun h => absurd h.2 c_2), by omega⟩, by rw [ht]; exact hP9, hD9⟩, hS.F ht⟩) hS.2.2 dX7_feed_14


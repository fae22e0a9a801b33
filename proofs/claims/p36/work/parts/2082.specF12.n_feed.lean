set_option maxHeartbeats 4000000 in
set_option maxRecDepth 100000 in
theorem n_feed (l : Launch) (D : va_G) (k : Nat → ClassId) (st : Nat → Nat) (lo : Nat) (a : Nat → Nat) (tx : Nat) (t0 : Nat) (we : Nat) (rd : Nat) (ru : Nat) (rw : Nat) (ca : Nat) (fp : Int32) (wd : Int64) (nu : Int32) (na : Int32) (ts : Int32) (df : Int32) (db : Int32) (sd : Int32) (ftext : Nat → Int32) (p0 : Int32) (q1 : Int64) (htx : tx ≤ 240) : CWi l D k st lo yX8_feed cX8_feed 5 (some .int) ({ frames := 1, cells := 0, slots := 0, locals := 25 }) 0 0 [.ref (a 0), .int p0, .long q1] [((a 0), .inr (8, (fX8 a (nI tx) fp (nI t0) wd (nI we) nu na (nI rd) ts (nI ru) (nI rw) (nI ca) df db sd))), (aI k (a 5) 240 ftext)] (fun (r : Int32) (u : Nat × (Nat → Int32)) => match u with | (tx_, ftext_) => feP p0 q1 tx ftext r tx_ ftext_ ∧ tx_ ≤ 240) (fun (u : Nat × (Nat → Int32)) => match u with | (tx_, ftext_) => [((a 0), .inr (8, (fX8 a (nI tx_) fp (nI t0) wd (nI we) nu na (nI rd) ts (nI ru) (nI rw) (nI ca) df db sd))), (aI k (a 5) 240 ftext_)]) := by
  intro sz
  refine Met.ofW (cc := cX8_feed) (maxL := 5) (ret := (some .int)) (by decide) rfl ?_
  intro p e s m args below meth c s₁ B hml hv
  obtain ⟨rfl, hsz, hlo, hP, hK, hDL, hZ⟩ := hv
  have hx := B.exec
  have hb := B.bytes
  have hr := B.returns
  have hts := WS_ts B.pre
  have hown : s.vm.findClass RX8 = some m.cls := findClass_of_methodNamed B.named
  have hlocks := B.notSynchronized
  subst hsz
  have hD := hDL.self (sz := s.heap.size)
  have hAlo := A_lo hDL hlo
  generalize hAe : va_A [((a 0), .inr (8, (fX8 a (nI tx) fp (nI t0) wd (nI we) nu na (nI rd) ts (nI ru) (nI rw) (nI ca) df db sd))), (aI k (a 5) 240 ftext)] s.heap.size = A at hD hAlo ⊢
  have hA : ∀ q : Nat, s.heap.size ≤ q → A q := fun q h => by rw [← hAe]; exact Or.inr h
  have hS : va_S A s.heap s.heap [] := va_S.rf
  have hl := lv_entry ([.ref (a 0), .int p0, .long q1]) (n := 5) (Nat.le_of_ble_eq_true rfl)
  rw [lg_entry_eq]
  generalize (lg_sl ([.ref (a 0), .int p0, .long q1]) ++ List.replicate (5 - (lg_sl ([.ref (a 0), .int p0, .long q1])).length) Slot.unset).toArray = ls at hl ⊢
  have hl : lv_has ls 5 [(0, .ref (a 0)), (1, .int p0), (2, .long q1)] := hl
  refine lv_iload_n hx hb dX8_feed_0 rfl (lv_at hl 1 rfl) ?_
  refine lv_i2l (v := p0.toInt64) hx hb dX8_feed_1 rfl ?_
  refine lv_lconst (v := (1 : Int32).toInt64) hx hb dX8_feed_2 (by decide) ?_
  refine lv_ldc2 hx hb hown (hts _ tw_1110) dX8_feed_3 ?_
  refine lv_tl (y := ((8 : Int32).toInt64)) (by decide) ?_
  refine ro_i (D := D) (va_runS (As := [.long (p0.toInt64), .long ((1 : Int32).toInt64), .long ((8 : Int32).toInt64)]) (rest := []) ⟨hx, hb, hml, hown, hts⟩ ((k_in l D k st lo p0 (1 : Int32) (8 : Int32)) s.heap.size) (va_cwS 3 hts (gS tw_1111 tw_1112 tw_87 tw_1113) rfl rfl rfl (by decide +kernel) ⟨Nat.le_of_ble_eq_true rfl, Nat.le_of_ble_eq_true rfl⟩) (pS hS hAlo hlo hP hK (va_Dlo hD hAlo) hZ [] (by decide) rfl) rfl rfl hl.1 rfl (lv_room (Nat.le_of_ble_eq_true rfl)) dX8_feed_6 ⟨Nat.le_of_ble_eq_true rfl, Nat.le_of_ble_eq_true rfl⟩) hS hA hP (fun r_1 H locs hw_1 hP hS => ?_)
  try dsimp only at hw_1
  rcases hw_1 with ⟨rfl, hw_1⟩ | ⟨rfl, hw_1⟩
  · refine lv_if_ne (tgt := 16) hx hb dX8_feed_9 (by decide) (fun _ => ?_) (fun h => absurd h (by decide))
    obtain ⟨nn_9, hna_9, hnb_9, rfl⟩ := inB_ofc (a := 1) (b := 8) (by omega) (by omega) hw_1
    refine lv_aload_n hx hb dX8_feed_16 rfl (lv_at hl 0 rfl) ?_
    refine va_get (D := D) (ci := 8) (v := .int (nI tx)) (C := RX8) (T := TX8) (N := 44) hx hb hts inX8 hown hK hP 0 rfl rfl 5 (by decide) (hts _ tw_978) (fun _ h9 => h9) rfl dX8_feed_17 ?_
    refine lv_iload_n hx hb dX8_feed_20 rfl (lv_at hl 1 rfl) ?_
    refine lv_iadd hx hb dX8_feed_21 ?_
    refine lv_ti (y := (nI (tx + nn_9))) (nI_add tx nn_9) ?_
    refine lv_sipush (v := 240) hx hb dX8_feed_22 (by decide) ?_
    refine lv_icmp_le (tgt := 32) hx hb dX8_feed_25 (by decide) (fun c_2 => ?_) (fun c_2 => ?_)
    · have c_2 := (nI_leI (a := (tx + nn_9)) (b := 240) (by omega) (by omega)).mp c_2
      refine lv_iload_n hx hb dX8_feed_32 rfl (lv_at hl 1 rfl) ?_
      refine lv_iconst (v := 1) hx hb dX8_feed_33 (by decide) ?_
      refine lv_isub hx hb dX8_feed_34 ?_
      refine lv_ti (y := (nI nn_9 - 1)) rfl ?_
      refine lv_istore (lv' := [(4, .int (nI nn_9 - 1)), (0, .ref (a 0)), (1, .int (nI nn_9)), (2, .long q1)]) hx hb dX8_feed_35 hl (by decide) rfl (fun ls hl => ?_)
      refine W_loop (σ := Nat × Nat × (Nat → Int32)) (fun (n_ : Nat) (x_ : Nat × Nat × (Nat → Int32)) (H : Heap) (locs : List Loc) (ls : Array Slot) => match x_ with | (q_3, t_3, ft_3) => n_ = 2 * q_3 ∧ (t_3 + q_3 ≤ 240 ∧ q_3 ≤ nn_9 ∧ t_3 = tx + (nn_9 - q_3) ∧ ft_3 = feB ftext tx q1 nn_9 (nn_9 - q_3)) ∧ va_P D classes [((a 0), .inr (8, (fX8 a (nI t_3) fp (nI t0) wd (nI we) nu na (nI rd) ts (nI ru) (nI rw) (nI ca) df db sd))), (aI k (a 5) 240 ft_3)] H ∧ va_D A [((a 0), .inr (8, (fX8 a (nI t_3) fp (nI t0) wd (nI we) nu na (nI rd) ts (nI ru) (nI rw) (nI ca) df db sd))), (aI k (a 5) 240 ft_3)] ∧ va_S A s.heap H locs ∧ lv_has ls 5 [(4, .int (nI q_3 - 1)), (0, .ref (a 0)), (1, .int (nI nn_9)), (2, .long q1)]) (fun n_3 x_3 H locs ls hI ih_3 => ?_) _ (nn_9, tx, ftext) ⟨rfl, ⟨by omega, by omega, by omega, by rw [Nat.sub_self, feB_0]⟩, hP, hD, hS, (lv_sub hl [0, 1, 2, 3] rfl)⟩
      obtain ⟨q_3, t_3, ft_3⟩ := x_3
      obtain ⟨hm_3, hv_3, hP, hD, hS, hl⟩ := hI
      subst hm_3
      rcases q_3 with _ | q_3
      · rw [dn0] at hl
        refine lv_iload hx hb dX8_feed_37 (lv_at hl 0 rfl) ?_
        refine lv_if_lt (tgt := 79) hx hb dX8_feed_39 (by decide) (fun _ => ?_) (fun h => absurd (by decide) h)
        refine lv_aload_n hx hb dX8_feed_79 rfl (lv_at hl 1 rfl) ?_
        refine va_get (D := D) (ci := 8) (v := .int (nI t_3)) (C := RX8) (T := TX8) (N := 44) hx hb hts inX8 hown hK hP 0 rfl rfl 5 (by decide) (hts _ tw_978) (fun _ h9 => h9) rfl dX8_feed_80 ?_
        have hP9 := hP.sub (ws' := [((a 0), .inr (8, (fX8 a (nI t_3) fp (nI t0) wd (nI we) nu na (nI rd) ts (nI ru) (nI rw) (nI ca) df db sd))), (aI k (a 5) 240 ft_3)]) [0, 1] rfl
        have hD9 := hD.sub (ws' := [((a 0), .inr (8, (fX8 a (nI t_3) fp (nI t0) wd (nI we) nu na (nI rd) ts (nI ru) (nI rw) (nI ca) df db sd))), (aI k (a 5) 240 ft_3)]) [0, 1] (by decide) rfl
        exact W.iret (v := (nI t_3)) hx hb hr (fun t ht hW => ⟨⟨(nI t_3), (t_3, ft_3), rfl, ⟨fe_ok (by omega) (by omega) (by omega) rfl (by omega) (by have h9 := hv_3.2.2.2; exact h9), by omega⟩, by rw [ht]; exact hP9, hD9⟩, hS.F ht⟩) hS.2.2 dX8_feed_83
      · rw [nI_pred] at hl
        refine lv_iload hx hb dX8_feed_37 (lv_at hl 0 rfl) ?_
        refine lv_if_lt (tgt := 79) hx hb dX8_feed_39 (by decide) (fun h => absurd h (nI_pos0 (by omega))) (fun _ => ?_)
        refine lv_aload_n hx hb dX8_feed_42 rfl (lv_at hl 1 rfl) ?_
        refine va_get (D := D) (ci := 8) (v := .ref (a 5)) (C := RX8) (T := TX8) (N := 44) hx hb hts inX8 hown hK hP 0 rfl rfl 4 (by decide) (hts _ tw_977) (fun _ h9 => h9) rfl dX8_feed_43 ?_
        refine lv_aload_n hx hb dX8_feed_46 rfl (lv_at hl 1 rfl) ?_
        refine va_get (D := D) (ci := 8) (v := .int (nI t_3)) (C := RX8) (T := TX8) (N := 44) hx hb hts inX8 hown hK hP 0 rfl rfl 5 (by decide) (hts _ tw_978) (fun _ h9 => h9) rfl dX8_feed_47 ?_
        refine lv_lload_n hx hb dX8_feed_50 rfl (lv_at hl 3 rfl) ?_
        refine lv_bipush (v := 8) hx hb dX8_feed_51 (by decide) ?_
        refine lv_iload hx hb dX8_feed_53 (lv_at hl 0 rfl) ?_
        refine lv_imul hx hb dX8_feed_55 ?_
        refine lv_ti (y := (nI (8 * q_3))) (pk_mul 8 q_3) ?_
        refine lv_lshr hx hb dX8_feed_56 rfl ?_
        refine lv_topl (fun x_4 ex_4 => ?_)
        refine lv_ldc2 hx hb hown (hts _ tw_1114) dX8_feed_57 ?_
        refine lv_tl (y := ((255 : Int32).toInt64)) (by decide) ?_
        refine lv_land hx hb dX8_feed_60 ?_
        refine lv_topl (fun x_5 ex_5 => ?_)
        refine lv_l2i hx hb dX8_feed_61 rfl ?_
        refine lv_topi (fun x_6 ex_6 => ?_)
        refine va_iast hx hb hK hP hD hS 1 1 rfl rfl (vp_in_nI (by omega) (by decide)) dX8_feed_62 (fun H locs hP hD hS => ?_)
        replace hP : va_P D classes [((a 0), .inr (8, (fX8 a (nI t_3) fp (nI t0) wd (nI we) nu na (nI rd) ts (nI ru) (nI rw) (nI ca) df db sd))), (aI k (a 5) 240 (upd ft_3 (Int32.toNatClampNeg (nI t_3)) x_6))] H := hP
        replace hD : va_D A [((a 0), .inr (8, (fX8 a (nI t_3) fp (nI t0) wd (nI we) nu na (nI rd) ts (nI ru) (nI rw) (nI ca) df db sd))), (aI k (a 5) 240 (upd ft_3 (Int32.toNatClampNeg (nI t_3)) x_6))] := hD
        rw [nI_clamp (n := t_3) (by omega)] at hP hD
        replace hP : va_P D classes [((a 0), .inr (8, (fX8 a (nI t_3) fp (nI t0) wd (nI we) nu na (nI rd) ts (nI ru) (nI rw) (nI ca) df db sd))), (aI k (a 5) 240 (upd ft_3 t_3 x_6))] H := hP
        replace hD : va_D A [((a 0), .inr (8, (fX8 a (nI t_3) fp (nI t0) wd (nI we) nu na (nI rd) ts (nI ru) (nI rw) (nI ca) df db sd))), (aI k (a 5) 240 (upd ft_3 t_3 x_6))] := hD
        refine lv_aload_n hx hb dX8_feed_63 rfl (lv_at hl 1 rfl) ?_
        refine lv_dup hx hb dX8_feed_64 rfl ?_
        refine va_get (D := D) (ci := 8) (v := .int (nI t_3)) (C := RX8) (T := TX8) (N := 44) hx hb hts inX8 hown hK hP 0 rfl rfl 5 (by decide) (hts _ tw_978) (fun _ h9 => h9) rfl dX8_feed_65 ?_
        refine lv_iconst (v := 1) hx hb dX8_feed_68 (by decide) ?_
        refine lv_iadd hx hb dX8_feed_69 ?_
        refine lv_ti (y := (nI (t_3 + 1))) (nI_add t_3 1) ?_
        refine va_put (D := D) (ci := 8) (v := .int (nI (t_3 + 1))) (ty := .int) (C := RX8) (T := TX8) (N := 44) hx hb hts inX8 tyX8 tyX8_ok nmX8 hown hK hP hD hS 0 rfl rfl 5 (by decide) (hts _ tw_978) (fun _ h9 => h9) rfl (by decide +kernel) rfl rfl (Nat.le_of_ble_eq_true rfl) dX8_feed_70 (fun H locs hP hD hS => ?_)
        replace hP : va_P D classes [((a 0), .inr (8, (fX8 a (nI (t_3 + 1)) fp (nI t0) wd (nI we) nu na (nI rd) ts (nI ru) (nI rw) (nI ca) df db sd))), (aI k (a 5) 240 (upd ft_3 t_3 x_6))] H := hP
        replace hD : va_D A [((a 0), .inr (8, (fX8 a (nI (t_3 + 1)) fp (nI t0) wd (nI we) nu na (nI rd) ts (nI ru) (nI rw) (nI ca) df db sd))), (aI k (a 5) 240 (upd ft_3 t_3 x_6))] := hD
        refine lv_iinc (v := (nI q_3 - 1)) (lv' := [(4, .int (nI q_3 - 1)), (0, .ref (a 0)), (1, .int (nI nn_9)), (2, .long q1)]) hx hb dX8_feed_73 hl (k := 0) rfl (dn1 _) (by decide) rfl (fun ls hl => ?_)
        refine lv_goto (tgt := 37) hx hb dX8_feed_76 (by decide) ?_
        exact ih_3 _ (q_3, t_3 + 1, (upd ft_3 t_3 x_6)) _ _ _ (by omega) ⟨rfl, ⟨by omega, by omega, by omega, by rw [ex_6, ex_5, ex_4, show ((255 : Int32).toInt64) = (255 : Int64) from by decide]; exact fe_stepM hv_3.2.2.2 hv_3.2.2.1 (by omega)⟩, hP, hD, hS, (lv_sub hl [0, 1, 2, 3] rfl)⟩
    · have c_2 : ¬ ((tx + nn_9) ≤ 240) := fun h => c_2 ((nI_leI (a := (tx + nn_9)) (b := 240) (by omega) (by omega)).mpr h)
      refine lv_sipush (v := (-1004)) hx hb dX8_feed_28 (by decide) ?_
      have hP9 := hP.sub (ws' := [((a 0), .inr (8, (fX8 a (nI tx) fp (nI t0) wd (nI we) nu na (nI rd) ts (nI ru) (nI rw) (nI ca) df db sd))), (aI k (a 5) 240 ftext)]) [0, 1] rfl
      have hD9 := hD.sub (ws' := [((a 0), .inr (8, (fX8 a (nI tx) fp (nI t0) wd (nI we) nu na (nI rd) ts (nI ru) (nI rw) (nI ca) df db sd))), (aI k (a 5) 240 ftext)]) [0, 1] (by decide) rfl
      exact W.iret (v := (-1004)) hx hb hr (fun t ht hW => ⟨⟨(-1004), (tx, ftext), rfl, ⟨fe_full (by omega) (by omega) (by omega), by omega⟩, by rw [ht]; exact hP9, hD9⟩, hS.F ht⟩) hS.2.2 dX8_feed_31
  · refine lv_if_ne (tgt := 16) hx hb dX8_feed_9 (by decide) (fun h => absurd (by decide) h) (fun _ => ?_)
    refine lv_sipush (v := (-1002)) hx hb dX8_feed_12 (by decide) ?_
    have hP9 := hP.sub (ws' := [((a 0), .inr (8, (fX8 a (nI tx) fp (nI t0) wd (nI we) nu na (nI rd) ts (nI ru) (nI rw) (nI ca) df db sd))), (aI k (a 5) 240 ftext)]) [0, 1] rfl
    have hD9 := hD.sub (ws' := [((a 0), .inr (8, (fX8 a (nI tx) fp (nI t0) wd (nI we) nu na (nI rd) ts (nI ru) (nI rw) (nI ca) df db sd))), (aI k (a 5) 240 ftext)]) [0, 1] (by decide) rfl
    exact W.iret (v := (-1002)) hx hb hr (fun t ht hW => ⟨⟨(-1002), (tx, ftext), rfl, ⟨fe_out hw_1, by omega⟩, by rw [ht]; exact hP9, hD9⟩, hS.F ht⟩) hS.2.2 dX8_feed_15



set_option maxHeartbeats 4000000 in
set_option maxRecDepth 100000 in
theorem n_judge (l : Launch) (D : va_G) (k : Nat → ClassId) (st : Nat → Nat) (lo : Nat) (a : Nat → Nat) (tx : Nat) (t0 : Nat) (we : Nat) (rd : Nat) (ru : Nat) (rw : Nat) (ca : Nat) (fp : Int32) (wd : Int64) (nu : Int32) (na : Int32) (ts : Int32) (df : Int32) (db : Int32) (sd : Int32) (dn : Nat → Nat) (se : Nat → Nat) (tm : Nat → Nat) (gs : Nat → Int32) (ffrees : Nat → Int32) (fprices : Nat → Int32) (frow : Nat → Int32) (fons : Nat → Int32) (fworths : Nat → Int32) (fstarts : Nat → Int32) (fends : Nat → Int32) (fgoesRound : Nat → Int32) (fbegin : Nat → Int32) (p0 : Int32) (p1 : Int32) (p2 : Int32) (hdn : ∀ j, dn j ≤ 24) (hse : ∀ j, se j ≤ 2) (htm : ∀ j, tm j ≤ 3) (hrw : rw ≤ 24) (hfr : ∀ i, i < 24 → frow i = 0 ∨ frow i = 1) : CWi l D k st lo yX8_judge cX8_judge 7 (some .int) ({ frames := 6, cells := 0, slots := 0, locals := 144 }) 0 0 [.ref (a 0), .int p0, .int p1, .int p2] [((a 0), .inr (8, (fX8 a (nI tx) fp (nI t0) wd (nI we) nu na (nI rd) ts (nI ru) (nI rw) (nI ca) df db sd))), (aI k (a 1) 3 (nF dn)), (aI k (a 4) 27 (sg se tm gs)), (aI k (a 2) 72 ffrees), (aI k (a 3) 72 fprices), (aZ k (a 32) 24 frow), (aI k (a 18) 768 fons), (aI k (a 19) 768 fworths), (aI k (a 20) 5 fstarts), (aI k (a 21) 4 fends), (aZ k (a 22) 4 fgoesRound), (aI k (a 23) 8 fbegin)] (fun (r : Int32) (u : (Nat → Int32) × (Nat → Int32) × (Nat → Int32) × (Nat → Int32) × (Nat → Int32) × (Nat → Int32)) => match u with | (fons_, fworths_, fstarts_, fends_, fgoesRound_, fbegin_) => tqP (sdM dn (sg se tm gs) ffrees fprices) p0 (jdA p1 p2 frow rw) r) (fun (u : (Nat → Int32) × (Nat → Int32) × (Nat → Int32) × (Nat → Int32) × (Nat → Int32) × (Nat → Int32)) => match u with | (fons_, fworths_, fstarts_, fends_, fgoesRound_, fbegin_) => [((a 0), .inr (8, (fX8 a (nI tx) fp (nI t0) wd (nI we) nu na (nI rd) ts (nI ru) (nI rw) (nI ca) df db sd))), (aI k (a 1) 3 (nF dn)), (aI k (a 4) 27 (sg se tm gs)), (aI k (a 2) 72 ffrees), (aI k (a 3) 72 fprices), (aZ k (a 32) 24 frow), (aI k (a 18) 768 fons_), (aI k (a 19) 768 fworths_), (aI k (a 20) 5 fstarts_), (aI k (a 21) 4 fends_), (aZ k (a 22) 4 fgoesRound_), (aI k (a 23) 8 fbegin_)]) := by
  intro sz
  refine Met.ofW (cc := cX8_judge) (maxL := 7) (ret := (some .int)) (by decide) rfl ?_
  intro p e s m args below meth c s₁ B hml hv
  obtain ⟨rfl, hsz, hlo, hP, hK, hDL, hZ⟩ := hv
  have hx := B.exec
  have hb := B.bytes
  have hr := B.returns
  have hts := WS_ts B.pre
  have hown : s.vm.findClass RX8 = some m.cls := findClass_of_methodNamed B.named
  have hlocks := B.notSynchronized
  subst hsz
  have hD := hDL.self (sz := s.heap.size)
  have hAlo := A_lo hDL hlo
  generalize hAe : va_A [((a 0), .inr (8, (fX8 a (nI tx) fp (nI t0) wd (nI we) nu na (nI rd) ts (nI ru) (nI rw) (nI ca) df db sd))), (aI k (a 1) 3 (nF dn)), (aI k (a 4) 27 (sg se tm gs)), (aI k (a 2) 72 ffrees), (aI k (a 3) 72 fprices), (aZ k (a 32) 24 frow), (aI k (a 18) 768 fons), (aI k (a 19) 768 fworths), (aI k (a 20) 5 fstarts), (aI k (a 21) 4 fends), (aZ k (a 22) 4 fgoesRound), (aI k (a 23) 8 fbegin)] s.heap.size = A at hD hAlo ⊢
  have hA : ∀ q : Nat, s.heap.size ≤ q → A q := fun q h => by rw [← hAe]; exact Or.inr h
  have hS : va_S A s.heap s.heap [] := va_S.rf
  have hl := lv_entry ([.ref (a 0), .int p0, .int p1, .int p2]) (n := 7) (Nat.le_of_ble_eq_true rfl)
  rw [lg_entry_eq]
  generalize (lg_sl ([.ref (a 0), .int p0, .int p1, .int p2]) ++ List.replicate (7 - (lg_sl ([.ref (a 0), .int p0, .int p1, .int p2])).length) Slot.unset).toArray = ls at hl ⊢
  have hl : lv_has ls 7 [(0, .ref (a 0)), (1, .int p0), (2, .int p1), (3, .int p2)] := hl
  refine lv_aload_n hx hb dX8_judge_0 rfl (lv_at hl 0 rfl) ?_
  refine lv_iload_n hx hb dX8_judge_1 rfl (lv_at hl 1 rfl) ?_
  refine ro_i (D := D) (va_runV (As := [.int p0]) (rest := []) ⟨hx, hb, hml, hown, hts⟩ ((n_isStreet l D k st lo a tx t0 we rd ru rw ca fp wd nu na ts df db sd dn p0 hdn) s.heap.size) (cwV 1 hts (gV tw_1189 tw_1191 tw_38 tw_87 tw_1192) rfl rfl rfl (by decide +kernel) ⟨Nat.le_of_ble_eq_true rfl, Nat.le_of_ble_eq_true rfl⟩) (pV hS hAlo hlo hP hK (va_Dlo hD hAlo) hZ [0, 1] (by decide) rfl (ci := 8) (q := (RX8, TX8, 44)) (q0 := 0) rfl rfl) rfl rfl hl.1 rfl (lv_room (Nat.le_of_ble_eq_true rfl)) dX8_judge_2 ⟨Nat.le_of_ble_eq_true rfl, Nat.le_of_ble_eq_true rfl⟩) hS hA hP (fun r_1 H locs hw_1 hP hS => ?_)
  try dsimp only at hw_1
  rcases hw_1 with ⟨rfl, j_2, hj_2, rfl, hw_1⟩ | ⟨rfl, hw_1⟩
  · have hdj_2 := hdn j_2
    have htj_2 := htm j_2
    refine lv_if_ne (tgt := 12) hx hb dX8_judge_5 (by decide) (fun _ => ?_) (fun h => absurd h (by decide))
    refine lv_aload_n hx hb dX8_judge_12 rfl (lv_at hl 0 rfl) ?_
    refine lv_iload_n hx hb dX8_judge_13 rfl (lv_at hl 1 rfl) ?_
    refine lv_iload_n hx hb dX8_judge_14 rfl (lv_at hl 2 rfl) ?_
    refine ro_i (D := D) (va_runV (As := [.int (nI j_2), .int p1]) (rest := []) ⟨hx, hb, hml, hown, hts⟩ ((n_isRound l D k st lo a tx t0 we rd ru rw ca fp wd nu na ts df db sd se tm gs j_2 p1 htm (by first | assumption | omega)) H.size) (cwV 2 hts (gV tw_1218 tw_1220 tw_42 tw_87 tw_1221) rfl rfl rfl (by decide +kernel) ⟨Nat.le_of_ble_eq_true rfl, Nat.le_of_ble_eq_true rfl⟩) (pV hS hAlo hlo hP hK (va_Dlo hD hAlo) hZ [0, 2] (by decide) rfl (ci := 8) (q := (RX8, TX8, 44)) (q0 := 0) rfl rfl) rfl rfl hl.1 rfl (lv_room (Nat.le_of_ble_eq_true rfl)) dX8_judge_15 ⟨Nat.le_of_ble_eq_true rfl, Nat.le_of_ble_eq_true rfl⟩) hS hA hP (fun r_3 H locs hw_3 hP hS => ?_)
    try dsimp only at hw_3
    rcases hw_3 with ⟨rfl, j_4, hj_4, rfl, hw_3⟩ | ⟨rfl, hw_3⟩
    · refine lv_if_ne (tgt := 25) hx hb dX8_judge_18 (by decide) (fun _ => ?_) (fun h => absurd h (by decide))
      refine lv_aload_n hx hb dX8_judge_25 rfl (lv_at hl 0 rfl) ?_
      refine va_get (D := D) (ci := 8) (v := .int (nI rw)) (C := RX8) (T := TX8) (N := 44) hx hb hts inX8 hown hK hP 0 rfl rfl 30 (by decide) (hts _ tw_1003) (fun _ h9 => h9) rfl dX8_judge_26 ?_
      refine lv_if_eq (tgt := 63) hx hb dX8_judge_29 (by decide) (fun c_5 => ?_) (fun c_5 => ?_)
      · have c_5 := (nI_eq (a := rw) (b := 0) (by omega) (by omega)).mp c_5
        refine lv_sipush (v := (-1003)) hx hb dX8_judge_63 (by decide) ?_
        have hP9 := hP.sub (ws' := [((a 0), .inr (8, (fX8 a (nI tx) fp (nI t0) wd (nI we) nu na (nI rd) ts (nI ru) (nI rw) (nI ca) df db sd))), (aI k (a 1) 3 (nF dn)), (aI k (a 4) 27 (sg se tm gs)), (aI k (a 2) 72 ffrees), (aI k (a 3) 72 fprices), (aZ k (a 32) 24 frow), (aI k (a 18) 768 fons), (aI k (a 19) 768 fworths), (aI k (a 20) 5 fstarts), (aI k (a 21) 4 fends), (aZ k (a 22) 4 fgoesRound), (aI k (a 23) 8 fbegin)]) [0, 1, 2, 3, 4, 5, 6, 7, 8, 9, 10, 11] rfl
        have hD9 := hD.sub (ws' := [((a 0), .inr (8, (fX8 a (nI tx) fp (nI t0) wd (nI we) nu na (nI rd) ts (nI ru) (nI rw) (nI ca) df db sd))), (aI k (a 1) 3 (nF dn)), (aI k (a 4) 27 (sg se tm gs)), (aI k (a 2) 72 ffrees), (aI k (a 3) 72 fprices), (aZ k (a 32) 24 frow), (aI k (a 18) 768 fons), (aI k (a 19) 768 fworths), (aI k (a 20) 5 fstarts), (aI k (a 21) 4 fends), (aZ k (a 22) 4 fgoesRound), (aI k (a 23) 8 fbegin)]) [0, 1, 2, 3, 4, 5, 6, 7, 8, 9, 10, 11] (by decide +kernel) rfl
        exact W.iret (v := (-1003)) hx hb hr (fun t ht hW => ⟨⟨(-1003), (fons, fworths, fstarts, fends, fgoesRound, fbegin), rfl, tq_at (s := j_2) (by omega) (show 0 < dn j_2 by omega) (show jdA (nI j_4) p2 frow rw (sdM dn (sg se tm gs) ffrees fprices j_2) _ from jd_n (by rw [rdM]; exact inr (by omega) (htm _)) (.inl (by omega))), by rw [ht]; exact hP9, hD9⟩, hS.F ht⟩) hS.2.2 dX8_judge_66
      · have c_5 : ¬ (rw = 0) := fun h => c_5 ((nI_eq (a := rw) (b := 0) (by omega) (by omega)).mpr h)
        refine lv_aload_n hx hb dX8_judge_32 rfl (lv_at hl 0 rfl) ?_
        refine va_get (D := D) (ci := 8) (v := .int (nI rw)) (C := RX8) (T := TX8) (N := 44) hx hb hts inX8 hown hK hP 0 rfl rfl 30 (by decide) (hts _ tw_1003) (fun _ h9 => h9) rfl dX8_judge_33 ?_
        refine lv_aload_n hx hb dX8_judge_36 rfl (lv_at hl 0 rfl) ?_
        refine va_get (D := D) (ci := 8) (v := .ref (a 1)) (C := RX8) (T := TX8) (N := 44) hx hb hts inX8 hown hK hP 0 rfl rfl 0 (by decide) (hts _ tw_973) (fun _ h9 => h9) rfl dX8_judge_37 ?_
        refine lv_iload_n hx hb dX8_judge_40 rfl (lv_at hl 1 rfl) ?_
        refine va_iald hx hb hK hP 1 1 rfl rfl (vp_in_nI (by omega) (by decide)) dX8_judge_41 ?_
        refine lv_ti (y := (nI (dn j_2))) (by rw [nI_clamp (by omega)]; rfl) ?_
        refine lv_icmp_gt (tgt := 63) hx hb dX8_judge_42 (by decide) (fun c_6 => ?_) (fun c_6 => ?_)
        · have c_6 := (nI_ltI (a := (dn j_2)) (b := rw) (by omega) (by omega)).mp c_6
          refine lv_sipush (v := (-1003)) hx hb dX8_judge_63 (by decide) ?_
          have hP9 := hP.sub (ws' := [((a 0), .inr (8, (fX8 a (nI tx) fp (nI t0) wd (nI we) nu na (nI rd) ts (nI ru) (nI rw) (nI ca) df db sd))), (aI k (a 1) 3 (nF dn)), (aI k (a 4) 27 (sg se tm gs)), (aI k (a 2) 72 ffrees), (aI k (a 3) 72 fprices), (aZ k (a 32) 24 frow), (aI k (a 18) 768 fons), (aI k (a 19) 768 fworths), (aI k (a 20) 5 fstarts), (aI k (a 21) 4 fends), (aZ k (a 22) 4 fgoesRound), (aI k (a 23) 8 fbegin)]) [0, 1, 2, 3, 4, 5, 6, 7, 8, 9, 10, 11] rfl
          have hD9 := hD.sub (ws' := [((a 0), .inr (8, (fX8 a (nI tx) fp (nI t0) wd (nI we) nu na (nI rd) ts (nI ru) (nI rw) (nI ca) df db sd))), (aI k (a 1) 3 (nF dn)), (aI k (a 4) 27 (sg se tm gs)), (aI k (a 2) 72 ffrees), (aI k (a 3) 72 fprices), (aZ k (a 32) 24 frow), (aI k (a 18) 768 fons), (aI k (a 19) 768 fworths), (aI k (a 20) 5 fstarts), (aI k (a 21) 4 fends), (aZ k (a 22) 4 fgoesRound), (aI k (a 23) 8 fbegin)]) [0, 1, 2, 3, 4, 5, 6, 7, 8, 9, 10, 11] (by decide +kernel) rfl
          exact W.iret (v := (-1003)) hx hb hr (fun t ht hW => ⟨⟨(-1003), (fons, fworths, fstarts, fends, fgoesRound, fbegin), rfl, tq_at (s := j_2) (by omega) (show 0 < dn j_2 by omega) (show jdA (nI j_4) p2 frow rw (sdM dn (sg se tm gs) ffrees fprices j_2) _ from jd_n (by rw [rdM]; exact inr (by omega) (htm _)) (.inr (.inl (show dn j_2 < rw by omega)))), by rw [ht]; exact hP9, hD9⟩, hS.F ht⟩) hS.2.2 dX8_judge_66
        · have c_6 : ¬ ((dn j_2) < rw) := fun h => c_6 ((nI_ltI (a := (dn j_2)) (b := rw) (by omega) (by omega)).mpr h)
          refine lv_iload_n hx hb dX8_judge_45 rfl (lv_at hl 3 rfl) ?_
          refine lv_if_eq (tgt := 67) hx hb dX8_judge_46 (by decide) (fun c_7 => ?_) (fun c_7 => ?_)
          · refine lv_aload_n hx hb dX8_judge_67 rfl (lv_at hl 0 rfl) ?_
            refine lv_iload_n hx hb dX8_judge_68 rfl (lv_at hl 1 rfl) ?_
            refine rw_v (D := D) (wr := [(aZ k (a 32) 24 frow)]) (va_runV (As := [.int (nI j_2)]) (rest := []) ⟨hx, hb, hml, hown, hts⟩ ((n_findWay l D k st lo a tx t0 we rd ru rw ca fp wd nu na ts df db sd dn se tm gs ffrees fprices fons fworths fstarts fends fgoesRound fbegin j_2 hdn hse htm (by first | assumption | omega) (by first | assumption | omega)) H.size) (cwV 1 hts (gV tw_1250 tw_1252 tw_49 tw_87 tw_1253) rfl rfl rfl (by decide +kernel) ⟨Nat.le_of_ble_eq_true rfl, Nat.le_of_ble_eq_true rfl⟩) (pV hS hAlo hlo hP hK (va_Dlo hD hAlo) hZ [0, 1, 2, 3, 4, 6, 7, 8, 9, 10, 11] (by decide +kernel) rfl (ci := 8) (q := (RX8, TX8, 44)) (q0 := 0) rfl rfl) rfl rfl hl.1 rfl (lv_room (Nat.le_of_ble_eq_true rfl)) dX8_judge_69 ⟨Nat.le_of_ble_eq_true rfl, Nat.le_of_ble_eq_true rfl⟩) hS hA hP hD [0, 1, 2, 3, 4, 6, 7, 8, 9, 10, 11] [5] rfl rfl (by decide +kernel) (by decide +kernel) (fun u H locs hw_8 hP hD hS => ?_)
            obtain ⟨fons__8, fworths__8, fstarts__8, fends__8, fgoesRound__8, fbegin__8⟩ := u
            replace hP : va_P D classes [(aZ k (a 32) 24 frow), ((a 0), .inr (8, (fX8 a (nI tx) fp (nI t0) wd (nI we) nu na (nI rd) ts (nI ru) (nI rw) (nI ca) df db sd))), (aI k (a 1) 3 (nF dn)), (aI k (a 4) 27 (sg se tm gs)), (aI k (a 2) 72 ffrees), (aI k (a 3) 72 fprices), (aI k (a 18) 768 fons__8), (aI k (a 19) 768 fworths__8), (aI k (a 20) 5 fstarts__8), (aI k (a 21) 4 fends__8), (aZ k (a 22) 4 fgoesRound__8), (aI k (a 23) 8 fbegin__8)] H := hP
            replace hD : va_D A [(aZ k (a 32) 24 frow), ((a 0), .inr (8, (fX8 a (nI tx) fp (nI t0) wd (nI we) nu na (nI rd) ts (nI ru) (nI rw) (nI ca) df db sd))), (aI k (a 1) 3 (nF dn)), (aI k (a 4) 27 (sg se tm gs)), (aI k (a 2) 72 ffrees), (aI k (a 3) 72 fprices), (aI k (a 18) 768 fons__8), (aI k (a 19) 768 fworths__8), (aI k (a 20) 5 fstarts__8), (aI k (a 21) 4 fends__8), (aZ k (a 22) 4 fgoesRound__8), (aI k (a 23) 8 fbegin__8)] := hD
            try dsimp only at hw_8
            refine lv_iconst (v := 0) hx hb dX8_judge_72 (by decide) ?_
            refine lv_istore (lv' := [(4, .int 0), (0, .ref (a 0)), (1, .int (nI j_2)), (2, .int (nI j_4)), (3, .int p2)]) hx hb dX8_judge_73 hl (by decide) rfl (fun ls hl => ?_)
            refine W_loop (σ := Nat) (fun (n_ : Nat) (ii_9 : Nat) (H : Heap) (locs : List Loc) (ls : Array Slot) => n_ = 25 - ii_9 ∧ (ii_9 ≤ rw ∧ ∀ j, j < ii_9 → ¬ wrg (sdM dn (sg se tm gs) ffrees fprices j_2) j_4 frow rw p2 j) ∧ va_P D classes [(aZ k (a 32) 24 frow), ((a 0), .inr (8, (fX8 a (nI tx) fp (nI t0) wd (nI we) nu na (nI rd) ts (nI ru) (nI rw) (nI ca) df db sd))), (aI k (a 1) 3 (nF dn)), (aI k (a 4) 27 (sg se tm gs)), (aI k (a 2) 72 ffrees), (aI k (a 3) 72 fprices), (aI k (a 18) 768 fons__8), (aI k (a 19) 768 fworths__8), (aI k (a 20) 5 fstarts__8), (aI k (a 21) 4 fends__8), (aZ k (a 22) 4 fgoesRound__8), (aI k (a 23) 8 fbegin__8)] H ∧ va_D A [(aZ k (a 32) 24 frow), ((a 0), .inr (8, (fX8 a (nI tx) fp (nI t0) wd (nI we) nu na (nI rd) ts (nI ru) (nI rw) (nI ca) df db sd))), (aI k (a 1) 3 (nF dn)), (aI k (a 4) 27 (sg se tm gs)), (aI k (a 2) 72 ffrees), (aI k (a 3) 72 fprices), (aI k (a 18) 768 fons__8), (aI k (a 19) 768 fworths__8), (aI k (a 20) 5 fstarts__8), (aI k (a 21) 4 fends__8), (aZ k (a 22) 4 fgoesRound__8), (aI k (a 23) 8 fbegin__8)] ∧ va_S A s.heap H locs ∧ lv_has ls 7 [(4, .int (nI ii_9)), (0, .ref (a 0)), (1, .int (nI j_2)), (2, .int (nI j_4)), (3, .int p2)]) (fun n_9 x_9 H locs ls hI ih_9 => ?_) _ 0 ⟨rfl, ⟨by omega, fun j h => absurd h (Nat.not_lt_zero j)⟩, hP, hD, hS, (lv_sub hl [0, 1, 2, 3, 4] rfl)⟩
            obtain ⟨ii_9, rfl⟩ : ∃ z, z = x_9 := ⟨_, rfl⟩
            obtain ⟨hm_9, hv_9, hP, hD, hS, hl⟩ := hI
            subst hm_9
            refine lv_iload hx hb dX8_judge_75 (lv_at hl 0 rfl) ?_
            refine lv_aload_n hx hb dX8_judge_77 rfl (lv_at hl 1 rfl) ?_
            refine va_get (D := D) (ci := 8) (v := .int (nI rw)) (C := RX8) (T := TX8) (N := 44) hx hb hts inX8 hown hK hP 1 rfl rfl 30 (by decide) (hts _ tw_1003) (fun _ h9 => h9) rfl dX8_judge_78 ?_
            refine lv_icmp_ge (tgt := 207) hx hb dX8_judge_81 (by decide) (fun c_10 => ?_) (fun c_10 => ?_)
            · have c_10 := (nI_leI (a := rw) (b := ii_9) (by omega) (by omega)).mp c_10
              refine lv_iconst (v := (-1)) hx hb dX8_judge_207 (by decide) ?_
              have hP9 := hP.sub (ws' := [((a 0), .inr (8, (fX8 a (nI tx) fp (nI t0) wd (nI we) nu na (nI rd) ts (nI ru) (nI rw) (nI ca) df db sd))), (aI k (a 1) 3 (nF dn)), (aI k (a 4) 27 (sg se tm gs)), (aI k (a 2) 72 ffrees), (aI k (a 3) 72 fprices), (aZ k (a 32) 24 frow), (aI k (a 18) 768 fons__8), (aI k (a 19) 768 fworths__8), (aI k (a 20) 5 fstarts__8), (aI k (a 21) 4 fends__8), (aZ k (a 22) 4 fgoesRound__8), (aI k (a 23) 8 fbegin__8)]) [1, 2, 3, 4, 5, 0, 6, 7, 8, 9, 10, 11] rfl
              have hD9 := hD.sub (ws' := [((a 0), .inr (8, (fX8 a (nI tx) fp (nI t0) wd (nI we) nu na (nI rd) ts (nI ru) (nI rw) (nI ca) df db sd))), (aI k (a 1) 3 (nF dn)), (aI k (a 4) 27 (sg se tm gs)), (aI k (a 2) 72 ffrees), (aI k (a 3) 72 fprices), (aZ k (a 32) 24 frow), (aI k (a 18) 768 fons__8), (aI k (a 19) 768 fworths__8), (aI k (a 20) 5 fstarts__8), (aI k (a 21) 4 fends__8), (aZ k (a 22) 4 fgoesRound__8), (aI k (a 23) 8 fbegin__8)]) [1, 2, 3, 4, 5, 0, 6, 7, 8, 9, 10, 11] (by decide +kernel) rfl
              exact W.iret (v := (-1)) hx hb hr (fun t ht hW => ⟨⟨(-1), (fons__8, fworths__8, fstarts__8, fends__8, fgoesRound__8, fbegin__8), rfl, tq_at (s := j_2) (by omega) (show 0 < dn j_2 by omega) (show jdA (nI j_4) p2 frow rw (sdM dn (sg se tm gs) ffrees fprices j_2) _ from jd_i (by omega) (by rw [rdM]; exact inr (by omega) (htm _)) (not3 (show ¬ rw = 0 by omega) (show ¬ dn j_2 < rw by omega) (fun q => q.1 c_7)) ⟨ii_9, by omega, hv_9.2, .inr ⟨by omega, rfl⟩⟩), by rw [ht]; exact hP9, hD9⟩, hS.F ht⟩) hS.2.2 dX8_judge_208
            · have c_10 : ¬ (rw ≤ ii_9) := fun h => c_10 ((nI_leI (a := rw) (b := ii_9) (by omega) (by omega)).mpr h)
              refine lv_aload_n hx hb dX8_judge_84 rfl (lv_at hl 1 rfl) ?_
              refine va_get (D := D) (ci := 8) (v := .ref (a 32)) (C := RX8) (T := TX8) (N := 44) hx hb hts inX8 hown hK hP 1 rfl rfl 31 (by decide) (hts _ tw_1004) (fun _ h9 => h9) rfl dX8_judge_85 ?_
              refine lv_iload hx hb dX8_judge_88 (lv_at hl 0 rfl) ?_
              refine va_zald hx hb hK hP 0 2 rfl rfl (vp_in_nI (by omega) (by decide)) dX8_judge_90 ?_
              refine lv_ti (y := (frow ii_9)) (by rw [nI_clamp (by omega)]) ?_
              refine lv_if_eq (tgt := 201) hx hb dX8_judge_91 (by decide) (fun c_11 => ?_) (fun c_11 => ?_)
              · refine lv_iinc (v := (nI (ii_9 + 1))) (lv' := [(4, .int (nI (ii_9 + 1))), (0, .ref (a 0)), (1, .int (nI j_2)), (2, .int (nI j_4)), (3, .int p2)]) hx hb dX8_judge_201 hl (k := 0) rfl (nI_add ii_9 1) (by decide) rfl (fun ls hl => ?_)
                refine lv_goto (tgt := 75) hx hb dX8_judge_204 (by decide) ?_
                exact ih_9 _ (ii_9 + 1) _ _ _ (by omega) ⟨rfl, ⟨by omega, la_all (P := fun j => wrg (sdM dn (sg se tm gs) ffrees fprices j_2) j_4 frow rw p2 j) hv_9.2 (fun h => absurd (h.1.symm.trans c_11) (by decide))⟩, hP, hD, hS, (lv_sub hl [0, 1, 2, 3, 4] rfl)⟩
              · refine lv_iload hx hb dX8_judge_94 (lv_at hl 0 rfl) ?_
                refine lv_aload_n hx hb dX8_judge_96 rfl (lv_at hl 1 rfl) ?_
                refine lv_iload_n hx hb dX8_judge_97 rfl (lv_at hl 2 rfl) ?_
                refine lv_iload hx hb dX8_judge_98 (lv_at hl 0 rfl) ?_
                refine ro_i (D := D) (va_runV (As := [.int (nI j_2), .int (nI ii_9)]) (rest := [.int (nI ii_9)]) ⟨hx, hb, hml, hown, hts⟩ ((n_seen l D k st lo a tx t0 we rd ru rw ca fp wd nu na ts df db sd dn se tm gs j_2 ii_9 hdn hse (by first | assumption | omega) (by first | assumption | omega)) H.size) (cwV 2 hts (gV tw_1246 tw_1248 tw_48 tw_87 tw_1249) rfl rfl rfl (by decide +kernel) ⟨Nat.le_of_ble_eq_true rfl, Nat.le_of_ble_eq_true rfl⟩) (pV hS hAlo hlo hP hK (va_Dlo hD hAlo) hZ [1, 2, 3] (by decide) rfl (ci := 8) (q := (RX8, TX8, 44)) (q0 := 0) rfl rfl) rfl rfl hl.1 rfl (lv_room (Nat.le_of_ble_eq_true rfl)) dX8_judge_100 ⟨Nat.le_of_ble_eq_true rfl, Nat.le_of_ble_eq_true rfl⟩) hS hA hP (fun r_12 H locs hw_12 hP hS => ?_)
                try dsimp only at hw_12
                obtain ⟨sv_13, esv_13⟩ : ∃ z : Nat, z = sqN (se j_2) (dn j_2) ii_9 := ⟨_, rfl⟩
                rw [← esv_13] at hw_12
                subst hw_12
                have hsv_13 : sv_13 ≤ 3 ∧ sv_13 ≤ dn j_2 - ii_9 ∧ sv_13 ≤ se j_2 + 1 ∧ (0 < dn j_2 - ii_9 → 1 ≤ sv_13) := by have hse9 := hse j_2; rw [esv_13]; unfold sqN; omega
                have hpv_13 := p8 (show sv_13 ≤ 3 by omega)
                have hpe_13 : 2 ^ sv_13 = 2 ^ sqN (se j_2) (dn j_2) ii_9 := by rw [esv_13]
                refine lv_iadd hx hb dX8_judge_103 ?_
                refine lv_ti (y := (nI (ii_9 + sv_13))) (nI_add ii_9 sv_13) ?_
                refine lv_aload_n hx hb dX8_judge_104 rfl (lv_at hl 1 rfl) ?_
                refine va_get (D := D) (ci := 8) (v := .int (nI rw)) (C := RX8) (T := TX8) (N := 44) hx hb hts inX8 hown hK hP 1 rfl rfl 30 (by decide) (hts _ tw_1003) (fun _ h9 => h9) rfl dX8_judge_105 ?_
                refine lv_icmp_gt (tgt := 201) hx hb dX8_judge_108 (by decide) (fun c_14 => ?_) (fun c_14 => ?_)
                · have c_14 := (nI_ltI (a := rw) (b := (ii_9 + sv_13)) (by omega) (by omega)).mp c_14
                  refine lv_iinc (v := (nI (ii_9 + 1))) (lv' := [(4, .int (nI (ii_9 + 1))), (0, .ref (a 0)), (1, .int (nI j_2)), (2, .int (nI j_4)), (3, .int p2)]) hx hb dX8_judge_201 hl (k := 0) rfl (nI_add ii_9 1) (by decide) rfl (fun ls hl => ?_)
                  refine lv_goto (tgt := 75) hx hb dX8_judge_204 (by decide) ?_
                  exact ih_9 _ (ii_9 + 1) _ _ _ (by omega) ⟨rfl, ⟨by omega, la_all (P := fun j => wrg (sdM dn (sg se tm gs) ffrees fprices j_2) j_4 frow rw p2 j) hv_9.2 (fun h => absurd (show ii_9 + sqN (seD (sdM dn (sg se tm gs) ffrees fprices j_2)) (dn j_2) ii_9 ≤ rw from h.2.1) (by rw [seM (hse _)]; omega))⟩, hP, hD, hS, (lv_sub hl [0, 1, 2, 3, 4] rfl)⟩
                · have c_14 : ¬ (rw < (ii_9 + sv_13)) := fun h => c_14 ((nI_ltI (a := rw) (b := (ii_9 + sv_13)) (by omega) (by omega)).mpr h)
                  refine lv_iconst (v := 0) hx hb dX8_judge_111 (by decide) ?_
                  refine lv_istore (lv' := [(5, .int 0), (4, .int (nI ii_9)), (0, .ref (a 0)), (1, .int (nI j_2)), (2, .int (nI j_4)), (3, .int p2)]) hx hb dX8_judge_112 hl (by decide) rfl (fun ls hl => ?_)
                  refine lv_iconst (v := 0) hx hb dX8_judge_114 (by decide) ?_
                  refine lv_istore (lv' := [(6, .int 0), (5, .int 0), (4, .int (nI ii_9)), (0, .ref (a 0)), (1, .int (nI j_2)), (2, .int (nI j_4)), (3, .int p2)]) hx hb dX8_judge_115 hl (by decide) rfl (fun ls hl => ?_)
                  refine W_loop (σ := Nat × Nat) (fun (n_ : Nat) (x_ : Nat × Nat) (H : Heap) (locs : List Loc) (ls : Array Slot) => match x_ with | (kk_15, g2_15) => n_ = sv_13 - kk_15 ∧ (kk_15 ≤ sv_13 ∧ g2_15 = rowN (fun k => frow (ii_9 + k)) kk_15) ∧ va_P D classes [(aZ k (a 32) 24 frow), ((a 0), .inr (8, (fX8 a (nI tx) fp (nI t0) wd (nI we) nu na (nI rd) ts (nI ru) (nI rw) (nI ca) df db sd))), (aI k (a 1) 3 (nF dn)), (aI k (a 4) 27 (sg se tm gs)), (aI k (a 2) 72 ffrees), (aI k (a 3) 72 fprices), (aI k (a 18) 768 fons__8), (aI k (a 19) 768 fworths__8), (aI k (a 20) 5 fstarts__8), (aI k (a 21) 4 fends__8), (aZ k (a 22) 4 fgoesRound__8), (aI k (a 23) 8 fbegin__8)] H ∧ va_D A [(aZ k (a 32) 24 frow), ((a 0), .inr (8, (fX8 a (nI tx) fp (nI t0) wd (nI we) nu na (nI rd) ts (nI ru) (nI rw) (nI ca) df db sd))), (aI k (a 1) 3 (nF dn)), (aI k (a 4) 27 (sg se tm gs)), (aI k (a 2) 72 ffrees), (aI k (a 3) 72 fprices), (aI k (a 18) 768 fons__8), (aI k (a 19) 768 fworths__8), (aI k (a 20) 5 fstarts__8), (aI k (a 21) 4 fends__8), (aZ k (a 22) 4 fgoesRound__8), (aI k (a 23) 8 fbegin__8)] ∧ va_S A s.heap H locs ∧ lv_has ls 7 [(6, .int (nI kk_15)), (5, .int (nI g2_15)), (4, .int (nI ii_9)), (0, .ref (a 0)), (1, .int (nI j_2)), (2, .int (nI j_4)), (3, .int p2)]) (fun n_15 x_15 H locs ls hI ih_15 => ?_) _ (0, 0) ⟨rfl, ⟨by omega, rfl⟩, hP, hD, hS, (lv_sub hl [0, 1, 2, 3, 4, 5, 6] rfl)⟩
                  obtain ⟨kk_15, g2_15⟩ := x_15
                  obtain ⟨hm_15, hv_15, hP, hD, hS, hl⟩ := hI
                  subst hm_15
                  refine lv_iload hx hb dX8_judge_117 (lv_at hl 0 rfl) ?_
                  refine lv_aload_n hx hb dX8_judge_119 rfl (lv_at hl 3 rfl) ?_
                  refine lv_iload_n hx hb dX8_judge_120 rfl (lv_at hl 4 rfl) ?_
                  refine lv_iload hx hb dX8_judge_121 (lv_at hl 2 rfl) ?_
                  refine ro_i (D := D) (va_runV (As := [.int (nI j_2), .int (nI ii_9)]) (rest := [.int (nI kk_15)]) ⟨hx, hb, hml, hown, hts⟩ ((n_seen l D k st lo a tx t0 we rd ru rw ca fp wd nu na ts df db sd dn se tm gs j_2 ii_9 hdn hse (by first | assumption | omega) (by first | assumption | omega)) H.size) (cwV 2 hts (gV tw_1246 tw_1248 tw_48 tw_87 tw_1249) rfl rfl rfl (by decide +kernel) ⟨Nat.le_of_ble_eq_true rfl, Nat.le_of_ble_eq_true rfl⟩) (pV hS hAlo hlo hP hK (va_Dlo hD hAlo) hZ [1, 2, 3] (by decide) rfl (ci := 8) (q := (RX8, TX8, 44)) (q0 := 0) rfl rfl) rfl rfl hl.1 rfl (lv_room (Nat.le_of_ble_eq_true rfl)) dX8_judge_123 ⟨Nat.le_of_ble_eq_true rfl, Nat.le_of_ble_eq_true rfl⟩) hS hA hP (fun r_16 H locs hw_16 hP hS => ?_)
                  try dsimp only at hw_16
                  obtain ⟨sv_17, esv_17⟩ : ∃ z : Nat, z = sqN (se j_2) (dn j_2) ii_9 := ⟨_, rfl⟩
                  rw [← esv_17] at hw_16
                  subst hw_16
                  have hsv_17 : sv_17 ≤ 3 ∧ sv_17 ≤ dn j_2 - ii_9 ∧ sv_17 ≤ se j_2 + 1 ∧ (0 < dn j_2 - ii_9 → 1 ≤ sv_17) := by have hse9 := hse j_2; rw [esv_17]; unfold sqN; omega
                  have hpv_17 := p8 (show sv_17 ≤ 3 by omega)
                  have hpe_17 : 2 ^ sv_17 = 2 ^ sqN (se j_2) (dn j_2) ii_9 := by rw [esv_17]
                  refine lv_icmp_ge (tgt := 161) hx hb dX8_judge_126 (by decide) (fun c_18 => ?_) (fun c_18 => ?_)
                  · have c_18 := (nI_leI (a := sv_17) (b := kk_15) (by omega) (by omega)).mp c_18
                    have egg_19 : g2_15 = rowN (fun k => frow (ii_9 + k)) (sqN (se j_2) (dn j_2) ii_9) := by rw [hv_15.2, show kk_15 = sqN (se j_2) (dn j_2) ii_9 by omega]
                    have hgq_19 : g2_15 < 2 ^ sqN (se j_2) (dn j_2) ii_9 := by rw [egg_19]; exact rowN_lt _ _
                    have hgp_19 := p8 (show sqN (se j_2) (dn j_2) ii_9 ≤ 3 by omega)
                    have hg8_19 : g2_15 < 8 := by omega
                    have hgo_19 : g2_15 % 2 = 1 := by rw [egg_19]; exact rowN_odd (by omega) ((hfr _ (by omega)).resolve_left c_11)
                    have hT_19 : fM_taking dn se tm gs fprices j_2 ii_9 (nI j_4) ≤ fons__8 (192 * j_4 + 8 * ii_9 + g2_15) ↔ pTake (sdM dn (sg se tm gs) ffrees fprices j_2) j_4 ii_9 ≤ wayO (sdM dn (sg se tm gs) ffrees fprices j_2) j_4 ii_9 (rowN (fun k => frow (ii_9 + k)) (sqN (seD (sdM dn (sg se tm gs) ffrees fprices j_2)) (sdM dn (sg se tm gs) ffrees fprices j_2).1 ii_9)) := by rw [seM (hse _), mTake (ffr := ffrees) (show ii_9 < dn j_2 by omega), (wmw_of (wm_of (hse _) (htm _) hw_8) (show j_4 ≤ tmD (sdM dn (sg se tm gs) ffrees fprices j_2) by rw [tmM (htm _)]; omega) (show ii_9 < dn j_2 by omega) (show g2_15 < 2 ^ sqN (seD (sdM dn (sg se tm gs) ffrees fprices j_2)) (dn j_2) ii_9 by rw [seM (hse _)]; exact hgq_19)).2, egg_19]; exact Iff.rfl
                    refine lv_iload_n hx hb dX8_judge_161 rfl (lv_at hl 6 rfl) ?_
                    refine lv_if_eq (tgt := 180) hx hb dX8_judge_162 (by decide) (fun c_20 => ?_) (fun c_20 => ?_)
                    · refine lv_iconst (v := 0) hx hb dX8_judge_180 (by decide) ?_
                      refine lv_istore (lv' := [(6, .int 0), (5, .int (nI g2_15)), (4, .int (nI ii_9)), (0, .ref (a 0)), (1, .int (nI j_2)), (2, .int (nI j_4)), (3, .int p2)]) hx hb dX8_judge_181 hl (by decide) rfl (fun ls hl => ?_)
                      refine lv_aload_n hx hb dX8_judge_183 rfl (lv_at hl 3 rfl) ?_
                      refine lv_iload_n hx hb dX8_judge_184 rfl (lv_at hl 4 rfl) ?_
                      refine lv_iload_n hx hb dX8_judge_185 rfl (lv_at hl 5 rfl) ?_
                      refine lv_iload hx hb dX8_judge_186 (lv_at hl 2 rfl) ?_
                      refine lv_iload hx hb dX8_judge_188 (lv_at hl 1 rfl) ?_
                      refine ro_i (D := D) (va_runV (As := [.int (nI j_2), .int (nI j_4), .int (nI ii_9), .int (nI g2_15)]) (rest := []) ⟨hx, hb, hml, hown, hts⟩ ((n_isTaking l D k st lo a tx t0 we rd ru rw ca fp wd nu na ts df db sd dn se tm gs fprices fons__8 j_2 j_4 ii_9 g2_15 (by first | assumption | omega) (by first | assumption | omega) (by first | assumption | omega) (by first | assumption | omega)) H.size) (cwV 4 hts (gV tw_1285 tw_1287 tw_54 tw_87 tw_1288) rfl rfl rfl (by decide +kernel) ⟨Nat.le_of_ble_eq_true rfl, Nat.le_of_ble_eq_true rfl⟩) (pV hS hAlo hlo hP hK (va_Dlo hD hAlo) hZ [1, 2, 3, 5, 6] (by decide) rfl (ci := 8) (q := (RX8, TX8, 44)) (q0 := 0) rfl rfl) rfl rfl hl.1 rfl (lv_room (Nat.le_of_ble_eq_true rfl)) dX8_judge_190 ⟨Nat.le_of_ble_eq_true rfl, Nat.le_of_ble_eq_true rfl⟩) hS hA hP (fun r_21 H locs hw_21 hP hS => ?_)
                      try dsimp only at hw_21
                      rcases hw_21 with ⟨rfl, hw_21⟩ | ⟨rfl, hw_21⟩
                      · refine lv_iload hx hb dX8_judge_193 (lv_at hl 0 rfl) ?_
                        refine lv_icmp_eq (tgt := 201) hx hb dX8_judge_195 (by decide) (fun h => absurd h (by decide)) (fun _ => ?_)
                        refine lv_iload hx hb dX8_judge_198 (lv_at hl 2 rfl) ?_
                        have hP9 := hP.sub (ws' := [((a 0), .inr (8, (fX8 a (nI tx) fp (nI t0) wd (nI we) nu na (nI rd) ts (nI ru) (nI rw) (nI ca) df db sd))), (aI k (a 1) 3 (nF dn)), (aI k (a 4) 27 (sg se tm gs)), (aI k (a 2) 72 ffrees), (aI k (a 3) 72 fprices), (aZ k (a 32) 24 frow), (aI k (a 18) 768 fons__8), (aI k (a 19) 768 fworths__8), (aI k (a 20) 5 fstarts__8), (aI k (a 21) 4 fends__8), (aZ k (a 22) 4 fgoesRound__8), (aI k (a 23) 8 fbegin__8)]) [1, 2, 3, 4, 5, 0, 6, 7, 8, 9, 10, 11] rfl
                        have hD9 := hD.sub (ws' := [((a 0), .inr (8, (fX8 a (nI tx) fp (nI t0) wd (nI we) nu na (nI rd) ts (nI ru) (nI rw) (nI ca) df db sd))), (aI k (a 1) 3 (nF dn)), (aI k (a 4) 27 (sg se tm gs)), (aI k (a 2) 72 ffrees), (aI k (a 3) 72 fprices), (aZ k (a 32) 24 frow), (aI k (a 18) 768 fons__8), (aI k (a 19) 768 fworths__8), (aI k (a 20) 5 fstarts__8), (aI k (a 21) 4 fends__8), (aZ k (a 22) 4 fgoesRound__8), (aI k (a 23) 8 fbegin__8)]) [1, 2, 3, 4, 5, 0, 6, 7, 8, 9, 10, 11] (by decide +kernel) rfl
                        exact W.iret (v := (nI ii_9)) hx hb hr (fun t ht hW => ⟨⟨(nI ii_9), (fons__8, fworths__8, fstarts__8, fends__8, fgoesRound__8, fbegin__8), rfl, tq_at (s := j_2) (by omega) (show 0 < dn j_2 by omega) (show jdA (nI j_4) p2 frow rw (sdM dn (sg se tm gs) ffrees fprices j_2) _ from jd_i (by omega) (by rw [rdM]; exact inr (by omega) (htm _)) (not3 (show ¬ rw = 0 by omega) (show ¬ dn j_2 < rw by omega) (fun q => q.1 c_7)) ⟨ii_9, by omega, hv_9.2, .inl ⟨by omega, ⟨((hfr _ (by omega)).resolve_left c_11), (show ii_9 + sqN (seD (sdM dn (sg se tm gs) ffrees fprices j_2)) (dn j_2) ii_9 ≤ rw by rw [seM (hse _)]; omega), (fun q => (fun q => q.1 c_20) (q.mp (hT_19.mp hw_21.2)))⟩, rfl⟩⟩), by rw [ht]; exact hP9, hD9⟩, hS.F ht⟩) hS.2.2 dX8_judge_200
                      · refine lv_iload hx hb dX8_judge_193 (lv_at hl 0 rfl) ?_
                        refine lv_icmp_eq (tgt := 201) hx hb dX8_judge_195 (by decide) (fun _ => ?_) (fun h => absurd (by decide) h)
                        refine lv_iinc (v := (nI (ii_9 + 1))) (lv' := [(4, .int (nI (ii_9 + 1))), (6, .int 0), (5, .int (nI g2_15)), (0, .ref (a 0)), (1, .int (nI j_2)), (2, .int (nI j_4)), (3, .int p2)]) hx hb dX8_judge_201 hl (k := 2) rfl (nI_add ii_9 1) (by decide) rfl (fun ls hl => ?_)
                        refine lv_goto (tgt := 75) hx hb dX8_judge_204 (by decide) ?_
                        exact ih_9 _ (ii_9 + 1) _ _ _ (by omega) ⟨rfl, ⟨by omega, la_all (P := fun j => wrg (sdM dn (sg se tm gs) ffrees fprices j_2) j_4 frow rw p2 j) hv_9.2 (fun h => h.2.2 ⟨fun q => absurd q (fun q => hw_21 ⟨hgo_19, hT_19.mpr q⟩), fun q => absurd q (fun q => q.1 c_20)⟩)⟩, hP, hD, hS, (lv_sub hl [0, 3, 4, 5, 6] rfl)⟩
                    · refine lv_iload hx hb dX8_judge_165 (lv_at hl 2 rfl) ?_
                      refine lv_aload_n hx hb dX8_judge_167 rfl (lv_at hl 3 rfl) ?_
                      refine va_get (D := D) (ci := 8) (v := .int (nI rw)) (C := RX8) (T := TX8) (N := 44) hx hb hts inX8 hown hK hP 1 rfl rfl 30 (by decide) (hts _ tw_1003) (fun _ h9 => h9) rfl dX8_judge_168 ?_
                      refine lv_iconst (v := 1) hx hb dX8_judge_171 (by decide) ?_
                      refine lv_isub hx hb dX8_judge_172 ?_
                      refine lv_ti (y := (nI (rw - 1))) (pk_sub (a := rw) (b := 1) (by omega)) ?_
                      refine lv_icmp_ne (tgt := 180) hx hb dX8_judge_173 (by decide) (fun c_22 => ?_) (fun c_22 => ?_)
                      · have c_22 : ¬ (ii_9 = (rw - 1)) := fun h => c_22 ((nI_eq (a := ii_9) (b := (rw - 1)) (by omega) (by omega)).mpr h)
                        refine lv_iconst (v := 0) hx hb dX8_judge_180 (by decide) ?_
                        refine lv_istore (lv' := [(6, .int 0), (5, .int (nI g2_15)), (4, .int (nI ii_9)), (0, .ref (a 0)), (1, .int (nI j_2)), (2, .int (nI j_4)), (3, .int p2)]) hx hb dX8_judge_181 hl (by decide) rfl (fun ls hl => ?_)
                        refine lv_aload_n hx hb dX8_judge_183 rfl (lv_at hl 3 rfl) ?_
                        refine lv_iload_n hx hb dX8_judge_184 rfl (lv_at hl 4 rfl) ?_
                        refine lv_iload_n hx hb dX8_judge_185 rfl (lv_at hl 5 rfl) ?_
                        refine lv_iload hx hb dX8_judge_186 (lv_at hl 2 rfl) ?_
                        refine lv_iload hx hb dX8_judge_188 (lv_at hl 1 rfl) ?_
                        refine ro_i (D := D) (va_runV (As := [.int (nI j_2), .int (nI j_4), .int (nI ii_9), .int (nI g2_15)]) (rest := []) ⟨hx, hb, hml, hown, hts⟩ ((n_isTaking l D k st lo a tx t0 we rd ru rw ca fp wd nu na ts df db sd dn se tm gs fprices fons__8 j_2 j_4 ii_9 g2_15 (by first | assumption | omega) (by first | assumption | omega) (by first | assumption | omega) (by first | assumption | omega)) H.size) (cwV 4 hts (gV tw_1285 tw_1287 tw_54 tw_87 tw_1288) rfl rfl rfl (by decide +kernel) ⟨Nat.le_of_ble_eq_true rfl, Nat.le_of_ble_eq_true rfl⟩) (pV hS hAlo hlo hP hK (va_Dlo hD hAlo) hZ [1, 2, 3, 5, 6] (by decide) rfl (ci := 8) (q := (RX8, TX8, 44)) (q0 := 0) rfl rfl) rfl rfl hl.1 rfl (lv_room (Nat.le_of_ble_eq_true rfl)) dX8_judge_190 ⟨Nat.le_of_ble_eq_true rfl, Nat.le_of_ble_eq_true rfl⟩) hS hA hP (fun r_23 H locs hw_23 hP hS => ?_)
                        try dsimp only at hw_23
                        rcases hw_23 with ⟨rfl, hw_23⟩ | ⟨rfl, hw_23⟩
                        · refine lv_iload hx hb dX8_judge_193 (lv_at hl 0 rfl) ?_
                          refine lv_icmp_eq (tgt := 201) hx hb dX8_judge_195 (by decide) (fun h => absurd h (by decide)) (fun _ => ?_)
                          refine lv_iload hx hb dX8_judge_198 (lv_at hl 2 rfl) ?_
                          have hP9 := hP.sub (ws' := [((a 0), .inr (8, (fX8 a (nI tx) fp (nI t0) wd (nI we) nu na (nI rd) ts (nI ru) (nI rw) (nI ca) df db sd))), (aI k (a 1) 3 (nF dn)), (aI k (a 4) 27 (sg se tm gs)), (aI k (a 2) 72 ffrees), (aI k (a 3) 72 fprices), (aZ k (a 32) 24 frow), (aI k (a 18) 768 fons__8), (aI k (a 19) 768 fworths__8), (aI k (a 20) 5 fstarts__8), (aI k (a 21) 4 fends__8), (aZ k (a 22) 4 fgoesRound__8), (aI k (a 23) 8 fbegin__8)]) [1, 2, 3, 4, 5, 0, 6, 7, 8, 9, 10, 11] rfl
                          have hD9 := hD.sub (ws' := [((a 0), .inr (8, (fX8 a (nI tx) fp (nI t0) wd (nI we) nu na (nI rd) ts (nI ru) (nI rw) (nI ca) df db sd))), (aI k (a 1) 3 (nF dn)), (aI k (a 4) 27 (sg se tm gs)), (aI k (a 2) 72 ffrees), (aI k (a 3) 72 fprices), (aZ k (a 32) 24 frow), (aI k (a 18) 768 fons__8), (aI k (a 19) 768 fworths__8), (aI k (a 20) 5 fstarts__8), (aI k (a 21) 4 fends__8), (aZ k (a 22) 4 fgoesRound__8), (aI k (a 23) 8 fbegin__8)]) [1, 2, 3, 4, 5, 0, 6, 7, 8, 9, 10, 11] (by decide +kernel) rfl
                          exact W.iret (v := (nI ii_9)) hx hb hr (fun t ht hW => ⟨⟨(nI ii_9), (fons__8, fworths__8, fstarts__8, fends__8, fgoesRound__8, fbegin__8), rfl, tq_at (s := j_2) (by omega) (show 0 < dn j_2 by omega) (show jdA (nI j_4) p2 frow rw (sdM dn (sg se tm gs) ffrees fprices j_2) _ from jd_i (by omega) (by rw [rdM]; exact inr (by omega) (htm _)) (not3 (show ¬ rw = 0 by omega) (show ¬ dn j_2 < rw by omega) (fun q => q.1 c_7)) ⟨ii_9, by omega, hv_9.2, .inl ⟨by omega, ⟨((hfr _ (by omega)).resolve_left c_11), (show ii_9 + sqN (seD (sdM dn (sg se tm gs) ffrees fprices j_2)) (dn j_2) ii_9 ≤ rw by rw [seM (hse _)]; omega), (fun q => (fun q => absurd q.2 (by omega)) (q.mp (hT_19.mp hw_23.2)))⟩, rfl⟩⟩), by rw [ht]; exact hP9, hD9⟩, hS.F ht⟩) hS.2.2 dX8_judge_200
                        · refine lv_iload hx hb dX8_judge_193 (lv_at hl 0 rfl) ?_
                          refine lv_icmp_eq (tgt := 201) hx hb dX8_judge_195 (by decide) (fun _ => ?_) (fun h => absurd (by decide) h)
                          refine lv_iinc (v := (nI (ii_9 + 1))) (lv' := [(4, .int (nI (ii_9 + 1))), (6, .int 0), (5, .int (nI g2_15)), (0, .ref (a 0)), (1, .int (nI j_2)), (2, .int (nI j_4)), (3, .int p2)]) hx hb dX8_judge_201 hl (k := 2) rfl (nI_add ii_9 1) (by decide) rfl (fun ls hl => ?_)
                          refine lv_goto (tgt := 75) hx hb dX8_judge_204 (by decide) ?_
                          exact ih_9 _ (ii_9 + 1) _ _ _ (by omega) ⟨rfl, ⟨by omega, la_all (P := fun j => wrg (sdM dn (sg se tm gs) ffrees fprices j_2) j_4 frow rw p2 j) hv_9.2 (fun h => h.2.2 ⟨fun q => absurd q (fun q => hw_23 ⟨hgo_19, hT_19.mpr q⟩), fun q => absurd q (fun q => absurd q.2 (by omega))⟩)⟩, hP, hD, hS, (lv_sub hl [0, 3, 4, 5, 6] rfl)⟩
                      · have c_22 := (nI_eq (a := ii_9) (b := (rw - 1)) (by omega) (by omega)).mp c_22
                        refine lv_iconst (v := 1) hx hb dX8_judge_176 (by decide) ?_
                        refine lv_goto (tgt := 181) hx hb dX8_judge_177 (by decide) ?_
                        refine lv_istore (lv' := [(6, .int 1), (5, .int (nI g2_15)), (4, .int (nI ii_9)), (0, .ref (a 0)), (1, .int (nI j_2)), (2, .int (nI j_4)), (3, .int p2)]) hx hb dX8_judge_181 hl (by decide) rfl (fun ls hl => ?_)
                        refine lv_aload_n hx hb dX8_judge_183 rfl (lv_at hl 3 rfl) ?_
                        refine lv_iload_n hx hb dX8_judge_184 rfl (lv_at hl 4 rfl) ?_
                        refine lv_iload_n hx hb dX8_judge_185 rfl (lv_at hl 5 rfl) ?_
                        refine lv_iload hx hb dX8_judge_186 (lv_at hl 2 rfl) ?_
                        refine lv_iload hx hb dX8_judge_188 (lv_at hl 1 rfl) ?_
                        refine ro_i (D := D) (va_runV (As := [.int (nI j_2), .int (nI j_4), .int (nI ii_9), .int (nI g2_15)]) (rest := []) ⟨hx, hb, hml, hown, hts⟩ ((n_isTaking l D k st lo a tx t0 we rd ru rw ca fp wd nu na ts df db sd dn se tm gs fprices fons__8 j_2 j_4 ii_9 g2_15 (by first | assumption | omega) (by first | assumption | omega) (by first | assumption | omega) (by first | assumption | omega)) H.size) (cwV 4 hts (gV tw_1285 tw_1287 tw_54 tw_87 tw_1288) rfl rfl rfl (by decide +kernel) ⟨Nat.le_of_ble_eq_true rfl, Nat.le_of_ble_eq_true rfl⟩) (pV hS hAlo hlo hP hK (va_Dlo hD hAlo) hZ [1, 2, 3, 5, 6] (by decide) rfl (ci := 8) (q := (RX8, TX8, 44)) (q0 := 0) rfl rfl) rfl rfl hl.1 rfl (lv_room (Nat.le_of_ble_eq_true rfl)) dX8_judge_190 ⟨Nat.le_of_ble_eq_true rfl, Nat.le_of_ble_eq_true rfl⟩) hS hA hP (fun r_24 H locs hw_24 hP hS => ?_)
                        try dsimp only at hw_24
                        rcases hw_24 with ⟨rfl, hw_24⟩ | ⟨rfl, hw_24⟩
                        · refine lv_iload hx hb dX8_judge_193 (lv_at hl 0 rfl) ?_
                          refine lv_icmp_eq (tgt := 201) hx hb dX8_judge_195 (by decide) (fun _ => ?_) (fun h => absurd (by decide) h)
                          refine lv_iinc (v := (nI (ii_9 + 1))) (lv' := [(4, .int (nI (ii_9 + 1))), (6, .int 1), (5, .int (nI g2_15)), (0, .ref (a 0)), (1, .int (nI j_2)), (2, .int (nI j_4)), (3, .int p2)]) hx hb dX8_judge_201 hl (k := 2) rfl (nI_add ii_9 1) (by decide) rfl (fun ls hl => ?_)
                          refine lv_goto (tgt := 75) hx hb dX8_judge_204 (by decide) ?_
                          exact ih_9 _ (ii_9 + 1) _ _ _ (by omega) ⟨rfl, ⟨by omega, la_all (P := fun j => wrg (sdM dn (sg se tm gs) ffrees fprices j_2) j_4 frow rw p2 j) hv_9.2 (fun h => h.2.2 ⟨fun _ => ⟨c_20, by omega⟩, fun _ => hT_19.mp hw_24.2⟩)⟩, hP, hD, hS, (lv_sub hl [0, 3, 4, 5, 6] rfl)⟩
                        · refine lv_iload hx hb dX8_judge_193 (lv_at hl 0 rfl) ?_
                          refine lv_icmp_eq (tgt := 201) hx hb dX8_judge_195 (by decide) (fun h => absurd h (by decide)) (fun _ => ?_)
                          refine lv_iload hx hb dX8_judge_198 (lv_at hl 2 rfl) ?_
                          have hP9 := hP.sub (ws' := [((a 0), .inr (8, (fX8 a (nI tx) fp (nI t0) wd (nI we) nu na (nI rd) ts (nI ru) (nI rw) (nI ca) df db sd))), (aI k (a 1) 3 (nF dn)), (aI k (a 4) 27 (sg se tm gs)), (aI k (a 2) 72 ffrees), (aI k (a 3) 72 fprices), (aZ k (a 32) 24 frow), (aI k (a 18) 768 fons__8), (aI k (a 19) 768 fworths__8), (aI k (a 20) 5 fstarts__8), (aI k (a 21) 4 fends__8), (aZ k (a 22) 4 fgoesRound__8), (aI k (a 23) 8 fbegin__8)]) [1, 2, 3, 4, 5, 0, 6, 7, 8, 9, 10, 11] rfl
                          have hD9 := hD.sub (ws' := [((a 0), .inr (8, (fX8 a (nI tx) fp (nI t0) wd (nI we) nu na (nI rd) ts (nI ru) (nI rw) (nI ca) df db sd))), (aI k (a 1) 3 (nF dn)), (aI k (a 4) 27 (sg se tm gs)), (aI k (a 2) 72 ffrees), (aI k (a 3) 72 fprices), (aZ k (a 32) 24 frow), (aI k (a 18) 768 fons__8), (aI k (a 19) 768 fworths__8), (aI k (a 20) 5 fstarts__8), (aI k (a 21) 4 fends__8), (aZ k (a 22) 4 fgoesRound__8), (aI k (a 23) 8 fbegin__8)]) [1, 2, 3, 4, 5, 0, 6, 7, 8, 9, 10, 11] (by decide +kernel) rfl
                          exact W.iret (v := (nI ii_9)) hx hb hr (fun t ht hW => ⟨⟨(nI ii_9), (fons__8, fworths__8, fstarts__8, fends__8, fgoesRound__8, fbegin__8), rfl, tq_at (s := j_2) (by omega) (show 0 < dn j_2 by omega) (show jdA (nI j_4) p2 frow rw (sdM dn (sg se tm gs) ffrees fprices j_2) _ from jd_i (by omega) (by rw [rdM]; exact inr (by omega) (htm _)) (not3 (show ¬ rw = 0 by omega) (show ¬ dn j_2 < rw by omega) (fun q => q.1 c_7)) ⟨ii_9, by omega, hv_9.2, .inl ⟨by omega, ⟨((hfr _ (by omega)).resolve_left c_11), (show ii_9 + sqN (seD (sdM dn (sg se tm gs) ffrees fprices j_2)) (dn j_2) ii_9 ≤ rw by rw [seM (hse _)]; omega), (fun q => (fun q => hw_24 ⟨hgo_19, hT_19.mpr q⟩) (q.mpr ⟨c_20, by omega⟩))⟩, rfl⟩⟩), by rw [ht]; exact hP9, hD9⟩, hS.F ht⟩) hS.2.2 dX8_judge_200
                  · have c_18 : ¬ (sv_17 ≤ kk_15) := fun h => c_18 ((nI_leI (a := sv_17) (b := kk_15) (by omega) (by omega)).mpr h)
                    refine lv_iload hx hb dX8_judge_129 (lv_at hl 1 rfl) ?_
                    refine lv_aload_n hx hb dX8_judge_131 rfl (lv_at hl 3 rfl) ?_
                    refine va_get (D := D) (ci := 8) (v := .ref (a 32)) (C := RX8) (T := TX8) (N := 44) hx hb hts inX8 hown hK hP 1 rfl rfl 31 (by decide) (hts _ tw_1004) (fun _ h9 => h9) rfl dX8_judge_132 ?_
                    refine lv_iload hx hb dX8_judge_135 (lv_at hl 2 rfl) ?_
                    refine lv_iload hx hb dX8_judge_137 (lv_at hl 0 rfl) ?_
                    refine lv_iadd hx hb dX8_judge_139 ?_
                    refine lv_ti (y := (nI (ii_9 + kk_15))) (nI_add ii_9 kk_15) ?_
                    refine va_zald hx hb hK hP 0 2 rfl rfl (vp_in_nI (by omega) (by decide)) dX8_judge_140 ?_
                    refine lv_ti (y := (frow (ii_9 + kk_15))) (by rw [nI_clamp (by omega)]) ?_
                    refine lv_if_eq (tgt := 151) hx hb dX8_judge_141 (by decide) (fun c_25 => ?_) (fun c_25 => ?_)
                    · refine lv_iconst (v := 0) hx hb dX8_judge_151 (by decide) ?_
                      have hgl_15 : g2_15 < 2 ^ kk_15 := by rw [hv_15.2]; exact rowN_lt _ _
                      refine lv_ior hx hb dX8_judge_152 ?_
                      refine lv_ti (y := (nI g2_15)) (show nI g2_15 ||| (0 : Int32) = nI g2_15 from Int32.or_zero) ?_
                      refine lv_istore (lv' := [(5, .int (nI g2_15)), (6, .int (nI kk_15)), (4, .int (nI ii_9)), (0, .ref (a 0)), (1, .int (nI j_2)), (2, .int (nI j_4)), (3, .int p2)]) hx hb dX8_judge_153 hl (by decide) rfl (fun ls hl => ?_)
                      refine lv_iinc (v := (nI (kk_15 + 1))) (lv' := [(6, .int (nI (kk_15 + 1))), (5, .int (nI g2_15)), (4, .int (nI ii_9)), (0, .ref (a 0)), (1, .int (nI j_2)), (2, .int (nI j_4)), (3, .int p2)]) hx hb dX8_judge_155 hl (k := 1) rfl (nI_add kk_15 1) (by decide) rfl (fun ls hl => ?_)
                      refine lv_goto (tgt := 117) hx hb dX8_judge_158 (by decide) ?_
                      exact ih_15 _ (kk_15 + 1, g2_15) _ _ _ (by omega) ⟨rfl, ⟨by omega, (by show _ = rowN (fun k => frow (ii_9 + k)) kk_15 + (if frow (ii_9 + kk_15) = 1 then 2 ^ kk_15 else 0); rw [if_neg (by rw [c_25]; decide), Nat.add_zero]; exact hv_15.2)⟩, hP, hD, hS, (lv_sub hl [0, 1, 2, 3, 4, 5, 6] rfl)⟩
                    · refine lv_iconst (v := 1) hx hb dX8_judge_144 (by decide) ?_
                      refine lv_iload hx hb dX8_judge_145 (lv_at hl 0 rfl) ?_
                      refine lv_ishl hx hb dX8_judge_147 ?_
                      refine lv_ti (y := (nI (2 ^ kk_15))) (shl1 kk_15 (by omega)) ?_
                      refine lv_goto (tgt := 152) hx hb dX8_judge_148 (by decide) ?_
                      have hgl_15 : g2_15 < 2 ^ kk_15 := by rw [hv_15.2]; exact rowN_lt _ _
                      refine lv_ior hx hb dX8_judge_152 ?_
                      refine lv_ti (y := (nI (g2_15 + 2 ^ kk_15))) (or_nb (by omega) hgl_15) ?_
                      refine lv_istore (lv' := [(5, .int (nI (g2_15 + 2 ^ kk_15))), (6, .int (nI kk_15)), (4, .int (nI ii_9)), (0, .ref (a 0)), (1, .int (nI j_2)), (2, .int (nI j_4)), (3, .int p2)]) hx hb dX8_judge_153 hl (by decide) rfl (fun ls hl => ?_)
                      refine lv_iinc (v := (nI (kk_15 + 1))) (lv' := [(6, .int (nI (kk_15 + 1))), (5, .int (nI (g2_15 + 2 ^ kk_15))), (4, .int (nI ii_9)), (0, .ref (a 0)), (1, .int (nI j_2)), (2, .int (nI j_4)), (3, .int p2)]) hx hb dX8_judge_155 hl (k := 1) rfl (nI_add kk_15 1) (by decide) rfl (fun ls hl => ?_)
                      refine lv_goto (tgt := 117) hx hb dX8_judge_158 (by decide) ?_
                      exact ih_15 _ (kk_15 + 1, g2_15 + 2 ^ kk_15) _ _ _ (by omega) ⟨rfl, ⟨by omega, (by show _ = rowN (fun k => frow (ii_9 + k)) kk_15 + (if frow (ii_9 + kk_15) = 1 then 2 ^ kk_15 else 0); rw [if_pos ((hfr _ (by omega)).resolve_left c_25), ← hv_15.2])⟩, hP, hD, hS, (lv_sub hl [0, 1, 2, 3, 4, 5, 6] rfl)⟩
          · refine lv_aload_n hx hb dX8_judge_49 rfl (lv_at hl 0 rfl) ?_
            refine va_get (D := D) (ci := 8) (v := .ref (a 32)) (C := RX8) (T := TX8) (N := 44) hx hb hts inX8 hown hK hP 0 rfl rfl 31 (by decide) (hts _ tw_1004) (fun _ h9 => h9) rfl dX8_judge_50 ?_
            refine lv_aload_n hx hb dX8_judge_53 rfl (lv_at hl 0 rfl) ?_
            refine va_get (D := D) (ci := 8) (v := .int (nI rw)) (C := RX8) (T := TX8) (N := 44) hx hb hts inX8 hown hK hP 0 rfl rfl 30 (by decide) (hts _ tw_1003) (fun _ h9 => h9) rfl dX8_judge_54 ?_
            refine lv_iconst (v := 1) hx hb dX8_judge_57 (by decide) ?_
            refine lv_isub hx hb dX8_judge_58 ?_
            refine lv_ti (y := (nI (rw - 1))) (pk_sub (a := rw) (b := 1) (by omega)) ?_
            refine va_zald hx hb hK hP 5 2 rfl rfl (vp_in_nI (by omega) (by decide)) dX8_judge_59 ?_
            refine lv_ti (y := (frow (rw - 1))) (by rw [nI_clamp (by omega)]) ?_
            refine lv_if_ne (tgt := 67) hx hb dX8_judge_60 (by decide) (fun c_26 => ?_) (fun c_26 => ?_)
            · refine lv_aload_n hx hb dX8_judge_67 rfl (lv_at hl 0 rfl) ?_
              refine lv_iload_n hx hb dX8_judge_68 rfl (lv_at hl 1 rfl) ?_
              refine rw_v (D := D) (wr := [(aZ k (a 32) 24 frow)]) (va_runV (As := [.int (nI j_2)]) (rest := []) ⟨hx, hb, hml, hown, hts⟩ ((n_findWay l D k st lo a tx t0 we rd ru rw ca fp wd nu na ts df db sd dn se tm gs ffrees fprices fons fworths fstarts fends fgoesRound fbegin j_2 hdn hse htm (by first | assumption | omega) (by first | assumption | omega)) H.size) (cwV 1 hts (gV tw_1250 tw_1252 tw_49 tw_87 tw_1253) rfl rfl rfl (by decide +kernel) ⟨Nat.le_of_ble_eq_true rfl, Nat.le_of_ble_eq_true rfl⟩) (pV hS hAlo hlo hP hK (va_Dlo hD hAlo) hZ [0, 1, 2, 3, 4, 6, 7, 8, 9, 10, 11] (by decide +kernel) rfl (ci := 8) (q := (RX8, TX8, 44)) (q0 := 0) rfl rfl) rfl rfl hl.1 rfl (lv_room (Nat.le_of_ble_eq_true rfl)) dX8_judge_69 ⟨Nat.le_of_ble_eq_true rfl, Nat.le_of_ble_eq_true rfl⟩) hS hA hP hD [0, 1, 2, 3, 4, 6, 7, 8, 9, 10, 11] [5] rfl rfl (by decide +kernel) (by decide +kernel) (fun u H locs hw_27 hP hD hS => ?_)
              obtain ⟨fons__27, fworths__27, fstarts__27, fends__27, fgoesRound__27, fbegin__27⟩ := u
              replace hP : va_P D classes [(aZ k (a 32) 24 frow), ((a 0), .inr (8, (fX8 a (nI tx) fp (nI t0) wd (nI we) nu na (nI rd) ts (nI ru) (nI rw) (nI ca) df db sd))), (aI k (a 1) 3 (nF dn)), (aI k (a 4) 27 (sg se tm gs)), (aI k (a 2) 72 ffrees), (aI k (a 3) 72 fprices), (aI k (a 18) 768 fons__27), (aI k (a 19) 768 fworths__27), (aI k (a 20) 5 fstarts__27), (aI k (a 21) 4 fends__27), (aZ k (a 22) 4 fgoesRound__27), (aI k (a 23) 8 fbegin__27)] H := hP
              replace hD : va_D A [(aZ k (a 32) 24 frow), ((a 0), .inr (8, (fX8 a (nI tx) fp (nI t0) wd (nI we) nu na (nI rd) ts (nI ru) (nI rw) (nI ca) df db sd))), (aI k (a 1) 3 (nF dn)), (aI k (a 4) 27 (sg se tm gs)), (aI k (a 2) 72 ffrees), (aI k (a 3) 72 fprices), (aI k (a 18) 768 fons__27), (aI k (a 19) 768 fworths__27), (aI k (a 20) 5 fstarts__27), (aI k (a 21) 4 fends__27), (aZ k (a 22) 4 fgoesRound__27), (aI k (a 23) 8 fbegin__27)] := hD
              try dsimp only at hw_27
              refine lv_iconst (v := 0) hx hb dX8_judge_72 (by decide) ?_
              refine lv_istore (lv' := [(4, .int 0), (0, .ref (a 0)), (1, .int (nI j_2)), (2, .int (nI j_4)), (3, .int p2)]) hx hb dX8_judge_73 hl (by decide) rfl (fun ls hl => ?_)
              refine W_loop (σ := Nat) (fun (n_ : Nat) (ii_28 : Nat) (H : Heap) (locs : List Loc) (ls : Array Slot) => n_ = 25 - ii_28 ∧ (ii_28 ≤ rw ∧ ∀ j, j < ii_28 → ¬ wrg (sdM dn (sg se tm gs) ffrees fprices j_2) j_4 frow rw p2 j) ∧ va_P D classes [(aZ k (a 32) 24 frow), ((a 0), .inr (8, (fX8 a (nI tx) fp (nI t0) wd (nI we) nu na (nI rd) ts (nI ru) (nI rw) (nI ca) df db sd))), (aI k (a 1) 3 (nF dn)), (aI k (a 4) 27 (sg se tm gs)), (aI k (a 2) 72 ffrees), (aI k (a 3) 72 fprices), (aI k (a 18) 768 fons__27), (aI k (a 19) 768 fworths__27), (aI k (a 20) 5 fstarts__27), (aI k (a 21) 4 fends__27), (aZ k (a 22) 4 fgoesRound__27), (aI k (a 23) 8 fbegin__27)] H ∧ va_D A [(aZ k (a 32) 24 frow), ((a 0), .inr (8, (fX8 a (nI tx) fp (nI t0) wd (nI we) nu na (nI rd) ts (nI ru) (nI rw) (nI ca) df db sd))), (aI k (a 1) 3 (nF dn)), (aI k (a 4) 27 (sg se tm gs)), (aI k (a 2) 72 ffrees), (aI k (a 3) 72 fprices), (aI k (a 18) 768 fons__27), (aI k (a 19) 768 fworths__27), (aI k (a 20) 5 fstarts__27), (aI k (a 21) 4 fends__27), (aZ k (a 22) 4 fgoesRound__27), (aI k (a 23) 8 fbegin__27)] ∧ va_S A s.heap H locs ∧ lv_has ls 7 [(4, .int (nI ii_28)), (0, .ref (a 0)), (1, .int (nI j_2)), (2, .int (nI j_4)), (3, .int p2)]) (fun n_28 x_28 H locs ls hI ih_28 => ?_) _ 0 ⟨rfl, ⟨by omega, fun j h => absurd h (Nat.not_lt_zero j)⟩, hP, hD, hS, (lv_sub hl [0, 1, 2, 3, 4] rfl)⟩
              obtain ⟨ii_28, rfl⟩ : ∃ z, z = x_28 := ⟨_, rfl⟩
              obtain ⟨hm_28, hv_28, hP, hD, hS, hl⟩ := hI
              subst hm_28
              refine lv_iload hx hb dX8_judge_75 (lv_at hl 0 rfl) ?_
              refine lv_aload_n hx hb dX8_judge_77 rfl (lv_at hl 1 rfl) ?_
              refine va_get (D := D) (ci := 8) (v := .int (nI rw)) (C := RX8) (T := TX8) (N := 44) hx hb hts inX8 hown hK hP 1 rfl rfl 30 (by decide) (hts _ tw_1003) (fun _ h9 => h9) rfl dX8_judge_78 ?_
              refine lv_icmp_ge (tgt := 207) hx hb dX8_judge_81 (by decide) (fun c_29 => ?_) (fun c_29 => ?_)
              · have c_29 := (nI_leI (a := rw) (b := ii_28) (by omega) (by omega)).mp c_29
                refine lv_iconst (v := (-1)) hx hb dX8_judge_207 (by decide) ?_
                have hP9 := hP.sub (ws' := [((a 0), .inr (8, (fX8 a (nI tx) fp (nI t0) wd (nI we) nu na (nI rd) ts (nI ru) (nI rw) (nI ca) df db sd))), (aI k (a 1) 3 (nF dn)), (aI k (a 4) 27 (sg se tm gs)), (aI k (a 2) 72 ffrees), (aI k (a 3) 72 fprices), (aZ k (a 32) 24 frow), (aI k (a 18) 768 fons__27), (aI k (a 19) 768 fworths__27), (aI k (a 20) 5 fstarts__27), (aI k (a 21) 4 fends__27), (aZ k (a 22) 4 fgoesRound__27), (aI k (a 23) 8 fbegin__27)]) [1, 2, 3, 4, 5, 0, 6, 7, 8, 9, 10, 11] rfl
                have hD9 := hD.sub (ws' := [((a 0), .inr (8, (fX8 a (nI tx) fp (nI t0) wd (nI we) nu na (nI rd) ts (nI ru) (nI rw) (nI ca) df db sd))), (aI k (a 1) 3 (nF dn)), (aI k (a 4) 27 (sg se tm gs)), (aI k (a 2) 72 ffrees), (aI k (a 3) 72 fprices), (aZ k (a 32) 24 frow), (aI k (a 18) 768 fons__27), (aI k (a 19) 768 fworths__27), (aI k (a 20) 5 fstarts__27), (aI k (a 21) 4 fends__27), (aZ k (a 22) 4 fgoesRound__27), (aI k (a 23) 8 fbegin__27)]) [1, 2, 3, 4, 5, 0, 6, 7, 8, 9, 10, 11] (by decide +kernel) rfl
                exact W.iret (v := (-1)) hx hb hr (fun t ht hW => ⟨⟨(-1), (fons__27, fworths__27, fstarts__27, fends__27, fgoesRound__27, fbegin__27), rfl, tq_at (s := j_2) (by omega) (show 0 < dn j_2 by omega) (show jdA (nI j_4) p2 frow rw (sdM dn (sg se tm gs) ffrees fprices j_2) _ from jd_i (by omega) (by rw [rdM]; exact inr (by omega) (htm _)) (not3 (show ¬ rw = 0 by omega) (show ¬ dn j_2 < rw by omega) (fun q => q.2 ((hfr _ (by omega)).resolve_left c_26))) ⟨ii_28, by omega, hv_28.2, .inr ⟨by omega, rfl⟩⟩), by rw [ht]; exact hP9, hD9⟩, hS.F ht⟩) hS.2.2 dX8_judge_208
              · have c_29 : ¬ (rw ≤ ii_28) := fun h => c_29 ((nI_leI (a := rw) (b := ii_28) (by omega) (by omega)).mpr h)
                refine lv_aload_n hx hb dX8_judge_84 rfl (lv_at hl 1 rfl) ?_
                refine va_get (D := D) (ci := 8) (v := .ref (a 32)) (C := RX8) (T := TX8) (N := 44) hx hb hts inX8 hown hK hP 1 rfl rfl 31 (by decide) (hts _ tw_1004) (fun _ h9 => h9) rfl dX8_judge_85 ?_
                refine lv_iload hx hb dX8_judge_88 (lv_at hl 0 rfl) ?_
                refine va_zald hx hb hK hP 0 2 rfl rfl (vp_in_nI (by omega) (by decide)) dX8_judge_90 ?_
                refine lv_ti (y := (frow ii_28)) (by rw [nI_clamp (by omega)]) ?_
                refine lv_if_eq (tgt := 201) hx hb dX8_judge_91 (by decide) (fun c_30 => ?_) (fun c_30 => ?_)
                · refine lv_iinc (v := (nI (ii_28 + 1))) (lv' := [(4, .int (nI (ii_28 + 1))), (0, .ref (a 0)), (1, .int (nI j_2)), (2, .int (nI j_4)), (3, .int p2)]) hx hb dX8_judge_201 hl (k := 0) rfl (nI_add ii_28 1) (by decide) rfl (fun ls hl => ?_)
                  refine lv_goto (tgt := 75) hx hb dX8_judge_204 (by decide) ?_
                  exact ih_28 _ (ii_28 + 1) _ _ _ (by omega) ⟨rfl, ⟨by omega, la_all (P := fun j => wrg (sdM dn (sg se tm gs) ffrees fprices j_2) j_4 frow rw p2 j) hv_28.2 (fun h => absurd (h.1.symm.trans c_30) (by decide))⟩, hP, hD, hS, (lv_sub hl [0, 1, 2, 3, 4] rfl)⟩
                · refine lv_iload hx hb dX8_judge_94 (lv_at hl 0 rfl) ?_
                  refine lv_aload_n hx hb dX8_judge_96 rfl (lv_at hl 1 rfl) ?_
                  refine lv_iload_n hx hb dX8_judge_97 rfl (lv_at hl 2 rfl) ?_
                  refine lv_iload hx hb dX8_judge_98 (lv_at hl 0 rfl) ?_
                  refine ro_i (D := D) (va_runV (As := [.int (nI j_2), .int (nI ii_28)]) (rest := [.int (nI ii_28)]) ⟨hx, hb, hml, hown, hts⟩ ((n_seen l D k st lo a tx t0 we rd ru rw ca fp wd nu na ts df db sd dn se tm gs j_2 ii_28 hdn hse (by first | assumption | omega) (by first | assumption | omega)) H.size) (cwV 2 hts (gV tw_1246 tw_1248 tw_48 tw_87 tw_1249) rfl rfl rfl (by decide +kernel) ⟨Nat.le_of_ble_eq_true rfl, Nat.le_of_ble_eq_true rfl⟩) (pV hS hAlo hlo hP hK (va_Dlo hD hAlo) hZ [1, 2, 3] (by decide) rfl (ci := 8) (q := (RX8, TX8, 44)) (q0 := 0) rfl rfl) rfl rfl hl.1 rfl (lv_room (Nat.le_of_ble_eq_true rfl)) dX8_judge_100 ⟨Nat.le_of_ble_eq_true rfl, Nat.le_of_ble_eq_true rfl⟩) hS hA hP (fun r_31 H locs hw_31 hP hS => ?_)
                  try dsimp only at hw_31
                  obtain ⟨sv_32, esv_32⟩ : ∃ z : Nat, z = sqN (se j_2) (dn j_2) ii_28 := ⟨_, rfl⟩
                  rw [← esv_32] at hw_31
                  subst hw_31
                  have hsv_32 : sv_32 ≤ 3 ∧ sv_32 ≤ dn j_2 - ii_28 ∧ sv_32 ≤ se j_2 + 1 ∧ (0 < dn j_2 - ii_28 → 1 ≤ sv_32) := by have hse9 := hse j_2; rw [esv_32]; unfold sqN; omega
                  have hpv_32 := p8 (show sv_32 ≤ 3 by omega)
                  have hpe_32 : 2 ^ sv_32 = 2 ^ sqN (se j_2) (dn j_2) ii_28 := by rw [esv_32]
                  refine lv_iadd hx hb dX8_judge_103 ?_
                  refine lv_ti (y := (nI (ii_28 + sv_32))) (nI_add ii_28 sv_32) ?_
                  refine lv_aload_n hx hb dX8_judge_104 rfl (lv_at hl 1 rfl) ?_
                  refine va_get (D := D) (ci := 8) (v := .int (nI rw)) (C := RX8) (T := TX8) (N := 44) hx hb hts inX8 hown hK hP 1 rfl rfl 30 (by decide) (hts _ tw_1003) (fun _ h9 => h9) rfl dX8_judge_105 ?_
                  refine lv_icmp_gt (tgt := 201) hx hb dX8_judge_108 (by decide) (fun c_33 => ?_) (fun c_33 => ?_)
                  · have c_33 := (nI_ltI (a := rw) (b := (ii_28 + sv_32)) (by omega) (by omega)).mp c_33
                    refine lv_iinc (v := (nI (ii_28 + 1))) (lv' := [(4, .int (nI (ii_28 + 1))), (0, .ref (a 0)), (1, .int (nI j_2)), (2, .int (nI j_4)), (3, .int p2)]) hx hb dX8_judge_201 hl (k := 0) rfl (nI_add ii_28 1) (by decide) rfl (fun ls hl => ?_)
                    refine lv_goto (tgt := 75) hx hb dX8_judge_204 (by decide) ?_
                    exact ih_28 _ (ii_28 + 1) _ _ _ (by omega) ⟨rfl, ⟨by omega, la_all (P := fun j => wrg (sdM dn (sg se tm gs) ffrees fprices j_2) j_4 frow rw p2 j) hv_28.2 (fun h => absurd (show ii_28 + sqN (seD (sdM dn (sg se tm gs) ffrees fprices j_2)) (dn j_2) ii_28 ≤ rw from h.2.1) (by rw [seM (hse _)]; omega))⟩, hP, hD, hS, (lv_sub hl [0, 1, 2, 3, 4] rfl)⟩
                  · have c_33 : ¬ (rw < (ii_28 + sv_32)) := fun h => c_33 ((nI_ltI (a := rw) (b := (ii_28 + sv_32)) (by omega) (by omega)).mpr h)
                    refine lv_iconst (v := 0) hx hb dX8_judge_111 (by decide) ?_
                    refine lv_istore (lv' := [(5, .int 0), (4, .int (nI ii_28)), (0, .ref (a 0)), (1, .int (nI j_2)), (2, .int (nI j_4)), (3, .int p2)]) hx hb dX8_judge_112 hl (by decide) rfl (fun ls hl => ?_)
                    refine lv_iconst (v := 0) hx hb dX8_judge_114 (by decide) ?_
                    refine lv_istore (lv' := [(6, .int 0), (5, .int 0), (4, .int (nI ii_28)), (0, .ref (a 0)), (1, .int (nI j_2)), (2, .int (nI j_4)), (3, .int p2)]) hx hb dX8_judge_115 hl (by decide) rfl (fun ls hl => ?_)
                    refine W_loop (σ := Nat × Nat) (fun (n_ : Nat) (x_ : Nat × Nat) (H : Heap) (locs : List Loc) (ls : Array Slot) => match x_ with | (kk_34, g2_34) => n_ = sv_32 - kk_34 ∧ (kk_34 ≤ sv_32 ∧ g2_34 = rowN (fun k => frow (ii_28 + k)) kk_34) ∧ va_P D classes [(aZ k (a 32) 24 frow), ((a 0), .inr (8, (fX8 a (nI tx) fp (nI t0) wd (nI we) nu na (nI rd) ts (nI ru) (nI rw) (nI ca) df db sd))), (aI k (a 1) 3 (nF dn)), (aI k (a 4) 27 (sg se tm gs)), (aI k (a 2) 72 ffrees), (aI k (a 3) 72 fprices), (aI k (a 18) 768 fons__27), (aI k (a 19) 768 fworths__27), (aI k (a 20) 5 fstarts__27), (aI k (a 21) 4 fends__27), (aZ k (a 22) 4 fgoesRound__27), (aI k (a 23) 8 fbegin__27)] H ∧ va_D A [(aZ k (a 32) 24 frow), ((a 0), .inr (8, (fX8 a (nI tx) fp (nI t0) wd (nI we) nu na (nI rd) ts (nI ru) (nI rw) (nI ca) df db sd))), (aI k (a 1) 3 (nF dn)), (aI k (a 4) 27 (sg se tm gs)), (aI k (a 2) 72 ffrees), (aI k (a 3) 72 fprices), (aI k (a 18) 768 fons__27), (aI k (a 19) 768 fworths__27), (aI k (a 20) 5 fstarts__27), (aI k (a 21) 4 fends__27), (aZ k (a 22) 4 fgoesRound__27), (aI k (a 23) 8 fbegin__27)] ∧ va_S A s.heap H locs ∧ lv_has ls 7 [(6, .int (nI kk_34)), (5, .int (nI g2_34)), (4, .int (nI ii_28)), (0, .ref (a 0)), (1, .int (nI j_2)), (2, .int (nI j_4)), (3, .int p2)]) (fun n_34 x_34 H locs ls hI ih_34 => ?_) _ (0, 0) ⟨rfl, ⟨by omega, rfl⟩, hP, hD, hS, (lv_sub hl [0, 1, 2, 3, 4, 5, 6] rfl)⟩
                    obtain ⟨kk_34, g2_34⟩ := x_34
                    obtain ⟨hm_34, hv_34, hP, hD, hS, hl⟩ := hI
                    subst hm_34
                    refine lv_iload hx hb dX8_judge_117 (lv_at hl 0 rfl) ?_
                    refine lv_aload_n hx hb dX8_judge_119 rfl (lv_at hl 3 rfl) ?_
                    refine lv_iload_n hx hb dX8_judge_120 rfl (lv_at hl 4 rfl) ?_
                    refine lv_iload hx hb dX8_judge_121 (lv_at hl 2 rfl) ?_
                    refine ro_i (D := D) (va_runV (As := [.int (nI j_2), .int (nI ii_28)]) (rest := [.int (nI kk_34)]) ⟨hx, hb, hml, hown, hts⟩ ((n_seen l D k st lo a tx t0 we rd ru rw ca fp wd nu na ts df db sd dn se tm gs j_2 ii_28 hdn hse (by first | assumption | omega) (by first | assumption | omega)) H.size) (cwV 2 hts (gV tw_1246 tw_1248 tw_48 tw_87 tw_1249) rfl rfl rfl (by decide +kernel) ⟨Nat.le_of_ble_eq_true rfl, Nat.le_of_ble_eq_true rfl⟩) (pV hS hAlo hlo hP hK (va_Dlo hD hAlo) hZ [1, 2, 3] (by decide) rfl (ci := 8) (q := (RX8, TX8, 44)) (q0 := 0) rfl rfl) rfl rfl hl.1 rfl (lv_room (Nat.le_of_ble_eq_true rfl)) dX8_judge_123 ⟨Nat.le_of_ble_eq_true rfl, Nat.le_of_ble_eq_true rfl⟩) hS hA hP (fun r_35 H locs hw_35 hP hS => ?_)
                    try dsimp only at hw_35
                    obtain ⟨sv_36, esv_36⟩ : ∃ z : Nat, z = sqN (se j_2) (dn j_2) ii_28 := ⟨_, rfl⟩
                    rw [← esv_36] at hw_35
                    subst hw_35
                    have hsv_36 : sv_36 ≤ 3 ∧ sv_36 ≤ dn j_2 - ii_28 ∧ sv_36 ≤ se j_2 + 1 ∧ (0 < dn j_2 - ii_28 → 1 ≤ sv_36) := by have hse9 := hse j_2; rw [esv_36]; unfold sqN; omega
                    have hpv_36 := p8 (show sv_36 ≤ 3 by omega)
                    have hpe_36 : 2 ^ sv_36 = 2 ^ sqN (se j_2) (dn j_2) ii_28 := by rw [esv_36]
                    refine lv_icmp_ge (tgt := 161) hx hb dX8_judge_126 (by decide) (fun c_37 => ?_) (fun c_37 => ?_)
                    · have c_37 := (nI_leI (a := sv_36) (b := kk_34) (by omega) (by omega)).mp c_37
                      have egg_38 : g2_34 = rowN (fun k => frow (ii_28 + k)) (sqN (se j_2) (dn j_2) ii_28) := by rw [hv_34.2, show kk_34 = sqN (se j_2) (dn j_2) ii_28 by omega]
                      have hgq_38 : g2_34 < 2 ^ sqN (se j_2) (dn j_2) ii_28 := by rw [egg_38]; exact rowN_lt _ _
                      have hgp_38 := p8 (show sqN (se j_2) (dn j_2) ii_28 ≤ 3 by omega)
                      have hg8_38 : g2_34 < 8 := by omega
                      have hgo_38 : g2_34 % 2 = 1 := by rw [egg_38]; exact rowN_odd (by omega) ((hfr _ (by omega)).resolve_left c_30)
                      have hT_38 : fM_taking dn se tm gs fprices j_2 ii_28 (nI j_4) ≤ fons__27 (192 * j_4 + 8 * ii_28 + g2_34) ↔ pTake (sdM dn (sg se tm gs) ffrees fprices j_2) j_4 ii_28 ≤ wayO (sdM dn (sg se tm gs) ffrees fprices j_2) j_4 ii_28 (rowN (fun k => frow (ii_28 + k)) (sqN (seD (sdM dn (sg se tm gs) ffrees fprices j_2)) (sdM dn (sg se tm gs) ffrees fprices j_2).1 ii_28)) := by rw [seM (hse _), mTake (ffr := ffrees) (show ii_28 < dn j_2 by omega), (wmw_of (wm_of (hse _) (htm _) hw_27) (show j_4 ≤ tmD (sdM dn (sg se tm gs) ffrees fprices j_2) by rw [tmM (htm _)]; omega) (show ii_28 < dn j_2 by omega) (show g2_34 < 2 ^ sqN (seD (sdM dn (sg se tm gs) ffrees fprices j_2)) (dn j_2) ii_28 by rw [seM (hse _)]; exact hgq_38)).2, egg_38]; exact Iff.rfl
                      refine lv_iload_n hx hb dX8_judge_161 rfl (lv_at hl 6 rfl) ?_
                      refine lv_if_eq (tgt := 180) hx hb dX8_judge_162 (by decide) (fun c_39 => ?_) (fun c_39 => ?_)
                      · refine lv_iconst (v := 0) hx hb dX8_judge_180 (by decide) ?_
                        refine lv_istore (lv' := [(6, .int 0), (5, .int (nI g2_34)), (4, .int (nI ii_28)), (0, .ref (a 0)), (1, .int (nI j_2)), (2, .int (nI j_4)), (3, .int p2)]) hx hb dX8_judge_181 hl (by decide) rfl (fun ls hl => ?_)
                        refine lv_aload_n hx hb dX8_judge_183 rfl (lv_at hl 3 rfl) ?_
                        refine lv_iload_n hx hb dX8_judge_184 rfl (lv_at hl 4 rfl) ?_
                        refine lv_iload_n hx hb dX8_judge_185 rfl (lv_at hl 5 rfl) ?_
                        refine lv_iload hx hb dX8_judge_186 (lv_at hl 2 rfl) ?_
                        refine lv_iload hx hb dX8_judge_188 (lv_at hl 1 rfl) ?_
                        refine ro_i (D := D) (va_runV (As := [.int (nI j_2), .int (nI j_4), .int (nI ii_28), .int (nI g2_34)]) (rest := []) ⟨hx, hb, hml, hown, hts⟩ ((n_isTaking l D k st lo a tx t0 we rd ru rw ca fp wd nu na ts df db sd dn se tm gs fprices fons__27 j_2 j_4 ii_28 g2_34 (by first | assumption | omega) (by first | assumption | omega) (by first | assumption | omega) (by first | assumption | omega)) H.size) (cwV 4 hts (gV tw_1285 tw_1287 tw_54 tw_87 tw_1288) rfl rfl rfl (by decide +kernel) ⟨Nat.le_of_ble_eq_true rfl, Nat.le_of_ble_eq_true rfl⟩) (pV hS hAlo hlo hP hK (va_Dlo hD hAlo) hZ [1, 2, 3, 5, 6] (by decide) rfl (ci := 8) (q := (RX8, TX8, 44)) (q0 := 0) rfl rfl) rfl rfl hl.1 rfl (lv_room (Nat.le_of_ble_eq_true rfl)) dX8_judge_190 ⟨Nat.le_of_ble_eq_true rfl, Nat.le_of_ble_eq_true rfl⟩) hS hA hP (fun r_40 H locs hw_40 hP hS => ?_)
                        try dsimp only at hw_40
                        rcases hw_40 with ⟨rfl, hw_40⟩ | ⟨rfl, hw_40⟩
                        · refine lv_iload hx hb dX8_judge_193 (lv_at hl 0 rfl) ?_
                          refine lv_icmp_eq (tgt := 201) hx hb dX8_judge_195 (by decide) (fun h => absurd h (by decide)) (fun _ => ?_)
                          refine lv_iload hx hb dX8_judge_198 (lv_at hl 2 rfl) ?_
                          have hP9 := hP.sub (ws' := [((a 0), .inr (8, (fX8 a (nI tx) fp (nI t0) wd (nI we) nu na (nI rd) ts (nI ru) (nI rw) (nI ca) df db sd))), (aI k (a 1) 3 (nF dn)), (aI k (a 4) 27 (sg se tm gs)), (aI k (a 2) 72 ffrees), (aI k (a 3) 72 fprices), (aZ k (a 32) 24 frow), (aI k (a 18) 768 fons__27), (aI k (a 19) 768 fworths__27), (aI k (a 20) 5 fstarts__27), (aI k (a 21) 4 fends__27), (aZ k (a 22) 4 fgoesRound__27), (aI k (a 23) 8 fbegin__27)]) [1, 2, 3, 4, 5, 0, 6, 7, 8, 9, 10, 11] rfl
                          have hD9 := hD.sub (ws' := [((a 0), .inr (8, (fX8 a (nI tx) fp (nI t0) wd (nI we) nu na (nI rd) ts (nI ru) (nI rw) (nI ca) df db sd))), (aI k (a 1) 3 (nF dn)), (aI k (a 4) 27 (sg se tm gs)), (aI k (a 2) 72 ffrees), (aI k (a 3) 72 fprices), (aZ k (a 32) 24 frow), (aI k (a 18) 768 fons__27), (aI k (a 19) 768 fworths__27), (aI k (a 20) 5 fstarts__27), (aI k (a 21) 4 fends__27), (aZ k (a 22) 4 fgoesRound__27), (aI k (a 23) 8 fbegin__27)]) [1, 2, 3, 4, 5, 0, 6, 7, 8, 9, 10, 11] (by decide +kernel) rfl
                          exact W.iret (v := (nI ii_28)) hx hb hr (fun t ht hW => ⟨⟨(nI ii_28), (fons__27, fworths__27, fstarts__27, fends__27, fgoesRound__27, fbegin__27), rfl, tq_at (s := j_2) (by omega) (show 0 < dn j_2 by omega) (show jdA (nI j_4) p2 frow rw (sdM dn (sg se tm gs) ffrees fprices j_2) _ from jd_i (by omega) (by rw [rdM]; exact inr (by omega) (htm _)) (not3 (show ¬ rw = 0 by omega) (show ¬ dn j_2 < rw by omega) (fun q => q.2 ((hfr _ (by omega)).resolve_left c_26))) ⟨ii_28, by omega, hv_28.2, .inl ⟨by omega, ⟨((hfr _ (by omega)).resolve_left c_30), (show ii_28 + sqN (seD (sdM dn (sg se tm gs) ffrees fprices j_2)) (dn j_2) ii_28 ≤ rw by rw [seM (hse _)]; omega), (fun q => (fun q => q.1 c_39) (q.mp (hT_38.mp hw_40.2)))⟩, rfl⟩⟩), by rw [ht]; exact hP9, hD9⟩, hS.F ht⟩) hS.2.2 dX8_judge_200
                        · refine lv_iload hx hb dX8_judge_193 (lv_at hl 0 rfl) ?_
                          refine lv_icmp_eq (tgt := 201) hx hb dX8_judge_195 (by decide) (fun _ => ?_) (fun h => absurd (by decide) h)
                          refine lv_iinc (v := (nI (ii_28 + 1))) (lv' := [(4, .int (nI (ii_28 + 1))), (6, .int 0), (5, .int (nI g2_34)), (0, .ref (a 0)), (1, .int (nI j_2)), (2, .int (nI j_4)), (3, .int p2)]) hx hb dX8_judge_201 hl (k := 2) rfl (nI_add ii_28 1) (by decide) rfl (fun ls hl => ?_)
                          refine lv_goto (tgt := 75) hx hb dX8_judge_204 (by decide) ?_
                          exact ih_28 _ (ii_28 + 1) _ _ _ (by omega) ⟨rfl, ⟨by omega, la_all (P := fun j => wrg (sdM dn (sg se tm gs) ffrees fprices j_2) j_4 frow rw p2 j) hv_28.2 (fun h => h.2.2 ⟨fun q => absurd q (fun q => hw_40 ⟨hgo_38, hT_38.mpr q⟩), fun q => absurd q (fun q => q.1 c_39)⟩)⟩, hP, hD, hS, (lv_sub hl [0, 3, 4, 5, 6] rfl)⟩
                      · refine lv_iload hx hb dX8_judge_165 (lv_at hl 2 rfl) ?_
                        refine lv_aload_n hx hb dX8_judge_167 rfl (lv_at hl 3 rfl) ?_
                        refine va_get (D := D) (ci := 8) (v := .int (nI rw)) (C := RX8) (T := TX8) (N := 44) hx hb hts inX8 hown hK hP 1 rfl rfl 30 (by decide) (hts _ tw_1003) (fun _ h9 => h9) rfl dX8_judge_168 ?_
                        refine lv_iconst (v := 1) hx hb dX8_judge_171 (by decide) ?_
                        refine lv_isub hx hb dX8_judge_172 ?_
                        refine lv_ti (y := (nI (rw - 1))) (pk_sub (a := rw) (b := 1) (by omega)) ?_
                        refine lv_icmp_ne (tgt := 180) hx hb dX8_judge_173 (by decide) (fun c_41 => ?_) (fun c_41 => ?_)
                        · have c_41 : ¬ (ii_28 = (rw - 1)) := fun h => c_41 ((nI_eq (a := ii_28) (b := (rw - 1)) (by omega) (by omega)).mpr h)
                          refine lv_iconst (v := 0) hx hb dX8_judge_180 (by decide) ?_
                          refine lv_istore (lv' := [(6, .int 0), (5, .int (nI g2_34)), (4, .int (nI ii_28)), (0, .ref (a 0)), (1, .int (nI j_2)), (2, .int (nI j_4)), (3, .int p2)]) hx hb dX8_judge_181 hl (by decide) rfl (fun ls hl => ?_)
                          refine lv_aload_n hx hb dX8_judge_183 rfl (lv_at hl 3 rfl) ?_
                          refine lv_iload_n hx hb dX8_judge_184 rfl (lv_at hl 4 rfl) ?_
                          refine lv_iload_n hx hb dX8_judge_185 rfl (lv_at hl 5 rfl) ?_
                          refine lv_iload hx hb dX8_judge_186 (lv_at hl 2 rfl) ?_
                          refine lv_iload hx hb dX8_judge_188 (lv_at hl 1 rfl) ?_
                          refine ro_i (D := D) (va_runV (As := [.int (nI j_2), .int (nI j_4), .int (nI ii_28), .int (nI g2_34)]) (rest := []) ⟨hx, hb, hml, hown, hts⟩ ((n_isTaking l D k st lo a tx t0 we rd ru rw ca fp wd nu na ts df db sd dn se tm gs fprices fons__27 j_2 j_4 ii_28 g2_34 (by first | assumption | omega) (by first | assumption | omega) (by first | assumption | omega) (by first | assumption | omega)) H.size) (cwV 4 hts (gV tw_1285 tw_1287 tw_54 tw_87 tw_1288) rfl rfl rfl (by decide +kernel) ⟨Nat.le_of_ble_eq_true rfl, Nat.le_of_ble_eq_true rfl⟩) (pV hS hAlo hlo hP hK (va_Dlo hD hAlo) hZ [1, 2, 3, 5, 6] (by decide) rfl (ci := 8) (q := (RX8, TX8, 44)) (q0 := 0) rfl rfl) rfl rfl hl.1 rfl (lv_room (Nat.le_of_ble_eq_true rfl)) dX8_judge_190 ⟨Nat.le_of_ble_eq_true rfl, Nat.le_of_ble_eq_true rfl⟩) hS hA hP (fun r_42 H locs hw_42 hP hS => ?_)
                          try dsimp only at hw_42
                          rcases hw_42 with ⟨rfl, hw_42⟩ | ⟨rfl, hw_42⟩
                          · refine lv_iload hx hb dX8_judge_193 (lv_at hl 0 rfl) ?_
                            refine lv_icmp_eq (tgt := 201) hx hb dX8_judge_195 (by decide) (fun h => absurd h (by decide)) (fun _ => ?_)
                            refine lv_iload hx hb dX8_judge_198 (lv_at hl 2 rfl) ?_
                            have hP9 := hP.sub (ws' := [((a 0), .inr (8, (fX8 a (nI tx) fp (nI t0) wd (nI we) nu na (nI rd) ts (nI ru) (nI rw) (nI ca) df db sd))), (aI k (a 1) 3 (nF dn)), (aI k (a 4) 27 (sg se tm gs)), (aI k (a 2) 72 ffrees), (aI k (a 3) 72 fprices), (aZ k (a 32) 24 frow), (aI k (a 18) 768 fons__27), (aI k (a 19) 768 fworths__27), (aI k (a 20) 5 fstarts__27), (aI k (a 21) 4 fends__27), (aZ k (a 22) 4 fgoesRound__27), (aI k (a 23) 8 fbegin__27)]) [1, 2, 3, 4, 5, 0, 6, 7, 8, 9, 10, 11] rfl
                            have hD9 := hD.sub (ws' := [((a 0), .inr (8, (fX8 a (nI tx) fp (nI t0) wd (nI we) nu na (nI rd) ts (nI ru) (nI rw) (nI ca) df db sd))), (aI k (a 1) 3 (nF dn)), (aI k (a 4) 27 (sg se tm gs)), (aI k (a 2) 72 ffrees), (aI k (a 3) 72 fprices), (aZ k (a 32) 24 frow), (aI k (a 18) 768 fons__27), (aI k (a 19) 768 fworths__27), (aI k (a 20) 5 fstarts__27), (aI k (a 21) 4 fends__27), (aZ k (a 22) 4 fgoesRound__27), (aI k (a 23) 8 fbegin__27)]) [1, 2, 3, 4, 5, 0, 6, 7, 8, 9, 10, 11] (by decide +kernel) rfl
                            exact W.iret (v := (nI ii_28)) hx hb hr (fun t ht hW => ⟨⟨(nI ii_28), (fons__27, fworths__27, fstarts__27, fends__27, fgoesRound__27, fbegin__27), rfl, tq_at (s := j_2) (by omega) (show 0 < dn j_2 by omega) (show jdA (nI j_4) p2 frow rw (sdM dn (sg se tm gs) ffrees fprices j_2) _ from jd_i (by omega) (by rw [rdM]; exact inr (by omega) (htm _)) (not3 (show ¬ rw = 0 by omega) (show ¬ dn j_2 < rw by omega) (fun q => q.2 ((hfr _ (by omega)).resolve_left c_26))) ⟨ii_28, by omega, hv_28.2, .inl ⟨by omega, ⟨((hfr _ (by omega)).resolve_left c_30), (show ii_28 + sqN (seD (sdM dn (sg se tm gs) ffrees fprices j_2)) (dn j_2) ii_28 ≤ rw by rw [seM (hse _)]; omega), (fun q => (fun q => absurd q.2 (by omega)) (q.mp (hT_38.mp hw_42.2)))⟩, rfl⟩⟩), by rw [ht]; exact hP9, hD9⟩, hS.F ht⟩) hS.2.2 dX8_judge_200
                          · refine lv_iload hx hb dX8_judge_193 (lv_at hl 0 rfl) ?_
                            refine lv_icmp_eq (tgt := 201) hx hb dX8_judge_195 (by decide) (fun _ => ?_) (fun h => absurd (by decide) h)
                            refine lv_iinc (v := (nI (ii_28 + 1))) (lv' := [(4, .int (nI (ii_28 + 1))), (6, .int 0), (5, .int (nI g2_34)), (0, .ref (a 0)), (1, .int (nI j_2)), (2, .int (nI j_4)), (3, .int p2)]) hx hb dX8_judge_201 hl (k := 2) rfl (nI_add ii_28 1) (by decide) rfl (fun ls hl => ?_)
                            refine lv_goto (tgt := 75) hx hb dX8_judge_204 (by decide) ?_
                            exact ih_28 _ (ii_28 + 1) _ _ _ (by omega) ⟨rfl, ⟨by omega, la_all (P := fun j => wrg (sdM dn (sg se tm gs) ffrees fprices j_2) j_4 frow rw p2 j) hv_28.2 (fun h => h.2.2 ⟨fun q => absurd q (fun q => hw_42 ⟨hgo_38, hT_38.mpr q⟩), fun q => absurd q (fun q => absurd q.2 (by omega))⟩)⟩, hP, hD, hS, (lv_sub hl [0, 3, 4, 5, 6] rfl)⟩
                        · have c_41 := (nI_eq (a := ii_28) (b := (rw - 1)) (by omega) (by omega)).mp c_41
                          refine lv_iconst (v := 1) hx hb dX8_judge_176 (by decide) ?_
                          refine lv_goto (tgt := 181) hx hb dX8_judge_177 (by decide) ?_
                          refine lv_istore (lv' := [(6, .int 1), (5, .int (nI g2_34)), (4, .int (nI ii_28)), (0, .ref (a 0)), (1, .int (nI j_2)), (2, .int (nI j_4)), (3, .int p2)]) hx hb dX8_judge_181 hl (by decide) rfl (fun ls hl => ?_)
                          refine lv_aload_n hx hb dX8_judge_183 rfl (lv_at hl 3 rfl) ?_
                          refine lv_iload_n hx hb dX8_judge_184 rfl (lv_at hl 4 rfl) ?_
                          refine lv_iload_n hx hb dX8_judge_185 rfl (lv_at hl 5 rfl) ?_
                          refine lv_iload hx hb dX8_judge_186 (lv_at hl 2 rfl) ?_
                          refine lv_iload hx hb dX8_judge_188 (lv_at hl 1 rfl) ?_
                          refine ro_i (D := D) (va_runV (As := [.int (nI j_2), .int (nI j_4), .int (nI ii_28), .int (nI g2_34)]) (rest := []) ⟨hx, hb, hml, hown, hts⟩ ((n_isTaking l D k st lo a tx t0 we rd ru rw ca fp wd nu na ts df db sd dn se tm gs fprices fons__27 j_2 j_4 ii_28 g2_34 (by first | assumption | omega) (by first | assumption | omega) (by first | assumption | omega) (by first | assumption | omega)) H.size) (cwV 4 hts (gV tw_1285 tw_1287 tw_54 tw_87 tw_1288) rfl rfl rfl (by decide +kernel) ⟨Nat.le_of_ble_eq_true rfl, Nat.le_of_ble_eq_true rfl⟩) (pV hS hAlo hlo hP hK (va_Dlo hD hAlo) hZ [1, 2, 3, 5, 6] (by decide) rfl (ci := 8) (q := (RX8, TX8, 44)) (q0 := 0) rfl rfl) rfl rfl hl.1 rfl (lv_room (Nat.le_of_ble_eq_true rfl)) dX8_judge_190 ⟨Nat.le_of_ble_eq_true rfl, Nat.le_of_ble_eq_true rfl⟩) hS hA hP (fun r_43 H locs hw_43 hP hS => ?_)
                          try dsimp only at hw_43
                          rcases hw_43 with ⟨rfl, hw_43⟩ | ⟨rfl, hw_43⟩
                          · refine lv_iload hx hb dX8_judge_193 (lv_at hl 0 rfl) ?_
                            refine lv_icmp_eq (tgt := 201) hx hb dX8_judge_195 (by decide) (fun _ => ?_) (fun h => absurd (by decide) h)
                            refine lv_iinc (v := (nI (ii_28 + 1))) (lv' := [(4, .int (nI (ii_28 + 1))), (6, .int 1), (5, .int (nI g2_34)), (0, .ref (a 0)), (1, .int (nI j_2)), (2, .int (nI j_4)), (3, .int p2)]) hx hb dX8_judge_201 hl (k := 2) rfl (nI_add ii_28 1) (by decide) rfl (fun ls hl => ?_)
                            refine lv_goto (tgt := 75) hx hb dX8_judge_204 (by decide) ?_
                            exact ih_28 _ (ii_28 + 1) _ _ _ (by omega) ⟨rfl, ⟨by omega, la_all (P := fun j => wrg (sdM dn (sg se tm gs) ffrees fprices j_2) j_4 frow rw p2 j) hv_28.2 (fun h => h.2.2 ⟨fun _ => ⟨c_39, by omega⟩, fun _ => hT_38.mp hw_43.2⟩)⟩, hP, hD, hS, (lv_sub hl [0, 3, 4, 5, 6] rfl)⟩
                          · refine lv_iload hx hb dX8_judge_193 (lv_at hl 0 rfl) ?_
                            refine lv_icmp_eq (tgt := 201) hx hb dX8_judge_195 (by decide) (fun h => absurd h (by decide)) (fun _ => ?_)
                            refine lv_iload hx hb dX8_judge_198 (lv_at hl 2 rfl) ?_
                            have hP9 := hP.sub (ws' := [((a 0), .inr (8, (fX8 a (nI tx) fp (nI t0) wd (nI we) nu na (nI rd) ts (nI ru) (nI rw) (nI ca) df db sd))), (aI k (a 1) 3 (nF dn)), (aI k (a 4) 27 (sg se tm gs)), (aI k (a 2) 72 ffrees), (aI k (a 3) 72 fprices), (aZ k (a 32) 24 frow), (aI k (a 18) 768 fons__27), (aI k (a 19) 768 fworths__27), (aI k (a 20) 5 fstarts__27), (aI k (a 21) 4 fends__27), (aZ k (a 22) 4 fgoesRound__27), (aI k (a 23) 8 fbegin__27)]) [1, 2, 3, 4, 5, 0, 6, 7, 8, 9, 10, 11] rfl
                            have hD9 := hD.sub (ws' := [((a 0), .inr (8, (fX8 a (nI tx) fp (nI t0) wd (nI we) nu na (nI rd) ts (nI ru) (nI rw) (nI ca) df db sd))), (aI k (a 1) 3 (nF dn)), (aI k (a 4) 27 (sg se tm gs)), (aI k (a 2) 72 ffrees), (aI k (a 3) 72 fprices), (aZ k (a 32) 24 frow), (aI k (a 18) 768 fons__27), (aI k (a 19) 768 fworths__27), (aI k (a 20) 5 fstarts__27), (aI k (a 21) 4 fends__27), (aZ k (a 22) 4 fgoesRound__27), (aI k (a 23) 8 fbegin__27)]) [1, 2, 3, 4, 5, 0, 6, 7, 8, 9, 10, 11] (by decide +kernel) rfl
                            exact W.iret (v := (nI ii_28)) hx hb hr (fun t ht hW => ⟨⟨(nI ii_28), (fons__27, fworths__27, fstarts__27, fends__27, fgoesRound__27, fbegin__27), rfl, tq_at (s := j_2) (by omega) (show 0 < dn j_2 by omega) (show jdA (nI j_4) p2 frow rw (sdM dn (sg se tm gs) ffrees fprices j_2) _ from jd_i (by omega) (by rw [rdM]; exact inr (by omega) (htm _)) (not3 (show ¬ rw = 0 by omega) (show ¬ dn j_2 < rw by omega) (fun q => q.2 ((hfr _ (by omega)).resolve_left c_26))) ⟨ii_28, by omega, hv_28.2, .inl ⟨by omega, ⟨((hfr _ (by omega)).resolve_left c_30), (show ii_28 + sqN (seD (sdM dn (sg se tm gs) ffrees fprices j_2)) (dn j_2) ii_28 ≤ rw by rw [seM (hse _)]; omega), (fun q => (fun q => hw_43 ⟨hgo_38, hT_38.mpr q⟩) (q.mpr ⟨c_39, by omega⟩))⟩, rfl⟩⟩), by rw [ht]; exact hP9, hD9⟩, hS.F ht⟩) hS.2.2 dX8_judge_200
                    · have c_37 : ¬ (sv_36 ≤ kk_34) := fun h => c_37 ((nI_leI (a := sv_36) (b := kk_34) (by omega) (by omega)).mpr h)
                      refine lv_iload hx hb dX8_judge_129 (lv_at hl 1 rfl) ?_
                      refine lv_aload_n hx hb dX8_judge_131 rfl (lv_at hl 3 rfl) ?_
                      refine va_get (D := D) (ci := 8) (v := .ref (a 32)) (C := RX8) (T := TX8) (N := 44) hx hb hts inX8 hown hK hP 1 rfl rfl 31 (by decide) (hts _ tw_1004) (fun _ h9 => h9) rfl dX8_judge_132 ?_
                      refine lv_iload hx hb dX8_judge_135 (lv_at hl 2 rfl) ?_
                      refine lv_iload hx hb dX8_judge_137 (lv_at hl 0 rfl) ?_
                      refine lv_iadd hx hb dX8_judge_139 ?_
                      refine lv_ti (y := (nI (ii_28 + kk_34))) (nI_add ii_28 kk_34) ?_
                      refine va_zald hx hb hK hP 0 2 rfl rfl (vp_in_nI (by omega) (by decide)) dX8_judge_140 ?_
                      refine lv_ti (y := (frow (ii_28 + kk_34))) (by rw [nI_clamp (by omega)]) ?_
                      refine lv_if_eq (tgt := 151) hx hb dX8_judge_141 (by decide) (fun c_44 => ?_) (fun c_44 => ?_)
                      · refine lv_iconst (v := 0) hx hb dX8_judge_151 (by decide) ?_
                        have hgl_34 : g2_34 < 2 ^ kk_34 := by rw [hv_34.2]; exact rowN_lt _ _
                        refine lv_ior hx hb dX8_judge_152 ?_
                        refine lv_ti (y := (nI g2_34)) (show nI g2_34 ||| (0 : Int32) = nI g2_34 from Int32.or_zero) ?_
                        refine lv_istore (lv' := [(5, .int (nI g2_34)), (6, .int (nI kk_34)), (4, .int (nI ii_28)), (0, .ref (a 0)), (1, .int (nI j_2)), (2, .int (nI j_4)), (3, .int p2)]) hx hb dX8_judge_153 hl (by decide) rfl (fun ls hl => ?_)
                        refine lv_iinc (v := (nI (kk_34 + 1))) (lv' := [(6, .int (nI (kk_34 + 1))), (5, .int (nI g2_34)), (4, .int (nI ii_28)), (0, .ref (a 0)), (1, .int (nI j_2)), (2, .int (nI j_4)), (3, .int p2)]) hx hb dX8_judge_155 hl (k := 1) rfl (nI_add kk_34 1) (by decide) rfl (fun ls hl => ?_)
                        refine lv_goto (tgt := 117) hx hb dX8_judge_158 (by decide) ?_
                        exact ih_34 _ (kk_34 + 1, g2_34) _ _ _ (by omega) ⟨rfl, ⟨by omega, (by show _ = rowN (fun k => frow (ii_28 + k)) kk_34 + (if frow (ii_28 + kk_34) = 1 then 2 ^ kk_34 else 0); rw [if_neg (by rw [c_44]; decide), Nat.add_zero]; exact hv_34.2)⟩, hP, hD, hS, (lv_sub hl [0, 1, 2, 3, 4, 5, 6] rfl)⟩
                      · refine lv_iconst (v := 1) hx hb dX8_judge_144 (by decide) ?_
                        refine lv_iload hx hb dX8_judge_145 (lv_at hl 0 rfl) ?_
                        refine lv_ishl hx hb dX8_judge_147 ?_
                        refine lv_ti (y := (nI (2 ^ kk_34))) (shl1 kk_34 (by omega)) ?_
                        refine lv_goto (tgt := 152) hx hb dX8_judge_148 (by decide) ?_
                        have hgl_34 : g2_34 < 2 ^ kk_34 := by rw [hv_34.2]; exact rowN_lt _ _
                        refine lv_ior hx hb dX8_judge_152 ?_
                        refine lv_ti (y := (nI (g2_34 + 2 ^ kk_34))) (or_nb (by omega) hgl_34) ?_
                        refine lv_istore (lv' := [(5, .int (nI (g2_34 + 2 ^ kk_34))), (6, .int (nI kk_34)), (4, .int (nI ii_28)), (0, .ref (a 0)), (1, .int (nI j_2)), (2, .int (nI j_4)), (3, .int p2)]) hx hb dX8_judge_153 hl (by decide) rfl (fun ls hl => ?_)
                        refine lv_iinc (v := (nI (kk_34 + 1))) (lv' := [(6, .int (nI (kk_34 + 1))), (5, .int (nI (g2_34 + 2 ^ kk_34))), (4, .int (nI ii_28)), (0, .ref (a 0)), (1, .int (nI j_2)), (2, .int (nI j_4)), (3, .int p2)]) hx hb dX8_judge_155 hl (k := 1) rfl (nI_add kk_34 1) (by decide) rfl (fun ls hl => ?_)
                        refine lv_goto (tgt := 117) hx hb dX8_judge_158 (by decide) ?_
                        exact ih_34 _ (kk_34 + 1, g2_34 + 2 ^ kk_34) _ _ _ (by omega) ⟨rfl, ⟨by omega, (by show _ = rowN (fun k => frow (ii_28 + k)) kk_34 + (if frow (ii_28 + kk_34) = 1 then 2 ^ kk_34 else 0); rw [if_pos ((hfr _ (by omega)).resolve_left c_44), ← hv_34.2])⟩, hP, hD, hS, (lv_sub hl [0, 1, 2, 3, 4, 5, 6] rfl)⟩
            · refine lv_sipush (v := (-1003)) hx hb dX8_judge_63 (by decide) ?_
              have hP9 := hP.sub (ws' := [((a 0), .inr (8, (fX8 a (nI tx) fp (nI t0) wd (nI we) nu na (nI rd) ts (nI ru) (nI rw) (nI ca) df db sd))), (aI k (a 1) 3 (nF dn)), (aI k (a 4) 27 (sg se tm gs)), (aI k (a 2) 72 ffrees), (aI k (a 3) 72 fprices), (aZ k (a 32) 24 frow), (aI k (a 18) 768 fons), (aI k (a 19) 768 fworths), (aI k (a 20) 5 fstarts), (aI k (a 21) 4 fends), (aZ k (a 22) 4 fgoesRound), (aI k (a 23) 8 fbegin)]) [0, 1, 2, 3, 4, 5, 6, 7, 8, 9, 10, 11] rfl
              have hD9 := hD.sub (ws' := [((a 0), .inr (8, (fX8 a (nI tx) fp (nI t0) wd (nI we) nu na (nI rd) ts (nI ru) (nI rw) (nI ca) df db sd))), (aI k (a 1) 3 (nF dn)), (aI k (a 4) 27 (sg se tm gs)), (aI k (a 2) 72 ffrees), (aI k (a 3) 72 fprices), (aZ k (a 32) 24 frow), (aI k (a 18) 768 fons), (aI k (a 19) 768 fworths), (aI k (a 20) 5 fstarts), (aI k (a 21) 4 fends), (aZ k (a 22) 4 fgoesRound), (aI k (a 23) 8 fbegin)]) [0, 1, 2, 3, 4, 5, 6, 7, 8, 9, 10, 11] (by decide +kernel) rfl
              exact W.iret (v := (-1003)) hx hb hr (fun t ht hW => ⟨⟨(-1003), (fons, fworths, fstarts, fends, fgoesRound, fbegin), rfl, tq_at (s := j_2) (by omega) (show 0 < dn j_2 by omega) (show jdA (nI j_4) p2 frow rw (sdM dn (sg se tm gs) ffrees fprices j_2) _ from jd_n (by rw [rdM]; exact inr (by omega) (htm _)) (.inr (.inr ⟨c_7, by rw [c_26]; decide⟩))), by rw [ht]; exact hP9, hD9⟩, hS.F ht⟩) hS.2.2 dX8_judge_66
    · refine lv_if_ne (tgt := 25) hx hb dX8_judge_18 (by decide) (fun h => absurd (by decide) h) (fun _ => ?_)
      refine lv_sipush (v := (-1002)) hx hb dX8_judge_21 (by decide) ?_
      have hP9 := hP.sub (ws' := [((a 0), .inr (8, (fX8 a (nI tx) fp (nI t0) wd (nI we) nu na (nI rd) ts (nI ru) (nI rw) (nI ca) df db sd))), (aI k (a 1) 3 (nF dn)), (aI k (a 4) 27 (sg se tm gs)), (aI k (a 2) 72 ffrees), (aI k (a 3) 72 fprices), (aZ k (a 32) 24 frow), (aI k (a 18) 768 fons), (aI k (a 19) 768 fworths), (aI k (a 20) 5 fstarts), (aI k (a 21) 4 fends), (aZ k (a 22) 4 fgoesRound), (aI k (a 23) 8 fbegin)]) [0, 1, 2, 3, 4, 5, 6, 7, 8, 9, 10, 11] rfl
      have hD9 := hD.sub (ws' := [((a 0), .inr (8, (fX8 a (nI tx) fp (nI t0) wd (nI we) nu na (nI rd) ts (nI ru) (nI rw) (nI ca) df db sd))), (aI k (a 1) 3 (nF dn)), (aI k (a 4) 27 (sg se tm gs)), (aI k (a 2) 72 ffrees), (aI k (a 3) 72 fprices), (aZ k (a 32) 24 frow), (aI k (a 18) 768 fons), (aI k (a 19) 768 fworths), (aI k (a 20) 5 fstarts), (aI k (a 21) 4 fends), (aZ k (a 22) 4 fgoesRound), (aI k (a 23) 8 fbegin)]) [0, 1, 2, 3, 4, 5, 6, 7, 8, 9, 10, 11] (by decide +kernel) rfl
      exact W.iret (v := (-1002)) hx hb hr (fun t ht hW => ⟨⟨(-1002), (fons, fworths, fstarts, fends, fgoesRound, fbegin), rfl, tq_at (s := j_2) (by omega) (show 0 < dn j_2 by omega) (jd_o (by rw [rdM]; exact hw_3)), by rw [ht]; exact hP9, hD9⟩, hS.F ht⟩) hS.2.2 dX8_judge_24
  · refine lv_if_ne (tgt := 12) hx hb dX8_judge_5 (by decide) (fun h => absurd (by decide) h) (fun _ => ?_)
    refine lv_sipush (v := (-1001)) hx hb dX8_judge_8 (by decide) ?_
    have hP9 := hP.sub (ws' := [((a 0), .inr (8, (fX8 a (nI tx) fp (nI t0) wd (nI we) nu na (nI rd) ts (nI ru) (nI rw) (nI ca) df db sd))), (aI k (a 1) 3 (nF dn)), (aI k (a 4) 27 (sg se tm gs)), (aI k (a 2) 72 ffrees), (aI k (a 3) 72 fprices), (aZ k (a 32) 24 frow), (aI k (a 18) 768 fons), (aI k (a 19) 768 fworths), (aI k (a 20) 5 fstarts), (aI k (a 21) 4 fends), (aZ k (a 22) 4 fgoesRound), (aI k (a 23) 8 fbegin)]) [0, 1, 2, 3, 4, 5, 6, 7, 8, 9, 10, 11] rfl
    have hD9 := hD.sub (ws' := [((a 0), .inr (8, (fX8 a (nI tx) fp (nI t0) wd (nI we) nu na (nI rd) ts (nI ru) (nI rw) (nI ca) df db sd))), (aI k (a 1) 3 (nF dn)), (aI k (a 4) 27 (sg se tm gs)), (aI k (a 2) 72 ffrees), (aI k (a 3) 72 fprices), (aZ k (a 32) 24 frow), (aI k (a 18) 768 fons), (aI k (a 19) 768 fworths), (aI k (a 20) 5 fstarts), (aI k (a 21) 4 fends), (aZ k (a 22) 4 fgoesRound), (aI k (a 23) 8 fbegin)]) [0, 1, 2, 3, 4, 5, 6, 7, 8, 9, 10, 11] (by decide +kernel) rfl
    exact W.iret (v := (-1001)) hx hb hr (fun t ht hW => ⟨⟨(-1001), (fons, fworths, fstarts, fends, fgoesRound, fbegin), rfl, tq_no (fun s h1 h2 h3 => hw_1 s h1 h2 h3), by rw [ht]; exact hP9, hD9⟩, hS.F ht⟩) hS.2.2 dX8_judge_11


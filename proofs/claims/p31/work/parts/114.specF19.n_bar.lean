
set_option maxHeartbeats 4000000 in
set_option maxRecDepth 100000 in
theorem n_bar (l : Launch) (D : va_G) (k : Nat → ClassId) (st : Nat → Nat) (lo : Nat) (a : Nat → Nat) (tx : Nat) (t0 : Nat) (we : Nat) (rd : Nat) (ru : Nat) (rw : Nat) (ca : Nat) (fp : Int32) (wd : Int64) (nu : Int32) (na : Int32) (ts : Int32) (df : Int32) (db : Int32) (sd : Int32) (dn : Nat → Nat) (se : Nat → Nat) (tm : Nat → Nat) (gs : Nat → Int32) (ffrees : Nat → Int32) (fprices : Nat → Int32) (fons : Nat → Int32) (fworths : Nat → Int32) (fstarts : Nat → Int32) (fends : Nat → Int32) (fgoesRound : Nat → Int32) (fbegin : Nat → Int32) (p0 : Int32) (p1 : Int32) (hdn : ∀ j, dn j ≤ 24) (hse : ∀ j, se j ≤ 2) (htm : ∀ j, tm j ≤ 3) : CWi l D k st lo yX8_bar cX8_bar 8 (some .int) ({ frames := 6, cells := 0, slots := 0, locals := 144 }) 0 0 [.ref (a 0), .int p0, .int p1] [((a 0), .inr (8, (fX8 a (nI tx) fp (nI t0) wd (nI we) nu na (nI rd) ts (nI ru) (nI rw) (nI ca) df db sd))), (aI k (a 1) 3 (nF dn)), (aI k (a 4) 27 (sg se tm gs)), (aI k (a 2) 72 ffrees), (aI k (a 3) 72 fprices), (aI k (a 18) 768 fons), (aI k (a 19) 768 fworths), (aI k (a 20) 5 fstarts), (aI k (a 21) 4 fends), (aZ k (a 22) 4 fgoesRound), (aI k (a 23) 8 fbegin)] (fun (r : Int32) (u : (Nat → Int32) × (Nat → Int32) × (Nat → Int32) × (Nat → Int32) × (Nat → Int32) × (Nat → Int32)) => match u with | (fons_, fworths_, fstarts_, fends_, fgoesRound_, fbegin_) => tqP (sdM dn (sg se tm gs) ffrees fprices) p0 (baA p1) r) (fun (u : (Nat → Int32) × (Nat → Int32) × (Nat → Int32) × (Nat → Int32) × (Nat → Int32) × (Nat → Int32)) => match u with | (fons_, fworths_, fstarts_, fends_, fgoesRound_, fbegin_) => [((a 0), .inr (8, (fX8 a (nI tx) fp (nI t0) wd (nI we) nu na (nI rd) ts (nI ru) (nI rw) (nI ca) df db sd))), (aI k (a 1) 3 (nF dn)), (aI k (a 4) 27 (sg se tm gs)), (aI k (a 2) 72 ffrees), (aI k (a 3) 72 fprices), (aI k (a 18) 768 fons_), (aI k (a 19) 768 fworths_), (aI k (a 20) 5 fstarts_), (aI k (a 21) 4 fends_), (aZ k (a 22) 4 fgoesRound_), (aI k (a 23) 8 fbegin_)]) := by
  intro sz
  refine Met.ofW (cc := cX8_bar) (maxL := 8) (ret := (some .int)) (by decide) rfl ?_
  intro p e s m args below meth c s₁ B hml hv
  obtain ⟨rfl, hsz, hlo, hP, hK, hDL, hZ⟩ := hv
  have hx := B.exec
  have hb := B.bytes
  have hr := B.returns
  have hts := WS_ts B.pre
  have hown : s.vm.findClass RX8 = some m.cls := findClass_of_methodNamed B.named
  have hlocks := B.notSynchronized
  subst hsz
  have hD := hDL.self (sz := s.heap.size)
  have hAlo := A_lo hDL hlo
  generalize hAe : va_A [((a 0), .inr (8, (fX8 a (nI tx) fp (nI t0) wd (nI we) nu na (nI rd) ts (nI ru) (nI rw) (nI ca) df db sd))), (aI k (a 1) 3 (nF dn)), (aI k (a 4) 27 (sg se tm gs)), (aI k (a 2) 72 ffrees), (aI k (a 3) 72 fprices), (aI k (a 18) 768 fons), (aI k (a 19) 768 fworths), (aI k (a 20) 5 fstarts), (aI k (a 21) 4 fends), (aZ k (a 22) 4 fgoesRound), (aI k (a 23) 8 fbegin)] s.heap.size = A at hD hAlo ⊢
  have hA : ∀ q : Nat, s.heap.size ≤ q → A q := fun q h => by rw [← hAe]; exact Or.inr h
  have hS : va_S A s.heap s.heap [] := va_S.rf
  have hl := lv_entry ([.ref (a 0), .int p0, .int p1]) (n := 8) (Nat.le_of_ble_eq_true rfl)
  rw [lg_entry_eq]
  generalize (lg_sl ([.ref (a 0), .int p0, .int p1]) ++ List.replicate (8 - (lg_sl ([.ref (a 0), .int p0, .int p1])).length) Slot.unset).toArray = ls at hl ⊢
  have hl : lv_has ls 8 [(0, .ref (a 0)), (1, .int p0), (2, .int p1)] := hl
  refine lv_aload_n hx hb dX8_bar_0 rfl (lv_at hl 0 rfl) ?_
  refine lv_iload_n hx hb dX8_bar_1 rfl (lv_at hl 1 rfl) ?_
  refine ro_i (D := D) (va_runV (As := [.int p0]) (rest := []) ⟨hx, hb, hml, hown, hts⟩ ((n_isStreet l D k st lo a tx t0 we rd ru rw ca fp wd nu na ts df db sd dn p0 hdn) s.heap.size) (cwV 1 hts (gV tw_1189 tw_1191 tw_38 tw_87 tw_1192) rfl rfl rfl (by decide +kernel) ⟨Nat.le_of_ble_eq_true rfl, Nat.le_of_ble_eq_true rfl⟩) (pV hS hAlo hlo hP hK (va_Dlo hD hAlo) hZ [0, 1] (by decide) rfl (ci := 8) (q := (RX8, TX8, 44)) (q0 := 0) rfl rfl) rfl rfl hl.1 rfl (lv_room (Nat.le_of_ble_eq_true rfl)) dX8_bar_2 ⟨Nat.le_of_ble_eq_true rfl, Nat.le_of_ble_eq_true rfl⟩) hS hA hP (fun r_1 H locs hw_1 hP hS => ?_)
  try dsimp only at hw_1
  rcases hw_1 with ⟨rfl, j_2, hj_2, rfl, hw_1⟩ | ⟨rfl, hw_1⟩
  · have hdj_2 := hdn j_2
    have htj_2 := htm j_2
    refine lv_if_ne (tgt := 12) hx hb dX8_bar_5 (by decide) (fun _ => ?_) (fun h => absurd h (by decide))
    refine lv_aload_n hx hb dX8_bar_12 rfl (lv_at hl 0 rfl) ?_
    refine lv_iload_n hx hb dX8_bar_13 rfl (lv_at hl 1 rfl) ?_
    refine lv_iload_n hx hb dX8_bar_14 rfl (lv_at hl 2 rfl) ?_
    refine ro_i (D := D) (va_runV (As := [.int (nI j_2), .int p1]) (rest := []) ⟨hx, hb, hml, hown, hts⟩ ((n_isRound l D k st lo a tx t0 we rd ru rw ca fp wd nu na ts df db sd se tm gs j_2 p1 htm (by first | assumption | omega)) H.size) (cwV 2 hts (gV tw_1218 tw_1220 tw_42 tw_87 tw_1221) rfl rfl rfl (by decide +kernel) ⟨Nat.le_of_ble_eq_true rfl, Nat.le_of_ble_eq_true rfl⟩) (pV hS hAlo hlo hP hK (va_Dlo hD hAlo) hZ [0, 2] (by decide) rfl (ci := 8) (q := (RX8, TX8, 44)) (q0 := 0) rfl rfl) rfl rfl hl.1 rfl (lv_room (Nat.le_of_ble_eq_true rfl)) dX8_bar_15 ⟨Nat.le_of_ble_eq_true rfl, Nat.le_of_ble_eq_true rfl⟩) hS hA hP (fun r_3 H locs hw_3 hP hS => ?_)
    try dsimp only at hw_3
    rcases hw_3 with ⟨rfl, j_4, hj_4, rfl, hw_3⟩ | ⟨rfl, hw_3⟩
    · refine lv_if_ne (tgt := 25) hx hb dX8_bar_18 (by decide) (fun _ => ?_) (fun h => absurd h (by decide))
      refine lv_aload_n hx hb dX8_bar_25 rfl (lv_at hl 0 rfl) ?_
      refine lv_iload_n hx hb dX8_bar_26 rfl (lv_at hl 1 rfl) ?_
      refine rw_v (D := D) (wr := []) (va_runV (As := [.int (nI j_2)]) (rest := []) ⟨hx, hb, hml, hown, hts⟩ ((n_findWay l D k st lo a tx t0 we rd ru rw ca fp wd nu na ts df db sd dn se tm gs ffrees fprices fons fworths fstarts fends fgoesRound fbegin j_2 hdn hse htm (by first | assumption | omega) (by first | assumption | omega)) H.size) (cwV 1 hts (gV tw_1250 tw_1252 tw_49 tw_87 tw_1253) rfl rfl rfl (by decide +kernel) ⟨Nat.le_of_ble_eq_true rfl, Nat.le_of_ble_eq_true rfl⟩) (pV hS hAlo hlo hP hK (va_Dlo hD hAlo) hZ [0, 1, 2, 3, 4, 5, 6, 7, 8, 9, 10] (by decide +kernel) rfl (ci := 8) (q := (RX8, TX8, 44)) (q0 := 0) rfl rfl) rfl rfl hl.1 rfl (lv_room (Nat.le_of_ble_eq_true rfl)) dX8_bar_27 ⟨Nat.le_of_ble_eq_true rfl, Nat.le_of_ble_eq_true rfl⟩) hS hA hP hD [0, 1, 2, 3, 4, 5, 6, 7, 8, 9, 10] [] rfl rfl (by decide +kernel) (by decide +kernel) (fun u H locs hw_5 hP hD hS => ?_)
      obtain ⟨fons__5, fworths__5, fstarts__5, fends__5, fgoesRound__5, fbegin__5⟩ := u
      have hQ9 := pd_mk [((a 0), .inr (8, (fX8 a (nI tx) fp (nI t0) wd (nI we) nu na (nI rd) ts (nI ru) (nI rw) (nI ca) df db sd))), (aI k (a 1) 3 (nF dn)), (aI k (a 4) 27 (sg se tm gs)), (aI k (a 2) 72 ffrees), (aI k (a 3) 72 fprices), (aI k (a 18) 768 fons__5), (aI k (a 19) 768 fworths__5), (aI k (a 20) 5 fstarts__5), (aI k (a 21) 4 fends__5), (aZ k (a 22) 4 fgoesRound__5), (aI k (a 23) 8 fbegin__5)] hP hD
      clear hP hD
      obtain ⟨hP, hD⟩ := hQ9
      try dsimp only at hw_5
      refine lv_aload_n hx hb dX8_bar_30 rfl (lv_at hl 0 rfl) ?_
      refine va_get (D := D) (ci := 8) (v := .ref (a 1)) (C := RX8) (T := TX8) (N := 44) hx hb hts inX8 hown hK hP 0 rfl rfl 0 (by decide) (hts _ tw_973) (fun _ h9 => h9) rfl dX8_bar_31 ?_
      refine lv_iload_n hx hb dX8_bar_34 rfl (lv_at hl 1 rfl) ?_
      refine va_iald hx hb hK hP 1 1 rfl rfl (vp_in_nI (by omega) (by decide)) dX8_bar_35 ?_
      refine lv_ti (y := (nI (dn j_2))) (by rw [nI_clamp (by omega)]; rfl) ?_
      refine lv_istore_n (lv' := [(3, .int (nI (dn j_2))), (0, .ref (a 0)), (1, .int (nI j_2)), (2, .int (nI j_4))]) hx hb dX8_bar_36 rfl hl (by decide) rfl (fun ls hl => ?_)
      refine lv_iconst (v := 0) hx hb dX8_bar_37 (by decide) ?_
      refine lv_istore (lv' := [(4, .int 0), (3, .int (nI (dn j_2))), (0, .ref (a 0)), (1, .int (nI j_2)), (2, .int (nI j_4))]) hx hb dX8_bar_38 hl (by decide) rfl (fun ls hl => ?_)
      refine W_loop (σ := Nat) (fun (n_ : Nat) (bb_6 : Nat) (H : Heap) (locs : List Loc) (ls : Array Slot) => n_ = dn j_2 + 1 - bb_6 ∧ (bb_6 ≤ dn j_2 + 1 ∧ ∀ b, b < bb_6 → ¬ isBa (dn j_2) (fun i => 2 ^ sqN (se j_2) (dn j_2) i) (fun i g => fM_taking dn se tm gs fprices j_2 i (nI j_4) ≤ fons__5 (192 * j_4 + 8 * i + g)) b) ∧ va_P D classes [((a 0), .inr (8, (fX8 a (nI tx) fp (nI t0) wd (nI we) nu na (nI rd) ts (nI ru) (nI rw) (nI ca) df db sd))), (aI k (a 1) 3 (nF dn)), (aI k (a 4) 27 (sg se tm gs)), (aI k (a 2) 72 ffrees), (aI k (a 3) 72 fprices), (aI k (a 18) 768 fons__5), (aI k (a 19) 768 fworths__5), (aI k (a 20) 5 fstarts__5), (aI k (a 21) 4 fends__5), (aZ k (a 22) 4 fgoesRound__5), (aI k (a 23) 8 fbegin__5)] H ∧ va_D A [((a 0), .inr (8, (fX8 a (nI tx) fp (nI t0) wd (nI we) nu na (nI rd) ts (nI ru) (nI rw) (nI ca) df db sd))), (aI k (a 1) 3 (nF dn)), (aI k (a 4) 27 (sg se tm gs)), (aI k (a 2) 72 ffrees), (aI k (a 3) 72 fprices), (aI k (a 18) 768 fons__5), (aI k (a 19) 768 fworths__5), (aI k (a 20) 5 fstarts__5), (aI k (a 21) 4 fends__5), (aZ k (a 22) 4 fgoesRound__5), (aI k (a 23) 8 fbegin__5)] ∧ va_S A s.heap H locs ∧ lv_has ls 8 [(4, .int (nI bb_6)), (3, .int (nI (dn j_2))), (0, .ref (a 0)), (1, .int (nI j_2)), (2, .int (nI j_4))]) (fun n_6 x_6 H locs ls hI ih_6 => ?_) _ 0 ⟨rfl, ⟨by omega, fun b h => absurd h (Nat.not_lt_zero b)⟩, hP, hD, hS, (lv_sub hl [0, 1, 2, 3, 4] rfl)⟩
      obtain ⟨bb_6, rfl⟩ : ∃ z, z = x_6 := ⟨_, rfl⟩
      obtain ⟨hm_6, hv_6, hP, hD, hS, hl⟩ := hI
      subst hm_6
      refine lv_iload hx hb dX8_bar_40 (lv_at hl 0 rfl) ?_
      refine lv_iload_n hx hb dX8_bar_42 rfl (lv_at hl 1 rfl) ?_
      refine lv_icmp_gt (tgt := 138) hx hb dX8_bar_43 (by decide) (fun c_7 => ?_) (fun c_7 => ?_)
      · have c_7 := (nI_ltI (a := (dn j_2)) (b := bb_6) (by omega) (by omega)).mp c_7
        refine lv_iconst (v := (-1)) hx hb dX8_bar_138 (by decide) ?_
        obtain ⟨hP9, hD9⟩ := pd_sub [((a 0), .inr (8, (fX8 a (nI tx) fp (nI t0) wd (nI we) nu na (nI rd) ts (nI ru) (nI rw) (nI ca) df db sd))), (aI k (a 1) 3 (nF dn)), (aI k (a 4) 27 (sg se tm gs)), (aI k (a 2) 72 ffrees), (aI k (a 3) 72 fprices), (aI k (a 18) 768 fons__5), (aI k (a 19) 768 fworths__5), (aI k (a 20) 5 fstarts__5), (aI k (a 21) 4 fends__5), (aZ k (a 22) 4 fgoesRound__5), (aI k (a 23) 8 fbegin__5)] [0, 1, 2, 3, 4, 5, 6, 7, 8, 9, 10] hP hD (by decide +kernel) rfl
        exact W.iret (v := (-1)) hx hb hr (fun t ht hW => ⟨⟨(-1), (fons__5, fworths__5, fstarts__5, fends__5, fgoesRound__5, fbegin__5), rfl, tq_at (s := j_2) (by omega) (show 0 < dn j_2 by omega) (bq_i (by omega) (by rw [rdM]; exact inr (by omega) (htm _)) (by rw [seM (hse _)]; exact baP_congr (fun i hi g hg => by rw [← mTake (dn := dn) (se := se) (tm := tm) (gs := gs) (ffr := ffrees) (fpr := fprices) (r := j_4) (show i < dn j_2 from hi), ← (wmw_of (wm_of (hse _) (htm _) hw_5) (show j_4 ≤ tmD (sdM dn (sg se tm gs) ffrees fprices j_2) by rw [tmM (htm _)]; omega) (show i < dn j_2 from hi) (show g < 2 ^ sqN (seD (sdM dn (sg se tm gs) ffrees fprices j_2)) (dn j_2) i by rw [seM (hse _)]; exact hg)).2]) (ba_no (n := dn j_2) (S := (fun i => 2 ^ sqN (se j_2) (dn j_2) i)) (T := (fun i g => fM_taking dn se tm gs fprices j_2 i (nI j_4) ≤ fons__5 (192 * j_4 + 8 * i + g))) (fun b hb => hv_6.2 b (by omega))))), by rw [ht]; exact hP9, hD9⟩, hS.F ht⟩) hS.2.2 dX8_bar_139
      · have c_7 : ¬ ((dn j_2) < bb_6) := fun h => c_7 ((nI_ltI (a := (dn j_2)) (b := bb_6) (by omega) (by omega)).mpr h)
        refine lv_iconst (v := 1) hx hb dX8_bar_46 (by decide) ?_
        refine lv_istore (lv' := [(5, .int 1), (4, .int (nI bb_6)), (3, .int (nI (dn j_2))), (0, .ref (a 0)), (1, .int (nI j_2)), (2, .int (nI j_4))]) hx hb dX8_bar_47 hl (by decide) rfl (fun ls hl => ?_)
        refine lv_iconst (v := 0) hx hb dX8_bar_49 (by decide) ?_
        refine lv_istore (lv' := [(6, .int 0), (5, .int 1), (4, .int (nI bb_6)), (3, .int (nI (dn j_2))), (0, .ref (a 0)), (1, .int (nI j_2)), (2, .int (nI j_4))]) hx hb dX8_bar_50 hl (by decide) rfl (fun ls hl => ?_)
        refine W_loop (σ := Nat × Int32) (fun (n_ : Nat) (x_ : Nat × Int32) (H : Heap) (locs : List Loc) (ls : Array Slot) => match x_ with | (ii_8, is_8) => n_ = dn j_2 - ii_8 ∧ (ii_8 ≤ dn j_2 ∧ (is_8 = 0 ∨ is_8 = 1) ∧ (is_8 = 1 → ∀ i, i < ii_8 → ∀ g, g < 2 ^ sqN (se j_2) (dn j_2) i → g % 2 = 1 → (fM_taking dn se tm gs fprices j_2 i (nI j_4) ≤ fons__5 (192 * j_4 + 8 * i + g) ↔ bb_6 ≤ i)) ∧ (is_8 = 0 → ¬ isBa (dn j_2) (fun i => 2 ^ sqN (se j_2) (dn j_2) i) (fun i g => fM_taking dn se tm gs fprices j_2 i (nI j_4) ≤ fons__5 (192 * j_4 + 8 * i + g)) bb_6)) ∧ va_P D classes [((a 0), .inr (8, (fX8 a (nI tx) fp (nI t0) wd (nI we) nu na (nI rd) ts (nI ru) (nI rw) (nI ca) df db sd))), (aI k (a 1) 3 (nF dn)), (aI k (a 4) 27 (sg se tm gs)), (aI k (a 2) 72 ffrees), (aI k (a 3) 72 fprices), (aI k (a 18) 768 fons__5), (aI k (a 19) 768 fworths__5), (aI k (a 20) 5 fstarts__5), (aI k (a 21) 4 fends__5), (aZ k (a 22) 4 fgoesRound__5), (aI k (a 23) 8 fbegin__5)] H ∧ va_D A [((a 0), .inr (8, (fX8 a (nI tx) fp (nI t0) wd (nI we) nu na (nI rd) ts (nI ru) (nI rw) (nI ca) df db sd))), (aI k (a 1) 3 (nF dn)), (aI k (a 4) 27 (sg se tm gs)), (aI k (a 2) 72 ffrees), (aI k (a 3) 72 fprices), (aI k (a 18) 768 fons__5), (aI k (a 19) 768 fworths__5), (aI k (a 20) 5 fstarts__5), (aI k (a 21) 4 fends__5), (aZ k (a 22) 4 fgoesRound__5), (aI k (a 23) 8 fbegin__5)] ∧ va_S A s.heap H locs ∧ lv_has ls 8 [(6, .int (nI ii_8)), (5, .int is_8), (4, .int (nI bb_6)), (3, .int (nI (dn j_2))), (0, .ref (a 0)), (1, .int (nI j_2)), (2, .int (nI j_4))]) (fun n_8 x_8 H locs ls hI ih_8 => ?_) _ (0, 1) ⟨rfl, ⟨by omega, .inr rfl, fun _ i h => absurd h (Nat.not_lt_zero i), fun h => absurd h (by decide)⟩, hP, hD, hS, (lv_sub hl [0, 1, 2, 3, 4, 5, 6] rfl)⟩
        obtain ⟨ii_8, is_8⟩ := x_8
        obtain ⟨hm_8, hv_8, hP, hD, hS, hl⟩ := hI
        subst hm_8
        refine lv_iload hx hb dX8_bar_52 (lv_at hl 0 rfl) ?_
        refine lv_iload_n hx hb dX8_bar_54 rfl (lv_at hl 3 rfl) ?_
        refine lv_icmp_ge (tgt := 124) hx hb dX8_bar_55 (by decide) (fun c_9 => ?_) (fun c_9 => ?_)
        · have c_9 := (nI_leI (a := (dn j_2)) (b := ii_8) (by omega) (by omega)).mp c_9
          refine lv_iload hx hb dX8_bar_124 (lv_at hl 1 rfl) ?_
          refine lv_if_eq (tgt := 132) hx hb dX8_bar_126 (by decide) (fun c_10 => ?_) (fun c_10 => ?_)
          · refine lv_iinc (v := (nI (bb_6 + 1))) (lv' := [(4, .int (nI (bb_6 + 1))), (6, .int (nI ii_8)), (5, .int is_8), (3, .int (nI (dn j_2))), (0, .ref (a 0)), (1, .int (nI j_2)), (2, .int (nI j_4))]) hx hb dX8_bar_132 hl (k := 2) rfl (nI_add bb_6 1) (by decide) rfl (fun ls hl => ?_)
            refine lv_goto (tgt := 40) hx hb dX8_bar_135 (by decide) ?_
            exact ih_6 _ (bb_6 + 1) _ _ _ (by omega) ⟨rfl, ⟨by omega, fun b h => by rcases (show b = bb_6 ∨ b < bb_6 by omega) with e | h9; subst e; exact hv_8.2.2.2 c_10; exact hv_6.2 b h9⟩, hP, hD, hS, (lv_sub hl [0, 3, 4, 5, 6] rfl)⟩
          · refine lv_iload hx hb dX8_bar_129 (lv_at hl 2 rfl) ?_
            have hii_8 : ii_8 = dn j_2 := by omega
            obtain ⟨hP9, hD9⟩ := pd_sub [((a 0), .inr (8, (fX8 a (nI tx) fp (nI t0) wd (nI we) nu na (nI rd) ts (nI ru) (nI rw) (nI ca) df db sd))), (aI k (a 1) 3 (nF dn)), (aI k (a 4) 27 (sg se tm gs)), (aI k (a 2) 72 ffrees), (aI k (a 3) 72 fprices), (aI k (a 18) 768 fons__5), (aI k (a 19) 768 fworths__5), (aI k (a 20) 5 fstarts__5), (aI k (a 21) 4 fends__5), (aZ k (a 22) 4 fgoesRound__5), (aI k (a 23) 8 fbegin__5)] [0, 1, 2, 3, 4, 5, 6, 7, 8, 9, 10] hP hD (by decide +kernel) rfl
            exact W.iret (v := (nI bb_6)) hx hb hr (fun t ht hW => ⟨⟨(nI bb_6), (fons__5, fworths__5, fstarts__5, fends__5, fgoesRound__5, fbegin__5), rfl, tq_at (s := j_2) (by omega) (show 0 < dn j_2 by omega) (bq_i (by omega) (by rw [rdM]; exact inr (by omega) (htm _)) (by rw [seM (hse _)]; exact baP_congr (fun i hi g hg => by rw [← mTake (dn := dn) (se := se) (tm := tm) (gs := gs) (ffr := ffrees) (fpr := fprices) (r := j_4) (show i < dn j_2 from hi), ← (wmw_of (wm_of (hse _) (htm _) hw_5) (show j_4 ≤ tmD (sdM dn (sg se tm gs) ffrees fprices j_2) by rw [tmM (htm _)]; omega) (show i < dn j_2 from hi) (show g < 2 ^ sqN (seD (sdM dn (sg se tm gs) ffrees fprices j_2)) (dn j_2) i by rw [seM (hse _)]; exact hg)).2]) (ba_yes (n := dn j_2) (S := (fun i => 2 ^ sqN (se j_2) (dn j_2) i)) (T := (fun i g => fM_taking dn se tm gs fprices j_2 i (nI j_4) ≤ fons__5 (192 * j_4 + 8 * i + g))) (fun i hi => sq2 hi) (by omega) (fun i hi g hg ho => hv_8.2.2.1 (hv_8.2.1.resolve_left c_10) i (by omega) g hg ho)))), by rw [ht]; exact hP9, hD9⟩, hS.F ht⟩) hS.2.2 dX8_bar_131
        · have c_9 : ¬ ((dn j_2) ≤ ii_8) := fun h => c_9 ((nI_leI (a := (dn j_2)) (b := ii_8) (by omega) (by omega)).mpr h)
          refine lv_iconst (v := 1) hx hb dX8_bar_58 (by decide) ?_
          refine lv_istore (lv' := [(7, .int 1), (6, .int (nI ii_8)), (5, .int is_8), (4, .int (nI bb_6)), (3, .int (nI (dn j_2))), (0, .ref (a 0)), (1, .int (nI j_2)), (2, .int (nI j_4))]) hx hb dX8_bar_59 hl (by decide) rfl (fun ls hl => ?_)
          refine W_loop (σ := Nat × Int32) (fun (n_ : Nat) (x_ : Nat × Int32) (H : Heap) (locs : List Loc) (ls : Array Slot) => match x_ with | (gg_11, is_11) => n_ = 10 - gg_11 ∧ (gg_11 ≤ 9 ∧ gg_11 % 2 = 1 ∧ (is_11 = 0 ∨ is_11 = 1) ∧ (is_11 = 1 → (∀ i, i < ii_8 → ∀ g, g < 2 ^ sqN (se j_2) (dn j_2) i → g % 2 = 1 → (fM_taking dn se tm gs fprices j_2 i (nI j_4) ≤ fons__5 (192 * j_4 + 8 * i + g) ↔ bb_6 ≤ i)) ∧ ∀ g, g < gg_11 → g % 2 = 1 → (fM_taking dn se tm gs fprices j_2 ii_8 (nI j_4) ≤ fons__5 (192 * j_4 + 8 * ii_8 + g) ↔ bb_6 ≤ ii_8)) ∧ (is_11 = 0 → ¬ isBa (dn j_2) (fun i => 2 ^ sqN (se j_2) (dn j_2) i) (fun i g => fM_taking dn se tm gs fprices j_2 i (nI j_4) ≤ fons__5 (192 * j_4 + 8 * i + g)) bb_6)) ∧ va_P D classes [((a 0), .inr (8, (fX8 a (nI tx) fp (nI t0) wd (nI we) nu na (nI rd) ts (nI ru) (nI rw) (nI ca) df db sd))), (aI k (a 1) 3 (nF dn)), (aI k (a 4) 27 (sg se tm gs)), (aI k (a 2) 72 ffrees), (aI k (a 3) 72 fprices), (aI k (a 18) 768 fons__5), (aI k (a 19) 768 fworths__5), (aI k (a 20) 5 fstarts__5), (aI k (a 21) 4 fends__5), (aZ k (a 22) 4 fgoesRound__5), (aI k (a 23) 8 fbegin__5)] H ∧ va_D A [((a 0), .inr (8, (fX8 a (nI tx) fp (nI t0) wd (nI we) nu na (nI rd) ts (nI ru) (nI rw) (nI ca) df db sd))), (aI k (a 1) 3 (nF dn)), (aI k (a 4) 27 (sg se tm gs)), (aI k (a 2) 72 ffrees), (aI k (a 3) 72 fprices), (aI k (a 18) 768 fons__5), (aI k (a 19) 768 fworths__5), (aI k (a 20) 5 fstarts__5), (aI k (a 21) 4 fends__5), (aZ k (a 22) 4 fgoesRound__5), (aI k (a 23) 8 fbegin__5)] ∧ va_S A s.heap H locs ∧ lv_has ls 8 [(7, .int (nI gg_11)), (6, .int (nI ii_8)), (5, .int is_11), (4, .int (nI bb_6)), (3, .int (nI (dn j_2))), (0, .ref (a 0)), (1, .int (nI j_2)), (2, .int (nI j_4))]) (fun n_11 x_11 H locs ls hI ih_11 => ?_) _ (1, is_8) ⟨rfl, ⟨by omega, by omega, hv_8.2.1, fun h => ⟨hv_8.2.2.1 h, fun g hg ho => absurd hg (by omega)⟩, hv_8.2.2.2⟩, hP, hD, hS, (lv_sub hl [0, 1, 2, 3, 4, 5, 6, 7] rfl)⟩
          obtain ⟨gg_11, is_11⟩ := x_11
          obtain ⟨hm_11, hv_11, hP, hD, hS, hl⟩ := hI
          subst hm_11
          refine lv_iload hx hb dX8_bar_61 (lv_at hl 0 rfl) ?_
          refine lv_iconst (v := 1) hx hb dX8_bar_63 (by decide) ?_
          refine lv_aload_n hx hb dX8_bar_64 rfl (lv_at hl 5 rfl) ?_
          refine lv_iload_n hx hb dX8_bar_65 rfl (lv_at hl 6 rfl) ?_
          refine lv_iload hx hb dX8_bar_66 (lv_at hl 1 rfl) ?_
          refine ro_i (D := D) (va_runV (As := [.int (nI j_2), .int (nI ii_8)]) (rest := [.int 1, .int (nI gg_11)]) ⟨hx, hb, hml, hown, hts⟩ ((n_seen l D k st lo a tx t0 we rd ru rw ca fp wd nu na ts df db sd dn se tm gs j_2 ii_8 hdn hse (by first | assumption | omega) (by first | assumption | omega)) H.size) (cwV 2 hts (gV tw_1246 tw_1248 tw_48 tw_87 tw_1249) rfl rfl rfl (by decide +kernel) ⟨Nat.le_of_ble_eq_true rfl, Nat.le_of_ble_eq_true rfl⟩) (pV hS hAlo hlo hP hK (va_Dlo hD hAlo) hZ [0, 1, 2] (by decide) rfl (ci := 8) (q := (RX8, TX8, 44)) (q0 := 0) rfl rfl) rfl rfl hl.1 rfl (lv_room (Nat.le_of_ble_eq_true rfl)) dX8_bar_68 ⟨Nat.le_of_ble_eq_true rfl, Nat.le_of_ble_eq_true rfl⟩) hS hA hP (fun r_12 H locs hw_12 hP hS => ?_)
          try dsimp only at hw_12
          obtain ⟨sv_13, esv_13⟩ : ∃ z : Nat, z = sqN (se j_2) (dn j_2) ii_8 := ⟨_, rfl⟩
          rw [← esv_13] at hw_12
          subst hw_12
          have hsv_13 : sv_13 ≤ 3 ∧ sv_13 ≤ dn j_2 - ii_8 ∧ sv_13 ≤ se j_2 + 1 ∧ (0 < dn j_2 - ii_8 → 1 ≤ sv_13) := by have hse9 := hse j_2; rw [esv_13]; unfold sqN; omega
          have hpv_13 := p8 (show sv_13 ≤ 3 by omega)
          have hpe_13 : 2 ^ sv_13 = 2 ^ sqN (se j_2) (dn j_2) ii_8 := by rw [esv_13]
          refine lv_ishl hx hb dX8_bar_71 ?_
          refine lv_ti (y := (nI (2 ^ sv_13))) (shl1 sv_13 (by omega)) ?_
          refine lv_icmp_ge (tgt := 118) hx hb dX8_bar_72 (by decide) (fun c_14 => ?_) (fun c_14 => ?_)
          · have c_14 := (nI_leI (a := (2 ^ sv_13)) (b := gg_11) (by omega) (by omega)).mp c_14
            refine lv_iinc (v := (nI (ii_8 + 1))) (lv' := [(6, .int (nI (ii_8 + 1))), (7, .int (nI gg_11)), (5, .int is_11), (4, .int (nI bb_6)), (3, .int (nI (dn j_2))), (0, .ref (a 0)), (1, .int (nI j_2)), (2, .int (nI j_4))]) hx hb dX8_bar_118 hl (k := 1) rfl (nI_add ii_8 1) (by decide) rfl (fun ls hl => ?_)
            refine lv_goto (tgt := 52) hx hb dX8_bar_121 (by decide) ?_
            exact ih_8 _ (ii_8 + 1, is_11) _ _ _ (by omega) ⟨rfl, ⟨by omega, hv_11.2.2.1, fun h i hi g hg ho => by rcases (show i = ii_8 ∨ i < ii_8 by omega) with e | h9; subst e; exact (hv_11.2.2.2.1 h).2 g (by rw [← esv_13] at hg; omega) ho; exact (hv_11.2.2.2.1 h).1 i h9 g hg ho, hv_11.2.2.2.2⟩, hP, hD, hS, (lv_sub hl [0, 2, 3, 4, 5, 6, 7] rfl)⟩
          · have c_14 : ¬ ((2 ^ sv_13) ≤ gg_11) := fun h => c_14 ((nI_leI (a := (2 ^ sv_13)) (b := gg_11) (by omega) (by omega)).mpr h)
            refine lv_iload hx hb dX8_bar_75 (lv_at hl 2 rfl) ?_
            refine lv_if_eq (tgt := 109) hx hb dX8_bar_77 (by decide) (fun c_15 => ?_) (fun c_15 => ?_)
            · refine lv_iconst (v := 0) hx hb dX8_bar_109 (by decide) ?_
              refine lv_istore (lv' := [(5, .int 0), (7, .int (nI gg_11)), (6, .int (nI ii_8)), (4, .int (nI bb_6)), (3, .int (nI (dn j_2))), (0, .ref (a 0)), (1, .int (nI j_2)), (2, .int (nI j_4))]) hx hb dX8_bar_110 hl (by decide) rfl (fun ls hl => ?_)
              refine lv_iinc (v := (nI (gg_11 + 2))) (lv' := [(7, .int (nI (gg_11 + 2))), (5, .int 0), (6, .int (nI ii_8)), (4, .int (nI bb_6)), (3, .int (nI (dn j_2))), (0, .ref (a 0)), (1, .int (nI j_2)), (2, .int (nI j_4))]) hx hb dX8_bar_112 hl (k := 1) rfl (nI_add gg_11 2) (by decide) rfl (fun ls hl => ?_)
              refine lv_goto (tgt := 61) hx hb dX8_bar_115 (by decide) ?_
              exact ih_11 _ (gg_11 + 2, 0) _ _ _ (by omega) ⟨rfl, ⟨by omega, by omega, .inl rfl, fun h => absurd h (by decide), fun _ => hv_11.2.2.2.2 c_15⟩, hP, hD, hS, (lv_sub hl [0, 2, 1, 3, 4, 5, 6, 7] rfl)⟩
            · refine lv_aload_n hx hb dX8_bar_80 rfl (lv_at hl 5 rfl) ?_
              refine lv_iload_n hx hb dX8_bar_81 rfl (lv_at hl 6 rfl) ?_
              refine lv_iload_n hx hb dX8_bar_82 rfl (lv_at hl 7 rfl) ?_
              refine lv_iload hx hb dX8_bar_83 (lv_at hl 1 rfl) ?_
              refine lv_iload hx hb dX8_bar_85 (lv_at hl 0 rfl) ?_
              refine ro_i (D := D) (va_runV (As := [.int (nI j_2), .int (nI j_4), .int (nI ii_8), .int (nI gg_11)]) (rest := []) ⟨hx, hb, hml, hown, hts⟩ ((n_isTaking l D k st lo a tx t0 we rd ru rw ca fp wd nu na ts df db sd dn se tm gs fprices fons__5 j_2 j_4 ii_8 gg_11 (by first | assumption | omega) (by first | assumption | omega) (by first | assumption | omega) (by first | assumption | omega)) H.size) (cwV 4 hts (gV tw_1285 tw_1287 tw_54 tw_87 tw_1288) rfl rfl rfl (by decide +kernel) ⟨Nat.le_of_ble_eq_true rfl, Nat.le_of_ble_eq_true rfl⟩) (pV hS hAlo hlo hP hK (va_Dlo hD hAlo) hZ [0, 1, 2, 4, 5] (by decide) rfl (ci := 8) (q := (RX8, TX8, 44)) (q0 := 0) rfl rfl) rfl rfl hl.1 rfl (lv_room (Nat.le_of_ble_eq_true rfl)) dX8_bar_87 ⟨Nat.le_of_ble_eq_true rfl, Nat.le_of_ble_eq_true rfl⟩) hS hA hP (fun r_16 H locs hw_16 hP hS => ?_)
              try dsimp only at hw_16
              rcases hw_16 with ⟨rfl, hw_16⟩ | ⟨rfl, hw_16⟩
              · refine lv_iload hx hb dX8_bar_90 (lv_at hl 1 rfl) ?_
                refine lv_iload hx hb dX8_bar_92 (lv_at hl 3 rfl) ?_
                refine lv_icmp_lt (tgt := 101) hx hb dX8_bar_94 (by decide) (fun c_17 => ?_) (fun c_17 => ?_)
                · have c_17 := (nI_ltI (a := ii_8) (b := bb_6) (by omega) (by omega)).mp c_17
                  refine lv_iconst (v := 0) hx hb dX8_bar_101 (by decide) ?_
                  refine lv_icmp_ne (tgt := 109) hx hb dX8_bar_102 (by decide) (fun _ => ?_) (fun h => absurd h (by decide))
                  refine lv_iconst (v := 0) hx hb dX8_bar_109 (by decide) ?_
                  refine lv_istore (lv' := [(5, .int 0), (7, .int (nI gg_11)), (6, .int (nI ii_8)), (4, .int (nI bb_6)), (3, .int (nI (dn j_2))), (0, .ref (a 0)), (1, .int (nI j_2)), (2, .int (nI j_4))]) hx hb dX8_bar_110 hl (by decide) rfl (fun ls hl => ?_)
                  refine lv_iinc (v := (nI (gg_11 + 2))) (lv' := [(7, .int (nI (gg_11 + 2))), (5, .int 0), (6, .int (nI ii_8)), (4, .int (nI bb_6)), (3, .int (nI (dn j_2))), (0, .ref (a 0)), (1, .int (nI j_2)), (2, .int (nI j_4))]) hx hb dX8_bar_112 hl (k := 1) rfl (nI_add gg_11 2) (by decide) rfl (fun ls hl => ?_)
                  refine lv_goto (tgt := 61) hx hb dX8_bar_115 (by decide) ?_
                  have his_11 : is_11 = 1 := hv_11.2.2.1.resolve_left c_15
                  exact ih_11 _ (gg_11 + 2, 0) _ _ _ (by omega) ⟨rfl, ⟨by omega, by omega, .inl rfl, fun h => absurd h (by decide), fun _ => (fun k => absurd ((k ii_8 (by omega) gg_11 (show _ < 2 ^ _ by rw [← esv_13]; omega) hv_11.2.1).mp (show fM_taking dn se tm gs fprices j_2 ii_8 (nI j_4) ≤ fons__5 (192 * j_4 + 8 * ii_8 + gg_11) from hw_16.2)) (by omega))⟩, hP, hD, hS, (lv_sub hl [0, 2, 1, 3, 4, 5, 6, 7] rfl)⟩
                · have c_17 : ¬ (ii_8 < bb_6) := fun h => c_17 ((nI_ltI (a := ii_8) (b := bb_6) (by omega) (by omega)).mpr h)
                  refine lv_iconst (v := 1) hx hb dX8_bar_97 (by decide) ?_
                  refine lv_goto (tgt := 102) hx hb dX8_bar_98 (by decide) ?_
                  refine lv_icmp_ne (tgt := 109) hx hb dX8_bar_102 (by decide) (fun h => absurd (by decide) h) (fun _ => ?_)
                  refine lv_iconst (v := 1) hx hb dX8_bar_105 (by decide) ?_
                  refine lv_goto (tgt := 110) hx hb dX8_bar_106 (by decide) ?_
                  refine lv_istore (lv' := [(5, .int 1), (7, .int (nI gg_11)), (6, .int (nI ii_8)), (4, .int (nI bb_6)), (3, .int (nI (dn j_2))), (0, .ref (a 0)), (1, .int (nI j_2)), (2, .int (nI j_4))]) hx hb dX8_bar_110 hl (by decide) rfl (fun ls hl => ?_)
                  refine lv_iinc (v := (nI (gg_11 + 2))) (lv' := [(7, .int (nI (gg_11 + 2))), (5, .int 1), (6, .int (nI ii_8)), (4, .int (nI bb_6)), (3, .int (nI (dn j_2))), (0, .ref (a 0)), (1, .int (nI j_2)), (2, .int (nI j_4))]) hx hb dX8_bar_112 hl (k := 1) rfl (nI_add gg_11 2) (by decide) rfl (fun ls hl => ?_)
                  refine lv_goto (tgt := 61) hx hb dX8_bar_115 (by decide) ?_
                  have his_11 : is_11 = 1 := hv_11.2.2.1.resolve_left c_15
                  exact ih_11 _ (gg_11 + 2, 1) _ _ _ (by omega) ⟨rfl, ⟨by omega, by omega, .inr rfl, fun _ => ⟨(hv_11.2.2.2.1 his_11).1, fun g hg ho => by rcases (show g = gg_11 ∨ g < gg_11 by omega) with e | h9; rw [e]; exact ⟨fun _ => by omega, fun _ => (show fM_taking dn se tm gs fprices j_2 ii_8 (nI j_4) ≤ fons__5 (192 * j_4 + 8 * ii_8 + gg_11) from hw_16.2)⟩; exact (hv_11.2.2.2.1 his_11).2 g h9 ho⟩, fun h => absurd h (by decide)⟩, hP, hD, hS, (lv_sub hl [0, 2, 1, 3, 4, 5, 6, 7] rfl)⟩
              · refine lv_iload hx hb dX8_bar_90 (lv_at hl 1 rfl) ?_
                refine lv_iload hx hb dX8_bar_92 (lv_at hl 3 rfl) ?_
                refine lv_icmp_lt (tgt := 101) hx hb dX8_bar_94 (by decide) (fun c_18 => ?_) (fun c_18 => ?_)
                · have c_18 := (nI_ltI (a := ii_8) (b := bb_6) (by omega) (by omega)).mp c_18
                  refine lv_iconst (v := 0) hx hb dX8_bar_101 (by decide) ?_
                  refine lv_icmp_ne (tgt := 109) hx hb dX8_bar_102 (by decide) (fun h => absurd (by decide) h) (fun _ => ?_)
                  refine lv_iconst (v := 1) hx hb dX8_bar_105 (by decide) ?_
                  refine lv_goto (tgt := 110) hx hb dX8_bar_106 (by decide) ?_
                  refine lv_istore (lv' := [(5, .int 1), (7, .int (nI gg_11)), (6, .int (nI ii_8)), (4, .int (nI bb_6)), (3, .int (nI (dn j_2))), (0, .ref (a 0)), (1, .int (nI j_2)), (2, .int (nI j_4))]) hx hb dX8_bar_110 hl (by decide) rfl (fun ls hl => ?_)
                  refine lv_iinc (v := (nI (gg_11 + 2))) (lv' := [(7, .int (nI (gg_11 + 2))), (5, .int 1), (6, .int (nI ii_8)), (4, .int (nI bb_6)), (3, .int (nI (dn j_2))), (0, .ref (a 0)), (1, .int (nI j_2)), (2, .int (nI j_4))]) hx hb dX8_bar_112 hl (k := 1) rfl (nI_add gg_11 2) (by decide) rfl (fun ls hl => ?_)
                  refine lv_goto (tgt := 61) hx hb dX8_bar_115 (by decide) ?_
                  have his_11 : is_11 = 1 := hv_11.2.2.1.resolve_left c_15
                  exact ih_11 _ (gg_11 + 2, 1) _ _ _ (by omega) ⟨rfl, ⟨by omega, by omega, .inr rfl, fun _ => ⟨(hv_11.2.2.2.1 his_11).1, fun g hg ho => by rcases (show g = gg_11 ∨ g < gg_11 by omega) with e | h9; rw [e]; exact ⟨fun z => absurd z (show ¬ (fM_taking dn se tm gs fprices j_2 ii_8 (nI j_4) ≤ fons__5 (192 * j_4 + 8 * ii_8 + gg_11)) from fun z => hw_16 ⟨hv_11.2.1, z⟩), fun z => absurd z (by omega)⟩; exact (hv_11.2.2.2.1 his_11).2 g h9 ho⟩, fun h => absurd h (by decide)⟩, hP, hD, hS, (lv_sub hl [0, 2, 1, 3, 4, 5, 6, 7] rfl)⟩
                · have c_18 : ¬ (ii_8 < bb_6) := fun h => c_18 ((nI_ltI (a := ii_8) (b := bb_6) (by omega) (by omega)).mpr h)
                  refine lv_iconst (v := 1) hx hb dX8_bar_97 (by decide) ?_
                  refine lv_goto (tgt := 102) hx hb dX8_bar_98 (by decide) ?_
                  refine lv_icmp_ne (tgt := 109) hx hb dX8_bar_102 (by decide) (fun _ => ?_) (fun h => absurd h (by decide))
                  refine lv_iconst (v := 0) hx hb dX8_bar_109 (by decide) ?_
                  refine lv_istore (lv' := [(5, .int 0), (7, .int (nI gg_11)), (6, .int (nI ii_8)), (4, .int (nI bb_6)), (3, .int (nI (dn j_2))), (0, .ref (a 0)), (1, .int (nI j_2)), (2, .int (nI j_4))]) hx hb dX8_bar_110 hl (by decide) rfl (fun ls hl => ?_)
                  refine lv_iinc (v := (nI (gg_11 + 2))) (lv' := [(7, .int (nI (gg_11 + 2))), (5, .int 0), (6, .int (nI ii_8)), (4, .int (nI bb_6)), (3, .int (nI (dn j_2))), (0, .ref (a 0)), (1, .int (nI j_2)), (2, .int (nI j_4))]) hx hb dX8_bar_112 hl (k := 1) rfl (nI_add gg_11 2) (by decide) rfl (fun ls hl => ?_)
                  refine lv_goto (tgt := 61) hx hb dX8_bar_115 (by decide) ?_
                  have his_11 : is_11 = 1 := hv_11.2.2.1.resolve_left c_15
                  exact ih_11 _ (gg_11 + 2, 0) _ _ _ (by omega) ⟨rfl, ⟨by omega, by omega, .inl rfl, fun h => absurd h (by decide), fun _ => (fun k => (show ¬ (fM_taking dn se tm gs fprices j_2 ii_8 (nI j_4) ≤ fons__5 (192 * j_4 + 8 * ii_8 + gg_11)) from fun z => hw_16 ⟨hv_11.2.1, z⟩) ((k ii_8 (by omega) gg_11 (show _ < 2 ^ _ by rw [← esv_13]; omega) hv_11.2.1).mpr (by omega)))⟩, hP, hD, hS, (lv_sub hl [0, 2, 1, 3, 4, 5, 6, 7] rfl)⟩
    · refine lv_if_ne (tgt := 25) hx hb dX8_bar_18 (by decide) (fun h => absurd (by decide) h) (fun _ => ?_)
      refine lv_sipush (v := (-1002)) hx hb dX8_bar_21 (by decide) ?_
      obtain ⟨hP9, hD9⟩ := pd_sub [((a 0), .inr (8, (fX8 a (nI tx) fp (nI t0) wd (nI we) nu na (nI rd) ts (nI ru) (nI rw) (nI ca) df db sd))), (aI k (a 1) 3 (nF dn)), (aI k (a 4) 27 (sg se tm gs)), (aI k (a 2) 72 ffrees), (aI k (a 3) 72 fprices), (aI k (a 18) 768 fons), (aI k (a 19) 768 fworths), (aI k (a 20) 5 fstarts), (aI k (a 21) 4 fends), (aZ k (a 22) 4 fgoesRound), (aI k (a 23) 8 fbegin)] [0, 1, 2, 3, 4, 5, 6, 7, 8, 9, 10] hP hD (by decide +kernel) rfl
      exact W.iret (v := (-1002)) hx hb hr (fun t ht hW => ⟨⟨(-1002), (fons, fworths, fstarts, fends, fgoesRound, fbegin), rfl, tq_at (s := j_2) (by omega) (show 0 < dn j_2 by omega) (bq_o (by rw [rdM]; exact hw_3)), by rw [ht]; exact hP9, hD9⟩, hS.F ht⟩) hS.2.2 dX8_bar_24
  · refine lv_if_ne (tgt := 12) hx hb dX8_bar_5 (by decide) (fun h => absurd (by decide) h) (fun _ => ?_)
    refine lv_sipush (v := (-1001)) hx hb dX8_bar_8 (by decide) ?_
    obtain ⟨hP9, hD9⟩ := pd_sub [((a 0), .inr (8, (fX8 a (nI tx) fp (nI t0) wd (nI we) nu na (nI rd) ts (nI ru) (nI rw) (nI ca) df db sd))), (aI k (a 1) 3 (nF dn)), (aI k (a 4) 27 (sg se tm gs)), (aI k (a 2) 72 ffrees), (aI k (a 3) 72 fprices), (aI k (a 18) 768 fons), (aI k (a 19) 768 fworths), (aI k (a 20) 5 fstarts), (aI k (a 21) 4 fends), (aZ k (a 22) 4 fgoesRound), (aI k (a 23) 8 fbegin)] [0, 1, 2, 3, 4, 5, 6, 7, 8, 9, 10] hP hD (by decide +kernel) rfl
    exact W.iret (v := (-1001)) hx hb hr (fun t ht hW => ⟨⟨(-1001), (fons, fworths, fstarts, fends, fgoesRound, fbegin), rfl, tq_no (fun s h1 h2 h3 => hw_1 s h1 h2 h3), by rw [ht]; exact hP9, hD9⟩, hS.F ht⟩) hS.2.2 dX8_bar_11

theorem f_glueP20 : True := trivial
/-! waiting: what it costs now, the least so far, when -/
def wtS (on t q u : Int32) : Nat → Int32 × Int32 × Int32
  | 0 => (on, on, 0)
  | m + 1 => (1000 * u + pMix q t (wtS on t q u m).1, (if 1000 * u + pMix q t (wtS on t q u m).1 < (wtS on t q u m).2.1 then 1000 * u + pMix q t (wtS on t q u m).1 else (wtS on t q u m).2.1), (if 1000 * u + pMix q t (wtS on t q u m).1 < (wtS on t q u m).2.1 then nI (m + 1) else (wtS on t q u m).2.2))
theorem wt_lt {on t q u c b n : Int32} {m j : Nat} (hj : j = m + 1) (hc : c = (wtS on t q u m).1) (hb : b = (wtS on t q u m).2.1) (hn : n = 1000 * u + pMix q t c) (h : n < b) : n = (wtS on t q u j).1 ∧ n = (wtS on t q u j).2.1 ∧ nI j = (wtS on t q u j).2.2 := by
  subst hj
  have e : wtS on t q u (m + 1) = (1000 * u + pMix q t (wtS on t q u m).1, (if 1000 * u + pMix q t (wtS on t q u m).1 < (wtS on t q u m).2.1 then 1000 * u + pMix q t (wtS on t q u m).1 else (wtS on t q u m).2.1), (if 1000 * u + pMix q t (wtS on t q u m).1 < (wtS on t q u m).2.1 then nI (m + 1) else (wtS on t q u m).2.2)) := rfl
  rw [e, ← hc, ← hb, ← hn, if_pos h, if_pos h]
  exact ⟨rfl, rfl, rfl⟩
theorem wt_ge {on t q u c b n k : Int32} {m j : Nat} (hj : j = m + 1) (hc : c = (wtS on t q u m).1) (hb : b = (wtS on t q u m).2.1) (hk : k = (wtS on t q u m).2.2) (hn : n = 1000 * u + pMix q t c) (h : ¬ n < b) : n = (wtS on t q u j).1 ∧ b = (wtS on t q u j).2.1 ∧ k = (wtS on t q u j).2.2 := by
  subst hj
  have e : wtS on t q u (m + 1) = (1000 * u + pMix q t (wtS on t q u m).1, (if 1000 * u + pMix q t (wtS on t q u m).1 < (wtS on t q u m).2.1 then 1000 * u + pMix q t (wtS on t q u m).1 else (wtS on t q u m).2.1), (if 1000 * u + pMix q t (wtS on t q u m).1 < (wtS on t q u m).2.1 then nI (m + 1) else (wtS on t q u m).2.2)) := rfl
  rw [e, ← hc, ← hb, ← hk, ← hn, if_neg h, if_neg h]
  exact ⟨rfl, rfl, rfl⟩
def wtA (p4 p5 p6 : Int32) (d : SDt) (rn i g : Nat) (r : Int32) : Prop := (¬ (inB p4 0 100 ∧ inB p5 0 99 ∧ inB p6 0 1) → r = -1002) ∧ (inB p4 0 100 ∧ inB p5 0 99 ∧ inB p6 0 1 → (g % 2 = 1 → r = -1003) ∧ (¬ g % 2 = 1 → (p6 = 0 → r = (wtS (wayO d rn i g) (pTake d rn i) p4 p5 20).2.2) ∧ (p6 = 1 → r = (wtS (wayO d rn i g) (pTake d rn i) p4 p5 20).2.1)))
theorem wtA_fun {p4 p5 p6 : Int32} (d : SDt) (rn i g : Nat) (x y : Int32) (h : wtA p4 p5 p6 d rn i g x) (k : wtA p4 p5 p6 d rn i g y) : x = y := by
  rcases Classical.em (inB p4 0 100 ∧ inB p5 0 99 ∧ inB p6 0 1) with c | c
  · rcases Classical.em (g % 2 = 1) with o | o
    · exact ((h.2 c).1 o).trans ((k.2 c).1 o).symm
    · rcases Classical.em (p6 = 0) with z | z
      · exact (((h.2 c).2 o).1 z).trans (((k.2 c).2 o).1 z).symm
      · have z1 := is01 c.2.2 z
        exact (((h.2 c).2 o).2 z1).trans (((k.2 c).2 o).2 z1).symm
  · exact (h.1 c).trans (k.1 c).symm
theorem wq_o {p4 p5 p6 : Int32} {d : SDt} {rn i g : Nat} (h : ¬ (inB p4 0 100 ∧ inB p5 0 99 ∧ inB p6 0 1)) : wtA p4 p5 p6 d rn i g (-1002) := ⟨fun _ => rfl, fun c => absurd c h⟩
theorem wq_n {p4 p5 p6 : Int32} {d : SDt} {rn i g : Nat} (h : inB p4 0 100 ∧ inB p5 0 99 ∧ inB p6 0 1) (o : g % 2 = 1) : wtA p4 p5 p6 d rn i g (-1003) := ⟨fun c => absurd h c, fun _ => ⟨fun _ => rfl, fun q => absurd o q⟩⟩
theorem wq_0 {p4 p5 p6 r : Int32} {d : SDt} {rn i g : Nat} (h : inB p4 0 100 ∧ inB p5 0 99 ∧ inB p6 0 1) (o : ¬ g % 2 = 1) (z : p6 = 0) (e : r = (wtS (wayO d rn i g) (pTake d rn i) p4 p5 20).2.2) : wtA p4 p5 p6 d rn i g r := ⟨fun c => absurd h c, fun _ => ⟨fun q => absurd q o, fun _ => ⟨fun _ => e, fun q => absurd (z.symm.trans q) (by decide)⟩⟩⟩
theorem wq_1 {p4 p5 p6 r : Int32} {d : SDt} {rn i g : Nat} (h : inB p4 0 100 ∧ inB p5 0 99 ∧ inB p6 0 1) (o : ¬ g % 2 = 1) (z : p6 = 1) (e : r = (wtS (wayO d rn i g) (pTake d rn i) p4 p5 20).2.1) : wtA p4 p5 p6 d rn i g r := ⟨fun c => absurd h c, fun _ => ⟨fun q => absurd q o, fun _ => ⟨fun q => absurd (q.symm.trans z) (by decide), fun _ => e⟩⟩⟩


set_option maxHeartbeats 4000000 in
set_option maxRecDepth 100000 in
theorem y_reckonWait (l : Launch) (D : va_G) (k : Nat → ClassId) (st : Nat → Nat) (lo : Nat) (y0 : Nat) (y1 : Nat) (y2 : Nat) (y3 : Nat) (wt : Int32) (wc : Int32) (p0 : Int32) (p1 : Int32) (p2 : Int32) (p3 : Int32) (hq : inB p2 0 100) : CWv l D k st lo yX2_reckonWait cX2_reckonWait 7 none ({ frames := 1, cells := 0, slots := 0, locals := 22 }) 0 0 [.ref y0, .int p0, .int p1, .int p2, .int p3] [(y0, .inr (2, (fX2 y1 y2 y3 wt wc)))] (fun (u : Int32 × Int32) => match u with | (wt_, wc_) => wt_ = (wtS p0 p1 p2 p3 20).2.2 ∧ wc_ = (wtS p0 p1 p2 p3 20).2.1) (fun (u : Int32 × Int32) => match u with | (wt_, wc_) => [(y0, .inr (2, (fX2 y1 y2 y3 wt_ wc_)))]) := by
  intro sz
  refine Met.ofW (cc := cX2_reckonWait) (maxL := 7) (ret := none) (by decide) rfl ?_
  intro p e s m args below meth c s₁ B hml hv
  obtain ⟨rfl, hsz, hlo, hP, hK, hDL, hZ⟩ := hv
  have hx := B.exec
  have hb := B.bytes
  have hr := B.returns
  have hts := WS_ts B.pre
  have hown : s.vm.findClass RX2 = some m.cls := findClass_of_methodNamed B.named
  have hlocks := B.notSynchronized
  subst hsz
  have hD := hDL.self (sz := s.heap.size)
  have hAlo := A_lo hDL hlo
  generalize hAe : va_A [(y0, .inr (2, (fX2 y1 y2 y3 wt wc)))] s.heap.size = A at hD hAlo ⊢
  have hA : ∀ q : Nat, s.heap.size ≤ q → A q := fun q h => by rw [← hAe]; exact Or.inr h
  have hS : va_S A s.heap s.heap [] := va_S.rf
  have hl := lv_entry ([.ref y0, .int p0, .int p1, .int p2, .int p3]) (n := 7) (Nat.le_of_ble_eq_true rfl)
  rw [lg_entry_eq]
  generalize (lg_sl ([.ref y0, .int p0, .int p1, .int p2, .int p3]) ++ List.replicate (7 - (lg_sl ([.ref y0, .int p0, .int p1, .int p2, .int p3])).length) Slot.unset).toArray = ls at hl ⊢
  have hl : lv_has ls 7 [(0, .ref y0), (1, .int p0), (2, .int p1), (3, .int p2), (4, .int p3)] := hl
  refine lv_aload_n hx hb dX2_reckonWait_0 rfl (lv_at hl 0 rfl) ?_
  refine lv_iconst (v := 0) hx hb dX2_reckonWait_1 (by decide) ?_
  refine va_put (D := D) (ci := 2) (v := .int 0) (ty := .int) (C := RX2) (T := TX2) (N := 5) hx hb hts inX2 tyX2 tyX2_ok nmX2 hown hK hP hD hS 0 rfl rfl 3 (by decide) (hts _ tw_213) (fun _ h9 => h9) rfl (by decide +kernel) rfl rfl (Nat.le_of_ble_eq_true rfl) dX2_reckonWait_2 (fun H locs hP hD hS => ?_)
  have hQ9 := pd_mk [(y0, .inr (2, (fX2 y1 y2 y3 0 wc)))] hP hD
  clear hP hD
  obtain ⟨hP, hD⟩ := hQ9
  refine lv_aload_n hx hb dX2_reckonWait_5 rfl (lv_at hl 0 rfl) ?_
  refine lv_iload_n hx hb dX2_reckonWait_6 rfl (lv_at hl 1 rfl) ?_
  refine va_put (D := D) (ci := 2) (v := .int p0) (ty := .int) (C := RX2) (T := TX2) (N := 5) hx hb hts inX2 tyX2 tyX2_ok nmX2 hown hK hP hD hS 0 rfl rfl 4 (by decide) (hts _ tw_215) (fun _ h9 => h9) rfl (by decide +kernel) rfl rfl (Nat.le_of_ble_eq_true rfl) dX2_reckonWait_7 (fun H locs hP hD hS => ?_)
  have hQ9 := pd_mk [(y0, .inr (2, (fX2 y1 y2 y3 0 p0)))] hP hD
  clear hP hD
  obtain ⟨hP, hD⟩ := hQ9
  refine lv_iload_n hx hb dX2_reckonWait_10 rfl (lv_at hl 1 rfl) ?_
  refine lv_istore (lv' := [(5, .int p0), (0, .ref y0), (1, .int p0), (2, .int p1), (3, .int p2), (4, .int p3)]) hx hb dX2_reckonWait_11 hl (by decide) rfl (fun ls hl => ?_)
  refine lv_iconst (v := 1) hx hb dX2_reckonWait_13 (by decide) ?_
  refine lv_istore (lv' := [(6, .int 1), (5, .int p0), (0, .ref y0), (1, .int p0), (2, .int p1), (3, .int p2), (4, .int p3)]) hx hb dX2_reckonWait_14 hl (by decide) rfl (fun ls hl => ?_)
  refine W_loop (σ := Nat × Int32 × Int32 × Int32) (fun (n_ : Nat) (x_ : Nat × Int32 × Int32 × Int32) (H : Heap) (locs : List Loc) (ls : Array Slot) => match x_ with | (mm_1, co_1, wt2_1, wc2_1) => n_ = 21 - mm_1 ∧ (1 ≤ mm_1 ∧ mm_1 ≤ 21 ∧ co_1 = (wtS p0 p1 p2 p3 (mm_1 - 1)).1 ∧ wc2_1 = (wtS p0 p1 p2 p3 (mm_1 - 1)).2.1 ∧ wt2_1 = (wtS p0 p1 p2 p3 (mm_1 - 1)).2.2) ∧ va_P D classes [(y0, .inr (2, (fX2 y1 y2 y3 wt2_1 wc2_1)))] H ∧ va_D A [(y0, .inr (2, (fX2 y1 y2 y3 wt2_1 wc2_1)))] ∧ va_S A s.heap H locs ∧ lv_has ls 7 [(6, .int (nI mm_1)), (5, .int co_1), (0, .ref y0), (1, .int p0), (2, .int p1), (3, .int p2), (4, .int p3)]) (fun n_1 x_1 H locs ls hI ih_1 => ?_) _ (1, p0, 0, p0) ⟨rfl, ⟨by omega, by omega, rfl, rfl, rfl⟩, hP, hD, hS, (lv_sub hl [0, 1, 2, 3, 4, 5, 6] rfl)⟩
  obtain ⟨mm_1, co_1, wt2_1, wc2_1⟩ := x_1
  obtain ⟨hm_1, hv_1, hP, hD, hS, hl⟩ := hI
  subst hm_1
  refine lv_iload hx hb dX2_reckonWait_16 (lv_at hl 0 rfl) ?_
  refine lv_bipush (v := 20) hx hb dX2_reckonWait_18 (by decide) ?_
  refine lv_icmp_gt (tgt := 66) hx hb dX2_reckonWait_20 (by decide) (fun c_2 => ?_) (fun c_2 => ?_)
  · have c_2 := (nI_ltI (a := 20) (b := mm_1) (by omega) (by omega)).mp c_2
    obtain ⟨hP9, hD9⟩ := pd_sub [(y0, .inr (2, (fX2 y1 y2 y3 wt2_1 wc2_1)))] [0] hP hD (by decide) rfl
    exact W.vret hx hb hr (fun t ht hW => ⟨⟨(wt2_1, wc2_1), rfl, ⟨(by have h9 := hv_1.2.2.2.2; rw [show mm_1 - 1 = 20 by omega] at h9; exact h9), (by have h9 := hv_1.2.2.2.1; rw [show mm_1 - 1 = 20 by omega] at h9; exact h9)⟩, by rw [ht]; exact hP9, hD9⟩, hS.F ht⟩) hS.2.2 dX2_reckonWait_66
  · have c_2 : ¬ (20 < mm_1) := fun h => c_2 ((nI_ltI (a := 20) (b := mm_1) (by omega) (by omega)).mpr h)
    refine lv_sipush (v := 1000) hx hb dX2_reckonWait_23 (by decide) ?_
    refine lv_iload hx hb dX2_reckonWait_26 (lv_at hl 6 rfl) ?_
    refine lv_imul hx hb dX2_reckonWait_28 ?_
    refine lv_topi (fun x_3 ex_3 => ?_)
    refine lv_iload_n hx hb dX2_reckonWait_29 rfl (lv_at hl 5 rfl) ?_
    refine lv_iload_n hx hb dX2_reckonWait_30 rfl (lv_at hl 4 rfl) ?_
    refine lv_iload hx hb dX2_reckonWait_31 (lv_at hl 1 rfl) ?_
    refine ro_i (D := D) (va_runSN (As := [.int p2, .int p1, .int co_1]) (rest := [.int x_3]) ⟨hx, hb, hml, hown, hts⟩ ((y_mixed l D k st lo p2 p1 co_1) H.size) ⟨va_cnB 3 hts (gLW tw_570) rfl rfl rfl (hZ.2.2.2.2.2.2.2.2.1.1 (RX2, 78, yX7_mixed, RX7) (List.mem_of_getElem? (i := 6) rfl)) (hts _ tw_79) (by decide +kernel) ⟨Nat.le_of_ble_eq_true rfl, Nat.le_of_ble_eq_true rfl⟩, hts _ tw_569, trivial⟩ (pS hS hAlo hlo hP hK (va_Dlo hD hAlo) hZ [] (by decide) rfl) rfl rfl hl.1 rfl (lv_room (Nat.le_of_ble_eq_true rfl)) dX2_reckonWait_33 ⟨Nat.le_of_ble_eq_true rfl, Nat.le_of_ble_eq_true rfl⟩) hS hA hP (fun r_4 H locs hw_4 hP hS => ?_)
    try dsimp only at hw_4
    refine lv_iadd hx hb dX2_reckonWait_36 ?_
    refine lv_topi (fun x_5 ex_5 => ?_)
    refine lv_istore (lv' := [(5, .int x_5), (6, .int (nI mm_1)), (0, .ref y0), (1, .int p0), (2, .int p1), (3, .int p2), (4, .int p3)]) hx hb dX2_reckonWait_37 hl (by decide) rfl (fun ls hl => ?_)
    refine lv_iload hx hb dX2_reckonWait_39 (lv_at hl 0 rfl) ?_
    refine lv_aload_n hx hb dX2_reckonWait_41 rfl (lv_at hl 2 rfl) ?_
    refine va_get (D := D) (ci := 2) (v := .int wc2_1) (C := RX2) (T := TX2) (N := 5) hx hb hts inX2 hown hK hP 0 rfl rfl 4 (by decide) (hts _ tw_215) (fun _ h9 => h9) rfl dX2_reckonWait_42 ?_
    refine lv_icmp_ge (tgt := 60) hx hb dX2_reckonWait_45 (by decide) (fun c_6 => ?_) (fun c_6 => ?_)
    · refine lv_iinc (v := (nI (mm_1 + 1))) (lv' := [(6, .int (nI (mm_1 + 1))), (5, .int x_5), (0, .ref y0), (1, .int p0), (2, .int p1), (3, .int p2), (4, .int p3)]) hx hb dX2_reckonWait_60 hl (k := 1) rfl (nI_add mm_1 1) (by decide) rfl (fun ls hl => ?_)
      refine lv_goto (tgt := 16) hx hb dX2_reckonWait_63 (by decide) ?_
      have hst_1 := wt_ge (j := mm_1) (m := mm_1 - 1) (by omega) hv_1.2.2.1 hv_1.2.2.2.1 hv_1.2.2.2.2 (by rw [ex_5, ex_3, hw_4, mix_same hq]) (Int32.not_lt.mpr c_6)
      exact ih_1 _ (mm_1 + 1, x_5, wt2_1, wc2_1) _ _ _ (by omega) ⟨rfl, ⟨by omega, by omega, (by rw [show mm_1 + 1 - 1 = mm_1 by omega]; exact hst_1.1), (by rw [show mm_1 + 1 - 1 = mm_1 by omega]; exact hst_1.2.1), (by rw [show mm_1 + 1 - 1 = mm_1 by omega]; exact hst_1.2.2)⟩, hP, hD, hS, (lv_sub hl [0, 1, 2, 3, 4, 5, 6] rfl)⟩
    · refine lv_aload_n hx hb dX2_reckonWait_48 rfl (lv_at hl 2 rfl) ?_
      refine lv_iload hx hb dX2_reckonWait_49 (lv_at hl 0 rfl) ?_
      refine va_put (D := D) (ci := 2) (v := .int x_5) (ty := .int) (C := RX2) (T := TX2) (N := 5) hx hb hts inX2 tyX2 tyX2_ok nmX2 hown hK hP hD hS 0 rfl rfl 4 (by decide) (hts _ tw_215) (fun _ h9 => h9) rfl (by decide +kernel) rfl rfl (Nat.le_of_ble_eq_true rfl) dX2_reckonWait_51 (fun H locs hP hD hS => ?_)
      have hQ9 := pd_mk [(y0, .inr (2, (fX2 y1 y2 y3 wt2_1 x_5)))] hP hD
      clear hP hD
      obtain ⟨hP, hD⟩ := hQ9
      refine lv_aload_n hx hb dX2_reckonWait_54 rfl (lv_at hl 2 rfl) ?_
      refine lv_iload hx hb dX2_reckonWait_55 (lv_at hl 1 rfl) ?_
      refine va_put (D := D) (ci := 2) (v := .int (nI mm_1)) (ty := .int) (C := RX2) (T := TX2) (N := 5) hx hb hts inX2 tyX2 tyX2_ok nmX2 hown hK hP hD hS 0 rfl rfl 3 (by decide) (hts _ tw_213) (fun _ h9 => h9) rfl (by decide +kernel) rfl rfl (Nat.le_of_ble_eq_true rfl) dX2_reckonWait_57 (fun H locs hP hD hS => ?_)
      have hQ9 := pd_mk [(y0, .inr (2, (fX2 y1 y2 y3 (nI mm_1) x_5)))] hP hD
      clear hP hD
      obtain ⟨hP, hD⟩ := hQ9
      refine lv_iinc (v := (nI (mm_1 + 1))) (lv' := [(6, .int (nI (mm_1 + 1))), (5, .int x_5), (0, .ref y0), (1, .int p0), (2, .int p1), (3, .int p2), (4, .int p3)]) hx hb dX2_reckonWait_60 hl (k := 1) rfl (nI_add mm_1 1) (by decide) rfl (fun ls hl => ?_)
      refine lv_goto (tgt := 16) hx hb dX2_reckonWait_63 (by decide) ?_
      have hst_1 := wt_lt (j := mm_1) (m := mm_1 - 1) (by omega) hv_1.2.2.1 hv_1.2.2.2.1 (by rw [ex_5, ex_3, hw_4, mix_same hq]) (Int32.not_le.mp c_6)
      exact ih_1 _ (mm_1 + 1, x_5, (nI mm_1), x_5) _ _ _ (by omega) ⟨rfl, ⟨by omega, by omega, (by rw [show mm_1 + 1 - 1 = mm_1 by omega]; exact hst_1.1), (by rw [show mm_1 + 1 - 1 = mm_1 by omega]; exact hst_1.2.1), (by rw [show mm_1 + 1 - 1 = mm_1 by omega]; exact hst_1.2.2)⟩, hP, hD, hS, (lv_sub hl [0, 1, 2, 3, 4, 5, 6] rfl)⟩


set_option maxHeartbeats 4000000 in
set_option maxRecDepth 100000 in
theorem y_waits (l : Launch) (D : va_G) (k : Nat → ClassId) (st : Nat → Nat) (lo : Nat) (a : Nat → Nat) (rk : Nat) (lfa : Int32) (n0 : Nat) (see0 : Nat) (tm0 : Nat) (g0 : Nat → Int32) (ff0 : Nat → Int32) (fp0 : Nat → Int32) (fl0 : Nat → Int32) (n1 : Nat) (see1 : Nat) (tm1 : Nat) (g1 : Nat → Int32) (ff1 : Nat → Int32) (fp1 : Nat → Int32) (fl1 : Nat → Int32) (n2 : Nat) (see2 : Nat) (tm2 : Nat) (g2 : Nat → Int32) (ff2 : Nat → Int32) (fp2 : Nat → Int32) (fl2 : Nat → Int32) (on0 : Nat → Int32) (sr0 : Nat → Int32) (en0 : Nat → Int32) (on1 : Nat → Int32) (sr1 : Nat → Int32) (en1 : Nat → Int32) (on2 : Nat → Int32) (sr2 : Nat → Int32) (en2 : Nat → Int32) (wt : Int32) (wc : Int32) (p0 : Int32) (p1 : Int32) (p2 : Int32) (p3 : Int32) (p4 : Int32) (p5 : Int32) (p6 : Int32) (hn0 : n0 ≤ 24) (hse0 : see0 ≤ 2) (htm0 : tm0 ≤ 3) (hn1 : n1 ≤ 24) (hse1 : see1 ≤ 2) (htm1 : tm1 ≤ 3) (hn2 : n2 ≤ 24) (hse2 : see2 ≤ 2) (htm2 : tm2 ≤ 3) (hlt : ltP (d3 fl0 fl1 fl2) (d3 (sdX n0 see0 tm0 g0 ff0 fp0) (sdX n1 see1 tm1 g1 ff1 fp1) (sdX n2 see2 tm2 g2 ff2 fp2))) (hwy : wy3 (d3 (sdX n0 see0 tm0 g0 ff0 fp0) (sdX n1 see1 tm1 g1 ff1 fp1) (sdX n2 see2 tm2 g2 ff2 fp2)) (d3 on0 on1 on2) (d3 sr0 sr1 sr2) (d3 en0 en1 en2)) : CWi l D k st lo yX7_waits cX7_waits 9 (some .int) ({ frames := 4, cells := 0, slots := 0, locals := 106 }) 0 0 [.ref (a 0), .int p0, .int p1, .int p2, .int p3, .int p4, .int p5, .int p6] [((a 0), .inr (7, (fX7 (a 1) (a 3) (a 19) (a 35) (a 40) (nI rk) lfa (a 53) (a 56) (a 63) (a 64) (a 68)))), ((a 3), .inl (k 3, 3, .inr (.inr (.inr (.inr (a3 (a 4) (a 9) (a 14))))))), ((a 19), .inl (k 4, 3, .inr (.inr (.inr (.inr (a3 (a 20) (a 25) (a 30))))))), ((a 4), .inr (5, (fX5 (a 5) (a 6) (a 7) (a 8)))), (aI k (a 5) 10 (vv n0 see0 tm0 g0)), (aI k (a 6) 24 ff0), (aI k (a 7) 24 fp0), (aI k (a 8) 4 fl0), ((a 9), .inr (5, (fX5 (a 10) (a 11) (a 12) (a 13)))), (aI k (a 10) 10 (vv n1 see1 tm1 g1)), (aI k (a 11) 24 ff1), (aI k (a 12) 24 fp1), (aI k (a 13) 4 fl1), ((a 14), .inr (5, (fX5 (a 15) (a 16) (a 17) (a 18)))), (aI k (a 15) 10 (vv n2 see2 tm2 g2)), (aI k (a 16) 24 ff2), (aI k (a 17) 24 fp2), (aI k (a 18) 4 fl2), ((a 20), .inr (0, (fX0 (a 4) (a 21) (a 22) (a 23) (a 24)))), (aI k (a 21) 768 on0), (aI k (a 22) 4 sr0), (aI k (a 23) 4 en0), ((a 25), .inr (0, (fX0 (a 9) (a 26) (a 27) (a 28) (a 29)))), (aI k (a 26) 768 on1), (aI k (a 27) 4 sr1), (aI k (a 28) 4 en1), ((a 30), .inr (0, (fX0 (a 14) (a 31) (a 32) (a 33) (a 34)))), (aI k (a 31) 768 on2), (aI k (a 32) 4 sr2), (aI k (a 33) 4 en2), ((a 64), .inr (2, (fX2 (a 65) (a 66) (a 67) wt wc)))] (fun (r : Int32) (u : Int32 × Int32) => match u with | (wt_, wc_) => dqP (d3 (sdX n0 see0 tm0 g0 ff0 fp0) (sdX n1 see1 tm1 g1 ff1 fp1) (sdX n2 see2 tm2 g2 ff2 fp2)) p0 p2 (siA p1 p3 (wtA p4 p5 p6)) r) (fun (u : Int32 × Int32) => match u with | (wt_, wc_) => [((a 0), .inr (7, (fX7 (a 1) (a 3) (a 19) (a 35) (a 40) (nI rk) lfa (a 53) (a 56) (a 63) (a 64) (a 68)))), ((a 3), .inl (k 3, 3, .inr (.inr (.inr (.inr (a3 (a 4) (a 9) (a 14))))))), ((a 19), .inl (k 4, 3, .inr (.inr (.inr (.inr (a3 (a 20) (a 25) (a 30))))))), ((a 4), .inr (5, (fX5 (a 5) (a 6) (a 7) (a 8)))), (aI k (a 5) 10 (vv n0 see0 tm0 g0)), (aI k (a 6) 24 ff0), (aI k (a 7) 24 fp0), (aI k (a 8) 4 fl0), ((a 9), .inr (5, (fX5 (a 10) (a 11) (a 12) (a 13)))), (aI k (a 10) 10 (vv n1 see1 tm1 g1)), (aI k (a 11) 24 ff1), (aI k (a 12) 24 fp1), (aI k (a 13) 4 fl1), ((a 14), .inr (5, (fX5 (a 15) (a 16) (a 17) (a 18)))), (aI k (a 15) 10 (vv n2 see2 tm2 g2)), (aI k (a 16) 24 ff2), (aI k (a 17) 24 fp2), (aI k (a 18) 4 fl2), ((a 20), .inr (0, (fX0 (a 4) (a 21) (a 22) (a 23) (a 24)))), (aI k (a 21) 768 on0), (aI k (a 22) 4 sr0), (aI k (a 23) 4 en0), ((a 25), .inr (0, (fX0 (a 9) (a 26) (a 27) (a 28) (a 29)))), (aI k (a 26) 768 on1), (aI k (a 27) 4 sr1), (aI k (a 28) 4 en1), ((a 30), .inr (0, (fX0 (a 14) (a 31) (a 32) (a 33) (a 34)))), (aI k (a 31) 768 on2), (aI k (a 32) 4 sr2), (aI k (a 33) 4 en2), ((a 64), .inr (2, (fX2 (a 65) (a 66) (a 67) wt_ wc_)))]) := by
  intro sz
  refine Met.ofW (cc := cX7_waits) (maxL := 9) (ret := (some .int)) (by decide) rfl ?_
  intro p e s m args below meth c s₁ B hml hv
  obtain ⟨rfl, hsz, hlo, hP, hK, hDL, hZ⟩ := hv
  have hx := B.exec
  have hb := B.bytes
  have hr := B.returns
  have hts := WS_ts B.pre
  have hown : s.vm.findClass RX7 = some m.cls := findClass_of_methodNamed B.named
  have hlocks := B.notSynchronized
  subst hsz
  have hD := hDL.self (sz := s.heap.size)
  have hAlo := A_lo hDL hlo
  generalize hAe : va_A [((a 0), .inr (7, (fX7 (a 1) (a 3) (a 19) (a 35) (a 40) (nI rk) lfa (a 53) (a 56) (a 63) (a 64) (a 68)))), ((a 3), .inl (k 3, 3, .inr (.inr (.inr (.inr (a3 (a 4) (a 9) (a 14))))))), ((a 19), .inl (k 4, 3, .inr (.inr (.inr (.inr (a3 (a 20) (a 25) (a 30))))))), ((a 4), .inr (5, (fX5 (a 5) (a 6) (a 7) (a 8)))), (aI k (a 5) 10 (vv n0 see0 tm0 g0)), (aI k (a 6) 24 ff0), (aI k (a 7) 24 fp0), (aI k (a 8) 4 fl0), ((a 9), .inr (5, (fX5 (a 10) (a 11) (a 12) (a 13)))), (aI k (a 10) 10 (vv n1 see1 tm1 g1)), (aI k (a 11) 24 ff1), (aI k (a 12) 24 fp1), (aI k (a 13) 4 fl1), ((a 14), .inr (5, (fX5 (a 15) (a 16) (a 17) (a 18)))), (aI k (a 15) 10 (vv n2 see2 tm2 g2)), (aI k (a 16) 24 ff2), (aI k (a 17) 24 fp2), (aI k (a 18) 4 fl2), ((a 20), .inr (0, (fX0 (a 4) (a 21) (a 22) (a 23) (a 24)))), (aI k (a 21) 768 on0), (aI k (a 22) 4 sr0), (aI k (a 23) 4 en0), ((a 25), .inr (0, (fX0 (a 9) (a 26) (a 27) (a 28) (a 29)))), (aI k (a 26) 768 on1), (aI k (a 27) 4 sr1), (aI k (a 28) 4 en1), ((a 30), .inr (0, (fX0 (a 14) (a 31) (a 32) (a 33) (a 34)))), (aI k (a 31) 768 on2), (aI k (a 32) 4 sr2), (aI k (a 33) 4 en2), ((a 64), .inr (2, (fX2 (a 65) (a 66) (a 67) wt wc)))] s.heap.size = A at hD hAlo ⊢
  have hA : ∀ q : Nat, s.heap.size ≤ q → A q := fun q h => by rw [← hAe]; exact Or.inr h
  have hS : va_S A s.heap s.heap [] := va_S.rf
  have hl := lv_entry ([.ref (a 0), .int p0, .int p1, .int p2, .int p3, .int p4, .int p5, .int p6]) (n := 9) (Nat.le_of_ble_eq_true rfl)
  rw [lg_entry_eq]
  generalize (lg_sl ([.ref (a 0), .int p0, .int p1, .int p2, .int p3, .int p4, .int p5, .int p6]) ++ List.replicate (9 - (lg_sl ([.ref (a 0), .int p0, .int p1, .int p2, .int p3, .int p4, .int p5, .int p6])).length) Slot.unset).toArray = ls at hl ⊢
  have hl : lv_has ls 9 [(0, .ref (a 0)), (1, .int p0), (2, .int p1), (3, .int p2), (4, .int p3), (5, .int p4), (6, .int p5), (7, .int p6)] := hl
  refine lv_aload_n hx hb dX7_waits_0 rfl (lv_at hl 0 rfl) ?_
  refine lv_iload_n hx hb dX7_waits_1 rfl (lv_at hl 1 rfl) ?_
  refine lv_iload_n hx hb dX7_waits_2 rfl (lv_at hl 2 rfl) ?_
  refine lv_iload_n hx hb dX7_waits_3 rfl (lv_at hl 3 rfl) ?_
  refine lv_iload hx hb dX7_waits_4 (lv_at hl 4 rfl) ?_
  refine ro_i (D := D) (va_runV (As := [.int p0, .int p1, .int p2, .int p3]) (rest := []) ⟨hx, hb, hml, hown, hts⟩ ((y_refuseSight l D k st lo a rk lfa n0 see0 tm0 g0 n1 see1 tm1 g1 n2 see2 tm2 g2 p0 p1 p2 p3 (by first | assumption | omega) (by first | assumption | omega) (by first | assumption | omega) (by first | assumption | omega) (by first | assumption | omega) (by first | assumption | omega) (by first | assumption | omega) (by first | assumption | omega) (by first | assumption | omega)) s.heap.size) (cwV 4 hts (gV tw_622 tw_624 tw_11 tw_79 tw_625) rfl rfl rfl (by decide +kernel) ⟨Nat.le_of_ble_eq_true rfl, Nat.le_of_ble_eq_true rfl⟩) (pV hS hAlo hlo hP hK (va_Dlo hD hAlo) hZ [0, 1, 3, 4, 8, 9, 13, 14] (by decide) rfl (ci := 7) (q := (RX7, TX7, 12)) (q0 := 0) rfl rfl) rfl rfl hl.1 rfl (lv_room (Nat.le_of_ble_eq_true rfl)) dX7_waits_6 ⟨Nat.le_of_ble_eq_true rfl, Nat.le_of_ble_eq_true rfl⟩) hS hA hP (fun r_1 H locs hw_1 hP hS => ?_)
  try dsimp only at hw_1
  rcases hw_1 with ⟨rfl, ⟨rfl, ir_2, id_2, ig_2, hir_2, hid_2, hig_2, rfl, rfl, rfl⟩ | ⟨rfl, ir_2, id_2, ig_2, hir_2, hid_2, hig_2, rfl, rfl, rfl⟩ | ⟨rfl, ir_2, id_2, ig_2, hir_2, hid_2, hig_2, rfl, rfl, rfl⟩⟩ | ⟨rfl, hw_1⟩ | ⟨rfl, ⟨rfl, id_2, hid_2, rfl, hw_1⟩ | ⟨rfl, id_2, hid_2, rfl, hw_1⟩ | ⟨rfl, id_2, hid_2, rfl, hw_1⟩⟩
  · refine lv_istore (lv' := [(8, .int 0), (0, .ref (a 0)), (1, .int 0), (2, .int (nI ir_2)), (3, .int (nI id_2)), (4, .int (nI ig_2)), (5, .int p4), (6, .int p5), (7, .int p6)]) hx hb dX7_waits_9 hl (by decide) rfl (fun ls hl => ?_)
    refine lv_iload hx hb dX7_waits_11 (lv_at hl 0 rfl) ?_
    refine lv_if_eq (tgt := 19) hx hb dX7_waits_13 (by decide) (fun _ => ?_) (fun h => absurd (by decide) h)
    refine lv_iload hx hb dX7_waits_19 (lv_at hl 6 rfl) ?_
    refine lv_iconst (v := 0) hx hb dX7_waits_21 (by decide) ?_
    refine lv_bipush (v := 100) hx hb dX7_waits_22 (by decide) ?_
    refine ro_i (D := D) (va_runS (As := [.int p4, .int 0, .int 100]) (rest := []) ⟨hx, hb, hml, hown, hts⟩ ((k_isIn l D k st lo p4 0 100) H.size) (va_cwS 3 hts (gS tw_593 tw_594 tw_79 tw_595) rfl rfl rfl (by decide +kernel) ⟨Nat.le_of_ble_eq_true rfl, Nat.le_of_ble_eq_true rfl⟩) (pS hS hAlo hlo hP hK (va_Dlo hD hAlo) hZ [] (by decide) rfl) rfl rfl hl.1 rfl (lv_room (Nat.le_of_ble_eq_true rfl)) dX7_waits_24 ⟨Nat.le_of_ble_eq_true rfl, Nat.le_of_ble_eq_true rfl⟩) hS hA hP (fun r_3 H locs hw_3 hP hS => ?_)
    try dsimp only at hw_3
    rcases hw_3 with ⟨rfl, hw_3⟩ | ⟨rfl, hw_3⟩
    · refine lv_if_eq (tgt := 51) hx hb dX7_waits_27 (by decide) (fun h => absurd h (by decide)) (fun _ => ?_)
      refine lv_iload hx hb dX7_waits_30 (lv_at hl 7 rfl) ?_
      refine lv_iconst (v := 0) hx hb dX7_waits_32 (by decide) ?_
      refine lv_bipush (v := 99) hx hb dX7_waits_33 (by decide) ?_
      refine ro_i (D := D) (va_runS (As := [.int p5, .int 0, .int 99]) (rest := []) ⟨hx, hb, hml, hown, hts⟩ ((k_isIn l D k st lo p5 0 99) H.size) (va_cwS 3 hts (gS tw_593 tw_594 tw_79 tw_595) rfl rfl rfl (by decide +kernel) ⟨Nat.le_of_ble_eq_true rfl, Nat.le_of_ble_eq_true rfl⟩) (pS hS hAlo hlo hP hK (va_Dlo hD hAlo) hZ [] (by decide) rfl) rfl rfl hl.1 rfl (lv_room (Nat.le_of_ble_eq_true rfl)) dX7_waits_35 ⟨Nat.le_of_ble_eq_true rfl, Nat.le_of_ble_eq_true rfl⟩) hS hA hP (fun r_4 H locs hw_4 hP hS => ?_)
      try dsimp only at hw_4
      rcases hw_4 with ⟨rfl, hw_4⟩ | ⟨rfl, hw_4⟩
      · refine lv_if_eq (tgt := 51) hx hb dX7_waits_38 (by decide) (fun h => absurd h (by decide)) (fun _ => ?_)
        refine lv_iload hx hb dX7_waits_41 (lv_at hl 8 rfl) ?_
        refine lv_iconst (v := 0) hx hb dX7_waits_43 (by decide) ?_
        refine lv_iconst (v := 1) hx hb dX7_waits_44 (by decide) ?_
        refine ro_i (D := D) (va_runS (As := [.int p6, .int 0, .int 1]) (rest := []) ⟨hx, hb, hml, hown, hts⟩ ((k_isIn l D k st lo p6 0 1) H.size) (va_cwS 3 hts (gS tw_593 tw_594 tw_79 tw_595) rfl rfl rfl (by decide +kernel) ⟨Nat.le_of_ble_eq_true rfl, Nat.le_of_ble_eq_true rfl⟩) (pS hS hAlo hlo hP hK (va_Dlo hD hAlo) hZ [] (by decide) rfl) rfl rfl hl.1 rfl (lv_room (Nat.le_of_ble_eq_true rfl)) dX7_waits_45 ⟨Nat.le_of_ble_eq_true rfl, Nat.le_of_ble_eq_true rfl⟩) hS hA hP (fun r_5 H locs hw_5 hP hS => ?_)
        try dsimp only at hw_5
        rcases hw_5 with ⟨rfl, hw_5⟩ | ⟨rfl, hw_5⟩
        · refine lv_if_ne (tgt := 55) hx hb dX7_waits_48 (by decide) (fun _ => ?_) (fun h => absurd h (by decide))
          have hg8_2 : ig_2 < 8 := by have h8 := (p8 (sq_le (see := see0) (n := n0) (i := id_2) (by omega))).2; omega
          refine lv_iload hx hb dX7_waits_55 (lv_at hl 5 rfl) ?_
          refine lv_iconst (v := 1) hx hb dX7_waits_57 (by decide) ?_
          refine lv_iand hx hb dX7_waits_58 ?_
          refine lv_topi (fun x_6 ex_6 => ?_)
          refine lv_if_eq (tgt := 66) hx hb dX7_waits_59 (by decide) (fun c_7 => ?_) (fun c_7 => ?_)
          · rw [ex_6] at c_7
            refine lv_aload_n hx hb dX7_waits_66 rfl (lv_at hl 1 rfl) ?_
            refine va_get (D := D) (ci := 7) (v := .ref (a 64)) (C := RX7) (T := TX7) (N := 12) hx hb hts inX7 hown hK hP 0 rfl rfl 10 (by decide) (hts _ tw_315) (fun _ h9 => h9) rfl dX7_waits_67 ?_
            refine lv_aload_n hx hb dX7_waits_70 rfl (lv_at hl 1 rfl) ?_
            refine va_get (D := D) (ci := 7) (v := .ref (a 19)) (C := RX7) (T := TX7) (N := 12) hx hb hts inX7 hown hK hP 0 rfl rfl 2 (by decide) (hts _ tw_307) (fun _ h9 => h9) rfl dX7_waits_71 ?_
            refine lv_iload_n hx hb dX7_waits_74 rfl (lv_at hl 2 rfl) ?_
            refine va_aldq hx hb hK hP 2 4 rfl rfl (by unfold vp_in; decide) dX7_waits_75 ?_
            refine lv_tr (y := .ref (a 20)) rfl ?_
            refine lv_iload_n hx hb dX7_waits_76 rfl (lv_at hl 3 rfl) ?_
            refine lv_iload_n hx hb dX7_waits_77 rfl (lv_at hl 4 rfl) ?_
            refine lv_iload hx hb dX7_waits_78 (lv_at hl 5 rfl) ?_
            refine ro_i (D := D) (va_runV (As := [.int (nI ir_2), .int (nI id_2), .int (nI ig_2)]) (rest := [.ref (a 64)]) ⟨hx, hb, hml, hown, hts⟩ ((y_onwardOf l D k st lo (a 4) (a 20) (a 21) (a 22) (a 23) (a 24) on0 ir_2 id_2 ig_2 (by first | assumption | omega) (by first | assumption | omega) (by first | assumption | omega)) H.size) (cwV 3 hts (gV tw_632 tw_550 tw_551 tw_85 tw_552) rfl rfl rfl (by decide +kernel) ⟨Nat.le_of_ble_eq_true rfl, Nat.le_of_ble_eq_true rfl⟩) (pV hS hAlo hlo hP hK (va_Dlo hD hAlo) hZ [18, 19] (by decide) rfl (ci := 0) (q := (RX0, TX0, 5)) (q0 := 0) rfl rfl) rfl rfl hl.1 rfl (lv_room (Nat.le_of_ble_eq_true rfl)) dX7_waits_80 ⟨Nat.le_of_ble_eq_true rfl, Nat.le_of_ble_eq_true rfl⟩) hS hA hP (fun r_8 H locs hw_8 hP hS => ?_)
            try dsimp only at hw_8
            refine lv_aload_n hx hb dX7_waits_83 rfl (lv_at hl 1 rfl) ?_
            refine va_get (D := D) (ci := 7) (v := .ref (a 3)) (C := RX7) (T := TX7) (N := 12) hx hb hts inX7 hown hK hP 0 rfl rfl 1 (by decide) (hts _ tw_306) (fun _ h9 => h9) rfl dX7_waits_84 ?_
            refine lv_iload_n hx hb dX7_waits_87 rfl (lv_at hl 2 rfl) ?_
            refine va_aldq hx hb hK hP 1 3 rfl rfl (by unfold vp_in; decide) dX7_waits_88 ?_
            refine lv_tr (y := .ref (a 4)) rfl ?_
            refine lv_iload_n hx hb dX7_waits_89 rfl (lv_at hl 3 rfl) ?_
            refine lv_iload_n hx hb dX7_waits_90 rfl (lv_at hl 4 rfl) ?_
            refine ro_i (D := D) (va_runV (As := [.int (nI ir_2), .int (nI id_2)]) (rest := [.int r_8, .ref (a 64)]) ⟨hx, hb, hml, hown, hts⟩ ((y_takingOf l D k st lo (a 4) (a 5) (a 6) (a 7) (a 8) n0 see0 tm0 g0 fp0 fl0 ir_2 id_2 (by first | assumption | omega) (by first | assumption | omega)) H.size) (cwV 2 hts (gV tw_617 tw_557 tw_558 tw_81 tw_559) rfl rfl rfl (by decide +kernel) ⟨Nat.le_of_ble_eq_true rfl, Nat.le_of_ble_eq_true rfl⟩) (pV hS hAlo hlo hP hK (va_Dlo hD hAlo) hZ [3, 4, 6, 7] (by decide) rfl (ci := 5) (q := (RX5, TX5, 4)) (q0 := 0) rfl rfl) rfl rfl hl.1 rfl (lv_room (Nat.le_of_ble_eq_true rfl)) dX7_waits_91 ⟨Nat.le_of_ble_eq_true rfl, Nat.le_of_ble_eq_true rfl⟩) hS hA hP (fun r_9 H locs hw_9 hP hS => ?_)
            try dsimp only at hw_9
            refine lv_iload hx hb dX7_waits_94 (lv_at hl 6 rfl) ?_
            refine lv_iload hx hb dX7_waits_96 (lv_at hl 7 rfl) ?_
            refine rw_v (D := D) (wr := [((a 0), .inr (7, (fX7 (a 1) (a 3) (a 19) (a 35) (a 40) (nI rk) lfa (a 53) (a 56) (a 63) (a 64) (a 68)))), ((a 3), .inl (k 3, 3, .inr (.inr (.inr (.inr (a3 (a 4) (a 9) (a 14))))))), ((a 19), .inl (k 4, 3, .inr (.inr (.inr (.inr (a3 (a 20) (a 25) (a 30))))))), ((a 4), .inr (5, (fX5 (a 5) (a 6) (a 7) (a 8)))), (aI k (a 5) 10 (vv n0 see0 tm0 g0)), (aI k (a 6) 24 ff0), (aI k (a 7) 24 fp0), (aI k (a 8) 4 fl0), ((a 9), .inr (5, (fX5 (a 10) (a 11) (a 12) (a 13)))), (aI k (a 10) 10 (vv n1 see1 tm1 g1)), (aI k (a 11) 24 ff1), (aI k (a 12) 24 fp1), (aI k (a 13) 4 fl1), ((a 14), .inr (5, (fX5 (a 15) (a 16) (a 17) (a 18)))), (aI k (a 15) 10 (vv n2 see2 tm2 g2)), (aI k (a 16) 24 ff2), (aI k (a 17) 24 fp2), (aI k (a 18) 4 fl2), ((a 20), .inr (0, (fX0 (a 4) (a 21) (a 22) (a 23) (a 24)))), (aI k (a 21) 768 on0), (aI k (a 22) 4 sr0), (aI k (a 23) 4 en0), ((a 25), .inr (0, (fX0 (a 9) (a 26) (a 27) (a 28) (a 29)))), (aI k (a 26) 768 on1), (aI k (a 27) 4 sr1), (aI k (a 28) 4 en1), ((a 30), .inr (0, (fX0 (a 14) (a 31) (a 32) (a 33) (a 34)))), (aI k (a 31) 768 on2), (aI k (a 32) 4 sr2), (aI k (a 33) 4 en2)]) (va_runV (As := [.int r_8, .int r_9, .int p4, .int p5]) (rest := []) ⟨hx, hb, hml, hown, hts⟩ ((y_reckonWait l D k st lo (a 64) (a 65) (a 66) (a 67) wt wc r_8 r_9 p4 p5 hw_3) H.size) (cwV 4 hts (gV tw_784 tw_785 tw_786 tw_83 tw_787) rfl rfl rfl (by decide +kernel) ⟨Nat.le_of_ble_eq_true rfl, Nat.le_of_ble_eq_true rfl⟩) (pV hS hAlo hlo hP hK (va_Dlo hD hAlo) hZ [30] (by decide) rfl (ci := 2) (q := (RX2, TX2, 5)) (q0 := 0) rfl rfl) rfl rfl hl.1 rfl (lv_room (Nat.le_of_ble_eq_true rfl)) dX7_waits_98 ⟨Nat.le_of_ble_eq_true rfl, Nat.le_of_ble_eq_true rfl⟩) hS hA hP hD [30] [0, 1, 2, 3, 4, 5, 6, 7, 8, 9, 10, 11, 12, 13, 14, 15, 16, 17, 18, 19, 20, 21, 22, 23, 24, 25, 26, 27, 28, 29] rfl rfl (by decide +kernel) (by decide +kernel) (fun u H locs hw_10 hP hD hS => ?_)
            obtain ⟨wt__10, wc__10⟩ := u
            have hQ9 := pd_mk [((a 0), .inr (7, (fX7 (a 1) (a 3) (a 19) (a 35) (a 40) (nI rk) lfa (a 53) (a 56) (a 63) (a 64) (a 68)))), ((a 3), .inl (k 3, 3, .inr (.inr (.inr (.inr (a3 (a 4) (a 9) (a 14))))))), ((a 19), .inl (k 4, 3, .inr (.inr (.inr (.inr (a3 (a 20) (a 25) (a 30))))))), ((a 4), .inr (5, (fX5 (a 5) (a 6) (a 7) (a 8)))), (aI k (a 5) 10 (vv n0 see0 tm0 g0)), (aI k (a 6) 24 ff0), (aI k (a 7) 24 fp0), (aI k (a 8) 4 fl0), ((a 9), .inr (5, (fX5 (a 10) (a 11) (a 12) (a 13)))), (aI k (a 10) 10 (vv n1 see1 tm1 g1)), (aI k (a 11) 24 ff1), (aI k (a 12) 24 fp1), (aI k (a 13) 4 fl1), ((a 14), .inr (5, (fX5 (a 15) (a 16) (a 17) (a 18)))), (aI k (a 15) 10 (vv n2 see2 tm2 g2)), (aI k (a 16) 24 ff2), (aI k (a 17) 24 fp2), (aI k (a 18) 4 fl2), ((a 20), .inr (0, (fX0 (a 4) (a 21) (a 22) (a 23) (a 24)))), (aI k (a 21) 768 on0), (aI k (a 22) 4 sr0), (aI k (a 23) 4 en0), ((a 25), .inr (0, (fX0 (a 9) (a 26) (a 27) (a 28) (a 29)))), (aI k (a 26) 768 on1), (aI k (a 27) 4 sr1), (aI k (a 28) 4 en1), ((a 30), .inr (0, (fX0 (a 14) (a 31) (a 32) (a 33) (a 34)))), (aI k (a 31) 768 on2), (aI k (a 32) 4 sr2), (aI k (a 33) 4 en2), ((a 64), .inr (2, (fX2 (a 65) (a 66) (a 67) wt__10 wc__10)))] hP hD
            clear hP hD
            obtain ⟨hP, hD⟩ := hQ9
            try dsimp only at hw_10
            refine lv_iload hx hb dX7_waits_101 (lv_at hl 8 rfl) ?_
            refine lv_if_ne (tgt := 116) hx hb dX7_waits_103 (by decide) (fun c_11 => ?_) (fun c_11 => ?_)
            · refine lv_aload_n hx hb dX7_waits_116 rfl (lv_at hl 1 rfl) ?_
              refine va_get (D := D) (ci := 7) (v := .ref (a 64)) (C := RX7) (T := TX7) (N := 12) hx hb hts inX7 hown hK hP 0 rfl rfl 10 (by decide) (hts _ tw_315) (fun _ h9 => h9) rfl dX7_waits_117 ?_
              refine va_get (D := D) (ci := 2) (v := .int wc__10) (C := RX2) (T := TX2) (N := 5) hx hb hts inX2 hown hK hP 30 rfl rfl 4 (by decide) (hts _ tw_216) (fun _ h9 => h9) rfl dX7_waits_120 ?_
              obtain ⟨hP9, hD9⟩ := pd_sub [((a 0), .inr (7, (fX7 (a 1) (a 3) (a 19) (a 35) (a 40) (nI rk) lfa (a 53) (a 56) (a 63) (a 64) (a 68)))), ((a 3), .inl (k 3, 3, .inr (.inr (.inr (.inr (a3 (a 4) (a 9) (a 14))))))), ((a 19), .inl (k 4, 3, .inr (.inr (.inr (.inr (a3 (a 20) (a 25) (a 30))))))), ((a 4), .inr (5, (fX5 (a 5) (a 6) (a 7) (a 8)))), (aI k (a 5) 10 (vv n0 see0 tm0 g0)), (aI k (a 6) 24 ff0), (aI k (a 7) 24 fp0), (aI k (a 8) 4 fl0), ((a 9), .inr (5, (fX5 (a 10) (a 11) (a 12) (a 13)))), (aI k (a 10) 10 (vv n1 see1 tm1 g1)), (aI k (a 11) 24 ff1), (aI k (a 12) 24 fp1), (aI k (a 13) 4 fl1), ((a 14), .inr (5, (fX5 (a 15) (a 16) (a 17) (a 18)))), (aI k (a 15) 10 (vv n2 see2 tm2 g2)), (aI k (a 16) 24 ff2), (aI k (a 17) 24 fp2), (aI k (a 18) 4 fl2), ((a 20), .inr (0, (fX0 (a 4) (a 21) (a 22) (a 23) (a 24)))), (aI k (a 21) 768 on0), (aI k (a 22) 4 sr0), (aI k (a 23) 4 en0), ((a 25), .inr (0, (fX0 (a 9) (a 26) (a 27) (a 28) (a 29)))), (aI k (a 26) 768 on1), (aI k (a 27) 4 sr1), (aI k (a 28) 4 en1), ((a 30), .inr (0, (fX0 (a 14) (a 31) (a 32) (a 33) (a 34)))), (aI k (a 31) 768 on2), (aI k (a 32) 4 sr2), (aI k (a 33) 4 en2), ((a 64), .inr (2, (fX2 (a 65) (a 66) (a 67) wt__10 wc__10)))] [0, 1, 2, 3, 4, 5, 6, 7, 8, 9, 10, 11, 12, 13, 14, 15, 16, 17, 18, 19, 20, 21, 22, 23, 24, 25, 26, 27, 28, 29, 30] hP hD (by decide +kernel) rfl
              exact W.iret (v := wc__10) hx hb hr (fun t ht hW => ⟨⟨wc__10, (wt__10, wc__10), rfl, dq_at (s := 0) (by omega) (show n0 ≤ 24 by omega) (show id_2 < n0 by omega) (show siA (nI ir_2) (nI ig_2) (wtA p4 p5 p6) (sdX n0 see0 tm0 g0 ff0 fp0) id_2 _ from si_at (by rw [tmX (by omega)]; omega) (by rw [seX (by omega)]; omega) (by rw [tmX (by omega)]; omega) (by rw [seX (by omega)]; exact hig_2) (wq_1 ⟨hw_3, hw_4, hw_5⟩ (((ev_and ig_2 hg8_2).1).mp c_7) (is01 hw_5 c_11) (by rw [hw_10.2, hw_8, hw_9, (show on0 (slN ir_2 id_2 ig_2) = wayO (sdX n0 see0 tm0 g0 ff0 fp0) ir_2 id_2 ig_2 from (wo_of (d := (sdX n0 see0 tm0 g0 ff0 fp0)) (hwy 0 (by omega) (show 0 < n0 by omega)) (by rw [tmX (by omega)]; omega) (show id_2 < n0 by omega) (by rw [seX (by omega)]; exact hig_2))), xTake (see := see0) (tm := tm0) (ff := ff0) (fl := fl0) (show id_2 < n0 by omega) (hlt 0 (by omega) ir_2 (by omega))]))), by rw [ht]; exact hP9, hD9⟩, hS.F ht⟩) hS.2.2 dX7_waits_123
            · refine lv_aload_n hx hb dX7_waits_106 rfl (lv_at hl 1 rfl) ?_
              refine va_get (D := D) (ci := 7) (v := .ref (a 64)) (C := RX7) (T := TX7) (N := 12) hx hb hts inX7 hown hK hP 0 rfl rfl 10 (by decide) (hts _ tw_315) (fun _ h9 => h9) rfl dX7_waits_107 ?_
              refine va_get (D := D) (ci := 2) (v := .int wt__10) (C := RX2) (T := TX2) (N := 5) hx hb hts inX2 hown hK hP 30 rfl rfl 3 (by decide) (hts _ tw_214) (fun _ h9 => h9) rfl dX7_waits_110 ?_
              refine lv_goto (tgt := 123) hx hb dX7_waits_113 (by decide) ?_
              obtain ⟨hP9, hD9⟩ := pd_sub [((a 0), .inr (7, (fX7 (a 1) (a 3) (a 19) (a 35) (a 40) (nI rk) lfa (a 53) (a 56) (a 63) (a 64) (a 68)))), ((a 3), .inl (k 3, 3, .inr (.inr (.inr (.inr (a3 (a 4) (a 9) (a 14))))))), ((a 19), .inl (k 4, 3, .inr (.inr (.inr (.inr (a3 (a 20) (a 25) (a 30))))))), ((a 4), .inr (5, (fX5 (a 5) (a 6) (a 7) (a 8)))), (aI k (a 5) 10 (vv n0 see0 tm0 g0)), (aI k (a 6) 24 ff0), (aI k (a 7) 24 fp0), (aI k (a 8) 4 fl0), ((a 9), .inr (5, (fX5 (a 10) (a 11) (a 12) (a 13)))), (aI k (a 10) 10 (vv n1 see1 tm1 g1)), (aI k (a 11) 24 ff1), (aI k (a 12) 24 fp1), (aI k (a 13) 4 fl1), ((a 14), .inr (5, (fX5 (a 15) (a 16) (a 17) (a 18)))), (aI k (a 15) 10 (vv n2 see2 tm2 g2)), (aI k (a 16) 24 ff2), (aI k (a 17) 24 fp2), (aI k (a 18) 4 fl2), ((a 20), .inr (0, (fX0 (a 4) (a 21) (a 22) (a 23) (a 24)))), (aI k (a 21) 768 on0), (aI k (a 22) 4 sr0), (aI k (a 23) 4 en0), ((a 25), .inr (0, (fX0 (a 9) (a 26) (a 27) (a 28) (a 29)))), (aI k (a 26) 768 on1), (aI k (a 27) 4 sr1), (aI k (a 28) 4 en1), ((a 30), .inr (0, (fX0 (a 14) (a 31) (a 32) (a 33) (a 34)))), (aI k (a 31) 768 on2), (aI k (a 32) 4 sr2), (aI k (a 33) 4 en2), ((a 64), .inr (2, (fX2 (a 65) (a 66) (a 67) wt__10 wc__10)))] [0, 1, 2, 3, 4, 5, 6, 7, 8, 9, 10, 11, 12, 13, 14, 15, 16, 17, 18, 19, 20, 21, 22, 23, 24, 25, 26, 27, 28, 29, 30] hP hD (by decide +kernel) rfl
              exact W.iret (v := wt__10) hx hb hr (fun t ht hW => ⟨⟨wt__10, (wt__10, wc__10), rfl, dq_at (s := 0) (by omega) (show n0 ≤ 24 by omega) (show id_2 < n0 by omega) (show siA (nI ir_2) (nI ig_2) (wtA p4 p5 p6) (sdX n0 see0 tm0 g0 ff0 fp0) id_2 _ from si_at (by rw [tmX (by omega)]; omega) (by rw [seX (by omega)]; omega) (by rw [tmX (by omega)]; omega) (by rw [seX (by omega)]; exact hig_2) (wq_0 ⟨hw_3, hw_4, hw_5⟩ (((ev_and ig_2 hg8_2).1).mp c_7) c_11 (by rw [hw_10.1, hw_8, hw_9, (show on0 (slN ir_2 id_2 ig_2) = wayO (sdX n0 see0 tm0 g0 ff0 fp0) ir_2 id_2 ig_2 from (wo_of (d := (sdX n0 see0 tm0 g0 ff0 fp0)) (hwy 0 (by omega) (show 0 < n0 by omega)) (by rw [tmX (by omega)]; omega) (show id_2 < n0 by omega) (by rw [seX (by omega)]; exact hig_2))), xTake (see := see0) (tm := tm0) (ff := ff0) (fl := fl0) (show id_2 < n0 by omega) (hlt 0 (by omega) ir_2 (by omega))]))), by rw [ht]; exact hP9, hD9⟩, hS.F ht⟩) hS.2.2 dX7_waits_123
          · rw [ex_6] at c_7
            refine lv_sipush (v := (-1003)) hx hb dX7_waits_62 (by decide) ?_
            obtain ⟨hP9, hD9⟩ := pd_sub [((a 0), .inr (7, (fX7 (a 1) (a 3) (a 19) (a 35) (a 40) (nI rk) lfa (a 53) (a 56) (a 63) (a 64) (a 68)))), ((a 3), .inl (k 3, 3, .inr (.inr (.inr (.inr (a3 (a 4) (a 9) (a 14))))))), ((a 19), .inl (k 4, 3, .inr (.inr (.inr (.inr (a3 (a 20) (a 25) (a 30))))))), ((a 4), .inr (5, (fX5 (a 5) (a 6) (a 7) (a 8)))), (aI k (a 5) 10 (vv n0 see0 tm0 g0)), (aI k (a 6) 24 ff0), (aI k (a 7) 24 fp0), (aI k (a 8) 4 fl0), ((a 9), .inr (5, (fX5 (a 10) (a 11) (a 12) (a 13)))), (aI k (a 10) 10 (vv n1 see1 tm1 g1)), (aI k (a 11) 24 ff1), (aI k (a 12) 24 fp1), (aI k (a 13) 4 fl1), ((a 14), .inr (5, (fX5 (a 15) (a 16) (a 17) (a 18)))), (aI k (a 15) 10 (vv n2 see2 tm2 g2)), (aI k (a 16) 24 ff2), (aI k (a 17) 24 fp2), (aI k (a 18) 4 fl2), ((a 20), .inr (0, (fX0 (a 4) (a 21) (a 22) (a 23) (a 24)))), (aI k (a 21) 768 on0), (aI k (a 22) 4 sr0), (aI k (a 23) 4 en0), ((a 25), .inr (0, (fX0 (a 9) (a 26) (a 27) (a 28) (a 29)))), (aI k (a 26) 768 on1), (aI k (a 27) 4 sr1), (aI k (a 28) 4 en1), ((a 30), .inr (0, (fX0 (a 14) (a 31) (a 32) (a 33) (a 34)))), (aI k (a 31) 768 on2), (aI k (a 32) 4 sr2), (aI k (a 33) 4 en2), ((a 64), .inr (2, (fX2 (a 65) (a 66) (a 67) wt wc)))] [0, 1, 2, 3, 4, 5, 6, 7, 8, 9, 10, 11, 12, 13, 14, 15, 16, 17, 18, 19, 20, 21, 22, 23, 24, 25, 26, 27, 28, 29, 30] hP hD (by decide +kernel) rfl
            exact W.iret (v := (-1003)) hx hb hr (fun t ht hW => ⟨⟨(-1003), (wt, wc), rfl, dq_at (s := 0) (by omega) (show n0 ≤ 24 by omega) (show id_2 < n0 by omega) (show siA (nI ir_2) (nI ig_2) (wtA p4 p5 p6) (sdX n0 see0 tm0 g0 ff0 fp0) id_2 _ from si_at (by rw [tmX (by omega)]; omega) (by rw [seX (by omega)]; omega) (by rw [tmX (by omega)]; omega) (by rw [seX (by omega)]; exact hig_2) (wq_n ⟨hw_3, hw_4, hw_5⟩ (Classical.not_not.mp (fun z => c_7 (((ev_and ig_2 hg8_2).1).mpr z))))), by rw [ht]; exact hP9, hD9⟩, hS.F ht⟩) hS.2.2 dX7_waits_65
        · refine lv_if_ne (tgt := 55) hx hb dX7_waits_48 (by decide) (fun h => absurd (by decide) h) (fun _ => ?_)
          refine lv_sipush (v := (-1002)) hx hb dX7_waits_51 (by decide) ?_
          obtain ⟨hP9, hD9⟩ := pd_sub [((a 0), .inr (7, (fX7 (a 1) (a 3) (a 19) (a 35) (a 40) (nI rk) lfa (a 53) (a 56) (a 63) (a 64) (a 68)))), ((a 3), .inl (k 3, 3, .inr (.inr (.inr (.inr (a3 (a 4) (a 9) (a 14))))))), ((a 19), .inl (k 4, 3, .inr (.inr (.inr (.inr (a3 (a 20) (a 25) (a 30))))))), ((a 4), .inr (5, (fX5 (a 5) (a 6) (a 7) (a 8)))), (aI k (a 5) 10 (vv n0 see0 tm0 g0)), (aI k (a 6) 24 ff0), (aI k (a 7) 24 fp0), (aI k (a 8) 4 fl0), ((a 9), .inr (5, (fX5 (a 10) (a 11) (a 12) (a 13)))), (aI k (a 10) 10 (vv n1 see1 tm1 g1)), (aI k (a 11) 24 ff1), (aI k (a 12) 24 fp1), (aI k (a 13) 4 fl1), ((a 14), .inr (5, (fX5 (a 15) (a 16) (a 17) (a 18)))), (aI k (a 15) 10 (vv n2 see2 tm2 g2)), (aI k (a 16) 24 ff2), (aI k (a 17) 24 fp2), (aI k (a 18) 4 fl2), ((a 20), .inr (0, (fX0 (a 4) (a 21) (a 22) (a 23) (a 24)))), (aI k (a 21) 768 on0), (aI k (a 22) 4 sr0), (aI k (a 23) 4 en0), ((a 25), .inr (0, (fX0 (a 9) (a 26) (a 27) (a 28) (a 29)))), (aI k (a 26) 768 on1), (aI k (a 27) 4 sr1), (aI k (a 28) 4 en1), ((a 30), .inr (0, (fX0 (a 14) (a 31) (a 32) (a 33) (a 34)))), (aI k (a 31) 768 on2), (aI k (a 32) 4 sr2), (aI k (a 33) 4 en2), ((a 64), .inr (2, (fX2 (a 65) (a 66) (a 67) wt wc)))] [0, 1, 2, 3, 4, 5, 6, 7, 8, 9, 10, 11, 12, 13, 14, 15, 16, 17, 18, 19, 20, 21, 22, 23, 24, 25, 26, 27, 28, 29, 30] hP hD (by decide +kernel) rfl
          exact W.iret (v := (-1002)) hx hb hr (fun t ht hW => ⟨⟨(-1002), (wt, wc), rfl, dq_at (s := 0) (by omega) (show n0 ≤ 24 by omega) (show id_2 < n0 by omega) (show siA (nI ir_2) (nI ig_2) (wtA p4 p5 p6) (sdX n0 see0 tm0 g0 ff0 fp0) id_2 _ from si_at (by rw [tmX (by omega)]; omega) (by rw [seX (by omega)]; omega) (by rw [tmX (by omega)]; omega) (by rw [seX (by omega)]; exact hig_2) (wq_o (fun h => absurd h.2.2 hw_5))), by rw [ht]; exact hP9, hD9⟩, hS.F ht⟩) hS.2.2 dX7_waits_54
      · refine lv_if_eq (tgt := 51) hx hb dX7_waits_38 (by decide) (fun _ => ?_) (fun h => absurd (by decide) h)
        refine lv_sipush (v := (-1002)) hx hb dX7_waits_51 (by decide) ?_
        obtain ⟨hP9, hD9⟩ := pd_sub [((a 0), .inr (7, (fX7 (a 1) (a 3) (a 19) (a 35) (a 40) (nI rk) lfa (a 53) (a 56) (a 63) (a 64) (a 68)))), ((a 3), .inl (k 3, 3, .inr (.inr (.inr (.inr (a3 (a 4) (a 9) (a 14))))))), ((a 19), .inl (k 4, 3, .inr (.inr (.inr (.inr (a3 (a 20) (a 25) (a 30))))))), ((a 4), .inr (5, (fX5 (a 5) (a 6) (a 7) (a 8)))), (aI k (a 5) 10 (vv n0 see0 tm0 g0)), (aI k (a 6) 24 ff0), (aI k (a 7) 24 fp0), (aI k (a 8) 4 fl0), ((a 9), .inr (5, (fX5 (a 10) (a 11) (a 12) (a 13)))), (aI k (a 10) 10 (vv n1 see1 tm1 g1)), (aI k (a 11) 24 ff1), (aI k (a 12) 24 fp1), (aI k (a 13) 4 fl1), ((a 14), .inr (5, (fX5 (a 15) (a 16) (a 17) (a 18)))), (aI k (a 15) 10 (vv n2 see2 tm2 g2)), (aI k (a 16) 24 ff2), (aI k (a 17) 24 fp2), (aI k (a 18) 4 fl2), ((a 20), .inr (0, (fX0 (a 4) (a 21) (a 22) (a 23) (a 24)))), (aI k (a 21) 768 on0), (aI k (a 22) 4 sr0), (aI k (a 23) 4 en0), ((a 25), .inr (0, (fX0 (a 9) (a 26) (a 27) (a 28) (a 29)))), (aI k (a 26) 768 on1), (aI k (a 27) 4 sr1), (aI k (a 28) 4 en1), ((a 30), .inr (0, (fX0 (a 14) (a 31) (a 32) (a 33) (a 34)))), (aI k (a 31) 768 on2), (aI k (a 32) 4 sr2), (aI k (a 33) 4 en2), ((a 64), .inr (2, (fX2 (a 65) (a 66) (a 67) wt wc)))] [0, 1, 2, 3, 4, 5, 6, 7, 8, 9, 10, 11, 12, 13, 14, 15, 16, 17, 18, 19, 20, 21, 22, 23, 24, 25, 26, 27, 28, 29, 30] hP hD (by decide +kernel) rfl
        exact W.iret (v := (-1002)) hx hb hr (fun t ht hW => ⟨⟨(-1002), (wt, wc), rfl, dq_at (s := 0) (by omega) (show n0 ≤ 24 by omega) (show id_2 < n0 by omega) (show siA (nI ir_2) (nI ig_2) (wtA p4 p5 p6) (sdX n0 see0 tm0 g0 ff0 fp0) id_2 _ from si_at (by rw [tmX (by omega)]; omega) (by rw [seX (by omega)]; omega) (by rw [tmX (by omega)]; omega) (by rw [seX (by omega)]; exact hig_2) (wq_o (fun h => absurd h.2.1 hw_4))), by rw [ht]; exact hP9, hD9⟩, hS.F ht⟩) hS.2.2 dX7_waits_54
    · refine lv_if_eq (tgt := 51) hx hb dX7_waits_27 (by decide) (fun _ => ?_) (fun h => absurd (by decide) h)
      refine lv_sipush (v := (-1002)) hx hb dX7_waits_51 (by decide) ?_
      obtain ⟨hP9, hD9⟩ := pd_sub [((a 0), .inr (7, (fX7 (a 1) (a 3) (a 19) (a 35) (a 40) (nI rk) lfa (a 53) (a 56) (a 63) (a 64) (a 68)))), ((a 3), .inl (k 3, 3, .inr (.inr (.inr (.inr (a3 (a 4) (a 9) (a 14))))))), ((a 19), .inl (k 4, 3, .inr (.inr (.inr (.inr (a3 (a 20) (a 25) (a 30))))))), ((a 4), .inr (5, (fX5 (a 5) (a 6) (a 7) (a 8)))), (aI k (a 5) 10 (vv n0 see0 tm0 g0)), (aI k (a 6) 24 ff0), (aI k (a 7) 24 fp0), (aI k (a 8) 4 fl0), ((a 9), .inr (5, (fX5 (a 10) (a 11) (a 12) (a 13)))), (aI k (a 10) 10 (vv n1 see1 tm1 g1)), (aI k (a 11) 24 ff1), (aI k (a 12) 24 fp1), (aI k (a 13) 4 fl1), ((a 14), .inr (5, (fX5 (a 15) (a 16) (a 17) (a 18)))), (aI k (a 15) 10 (vv n2 see2 tm2 g2)), (aI k (a 16) 24 ff2), (aI k (a 17) 24 fp2), (aI k (a 18) 4 fl2), ((a 20), .inr (0, (fX0 (a 4) (a 21) (a 22) (a 23) (a 24)))), (aI k (a 21) 768 on0), (aI k (a 22) 4 sr0), (aI k (a 23) 4 en0), ((a 25), .inr (0, (fX0 (a 9) (a 26) (a 27) (a 28) (a 29)))), (aI k (a 26) 768 on1), (aI k (a 27) 4 sr1), (aI k (a 28) 4 en1), ((a 30), .inr (0, (fX0 (a 14) (a 31) (a 32) (a 33) (a 34)))), (aI k (a 31) 768 on2), (aI k (a 32) 4 sr2), (aI k (a 33) 4 en2), ((a 64), .inr (2, (fX2 (a 65) (a 66) (a 67) wt wc)))] [0, 1, 2, 3, 4, 5, 6, 7, 8, 9, 10, 11, 12, 13, 14, 15, 16, 17, 18, 19, 20, 21, 22, 23, 24, 25, 26, 27, 28, 29, 30] hP hD (by decide +kernel) rfl
      exact W.iret (v := (-1002)) hx hb hr (fun t ht hW => ⟨⟨(-1002), (wt, wc), rfl, dq_at (s := 0) (by omega) (show n0 ≤ 24 by omega) (show id_2 < n0 by omega) (show siA (nI ir_2) (nI ig_2) (wtA p4 p5 p6) (sdX n0 see0 tm0 g0 ff0 fp0) id_2 _ from si_at (by rw [tmX (by omega)]; omega) (by rw [seX (by omega)]; omega) (by rw [tmX (by omega)]; omega) (by rw [seX (by omega)]; exact hig_2) (wq_o (fun h => absurd h.1 hw_3))), by rw [ht]; exact hP9, hD9⟩, hS.F ht⟩) hS.2.2 dX7_waits_54
  · refine lv_istore (lv' := [(8, .int 0), (0, .ref (a 0)), (1, .int 1), (2, .int (nI ir_2)), (3, .int (nI id_2)), (4, .int (nI ig_2)), (5, .int p4), (6, .int p5), (7, .int p6)]) hx hb dX7_waits_9 hl (by decide) rfl (fun ls hl => ?_)
    refine lv_iload hx hb dX7_waits_11 (lv_at hl 0 rfl) ?_
    refine lv_if_eq (tgt := 19) hx hb dX7_waits_13 (by decide) (fun _ => ?_) (fun h => absurd (by decide) h)
    refine lv_iload hx hb dX7_waits_19 (lv_at hl 6 rfl) ?_
    refine lv_iconst (v := 0) hx hb dX7_waits_21 (by decide) ?_
    refine lv_bipush (v := 100) hx hb dX7_waits_22 (by decide) ?_
    refine ro_i (D := D) (va_runS (As := [.int p4, .int 0, .int 100]) (rest := []) ⟨hx, hb, hml, hown, hts⟩ ((k_isIn l D k st lo p4 0 100) H.size) (va_cwS 3 hts (gS tw_593 tw_594 tw_79 tw_595) rfl rfl rfl (by decide +kernel) ⟨Nat.le_of_ble_eq_true rfl, Nat.le_of_ble_eq_true rfl⟩) (pS hS hAlo hlo hP hK (va_Dlo hD hAlo) hZ [] (by decide) rfl) rfl rfl hl.1 rfl (lv_room (Nat.le_of_ble_eq_true rfl)) dX7_waits_24 ⟨Nat.le_of_ble_eq_true rfl, Nat.le_of_ble_eq_true rfl⟩) hS hA hP (fun r_12 H locs hw_12 hP hS => ?_)
    try dsimp only at hw_12
    rcases hw_12 with ⟨rfl, hw_12⟩ | ⟨rfl, hw_12⟩
    · refine lv_if_eq (tgt := 51) hx hb dX7_waits_27 (by decide) (fun h => absurd h (by decide)) (fun _ => ?_)
      refine lv_iload hx hb dX7_waits_30 (lv_at hl 7 rfl) ?_
      refine lv_iconst (v := 0) hx hb dX7_waits_32 (by decide) ?_
      refine lv_bipush (v := 99) hx hb dX7_waits_33 (by decide) ?_
      refine ro_i (D := D) (va_runS (As := [.int p5, .int 0, .int 99]) (rest := []) ⟨hx, hb, hml, hown, hts⟩ ((k_isIn l D k st lo p5 0 99) H.size) (va_cwS 3 hts (gS tw_593 tw_594 tw_79 tw_595) rfl rfl rfl (by decide +kernel) ⟨Nat.le_of_ble_eq_true rfl, Nat.le_of_ble_eq_true rfl⟩) (pS hS hAlo hlo hP hK (va_Dlo hD hAlo) hZ [] (by decide) rfl) rfl rfl hl.1 rfl (lv_room (Nat.le_of_ble_eq_true rfl)) dX7_waits_35 ⟨Nat.le_of_ble_eq_true rfl, Nat.le_of_ble_eq_true rfl⟩) hS hA hP (fun r_13 H locs hw_13 hP hS => ?_)
      try dsimp only at hw_13
      rcases hw_13 with ⟨rfl, hw_13⟩ | ⟨rfl, hw_13⟩
      · refine lv_if_eq (tgt := 51) hx hb dX7_waits_38 (by decide) (fun h => absurd h (by decide)) (fun _ => ?_)
        refine lv_iload hx hb dX7_waits_41 (lv_at hl 8 rfl) ?_
        refine lv_iconst (v := 0) hx hb dX7_waits_43 (by decide) ?_
        refine lv_iconst (v := 1) hx hb dX7_waits_44 (by decide) ?_
        refine ro_i (D := D) (va_runS (As := [.int p6, .int 0, .int 1]) (rest := []) ⟨hx, hb, hml, hown, hts⟩ ((k_isIn l D k st lo p6 0 1) H.size) (va_cwS 3 hts (gS tw_593 tw_594 tw_79 tw_595) rfl rfl rfl (by decide +kernel) ⟨Nat.le_of_ble_eq_true rfl, Nat.le_of_ble_eq_true rfl⟩) (pS hS hAlo hlo hP hK (va_Dlo hD hAlo) hZ [] (by decide) rfl) rfl rfl hl.1 rfl (lv_room (Nat.le_of_ble_eq_true rfl)) dX7_waits_45 ⟨Nat.le_of_ble_eq_true rfl, Nat.le_of_ble_eq_true rfl⟩) hS hA hP (fun r_14 H locs hw_14 hP hS => ?_)
        try dsimp only at hw_14
        rcases hw_14 with ⟨rfl, hw_14⟩ | ⟨rfl, hw_14⟩
        · refine lv_if_ne (tgt := 55) hx hb dX7_waits_48 (by decide) (fun _ => ?_) (fun h => absurd h (by decide))
          have hg8_2 : ig_2 < 8 := by have h8 := (p8 (sq_le (see := see1) (n := n1) (i := id_2) (by omega))).2; omega
          refine lv_iload hx hb dX7_waits_55 (lv_at hl 5 rfl) ?_
          refine lv_iconst (v := 1) hx hb dX7_waits_57 (by decide) ?_
          refine lv_iand hx hb dX7_waits_58 ?_
          refine lv_topi (fun x_15 ex_15 => ?_)
          refine lv_if_eq (tgt := 66) hx hb dX7_waits_59 (by decide) (fun c_16 => ?_) (fun c_16 => ?_)
          · rw [ex_15] at c_16
            refine lv_aload_n hx hb dX7_waits_66 rfl (lv_at hl 1 rfl) ?_
            refine va_get (D := D) (ci := 7) (v := .ref (a 64)) (C := RX7) (T := TX7) (N := 12) hx hb hts inX7 hown hK hP 0 rfl rfl 10 (by decide) (hts _ tw_315) (fun _ h9 => h9) rfl dX7_waits_67 ?_
            refine lv_aload_n hx hb dX7_waits_70 rfl (lv_at hl 1 rfl) ?_
            refine va_get (D := D) (ci := 7) (v := .ref (a 19)) (C := RX7) (T := TX7) (N := 12) hx hb hts inX7 hown hK hP 0 rfl rfl 2 (by decide) (hts _ tw_307) (fun _ h9 => h9) rfl dX7_waits_71 ?_
            refine lv_iload_n hx hb dX7_waits_74 rfl (lv_at hl 2 rfl) ?_
            refine va_aldq hx hb hK hP 2 4 rfl rfl (by unfold vp_in; decide) dX7_waits_75 ?_
            refine lv_tr (y := .ref (a 25)) rfl ?_
            refine lv_iload_n hx hb dX7_waits_76 rfl (lv_at hl 3 rfl) ?_
            refine lv_iload_n hx hb dX7_waits_77 rfl (lv_at hl 4 rfl) ?_
            refine lv_iload hx hb dX7_waits_78 (lv_at hl 5 rfl) ?_
            refine ro_i (D := D) (va_runV (As := [.int (nI ir_2), .int (nI id_2), .int (nI ig_2)]) (rest := [.ref (a 64)]) ⟨hx, hb, hml, hown, hts⟩ ((y_onwardOf l D k st lo (a 9) (a 25) (a 26) (a 27) (a 28) (a 29) on1 ir_2 id_2 ig_2 (by first | assumption | omega) (by first | assumption | omega) (by first | assumption | omega)) H.size) (cwV 3 hts (gV tw_632 tw_550 tw_551 tw_85 tw_552) rfl rfl rfl (by decide +kernel) ⟨Nat.le_of_ble_eq_true rfl, Nat.le_of_ble_eq_true rfl⟩) (pV hS hAlo hlo hP hK (va_Dlo hD hAlo) hZ [22, 23] (by decide) rfl (ci := 0) (q := (RX0, TX0, 5)) (q0 := 0) rfl rfl) rfl rfl hl.1 rfl (lv_room (Nat.le_of_ble_eq_true rfl)) dX7_waits_80 ⟨Nat.le_of_ble_eq_true rfl, Nat.le_of_ble_eq_true rfl⟩) hS hA hP (fun r_17 H locs hw_17 hP hS => ?_)
            try dsimp only at hw_17
            refine lv_aload_n hx hb dX7_waits_83 rfl (lv_at hl 1 rfl) ?_
            refine va_get (D := D) (ci := 7) (v := .ref (a 3)) (C := RX7) (T := TX7) (N := 12) hx hb hts inX7 hown hK hP 0 rfl rfl 1 (by decide) (hts _ tw_306) (fun _ h9 => h9) rfl dX7_waits_84 ?_
            refine lv_iload_n hx hb dX7_waits_87 rfl (lv_at hl 2 rfl) ?_
            refine va_aldq hx hb hK hP 1 3 rfl rfl (by unfold vp_in; decide) dX7_waits_88 ?_
            refine lv_tr (y := .ref (a 9)) rfl ?_
            refine lv_iload_n hx hb dX7_waits_89 rfl (lv_at hl 3 rfl) ?_
            refine lv_iload_n hx hb dX7_waits_90 rfl (lv_at hl 4 rfl) ?_
            refine ro_i (D := D) (va_runV (As := [.int (nI ir_2), .int (nI id_2)]) (rest := [.int r_17, .ref (a 64)]) ⟨hx, hb, hml, hown, hts⟩ ((y_takingOf l D k st lo (a 9) (a 10) (a 11) (a 12) (a 13) n1 see1 tm1 g1 fp1 fl1 ir_2 id_2 (by first | assumption | omega) (by first | assumption | omega)) H.size) (cwV 2 hts (gV tw_617 tw_557 tw_558 tw_81 tw_559) rfl rfl rfl (by decide +kernel) ⟨Nat.le_of_ble_eq_true rfl, Nat.le_of_ble_eq_true rfl⟩) (pV hS hAlo hlo hP hK (va_Dlo hD hAlo) hZ [8, 9, 11, 12] (by decide) rfl (ci := 5) (q := (RX5, TX5, 4)) (q0 := 0) rfl rfl) rfl rfl hl.1 rfl (lv_room (Nat.le_of_ble_eq_true rfl)) dX7_waits_91 ⟨Nat.le_of_ble_eq_true rfl, Nat.le_of_ble_eq_true rfl⟩) hS hA hP (fun r_18 H locs hw_18 hP hS => ?_)
            try dsimp only at hw_18
            refine lv_iload hx hb dX7_waits_94 (lv_at hl 6 rfl) ?_
            refine lv_iload hx hb dX7_waits_96 (lv_at hl 7 rfl) ?_
            refine rw_v (D := D) (wr := [((a 0), .inr (7, (fX7 (a 1) (a 3) (a 19) (a 35) (a 40) (nI rk) lfa (a 53) (a 56) (a 63) (a 64) (a 68)))), ((a 3), .inl (k 3, 3, .inr (.inr (.inr (.inr (a3 (a 4) (a 9) (a 14))))))), ((a 19), .inl (k 4, 3, .inr (.inr (.inr (.inr (a3 (a 20) (a 25) (a 30))))))), ((a 4), .inr (5, (fX5 (a 5) (a 6) (a 7) (a 8)))), (aI k (a 5) 10 (vv n0 see0 tm0 g0)), (aI k (a 6) 24 ff0), (aI k (a 7) 24 fp0), (aI k (a 8) 4 fl0), ((a 9), .inr (5, (fX5 (a 10) (a 11) (a 12) (a 13)))), (aI k (a 10) 10 (vv n1 see1 tm1 g1)), (aI k (a 11) 24 ff1), (aI k (a 12) 24 fp1), (aI k (a 13) 4 fl1), ((a 14), .inr (5, (fX5 (a 15) (a 16) (a 17) (a 18)))), (aI k (a 15) 10 (vv n2 see2 tm2 g2)), (aI k (a 16) 24 ff2), (aI k (a 17) 24 fp2), (aI k (a 18) 4 fl2), ((a 20), .inr (0, (fX0 (a 4) (a 21) (a 22) (a 23) (a 24)))), (aI k (a 21) 768 on0), (aI k (a 22) 4 sr0), (aI k (a 23) 4 en0), ((a 25), .inr (0, (fX0 (a 9) (a 26) (a 27) (a 28) (a 29)))), (aI k (a 26) 768 on1), (aI k (a 27) 4 sr1), (aI k (a 28) 4 en1), ((a 30), .inr (0, (fX0 (a 14) (a 31) (a 32) (a 33) (a 34)))), (aI k (a 31) 768 on2), (aI k (a 32) 4 sr2), (aI k (a 33) 4 en2)]) (va_runV (As := [.int r_17, .int r_18, .int p4, .int p5]) (rest := []) ⟨hx, hb, hml, hown, hts⟩ ((y_reckonWait l D k st lo (a 64) (a 65) (a 66) (a 67) wt wc r_17 r_18 p4 p5 hw_12) H.size) (cwV 4 hts (gV tw_784 tw_785 tw_786 tw_83 tw_787) rfl rfl rfl (by decide +kernel) ⟨Nat.le_of_ble_eq_true rfl, Nat.le_of_ble_eq_true rfl⟩) (pV hS hAlo hlo hP hK (va_Dlo hD hAlo) hZ [30] (by decide) rfl (ci := 2) (q := (RX2, TX2, 5)) (q0 := 0) rfl rfl) rfl rfl hl.1 rfl (lv_room (Nat.le_of_ble_eq_true rfl)) dX7_waits_98 ⟨Nat.le_of_ble_eq_true rfl, Nat.le_of_ble_eq_true rfl⟩) hS hA hP hD [30] [0, 1, 2, 3, 4, 5, 6, 7, 8, 9, 10, 11, 12, 13, 14, 15, 16, 17, 18, 19, 20, 21, 22, 23, 24, 25, 26, 27, 28, 29] rfl rfl (by decide +kernel) (by decide +kernel) (fun u H locs hw_19 hP hD hS => ?_)
            obtain ⟨wt__19, wc__19⟩ := u
            have hQ9 := pd_mk [((a 0), .inr (7, (fX7 (a 1) (a 3) (a 19) (a 35) (a 40) (nI rk) lfa (a 53) (a 56) (a 63) (a 64) (a 68)))), ((a 3), .inl (k 3, 3, .inr (.inr (.inr (.inr (a3 (a 4) (a 9) (a 14))))))), ((a 19), .inl (k 4, 3, .inr (.inr (.inr (.inr (a3 (a 20) (a 25) (a 30))))))), ((a 4), .inr (5, (fX5 (a 5) (a 6) (a 7) (a 8)))), (aI k (a 5) 10 (vv n0 see0 tm0 g0)), (aI k (a 6) 24 ff0), (aI k (a 7) 24 fp0), (aI k (a 8) 4 fl0), ((a 9), .inr (5, (fX5 (a 10) (a 11) (a 12) (a 13)))), (aI k (a 10) 10 (vv n1 see1 tm1 g1)), (aI k (a 11) 24 ff1), (aI k (a 12) 24 fp1), (aI k (a 13) 4 fl1), ((a 14), .inr (5, (fX5 (a 15) (a 16) (a 17) (a 18)))), (aI k (a 15) 10 (vv n2 see2 tm2 g2)), (aI k (a 16) 24 ff2), (aI k (a 17) 24 fp2), (aI k (a 18) 4 fl2), ((a 20), .inr (0, (fX0 (a 4) (a 21) (a 22) (a 23) (a 24)))), (aI k (a 21) 768 on0), (aI k (a 22) 4 sr0), (aI k (a 23) 4 en0), ((a 25), .inr (0, (fX0 (a 9) (a 26) (a 27) (a 28) (a 29)))), (aI k (a 26) 768 on1), (aI k (a 27) 4 sr1), (aI k (a 28) 4 en1), ((a 30), .inr (0, (fX0 (a 14) (a 31) (a 32) (a 33) (a 34)))), (aI k (a 31) 768 on2), (aI k (a 32) 4 sr2), (aI k (a 33) 4 en2), ((a 64), .inr (2, (fX2 (a 65) (a 66) (a 67) wt__19 wc__19)))] hP hD
            clear hP hD
            obtain ⟨hP, hD⟩ := hQ9
            try dsimp only at hw_19
            refine lv_iload hx hb dX7_waits_101 (lv_at hl 8 rfl) ?_
            refine lv_if_ne (tgt := 116) hx hb dX7_waits_103 (by decide) (fun c_20 => ?_) (fun c_20 => ?_)
            · refine lv_aload_n hx hb dX7_waits_116 rfl (lv_at hl 1 rfl) ?_
              refine va_get (D := D) (ci := 7) (v := .ref (a 64)) (C := RX7) (T := TX7) (N := 12) hx hb hts inX7 hown hK hP 0 rfl rfl 10 (by decide) (hts _ tw_315) (fun _ h9 => h9) rfl dX7_waits_117 ?_
              refine va_get (D := D) (ci := 2) (v := .int wc__19) (C := RX2) (T := TX2) (N := 5) hx hb hts inX2 hown hK hP 30 rfl rfl 4 (by decide) (hts _ tw_216) (fun _ h9 => h9) rfl dX7_waits_120 ?_
              obtain ⟨hP9, hD9⟩ := pd_sub [((a 0), .inr (7, (fX7 (a 1) (a 3) (a 19) (a 35) (a 40) (nI rk) lfa (a 53) (a 56) (a 63) (a 64) (a 68)))), ((a 3), .inl (k 3, 3, .inr (.inr (.inr (.inr (a3 (a 4) (a 9) (a 14))))))), ((a 19), .inl (k 4, 3, .inr (.inr (.inr (.inr (a3 (a 20) (a 25) (a 30))))))), ((a 4), .inr (5, (fX5 (a 5) (a 6) (a 7) (a 8)))), (aI k (a 5) 10 (vv n0 see0 tm0 g0)), (aI k (a 6) 24 ff0), (aI k (a 7) 24 fp0), (aI k (a 8) 4 fl0), ((a 9), .inr (5, (fX5 (a 10) (a 11) (a 12) (a 13)))), (aI k (a 10) 10 (vv n1 see1 tm1 g1)), (aI k (a 11) 24 ff1), (aI k (a 12) 24 fp1), (aI k (a 13) 4 fl1), ((a 14), .inr (5, (fX5 (a 15) (a 16) (a 17) (a 18)))), (aI k (a 15) 10 (vv n2 see2 tm2 g2)), (aI k (a 16) 24 ff2), (aI k (a 17) 24 fp2), (aI k (a 18) 4 fl2), ((a 20), .inr (0, (fX0 (a 4) (a 21) (a 22) (a 23) (a 24)))), (aI k (a 21) 768 on0), (aI k (a 22) 4 sr0), (aI k (a 23) 4 en0), ((a 25), .inr (0, (fX0 (a 9) (a 26) (a 27) (a 28) (a 29)))), (aI k (a 26) 768 on1), (aI k (a 27) 4 sr1), (aI k (a 28) 4 en1), ((a 30), .inr (0, (fX0 (a 14) (a 31) (a 32) (a 33) (a 34)))), (aI k (a 31) 768 on2), (aI k (a 32) 4 sr2), (aI k (a 33) 4 en2), ((a 64), .inr (2, (fX2 (a 65) (a 66) (a 67) wt__19 wc__19)))] [0, 1, 2, 3, 4, 5, 6, 7, 8, 9, 10, 11, 12, 13, 14, 15, 16, 17, 18, 19, 20, 21, 22, 23, 24, 25, 26, 27, 28, 29, 30] hP hD (by decide +kernel) rfl
              exact W.iret (v := wc__19) hx hb hr (fun t ht hW => ⟨⟨wc__19, (wt__19, wc__19), rfl, dq_at (s := 1) (by omega) (show n1 ≤ 24 by omega) (show id_2 < n1 by omega) (show siA (nI ir_2) (nI ig_2) (wtA p4 p5 p6) (sdX n1 see1 tm1 g1 ff1 fp1) id_2 _ from si_at (by rw [tmX (by omega)]; omega) (by rw [seX (by omega)]; omega) (by rw [tmX (by omega)]; omega) (by rw [seX (by omega)]; exact hig_2) (wq_1 ⟨hw_12, hw_13, hw_14⟩ (((ev_and ig_2 hg8_2).1).mp c_16) (is01 hw_14 c_20) (by rw [hw_19.2, hw_17, hw_18, (show on1 (slN ir_2 id_2 ig_2) = wayO (sdX n1 see1 tm1 g1 ff1 fp1) ir_2 id_2 ig_2 from (wo_of (d := (sdX n1 see1 tm1 g1 ff1 fp1)) (hwy 1 (by omega) (show 0 < n1 by omega)) (by rw [tmX (by omega)]; omega) (show id_2 < n1 by omega) (by rw [seX (by omega)]; exact hig_2))), xTake (see := see1) (tm := tm1) (ff := ff1) (fl := fl1) (show id_2 < n1 by omega) (hlt 1 (by omega) ir_2 (by omega))]))), by rw [ht]; exact hP9, hD9⟩, hS.F ht⟩) hS.2.2 dX7_waits_123
            · refine lv_aload_n hx hb dX7_waits_106 rfl (lv_at hl 1 rfl) ?_
              refine va_get (D := D) (ci := 7) (v := .ref (a 64)) (C := RX7) (T := TX7) (N := 12) hx hb hts inX7 hown hK hP 0 rfl rfl 10 (by decide) (hts _ tw_315) (fun _ h9 => h9) rfl dX7_waits_107 ?_
              refine va_get (D := D) (ci := 2) (v := .int wt__19) (C := RX2) (T := TX2) (N := 5) hx hb hts inX2 hown hK hP 30 rfl rfl 3 (by decide) (hts _ tw_214) (fun _ h9 => h9) rfl dX7_waits_110 ?_
              refine lv_goto (tgt := 123) hx hb dX7_waits_113 (by decide) ?_
              obtain ⟨hP9, hD9⟩ := pd_sub [((a 0), .inr (7, (fX7 (a 1) (a 3) (a 19) (a 35) (a 40) (nI rk) lfa (a 53) (a 56) (a 63) (a 64) (a 68)))), ((a 3), .inl (k 3, 3, .inr (.inr (.inr (.inr (a3 (a 4) (a 9) (a 14))))))), ((a 19), .inl (k 4, 3, .inr (.inr (.inr (.inr (a3 (a 20) (a 25) (a 30))))))), ((a 4), .inr (5, (fX5 (a 5) (a 6) (a 7) (a 8)))), (aI k (a 5) 10 (vv n0 see0 tm0 g0)), (aI k (a 6) 24 ff0), (aI k (a 7) 24 fp0), (aI k (a 8) 4 fl0), ((a 9), .inr (5, (fX5 (a 10) (a 11) (a 12) (a 13)))), (aI k (a 10) 10 (vv n1 see1 tm1 g1)), (aI k (a 11) 24 ff1), (aI k (a 12) 24 fp1), (aI k (a 13) 4 fl1), ((a 14), .inr (5, (fX5 (a 15) (a 16) (a 17) (a 18)))), (aI k (a 15) 10 (vv n2 see2 tm2 g2)), (aI k (a 16) 24 ff2), (aI k (a 17) 24 fp2), (aI k (a 18) 4 fl2), ((a 20), .inr (0, (fX0 (a 4) (a 21) (a 22) (a 23) (a 24)))), (aI k (a 21) 768 on0), (aI k (a 22) 4 sr0), (aI k (a 23) 4 en0), ((a 25), .inr (0, (fX0 (a 9) (a 26) (a 27) (a 28) (a 29)))), (aI k (a 26) 768 on1), (aI k (a 27) 4 sr1), (aI k (a 28) 4 en1), ((a 30), .inr (0, (fX0 (a 14) (a 31) (a 32) (a 33) (a 34)))), (aI k (a 31) 768 on2), (aI k (a 32) 4 sr2), (aI k (a 33) 4 en2), ((a 64), .inr (2, (fX2 (a 65) (a 66) (a 67) wt__19 wc__19)))] [0, 1, 2, 3, 4, 5, 6, 7, 8, 9, 10, 11, 12, 13, 14, 15, 16, 17, 18, 19, 20, 21, 22, 23, 24, 25, 26, 27, 28, 29, 30] hP hD (by decide +kernel) rfl
              exact W.iret (v := wt__19) hx hb hr (fun t ht hW => ⟨⟨wt__19, (wt__19, wc__19), rfl, dq_at (s := 1) (by omega) (show n1 ≤ 24 by omega) (show id_2 < n1 by omega) (show siA (nI ir_2) (nI ig_2) (wtA p4 p5 p6) (sdX n1 see1 tm1 g1 ff1 fp1) id_2 _ from si_at (by rw [tmX (by omega)]; omega) (by rw [seX (by omega)]; omega) (by rw [tmX (by omega)]; omega) (by rw [seX (by omega)]; exact hig_2) (wq_0 ⟨hw_12, hw_13, hw_14⟩ (((ev_and ig_2 hg8_2).1).mp c_16) c_20 (by rw [hw_19.1, hw_17, hw_18, (show on1 (slN ir_2 id_2 ig_2) = wayO (sdX n1 see1 tm1 g1 ff1 fp1) ir_2 id_2 ig_2 from (wo_of (d := (sdX n1 see1 tm1 g1 ff1 fp1)) (hwy 1 (by omega) (show 0 < n1 by omega)) (by rw [tmX (by omega)]; omega) (show id_2 < n1 by omega) (by rw [seX (by omega)]; exact hig_2))), xTake (see := see1) (tm := tm1) (ff := ff1) (fl := fl1) (show id_2 < n1 by omega) (hlt 1 (by omega) ir_2 (by omega))]))), by rw [ht]; exact hP9, hD9⟩, hS.F ht⟩) hS.2.2 dX7_waits_123
          · rw [ex_15] at c_16
            refine lv_sipush (v := (-1003)) hx hb dX7_waits_62 (by decide) ?_
            obtain ⟨hP9, hD9⟩ := pd_sub [((a 0), .inr (7, (fX7 (a 1) (a 3) (a 19) (a 35) (a 40) (nI rk) lfa (a 53) (a 56) (a 63) (a 64) (a 68)))), ((a 3), .inl (k 3, 3, .inr (.inr (.inr (.inr (a3 (a 4) (a 9) (a 14))))))), ((a 19), .inl (k 4, 3, .inr (.inr (.inr (.inr (a3 (a 20) (a 25) (a 30))))))), ((a 4), .inr (5, (fX5 (a 5) (a 6) (a 7) (a 8)))), (aI k (a 5) 10 (vv n0 see0 tm0 g0)), (aI k (a 6) 24 ff0), (aI k (a 7) 24 fp0), (aI k (a 8) 4 fl0), ((a 9), .inr (5, (fX5 (a 10) (a 11) (a 12) (a 13)))), (aI k (a 10) 10 (vv n1 see1 tm1 g1)), (aI k (a 11) 24 ff1), (aI k (a 12) 24 fp1), (aI k (a 13) 4 fl1), ((a 14), .inr (5, (fX5 (a 15) (a 16) (a 17) (a 18)))), (aI k (a 15) 10 (vv n2 see2 tm2 g2)), (aI k (a 16) 24 ff2), (aI k (a 17) 24 fp2), (aI k (a 18) 4 fl2), ((a 20), .inr (0, (fX0 (a 4) (a 21) (a 22) (a 23) (a 24)))), (aI k (a 21) 768 on0), (aI k (a 22) 4 sr0), (aI k (a 23) 4 en0), ((a 25), .inr (0, (fX0 (a 9) (a 26) (a 27) (a 28) (a 29)))), (aI k (a 26) 768 on1), (aI k (a 27) 4 sr1), (aI k (a 28) 4 en1), ((a 30), .inr (0, (fX0 (a 14) (a 31) (a 32) (a 33) (a 34)))), (aI k (a 31) 768 on2), (aI k (a 32) 4 sr2), (aI k (a 33) 4 en2), ((a 64), .inr (2, (fX2 (a 65) (a 66) (a 67) wt wc)))] [0, 1, 2, 3, 4, 5, 6, 7, 8, 9, 10, 11, 12, 13, 14, 15, 16, 17, 18, 19, 20, 21, 22, 23, 24, 25, 26, 27, 28, 29, 30] hP hD (by decide +kernel) rfl
            exact W.iret (v := (-1003)) hx hb hr (fun t ht hW => ⟨⟨(-1003), (wt, wc), rfl, dq_at (s := 1) (by omega) (show n1 ≤ 24 by omega) (show id_2 < n1 by omega) (show siA (nI ir_2) (nI ig_2) (wtA p4 p5 p6) (sdX n1 see1 tm1 g1 ff1 fp1) id_2 _ from si_at (by rw [tmX (by omega)]; omega) (by rw [seX (by omega)]; omega) (by rw [tmX (by omega)]; omega) (by rw [seX (by omega)]; exact hig_2) (wq_n ⟨hw_12, hw_13, hw_14⟩ (Classical.not_not.mp (fun z => c_16 (((ev_and ig_2 hg8_2).1).mpr z))))), by rw [ht]; exact hP9, hD9⟩, hS.F ht⟩) hS.2.2 dX7_waits_65
        · refine lv_if_ne (tgt := 55) hx hb dX7_waits_48 (by decide) (fun h => absurd (by decide) h) (fun _ => ?_)
          refine lv_sipush (v := (-1002)) hx hb dX7_waits_51 (by decide) ?_
          obtain ⟨hP9, hD9⟩ := pd_sub [((a 0), .inr (7, (fX7 (a 1) (a 3) (a 19) (a 35) (a 40) (nI rk) lfa (a 53) (a 56) (a 63) (a 64) (a 68)))), ((a 3), .inl (k 3, 3, .inr (.inr (.inr (.inr (a3 (a 4) (a 9) (a 14))))))), ((a 19), .inl (k 4, 3, .inr (.inr (.inr (.inr (a3 (a 20) (a 25) (a 30))))))), ((a 4), .inr (5, (fX5 (a 5) (a 6) (a 7) (a 8)))), (aI k (a 5) 10 (vv n0 see0 tm0 g0)), (aI k (a 6) 24 ff0), (aI k (a 7) 24 fp0), (aI k (a 8) 4 fl0), ((a 9), .inr (5, (fX5 (a 10) (a 11) (a 12) (a 13)))), (aI k (a 10) 10 (vv n1 see1 tm1 g1)), (aI k (a 11) 24 ff1), (aI k (a 12) 24 fp1), (aI k (a 13) 4 fl1), ((a 14), .inr (5, (fX5 (a 15) (a 16) (a 17) (a 18)))), (aI k (a 15) 10 (vv n2 see2 tm2 g2)), (aI k (a 16) 24 ff2), (aI k (a 17) 24 fp2), (aI k (a 18) 4 fl2), ((a 20), .inr (0, (fX0 (a 4) (a 21) (a 22) (a 23) (a 24)))), (aI k (a 21) 768 on0), (aI k (a 22) 4 sr0), (aI k (a 23) 4 en0), ((a 25), .inr (0, (fX0 (a 9) (a 26) (a 27) (a 28) (a 29)))), (aI k (a 26) 768 on1), (aI k (a 27) 4 sr1), (aI k (a 28) 4 en1), ((a 30), .inr (0, (fX0 (a 14) (a 31) (a 32) (a 33) (a 34)))), (aI k (a 31) 768 on2), (aI k (a 32) 4 sr2), (aI k (a 33) 4 en2), ((a 64), .inr (2, (fX2 (a 65) (a 66) (a 67) wt wc)))] [0, 1, 2, 3, 4, 5, 6, 7, 8, 9, 10, 11, 12, 13, 14, 15, 16, 17, 18, 19, 20, 21, 22, 23, 24, 25, 26, 27, 28, 29, 30] hP hD (by decide +kernel) rfl
          exact W.iret (v := (-1002)) hx hb hr (fun t ht hW => ⟨⟨(-1002), (wt, wc), rfl, dq_at (s := 1) (by omega) (show n1 ≤ 24 by omega) (show id_2 < n1 by omega) (show siA (nI ir_2) (nI ig_2) (wtA p4 p5 p6) (sdX n1 see1 tm1 g1 ff1 fp1) id_2 _ from si_at (by rw [tmX (by omega)]; omega) (by rw [seX (by omega)]; omega) (by rw [tmX (by omega)]; omega) (by rw [seX (by omega)]; exact hig_2) (wq_o (fun h => absurd h.2.2 hw_14))), by rw [ht]; exact hP9, hD9⟩, hS.F ht⟩) hS.2.2 dX7_waits_54
      · refine lv_if_eq (tgt := 51) hx hb dX7_waits_38 (by decide) (fun _ => ?_) (fun h => absurd (by decide) h)
        refine lv_sipush (v := (-1002)) hx hb dX7_waits_51 (by decide) ?_
        obtain ⟨hP9, hD9⟩ := pd_sub [((a 0), .inr (7, (fX7 (a 1) (a 3) (a 19) (a 35) (a 40) (nI rk) lfa (a 53) (a 56) (a 63) (a 64) (a 68)))), ((a 3), .inl (k 3, 3, .inr (.inr (.inr (.inr (a3 (a 4) (a 9) (a 14))))))), ((a 19), .inl (k 4, 3, .inr (.inr (.inr (.inr (a3 (a 20) (a 25) (a 30))))))), ((a 4), .inr (5, (fX5 (a 5) (a 6) (a 7) (a 8)))), (aI k (a 5) 10 (vv n0 see0 tm0 g0)), (aI k (a 6) 24 ff0), (aI k (a 7) 24 fp0), (aI k (a 8) 4 fl0), ((a 9), .inr (5, (fX5 (a 10) (a 11) (a 12) (a 13)))), (aI k (a 10) 10 (vv n1 see1 tm1 g1)), (aI k (a 11) 24 ff1), (aI k (a 12) 24 fp1), (aI k (a 13) 4 fl1), ((a 14), .inr (5, (fX5 (a 15) (a 16) (a 17) (a 18)))), (aI k (a 15) 10 (vv n2 see2 tm2 g2)), (aI k (a 16) 24 ff2), (aI k (a 17) 24 fp2), (aI k (a 18) 4 fl2), ((a 20), .inr (0, (fX0 (a 4) (a 21) (a 22) (a 23) (a 24)))), (aI k (a 21) 768 on0), (aI k (a 22) 4 sr0), (aI k (a 23) 4 en0), ((a 25), .inr (0, (fX0 (a 9) (a 26) (a 27) (a 28) (a 29)))), (aI k (a 26) 768 on1), (aI k (a 27) 4 sr1), (aI k (a 28) 4 en1), ((a 30), .inr (0, (fX0 (a 14) (a 31) (a 32) (a 33) (a 34)))), (aI k (a 31) 768 on2), (aI k (a 32) 4 sr2), (aI k (a 33) 4 en2), ((a 64), .inr (2, (fX2 (a 65) (a 66) (a 67) wt wc)))] [0, 1, 2, 3, 4, 5, 6, 7, 8, 9, 10, 11, 12, 13, 14, 15, 16, 17, 18, 19, 20, 21, 22, 23, 24, 25, 26, 27, 28, 29, 30] hP hD (by decide +kernel) rfl
        exact W.iret (v := (-1002)) hx hb hr (fun t ht hW => ⟨⟨(-1002), (wt, wc), rfl, dq_at (s := 1) (by omega) (show n1 ≤ 24 by omega) (show id_2 < n1 by omega) (show siA (nI ir_2) (nI ig_2) (wtA p4 p5 p6) (sdX n1 see1 tm1 g1 ff1 fp1) id_2 _ from si_at (by rw [tmX (by omega)]; omega) (by rw [seX (by omega)]; omega) (by rw [tmX (by omega)]; omega) (by rw [seX (by omega)]; exact hig_2) (wq_o (fun h => absurd h.2.1 hw_13))), by rw [ht]; exact hP9, hD9⟩, hS.F ht⟩) hS.2.2 dX7_waits_54
    · refine lv_if_eq (tgt := 51) hx hb dX7_waits_27 (by decide) (fun _ => ?_) (fun h => absurd (by decide) h)
      refine lv_sipush (v := (-1002)) hx hb dX7_waits_51 (by decide) ?_
      obtain ⟨hP9, hD9⟩ := pd_sub [((a 0), .inr (7, (fX7 (a 1) (a 3) (a 19) (a 35) (a 40) (nI rk) lfa (a 53) (a 56) (a 63) (a 64) (a 68)))), ((a 3), .inl (k 3, 3, .inr (.inr (.inr (.inr (a3 (a 4) (a 9) (a 14))))))), ((a 19), .inl (k 4, 3, .inr (.inr (.inr (.inr (a3 (a 20) (a 25) (a 30))))))), ((a 4), .inr (5, (fX5 (a 5) (a 6) (a 7) (a 8)))), (aI k (a 5) 10 (vv n0 see0 tm0 g0)), (aI k (a 6) 24 ff0), (aI k (a 7) 24 fp0), (aI k (a 8) 4 fl0), ((a 9), .inr (5, (fX5 (a 10) (a 11) (a 12) (a 13)))), (aI k (a 10) 10 (vv n1 see1 tm1 g1)), (aI k (a 11) 24 ff1), (aI k (a 12) 24 fp1), (aI k (a 13) 4 fl1), ((a 14), .inr (5, (fX5 (a 15) (a 16) (a 17) (a 18)))), (aI k (a 15) 10 (vv n2 see2 tm2 g2)), (aI k (a 16) 24 ff2), (aI k (a 17) 24 fp2), (aI k (a 18) 4 fl2), ((a 20), .inr (0, (fX0 (a 4) (a 21) (a 22) (a 23) (a 24)))), (aI k (a 21) 768 on0), (aI k (a 22) 4 sr0), (aI k (a 23) 4 en0), ((a 25), .inr (0, (fX0 (a 9) (a 26) (a 27) (a 28) (a 29)))), (aI k (a 26) 768 on1), (aI k (a 27) 4 sr1), (aI k (a 28) 4 en1), ((a 30), .inr (0, (fX0 (a 14) (a 31) (a 32) (a 33) (a 34)))), (aI k (a 31) 768 on2), (aI k (a 32) 4 sr2), (aI k (a 33) 4 en2), ((a 64), .inr (2, (fX2 (a 65) (a 66) (a 67) wt wc)))] [0, 1, 2, 3, 4, 5, 6, 7, 8, 9, 10, 11, 12, 13, 14, 15, 16, 17, 18, 19, 20, 21, 22, 23, 24, 25, 26, 27, 28, 29, 30] hP hD (by decide +kernel) rfl
      exact W.iret (v := (-1002)) hx hb hr (fun t ht hW => ⟨⟨(-1002), (wt, wc), rfl, dq_at (s := 1) (by omega) (show n1 ≤ 24 by omega) (show id_2 < n1 by omega) (show siA (nI ir_2) (nI ig_2) (wtA p4 p5 p6) (sdX n1 see1 tm1 g1 ff1 fp1) id_2 _ from si_at (by rw [tmX (by omega)]; omega) (by rw [seX (by omega)]; omega) (by rw [tmX (by omega)]; omega) (by rw [seX (by omega)]; exact hig_2) (wq_o (fun h => absurd h.1 hw_12))), by rw [ht]; exact hP9, hD9⟩, hS.F ht⟩) hS.2.2 dX7_waits_54
  · refine lv_istore (lv' := [(8, .int 0), (0, .ref (a 0)), (1, .int 2), (2, .int (nI ir_2)), (3, .int (nI id_2)), (4, .int (nI ig_2)), (5, .int p4), (6, .int p5), (7, .int p6)]) hx hb dX7_waits_9 hl (by decide) rfl (fun ls hl => ?_)
    refine lv_iload hx hb dX7_waits_11 (lv_at hl 0 rfl) ?_
    refine lv_if_eq (tgt := 19) hx hb dX7_waits_13 (by decide) (fun _ => ?_) (fun h => absurd (by decide) h)
    refine lv_iload hx hb dX7_waits_19 (lv_at hl 6 rfl) ?_
    refine lv_iconst (v := 0) hx hb dX7_waits_21 (by decide) ?_
    refine lv_bipush (v := 100) hx hb dX7_waits_22 (by decide) ?_
    refine ro_i (D := D) (va_runS (As := [.int p4, .int 0, .int 100]) (rest := []) ⟨hx, hb, hml, hown, hts⟩ ((k_isIn l D k st lo p4 0 100) H.size) (va_cwS 3 hts (gS tw_593 tw_594 tw_79 tw_595) rfl rfl rfl (by decide +kernel) ⟨Nat.le_of_ble_eq_true rfl, Nat.le_of_ble_eq_true rfl⟩) (pS hS hAlo hlo hP hK (va_Dlo hD hAlo) hZ [] (by decide) rfl) rfl rfl hl.1 rfl (lv_room (Nat.le_of_ble_eq_true rfl)) dX7_waits_24 ⟨Nat.le_of_ble_eq_true rfl, Nat.le_of_ble_eq_true rfl⟩) hS hA hP (fun r_21 H locs hw_21 hP hS => ?_)
    try dsimp only at hw_21
    rcases hw_21 with ⟨rfl, hw_21⟩ | ⟨rfl, hw_21⟩
    · refine lv_if_eq (tgt := 51) hx hb dX7_waits_27 (by decide) (fun h => absurd h (by decide)) (fun _ => ?_)
      refine lv_iload hx hb dX7_waits_30 (lv_at hl 7 rfl) ?_
      refine lv_iconst (v := 0) hx hb dX7_waits_32 (by decide) ?_
      refine lv_bipush (v := 99) hx hb dX7_waits_33 (by decide) ?_
      refine ro_i (D := D) (va_runS (As := [.int p5, .int 0, .int 99]) (rest := []) ⟨hx, hb, hml, hown, hts⟩ ((k_isIn l D k st lo p5 0 99) H.size) (va_cwS 3 hts (gS tw_593 tw_594 tw_79 tw_595) rfl rfl rfl (by decide +kernel) ⟨Nat.le_of_ble_eq_true rfl, Nat.le_of_ble_eq_true rfl⟩) (pS hS hAlo hlo hP hK (va_Dlo hD hAlo) hZ [] (by decide) rfl) rfl rfl hl.1 rfl (lv_room (Nat.le_of_ble_eq_true rfl)) dX7_waits_35 ⟨Nat.le_of_ble_eq_true rfl, Nat.le_of_ble_eq_true rfl⟩) hS hA hP (fun r_22 H locs hw_22 hP hS => ?_)
      try dsimp only at hw_22
      rcases hw_22 with ⟨rfl, hw_22⟩ | ⟨rfl, hw_22⟩
      · refine lv_if_eq (tgt := 51) hx hb dX7_waits_38 (by decide) (fun h => absurd h (by decide)) (fun _ => ?_)
        refine lv_iload hx hb dX7_waits_41 (lv_at hl 8 rfl) ?_
        refine lv_iconst (v := 0) hx hb dX7_waits_43 (by decide) ?_
        refine lv_iconst (v := 1) hx hb dX7_waits_44 (by decide) ?_
        refine ro_i (D := D) (va_runS (As := [.int p6, .int 0, .int 1]) (rest := []) ⟨hx, hb, hml, hown, hts⟩ ((k_isIn l D k st lo p6 0 1) H.size) (va_cwS 3 hts (gS tw_593 tw_594 tw_79 tw_595) rfl rfl rfl (by decide +kernel) ⟨Nat.le_of_ble_eq_true rfl, Nat.le_of_ble_eq_true rfl⟩) (pS hS hAlo hlo hP hK (va_Dlo hD hAlo) hZ [] (by decide) rfl) rfl rfl hl.1 rfl (lv_room (Nat.le_of_ble_eq_true rfl)) dX7_waits_45 ⟨Nat.le_of_ble_eq_true rfl, Nat.le_of_ble_eq_true rfl⟩) hS hA hP (fun r_23 H locs hw_23 hP hS => ?_)
        try dsimp only at hw_23
        rcases hw_23 with ⟨rfl, hw_23⟩ | ⟨rfl, hw_23⟩
        · refine lv_if_ne (tgt := 55) hx hb dX7_waits_48 (by decide) (fun _ => ?_) (fun h => absurd h (by decide))
          have hg8_2 : ig_2 < 8 := by have h8 := (p8 (sq_le (see := see2) (n := n2) (i := id_2) (by omega))).2; omega
          refine lv_iload hx hb dX7_waits_55 (lv_at hl 5 rfl) ?_
          refine lv_iconst (v := 1) hx hb dX7_waits_57 (by decide) ?_
          refine lv_iand hx hb dX7_waits_58 ?_
          refine lv_topi (fun x_24 ex_24 => ?_)
          refine lv_if_eq (tgt := 66) hx hb dX7_waits_59 (by decide) (fun c_25 => ?_) (fun c_25 => ?_)
          · rw [ex_24] at c_25
            refine lv_aload_n hx hb dX7_waits_66 rfl (lv_at hl 1 rfl) ?_
            refine va_get (D := D) (ci := 7) (v := .ref (a 64)) (C := RX7) (T := TX7) (N := 12) hx hb hts inX7 hown hK hP 0 rfl rfl 10 (by decide) (hts _ tw_315) (fun _ h9 => h9) rfl dX7_waits_67 ?_
            refine lv_aload_n hx hb dX7_waits_70 rfl (lv_at hl 1 rfl) ?_
            refine va_get (D := D) (ci := 7) (v := .ref (a 19)) (C := RX7) (T := TX7) (N := 12) hx hb hts inX7 hown hK hP 0 rfl rfl 2 (by decide) (hts _ tw_307) (fun _ h9 => h9) rfl dX7_waits_71 ?_
            refine lv_iload_n hx hb dX7_waits_74 rfl (lv_at hl 2 rfl) ?_
            refine va_aldq hx hb hK hP 2 4 rfl rfl (by unfold vp_in; decide) dX7_waits_75 ?_
            refine lv_tr (y := .ref (a 30)) rfl ?_
            refine lv_iload_n hx hb dX7_waits_76 rfl (lv_at hl 3 rfl) ?_
            refine lv_iload_n hx hb dX7_waits_77 rfl (lv_at hl 4 rfl) ?_
            refine lv_iload hx hb dX7_waits_78 (lv_at hl 5 rfl) ?_
            refine ro_i (D := D) (va_runV (As := [.int (nI ir_2), .int (nI id_2), .int (nI ig_2)]) (rest := [.ref (a 64)]) ⟨hx, hb, hml, hown, hts⟩ ((y_onwardOf l D k st lo (a 14) (a 30) (a 31) (a 32) (a 33) (a 34) on2 ir_2 id_2 ig_2 (by first | assumption | omega) (by first | assumption | omega) (by first | assumption | omega)) H.size) (cwV 3 hts (gV tw_632 tw_550 tw_551 tw_85 tw_552) rfl rfl rfl (by decide +kernel) ⟨Nat.le_of_ble_eq_true rfl, Nat.le_of_ble_eq_true rfl⟩) (pV hS hAlo hlo hP hK (va_Dlo hD hAlo) hZ [26, 27] (by decide) rfl (ci := 0) (q := (RX0, TX0, 5)) (q0 := 0) rfl rfl) rfl rfl hl.1 rfl (lv_room (Nat.le_of_ble_eq_true rfl)) dX7_waits_80 ⟨Nat.le_of_ble_eq_true rfl, Nat.le_of_ble_eq_true rfl⟩) hS hA hP (fun r_26 H locs hw_26 hP hS => ?_)
            try dsimp only at hw_26
            refine lv_aload_n hx hb dX7_waits_83 rfl (lv_at hl 1 rfl) ?_
            refine va_get (D := D) (ci := 7) (v := .ref (a 3)) (C := RX7) (T := TX7) (N := 12) hx hb hts inX7 hown hK hP 0 rfl rfl 1 (by decide) (hts _ tw_306) (fun _ h9 => h9) rfl dX7_waits_84 ?_
            refine lv_iload_n hx hb dX7_waits_87 rfl (lv_at hl 2 rfl) ?_
            refine va_aldq hx hb hK hP 1 3 rfl rfl (by unfold vp_in; decide) dX7_waits_88 ?_
            refine lv_tr (y := .ref (a 14)) rfl ?_
            refine lv_iload_n hx hb dX7_waits_89 rfl (lv_at hl 3 rfl) ?_
            refine lv_iload_n hx hb dX7_waits_90 rfl (lv_at hl 4 rfl) ?_
            refine ro_i (D := D) (va_runV (As := [.int (nI ir_2), .int (nI id_2)]) (rest := [.int r_26, .ref (a 64)]) ⟨hx, hb, hml, hown, hts⟩ ((y_takingOf l D k st lo (a 14) (a 15) (a 16) (a 17) (a 18) n2 see2 tm2 g2 fp2 fl2 ir_2 id_2 (by first | assumption | omega) (by first | assumption | omega)) H.size) (cwV 2 hts (gV tw_617 tw_557 tw_558 tw_81 tw_559) rfl rfl rfl (by decide +kernel) ⟨Nat.le_of_ble_eq_true rfl, Nat.le_of_ble_eq_true rfl⟩) (pV hS hAlo hlo hP hK (va_Dlo hD hAlo) hZ [13, 14, 16, 17] (by decide) rfl (ci := 5) (q := (RX5, TX5, 4)) (q0 := 0) rfl rfl) rfl rfl hl.1 rfl (lv_room (Nat.le_of_ble_eq_true rfl)) dX7_waits_91 ⟨Nat.le_of_ble_eq_true rfl, Nat.le_of_ble_eq_true rfl⟩) hS hA hP (fun r_27 H locs hw_27 hP hS => ?_)
            try dsimp only at hw_27
            refine lv_iload hx hb dX7_waits_94 (lv_at hl 6 rfl) ?_
            refine lv_iload hx hb dX7_waits_96 (lv_at hl 7 rfl) ?_
            refine rw_v (D := D) (wr := [((a 0), .inr (7, (fX7 (a 1) (a 3) (a 19) (a 35) (a 40) (nI rk) lfa (a 53) (a 56) (a 63) (a 64) (a 68)))), ((a 3), .inl (k 3, 3, .inr (.inr (.inr (.inr (a3 (a 4) (a 9) (a 14))))))), ((a 19), .inl (k 4, 3, .inr (.inr (.inr (.inr (a3 (a 20) (a 25) (a 30))))))), ((a 4), .inr (5, (fX5 (a 5) (a 6) (a 7) (a 8)))), (aI k (a 5) 10 (vv n0 see0 tm0 g0)), (aI k (a 6) 24 ff0), (aI k (a 7) 24 fp0), (aI k (a 8) 4 fl0), ((a 9), .inr (5, (fX5 (a 10) (a 11) (a 12) (a 13)))), (aI k (a 10) 10 (vv n1 see1 tm1 g1)), (aI k (a 11) 24 ff1), (aI k (a 12) 24 fp1), (aI k (a 13) 4 fl1), ((a 14), .inr (5, (fX5 (a 15) (a 16) (a 17) (a 18)))), (aI k (a 15) 10 (vv n2 see2 tm2 g2)), (aI k (a 16) 24 ff2), (aI k (a 17) 24 fp2), (aI k (a 18) 4 fl2), ((a 20), .inr (0, (fX0 (a 4) (a 21) (a 22) (a 23) (a 24)))), (aI k (a 21) 768 on0), (aI k (a 22) 4 sr0), (aI k (a 23) 4 en0), ((a 25), .inr (0, (fX0 (a 9) (a 26) (a 27) (a 28) (a 29)))), (aI k (a 26) 768 on1), (aI k (a 27) 4 sr1), (aI k (a 28) 4 en1), ((a 30), .inr (0, (fX0 (a 14) (a 31) (a 32) (a 33) (a 34)))), (aI k (a 31) 768 on2), (aI k (a 32) 4 sr2), (aI k (a 33) 4 en2)]) (va_runV (As := [.int r_26, .int r_27, .int p4, .int p5]) (rest := []) ⟨hx, hb, hml, hown, hts⟩ ((y_reckonWait l D k st lo (a 64) (a 65) (a 66) (a 67) wt wc r_26 r_27 p4 p5 hw_21) H.size) (cwV 4 hts (gV tw_784 tw_785 tw_786 tw_83 tw_787) rfl rfl rfl (by decide +kernel) ⟨Nat.le_of_ble_eq_true rfl, Nat.le_of_ble_eq_true rfl⟩) (pV hS hAlo hlo hP hK (va_Dlo hD hAlo) hZ [30] (by decide) rfl (ci := 2) (q := (RX2, TX2, 5)) (q0 := 0) rfl rfl) rfl rfl hl.1 rfl (lv_room (Nat.le_of_ble_eq_true rfl)) dX7_waits_98 ⟨Nat.le_of_ble_eq_true rfl, Nat.le_of_ble_eq_true rfl⟩) hS hA hP hD [30] [0, 1, 2, 3, 4, 5, 6, 7, 8, 9, 10, 11, 12, 13, 14, 15, 16, 17, 18, 19, 20, 21, 22, 23, 24, 25, 26, 27, 28, 29] rfl rfl (by decide +kernel) (by decide +kernel) (fun u H locs hw_28 hP hD hS => ?_)
            obtain ⟨wt__28, wc__28⟩ := u
            have hQ9 := pd_mk [((a 0), .inr (7, (fX7 (a 1) (a 3) (a 19) (a 35) (a 40) (nI rk) lfa (a 53) (a 56) (a 63) (a 64) (a 68)))), ((a 3), .inl (k 3, 3, .inr (.inr (.inr (.inr (a3 (a 4) (a 9) (a 14))))))), ((a 19), .inl (k 4, 3, .inr (.inr (.inr (.inr (a3 (a 20) (a 25) (a 30))))))), ((a 4), .inr (5, (fX5 (a 5) (a 6) (a 7) (a 8)))), (aI k (a 5) 10 (vv n0 see0 tm0 g0)), (aI k (a 6) 24 ff0), (aI k (a 7) 24 fp0), (aI k (a 8) 4 fl0), ((a 9), .inr (5, (fX5 (a 10) (a 11) (a 12) (a 13)))), (aI k (a 10) 10 (vv n1 see1 tm1 g1)), (aI k (a 11) 24 ff1), (aI k (a 12) 24 fp1), (aI k (a 13) 4 fl1), ((a 14), .inr (5, (fX5 (a 15) (a 16) (a 17) (a 18)))), (aI k (a 15) 10 (vv n2 see2 tm2 g2)), (aI k (a 16) 24 ff2), (aI k (a 17) 24 fp2), (aI k (a 18) 4 fl2), ((a 20), .inr (0, (fX0 (a 4) (a 21) (a 22) (a 23) (a 24)))), (aI k (a 21) 768 on0), (aI k (a 22) 4 sr0), (aI k (a 23) 4 en0), ((a 25), .inr (0, (fX0 (a 9) (a 26) (a 27) (a 28) (a 29)))), (aI k (a 26) 768 on1), (aI k (a 27) 4 sr1), (aI k (a 28) 4 en1), ((a 30), .inr (0, (fX0 (a 14) (a 31) (a 32) (a 33) (a 34)))), (aI k (a 31) 768 on2), (aI k (a 32) 4 sr2), (aI k (a 33) 4 en2), ((a 64), .inr (2, (fX2 (a 65) (a 66) (a 67) wt__28 wc__28)))] hP hD
            clear hP hD
            obtain ⟨hP, hD⟩ := hQ9
            try dsimp only at hw_28
            refine lv_iload hx hb dX7_waits_101 (lv_at hl 8 rfl) ?_
            refine lv_if_ne (tgt := 116) hx hb dX7_waits_103 (by decide) (fun c_29 => ?_) (fun c_29 => ?_)
            · refine lv_aload_n hx hb dX7_waits_116 rfl (lv_at hl 1 rfl) ?_
              refine va_get (D := D) (ci := 7) (v := .ref (a 64)) (C := RX7) (T := TX7) (N := 12) hx hb hts inX7 hown hK hP 0 rfl rfl 10 (by decide) (hts _ tw_315) (fun _ h9 => h9) rfl dX7_waits_117 ?_
              refine va_get (D := D) (ci := 2) (v := .int wc__28) (C := RX2) (T := TX2) (N := 5) hx hb hts inX2 hown hK hP 30 rfl rfl 4 (by decide) (hts _ tw_216) (fun _ h9 => h9) rfl dX7_waits_120 ?_
              obtain ⟨hP9, hD9⟩ := pd_sub [((a 0), .inr (7, (fX7 (a 1) (a 3) (a 19) (a 35) (a 40) (nI rk) lfa (a 53) (a 56) (a 63) (a 64) (a 68)))), ((a 3), .inl (k 3, 3, .inr (.inr (.inr (.inr (a3 (a 4) (a 9) (a 14))))))), ((a 19), .inl (k 4, 3, .inr (.inr (.inr (.inr (a3 (a 20) (a 25) (a 30))))))), ((a 4), .inr (5, (fX5 (a 5) (a 6) (a 7) (a 8)))), (aI k (a 5) 10 (vv n0 see0 tm0 g0)), (aI k (a 6) 24 ff0), (aI k (a 7) 24 fp0), (aI k (a 8) 4 fl0), ((a 9), .inr (5, (fX5 (a 10) (a 11) (a 12) (a 13)))), (aI k (a 10) 10 (vv n1 see1 tm1 g1)), (aI k (a 11) 24 ff1), (aI k (a 12) 24 fp1), (aI k (a 13) 4 fl1), ((a 14), .inr (5, (fX5 (a 15) (a 16) (a 17) (a 18)))), (aI k (a 15) 10 (vv n2 see2 tm2 g2)), (aI k (a 16) 24 ff2), (aI k (a 17) 24 fp2), (aI k (a 18) 4 fl2), ((a 20), .inr (0, (fX0 (a 4) (a 21) (a 22) (a 23) (a 24)))), (aI k (a 21) 768 on0), (aI k (a 22) 4 sr0), (aI k (a 23) 4 en0), ((a 25), .inr (0, (fX0 (a 9) (a 26) (a 27) (a 28) (a 29)))), (aI k (a 26) 768 on1), (aI k (a 27) 4 sr1), (aI k (a 28) 4 en1), ((a 30), .inr (0, (fX0 (a 14) (a 31) (a 32) (a 33) (a 34)))), (aI k (a 31) 768 on2), (aI k (a 32) 4 sr2), (aI k (a 33) 4 en2), ((a 64), .inr (2, (fX2 (a 65) (a 66) (a 67) wt__28 wc__28)))] [0, 1, 2, 3, 4, 5, 6, 7, 8, 9, 10, 11, 12, 13, 14, 15, 16, 17, 18, 19, 20, 21, 22, 23, 24, 25, 26, 27, 28, 29, 30] hP hD (by decide +kernel) rfl
              exact W.iret (v := wc__28) hx hb hr (fun t ht hW => ⟨⟨wc__28, (wt__28, wc__28), rfl, dq_at (s := 2) (by omega) (show n2 ≤ 24 by omega) (show id_2 < n2 by omega) (show siA (nI ir_2) (nI ig_2) (wtA p4 p5 p6) (sdX n2 see2 tm2 g2 ff2 fp2) id_2 _ from si_at (by rw [tmX (by omega)]; omega) (by rw [seX (by omega)]; omega) (by rw [tmX (by omega)]; omega) (by rw [seX (by omega)]; exact hig_2) (wq_1 ⟨hw_21, hw_22, hw_23⟩ (((ev_and ig_2 hg8_2).1).mp c_25) (is01 hw_23 c_29) (by rw [hw_28.2, hw_26, hw_27, (show on2 (slN ir_2 id_2 ig_2) = wayO (sdX n2 see2 tm2 g2 ff2 fp2) ir_2 id_2 ig_2 from (wo_of (d := (sdX n2 see2 tm2 g2 ff2 fp2)) (hwy 2 (by omega) (show 0 < n2 by omega)) (by rw [tmX (by omega)]; omega) (show id_2 < n2 by omega) (by rw [seX (by omega)]; exact hig_2))), xTake (see := see2) (tm := tm2) (ff := ff2) (fl := fl2) (show id_2 < n2 by omega) (hlt 2 (by omega) ir_2 (by omega))]))), by rw [ht]; exact hP9, hD9⟩, hS.F ht⟩) hS.2.2 dX7_waits_123
            · refine lv_aload_n hx hb dX7_waits_106 rfl (lv_at hl 1 rfl) ?_
              refine va_get (D := D) (ci := 7) (v := .ref (a 64)) (C := RX7) (T := TX7) (N := 12) hx hb hts inX7 hown hK hP 0 rfl rfl 10 (by decide) (hts _ tw_315) (fun _ h9 => h9) rfl dX7_waits_107 ?_
              refine va_get (D := D) (ci := 2) (v := .int wt__28) (C := RX2) (T := TX2) (N := 5) hx hb hts inX2 hown hK hP 30 rfl rfl 3 (by decide) (hts _ tw_214) (fun _ h9 => h9) rfl dX7_waits_110 ?_
              refine lv_goto (tgt := 123) hx hb dX7_waits_113 (by decide) ?_
              obtain ⟨hP9, hD9⟩ := pd_sub [((a 0), .inr (7, (fX7 (a 1) (a 3) (a 19) (a 35) (a 40) (nI rk) lfa (a 53) (a 56) (a 63) (a 64) (a 68)))), ((a 3), .inl (k 3, 3, .inr (.inr (.inr (.inr (a3 (a 4) (a 9) (a 14))))))), ((a 19), .inl (k 4, 3, .inr (.inr (.inr (.inr (a3 (a 20) (a 25) (a 30))))))), ((a 4), .inr (5, (fX5 (a 5) (a 6) (a 7) (a 8)))), (aI k (a 5) 10 (vv n0 see0 tm0 g0)), (aI k (a 6) 24 ff0), (aI k (a 7) 24 fp0), (aI k (a 8) 4 fl0), ((a 9), .inr (5, (fX5 (a 10) (a 11) (a 12) (a 13)))), (aI k (a 10) 10 (vv n1 see1 tm1 g1)), (aI k (a 11) 24 ff1), (aI k (a 12) 24 fp1), (aI k (a 13) 4 fl1), ((a 14), .inr (5, (fX5 (a 15) (a 16) (a 17) (a 18)))), (aI k (a 15) 10 (vv n2 see2 tm2 g2)), (aI k (a 16) 24 ff2), (aI k (a 17) 24 fp2), (aI k (a 18) 4 fl2), ((a 20), .inr (0, (fX0 (a 4) (a 21) (a 22) (a 23) (a 24)))), (aI k (a 21) 768 on0), (aI k (a 22) 4 sr0), (aI k (a 23) 4 en0), ((a 25), .inr (0, (fX0 (a 9) (a 26) (a 27) (a 28) (a 29)))), (aI k (a 26) 768 on1), (aI k (a 27) 4 sr1), (aI k (a 28) 4 en1), ((a 30), .inr (0, (fX0 (a 14) (a 31) (a 32) (a 33) (a 34)))), (aI k (a 31) 768 on2), (aI k (a 32) 4 sr2), (aI k (a 33) 4 en2), ((a 64), .inr (2, (fX2 (a 65) (a 66) (a 67) wt__28 wc__28)))] [0, 1, 2, 3, 4, 5, 6, 7, 8, 9, 10, 11, 12, 13, 14, 15, 16, 17, 18, 19, 20, 21, 22, 23, 24, 25, 26, 27, 28, 29, 30] hP hD (by decide +kernel) rfl
              exact W.iret (v := wt__28) hx hb hr (fun t ht hW => ⟨⟨wt__28, (wt__28, wc__28), rfl, dq_at (s := 2) (by omega) (show n2 ≤ 24 by omega) (show id_2 < n2 by omega) (show siA (nI ir_2) (nI ig_2) (wtA p4 p5 p6) (sdX n2 see2 tm2 g2 ff2 fp2) id_2 _ from si_at (by rw [tmX (by omega)]; omega) (by rw [seX (by omega)]; omega) (by rw [tmX (by omega)]; omega) (by rw [seX (by omega)]; exact hig_2) (wq_0 ⟨hw_21, hw_22, hw_23⟩ (((ev_and ig_2 hg8_2).1).mp c_25) c_29 (by rw [hw_28.1, hw_26, hw_27, (show on2 (slN ir_2 id_2 ig_2) = wayO (sdX n2 see2 tm2 g2 ff2 fp2) ir_2 id_2 ig_2 from (wo_of (d := (sdX n2 see2 tm2 g2 ff2 fp2)) (hwy 2 (by omega) (show 0 < n2 by omega)) (by rw [tmX (by omega)]; omega) (show id_2 < n2 by omega) (by rw [seX (by omega)]; exact hig_2))), xTake (see := see2) (tm := tm2) (ff := ff2) (fl := fl2) (show id_2 < n2 by omega) (hlt 2 (by omega) ir_2 (by omega))]))), by rw [ht]; exact hP9, hD9⟩, hS.F ht⟩) hS.2.2 dX7_waits_123
          · rw [ex_24] at c_25
            refine lv_sipush (v := (-1003)) hx hb dX7_waits_62 (by decide) ?_
            obtain ⟨hP9, hD9⟩ := pd_sub [((a 0), .inr (7, (fX7 (a 1) (a 3) (a 19) (a 35) (a 40) (nI rk) lfa (a 53) (a 56) (a 63) (a 64) (a 68)))), ((a 3), .inl (k 3, 3, .inr (.inr (.inr (.inr (a3 (a 4) (a 9) (a 14))))))), ((a 19), .inl (k 4, 3, .inr (.inr (.inr (.inr (a3 (a 20) (a 25) (a 30))))))), ((a 4), .inr (5, (fX5 (a 5) (a 6) (a 7) (a 8)))), (aI k (a 5) 10 (vv n0 see0 tm0 g0)), (aI k (a 6) 24 ff0), (aI k (a 7) 24 fp0), (aI k (a 8) 4 fl0), ((a 9), .inr (5, (fX5 (a 10) (a 11) (a 12) (a 13)))), (aI k (a 10) 10 (vv n1 see1 tm1 g1)), (aI k (a 11) 24 ff1), (aI k (a 12) 24 fp1), (aI k (a 13) 4 fl1), ((a 14), .inr (5, (fX5 (a 15) (a 16) (a 17) (a 18)))), (aI k (a 15) 10 (vv n2 see2 tm2 g2)), (aI k (a 16) 24 ff2), (aI k (a 17) 24 fp2), (aI k (a 18) 4 fl2), ((a 20), .inr (0, (fX0 (a 4) (a 21) (a 22) (a 23) (a 24)))), (aI k (a 21) 768 on0), (aI k (a 22) 4 sr0), (aI k (a 23) 4 en0), ((a 25), .inr (0, (fX0 (a 9) (a 26) (a 27) (a 28) (a 29)))), (aI k (a 26) 768 on1), (aI k (a 27) 4 sr1), (aI k (a 28) 4 en1), ((a 30), .inr (0, (fX0 (a 14) (a 31) (a 32) (a 33) (a 34)))), (aI k (a 31) 768 on2), (aI k (a 32) 4 sr2), (aI k (a 33) 4 en2), ((a 64), .inr (2, (fX2 (a 65) (a 66) (a 67) wt wc)))] [0, 1, 2, 3, 4, 5, 6, 7, 8, 9, 10, 11, 12, 13, 14, 15, 16, 17, 18, 19, 20, 21, 22, 23, 24, 25, 26, 27, 28, 29, 30] hP hD (by decide +kernel) rfl
            exact W.iret (v := (-1003)) hx hb hr (fun t ht hW => ⟨⟨(-1003), (wt, wc), rfl, dq_at (s := 2) (by omega) (show n2 ≤ 24 by omega) (show id_2 < n2 by omega) (show siA (nI ir_2) (nI ig_2) (wtA p4 p5 p6) (sdX n2 see2 tm2 g2 ff2 fp2) id_2 _ from si_at (by rw [tmX (by omega)]; omega) (by rw [seX (by omega)]; omega) (by rw [tmX (by omega)]; omega) (by rw [seX (by omega)]; exact hig_2) (wq_n ⟨hw_21, hw_22, hw_23⟩ (Classical.not_not.mp (fun z => c_25 (((ev_and ig_2 hg8_2).1).mpr z))))), by rw [ht]; exact hP9, hD9⟩, hS.F ht⟩) hS.2.2 dX7_waits_65
        · refine lv_if_ne (tgt := 55) hx hb dX7_waits_48 (by decide) (fun h => absurd (by decide) h) (fun _ => ?_)
          refine lv_sipush (v := (-1002)) hx hb dX7_waits_51 (by decide) ?_
          obtain ⟨hP9, hD9⟩ := pd_sub [((a 0), .inr (7, (fX7 (a 1) (a 3) (a 19) (a 35) (a 40) (nI rk) lfa (a 53) (a 56) (a 63) (a 64) (a 68)))), ((a 3), .inl (k 3, 3, .inr (.inr (.inr (.inr (a3 (a 4) (a 9) (a 14))))))), ((a 19), .inl (k 4, 3, .inr (.inr (.inr (.inr (a3 (a 20) (a 25) (a 30))))))), ((a 4), .inr (5, (fX5 (a 5) (a 6) (a 7) (a 8)))), (aI k (a 5) 10 (vv n0 see0 tm0 g0)), (aI k (a 6) 24 ff0), (aI k (a 7) 24 fp0), (aI k (a 8) 4 fl0), ((a 9), .inr (5, (fX5 (a 10) (a 11) (a 12) (a 13)))), (aI k (a 10) 10 (vv n1 see1 tm1 g1)), (aI k (a 11) 24 ff1), (aI k (a 12) 24 fp1), (aI k (a 13) 4 fl1), ((a 14), .inr (5, (fX5 (a 15) (a 16) (a 17) (a 18)))), (aI k (a 15) 10 (vv n2 see2 tm2 g2)), (aI k (a 16) 24 ff2), (aI k (a 17) 24 fp2), (aI k (a 18) 4 fl2), ((a 20), .inr (0, (fX0 (a 4) (a 21) (a 22) (a 23) (a 24)))), (aI k (a 21) 768 on0), (aI k (a 22) 4 sr0), (aI k (a 23) 4 en0), ((a 25), .inr (0, (fX0 (a 9) (a 26) (a 27) (a 28) (a 29)))), (aI k (a 26) 768 on1), (aI k (a 27) 4 sr1), (aI k (a 28) 4 en1), ((a 30), .inr (0, (fX0 (a 14) (a 31) (a 32) (a 33) (a 34)))), (aI k (a 31) 768 on2), (aI k (a 32) 4 sr2), (aI k (a 33) 4 en2), ((a 64), .inr (2, (fX2 (a 65) (a 66) (a 67) wt wc)))] [0, 1, 2, 3, 4, 5, 6, 7, 8, 9, 10, 11, 12, 13, 14, 15, 16, 17, 18, 19, 20, 21, 22, 23, 24, 25, 26, 27, 28, 29, 30] hP hD (by decide +kernel) rfl
          exact W.iret (v := (-1002)) hx hb hr (fun t ht hW => ⟨⟨(-1002), (wt, wc), rfl, dq_at (s := 2) (by omega) (show n2 ≤ 24 by omega) (show id_2 < n2 by omega) (show siA (nI ir_2) (nI ig_2) (wtA p4 p5 p6) (sdX n2 see2 tm2 g2 ff2 fp2) id_2 _ from si_at (by rw [tmX (by omega)]; omega) (by rw [seX (by omega)]; omega) (by rw [tmX (by omega)]; omega) (by rw [seX (by omega)]; exact hig_2) (wq_o (fun h => absurd h.2.2 hw_23))), by rw [ht]; exact hP9, hD9⟩, hS.F ht⟩) hS.2.2 dX7_waits_54
      · refine lv_if_eq (tgt := 51) hx hb dX7_waits_38 (by decide) (fun _ => ?_) (fun h => absurd (by decide) h)
        refine lv_sipush (v := (-1002)) hx hb dX7_waits_51 (by decide) ?_
        obtain ⟨hP9, hD9⟩ := pd_sub [((a 0), .inr (7, (fX7 (a 1) (a 3) (a 19) (a 35) (a 40) (nI rk) lfa (a 53) (a 56) (a 63) (a 64) (a 68)))), ((a 3), .inl (k 3, 3, .inr (.inr (.inr (.inr (a3 (a 4) (a 9) (a 14))))))), ((a 19), .inl (k 4, 3, .inr (.inr (.inr (.inr (a3 (a 20) (a 25) (a 30))))))), ((a 4), .inr (5, (fX5 (a 5) (a 6) (a 7) (a 8)))), (aI k (a 5) 10 (vv n0 see0 tm0 g0)), (aI k (a 6) 24 ff0), (aI k (a 7) 24 fp0), (aI k (a 8) 4 fl0), ((a 9), .inr (5, (fX5 (a 10) (a 11) (a 12) (a 13)))), (aI k (a 10) 10 (vv n1 see1 tm1 g1)), (aI k (a 11) 24 ff1), (aI k (a 12) 24 fp1), (aI k (a 13) 4 fl1), ((a 14), .inr (5, (fX5 (a 15) (a 16) (a 17) (a 18)))), (aI k (a 15) 10 (vv n2 see2 tm2 g2)), (aI k (a 16) 24 ff2), (aI k (a 17) 24 fp2), (aI k (a 18) 4 fl2), ((a 20), .inr (0, (fX0 (a 4) (a 21) (a 22) (a 23) (a 24)))), (aI k (a 21) 768 on0), (aI k (a 22) 4 sr0), (aI k (a 23) 4 en0), ((a 25), .inr (0, (fX0 (a 9) (a 26) (a 27) (a 28) (a 29)))), (aI k (a 26) 768 on1), (aI k (a 27) 4 sr1), (aI k (a 28) 4 en1), ((a 30), .inr (0, (fX0 (a 14) (a 31) (a 32) (a 33) (a 34)))), (aI k (a 31) 768 on2), (aI k (a 32) 4 sr2), (aI k (a 33) 4 en2), ((a 64), .inr (2, (fX2 (a 65) (a 66) (a 67) wt wc)))] [0, 1, 2, 3, 4, 5, 6, 7, 8, 9, 10, 11, 12, 13, 14, 15, 16, 17, 18, 19, 20, 21, 22, 23, 24, 25, 26, 27, 28, 29, 30] hP hD (by decide +kernel) rfl
        exact W.iret (v := (-1002)) hx hb hr (fun t ht hW => ⟨⟨(-1002), (wt, wc), rfl, dq_at (s := 2) (by omega) (show n2 ≤ 24 by omega) (show id_2 < n2 by omega) (show siA (nI ir_2) (nI ig_2) (wtA p4 p5 p6) (sdX n2 see2 tm2 g2 ff2 fp2) id_2 _ from si_at (by rw [tmX (by omega)]; omega) (by rw [seX (by omega)]; omega) (by rw [tmX (by omega)]; omega) (by rw [seX (by omega)]; exact hig_2) (wq_o (fun h => absurd h.2.1 hw_22))), by rw [ht]; exact hP9, hD9⟩, hS.F ht⟩) hS.2.2 dX7_waits_54
    · refine lv_if_eq (tgt := 51) hx hb dX7_waits_27 (by decide) (fun _ => ?_) (fun h => absurd (by decide) h)
      refine lv_sipush (v := (-1002)) hx hb dX7_waits_51 (by decide) ?_
      obtain ⟨hP9, hD9⟩ := pd_sub [((a 0), .inr (7, (fX7 (a 1) (a 3) (a 19) (a 35) (a 40) (nI rk) lfa (a 53) (a 56) (a 63) (a 64) (a 68)))), ((a 3), .inl (k 3, 3, .inr (.inr (.inr (.inr (a3 (a 4) (a 9) (a 14))))))), ((a 19), .inl (k 4, 3, .inr (.inr (.inr (.inr (a3 (a 20) (a 25) (a 30))))))), ((a 4), .inr (5, (fX5 (a 5) (a 6) (a 7) (a 8)))), (aI k (a 5) 10 (vv n0 see0 tm0 g0)), (aI k (a 6) 24 ff0), (aI k (a 7) 24 fp0), (aI k (a 8) 4 fl0), ((a 9), .inr (5, (fX5 (a 10) (a 11) (a 12) (a 13)))), (aI k (a 10) 10 (vv n1 see1 tm1 g1)), (aI k (a 11) 24 ff1), (aI k (a 12) 24 fp1), (aI k (a 13) 4 fl1), ((a 14), .inr (5, (fX5 (a 15) (a 16) (a 17) (a 18)))), (aI k (a 15) 10 (vv n2 see2 tm2 g2)), (aI k (a 16) 24 ff2), (aI k (a 17) 24 fp2), (aI k (a 18) 4 fl2), ((a 20), .inr (0, (fX0 (a 4) (a 21) (a 22) (a 23) (a 24)))), (aI k (a 21) 768 on0), (aI k (a 22) 4 sr0), (aI k (a 23) 4 en0), ((a 25), .inr (0, (fX0 (a 9) (a 26) (a 27) (a 28) (a 29)))), (aI k (a 26) 768 on1), (aI k (a 27) 4 sr1), (aI k (a 28) 4 en1), ((a 30), .inr (0, (fX0 (a 14) (a 31) (a 32) (a 33) (a 34)))), (aI k (a 31) 768 on2), (aI k (a 32) 4 sr2), (aI k (a 33) 4 en2), ((a 64), .inr (2, (fX2 (a 65) (a 66) (a 67) wt wc)))] [0, 1, 2, 3, 4, 5, 6, 7, 8, 9, 10, 11, 12, 13, 14, 15, 16, 17, 18, 19, 20, 21, 22, 23, 24, 25, 26, 27, 28, 29, 30] hP hD (by decide +kernel) rfl
      exact W.iret (v := (-1002)) hx hb hr (fun t ht hW => ⟨⟨(-1002), (wt, wc), rfl, dq_at (s := 2) (by omega) (show n2 ≤ 24 by omega) (show id_2 < n2 by omega) (show siA (nI ir_2) (nI ig_2) (wtA p4 p5 p6) (sdX n2 see2 tm2 g2 ff2 fp2) id_2 _ from si_at (by rw [tmX (by omega)]; omega) (by rw [seX (by omega)]; omega) (by rw [tmX (by omega)]; omega) (by rw [seX (by omega)]; exact hig_2) (wq_o (fun h => absurd h.1 hw_21))), by rw [ht]; exact hP9, hD9⟩, hS.F ht⟩) hS.2.2 dX7_waits_54
  · refine lv_istore (lv' := [(8, .int (-1001)), (0, .ref (a 0)), (1, .int p0), (2, .int p1), (3, .int p2), (4, .int p3), (5, .int p4), (6, .int p5), (7, .int p6)]) hx hb dX7_waits_9 hl (by decide) rfl (fun ls hl => ?_)
    refine lv_iload hx hb dX7_waits_11 (lv_at hl 0 rfl) ?_
    refine lv_if_eq (tgt := 19) hx hb dX7_waits_13 (by decide) (fun h => absurd h (by decide)) (fun _ => ?_)
    refine lv_iload hx hb dX7_waits_16 (lv_at hl 0 rfl) ?_
    obtain ⟨hP9, hD9⟩ := pd_sub [((a 0), .inr (7, (fX7 (a 1) (a 3) (a 19) (a 35) (a 40) (nI rk) lfa (a 53) (a 56) (a 63) (a 64) (a 68)))), ((a 3), .inl (k 3, 3, .inr (.inr (.inr (.inr (a3 (a 4) (a 9) (a 14))))))), ((a 19), .inl (k 4, 3, .inr (.inr (.inr (.inr (a3 (a 20) (a 25) (a 30))))))), ((a 4), .inr (5, (fX5 (a 5) (a 6) (a 7) (a 8)))), (aI k (a 5) 10 (vv n0 see0 tm0 g0)), (aI k (a 6) 24 ff0), (aI k (a 7) 24 fp0), (aI k (a 8) 4 fl0), ((a 9), .inr (5, (fX5 (a 10) (a 11) (a 12) (a 13)))), (aI k (a 10) 10 (vv n1 see1 tm1 g1)), (aI k (a 11) 24 ff1), (aI k (a 12) 24 fp1), (aI k (a 13) 4 fl1), ((a 14), .inr (5, (fX5 (a 15) (a 16) (a 17) (a 18)))), (aI k (a 15) 10 (vv n2 see2 tm2 g2)), (aI k (a 16) 24 ff2), (aI k (a 17) 24 fp2), (aI k (a 18) 4 fl2), ((a 20), .inr (0, (fX0 (a 4) (a 21) (a 22) (a 23) (a 24)))), (aI k (a 21) 768 on0), (aI k (a 22) 4 sr0), (aI k (a 23) 4 en0), ((a 25), .inr (0, (fX0 (a 9) (a 26) (a 27) (a 28) (a 29)))), (aI k (a 26) 768 on1), (aI k (a 27) 4 sr1), (aI k (a 28) 4 en1), ((a 30), .inr (0, (fX0 (a 14) (a 31) (a 32) (a 33) (a 34)))), (aI k (a 31) 768 on2), (aI k (a 32) 4 sr2), (aI k (a 33) 4 en2), ((a 64), .inr (2, (fX2 (a 65) (a 66) (a 67) wt wc)))] [0, 1, 2, 3, 4, 5, 6, 7, 8, 9, 10, 11, 12, 13, 14, 15, 16, 17, 18, 19, 20, 21, 22, 23, 24, 25, 26, 27, 28, 29, 30] hP hD (by decide +kernel) rfl
    exact W.iret (v := (-1001)) hx hb hr (fun t ht hW => ⟨⟨(-1001), (wt, wc), rfl, dq_no (fun s h1 h2 i h3 h4 => hw_1 s h1 h2 i h3 (by rw [d3_n] at h4; exact h4)), by rw [ht]; exact hP9, hD9⟩, hS.F ht⟩) hS.2.2 dX7_waits_18
  · refine lv_istore (lv' := [(8, .int (-1002)), (0, .ref (a 0)), (1, .int 0), (2, .int p1), (3, .int (nI id_2)), (4, .int p3), (5, .int p4), (6, .int p5), (7, .int p6)]) hx hb dX7_waits_9 hl (by decide) rfl (fun ls hl => ?_)
    refine lv_iload hx hb dX7_waits_11 (lv_at hl 0 rfl) ?_
    refine lv_if_eq (tgt := 19) hx hb dX7_waits_13 (by decide) (fun h => absurd h (by decide)) (fun _ => ?_)
    refine lv_iload hx hb dX7_waits_16 (lv_at hl 0 rfl) ?_
    obtain ⟨hP9, hD9⟩ := pd_sub [((a 0), .inr (7, (fX7 (a 1) (a 3) (a 19) (a 35) (a 40) (nI rk) lfa (a 53) (a 56) (a 63) (a 64) (a 68)))), ((a 3), .inl (k 3, 3, .inr (.inr (.inr (.inr (a3 (a 4) (a 9) (a 14))))))), ((a 19), .inl (k 4, 3, .inr (.inr (.inr (.inr (a3 (a 20) (a 25) (a 30))))))), ((a 4), .inr (5, (fX5 (a 5) (a 6) (a 7) (a 8)))), (aI k (a 5) 10 (vv n0 see0 tm0 g0)), (aI k (a 6) 24 ff0), (aI k (a 7) 24 fp0), (aI k (a 8) 4 fl0), ((a 9), .inr (5, (fX5 (a 10) (a 11) (a 12) (a 13)))), (aI k (a 10) 10 (vv n1 see1 tm1 g1)), (aI k (a 11) 24 ff1), (aI k (a 12) 24 fp1), (aI k (a 13) 4 fl1), ((a 14), .inr (5, (fX5 (a 15) (a 16) (a 17) (a 18)))), (aI k (a 15) 10 (vv n2 see2 tm2 g2)), (aI k (a 16) 24 ff2), (aI k (a 17) 24 fp2), (aI k (a 18) 4 fl2), ((a 20), .inr (0, (fX0 (a 4) (a 21) (a 22) (a 23) (a 24)))), (aI k (a 21) 768 on0), (aI k (a 22) 4 sr0), (aI k (a 23) 4 en0), ((a 25), .inr (0, (fX0 (a 9) (a 26) (a 27) (a 28) (a 29)))), (aI k (a 26) 768 on1), (aI k (a 27) 4 sr1), (aI k (a 28) 4 en1), ((a 30), .inr (0, (fX0 (a 14) (a 31) (a 32) (a 33) (a 34)))), (aI k (a 31) 768 on2), (aI k (a 32) 4 sr2), (aI k (a 33) 4 en2), ((a 64), .inr (2, (fX2 (a 65) (a 66) (a 67) wt wc)))] [0, 1, 2, 3, 4, 5, 6, 7, 8, 9, 10, 11, 12, 13, 14, 15, 16, 17, 18, 19, 20, 21, 22, 23, 24, 25, 26, 27, 28, 29, 30] hP hD (by decide +kernel) rfl
    exact W.iret (v := (-1002)) hx hb hr (fun t ht hW => ⟨⟨(-1002), (wt, wc), rfl, dq_at (s := 0) (by omega) (show n0 ≤ 24 by omega) (show id_2 < n0 by omega) (show siA p1 p3 (wtA p4 p5 p6) (sdX n0 see0 tm0 g0 ff0 fp0) id_2 _ from si_no (fun rn g c => hw_1 rn g (by have h9 := c.2.1; rw [tmX (by omega)] at h9; exact h9) c.1 c.2.2.1 (by have h9 := c.2.2.2; rw [seX (by omega)] at h9; exact h9))), by rw [ht]; exact hP9, hD9⟩, hS.F ht⟩) hS.2.2 dX7_waits_18
  · refine lv_istore (lv' := [(8, .int (-1002)), (0, .ref (a 0)), (1, .int 1), (2, .int p1), (3, .int (nI id_2)), (4, .int p3), (5, .int p4), (6, .int p5), (7, .int p6)]) hx hb dX7_waits_9 hl (by decide) rfl (fun ls hl => ?_)
    refine lv_iload hx hb dX7_waits_11 (lv_at hl 0 rfl) ?_
    refine lv_if_eq (tgt := 19) hx hb dX7_waits_13 (by decide) (fun h => absurd h (by decide)) (fun _ => ?_)
    refine lv_iload hx hb dX7_waits_16 (lv_at hl 0 rfl) ?_
    obtain ⟨hP9, hD9⟩ := pd_sub [((a 0), .inr (7, (fX7 (a 1) (a 3) (a 19) (a 35) (a 40) (nI rk) lfa (a 53) (a 56) (a 63) (a 64) (a 68)))), ((a 3), .inl (k 3, 3, .inr (.inr (.inr (.inr (a3 (a 4) (a 9) (a 14))))))), ((a 19), .inl (k 4, 3, .inr (.inr (.inr (.inr (a3 (a 20) (a 25) (a 30))))))), ((a 4), .inr (5, (fX5 (a 5) (a 6) (a 7) (a 8)))), (aI k (a 5) 10 (vv n0 see0 tm0 g0)), (aI k (a 6) 24 ff0), (aI k (a 7) 24 fp0), (aI k (a 8) 4 fl0), ((a 9), .inr (5, (fX5 (a 10) (a 11) (a 12) (a 13)))), (aI k (a 10) 10 (vv n1 see1 tm1 g1)), (aI k (a 11) 24 ff1), (aI k (a 12) 24 fp1), (aI k (a 13) 4 fl1), ((a 14), .inr (5, (fX5 (a 15) (a 16) (a 17) (a 18)))), (aI k (a 15) 10 (vv n2 see2 tm2 g2)), (aI k (a 16) 24 ff2), (aI k (a 17) 24 fp2), (aI k (a 18) 4 fl2), ((a 20), .inr (0, (fX0 (a 4) (a 21) (a 22) (a 23) (a 24)))), (aI k (a 21) 768 on0), (aI k (a 22) 4 sr0), (aI k (a 23) 4 en0), ((a 25), .inr (0, (fX0 (a 9) (a 26) (a 27) (a 28) (a 29)))), (aI k (a 26) 768 on1), (aI k (a 27) 4 sr1), (aI k (a 28) 4 en1), ((a 30), .inr (0, (fX0 (a 14) (a 31) (a 32) (a 33) (a 34)))), (aI k (a 31) 768 on2), (aI k (a 32) 4 sr2), (aI k (a 33) 4 en2), ((a 64), .inr (2, (fX2 (a 65) (a 66) (a 67) wt wc)))] [0, 1, 2, 3, 4, 5, 6, 7, 8, 9, 10, 11, 12, 13, 14, 15, 16, 17, 18, 19, 20, 21, 22, 23, 24, 25, 26, 27, 28, 29, 30] hP hD (by decide +kernel) rfl
    exact W.iret (v := (-1002)) hx hb hr (fun t ht hW => ⟨⟨(-1002), (wt, wc), rfl, dq_at (s := 1) (by omega) (show n1 ≤ 24 by omega) (show id_2 < n1 by omega) (show siA p1 p3 (wtA p4 p5 p6) (sdX n1 see1 tm1 g1 ff1 fp1) id_2 _ from si_no (fun rn g c => hw_1 rn g (by have h9 := c.2.1; rw [tmX (by omega)] at h9; exact h9) c.1 c.2.2.1 (by have h9 := c.2.2.2; rw [seX (by omega)] at h9; exact h9))), by rw [ht]; exact hP9, hD9⟩, hS.F ht⟩) hS.2.2 dX7_waits_18
  · refine lv_istore (lv' := [(8, .int (-1002)), (0, .ref (a 0)), (1, .int 2), (2, .int p1), (3, .int (nI id_2)), (4, .int p3), (5, .int p4), (6, .int p5), (7, .int p6)]) hx hb dX7_waits_9 hl (by decide) rfl (fun ls hl => ?_)
    refine lv_iload hx hb dX7_waits_11 (lv_at hl 0 rfl) ?_
    refine lv_if_eq (tgt := 19) hx hb dX7_waits_13 (by decide) (fun h => absurd h (by decide)) (fun _ => ?_)
    refine lv_iload hx hb dX7_waits_16 (lv_at hl 0 rfl) ?_
    obtain ⟨hP9, hD9⟩ := pd_sub [((a 0), .inr (7, (fX7 (a 1) (a 3) (a 19) (a 35) (a 40) (nI rk) lfa (a 53) (a 56) (a 63) (a 64) (a 68)))), ((a 3), .inl (k 3, 3, .inr (.inr (.inr (.inr (a3 (a 4) (a 9) (a 14))))))), ((a 19), .inl (k 4, 3, .inr (.inr (.inr (.inr (a3 (a 20) (a 25) (a 30))))))), ((a 4), .inr (5, (fX5 (a 5) (a 6) (a 7) (a 8)))), (aI k (a 5) 10 (vv n0 see0 tm0 g0)), (aI k (a 6) 24 ff0), (aI k (a 7) 24 fp0), (aI k (a 8) 4 fl0), ((a 9), .inr (5, (fX5 (a 10) (a 11) (a 12) (a 13)))), (aI k (a 10) 10 (vv n1 see1 tm1 g1)), (aI k (a 11) 24 ff1), (aI k (a 12) 24 fp1), (aI k (a 13) 4 fl1), ((a 14), .inr (5, (fX5 (a 15) (a 16) (a 17) (a 18)))), (aI k (a 15) 10 (vv n2 see2 tm2 g2)), (aI k (a 16) 24 ff2), (aI k (a 17) 24 fp2), (aI k (a 18) 4 fl2), ((a 20), .inr (0, (fX0 (a 4) (a 21) (a 22) (a 23) (a 24)))), (aI k (a 21) 768 on0), (aI k (a 22) 4 sr0), (aI k (a 23) 4 en0), ((a 25), .inr (0, (fX0 (a 9) (a 26) (a 27) (a 28) (a 29)))), (aI k (a 26) 768 on1), (aI k (a 27) 4 sr1), (aI k (a 28) 4 en1), ((a 30), .inr (0, (fX0 (a 14) (a 31) (a 32) (a 33) (a 34)))), (aI k (a 31) 768 on2), (aI k (a 32) 4 sr2), (aI k (a 33) 4 en2), ((a 64), .inr (2, (fX2 (a 65) (a 66) (a 67) wt wc)))] [0, 1, 2, 3, 4, 5, 6, 7, 8, 9, 10, 11, 12, 13, 14, 15, 16, 17, 18, 19, 20, 21, 22, 23, 24, 25, 26, 27, 28, 29, 30] hP hD (by decide +kernel) rfl
    exact W.iret (v := (-1002)) hx hb hr (fun t ht hW => ⟨⟨(-1002), (wt, wc), rfl, dq_at (s := 2) (by omega) (show n2 ≤ 24 by omega) (show id_2 < n2 by omega) (show siA p1 p3 (wtA p4 p5 p6) (sdX n2 see2 tm2 g2 ff2 fp2) id_2 _ from si_no (fun rn g c => hw_1 rn g (by have h9 := c.2.1; rw [tmX (by omega)] at h9; exact h9) c.1 c.2.2.1 (by have h9 := c.2.2.2; rw [seX (by omega)] at h9; exact h9))), by rw [ht]; exact hP9, hD9⟩, hS.F ht⟩) hS.2.2 dX7_waits_18


set_option maxHeartbeats 4000000 in
set_option maxRecDepth 100000 in
theorem n_waits (l : Launch) (D : va_G) (k : Nat → ClassId) (st : Nat → Nat) (lo : Nat) (a : Nat → Nat) (tx : Nat) (t0 : Nat) (we : Nat) (rd : Nat) (ru : Nat) (rw : Nat) (ca : Nat) (fp : Int32) (wd : Int64) (nu : Int32) (na : Int32) (ts : Int32) (df : Int32) (db : Int32) (sd : Int32) (dn : Nat → Nat) (se : Nat → Nat) (tm : Nat → Nat) (gs : Nat → Int32) (ffrees : Nat → Int32) (fprices : Nat → Int32) (fons : Nat → Int32) (fworths : Nat → Int32) (fstarts : Nat → Int32) (fends : Nat → Int32) (fgoesRound : Nat → Int32) (fbegin : Nat → Int32) (p0 : Int32) (p1 : Int32) (p2 : Int32) (p3 : Int32) (p4 : Int32) (p5 : Int32) (p6 : Int32) (hdn : ∀ j, dn j ≤ 24) (hse : ∀ j, se j ≤ 2) (htm : ∀ j, tm j ≤ 3) : CWi l D k st lo yX8_waits cX8_waits 12 (some .int) ({ frames := 6, cells := 0, slots := 0, locals := 144 }) 0 0 [.ref (a 0), .int p0, .int p1, .int p2, .int p3, .int p4, .int p5, .int p6] [((a 0), .inr (8, (fX8 a (nI tx) fp (nI t0) wd (nI we) nu na (nI rd) ts (nI ru) (nI rw) (nI ca) df db sd))), (aI k (a 1) 3 (nF dn)), (aI k (a 4) 27 (sg se tm gs)), (aI k (a 2) 72 ffrees), (aI k (a 3) 72 fprices), (aI k (a 18) 768 fons), (aI k (a 19) 768 fworths), (aI k (a 20) 5 fstarts), (aI k (a 21) 4 fends), (aZ k (a 22) 4 fgoesRound), (aI k (a 23) 8 fbegin)] (fun (r : Int32) (u : (Nat → Int32) × (Nat → Int32) × (Nat → Int32) × (Nat → Int32) × (Nat → Int32) × (Nat → Int32)) => match u with | (fons_, fworths_, fstarts_, fends_, fgoesRound_, fbegin_) => dqP (sdM dn (sg se tm gs) ffrees fprices) p0 p2 (siA p1 p3 (wtA p4 p5 p6)) r) (fun (u : (Nat → Int32) × (Nat → Int32) × (Nat → Int32) × (Nat → Int32) × (Nat → Int32) × (Nat → Int32)) => match u with | (fons_, fworths_, fstarts_, fends_, fgoesRound_, fbegin_) => [((a 0), .inr (8, (fX8 a (nI tx) fp (nI t0) wd (nI we) nu na (nI rd) ts (nI ru) (nI rw) (nI ca) df db sd))), (aI k (a 1) 3 (nF dn)), (aI k (a 4) 27 (sg se tm gs)), (aI k (a 2) 72 ffrees), (aI k (a 3) 72 fprices), (aI k (a 18) 768 fons_), (aI k (a 19) 768 fworths_), (aI k (a 20) 5 fstarts_), (aI k (a 21) 4 fends_), (aZ k (a 22) 4 fgoesRound_), (aI k (a 23) 8 fbegin_)]) := by
  intro sz
  refine Met.ofW (cc := cX8_waits) (maxL := 12) (ret := (some .int)) (by decide) rfl ?_
  intro p e s m args below meth c s₁ B hml hv
  obtain ⟨rfl, hsz, hlo, hP, hK, hDL, hZ⟩ := hv
  have hx := B.exec
  have hb := B.bytes
  have hr := B.returns
  have hts := WS_ts B.pre
  have hown : s.vm.findClass RX8 = some m.cls := findClass_of_methodNamed B.named
  have hlocks := B.notSynchronized
  subst hsz
  have hD := hDL.self (sz := s.heap.size)
  have hAlo := A_lo hDL hlo
  generalize hAe : va_A [((a 0), .inr (8, (fX8 a (nI tx) fp (nI t0) wd (nI we) nu na (nI rd) ts (nI ru) (nI rw) (nI ca) df db sd))), (aI k (a 1) 3 (nF dn)), (aI k (a 4) 27 (sg se tm gs)), (aI k (a 2) 72 ffrees), (aI k (a 3) 72 fprices), (aI k (a 18) 768 fons), (aI k (a 19) 768 fworths), (aI k (a 20) 5 fstarts), (aI k (a 21) 4 fends), (aZ k (a 22) 4 fgoesRound), (aI k (a 23) 8 fbegin)] s.heap.size = A at hD hAlo ⊢
  have hA : ∀ q : Nat, s.heap.size ≤ q → A q := fun q h => by rw [← hAe]; exact Or.inr h
  have hS : va_S A s.heap s.heap [] := va_S.rf
  have hl := lv_entry ([.ref (a 0), .int p0, .int p1, .int p2, .int p3, .int p4, .int p5, .int p6]) (n := 12) (Nat.le_of_ble_eq_true rfl)
  rw [lg_entry_eq]
  generalize (lg_sl ([.ref (a 0), .int p0, .int p1, .int p2, .int p3, .int p4, .int p5, .int p6]) ++ List.replicate (12 - (lg_sl ([.ref (a 0), .int p0, .int p1, .int p2, .int p3, .int p4, .int p5, .int p6])).length) Slot.unset).toArray = ls at hl ⊢
  have hl : lv_has ls 12 [(0, .ref (a 0)), (1, .int p0), (2, .int p1), (3, .int p2), (4, .int p3), (5, .int p4), (6, .int p5), (7, .int p6)] := hl
  refine lv_aload_n hx hb dX8_waits_0 rfl (lv_at hl 0 rfl) ?_
  refine lv_iload_n hx hb dX8_waits_1 rfl (lv_at hl 1 rfl) ?_
  refine ro_i (D := D) (va_runV (As := [.int p0]) (rest := []) ⟨hx, hb, hml, hown, hts⟩ ((n_isStreet l D k st lo a tx t0 we rd ru rw ca fp wd nu na ts df db sd dn p0 hdn) s.heap.size) (cwV 1 hts (gV tw_1189 tw_1191 tw_38 tw_87 tw_1192) rfl rfl rfl (by decide +kernel) ⟨Nat.le_of_ble_eq_true rfl, Nat.le_of_ble_eq_true rfl⟩) (pV hS hAlo hlo hP hK (va_Dlo hD hAlo) hZ [0, 1] (by decide) rfl (ci := 8) (q := (RX8, TX8, 44)) (q0 := 0) rfl rfl) rfl rfl hl.1 rfl (lv_room (Nat.le_of_ble_eq_true rfl)) dX8_waits_2 ⟨Nat.le_of_ble_eq_true rfl, Nat.le_of_ble_eq_true rfl⟩) hS hA hP (fun r_1 H locs hw_1 hP hS => ?_)
  try dsimp only at hw_1
  rcases hw_1 with ⟨rfl, j_2, hj_2, rfl, hw_1⟩ | ⟨rfl, hw_1⟩
  · have hdj_2 := hdn j_2
    have htj_2 := htm j_2
    refine lv_if_eq (tgt := 17) hx hb dX8_waits_5 (by decide) (fun h => absurd h (by decide)) (fun _ => ?_)
    refine lv_aload_n hx hb dX8_waits_8 rfl (lv_at hl 0 rfl) ?_
    refine lv_iload_n hx hb dX8_waits_9 rfl (lv_at hl 1 rfl) ?_
    refine lv_iload_n hx hb dX8_waits_10 rfl (lv_at hl 3 rfl) ?_
    refine ro_i (D := D) (va_runV (As := [.int (nI j_2), .int p2]) (rest := []) ⟨hx, hb, hml, hown, hts⟩ ((n_isDoor l D k st lo a tx t0 we rd ru rw ca fp wd nu na ts df db sd dn j_2 p2 hdn (by first | assumption | omega)) H.size) (cwV 2 hts (gV tw_1202 tw_1204 tw_40 tw_87 tw_1205) rfl rfl rfl (by decide +kernel) ⟨Nat.le_of_ble_eq_true rfl, Nat.le_of_ble_eq_true rfl⟩) (pV hS hAlo hlo hP hK (va_Dlo hD hAlo) hZ [0, 1] (by decide) rfl (ci := 8) (q := (RX8, TX8, 44)) (q0 := 0) rfl rfl) rfl rfl hl.1 rfl (lv_room (Nat.le_of_ble_eq_true rfl)) dX8_waits_11 ⟨Nat.le_of_ble_eq_true rfl, Nat.le_of_ble_eq_true rfl⟩) hS hA hP (fun r_3 H locs hw_3 hP hS => ?_)
    try dsimp only at hw_3
    rcases hw_3 with ⟨rfl, j_4, hj_4, rfl, hw_3⟩ | ⟨rfl, hw_3⟩
    · refine lv_if_ne (tgt := 21) hx hb dX8_waits_14 (by decide) (fun _ => ?_) (fun h => absurd h (by decide))
      refine lv_aload_n hx hb dX8_waits_21 rfl (lv_at hl 0 rfl) ?_
      refine lv_iload_n hx hb dX8_waits_22 rfl (lv_at hl 1 rfl) ?_
      refine lv_iload_n hx hb dX8_waits_23 rfl (lv_at hl 2 rfl) ?_
      refine ro_i (D := D) (va_runV (As := [.int (nI j_2), .int p1]) (rest := []) ⟨hx, hb, hml, hown, hts⟩ ((n_isRound l D k st lo a tx t0 we rd ru rw ca fp wd nu na ts df db sd se tm gs j_2 p1 htm (by first | assumption | omega)) H.size) (cwV 2 hts (gV tw_1218 tw_1220 tw_42 tw_87 tw_1221) rfl rfl rfl (by decide +kernel) ⟨Nat.le_of_ble_eq_true rfl, Nat.le_of_ble_eq_true rfl⟩) (pV hS hAlo hlo hP hK (va_Dlo hD hAlo) hZ [0, 2] (by decide) rfl (ci := 8) (q := (RX8, TX8, 44)) (q0 := 0) rfl rfl) rfl rfl hl.1 rfl (lv_room (Nat.le_of_ble_eq_true rfl)) dX8_waits_24 ⟨Nat.le_of_ble_eq_true rfl, Nat.le_of_ble_eq_true rfl⟩) hS hA hP (fun r_5 H locs hw_5 hP hS => ?_)
      try dsimp only at hw_5
      rcases hw_5 with ⟨rfl, j_6, hj_6, rfl, hw_5⟩ | ⟨rfl, hw_5⟩
      · refine lv_if_eq (tgt := 78) hx hb dX8_waits_27 (by decide) (fun h => absurd h (by decide)) (fun _ => ?_)
        refine lv_aload_n hx hb dX8_waits_30 rfl (lv_at hl 0 rfl) ?_
        refine lv_iload_n hx hb dX8_waits_31 rfl (lv_at hl 1 rfl) ?_
        refine lv_iload_n hx hb dX8_waits_32 rfl (lv_at hl 3 rfl) ?_
        refine lv_iload hx hb dX8_waits_33 (lv_at hl 4 rfl) ?_
        refine ro_i (D := D) (va_runV (As := [.int (nI j_2), .int (nI j_4), .int p3]) (rest := []) ⟨hx, hb, hml, hown, hts⟩ ((n_isSight l D k st lo a tx t0 we rd ru rw ca fp wd nu na ts df db sd dn se tm gs j_2 j_4 p3 hdn hse (by first | assumption | omega) (by first | assumption | omega)) H.size) (cwV 3 hts (gV tw_1242 tw_1244 tw_47 tw_87 tw_1245) rfl rfl rfl (by decide +kernel) ⟨Nat.le_of_ble_eq_true rfl, Nat.le_of_ble_eq_true rfl⟩) (pV hS hAlo hlo hP hK (va_Dlo hD hAlo) hZ [0, 1, 2] (by decide) rfl (ci := 8) (q := (RX8, TX8, 44)) (q0 := 0) rfl rfl) rfl rfl hl.1 rfl (lv_room (Nat.le_of_ble_eq_true rfl)) dX8_waits_35 ⟨Nat.le_of_ble_eq_true rfl, Nat.le_of_ble_eq_true rfl⟩) hS hA hP (fun r_7 H locs hw_7 hP hS => ?_)
        try dsimp only at hw_7
        rcases hw_7 with ⟨rfl, j_8, hj_8, rfl, hw_7⟩ | ⟨rfl, hw_7⟩
        · have hg8_8 : j_8 < 8 := by have h8 := (p8 (sq_le (see := se j_2) (n := dn j_2) (i := j_4) (hse _))).2; omega
          refine lv_if_eq (tgt := 78) hx hb dX8_waits_38 (by decide) (fun h => absurd h (by decide)) (fun _ => ?_)
          refine lv_iload hx hb dX8_waits_41 (lv_at hl 5 rfl) ?_
          refine lv_i2l (v := p4.toInt64) hx hb dX8_waits_43 rfl ?_
          refine lv_lconst (v := (0 : Int32).toInt64) hx hb dX8_waits_44 (by decide) ?_
          refine lv_ldc2 hx hb hown (hts _ tw_1272) dX8_waits_45 ?_
          refine lv_tl (y := ((100 : Int32).toInt64)) (by decide) ?_
          refine ro_i (D := D) (va_runS (As := [.long (p4.toInt64), .long ((0 : Int32).toInt64), .long ((100 : Int32).toInt64)]) (rest := []) ⟨hx, hb, hml, hown, hts⟩ ((k_in l D k st lo p4 (0 : Int32) (100 : Int32)) H.size) (va_cwS 3 hts (gS tw_1111 tw_1112 tw_87 tw_1113) rfl rfl rfl (by decide +kernel) ⟨Nat.le_of_ble_eq_true rfl, Nat.le_of_ble_eq_true rfl⟩) (pS hS hAlo hlo hP hK (va_Dlo hD hAlo) hZ [] (by decide) rfl) rfl rfl hl.1 rfl (lv_room (Nat.le_of_ble_eq_true rfl)) dX8_waits_48 ⟨Nat.le_of_ble_eq_true rfl, Nat.le_of_ble_eq_true rfl⟩) hS hA hP (fun r_9 H locs hw_9 hP hS => ?_)
          try dsimp only at hw_9
          rcases hw_9 with ⟨rfl, hw_9⟩ | ⟨rfl, hw_9⟩
          · refine lv_if_eq (tgt := 78) hx hb dX8_waits_51 (by decide) (fun h => absurd h (by decide)) (fun _ => ?_)
            refine lv_iload hx hb dX8_waits_54 (lv_at hl 6 rfl) ?_
            refine lv_i2l (v := p5.toInt64) hx hb dX8_waits_56 rfl ?_
            refine lv_lconst (v := (0 : Int32).toInt64) hx hb dX8_waits_57 (by decide) ?_
            refine lv_ldc2 hx hb hown (hts _ tw_1368) dX8_waits_58 ?_
            refine lv_tl (y := ((99 : Int32).toInt64)) (by decide) ?_
            refine ro_i (D := D) (va_runS (As := [.long (p5.toInt64), .long ((0 : Int32).toInt64), .long ((99 : Int32).toInt64)]) (rest := []) ⟨hx, hb, hml, hown, hts⟩ ((k_in l D k st lo p5 (0 : Int32) (99 : Int32)) H.size) (va_cwS 3 hts (gS tw_1111 tw_1112 tw_87 tw_1113) rfl rfl rfl (by decide +kernel) ⟨Nat.le_of_ble_eq_true rfl, Nat.le_of_ble_eq_true rfl⟩) (pS hS hAlo hlo hP hK (va_Dlo hD hAlo) hZ [] (by decide) rfl) rfl rfl hl.1 rfl (lv_room (Nat.le_of_ble_eq_true rfl)) dX8_waits_61 ⟨Nat.le_of_ble_eq_true rfl, Nat.le_of_ble_eq_true rfl⟩) hS hA hP (fun r_10 H locs hw_10 hP hS => ?_)
            try dsimp only at hw_10
            rcases hw_10 with ⟨rfl, hw_10⟩ | ⟨rfl, hw_10⟩
            · refine lv_if_eq (tgt := 78) hx hb dX8_waits_64 (by decide) (fun h => absurd h (by decide)) (fun _ => ?_)
              refine lv_iload hx hb dX8_waits_67 (lv_at hl 7 rfl) ?_
              refine lv_i2l (v := p6.toInt64) hx hb dX8_waits_69 rfl ?_
              refine lv_lconst (v := (0 : Int32).toInt64) hx hb dX8_waits_70 (by decide) ?_
              refine lv_lconst (v := (1 : Int32).toInt64) hx hb dX8_waits_71 (by decide) ?_
              refine ro_i (D := D) (va_runS (As := [.long (p6.toInt64), .long ((0 : Int32).toInt64), .long ((1 : Int32).toInt64)]) (rest := []) ⟨hx, hb, hml, hown, hts⟩ ((k_in l D k st lo p6 (0 : Int32) (1 : Int32)) H.size) (va_cwS 3 hts (gS tw_1111 tw_1112 tw_87 tw_1113) rfl rfl rfl (by decide +kernel) ⟨Nat.le_of_ble_eq_true rfl, Nat.le_of_ble_eq_true rfl⟩) (pS hS hAlo hlo hP hK (va_Dlo hD hAlo) hZ [] (by decide) rfl) rfl rfl hl.1 rfl (lv_room (Nat.le_of_ble_eq_true rfl)) dX8_waits_72 ⟨Nat.le_of_ble_eq_true rfl, Nat.le_of_ble_eq_true rfl⟩) hS hA hP (fun r_11 H locs hw_11 hP hS => ?_)
              try dsimp only at hw_11
              rcases hw_11 with ⟨rfl, hw_11⟩ | ⟨rfl, hw_11⟩
              · refine lv_if_ne (tgt := 82) hx hb dX8_waits_75 (by decide) (fun _ => ?_) (fun h => absurd h (by decide))
                refine lv_iload hx hb dX8_waits_82 (lv_at hl 4 rfl) ?_
                refine lv_iconst (v := 1) hx hb dX8_waits_84 (by decide) ?_
                refine lv_iand hx hb dX8_waits_85 ?_
                refine lv_topi (fun x_12 ex_12 => ?_)
                refine lv_iconst (v := 1) hx hb dX8_waits_86 (by decide) ?_
                refine lv_icmp_ne (tgt := 94) hx hb dX8_waits_87 (by decide) (fun c_13 => ?_) (fun c_13 => ?_)
                · rw [ex_12] at c_13
                  refine lv_aload_n hx hb dX8_waits_94 rfl (lv_at hl 0 rfl) ?_
                  refine lv_iload_n hx hb dX8_waits_95 rfl (lv_at hl 1 rfl) ?_
                  refine rw_v (D := D) (wr := []) (va_runV (As := [.int (nI j_2)]) (rest := []) ⟨hx, hb, hml, hown, hts⟩ ((n_findWay l D k st lo a tx t0 we rd ru rw ca fp wd nu na ts df db sd dn se tm gs ffrees fprices fons fworths fstarts fends fgoesRound fbegin j_2 hdn hse htm (by first | assumption | omega) (by first | assumption | omega)) H.size) (cwV 1 hts (gV tw_1250 tw_1252 tw_49 tw_87 tw_1253) rfl rfl rfl (by decide +kernel) ⟨Nat.le_of_ble_eq_true rfl, Nat.le_of_ble_eq_true rfl⟩) (pV hS hAlo hlo hP hK (va_Dlo hD hAlo) hZ [0, 1, 2, 3, 4, 5, 6, 7, 8, 9, 10] (by decide +kernel) rfl (ci := 8) (q := (RX8, TX8, 44)) (q0 := 0) rfl rfl) rfl rfl hl.1 rfl (lv_room (Nat.le_of_ble_eq_true rfl)) dX8_waits_96 ⟨Nat.le_of_ble_eq_true rfl, Nat.le_of_ble_eq_true rfl⟩) hS hA hP hD [0, 1, 2, 3, 4, 5, 6, 7, 8, 9, 10] [] rfl rfl (by decide +kernel) (by decide +kernel) (fun u H locs hw_14 hP hD hS => ?_)
                  obtain ⟨fons__14, fworths__14, fstarts__14, fends__14, fgoesRound__14, fbegin__14⟩ := u
                  have hQ9 := pd_mk [((a 0), .inr (8, (fX8 a (nI tx) fp (nI t0) wd (nI we) nu na (nI rd) ts (nI ru) (nI rw) (nI ca) df db sd))), (aI k (a 1) 3 (nF dn)), (aI k (a 4) 27 (sg se tm gs)), (aI k (a 2) 72 ffrees), (aI k (a 3) 72 fprices), (aI k (a 18) 768 fons__14), (aI k (a 19) 768 fworths__14), (aI k (a 20) 5 fstarts__14), (aI k (a 21) 4 fends__14), (aZ k (a 22) 4 fgoesRound__14), (aI k (a 23) 8 fbegin__14)] hP hD
                  clear hP hD
                  obtain ⟨hP, hD⟩ := hQ9
                  try dsimp only at hw_14
                  refine lv_aload_n hx hb dX8_waits_99 rfl (lv_at hl 0 rfl) ?_
                  refine va_get (D := D) (ci := 8) (v := .ref (a 18)) (C := RX8) (T := TX8) (N := 44) hx hb hts inX8 hown hK hP 0 rfl rfl 17 (by decide) (hts _ tw_990) (fun _ h9 => h9) rfl dX8_waits_100 ?_
                  refine lv_iload_n hx hb dX8_waits_103 rfl (lv_at hl 2 rfl) ?_
                  refine lv_iload_n hx hb dX8_waits_104 rfl (lv_at hl 3 rfl) ?_
                  refine lv_iload hx hb dX8_waits_105 (lv_at hl 4 rfl) ?_
                  refine ro_i (D := D) (va_runS (As := [.int (nI j_6), .int (nI j_4), .int (nI j_8)]) (rest := [.ref (a 18)]) ⟨hx, hb, hml, hown, hts⟩ ((m_at l D k st lo j_6 j_4 j_8) H.size) (va_cwS 3 hts (gS tw_1266 tw_1267 tw_87 tw_1268) rfl rfl rfl (by decide +kernel) ⟨Nat.le_of_ble_eq_true rfl, Nat.le_of_ble_eq_true rfl⟩) (pS hS hAlo hlo hP hK (va_Dlo hD hAlo) hZ [] (by decide) rfl) rfl rfl hl.1 rfl (lv_room (Nat.le_of_ble_eq_true rfl)) dX8_waits_107 ⟨Nat.le_of_ble_eq_true rfl, Nat.le_of_ble_eq_true rfl⟩) hS hA hP (fun r_15 H locs hw_15 hP hS => ?_)
                  try dsimp only at hw_15
                  subst hw_15
                  refine va_iald hx hb hK hP 5 1 rfl rfl (vp_in_nI (by omega) (by decide)) dX8_waits_110 ?_
                  refine lv_ti (y := (fons__14 (192 * j_6 + 8 * j_4 + j_8))) (by rw [nI_clamp (by omega)]) ?_
                  refine lv_istore (lv' := [(8, .int (fons__14 (192 * j_6 + 8 * j_4 + j_8))), (0, .ref (a 0)), (1, .int (nI j_2)), (2, .int (nI j_6)), (3, .int (nI j_4)), (4, .int (nI j_8)), (5, .int p4), (6, .int p5), (7, .int p6)]) hx hb dX8_waits_111 hl (by decide) rfl (fun ls hl => ?_)
                  refine lv_iload hx hb dX8_waits_113 (lv_at hl 0 rfl) ?_
                  refine lv_istore (lv' := [(9, .int (fons__14 (192 * j_6 + 8 * j_4 + j_8))), (8, .int (fons__14 (192 * j_6 + 8 * j_4 + j_8))), (0, .ref (a 0)), (1, .int (nI j_2)), (2, .int (nI j_6)), (3, .int (nI j_4)), (4, .int (nI j_8)), (5, .int p4), (6, .int p5), (7, .int p6)]) hx hb dX8_waits_115 hl (by decide) rfl (fun ls hl => ?_)
                  refine lv_iconst (v := 0) hx hb dX8_waits_117 (by decide) ?_
                  refine lv_istore (lv' := [(10, .int 0), (9, .int (fons__14 (192 * j_6 + 8 * j_4 + j_8))), (8, .int (fons__14 (192 * j_6 + 8 * j_4 + j_8))), (0, .ref (a 0)), (1, .int (nI j_2)), (2, .int (nI j_6)), (3, .int (nI j_4)), (4, .int (nI j_8)), (5, .int p4), (6, .int p5), (7, .int p6)]) hx hb dX8_waits_118 hl (by decide) rfl (fun ls hl => ?_)
                  refine lv_iconst (v := 1) hx hb dX8_waits_120 (by decide) ?_
                  refine lv_istore (lv' := [(11, .int 1), (10, .int 0), (9, .int (fons__14 (192 * j_6 + 8 * j_4 + j_8))), (8, .int (fons__14 (192 * j_6 + 8 * j_4 + j_8))), (0, .ref (a 0)), (1, .int (nI j_2)), (2, .int (nI j_6)), (3, .int (nI j_4)), (4, .int (nI j_8)), (5, .int p4), (6, .int p5), (7, .int p6)]) hx hb dX8_waits_121 hl (by decide) rfl (fun ls hl => ?_)
                  refine W_loop (σ := Nat × Int32 × Int32 × Int32) (fun (n_ : Nat) (x_ : Nat × Int32 × Int32 × Int32) (H : Heap) (locs : List Loc) (ls : Array Slot) => match x_ with | (mm_16, nw_16, le_16, be_16) => n_ = 21 - mm_16 ∧ (1 ≤ mm_16 ∧ mm_16 ≤ 21 ∧ nw_16 = (wtS (fons__14 (192 * j_6 + 8 * j_4 + j_8)) (fM_taking dn se tm gs fprices j_2 j_4 (nI j_6)) p4 p5 (mm_16 - 1)).1 ∧ le_16 = (wtS (fons__14 (192 * j_6 + 8 * j_4 + j_8)) (fM_taking dn se tm gs fprices j_2 j_4 (nI j_6)) p4 p5 (mm_16 - 1)).2.1 ∧ be_16 = (wtS (fons__14 (192 * j_6 + 8 * j_4 + j_8)) (fM_taking dn se tm gs fprices j_2 j_4 (nI j_6)) p4 p5 (mm_16 - 1)).2.2) ∧ va_P D classes [((a 0), .inr (8, (fX8 a (nI tx) fp (nI t0) wd (nI we) nu na (nI rd) ts (nI ru) (nI rw) (nI ca) df db sd))), (aI k (a 1) 3 (nF dn)), (aI k (a 4) 27 (sg se tm gs)), (aI k (a 2) 72 ffrees), (aI k (a 3) 72 fprices), (aI k (a 18) 768 fons__14), (aI k (a 19) 768 fworths__14), (aI k (a 20) 5 fstarts__14), (aI k (a 21) 4 fends__14), (aZ k (a 22) 4 fgoesRound__14), (aI k (a 23) 8 fbegin__14)] H ∧ va_D A [((a 0), .inr (8, (fX8 a (nI tx) fp (nI t0) wd (nI we) nu na (nI rd) ts (nI ru) (nI rw) (nI ca) df db sd))), (aI k (a 1) 3 (nF dn)), (aI k (a 4) 27 (sg se tm gs)), (aI k (a 2) 72 ffrees), (aI k (a 3) 72 fprices), (aI k (a 18) 768 fons__14), (aI k (a 19) 768 fworths__14), (aI k (a 20) 5 fstarts__14), (aI k (a 21) 4 fends__14), (aZ k (a 22) 4 fgoesRound__14), (aI k (a 23) 8 fbegin__14)] ∧ va_S A s.heap H locs ∧ lv_has ls 12 [(11, .int (nI mm_16)), (10, .int be_16), (9, .int le_16), (8, .int nw_16), (0, .ref (a 0)), (1, .int (nI j_2)), (2, .int (nI j_6)), (3, .int (nI j_4)), (4, .int (nI j_8)), (5, .int p4), (6, .int p5), (7, .int p6)]) (fun n_16 x_16 H locs ls hI ih_16 => ?_) _ (1, (fons__14 (192 * j_6 + 8 * j_4 + j_8)), (fons__14 (192 * j_6 + 8 * j_4 + j_8)), 0) ⟨rfl, ⟨by omega, by omega, rfl, rfl, rfl⟩, hP, hD, hS, (lv_sub hl [0, 1, 2, 3, 4, 5, 6, 7, 8, 9, 10, 11] rfl)⟩
                  obtain ⟨mm_16, nw_16, le_16, be_16⟩ := x_16
                  obtain ⟨hm_16, hv_16, hP, hD, hS, hl⟩ := hI
                  subst hm_16
                  refine lv_iload hx hb dX8_waits_123 (lv_at hl 0 rfl) ?_
                  refine lv_bipush (v := 20) hx hb dX8_waits_125 (by decide) ?_
                  refine lv_icmp_gt (tgt := 191) hx hb dX8_waits_127 (by decide) (fun c_17 => ?_) (fun c_17 => ?_)
                  · have c_17 := (nI_ltI (a := 20) (b := mm_16) (by omega) (by omega)).mp c_17
                    refine lv_iload hx hb dX8_waits_191 (lv_at hl 11 rfl) ?_
                    refine lv_if_ne (tgt := 201) hx hb dX8_waits_193 (by decide) (fun c_18 => ?_) (fun c_18 => ?_)
                    · refine lv_iload hx hb dX8_waits_201 (lv_at hl 2 rfl) ?_
                      obtain ⟨hP9, hD9⟩ := pd_sub [((a 0), .inr (8, (fX8 a (nI tx) fp (nI t0) wd (nI we) nu na (nI rd) ts (nI ru) (nI rw) (nI ca) df db sd))), (aI k (a 1) 3 (nF dn)), (aI k (a 4) 27 (sg se tm gs)), (aI k (a 2) 72 ffrees), (aI k (a 3) 72 fprices), (aI k (a 18) 768 fons__14), (aI k (a 19) 768 fworths__14), (aI k (a 20) 5 fstarts__14), (aI k (a 21) 4 fends__14), (aZ k (a 22) 4 fgoesRound__14), (aI k (a 23) 8 fbegin__14)] [0, 1, 2, 3, 4, 5, 6, 7, 8, 9, 10] hP hD (by decide +kernel) rfl
                      exact W.iret (v := le_16) hx hb hr (fun t ht hW => ⟨⟨le_16, (fons__14, fworths__14, fstarts__14, fends__14, fgoesRound__14, fbegin__14), rfl, dq_at (s := j_2) (by omega) (show dn j_2 ≤ 24 by omega) (show j_4 < dn j_2 by omega) (show siA (nI j_6) (nI j_8) (wtA p4 p5 p6) (sdM dn (sg se tm gs) ffrees fprices j_2) j_4 _ from si_at (by rw [tmM (htm _)]; exact htm _) (by rw [seM (hse _)]; exact hse _) (by rw [tmM (htm _)]; omega) (by rw [seM (hse _)]; exact hj_8) (wq_1 ⟨hw_9, hw_10, hw_11⟩ (fun z => c_13 (((ev_and j_8 hg8_8).2).mpr z)) (is01 hw_11 c_18) (by have h9 := hv_16.2.2.2.1; rw [show mm_16 - 1 = 20 by omega, (wmw_of (wm_of (hse _) (htm _) hw_14) (show j_6 ≤ tmD (sdM dn (sg se tm gs) ffrees fprices j_2) by rw [tmM (htm _)]; omega) (show j_4 < dn j_2 by omega) (show j_8 < 2 ^ sqN (seD (sdM dn (sg se tm gs) ffrees fprices j_2)) (dn j_2) j_4 by rw [seM (hse _)]; exact hj_8)).2, mTake (dn := dn) (se := se) (tm := tm) (gs := gs) (ffr := ffrees) (fpr := fprices) (r := j_6) (show j_4 < dn j_2 by omega)] at h9; exact h9))), by rw [ht]; exact hP9, hD9⟩, hS.F ht⟩) hS.2.2 dX8_waits_203
                    · refine lv_iload hx hb dX8_waits_196 (lv_at hl 1 rfl) ?_
                      refine lv_goto (tgt := 203) hx hb dX8_waits_198 (by decide) ?_
                      obtain ⟨hP9, hD9⟩ := pd_sub [((a 0), .inr (8, (fX8 a (nI tx) fp (nI t0) wd (nI we) nu na (nI rd) ts (nI ru) (nI rw) (nI ca) df db sd))), (aI k (a 1) 3 (nF dn)), (aI k (a 4) 27 (sg se tm gs)), (aI k (a 2) 72 ffrees), (aI k (a 3) 72 fprices), (aI k (a 18) 768 fons__14), (aI k (a 19) 768 fworths__14), (aI k (a 20) 5 fstarts__14), (aI k (a 21) 4 fends__14), (aZ k (a 22) 4 fgoesRound__14), (aI k (a 23) 8 fbegin__14)] [0, 1, 2, 3, 4, 5, 6, 7, 8, 9, 10] hP hD (by decide +kernel) rfl
                      exact W.iret (v := be_16) hx hb hr (fun t ht hW => ⟨⟨be_16, (fons__14, fworths__14, fstarts__14, fends__14, fgoesRound__14, fbegin__14), rfl, dq_at (s := j_2) (by omega) (show dn j_2 ≤ 24 by omega) (show j_4 < dn j_2 by omega) (show siA (nI j_6) (nI j_8) (wtA p4 p5 p6) (sdM dn (sg se tm gs) ffrees fprices j_2) j_4 _ from si_at (by rw [tmM (htm _)]; exact htm _) (by rw [seM (hse _)]; exact hse _) (by rw [tmM (htm _)]; omega) (by rw [seM (hse _)]; exact hj_8) (wq_0 ⟨hw_9, hw_10, hw_11⟩ (fun z => c_13 (((ev_and j_8 hg8_8).2).mpr z)) c_18 (by have h9 := hv_16.2.2.2.2; rw [show mm_16 - 1 = 20 by omega, (wmw_of (wm_of (hse _) (htm _) hw_14) (show j_6 ≤ tmD (sdM dn (sg se tm gs) ffrees fprices j_2) by rw [tmM (htm _)]; omega) (show j_4 < dn j_2 by omega) (show j_8 < 2 ^ sqN (seD (sdM dn (sg se tm gs) ffrees fprices j_2)) (dn j_2) j_4 by rw [seM (hse _)]; exact hj_8)).2, mTake (dn := dn) (se := se) (tm := tm) (gs := gs) (ffr := ffrees) (fpr := fprices) (r := j_6) (show j_4 < dn j_2 by omega)] at h9; exact h9))), by rw [ht]; exact hP9, hD9⟩, hS.F ht⟩) hS.2.2 dX8_waits_203
                  · have c_17 : ¬ (20 < mm_16) := fun h => c_17 ((nI_ltI (a := 20) (b := mm_16) (by omega) (by omega)).mpr h)
                    refine lv_sipush (v := 1000) hx hb dX8_waits_130 (by decide) ?_
                    refine lv_iload hx hb dX8_waits_133 (lv_at hl 10 rfl) ?_
                    refine lv_imul hx hb dX8_waits_135 ?_
                    refine lv_topi (fun x_19 ex_19 => ?_)
                    refine lv_iload hx hb dX8_waits_136 (lv_at hl 9 rfl) ?_
                    refine lv_aload_n hx hb dX8_waits_138 rfl (lv_at hl 4 rfl) ?_
                    refine lv_iload_n hx hb dX8_waits_139 rfl (lv_at hl 5 rfl) ?_
                    refine lv_iload_n hx hb dX8_waits_140 rfl (lv_at hl 6 rfl) ?_
                    refine lv_iload_n hx hb dX8_waits_141 rfl (lv_at hl 7 rfl) ?_
                    refine ro_i (D := D) (va_runV (As := [.int (nI j_2), .int (nI j_6), .int (nI j_4)]) (rest := [.int p4, .int x_19]) ⟨hx, hb, hml, hown, hts⟩ ((n_takingOf l D k st lo a tx t0 we rd ru rw ca fp wd nu na ts df db sd dn se tm gs fprices j_2 j_4 (nI j_6) (by first | assumption | omega) (by first | assumption | omega)) H.size) (cwV 3 hts (gV tw_1222 tw_1224 tw_43 tw_87 tw_1225) rfl rfl rfl (by decide +kernel) ⟨Nat.le_of_ble_eq_true rfl, Nat.le_of_ble_eq_true rfl⟩) (pV hS hAlo hlo hP hK (va_Dlo hD hAlo) hZ [0, 1, 2, 4] (by decide) rfl (ci := 8) (q := (RX8, TX8, 44)) (q0 := 0) rfl rfl) rfl rfl hl.1 rfl (lv_room (Nat.le_of_ble_eq_true rfl)) dX8_waits_142 ⟨Nat.le_of_ble_eq_true rfl, Nat.le_of_ble_eq_true rfl⟩) hS hA hP (fun r_20 H locs hw_20 hP hS => ?_)
                    try dsimp only at hw_20
                    refine lv_iload hx hb dX8_waits_145 (lv_at hl 3 rfl) ?_
                    refine ro_i (D := D) (va_runS (As := [.int p4, .int r_20, .int nw_16]) (rest := [.int x_19]) ⟨hx, hb, hml, hown, hts⟩ ((n_mixed l D k st lo p4 r_20 nw_16) H.size) (va_cwS 3 hts (gS tw_1269 tw_1270 tw_87 tw_1271) rfl rfl rfl (by decide +kernel) ⟨Nat.le_of_ble_eq_true rfl, Nat.le_of_ble_eq_true rfl⟩) (pS hS hAlo hlo hP hK (va_Dlo hD hAlo) hZ [] (by decide) rfl) rfl rfl hl.1 rfl (lv_room (Nat.le_of_ble_eq_true rfl)) dX8_waits_147 ⟨Nat.le_of_ble_eq_true rfl, Nat.le_of_ble_eq_true rfl⟩) hS hA hP (fun r_21 H locs hw_21 hP hS => ?_)
                    try dsimp only at hw_21
                    refine lv_iadd hx hb dX8_waits_150 ?_
                    refine lv_topi (fun x_22 ex_22 => ?_)
                    refine lv_istore (lv' := [(8, .int x_22), (11, .int (nI mm_16)), (10, .int be_16), (9, .int le_16), (0, .ref (a 0)), (1, .int (nI j_2)), (2, .int (nI j_6)), (3, .int (nI j_4)), (4, .int (nI j_8)), (5, .int p4), (6, .int p5), (7, .int p6)]) hx hb dX8_waits_151 hl (by decide) rfl (fun ls hl => ?_)
                    refine lv_iload hx hb dX8_waits_153 (lv_at hl 0 rfl) ?_
                    refine lv_iload hx hb dX8_waits_155 (lv_at hl 3 rfl) ?_
                    refine lv_icmp_ge (tgt := 165) hx hb dX8_waits_157 (by decide) (fun c_23 => ?_) (fun c_23 => ?_)
                    · refine lv_iload hx hb dX8_waits_165 (lv_at hl 2 rfl) ?_
                      refine lv_istore (lv' := [(10, .int be_16), (8, .int x_22), (11, .int (nI mm_16)), (9, .int le_16), (0, .ref (a 0)), (1, .int (nI j_2)), (2, .int (nI j_6)), (3, .int (nI j_4)), (4, .int (nI j_8)), (5, .int p4), (6, .int p5), (7, .int p6)]) hx hb dX8_waits_167 hl (by decide) rfl (fun ls hl => ?_)
                      refine lv_iload hx hb dX8_waits_169 (lv_at hl 1 rfl) ?_
                      refine lv_iload hx hb dX8_waits_171 (lv_at hl 3 rfl) ?_
                      refine lv_icmp_ge (tgt := 181) hx hb dX8_waits_173 (by decide) (fun c_24 => ?_) (fun c_24 => absurd c_24 (fun h => h c_23))
                      refine lv_iload hx hb dX8_waits_181 (lv_at hl 3 rfl) ?_
                      refine lv_istore (lv' := [(9, .int le_16), (10, .int be_16), (8, .int x_22), (11, .int (nI mm_16)), (0, .ref (a 0)), (1, .int (nI j_2)), (2, .int (nI j_6)), (3, .int (nI j_4)), (4, .int (nI j_8)), (5, .int p4), (6, .int p5), (7, .int p6)]) hx hb dX8_waits_183 hl (by decide) rfl (fun ls hl => ?_)
                      refine lv_iinc (v := (nI (mm_16 + 1))) (lv' := [(11, .int (nI (mm_16 + 1))), (9, .int le_16), (10, .int be_16), (8, .int x_22), (0, .ref (a 0)), (1, .int (nI j_2)), (2, .int (nI j_6)), (3, .int (nI j_4)), (4, .int (nI j_8)), (5, .int p4), (6, .int p5), (7, .int p6)]) hx hb dX8_waits_185 hl (k := 3) rfl (nI_add mm_16 1) (by decide) rfl (fun ls hl => ?_)
                      refine lv_goto (tgt := 123) hx hb dX8_waits_188 (by decide) ?_
                      have hst_16 := wt_ge (on := (fons__14 (192 * j_6 + 8 * j_4 + j_8))) (t := fM_taking dn se tm gs fprices j_2 j_4 (nI j_6)) (q := p4) (u := p5) (j := mm_16) (m := mm_16 - 1) (by omega) hv_16.2.2.1 hv_16.2.2.2.1 hv_16.2.2.2.2 (by rw [ex_22, ex_19, hw_21, hw_20]; rfl) (Int32.not_lt.mpr c_23)
                      exact ih_16 _ (mm_16 + 1, x_22, le_16, be_16) _ _ _ (by omega) ⟨rfl, ⟨by omega, by omega, (by rw [show mm_16 + 1 - 1 = mm_16 by omega]; exact hst_16.1), (by rw [show mm_16 + 1 - 1 = mm_16 by omega]; exact hst_16.2.1), (by rw [show mm_16 + 1 - 1 = mm_16 by omega]; exact hst_16.2.2)⟩, hP, hD, hS, (lv_sub hl [0, 2, 1, 3, 4, 5, 6, 7, 8, 9, 10, 11] rfl)⟩
                    · refine lv_iload hx hb dX8_waits_160 (lv_at hl 1 rfl) ?_
                      refine lv_goto (tgt := 167) hx hb dX8_waits_162 (by decide) ?_
                      refine lv_istore (lv' := [(10, .int (nI mm_16)), (8, .int x_22), (11, .int (nI mm_16)), (9, .int le_16), (0, .ref (a 0)), (1, .int (nI j_2)), (2, .int (nI j_6)), (3, .int (nI j_4)), (4, .int (nI j_8)), (5, .int p4), (6, .int p5), (7, .int p6)]) hx hb dX8_waits_167 hl (by decide) rfl (fun ls hl => ?_)
                      refine lv_iload hx hb dX8_waits_169 (lv_at hl 1 rfl) ?_
                      refine lv_iload hx hb dX8_waits_171 (lv_at hl 3 rfl) ?_
                      refine lv_icmp_ge (tgt := 181) hx hb dX8_waits_173 (by decide) (fun c_25 => absurd c_25 (c_23)) (fun c_25 => ?_)
                      refine lv_iload hx hb dX8_waits_176 (lv_at hl 1 rfl) ?_
                      refine lv_goto (tgt := 183) hx hb dX8_waits_178 (by decide) ?_
                      refine lv_istore (lv' := [(9, .int x_22), (10, .int (nI mm_16)), (8, .int x_22), (11, .int (nI mm_16)), (0, .ref (a 0)), (1, .int (nI j_2)), (2, .int (nI j_6)), (3, .int (nI j_4)), (4, .int (nI j_8)), (5, .int p4), (6, .int p5), (7, .int p6)]) hx hb dX8_waits_183 hl (by decide) rfl (fun ls hl => ?_)
                      refine lv_iinc (v := (nI (mm_16 + 1))) (lv' := [(11, .int (nI (mm_16 + 1))), (9, .int x_22), (10, .int (nI mm_16)), (8, .int x_22), (0, .ref (a 0)), (1, .int (nI j_2)), (2, .int (nI j_6)), (3, .int (nI j_4)), (4, .int (nI j_8)), (5, .int p4), (6, .int p5), (7, .int p6)]) hx hb dX8_waits_185 hl (k := 3) rfl (nI_add mm_16 1) (by decide) rfl (fun ls hl => ?_)
                      refine lv_goto (tgt := 123) hx hb dX8_waits_188 (by decide) ?_
                      have hst_16 := wt_lt (on := (fons__14 (192 * j_6 + 8 * j_4 + j_8))) (t := fM_taking dn se tm gs fprices j_2 j_4 (nI j_6)) (q := p4) (u := p5) (j := mm_16) (m := mm_16 - 1) (by omega) hv_16.2.2.1 hv_16.2.2.2.1 (by rw [ex_22, ex_19, hw_21, hw_20]; rfl) (Int32.not_le.mp c_23)
                      exact ih_16 _ (mm_16 + 1, x_22, x_22, (nI mm_16)) _ _ _ (by omega) ⟨rfl, ⟨by omega, by omega, (by rw [show mm_16 + 1 - 1 = mm_16 by omega]; exact hst_16.1), (by rw [show mm_16 + 1 - 1 = mm_16 by omega]; exact hst_16.2.1), (by rw [show mm_16 + 1 - 1 = mm_16 by omega]; exact hst_16.2.2)⟩, hP, hD, hS, (lv_sub hl [0, 2, 1, 3, 4, 5, 6, 7, 8, 9, 10, 11] rfl)⟩
                · rw [ex_12] at c_13
                  refine lv_sipush (v := (-1003)) hx hb dX8_waits_90 (by decide) ?_
                  obtain ⟨hP9, hD9⟩ := pd_sub [((a 0), .inr (8, (fX8 a (nI tx) fp (nI t0) wd (nI we) nu na (nI rd) ts (nI ru) (nI rw) (nI ca) df db sd))), (aI k (a 1) 3 (nF dn)), (aI k (a 4) 27 (sg se tm gs)), (aI k (a 2) 72 ffrees), (aI k (a 3) 72 fprices), (aI k (a 18) 768 fons), (aI k (a 19) 768 fworths), (aI k (a 20) 5 fstarts), (aI k (a 21) 4 fends), (aZ k (a 22) 4 fgoesRound), (aI k (a 23) 8 fbegin)] [0, 1, 2, 3, 4, 5, 6, 7, 8, 9, 10] hP hD (by decide +kernel) rfl
                  exact W.iret (v := (-1003)) hx hb hr (fun t ht hW => ⟨⟨(-1003), (fons, fworths, fstarts, fends, fgoesRound, fbegin), rfl, dq_at (s := j_2) (by omega) (show dn j_2 ≤ 24 by omega) (show j_4 < dn j_2 by omega) (show siA (nI j_6) (nI j_8) (wtA p4 p5 p6) (sdM dn (sg se tm gs) ffrees fprices j_2) j_4 _ from si_at (by rw [tmM (htm _)]; exact htm _) (by rw [seM (hse _)]; exact hse _) (by rw [tmM (htm _)]; omega) (by rw [seM (hse _)]; exact hj_8) (wq_n ⟨hw_9, hw_10, hw_11⟩ (((ev_and j_8 hg8_8).2).mp c_13))), by rw [ht]; exact hP9, hD9⟩, hS.F ht⟩) hS.2.2 dX8_waits_93
              · refine lv_if_ne (tgt := 82) hx hb dX8_waits_75 (by decide) (fun h => absurd (by decide) h) (fun _ => ?_)
                refine lv_sipush (v := (-1002)) hx hb dX8_waits_78 (by decide) ?_
                obtain ⟨hP9, hD9⟩ := pd_sub [((a 0), .inr (8, (fX8 a (nI tx) fp (nI t0) wd (nI we) nu na (nI rd) ts (nI ru) (nI rw) (nI ca) df db sd))), (aI k (a 1) 3 (nF dn)), (aI k (a 4) 27 (sg se tm gs)), (aI k (a 2) 72 ffrees), (aI k (a 3) 72 fprices), (aI k (a 18) 768 fons), (aI k (a 19) 768 fworths), (aI k (a 20) 5 fstarts), (aI k (a 21) 4 fends), (aZ k (a 22) 4 fgoesRound), (aI k (a 23) 8 fbegin)] [0, 1, 2, 3, 4, 5, 6, 7, 8, 9, 10] hP hD (by decide +kernel) rfl
                exact W.iret (v := (-1002)) hx hb hr (fun t ht hW => ⟨⟨(-1002), (fons, fworths, fstarts, fends, fgoesRound, fbegin), rfl, dq_at (s := j_2) (by omega) (show dn j_2 ≤ 24 by omega) (show j_4 < dn j_2 by omega) (show siA (nI j_6) (nI j_8) (wtA p4 p5 p6) (sdM dn (sg se tm gs) ffrees fprices j_2) j_4 _ from si_at (by rw [tmM (htm _)]; exact htm _) (by rw [seM (hse _)]; exact hse _) (by rw [tmM (htm _)]; omega) (by rw [seM (hse _)]; exact hj_8) (wq_o (fun h => absurd h.2.2 hw_11))), by rw [ht]; exact hP9, hD9⟩, hS.F ht⟩) hS.2.2 dX8_waits_81
            · refine lv_if_eq (tgt := 78) hx hb dX8_waits_64 (by decide) (fun _ => ?_) (fun h => absurd (by decide) h)
              refine lv_sipush (v := (-1002)) hx hb dX8_waits_78 (by decide) ?_
              obtain ⟨hP9, hD9⟩ := pd_sub [((a 0), .inr (8, (fX8 a (nI tx) fp (nI t0) wd (nI we) nu na (nI rd) ts (nI ru) (nI rw) (nI ca) df db sd))), (aI k (a 1) 3 (nF dn)), (aI k (a 4) 27 (sg se tm gs)), (aI k (a 2) 72 ffrees), (aI k (a 3) 72 fprices), (aI k (a 18) 768 fons), (aI k (a 19) 768 fworths), (aI k (a 20) 5 fstarts), (aI k (a 21) 4 fends), (aZ k (a 22) 4 fgoesRound), (aI k (a 23) 8 fbegin)] [0, 1, 2, 3, 4, 5, 6, 7, 8, 9, 10] hP hD (by decide +kernel) rfl
              exact W.iret (v := (-1002)) hx hb hr (fun t ht hW => ⟨⟨(-1002), (fons, fworths, fstarts, fends, fgoesRound, fbegin), rfl, dq_at (s := j_2) (by omega) (show dn j_2 ≤ 24 by omega) (show j_4 < dn j_2 by omega) (show siA (nI j_6) (nI j_8) (wtA p4 p5 p6) (sdM dn (sg se tm gs) ffrees fprices j_2) j_4 _ from si_at (by rw [tmM (htm _)]; exact htm _) (by rw [seM (hse _)]; exact hse _) (by rw [tmM (htm _)]; omega) (by rw [seM (hse _)]; exact hj_8) (wq_o (fun h => absurd h.2.1 hw_10))), by rw [ht]; exact hP9, hD9⟩, hS.F ht⟩) hS.2.2 dX8_waits_81
          · refine lv_if_eq (tgt := 78) hx hb dX8_waits_51 (by decide) (fun _ => ?_) (fun h => absurd (by decide) h)
            refine lv_sipush (v := (-1002)) hx hb dX8_waits_78 (by decide) ?_
            obtain ⟨hP9, hD9⟩ := pd_sub [((a 0), .inr (8, (fX8 a (nI tx) fp (nI t0) wd (nI we) nu na (nI rd) ts (nI ru) (nI rw) (nI ca) df db sd))), (aI k (a 1) 3 (nF dn)), (aI k (a 4) 27 (sg se tm gs)), (aI k (a 2) 72 ffrees), (aI k (a 3) 72 fprices), (aI k (a 18) 768 fons), (aI k (a 19) 768 fworths), (aI k (a 20) 5 fstarts), (aI k (a 21) 4 fends), (aZ k (a 22) 4 fgoesRound), (aI k (a 23) 8 fbegin)] [0, 1, 2, 3, 4, 5, 6, 7, 8, 9, 10] hP hD (by decide +kernel) rfl
            exact W.iret (v := (-1002)) hx hb hr (fun t ht hW => ⟨⟨(-1002), (fons, fworths, fstarts, fends, fgoesRound, fbegin), rfl, dq_at (s := j_2) (by omega) (show dn j_2 ≤ 24 by omega) (show j_4 < dn j_2 by omega) (show siA (nI j_6) (nI j_8) (wtA p4 p5 p6) (sdM dn (sg se tm gs) ffrees fprices j_2) j_4 _ from si_at (by rw [tmM (htm _)]; exact htm _) (by rw [seM (hse _)]; exact hse _) (by rw [tmM (htm _)]; omega) (by rw [seM (hse _)]; exact hj_8) (wq_o (fun h => absurd h.1 hw_9))), by rw [ht]; exact hP9, hD9⟩, hS.F ht⟩) hS.2.2 dX8_waits_81
        · refine lv_if_eq (tgt := 78) hx hb dX8_waits_38 (by decide) (fun _ => ?_) (fun h => absurd (by decide) h)
          refine lv_sipush (v := (-1002)) hx hb dX8_waits_78 (by decide) ?_
          obtain ⟨hP9, hD9⟩ := pd_sub [((a 0), .inr (8, (fX8 a (nI tx) fp (nI t0) wd (nI we) nu na (nI rd) ts (nI ru) (nI rw) (nI ca) df db sd))), (aI k (a 1) 3 (nF dn)), (aI k (a 4) 27 (sg se tm gs)), (aI k (a 2) 72 ffrees), (aI k (a 3) 72 fprices), (aI k (a 18) 768 fons), (aI k (a 19) 768 fworths), (aI k (a 20) 5 fstarts), (aI k (a 21) 4 fends), (aZ k (a 22) 4 fgoesRound), (aI k (a 23) 8 fbegin)] [0, 1, 2, 3, 4, 5, 6, 7, 8, 9, 10] hP hD (by decide +kernel) rfl
          exact W.iret (v := (-1002)) hx hb hr (fun t ht hW => ⟨⟨(-1002), (fons, fworths, fstarts, fends, fgoesRound, fbegin), rfl, dq_at (s := j_2) (by omega) (show dn j_2 ≤ 24 by omega) (show j_4 < dn j_2 by omega) (show siA (nI j_6) p3 (wtA p4 p5 p6) (sdM dn (sg se tm gs) ffrees fprices j_2) j_4 _ from si_no (fun rn g c => hw_7 g c.2.2.1 (by have h9 := c.2.2.2; rw [seM (hse _)] at h9; exact h9))), by rw [ht]; exact hP9, hD9⟩, hS.F ht⟩) hS.2.2 dX8_waits_81
      · refine lv_if_eq (tgt := 78) hx hb dX8_waits_27 (by decide) (fun _ => ?_) (fun h => absurd (by decide) h)
        refine lv_sipush (v := (-1002)) hx hb dX8_waits_78 (by decide) ?_
        obtain ⟨hP9, hD9⟩ := pd_sub [((a 0), .inr (8, (fX8 a (nI tx) fp (nI t0) wd (nI we) nu na (nI rd) ts (nI ru) (nI rw) (nI ca) df db sd))), (aI k (a 1) 3 (nF dn)), (aI k (a 4) 27 (sg se tm gs)), (aI k (a 2) 72 ffrees), (aI k (a 3) 72 fprices), (aI k (a 18) 768 fons), (aI k (a 19) 768 fworths), (aI k (a 20) 5 fstarts), (aI k (a 21) 4 fends), (aZ k (a 22) 4 fgoesRound), (aI k (a 23) 8 fbegin)] [0, 1, 2, 3, 4, 5, 6, 7, 8, 9, 10] hP hD (by decide +kernel) rfl
        exact W.iret (v := (-1002)) hx hb hr (fun t ht hW => ⟨⟨(-1002), (fons, fworths, fstarts, fends, fgoesRound, fbegin), rfl, dq_at (s := j_2) (by omega) (show dn j_2 ≤ 24 by omega) (show j_4 < dn j_2 by omega) (show siA p1 p3 (wtA p4 p5 p6) (sdM dn (sg se tm gs) ffrees fprices j_2) j_4 _ from si_no (fun rn g c => hw_5 (by rw [c.1]; exact inr (by have h9 := c.2.1; rw [tmM (htm _)] at h9; exact h9) (htm _)))), by rw [ht]; exact hP9, hD9⟩, hS.F ht⟩) hS.2.2 dX8_waits_81
    · refine lv_if_ne (tgt := 21) hx hb dX8_waits_14 (by decide) (fun h => absurd (by decide) h) (fun _ => ?_)
      refine lv_sipush (v := (-1001)) hx hb dX8_waits_17 (by decide) ?_
      obtain ⟨hP9, hD9⟩ := pd_sub [((a 0), .inr (8, (fX8 a (nI tx) fp (nI t0) wd (nI we) nu na (nI rd) ts (nI ru) (nI rw) (nI ca) df db sd))), (aI k (a 1) 3 (nF dn)), (aI k (a 4) 27 (sg se tm gs)), (aI k (a 2) 72 ffrees), (aI k (a 3) 72 fprices), (aI k (a 18) 768 fons), (aI k (a 19) 768 fworths), (aI k (a 20) 5 fstarts), (aI k (a 21) 4 fends), (aZ k (a 22) 4 fgoesRound), (aI k (a 23) 8 fbegin)] [0, 1, 2, 3, 4, 5, 6, 7, 8, 9, 10] hP hD (by decide +kernel) rfl
      exact W.iret (v := (-1001)) hx hb hr (fun t ht hW => ⟨⟨(-1001), (fons, fworths, fstarts, fends, fgoesRound, fbegin), rfl, dq_no (fun s h1 h2 i h3 h4 => by have h9 := nI_inj (by omega) (by omega) h2; subst h9; exact hw_3 i h3 h4), by rw [ht]; exact hP9, hD9⟩, hS.F ht⟩) hS.2.2 dX8_waits_20
  · refine lv_if_eq (tgt := 17) hx hb dX8_waits_5 (by decide) (fun _ => ?_) (fun h => absurd (by decide) h)
    refine lv_sipush (v := (-1001)) hx hb dX8_waits_17 (by decide) ?_
    obtain ⟨hP9, hD9⟩ := pd_sub [((a 0), .inr (8, (fX8 a (nI tx) fp (nI t0) wd (nI we) nu na (nI rd) ts (nI ru) (nI rw) (nI ca) df db sd))), (aI k (a 1) 3 (nF dn)), (aI k (a 4) 27 (sg se tm gs)), (aI k (a 2) 72 ffrees), (aI k (a 3) 72 fprices), (aI k (a 18) 768 fons), (aI k (a 19) 768 fworths), (aI k (a 20) 5 fstarts), (aI k (a 21) 4 fends), (aZ k (a 22) 4 fgoesRound), (aI k (a 23) 8 fbegin)] [0, 1, 2, 3, 4, 5, 6, 7, 8, 9, 10] hP hD (by decide +kernel) rfl
    exact W.iret (v := (-1001)) hx hb hr (fun t ht hW => ⟨⟨(-1001), (fons, fworths, fstarts, fends, fgoesRound, fbegin), rfl, dq_no (fun s h1 h2 i h3 h4 => hw_1 s h1 h2 (by show 0 < dn s; replace h4 : i < dn s := h4; omega)), by rw [ht]; exact hP9, hD9⟩, hS.F ht⟩) hS.2.2 dX8_waits_20

theorem f_glueP21 : True := trivial
/-! the boy who knows: the least so far (0: the end, b + 1: door b) -/
def boL (d : SDt) (E : Int32) (b : Nat) : Int32 := match b with | 0 => E | b + 1 => pTake d 0 b
def boV (d : SDt) (E : Int32) : Nat → Nat → Nat → Int32
  | 0, b, _ => boL d E b
  | m + 1, b, a => pMix (pChance d (d.1 - (m + 1)) (nI a)) (boV d E m (if boL d E (d.1 - (m + 1) + 1) < boL d E b then d.1 - (m + 1) + 1 else b) 1) (boV d E m b 0)
theorem bo_v {d : SDt} {E x c f o : Int32} {i b a : Nat} (hi : i < d.1) (hc : c = pChance d i (nI a)) (hf : f = boV d E (d.1 - (i + 1)) (if boL d E (i + 1) < boL d E b then i + 1 else b) 1) (ho : o = boV d E (d.1 - (i + 1)) b 0) (hx : x = pMix c f o) : x = boV d E (d.1 - i) b a := by
  rw [show d.1 - i = (d.1 - (i + 1)) + 1 by omega]
  show x = pMix (pChance d (d.1 - (d.1 - (i + 1) + 1)) (nI a)) (boV d E (d.1 - (i + 1)) (if boL d E (d.1 - (d.1 - (i + 1) + 1) + 1) < boL d E b then d.1 - (d.1 - (i + 1) + 1) + 1 else b) 1) (boV d E (d.1 - (i + 1)) b 0)
  rw [show d.1 - (d.1 - (i + 1) + 1) = i by omega, hx, hc, hf, ho]
theorem bo_st {d : SDt} {E x : Int32} {m m2 a i be : Nat} {f : Nat → Int32} (h1 : ∀ b, b < be → f b = boV d E m b a) (h2 : ∀ b, be ≤ b → b < i + 2 → f b = boV d E m2 b a) (hx : x = boV d E m be a) : (∀ b, b < be + 1 → upd f be x b = boV d E m b a) ∧ ∀ b, be + 1 ≤ b → b < i + 2 → upd f be x b = boV d E m2 b a := by
  refine ⟨fun b hb => ?_, fun b hb hb2 => ?_⟩
  · by_cases e : b = be
    · rw [e, pk_us]
      exact hx
    · rw [pk_un e]
      exact h1 b (by omega)
  · rw [pk_un (by omega)]
    exact h2 b (by omega) hb2
def bph (d : SDt) (E : Int32) (L : Nat) : Nat := if L < d.1 ∧ pTake d 0 L < E then L + 1 else 0
theorem bph_1 {d : SDt} {E : Int32} {L : Nat} (h1 : L < d.1) (h2 : pTake d 0 L < E) : bph d E L = L + 1 := if_pos ⟨h1, h2⟩
theorem bph_0 {d : SDt} {E : Int32} {L : Nat} (h : ¬ (L < d.1 ∧ pTake d 0 L < E)) : bph d E L = 0 := if_neg h
theorem i_lt {a b c : Int32} (h : a < b) (k : b < c) : a < c := Int32.lt_iff_toInt_lt.mpr (by have := Int32.lt_iff_toInt_lt.mp h; have := Int32.lt_iff_toInt_lt.mp k; omega)
theorem bph_y {d : SDt} {E : Int32} {i L : Nat} (hi : i < d.1) (h : ¬ L < d.1 ∨ pTake d 0 i < pTake d 0 L) : bph d E i = (if boL d E (i + 1) < boL d E (bph d E L) then i + 1 else bph d E L) := by
  by_cases c : L < d.1 ∧ pTake d 0 L < E
  · have h2 := h.resolve_left (fun q => q c.1)
    rw [bph_1 c.1 c.2]
    show bph d E i = (if pTake d 0 i < pTake d 0 L then i + 1 else L + 1)
    rw [if_pos h2, bph_1 hi (i_lt h2 c.2)]
  · rw [bph_0 c]
    show bph d E i = (if pTake d 0 i < E then i + 1 else 0)
    unfold bph
    by_cases q : pTake d 0 i < E
    · rw [if_pos ⟨hi, q⟩, if_pos q]
    · rw [if_neg (fun z => q z.2), if_neg q]
theorem bph_n {d : SDt} {E : Int32} {i L : Nat} (hL : L < d.1) (h : ¬ pTake d 0 i < pTake d 0 L) : bph d E L = (if boL d E (i + 1) < boL d E (bph d E L) then i + 1 else bph d E L) := by
  by_cases c : L < d.1 ∧ pTake d 0 L < E
  · rw [bph_1 c.1 c.2]
    show L + 1 = (if pTake d 0 i < pTake d 0 L then i + 1 else L + 1)
    rw [if_neg h]
  · rw [bph_0 c]
    show 0 = (if pTake d 0 i < E then i + 1 else 0)
    have c2 : ¬ pTake d 0 L < E := fun q => c ⟨hL, q⟩
    rw [if_neg]
    rw [Int32.lt_iff_toInt_lt] at h c2 ⊢
    omega
theorem bo_0 {d : SDt} {E x : Int32} {L a : Nat} (h : x = boL d E (bph d E L)) : x = boV d E 0 (bph d E L) a := h
def boA (d : SDt) (r : Int32) : Prop := r = boV d (wayE d 0) d.1 0 0


set_option maxHeartbeats 4000000 in
set_option maxRecDepth 100000 in
theorem y_boyOf (l : Launch) (D : va_G) (k : Nat → ClassId) (st : Nat → Nat) (lo : Nat) (y0 : Nat) (y1 : Nat) (y2 : Nat) (y3 : Nat) (wt : Int32) (wc : Int32) (ya : Nat → Int32) (yb : Nat → Int32) (yd : Nat → Int32) (h0 : Nat) (h1 : Nat) (h2 : Nat) (h3 : Nat) (h4 : Nat) (n : Nat) (see : Nat) (tm : Nat) (g : Nat → Int32) (ff : Nat → Int32) (fp : Nat → Int32) (fl : Nat → Int32) (p1 : Int32) (hn : n ≤ 24) (hl9 : ∀ r, r < 4 → fl r = pLate (sdX n see tm g ff fp) r) (hok9 : okD (sdX n see tm g ff fp)) : CWi l D k st lo yX2_boyOf cX2_boyOf 8 (some .int) ({ frames := 2, cells := 0, slots := 0, locals := 83 }) 0 0 [.ref y0, .ref h0, .int p1] [(y0, .inr (2, (fX2 y1 y2 y3 wt wc))), (aI k y1 25 ya), (aI k y2 25 yb), (aI k y3 25 yd), (h0, .inr (5, (fX5 h1 h2 h3 h4))), (aI k h1 10 (vv n see tm g)), (aI k h2 24 ff), (aI k h3 24 fp), (aI k h4 4 fl)] (fun (r : Int32) (u : (Nat → Int32) × (Nat → Int32) × (Nat → Int32)) => match u with | (ya_, yb_, yd_) => r = boV (sdX n see tm g ff fp) p1 (n) 0 0) (fun (u : (Nat → Int32) × (Nat → Int32) × (Nat → Int32)) => match u with | (ya_, yb_, yd_) => [(y0, .inr (2, (fX2 y1 y2 y3 wt wc))), (aI k y1 25 ya_), (aI k y2 25 yb_), (aI k y3 25 yd_), (h0, .inr (5, (fX5 h1 h2 h3 h4))), (aI k h1 10 (vv n see tm g)), (aI k h2 24 ff), (aI k h3 24 fp), (aI k h4 4 fl)]) := by
  intro sz
  refine Met.ofW (cc := cX2_boyOf) (maxL := 8) (ret := (some .int)) (by decide) rfl ?_
  intro p e s m args below meth c s₁ B hml hv
  obtain ⟨rfl, hsz, hlo, hP, hK, hDL, hZ⟩ := hv
  have hx := B.exec
  have hb := B.bytes
  have hr := B.returns
  have hts := WS_ts B.pre
  have hown : s.vm.findClass RX2 = some m.cls := findClass_of_methodNamed B.named
  have hlocks := B.notSynchronized
  subst hsz
  have hD := hDL.self (sz := s.heap.size)
  have hAlo := A_lo hDL hlo
  generalize hAe : va_A [(y0, .inr (2, (fX2 y1 y2 y3 wt wc))), (aI k y1 25 ya), (aI k y2 25 yb), (aI k y3 25 yd), (h0, .inr (5, (fX5 h1 h2 h3 h4))), (aI k h1 10 (vv n see tm g)), (aI k h2 24 ff), (aI k h3 24 fp), (aI k h4 4 fl)] s.heap.size = A at hD hAlo ⊢
  have hA : ∀ q : Nat, s.heap.size ≤ q → A q := fun q h => by rw [← hAe]; exact Or.inr h
  have hS : va_S A s.heap s.heap [] := va_S.rf
  have hl := lv_entry ([.ref y0, .ref h0, .int p1]) (n := 8) (Nat.le_of_ble_eq_true rfl)
  rw [lg_entry_eq]
  generalize (lg_sl ([.ref y0, .ref h0, .int p1]) ++ List.replicate (8 - (lg_sl ([.ref y0, .ref h0, .int p1])).length) Slot.unset).toArray = ls at hl ⊢
  have hl : lv_has ls 8 [(0, .ref y0), (1, .ref h0), (2, .int p1)] := hl
  refine lv_aload_n hx hb dX2_boyOf_0 rfl (lv_at hl 1 rfl) ?_
  refine ro_i (D := D) (va_runV (As := []) (rest := []) ⟨hx, hb, hml, hown, hts⟩ ((x_doors l D k st lo h0 h1 h2 h3 h4 n see tm g) s.heap.size) (cwV 0 hts (gV tw_723 tw_478 tw_479 tw_81 tw_480) rfl rfl rfl (by decide +kernel) ⟨Nat.le_of_ble_eq_true rfl, Nat.le_of_ble_eq_true rfl⟩) (pV hS hAlo hlo hP hK (va_Dlo hD hAlo) hZ [4, 5] (by decide) rfl (ci := 5) (q := (RX5, TX5, 4)) (q0 := 0) rfl rfl) rfl rfl hl.1 rfl (lv_room (Nat.le_of_ble_eq_true rfl)) dX2_boyOf_1 ⟨Nat.le_of_ble_eq_true rfl, Nat.le_of_ble_eq_true rfl⟩) hS hA hP (fun r_1 H locs hw_1 hP hS => ?_)
  try dsimp only at hw_1
  subst hw_1
  refine lv_istore_n (lv' := [(3, .int (nI n)), (0, .ref y0), (1, .ref h0), (2, .int p1)]) hx hb dX2_boyOf_4 rfl hl (by decide) rfl (fun ls hl => ?_)
  refine lv_aload_n hx hb dX2_boyOf_5 rfl (lv_at hl 1 rfl) ?_
  refine va_get (D := D) (ci := 2) (v := .ref y3) (C := RX2) (T := TX2) (N := 5) hx hb hts inX2 hown hK hP 0 rfl rfl 2 (by decide) (hts _ tw_212) (fun _ h9 => h9) rfl dX2_boyOf_6 ?_
  refine lv_iconst (v := 0) hx hb dX2_boyOf_9 (by decide) ?_
  refine lv_iload_n hx hb dX2_boyOf_10 rfl (lv_at hl 3 rfl) ?_
  refine va_iast hx hb hK hP hD hS 3 1 rfl rfl (by unfold vp_in; decide) dX2_boyOf_11 (fun H locs hP hD hS => ?_)
  have hQ9 := pd_mk [(y0, .inr (2, (fX2 y1 y2 y3 wt wc))), (aI k y1 25 ya), (aI k y2 25 yb), (aI k y3 25 (upd yd (Int32.toNatClampNeg 0) p1)), (h0, .inr (5, (fX5 h1 h2 h3 h4))), (aI k h1 10 (vv n see tm g)), (aI k h2 24 ff), (aI k h3 24 fp), (aI k h4 4 fl)] hP hD
  clear hP hD
  obtain ⟨hP, hD⟩ := hQ9
  have hQ9 := pd_mk [(y0, .inr (2, (fX2 y1 y2 y3 wt wc))), (aI k y1 25 ya), (aI k y2 25 yb), (aI k y3 25 (upd yd 0 p1)), (h0, .inr (5, (fX5 h1 h2 h3 h4))), (aI k h1 10 (vv n see tm g)), (aI k h2 24 ff), (aI k h3 24 fp), (aI k h4 4 fl)] hP hD
  clear hP hD
  obtain ⟨hP, hD⟩ := hQ9
  refine lv_iconst (v := 0) hx hb dX2_boyOf_12 (by decide) ?_
  refine lv_istore (lv' := [(4, .int 0), (3, .int (nI n)), (0, .ref y0), (1, .ref h0), (2, .int p1)]) hx hb dX2_boyOf_13 hl (by decide) rfl (fun ls hl => ?_)
  refine W_loop (σ := Nat × (Nat → Int32)) (fun (n_ : Nat) (x_ : Nat × (Nat → Int32)) (H : Heap) (locs : List Loc) (ls : Array Slot) => match x_ with | (ii_3, yd2_3) => n_ = n - ii_3 ∧ (ii_3 ≤ n ∧ ∀ b, b < ii_3 + 1 → yd2_3 b = boL (sdX n see tm g ff fp) p1 b) ∧ va_P D classes [(y0, .inr (2, (fX2 y1 y2 y3 wt wc))), (aI k y1 25 ya), (aI k y2 25 yb), (aI k y3 25 yd2_3), (h0, .inr (5, (fX5 h1 h2 h3 h4))), (aI k h1 10 (vv n see tm g)), (aI k h2 24 ff), (aI k h3 24 fp), (aI k h4 4 fl)] H ∧ va_D A [(y0, .inr (2, (fX2 y1 y2 y3 wt wc))), (aI k y1 25 ya), (aI k y2 25 yb), (aI k y3 25 yd2_3), (h0, .inr (5, (fX5 h1 h2 h3 h4))), (aI k h1 10 (vv n see tm g)), (aI k h2 24 ff), (aI k h3 24 fp), (aI k h4 4 fl)] ∧ va_S A s.heap H locs ∧ lv_has ls 8 [(4, .int (nI ii_3)), (3, .int (nI n)), (0, .ref y0), (1, .ref h0), (2, .int p1)]) (fun n_3 x_3 H locs ls hI ih_3 => ?_) _ (0, (upd yd 0 p1)) ⟨rfl, ⟨by omega, fun b hb => by rw [show b = 0 by omega, pk_us]; rfl⟩, hP, hD, hS, (lv_sub hl [0, 1, 2, 3, 4] rfl)⟩
  obtain ⟨ii_3, yd2_3⟩ := x_3
  obtain ⟨hm_3, hv_3, hP, hD, hS, hl⟩ := hI
  subst hm_3
  refine lv_iload hx hb dX2_boyOf_15 (lv_at hl 0 rfl) ?_
  refine lv_iload_n hx hb dX2_boyOf_17 rfl (lv_at hl 1 rfl) ?_
  refine lv_icmp_ge (tgt := 43) hx hb dX2_boyOf_18 (by decide) (fun c_4 => ?_) (fun c_4 => ?_)
  · have c_4 := (nI_leI (a := n) (b := ii_3) (by omega) (by omega)).mp c_4
    have hLe_9 : ∀ b, b < n + 1 → yd2_3 b = boL (sdX n see tm g ff fp) p1 b := fun b hb => hv_3.2 b (by omega)
    refine lv_iconst (v := 0) hx hb dX2_boyOf_43 (by decide) ?_
    refine lv_istore (lv' := [(4, .int 0), (3, .int (nI n)), (0, .ref y0), (1, .ref h0), (2, .int p1)]) hx hb dX2_boyOf_44 hl (by decide) rfl (fun ls hl => ?_)
    refine W_loop (σ := Nat × (Nat → Int32) × (Nat → Int32)) (fun (n_ : Nat) (x_ : Nat × (Nat → Int32) × (Nat → Int32)) (H : Heap) (locs : List Loc) (ls : Array Slot) => match x_ with | (ii_5, ya2_5, yb2_5) => n_ = n + 1 - ii_5 ∧ (ii_5 ≤ n + 1 ∧ (∀ b, b < ii_5 → ya2_5 b = boL (sdX n see tm g ff fp) p1 b) ∧ (∀ b, b < ii_5 → yb2_5 b = boL (sdX n see tm g ff fp) p1 b)) ∧ va_P D classes [(y0, .inr (2, (fX2 y1 y2 y3 wt wc))), (aI k y1 25 ya2_5), (aI k y2 25 yb2_5), (aI k y3 25 yd2_3), (h0, .inr (5, (fX5 h1 h2 h3 h4))), (aI k h1 10 (vv n see tm g)), (aI k h2 24 ff), (aI k h3 24 fp), (aI k h4 4 fl)] H ∧ va_D A [(y0, .inr (2, (fX2 y1 y2 y3 wt wc))), (aI k y1 25 ya2_5), (aI k y2 25 yb2_5), (aI k y3 25 yd2_3), (h0, .inr (5, (fX5 h1 h2 h3 h4))), (aI k h1 10 (vv n see tm g)), (aI k h2 24 ff), (aI k h3 24 fp), (aI k h4 4 fl)] ∧ va_S A s.heap H locs ∧ lv_has ls 8 [(4, .int (nI ii_5)), (3, .int (nI n)), (0, .ref y0), (1, .ref h0), (2, .int p1)]) (fun n_5 x_5 H locs ls hI ih_5 => ?_) _ (0, ya, yb) ⟨rfl, ⟨by omega, fun b h => absurd h (Nat.not_lt_zero b), fun b h => absurd h (Nat.not_lt_zero b)⟩, hP, hD, hS, (lv_sub hl [0, 1, 2, 3, 4] rfl)⟩
    obtain ⟨ii_5, ya2_5, yb2_5⟩ := x_5
    obtain ⟨hm_5, hv_5, hP, hD, hS, hl⟩ := hI
    subst hm_5
    refine lv_iload hx hb dX2_boyOf_46 (lv_at hl 0 rfl) ?_
    refine lv_iload_n hx hb dX2_boyOf_48 rfl (lv_at hl 1 rfl) ?_
    refine lv_icmp_gt (tgt := 86) hx hb dX2_boyOf_49 (by decide) (fun c_6 => ?_) (fun c_6 => ?_)
    · have c_6 := (nI_ltI (a := n) (b := ii_5) (by omega) (by omega)).mp c_6
      refine lv_iload_n hx hb dX2_boyOf_86 rfl (lv_at hl 1 rfl) ?_
      refine lv_iconst (v := 1) hx hb dX2_boyOf_87 (by decide) ?_
      refine lv_isub hx hb dX2_boyOf_88 ?_
      refine lv_ti (y := (nI n - 1)) rfl ?_
      refine lv_istore (lv' := [(4, .int (nI n - 1)), (3, .int (nI n)), (0, .ref y0), (1, .ref h0), (2, .int p1)]) hx hb dX2_boyOf_89 hl (by decide) rfl (fun ls hl => ?_)
      refine W_loop (σ := Nat × (Nat → Int32) × (Nat → Int32)) (fun (n_ : Nat) (x_ : Nat × (Nat → Int32) × (Nat → Int32)) (H : Heap) (locs : List Loc) (ls : Array Slot) => match x_ with | (q_7, ya2_7, yb2_7) => n_ = 2 * q_7 ∧ (q_7 ≤ n ∧ (∀ b, b < q_7 + 1 → ya2_7 b = boV (sdX n see tm g ff fp) p1 (n - q_7) b 1) ∧ (∀ b, b < q_7 + 1 → yb2_7 b = boV (sdX n see tm g ff fp) p1 (n - q_7) b 0)) ∧ va_P D classes [(y0, .inr (2, (fX2 y1 y2 y3 wt wc))), (aI k y1 25 ya2_7), (aI k y2 25 yb2_7), (aI k y3 25 yd2_3), (h0, .inr (5, (fX5 h1 h2 h3 h4))), (aI k h1 10 (vv n see tm g)), (aI k h2 24 ff), (aI k h3 24 fp), (aI k h4 4 fl)] H ∧ va_D A [(y0, .inr (2, (fX2 y1 y2 y3 wt wc))), (aI k y1 25 ya2_7), (aI k y2 25 yb2_7), (aI k y3 25 yd2_3), (h0, .inr (5, (fX5 h1 h2 h3 h4))), (aI k h1 10 (vv n see tm g)), (aI k h2 24 ff), (aI k h3 24 fp), (aI k h4 4 fl)] ∧ va_S A s.heap H locs ∧ lv_has ls 8 [(4, .int (nI q_7 - 1)), (3, .int (nI n)), (0, .ref y0), (1, .ref h0), (2, .int p1)]) (fun n_7 x_7 H locs ls hI ih_7 => ?_) _ (n, ya2_5, yb2_5) ⟨rfl, ⟨by omega, fun b hb => by rw [Nat.sub_self]; exact hv_5.2.1 b (by omega), fun b hb => by rw [Nat.sub_self]; exact hv_5.2.2 b (by omega)⟩, hP, hD, hS, (lv_sub hl [0, 1, 2, 3, 4] rfl)⟩
      obtain ⟨q_7, ya2_7, yb2_7⟩ := x_7
      obtain ⟨hm_7, hv_7, hP, hD, hS, hl⟩ := hI
      subst hm_7
      rcases q_7 with _ | q_7
      · rw [dn0] at hl
        refine lv_iload hx hb dX2_boyOf_91 (lv_at hl 0 rfl) ?_
        refine lv_if_lt (tgt := 204) hx hb dX2_boyOf_93 (by decide) (fun _ => ?_) (fun h => absurd (by decide) h)
        refine lv_aload_n hx hb dX2_boyOf_204 rfl (lv_at hl 2 rfl) ?_
        refine va_get (D := D) (ci := 2) (v := .ref y2) (C := RX2) (T := TX2) (N := 5) hx hb hts inX2 hown hK hP 0 rfl rfl 1 (by decide) (hts _ tw_211) (fun _ h9 => h9) rfl dX2_boyOf_205 ?_
        refine lv_iconst (v := 0) hx hb dX2_boyOf_208 (by decide) ?_
        refine va_iald hx hb hK hP 2 1 rfl rfl (by unfold vp_in; decide) dX2_boyOf_209 ?_
        refine lv_ti (y := (yb2_7 0)) (by rfl) ?_
        obtain ⟨hP9, hD9⟩ := pd_sub [(y0, .inr (2, (fX2 y1 y2 y3 wt wc))), (aI k y1 25 ya2_7), (aI k y2 25 yb2_7), (aI k y3 25 yd2_3), (h0, .inr (5, (fX5 h1 h2 h3 h4))), (aI k h1 10 (vv n see tm g)), (aI k h2 24 ff), (aI k h3 24 fp), (aI k h4 4 fl)] [0, 1, 2, 3, 4, 5, 6, 7, 8] hP hD (by decide +kernel) rfl
        exact W.iret (v := (yb2_7 0)) hx hb hr (fun t ht hW => ⟨⟨(yb2_7 0), (ya2_7, yb2_7, yd2_3), rfl, hv_7.2.2 0 (by omega), by rw [ht]; exact hP9, hD9⟩, hS.F ht⟩) hS.2.2 dX2_boyOf_210
      · rw [nI_pred] at hl
        refine lv_iload hx hb dX2_boyOf_91 (lv_at hl 0 rfl) ?_
        refine lv_if_lt (tgt := 204) hx hb dX2_boyOf_93 (by decide) (fun h => absurd h (nI_pos0 (by omega))) (fun _ => ?_)
        refine lv_iconst (v := 0) hx hb dX2_boyOf_96 (by decide) ?_
        refine lv_istore (lv' := [(5, .int 0), (4, .int (nI q_7)), (3, .int (nI n)), (0, .ref y0), (1, .ref h0), (2, .int p1)]) hx hb dX2_boyOf_97 hl (by decide) rfl (fun ls hl => ?_)
        refine W_loop (σ := Nat × (Nat → Int32) × (Nat → Int32)) (fun (n_ : Nat) (x_ : Nat × (Nat → Int32) × (Nat → Int32)) (H : Heap) (locs : List Loc) (ls : Array Slot) => match x_ with | (be_8, ya3_8, yb3_8) => n_ = q_7 + 1 - be_8 ∧ (be_8 ≤ q_7 + 1 ∧ (∀ b, b < be_8 → ya3_8 b = boV (sdX n see tm g ff fp) p1 (n - q_7) b 1) ∧ (∀ b, b < be_8 → yb3_8 b = boV (sdX n see tm g ff fp) p1 (n - q_7) b 0) ∧ (∀ b, be_8 ≤ b → b < q_7 + 2 → ya3_8 b = boV (sdX n see tm g ff fp) p1 (n - (q_7 + 1)) b 1) ∧ (∀ b, be_8 ≤ b → b < q_7 + 2 → yb3_8 b = boV (sdX n see tm g ff fp) p1 (n - (q_7 + 1)) b 0)) ∧ va_P D classes [(y0, .inr (2, (fX2 y1 y2 y3 wt wc))), (aI k y1 25 ya3_8), (aI k y2 25 yb3_8), (aI k y3 25 yd2_3), (h0, .inr (5, (fX5 h1 h2 h3 h4))), (aI k h1 10 (vv n see tm g)), (aI k h2 24 ff), (aI k h3 24 fp), (aI k h4 4 fl)] H ∧ va_D A [(y0, .inr (2, (fX2 y1 y2 y3 wt wc))), (aI k y1 25 ya3_8), (aI k y2 25 yb3_8), (aI k y3 25 yd2_3), (h0, .inr (5, (fX5 h1 h2 h3 h4))), (aI k h1 10 (vv n see tm g)), (aI k h2 24 ff), (aI k h3 24 fp), (aI k h4 4 fl)] ∧ va_S A s.heap H locs ∧ lv_has ls 8 [(5, .int (nI be_8)), (4, .int (nI q_7)), (3, .int (nI n)), (0, .ref y0), (1, .ref h0), (2, .int p1)]) (fun n_8 x_8 H locs ls hI ih_8 => ?_) _ (0, ya2_7, yb2_7) ⟨rfl, ⟨by omega, fun b h => absurd h (Nat.not_lt_zero b), fun b h => absurd h (Nat.not_lt_zero b), fun b _ h => hv_7.2.1 b (by omega), fun b _ h => hv_7.2.2 b (by omega)⟩, hP, hD, hS, (lv_sub hl [0, 1, 2, 3, 4, 5] rfl)⟩
        obtain ⟨be_8, ya3_8, yb3_8⟩ := x_8
        obtain ⟨hm_8, hv_8, hP, hD, hS, hl⟩ := hI
        subst hm_8
        refine lv_iload hx hb dX2_boyOf_99 (lv_at hl 0 rfl) ?_
        refine lv_iload hx hb dX2_boyOf_101 (lv_at hl 1 rfl) ?_
        refine lv_icmp_gt (tgt := 198) hx hb dX2_boyOf_103 (by decide) (fun c_9 => ?_) (fun c_9 => ?_)
        · have c_9 := (nI_ltI (a := q_7) (b := be_8) (by omega) (by omega)).mp c_9
          refine lv_iinc (v := (nI q_7 - 1)) (lv' := [(4, .int (nI q_7 - 1)), (5, .int (nI be_8)), (3, .int (nI n)), (0, .ref y0), (1, .ref h0), (2, .int p1)]) hx hb dX2_boyOf_198 hl (k := 1) rfl (dn1 _) (by decide) rfl (fun ls hl => ?_)
          refine lv_goto (tgt := 91) hx hb dX2_boyOf_201 (by decide) ?_
          exact ih_7 _ (q_7, ya3_8, yb3_8) _ _ _ (by omega) ⟨rfl, ⟨by omega, fun b hb => hv_8.2.1 b (by omega), fun b hb => hv_8.2.2.1 b (by omega)⟩, hP, hD, hS, (lv_sub hl [0, 2, 3, 4, 5] rfl)⟩
        · have c_9 : ¬ (q_7 < be_8) := fun h => c_9 ((nI_ltI (a := q_7) (b := be_8) (by omega) (by omega)).mpr h)
          refine lv_aload_n hx hb dX2_boyOf_106 rfl (lv_at hl 3 rfl) ?_
          refine va_get (D := D) (ci := 2) (v := .ref y1) (C := RX2) (T := TX2) (N := 5) hx hb hts inX2 hown hK hP 0 rfl rfl 0 (by decide) (hts _ tw_210) (fun _ h9 => h9) rfl dX2_boyOf_107 ?_
          refine lv_aload_n hx hb dX2_boyOf_110 rfl (lv_at hl 3 rfl) ?_
          refine va_get (D := D) (ci := 2) (v := .ref y3) (C := RX2) (T := TX2) (N := 5) hx hb hts inX2 hown hK hP 0 rfl rfl 2 (by decide) (hts _ tw_212) (fun _ h9 => h9) rfl dX2_boyOf_111 ?_
          refine lv_iload hx hb dX2_boyOf_114 (lv_at hl 1 rfl) ?_
          refine lv_iconst (v := 1) hx hb dX2_boyOf_116 (by decide) ?_
          refine lv_iadd hx hb dX2_boyOf_117 ?_
          refine lv_ti (y := (nI (q_7 + 1))) (nI_add q_7 1) ?_
          refine va_iald hx hb hK hP 3 1 rfl rfl (vp_in_nI (by omega) (by decide)) dX2_boyOf_118 ?_
          refine lv_ti (y := (yd2_3 (q_7 + 1))) (by rw [nI_clamp (by omega)]) ?_
          refine lv_aload_n hx hb dX2_boyOf_119 rfl (lv_at hl 3 rfl) ?_
          refine va_get (D := D) (ci := 2) (v := .ref y3) (C := RX2) (T := TX2) (N := 5) hx hb hts inX2 hown hK hP 0 rfl rfl 2 (by decide) (hts _ tw_212) (fun _ h9 => h9) rfl dX2_boyOf_120 ?_
          refine lv_iload hx hb dX2_boyOf_123 (lv_at hl 0 rfl) ?_
          refine va_iald hx hb hK hP 3 1 rfl rfl (vp_in_nI (by omega) (by decide)) dX2_boyOf_125 ?_
          refine lv_ti (y := (yd2_3 be_8)) (by rw [nI_clamp (by omega)]) ?_
          refine lv_icmp_ge (tgt := 136) hx hb dX2_boyOf_126 (by decide) (fun c_10 => ?_) (fun c_10 => ?_)
          · refine lv_iload hx hb dX2_boyOf_136 (lv_at hl 0 rfl) ?_
            refine va_iald hx hb hK hP 1 1 rfl rfl (vp_in_nI (by omega) (by decide)) dX2_boyOf_138 ?_
            refine lv_ti (y := (ya3_8 be_8)) (by rw [nI_clamp (by omega)]) ?_
            refine lv_istore (lv' := [(6, .int (ya3_8 be_8)), (5, .int (nI be_8)), (4, .int (nI q_7)), (3, .int (nI n)), (0, .ref y0), (1, .ref h0), (2, .int p1)]) hx hb dX2_boyOf_139 hl (by decide) rfl (fun ls hl => ?_)
            refine lv_aload_n hx hb dX2_boyOf_141 rfl (lv_at hl 4 rfl) ?_
            refine va_get (D := D) (ci := 2) (v := .ref y2) (C := RX2) (T := TX2) (N := 5) hx hb hts inX2 hown hK hP 0 rfl rfl 1 (by decide) (hts _ tw_211) (fun _ h9 => h9) rfl dX2_boyOf_142 ?_
            refine lv_iload hx hb dX2_boyOf_145 (lv_at hl 1 rfl) ?_
            refine va_iald hx hb hK hP 2 1 rfl rfl (vp_in_nI (by omega) (by decide)) dX2_boyOf_147 ?_
            refine lv_ti (y := (yb3_8 be_8)) (by rw [nI_clamp (by omega)]) ?_
            refine lv_istore (lv' := [(7, .int (yb3_8 be_8)), (6, .int (ya3_8 be_8)), (5, .int (nI be_8)), (4, .int (nI q_7)), (3, .int (nI n)), (0, .ref y0), (1, .ref h0), (2, .int p1)]) hx hb dX2_boyOf_148 hl (by decide) rfl (fun ls hl => ?_)
            refine lv_aload_n hx hb dX2_boyOf_150 rfl (lv_at hl 5 rfl) ?_
            refine va_get (D := D) (ci := 2) (v := .ref y1) (C := RX2) (T := TX2) (N := 5) hx hb hts inX2 hown hK hP 0 rfl rfl 0 (by decide) (hts _ tw_210) (fun _ h9 => h9) rfl dX2_boyOf_151 ?_
            refine lv_iload hx hb dX2_boyOf_154 (lv_at hl 2 rfl) ?_
            refine lv_aload_n hx hb dX2_boyOf_156 rfl (lv_at hl 6 rfl) ?_
            refine lv_iload hx hb dX2_boyOf_157 (lv_at hl 3 rfl) ?_
            refine lv_iconst (v := 1) hx hb dX2_boyOf_159 (by decide) ?_
            refine ro_i (D := D) (va_runV (As := [.int (nI q_7), .int 1]) (rest := [.int (nI be_8), .ref y1]) ⟨hx, hb, hml, hown, hts⟩ ((y_chanceOf l D k st lo h0 h1 h2 h3 h4 n see tm g ff q_7 1 (by first | assumption | omega)) H.size) (cwV 2 hts (gV tw_733 tw_565 tw_566 tw_81 tw_567) rfl rfl rfl (by decide +kernel) ⟨Nat.le_of_ble_eq_true rfl, Nat.le_of_ble_eq_true rfl⟩) (pV hS hAlo hlo hP hK (va_Dlo hD hAlo) hZ [4, 5, 6] (by decide) rfl (ci := 5) (q := (RX5, TX5, 4)) (q0 := 0) rfl rfl) rfl rfl hl.1 rfl (lv_room (Nat.le_of_ble_eq_true rfl)) dX2_boyOf_160 ⟨Nat.le_of_ble_eq_true rfl, Nat.le_of_ble_eq_true rfl⟩) hS hA hP (fun r_11 H locs hw_11 hP hS => ?_)
            try dsimp only at hw_11
            refine lv_iload hx hb dX2_boyOf_163 (lv_at hl 1 rfl) ?_
            refine lv_iload hx hb dX2_boyOf_165 (lv_at hl 0 rfl) ?_
            refine ro_i (D := D) (va_runSN (As := [.int r_11, .int (ya3_8 be_8), .int (yb3_8 be_8)]) (rest := [.int (nI be_8), .ref y1]) ⟨hx, hb, hml, hown, hts⟩ ((y_mixed l D k st lo r_11 (ya3_8 be_8) (yb3_8 be_8)) H.size) ⟨va_cnB 3 hts (gLW tw_570) rfl rfl rfl (hZ.2.2.2.2.2.2.2.2.1.1 (RX2, 78, yX7_mixed, RX7) (List.mem_of_getElem? (i := 6) rfl)) (hts _ tw_79) (by decide +kernel) ⟨Nat.le_of_ble_eq_true rfl, Nat.le_of_ble_eq_true rfl⟩, hts _ tw_569, trivial⟩ (pS hS hAlo hlo hP hK (va_Dlo hD hAlo) hZ [] (by decide) rfl) rfl rfl hl.1 rfl (lv_room (Nat.le_of_ble_eq_true rfl)) dX2_boyOf_167 ⟨Nat.le_of_ble_eq_true rfl, Nat.le_of_ble_eq_true rfl⟩) hS hA hP (fun r_12 H locs hw_12 hP hS => ?_)
            try dsimp only at hw_12
            refine va_iast hx hb hK hP hD hS 1 1 rfl rfl (vp_in_nI (by omega) (by decide)) dX2_boyOf_170 (fun H locs hP hD hS => ?_)
            have hQ9 := pd_mk [(y0, .inr (2, (fX2 y1 y2 y3 wt wc))), (aI k y1 25 (upd ya3_8 (Int32.toNatClampNeg (nI be_8)) r_12)), (aI k y2 25 yb3_8), (aI k y3 25 yd2_3), (h0, .inr (5, (fX5 h1 h2 h3 h4))), (aI k h1 10 (vv n see tm g)), (aI k h2 24 ff), (aI k h3 24 fp), (aI k h4 4 fl)] hP hD
            clear hP hD
            obtain ⟨hP, hD⟩ := hQ9
            rw [nI_clamp (n := be_8) (by omega)] at hP hD
            have hQ9 := pd_mk [(y0, .inr (2, (fX2 y1 y2 y3 wt wc))), (aI k y1 25 (upd ya3_8 be_8 r_12)), (aI k y2 25 yb3_8), (aI k y3 25 yd2_3), (h0, .inr (5, (fX5 h1 h2 h3 h4))), (aI k h1 10 (vv n see tm g)), (aI k h2 24 ff), (aI k h3 24 fp), (aI k h4 4 fl)] hP hD
            clear hP hD
            obtain ⟨hP, hD⟩ := hQ9
            refine lv_aload_n hx hb dX2_boyOf_171 rfl (lv_at hl 5 rfl) ?_
            refine va_get (D := D) (ci := 2) (v := .ref y2) (C := RX2) (T := TX2) (N := 5) hx hb hts inX2 hown hK hP 0 rfl rfl 1 (by decide) (hts _ tw_211) (fun _ h9 => h9) rfl dX2_boyOf_172 ?_
            refine lv_iload hx hb dX2_boyOf_175 (lv_at hl 2 rfl) ?_
            refine lv_aload_n hx hb dX2_boyOf_177 rfl (lv_at hl 6 rfl) ?_
            refine lv_iload hx hb dX2_boyOf_178 (lv_at hl 3 rfl) ?_
            refine lv_iconst (v := 0) hx hb dX2_boyOf_180 (by decide) ?_
            refine ro_i (D := D) (va_runV (As := [.int (nI q_7), .int 0]) (rest := [.int (nI be_8), .ref y2]) ⟨hx, hb, hml, hown, hts⟩ ((y_chanceOf l D k st lo h0 h1 h2 h3 h4 n see tm g ff q_7 0 (by first | assumption | omega)) H.size) (cwV 2 hts (gV tw_733 tw_565 tw_566 tw_81 tw_567) rfl rfl rfl (by decide +kernel) ⟨Nat.le_of_ble_eq_true rfl, Nat.le_of_ble_eq_true rfl⟩) (pV hS hAlo hlo hP hK (va_Dlo hD hAlo) hZ [4, 5, 6] (by decide) rfl (ci := 5) (q := (RX5, TX5, 4)) (q0 := 0) rfl rfl) rfl rfl hl.1 rfl (lv_room (Nat.le_of_ble_eq_true rfl)) dX2_boyOf_181 ⟨Nat.le_of_ble_eq_true rfl, Nat.le_of_ble_eq_true rfl⟩) hS hA hP (fun r_14 H locs hw_14 hP hS => ?_)
            try dsimp only at hw_14
            refine lv_iload hx hb dX2_boyOf_184 (lv_at hl 1 rfl) ?_
            refine lv_iload hx hb dX2_boyOf_186 (lv_at hl 0 rfl) ?_
            refine ro_i (D := D) (va_runSN (As := [.int r_14, .int (ya3_8 be_8), .int (yb3_8 be_8)]) (rest := [.int (nI be_8), .ref y2]) ⟨hx, hb, hml, hown, hts⟩ ((y_mixed l D k st lo r_14 (ya3_8 be_8) (yb3_8 be_8)) H.size) ⟨va_cnB 3 hts (gLW tw_570) rfl rfl rfl (hZ.2.2.2.2.2.2.2.2.1.1 (RX2, 78, yX7_mixed, RX7) (List.mem_of_getElem? (i := 6) rfl)) (hts _ tw_79) (by decide +kernel) ⟨Nat.le_of_ble_eq_true rfl, Nat.le_of_ble_eq_true rfl⟩, hts _ tw_569, trivial⟩ (pS hS hAlo hlo hP hK (va_Dlo hD hAlo) hZ [] (by decide) rfl) rfl rfl hl.1 rfl (lv_room (Nat.le_of_ble_eq_true rfl)) dX2_boyOf_188 ⟨Nat.le_of_ble_eq_true rfl, Nat.le_of_ble_eq_true rfl⟩) hS hA hP (fun r_15 H locs hw_15 hP hS => ?_)
            try dsimp only at hw_15
            refine va_iast hx hb hK hP hD hS 2 1 rfl rfl (vp_in_nI (by omega) (by decide)) dX2_boyOf_191 (fun H locs hP hD hS => ?_)
            have hQ9 := pd_mk [(y0, .inr (2, (fX2 y1 y2 y3 wt wc))), (aI k y1 25 (upd ya3_8 be_8 r_12)), (aI k y2 25 (upd yb3_8 (Int32.toNatClampNeg (nI be_8)) r_15)), (aI k y3 25 yd2_3), (h0, .inr (5, (fX5 h1 h2 h3 h4))), (aI k h1 10 (vv n see tm g)), (aI k h2 24 ff), (aI k h3 24 fp), (aI k h4 4 fl)] hP hD
            clear hP hD
            obtain ⟨hP, hD⟩ := hQ9
            rw [nI_clamp (n := be_8) (by omega)] at hP hD
            have hQ9 := pd_mk [(y0, .inr (2, (fX2 y1 y2 y3 wt wc))), (aI k y1 25 (upd ya3_8 be_8 r_12)), (aI k y2 25 (upd yb3_8 be_8 r_15)), (aI k y3 25 yd2_3), (h0, .inr (5, (fX5 h1 h2 h3 h4))), (aI k h1 10 (vv n see tm g)), (aI k h2 24 ff), (aI k h3 24 fp), (aI k h4 4 fl)] hP hD
            clear hP hD
            obtain ⟨hP, hD⟩ := hQ9
            refine lv_iinc (v := (nI (be_8 + 1))) (lv' := [(5, .int (nI (be_8 + 1))), (7, .int (yb3_8 be_8)), (6, .int (ya3_8 be_8)), (4, .int (nI q_7)), (3, .int (nI n)), (0, .ref y0), (1, .ref h0), (2, .int p1)]) hx hb dX2_boyOf_192 hl (k := 2) rfl (nI_add be_8 1) (by decide) rfl (fun ls hl => ?_)
            refine lv_goto (tgt := 99) hx hb dX2_boyOf_195 (by decide) ?_
            have ha_8 := bo_v (d := (sdX n see tm g ff fp)) (E := p1) (b := be_8) (a := 1) (show q_7 < n by omega) (show _ = pChance (sdX n see tm g ff fp) q_7 (nI 1) from hw_11.trans (xChance (show q_7 < n by omega) (okX hok9 (show q_7 < n by omega)))) (by rw [if_neg (show ¬ boL (sdX n see tm g ff fp) p1 (q_7 + 1) < boL (sdX n see tm g ff fp) p1 be_8 from (by rw [← hLe_9 (q_7 + 1) (by omega), ← hLe_9 be_8 (by omega)]; exact Int32.not_lt.mpr c_10))]; exact hv_8.2.2.2.1 _ (by omega) (by omega)) (hv_8.2.2.2.2 be_8 (by omega) (by omega)) (hw_12.trans (mix_same (by rw [hw_11, xChance (see := see) (tm := tm) (fp := fp) (show q_7 < n by omega) (okX hok9 (show q_7 < n by omega))]; exact pCh_in)))
            have hb_8 := bo_v (d := (sdX n see tm g ff fp)) (E := p1) (b := be_8) (a := 0) (show q_7 < n by omega) (show _ = pChance (sdX n see tm g ff fp) q_7 (nI 0) from hw_14.trans (xChance (show q_7 < n by omega) (okX hok9 (show q_7 < n by omega)))) (by rw [if_neg (show ¬ boL (sdX n see tm g ff fp) p1 (q_7 + 1) < boL (sdX n see tm g ff fp) p1 be_8 from (by rw [← hLe_9 (q_7 + 1) (by omega), ← hLe_9 be_8 (by omega)]; exact Int32.not_lt.mpr c_10))]; exact hv_8.2.2.2.1 _ (by omega) (by omega)) (hv_8.2.2.2.2 be_8 (by omega) (by omega)) (hw_15.trans (mix_same (by rw [hw_14, xChance (see := see) (tm := tm) (fp := fp) (show q_7 < n by omega) (okX hok9 (show q_7 < n by omega))]; exact pCh_in)))
            have hsa_8 := bo_st (i := q_7) hv_8.2.1 hv_8.2.2.2.1 ha_8
            have hsb_8 := bo_st (i := q_7) hv_8.2.2.1 hv_8.2.2.2.2 hb_8
            exact ih_8 _ (be_8 + 1, (upd ya3_8 be_8 r_12), (upd yb3_8 be_8 r_15)) _ _ _ (by omega) ⟨rfl, ⟨by omega, hsa_8.1, hsb_8.1, hsa_8.2, hsb_8.2⟩, hP, hD, hS, (lv_sub hl [0, 3, 4, 5, 6, 7] rfl)⟩
          · refine lv_iload hx hb dX2_boyOf_129 (lv_at hl 1 rfl) ?_
            refine lv_iconst (v := 1) hx hb dX2_boyOf_131 (by decide) ?_
            refine lv_iadd hx hb dX2_boyOf_132 ?_
            refine lv_ti (y := (nI (q_7 + 1))) (nI_add q_7 1) ?_
            refine lv_goto (tgt := 138) hx hb dX2_boyOf_133 (by decide) ?_
            refine va_iald hx hb hK hP 1 1 rfl rfl (vp_in_nI (by omega) (by decide)) dX2_boyOf_138 ?_
            refine lv_ti (y := (ya3_8 (q_7 + 1))) (by rw [nI_clamp (by omega)]) ?_
            refine lv_istore (lv' := [(6, .int (ya3_8 (q_7 + 1))), (5, .int (nI be_8)), (4, .int (nI q_7)), (3, .int (nI n)), (0, .ref y0), (1, .ref h0), (2, .int p1)]) hx hb dX2_boyOf_139 hl (by decide) rfl (fun ls hl => ?_)
            refine lv_aload_n hx hb dX2_boyOf_141 rfl (lv_at hl 4 rfl) ?_
            refine va_get (D := D) (ci := 2) (v := .ref y2) (C := RX2) (T := TX2) (N := 5) hx hb hts inX2 hown hK hP 0 rfl rfl 1 (by decide) (hts _ tw_211) (fun _ h9 => h9) rfl dX2_boyOf_142 ?_
            refine lv_iload hx hb dX2_boyOf_145 (lv_at hl 1 rfl) ?_
            refine va_iald hx hb hK hP 2 1 rfl rfl (vp_in_nI (by omega) (by decide)) dX2_boyOf_147 ?_
            refine lv_ti (y := (yb3_8 be_8)) (by rw [nI_clamp (by omega)]) ?_
            refine lv_istore (lv' := [(7, .int (yb3_8 be_8)), (6, .int (ya3_8 (q_7 + 1))), (5, .int (nI be_8)), (4, .int (nI q_7)), (3, .int (nI n)), (0, .ref y0), (1, .ref h0), (2, .int p1)]) hx hb dX2_boyOf_148 hl (by decide) rfl (fun ls hl => ?_)
            refine lv_aload_n hx hb dX2_boyOf_150 rfl (lv_at hl 5 rfl) ?_
            refine va_get (D := D) (ci := 2) (v := .ref y1) (C := RX2) (T := TX2) (N := 5) hx hb hts inX2 hown hK hP 0 rfl rfl 0 (by decide) (hts _ tw_210) (fun _ h9 => h9) rfl dX2_boyOf_151 ?_
            refine lv_iload hx hb dX2_boyOf_154 (lv_at hl 2 rfl) ?_
            refine lv_aload_n hx hb dX2_boyOf_156 rfl (lv_at hl 6 rfl) ?_
            refine lv_iload hx hb dX2_boyOf_157 (lv_at hl 3 rfl) ?_
            refine lv_iconst (v := 1) hx hb dX2_boyOf_159 (by decide) ?_
            refine ro_i (D := D) (va_runV (As := [.int (nI q_7), .int 1]) (rest := [.int (nI be_8), .ref y1]) ⟨hx, hb, hml, hown, hts⟩ ((y_chanceOf l D k st lo h0 h1 h2 h3 h4 n see tm g ff q_7 1 (by first | assumption | omega)) H.size) (cwV 2 hts (gV tw_733 tw_565 tw_566 tw_81 tw_567) rfl rfl rfl (by decide +kernel) ⟨Nat.le_of_ble_eq_true rfl, Nat.le_of_ble_eq_true rfl⟩) (pV hS hAlo hlo hP hK (va_Dlo hD hAlo) hZ [4, 5, 6] (by decide) rfl (ci := 5) (q := (RX5, TX5, 4)) (q0 := 0) rfl rfl) rfl rfl hl.1 rfl (lv_room (Nat.le_of_ble_eq_true rfl)) dX2_boyOf_160 ⟨Nat.le_of_ble_eq_true rfl, Nat.le_of_ble_eq_true rfl⟩) hS hA hP (fun r_17 H locs hw_17 hP hS => ?_)
            try dsimp only at hw_17
            refine lv_iload hx hb dX2_boyOf_163 (lv_at hl 1 rfl) ?_
            refine lv_iload hx hb dX2_boyOf_165 (lv_at hl 0 rfl) ?_
            refine ro_i (D := D) (va_runSN (As := [.int r_17, .int (ya3_8 (q_7 + 1)), .int (yb3_8 be_8)]) (rest := [.int (nI be_8), .ref y1]) ⟨hx, hb, hml, hown, hts⟩ ((y_mixed l D k st lo r_17 (ya3_8 (q_7 + 1)) (yb3_8 be_8)) H.size) ⟨va_cnB 3 hts (gLW tw_570) rfl rfl rfl (hZ.2.2.2.2.2.2.2.2.1.1 (RX2, 78, yX7_mixed, RX7) (List.mem_of_getElem? (i := 6) rfl)) (hts _ tw_79) (by decide +kernel) ⟨Nat.le_of_ble_eq_true rfl, Nat.le_of_ble_eq_true rfl⟩, hts _ tw_569, trivial⟩ (pS hS hAlo hlo hP hK (va_Dlo hD hAlo) hZ [] (by decide) rfl) rfl rfl hl.1 rfl (lv_room (Nat.le_of_ble_eq_true rfl)) dX2_boyOf_167 ⟨Nat.le_of_ble_eq_true rfl, Nat.le_of_ble_eq_true rfl⟩) hS hA hP (fun r_18 H locs hw_18 hP hS => ?_)
            try dsimp only at hw_18
            refine va_iast hx hb hK hP hD hS 1 1 rfl rfl (vp_in_nI (by omega) (by decide)) dX2_boyOf_170 (fun H locs hP hD hS => ?_)
            have hQ9 := pd_mk [(y0, .inr (2, (fX2 y1 y2 y3 wt wc))), (aI k y1 25 (upd ya3_8 (Int32.toNatClampNeg (nI be_8)) r_18)), (aI k y2 25 yb3_8), (aI k y3 25 yd2_3), (h0, .inr (5, (fX5 h1 h2 h3 h4))), (aI k h1 10 (vv n see tm g)), (aI k h2 24 ff), (aI k h3 24 fp), (aI k h4 4 fl)] hP hD
            clear hP hD
            obtain ⟨hP, hD⟩ := hQ9
            rw [nI_clamp (n := be_8) (by omega)] at hP hD
            have hQ9 := pd_mk [(y0, .inr (2, (fX2 y1 y2 y3 wt wc))), (aI k y1 25 (upd ya3_8 be_8 r_18)), (aI k y2 25 yb3_8), (aI k y3 25 yd2_3), (h0, .inr (5, (fX5 h1 h2 h3 h4))), (aI k h1 10 (vv n see tm g)), (aI k h2 24 ff), (aI k h3 24 fp), (aI k h4 4 fl)] hP hD
            clear hP hD
            obtain ⟨hP, hD⟩ := hQ9
            refine lv_aload_n hx hb dX2_boyOf_171 rfl (lv_at hl 5 rfl) ?_
            refine va_get (D := D) (ci := 2) (v := .ref y2) (C := RX2) (T := TX2) (N := 5) hx hb hts inX2 hown hK hP 0 rfl rfl 1 (by decide) (hts _ tw_211) (fun _ h9 => h9) rfl dX2_boyOf_172 ?_
            refine lv_iload hx hb dX2_boyOf_175 (lv_at hl 2 rfl) ?_
            refine lv_aload_n hx hb dX2_boyOf_177 rfl (lv_at hl 6 rfl) ?_
            refine lv_iload hx hb dX2_boyOf_178 (lv_at hl 3 rfl) ?_
            refine lv_iconst (v := 0) hx hb dX2_boyOf_180 (by decide) ?_
            refine ro_i (D := D) (va_runV (As := [.int (nI q_7), .int 0]) (rest := [.int (nI be_8), .ref y2]) ⟨hx, hb, hml, hown, hts⟩ ((y_chanceOf l D k st lo h0 h1 h2 h3 h4 n see tm g ff q_7 0 (by first | assumption | omega)) H.size) (cwV 2 hts (gV tw_733 tw_565 tw_566 tw_81 tw_567) rfl rfl rfl (by decide +kernel) ⟨Nat.le_of_ble_eq_true rfl, Nat.le_of_ble_eq_true rfl⟩) (pV hS hAlo hlo hP hK (va_Dlo hD hAlo) hZ [4, 5, 6] (by decide) rfl (ci := 5) (q := (RX5, TX5, 4)) (q0 := 0) rfl rfl) rfl rfl hl.1 rfl (lv_room (Nat.le_of_ble_eq_true rfl)) dX2_boyOf_181 ⟨Nat.le_of_ble_eq_true rfl, Nat.le_of_ble_eq_true rfl⟩) hS hA hP (fun r_20 H locs hw_20 hP hS => ?_)
            try dsimp only at hw_20
            refine lv_iload hx hb dX2_boyOf_184 (lv_at hl 1 rfl) ?_
            refine lv_iload hx hb dX2_boyOf_186 (lv_at hl 0 rfl) ?_
            refine ro_i (D := D) (va_runSN (As := [.int r_20, .int (ya3_8 (q_7 + 1)), .int (yb3_8 be_8)]) (rest := [.int (nI be_8), .ref y2]) ⟨hx, hb, hml, hown, hts⟩ ((y_mixed l D k st lo r_20 (ya3_8 (q_7 + 1)) (yb3_8 be_8)) H.size) ⟨va_cnB 3 hts (gLW tw_570) rfl rfl rfl (hZ.2.2.2.2.2.2.2.2.1.1 (RX2, 78, yX7_mixed, RX7) (List.mem_of_getElem? (i := 6) rfl)) (hts _ tw_79) (by decide +kernel) ⟨Nat.le_of_ble_eq_true rfl, Nat.le_of_ble_eq_true rfl⟩, hts _ tw_569, trivial⟩ (pS hS hAlo hlo hP hK (va_Dlo hD hAlo) hZ [] (by decide) rfl) rfl rfl hl.1 rfl (lv_room (Nat.le_of_ble_eq_true rfl)) dX2_boyOf_188 ⟨Nat.le_of_ble_eq_true rfl, Nat.le_of_ble_eq_true rfl⟩) hS hA hP (fun r_21 H locs hw_21 hP hS => ?_)
            try dsimp only at hw_21
            refine va_iast hx hb hK hP hD hS 2 1 rfl rfl (vp_in_nI (by omega) (by decide)) dX2_boyOf_191 (fun H locs hP hD hS => ?_)
            have hQ9 := pd_mk [(y0, .inr (2, (fX2 y1 y2 y3 wt wc))), (aI k y1 25 (upd ya3_8 be_8 r_18)), (aI k y2 25 (upd yb3_8 (Int32.toNatClampNeg (nI be_8)) r_21)), (aI k y3 25 yd2_3), (h0, .inr (5, (fX5 h1 h2 h3 h4))), (aI k h1 10 (vv n see tm g)), (aI k h2 24 ff), (aI k h3 24 fp), (aI k h4 4 fl)] hP hD
            clear hP hD
            obtain ⟨hP, hD⟩ := hQ9
            rw [nI_clamp (n := be_8) (by omega)] at hP hD
            have hQ9 := pd_mk [(y0, .inr (2, (fX2 y1 y2 y3 wt wc))), (aI k y1 25 (upd ya3_8 be_8 r_18)), (aI k y2 25 (upd yb3_8 be_8 r_21)), (aI k y3 25 yd2_3), (h0, .inr (5, (fX5 h1 h2 h3 h4))), (aI k h1 10 (vv n see tm g)), (aI k h2 24 ff), (aI k h3 24 fp), (aI k h4 4 fl)] hP hD
            clear hP hD
            obtain ⟨hP, hD⟩ := hQ9
            refine lv_iinc (v := (nI (be_8 + 1))) (lv' := [(5, .int (nI (be_8 + 1))), (7, .int (yb3_8 be_8)), (6, .int (ya3_8 (q_7 + 1))), (4, .int (nI q_7)), (3, .int (nI n)), (0, .ref y0), (1, .ref h0), (2, .int p1)]) hx hb dX2_boyOf_192 hl (k := 2) rfl (nI_add be_8 1) (by decide) rfl (fun ls hl => ?_)
            refine lv_goto (tgt := 99) hx hb dX2_boyOf_195 (by decide) ?_
            have ha_8 := bo_v (d := (sdX n see tm g ff fp)) (E := p1) (b := be_8) (a := 1) (show q_7 < n by omega) (show _ = pChance (sdX n see tm g ff fp) q_7 (nI 1) from hw_17.trans (xChance (show q_7 < n by omega) (okX hok9 (show q_7 < n by omega)))) (by rw [if_pos (show boL (sdX n see tm g ff fp) p1 (q_7 + 1) < boL (sdX n see tm g ff fp) p1 be_8 from (by rw [← hLe_9 (q_7 + 1) (by omega), ← hLe_9 be_8 (by omega)]; exact Int32.not_le.mp c_10))]; exact hv_8.2.2.2.1 _ (by omega) (by omega)) (hv_8.2.2.2.2 be_8 (by omega) (by omega)) (hw_18.trans (mix_same (by rw [hw_17, xChance (see := see) (tm := tm) (fp := fp) (show q_7 < n by omega) (okX hok9 (show q_7 < n by omega))]; exact pCh_in)))
            have hb_8 := bo_v (d := (sdX n see tm g ff fp)) (E := p1) (b := be_8) (a := 0) (show q_7 < n by omega) (show _ = pChance (sdX n see tm g ff fp) q_7 (nI 0) from hw_20.trans (xChance (show q_7 < n by omega) (okX hok9 (show q_7 < n by omega)))) (by rw [if_pos (show boL (sdX n see tm g ff fp) p1 (q_7 + 1) < boL (sdX n see tm g ff fp) p1 be_8 from (by rw [← hLe_9 (q_7 + 1) (by omega), ← hLe_9 be_8 (by omega)]; exact Int32.not_le.mp c_10))]; exact hv_8.2.2.2.1 _ (by omega) (by omega)) (hv_8.2.2.2.2 be_8 (by omega) (by omega)) (hw_21.trans (mix_same (by rw [hw_20, xChance (see := see) (tm := tm) (fp := fp) (show q_7 < n by omega) (okX hok9 (show q_7 < n by omega))]; exact pCh_in)))
            have hsa_8 := bo_st (i := q_7) hv_8.2.1 hv_8.2.2.2.1 ha_8
            have hsb_8 := bo_st (i := q_7) hv_8.2.2.1 hv_8.2.2.2.2 hb_8
            exact ih_8 _ (be_8 + 1, (upd ya3_8 be_8 r_18), (upd yb3_8 be_8 r_21)) _ _ _ (by omega) ⟨rfl, ⟨by omega, hsa_8.1, hsb_8.1, hsa_8.2, hsb_8.2⟩, hP, hD, hS, (lv_sub hl [0, 3, 4, 5, 6, 7] rfl)⟩
    · have c_6 : ¬ (n < ii_5) := fun h => c_6 ((nI_ltI (a := n) (b := ii_5) (by omega) (by omega)).mpr h)
      refine lv_aload_n hx hb dX2_boyOf_52 rfl (lv_at hl 2 rfl) ?_
      refine va_get (D := D) (ci := 2) (v := .ref y1) (C := RX2) (T := TX2) (N := 5) hx hb hts inX2 hown hK hP 0 rfl rfl 0 (by decide) (hts _ tw_210) (fun _ h9 => h9) rfl dX2_boyOf_53 ?_
      refine lv_iload hx hb dX2_boyOf_56 (lv_at hl 0 rfl) ?_
      refine lv_aload_n hx hb dX2_boyOf_58 rfl (lv_at hl 2 rfl) ?_
      refine va_get (D := D) (ci := 2) (v := .ref y3) (C := RX2) (T := TX2) (N := 5) hx hb hts inX2 hown hK hP 0 rfl rfl 2 (by decide) (hts _ tw_212) (fun _ h9 => h9) rfl dX2_boyOf_59 ?_
      refine lv_iload hx hb dX2_boyOf_62 (lv_at hl 0 rfl) ?_
      refine va_iald hx hb hK hP 3 1 rfl rfl (vp_in_nI (by omega) (by decide)) dX2_boyOf_64 ?_
      refine lv_ti (y := (yd2_3 ii_5)) (by rw [nI_clamp (by omega)]) ?_
      refine va_iast hx hb hK hP hD hS 1 1 rfl rfl (vp_in_nI (by omega) (by decide)) dX2_boyOf_65 (fun H locs hP hD hS => ?_)
      have hQ9 := pd_mk [(y0, .inr (2, (fX2 y1 y2 y3 wt wc))), (aI k y1 25 (upd ya2_5 (Int32.toNatClampNeg (nI ii_5)) (yd2_3 ii_5))), (aI k y2 25 yb2_5), (aI k y3 25 yd2_3), (h0, .inr (5, (fX5 h1 h2 h3 h4))), (aI k h1 10 (vv n see tm g)), (aI k h2 24 ff), (aI k h3 24 fp), (aI k h4 4 fl)] hP hD
      clear hP hD
      obtain ⟨hP, hD⟩ := hQ9
      rw [nI_clamp (n := ii_5) (by omega)] at hP hD
      have hQ9 := pd_mk [(y0, .inr (2, (fX2 y1 y2 y3 wt wc))), (aI k y1 25 (upd ya2_5 ii_5 (yd2_3 ii_5))), (aI k y2 25 yb2_5), (aI k y3 25 yd2_3), (h0, .inr (5, (fX5 h1 h2 h3 h4))), (aI k h1 10 (vv n see tm g)), (aI k h2 24 ff), (aI k h3 24 fp), (aI k h4 4 fl)] hP hD
      clear hP hD
      obtain ⟨hP, hD⟩ := hQ9
      refine lv_aload_n hx hb dX2_boyOf_66 rfl (lv_at hl 2 rfl) ?_
      refine va_get (D := D) (ci := 2) (v := .ref y2) (C := RX2) (T := TX2) (N := 5) hx hb hts inX2 hown hK hP 0 rfl rfl 1 (by decide) (hts _ tw_211) (fun _ h9 => h9) rfl dX2_boyOf_67 ?_
      refine lv_iload hx hb dX2_boyOf_70 (lv_at hl 0 rfl) ?_
      refine lv_aload_n hx hb dX2_boyOf_72 rfl (lv_at hl 2 rfl) ?_
      refine va_get (D := D) (ci := 2) (v := .ref y3) (C := RX2) (T := TX2) (N := 5) hx hb hts inX2 hown hK hP 0 rfl rfl 2 (by decide) (hts _ tw_212) (fun _ h9 => h9) rfl dX2_boyOf_73 ?_
      refine lv_iload hx hb dX2_boyOf_76 (lv_at hl 0 rfl) ?_
      refine va_iald hx hb hK hP 3 1 rfl rfl (vp_in_nI (by omega) (by decide)) dX2_boyOf_78 ?_
      refine lv_ti (y := (yd2_3 ii_5)) (by rw [nI_clamp (by omega)]) ?_
      refine va_iast hx hb hK hP hD hS 2 1 rfl rfl (vp_in_nI (by omega) (by decide)) dX2_boyOf_79 (fun H locs hP hD hS => ?_)
      have hQ9 := pd_mk [(y0, .inr (2, (fX2 y1 y2 y3 wt wc))), (aI k y1 25 (upd ya2_5 ii_5 (yd2_3 ii_5))), (aI k y2 25 (upd yb2_5 (Int32.toNatClampNeg (nI ii_5)) (yd2_3 ii_5))), (aI k y3 25 yd2_3), (h0, .inr (5, (fX5 h1 h2 h3 h4))), (aI k h1 10 (vv n see tm g)), (aI k h2 24 ff), (aI k h3 24 fp), (aI k h4 4 fl)] hP hD
      clear hP hD
      obtain ⟨hP, hD⟩ := hQ9
      rw [nI_clamp (n := ii_5) (by omega)] at hP hD
      have hQ9 := pd_mk [(y0, .inr (2, (fX2 y1 y2 y3 wt wc))), (aI k y1 25 (upd ya2_5 ii_5 (yd2_3 ii_5))), (aI k y2 25 (upd yb2_5 ii_5 (yd2_3 ii_5))), (aI k y3 25 yd2_3), (h0, .inr (5, (fX5 h1 h2 h3 h4))), (aI k h1 10 (vv n see tm g)), (aI k h2 24 ff), (aI k h3 24 fp), (aI k h4 4 fl)] hP hD
      clear hP hD
      obtain ⟨hP, hD⟩ := hQ9
      refine lv_iinc (v := (nI (ii_5 + 1))) (lv' := [(4, .int (nI (ii_5 + 1))), (3, .int (nI n)), (0, .ref y0), (1, .ref h0), (2, .int p1)]) hx hb dX2_boyOf_80 hl (k := 0) rfl (nI_add ii_5 1) (by decide) rfl (fun ls hl => ?_)
      refine lv_goto (tgt := 46) hx hb dX2_boyOf_83 (by decide) ?_
      exact ih_5 _ (ii_5 + 1, (upd ya2_5 ii_5 (yd2_3 ii_5)), (upd yb2_5 ii_5 (yd2_3 ii_5))) _ _ _ (by omega) ⟨rfl, ⟨by omega, la_upd hv_5.2.1 (hLe_9 _ (by omega)), la_upd hv_5.2.2 (hLe_9 _ (by omega))⟩, hP, hD, hS, (lv_sub hl [0, 1, 2, 3, 4] rfl)⟩
  · have c_4 : ¬ (n ≤ ii_3) := fun h => c_4 ((nI_leI (a := n) (b := ii_3) (by omega) (by omega)).mpr h)
    refine lv_aload_n hx hb dX2_boyOf_21 rfl (lv_at hl 2 rfl) ?_
    refine va_get (D := D) (ci := 2) (v := .ref y3) (C := RX2) (T := TX2) (N := 5) hx hb hts inX2 hown hK hP 0 rfl rfl 2 (by decide) (hts _ tw_212) (fun _ h9 => h9) rfl dX2_boyOf_22 ?_
    refine lv_iload hx hb dX2_boyOf_25 (lv_at hl 0 rfl) ?_
    refine lv_iconst (v := 1) hx hb dX2_boyOf_27 (by decide) ?_
    refine lv_iadd hx hb dX2_boyOf_28 ?_
    refine lv_ti (y := (nI (ii_3 + 1))) (nI_add ii_3 1) ?_
    refine lv_aload_n hx hb dX2_boyOf_29 rfl (lv_at hl 3 rfl) ?_
    refine lv_iconst (v := 0) hx hb dX2_boyOf_30 (by decide) ?_
    refine lv_iload hx hb dX2_boyOf_31 (lv_at hl 0 rfl) ?_
    refine ro_i (D := D) (va_runV (As := [.int 0, .int (nI ii_3)]) (rest := [.int (nI (ii_3 + 1)), .ref y3]) ⟨hx, hb, hml, hown, hts⟩ ((y_takingOf l D k st lo h0 h1 h2 h3 h4 n see tm g fp fl 0 ii_3 (by first | assumption | omega) (by first | assumption | omega)) H.size) (cwV 2 hts (gV tw_728 tw_557 tw_558 tw_81 tw_559) rfl rfl rfl (by decide +kernel) ⟨Nat.le_of_ble_eq_true rfl, Nat.le_of_ble_eq_true rfl⟩) (pV hS hAlo hlo hP hK (va_Dlo hD hAlo) hZ [4, 5, 7, 8] (by decide) rfl (ci := 5) (q := (RX5, TX5, 4)) (q0 := 0) rfl rfl) rfl rfl hl.1 rfl (lv_room (Nat.le_of_ble_eq_true rfl)) dX2_boyOf_33 ⟨Nat.le_of_ble_eq_true rfl, Nat.le_of_ble_eq_true rfl⟩) hS hA hP (fun r_25 H locs hw_25 hP hS => ?_)
    try dsimp only at hw_25
    refine va_iast hx hb hK hP hD hS 3 1 rfl rfl (vp_in_nI (by omega) (by decide)) dX2_boyOf_36 (fun H locs hP hD hS => ?_)
    have hQ9 := pd_mk [(y0, .inr (2, (fX2 y1 y2 y3 wt wc))), (aI k y1 25 ya), (aI k y2 25 yb), (aI k y3 25 (upd yd2_3 (Int32.toNatClampNeg (nI (ii_3 + 1))) r_25)), (h0, .inr (5, (fX5 h1 h2 h3 h4))), (aI k h1 10 (vv n see tm g)), (aI k h2 24 ff), (aI k h3 24 fp), (aI k h4 4 fl)] hP hD
    clear hP hD
    obtain ⟨hP, hD⟩ := hQ9
    rw [nI_clamp (n := (ii_3 + 1)) (by omega)] at hP hD
    have hQ9 := pd_mk [(y0, .inr (2, (fX2 y1 y2 y3 wt wc))), (aI k y1 25 ya), (aI k y2 25 yb), (aI k y3 25 (upd yd2_3 (ii_3 + 1) r_25)), (h0, .inr (5, (fX5 h1 h2 h3 h4))), (aI k h1 10 (vv n see tm g)), (aI k h2 24 ff), (aI k h3 24 fp), (aI k h4 4 fl)] hP hD
    clear hP hD
    obtain ⟨hP, hD⟩ := hQ9
    refine lv_iinc (v := (nI (ii_3 + 1))) (lv' := [(4, .int (nI (ii_3 + 1))), (3, .int (nI n)), (0, .ref y0), (1, .ref h0), (2, .int p1)]) hx hb dX2_boyOf_37 hl (k := 0) rfl (nI_add ii_3 1) (by decide) rfl (fun ls hl => ?_)
    refine lv_goto (tgt := 15) hx hb dX2_boyOf_40 (by decide) ?_
    exact ih_3 _ (ii_3 + 1, (upd yd2_3 (ii_3 + 1) r_25)) _ _ _ (by omega) ⟨rfl, ⟨by omega, la_upd hv_3.2 (hw_25.trans (xTake (by omega) (hl9 0 (by omega))))⟩, hP, hD, hS, (lv_sub hl [0, 1, 2, 3, 4] rfl)⟩


set_option maxHeartbeats 4000000 in
set_option maxRecDepth 100000 in
theorem y_boy (l : Launch) (D : va_G) (k : Nat → ClassId) (st : Nat → Nat) (lo : Nat) (a : Nat → Nat) (rk : Nat) (lfa : Int32) (n0 : Nat) (see0 : Nat) (tm0 : Nat) (g0 : Nat → Int32) (ff0 : Nat → Int32) (fp0 : Nat → Int32) (fl0 : Nat → Int32) (n1 : Nat) (see1 : Nat) (tm1 : Nat) (g1 : Nat → Int32) (ff1 : Nat → Int32) (fp1 : Nat → Int32) (fl1 : Nat → Int32) (n2 : Nat) (see2 : Nat) (tm2 : Nat) (g2 : Nat → Int32) (ff2 : Nat → Int32) (fp2 : Nat → Int32) (fl2 : Nat → Int32) (on0 : Nat → Int32) (sr0 : Nat → Int32) (en0 : Nat → Int32) (on1 : Nat → Int32) (sr1 : Nat → Int32) (en1 : Nat → Int32) (on2 : Nat → Int32) (sr2 : Nat → Int32) (en2 : Nat → Int32) (wt : Int32) (wc : Int32) (ya : Nat → Int32) (yb : Nat → Int32) (yd : Nat → Int32) (p0 : Int32) (hn0 : n0 ≤ 24) (hse0 : see0 ≤ 2) (htm0 : tm0 ≤ 3) (hn1 : n1 ≤ 24) (hse1 : see1 ≤ 2) (htm1 : tm1 ≤ 3) (hn2 : n2 ≤ 24) (hse2 : see2 ≤ 2) (htm2 : tm2 ≤ 3) (hlt : ltP (d3 fl0 fl1 fl2) (d3 (sdX n0 see0 tm0 g0 ff0 fp0) (sdX n1 see1 tm1 g1 ff1 fp1) (sdX n2 see2 tm2 g2 ff2 fp2))) (hwy : wy3 (d3 (sdX n0 see0 tm0 g0 ff0 fp0) (sdX n1 see1 tm1 g1 ff1 fp1) (sdX n2 see2 tm2 g2 ff2 fp2)) (d3 on0 on1 on2) (d3 sr0 sr1 sr2) (d3 en0 en1 en2)) (hok : ∀ i, i < 3 → okD ((d3 (sdX n0 see0 tm0 g0 ff0 fp0) (sdX n1 see1 tm1 g1 ff1 fp1) (sdX n2 see2 tm2 g2 ff2 fp2)) i)) : CWi l D k st lo yX7_boy cX7_boy 2 (some .int) ({ frames := 3, cells := 0, slots := 0, locals := 110 }) 0 0 [.ref (a 0), .int p0] [((a 0), .inr (7, (fX7 (a 1) (a 3) (a 19) (a 35) (a 40) (nI rk) lfa (a 53) (a 56) (a 63) (a 64) (a 68)))), ((a 3), .inl (k 3, 3, .inr (.inr (.inr (.inr (a3 (a 4) (a 9) (a 14))))))), ((a 19), .inl (k 4, 3, .inr (.inr (.inr (.inr (a3 (a 20) (a 25) (a 30))))))), ((a 4), .inr (5, (fX5 (a 5) (a 6) (a 7) (a 8)))), (aI k (a 5) 10 (vv n0 see0 tm0 g0)), (aI k (a 6) 24 ff0), (aI k (a 7) 24 fp0), (aI k (a 8) 4 fl0), ((a 9), .inr (5, (fX5 (a 10) (a 11) (a 12) (a 13)))), (aI k (a 10) 10 (vv n1 see1 tm1 g1)), (aI k (a 11) 24 ff1), (aI k (a 12) 24 fp1), (aI k (a 13) 4 fl1), ((a 14), .inr (5, (fX5 (a 15) (a 16) (a 17) (a 18)))), (aI k (a 15) 10 (vv n2 see2 tm2 g2)), (aI k (a 16) 24 ff2), (aI k (a 17) 24 fp2), (aI k (a 18) 4 fl2), ((a 20), .inr (0, (fX0 (a 4) (a 21) (a 22) (a 23) (a 24)))), (aI k (a 21) 768 on0), (aI k (a 22) 4 sr0), (aI k (a 23) 4 en0), ((a 25), .inr (0, (fX0 (a 9) (a 26) (a 27) (a 28) (a 29)))), (aI k (a 26) 768 on1), (aI k (a 27) 4 sr1), (aI k (a 28) 4 en1), ((a 30), .inr (0, (fX0 (a 14) (a 31) (a 32) (a 33) (a 34)))), (aI k (a 31) 768 on2), (aI k (a 32) 4 sr2), (aI k (a 33) 4 en2), ((a 64), .inr (2, (fX2 (a 65) (a 66) (a 67) wt wc))), (aI k (a 65) 25 ya), (aI k (a 66) 25 yb), (aI k (a 67) 25 yd)] (fun (r : Int32) (u : (Nat → Int32) × (Nat → Int32) × (Nat → Int32)) => match u with | (ya_, yb_, yd_) => tqP (d3 (sdX n0 see0 tm0 g0 ff0 fp0) (sdX n1 see1 tm1 g1 ff1 fp1) (sdX n2 see2 tm2 g2 ff2 fp2)) p0 boA r) (fun (u : (Nat → Int32) × (Nat → Int32) × (Nat → Int32)) => match u with | (ya_, yb_, yd_) => [((a 0), .inr (7, (fX7 (a 1) (a 3) (a 19) (a 35) (a 40) (nI rk) lfa (a 53) (a 56) (a 63) (a 64) (a 68)))), ((a 3), .inl (k 3, 3, .inr (.inr (.inr (.inr (a3 (a 4) (a 9) (a 14))))))), ((a 19), .inl (k 4, 3, .inr (.inr (.inr (.inr (a3 (a 20) (a 25) (a 30))))))), ((a 4), .inr (5, (fX5 (a 5) (a 6) (a 7) (a 8)))), (aI k (a 5) 10 (vv n0 see0 tm0 g0)), (aI k (a 6) 24 ff0), (aI k (a 7) 24 fp0), (aI k (a 8) 4 fl0), ((a 9), .inr (5, (fX5 (a 10) (a 11) (a 12) (a 13)))), (aI k (a 10) 10 (vv n1 see1 tm1 g1)), (aI k (a 11) 24 ff1), (aI k (a 12) 24 fp1), (aI k (a 13) 4 fl1), ((a 14), .inr (5, (fX5 (a 15) (a 16) (a 17) (a 18)))), (aI k (a 15) 10 (vv n2 see2 tm2 g2)), (aI k (a 16) 24 ff2), (aI k (a 17) 24 fp2), (aI k (a 18) 4 fl2), ((a 20), .inr (0, (fX0 (a 4) (a 21) (a 22) (a 23) (a 24)))), (aI k (a 21) 768 on0), (aI k (a 22) 4 sr0), (aI k (a 23) 4 en0), ((a 25), .inr (0, (fX0 (a 9) (a 26) (a 27) (a 28) (a 29)))), (aI k (a 26) 768 on1), (aI k (a 27) 4 sr1), (aI k (a 28) 4 en1), ((a 30), .inr (0, (fX0 (a 14) (a 31) (a 32) (a 33) (a 34)))), (aI k (a 31) 768 on2), (aI k (a 32) 4 sr2), (aI k (a 33) 4 en2), ((a 64), .inr (2, (fX2 (a 65) (a 66) (a 67) wt wc))), (aI k (a 65) 25 ya_), (aI k (a 66) 25 yb_), (aI k (a 67) 25 yd_)]) := by
  intro sz
  refine Met.ofW (cc := cX7_boy) (maxL := 2) (ret := (some .int)) (by decide) rfl ?_
  intro p e s m args below meth c s₁ B hml hv
  obtain ⟨rfl, hsz, hlo, hP, hK, hDL, hZ⟩ := hv
  have hx := B.exec
  have hb := B.bytes
  have hr := B.returns
  have hts := WS_ts B.pre
  have hown : s.vm.findClass RX7 = some m.cls := findClass_of_methodNamed B.named
  have hlocks := B.notSynchronized
  subst hsz
  have hD := hDL.self (sz := s.heap.size)
  have hAlo := A_lo hDL hlo
  generalize hAe : va_A [((a 0), .inr (7, (fX7 (a 1) (a 3) (a 19) (a 35) (a 40) (nI rk) lfa (a 53) (a 56) (a 63) (a 64) (a 68)))), ((a 3), .inl (k 3, 3, .inr (.inr (.inr (.inr (a3 (a 4) (a 9) (a 14))))))), ((a 19), .inl (k 4, 3, .inr (.inr (.inr (.inr (a3 (a 20) (a 25) (a 30))))))), ((a 4), .inr (5, (fX5 (a 5) (a 6) (a 7) (a 8)))), (aI k (a 5) 10 (vv n0 see0 tm0 g0)), (aI k (a 6) 24 ff0), (aI k (a 7) 24 fp0), (aI k (a 8) 4 fl0), ((a 9), .inr (5, (fX5 (a 10) (a 11) (a 12) (a 13)))), (aI k (a 10) 10 (vv n1 see1 tm1 g1)), (aI k (a 11) 24 ff1), (aI k (a 12) 24 fp1), (aI k (a 13) 4 fl1), ((a 14), .inr (5, (fX5 (a 15) (a 16) (a 17) (a 18)))), (aI k (a 15) 10 (vv n2 see2 tm2 g2)), (aI k (a 16) 24 ff2), (aI k (a 17) 24 fp2), (aI k (a 18) 4 fl2), ((a 20), .inr (0, (fX0 (a 4) (a 21) (a 22) (a 23) (a 24)))), (aI k (a 21) 768 on0), (aI k (a 22) 4 sr0), (aI k (a 23) 4 en0), ((a 25), .inr (0, (fX0 (a 9) (a 26) (a 27) (a 28) (a 29)))), (aI k (a 26) 768 on1), (aI k (a 27) 4 sr1), (aI k (a 28) 4 en1), ((a 30), .inr (0, (fX0 (a 14) (a 31) (a 32) (a 33) (a 34)))), (aI k (a 31) 768 on2), (aI k (a 32) 4 sr2), (aI k (a 33) 4 en2), ((a 64), .inr (2, (fX2 (a 65) (a 66) (a 67) wt wc))), (aI k (a 65) 25 ya), (aI k (a 66) 25 yb), (aI k (a 67) 25 yd)] s.heap.size = A at hD hAlo ⊢
  have hA : ∀ q : Nat, s.heap.size ≤ q → A q := fun q h => by rw [← hAe]; exact Or.inr h
  have hS : va_S A s.heap s.heap [] := va_S.rf
  have hl := lv_entry ([.ref (a 0), .int p0]) (n := 2) (Nat.le_of_ble_eq_true rfl)
  rw [lg_entry_eq]
  generalize (lg_sl ([.ref (a 0), .int p0]) ++ List.replicate (2 - (lg_sl ([.ref (a 0), .int p0])).length) Slot.unset).toArray = ls at hl ⊢
  have hl : lv_has ls 2 [(0, .ref (a 0)), (1, .int p0)] := hl
  refine lv_aload_n hx hb dX7_boy_0 rfl (lv_at hl 0 rfl) ?_
  refine lv_iload_n hx hb dX7_boy_1 rfl (lv_at hl 1 rfl) ?_
  refine ro_i (D := D) (va_runV (As := [.int p0]) (rest := []) ⟨hx, hb, hml, hown, hts⟩ ((y_isStreet l D k st lo a rk lfa n0 see0 tm0 g0 n1 see1 tm1 g1 n2 see2 tm2 g2 p0 (by first | assumption | omega) (by first | assumption | omega) (by first | assumption | omega)) s.heap.size) (cwV 1 hts (gV tw_589 tw_591 tw_8 tw_79 tw_592) rfl rfl rfl (by decide +kernel) ⟨Nat.le_of_ble_eq_true rfl, Nat.le_of_ble_eq_true rfl⟩) (pV hS hAlo hlo hP hK (va_Dlo hD hAlo) hZ [0, 1, 3, 4, 8, 9, 13, 14] (by decide) rfl (ci := 7) (q := (RX7, TX7, 12)) (q0 := 0) rfl rfl) rfl rfl hl.1 rfl (lv_room (Nat.le_of_ble_eq_true rfl)) dX7_boy_2 ⟨Nat.le_of_ble_eq_true rfl, Nat.le_of_ble_eq_true rfl⟩) hS hA hP (fun r_1 H locs hw_1 hP hS => ?_)
  try dsimp only at hw_1
  rcases hw_1 with ⟨rfl, ⟨rfl, hw_1⟩ | ⟨rfl, hw_1⟩ | ⟨rfl, hw_1⟩⟩ | ⟨rfl, hw_1⟩
  · refine lv_if_eq (tgt := 35) hx hb dX7_boy_5 (by decide) (fun h => absurd h (by decide)) (fun _ => ?_)
    refine lv_aload_n hx hb dX7_boy_8 rfl (lv_at hl 0 rfl) ?_
    refine va_get (D := D) (ci := 7) (v := .ref (a 64)) (C := RX7) (T := TX7) (N := 12) hx hb hts inX7 hown hK hP 0 rfl rfl 10 (by decide) (hts _ tw_315) (fun _ h9 => h9) rfl dX7_boy_9 ?_
    refine lv_aload_n hx hb dX7_boy_12 rfl (lv_at hl 0 rfl) ?_
    refine va_get (D := D) (ci := 7) (v := .ref (a 3)) (C := RX7) (T := TX7) (N := 12) hx hb hts inX7 hown hK hP 0 rfl rfl 1 (by decide) (hts _ tw_306) (fun _ h9 => h9) rfl dX7_boy_13 ?_
    refine lv_iload_n hx hb dX7_boy_16 rfl (lv_at hl 1 rfl) ?_
    refine va_aldq hx hb hK hP 1 3 rfl rfl (by unfold vp_in; decide) dX7_boy_17 ?_
    refine lv_tr (y := .ref (a 4)) rfl ?_
    refine lv_aload_n hx hb dX7_boy_18 rfl (lv_at hl 0 rfl) ?_
    refine va_get (D := D) (ci := 7) (v := .ref (a 19)) (C := RX7) (T := TX7) (N := 12) hx hb hts inX7 hown hK hP 0 rfl rfl 2 (by decide) (hts _ tw_307) (fun _ h9 => h9) rfl dX7_boy_19 ?_
    refine lv_iload_n hx hb dX7_boy_22 rfl (lv_at hl 1 rfl) ?_
    refine va_aldq hx hb hK hP 2 4 rfl rfl (by unfold vp_in; decide) dX7_boy_23 ?_
    refine lv_tr (y := .ref (a 20)) rfl ?_
    refine va_get (D := D) (ci := 0) (v := .ref (a 23)) (C := RX0) (T := TX0) (N := 5) hx hb hts inX0 hown hK hP 18 rfl rfl 3 (by decide) (hts _ tw_271) (fun _ h9 => h9) rfl dX7_boy_24 ?_
    refine lv_iconst (v := 0) hx hb dX7_boy_27 (by decide) ?_
    refine va_iald hx hb hK hP 21 1 rfl rfl (by unfold vp_in; decide) dX7_boy_28 ?_
    refine lv_ti (y := (en0 0)) (by rfl) ?_
    refine rw_i (D := D) (wr := [((a 0), .inr (7, (fX7 (a 1) (a 3) (a 19) (a 35) (a 40) (nI rk) lfa (a 53) (a 56) (a 63) (a 64) (a 68)))), ((a 3), .inl (k 3, 3, .inr (.inr (.inr (.inr (a3 (a 4) (a 9) (a 14))))))), ((a 19), .inl (k 4, 3, .inr (.inr (.inr (.inr (a3 (a 20) (a 25) (a 30))))))), ((a 9), .inr (5, (fX5 (a 10) (a 11) (a 12) (a 13)))), (aI k (a 10) 10 (vv n1 see1 tm1 g1)), (aI k (a 11) 24 ff1), (aI k (a 12) 24 fp1), (aI k (a 13) 4 fl1), ((a 14), .inr (5, (fX5 (a 15) (a 16) (a 17) (a 18)))), (aI k (a 15) 10 (vv n2 see2 tm2 g2)), (aI k (a 16) 24 ff2), (aI k (a 17) 24 fp2), (aI k (a 18) 4 fl2), ((a 20), .inr (0, (fX0 (a 4) (a 21) (a 22) (a 23) (a 24)))), (aI k (a 21) 768 on0), (aI k (a 22) 4 sr0), (aI k (a 23) 4 en0), ((a 25), .inr (0, (fX0 (a 9) (a 26) (a 27) (a 28) (a 29)))), (aI k (a 26) 768 on1), (aI k (a 27) 4 sr1), (aI k (a 28) 4 en1), ((a 30), .inr (0, (fX0 (a 14) (a 31) (a 32) (a 33) (a 34)))), (aI k (a 31) 768 on2), (aI k (a 32) 4 sr2), (aI k (a 33) 4 en2)]) (va_runV (As := [.ref (a 4), .int (en0 0)]) (rest := []) ⟨hx, hb, hml, hown, hts⟩ ((y_boyOf l D k st lo (a 64) (a 65) (a 66) (a 67) wt wc ya yb yd (a 4) (a 5) (a 6) (a 7) (a 8) n0 see0 tm0 g0 ff0 fp0 fl0 (en0 0) (by first | assumption | omega) (hlt 0 (by omega)) (hok 0 (by omega))) H.size) (cwV 2 hts (gV tw_792 tw_793 tw_794 tw_83 tw_795) rfl rfl rfl (by decide +kernel) ⟨Nat.le_of_ble_eq_true rfl, Nat.le_of_ble_eq_true rfl⟩) (pV hS hAlo hlo hP hK (va_Dlo hD hAlo) hZ [30, 31, 32, 33, 3, 4, 5, 6, 7] (by decide +kernel) rfl (ci := 2) (q := (RX2, TX2, 5)) (q0 := 0) rfl rfl) rfl rfl hl.1 rfl (lv_room (Nat.le_of_ble_eq_true rfl)) dX7_boy_29 ⟨Nat.le_of_ble_eq_true rfl, Nat.le_of_ble_eq_true rfl⟩) hS hA hP hD [30, 31, 32, 33, 3, 4, 5, 6, 7] [0, 1, 2, 8, 9, 10, 11, 12, 13, 14, 15, 16, 17, 18, 19, 20, 21, 22, 23, 24, 25, 26, 27, 28, 29] rfl rfl (by decide +kernel) (by decide +kernel) (fun r_2 u H locs hw_2 hP hD hS => ?_)
    obtain ⟨ya__2, yb__2, yd__2⟩ := u
    have hQ9 := pd_mk [((a 0), .inr (7, (fX7 (a 1) (a 3) (a 19) (a 35) (a 40) (nI rk) lfa (a 53) (a 56) (a 63) (a 64) (a 68)))), ((a 3), .inl (k 3, 3, .inr (.inr (.inr (.inr (a3 (a 4) (a 9) (a 14))))))), ((a 19), .inl (k 4, 3, .inr (.inr (.inr (.inr (a3 (a 20) (a 25) (a 30))))))), ((a 9), .inr (5, (fX5 (a 10) (a 11) (a 12) (a 13)))), (aI k (a 10) 10 (vv n1 see1 tm1 g1)), (aI k (a 11) 24 ff1), (aI k (a 12) 24 fp1), (aI k (a 13) 4 fl1), ((a 14), .inr (5, (fX5 (a 15) (a 16) (a 17) (a 18)))), (aI k (a 15) 10 (vv n2 see2 tm2 g2)), (aI k (a 16) 24 ff2), (aI k (a 17) 24 fp2), (aI k (a 18) 4 fl2), ((a 20), .inr (0, (fX0 (a 4) (a 21) (a 22) (a 23) (a 24)))), (aI k (a 21) 768 on0), (aI k (a 22) 4 sr0), (aI k (a 23) 4 en0), ((a 25), .inr (0, (fX0 (a 9) (a 26) (a 27) (a 28) (a 29)))), (aI k (a 26) 768 on1), (aI k (a 27) 4 sr1), (aI k (a 28) 4 en1), ((a 30), .inr (0, (fX0 (a 14) (a 31) (a 32) (a 33) (a 34)))), (aI k (a 31) 768 on2), (aI k (a 32) 4 sr2), (aI k (a 33) 4 en2), ((a 64), .inr (2, (fX2 (a 65) (a 66) (a 67) wt wc))), (aI k (a 65) 25 ya__2), (aI k (a 66) 25 yb__2), (aI k (a 67) 25 yd__2), ((a 4), .inr (5, (fX5 (a 5) (a 6) (a 7) (a 8)))), (aI k (a 5) 10 (vv n0 see0 tm0 g0)), (aI k (a 6) 24 ff0), (aI k (a 7) 24 fp0), (aI k (a 8) 4 fl0)] hP hD
    clear hP hD
    obtain ⟨hP, hD⟩ := hQ9
    try dsimp only at hw_2
    refine lv_goto (tgt := 38) hx hb dX7_boy_32 (by decide) ?_
    obtain ⟨hP9, hD9⟩ := pd_sub [((a 0), .inr (7, (fX7 (a 1) (a 3) (a 19) (a 35) (a 40) (nI rk) lfa (a 53) (a 56) (a 63) (a 64) (a 68)))), ((a 3), .inl (k 3, 3, .inr (.inr (.inr (.inr (a3 (a 4) (a 9) (a 14))))))), ((a 19), .inl (k 4, 3, .inr (.inr (.inr (.inr (a3 (a 20) (a 25) (a 30))))))), ((a 4), .inr (5, (fX5 (a 5) (a 6) (a 7) (a 8)))), (aI k (a 5) 10 (vv n0 see0 tm0 g0)), (aI k (a 6) 24 ff0), (aI k (a 7) 24 fp0), (aI k (a 8) 4 fl0), ((a 9), .inr (5, (fX5 (a 10) (a 11) (a 12) (a 13)))), (aI k (a 10) 10 (vv n1 see1 tm1 g1)), (aI k (a 11) 24 ff1), (aI k (a 12) 24 fp1), (aI k (a 13) 4 fl1), ((a 14), .inr (5, (fX5 (a 15) (a 16) (a 17) (a 18)))), (aI k (a 15) 10 (vv n2 see2 tm2 g2)), (aI k (a 16) 24 ff2), (aI k (a 17) 24 fp2), (aI k (a 18) 4 fl2), ((a 20), .inr (0, (fX0 (a 4) (a 21) (a 22) (a 23) (a 24)))), (aI k (a 21) 768 on0), (aI k (a 22) 4 sr0), (aI k (a 23) 4 en0), ((a 25), .inr (0, (fX0 (a 9) (a 26) (a 27) (a 28) (a 29)))), (aI k (a 26) 768 on1), (aI k (a 27) 4 sr1), (aI k (a 28) 4 en1), ((a 30), .inr (0, (fX0 (a 14) (a 31) (a 32) (a 33) (a 34)))), (aI k (a 31) 768 on2), (aI k (a 32) 4 sr2), (aI k (a 33) 4 en2), ((a 64), .inr (2, (fX2 (a 65) (a 66) (a 67) wt wc))), (aI k (a 65) 25 ya__2), (aI k (a 66) 25 yb__2), (aI k (a 67) 25 yd__2)] [0, 1, 2, 29, 30, 31, 32, 33, 3, 4, 5, 6, 7, 8, 9, 10, 11, 12, 13, 14, 15, 16, 17, 18, 19, 20, 21, 22, 23, 24, 25, 26, 27, 28] hP hD (by decide +kernel) rfl
    exact W.iret (v := r_2) hx hb hr (fun t ht hW => ⟨⟨r_2, (ya__2, yb__2, yd__2), rfl, tq_at (s := 0) (by omega) (show 0 < n0 by omega) (show boA (sdX n0 see0 tm0 g0 ff0 fp0) _ from hw_2.trans (congrArg (fun z => boV (sdX n0 see0 tm0 g0 ff0 fp0) z n0 0 0) (show en0 0 = wayE (sdX n0 see0 tm0 g0 ff0 fp0) 0 from ((hwy 0 (by omega) (show 0 < n0 by omega)) 0 (Nat.zero_le _) (Nat.zero_le _)).1))), by rw [ht]; exact hP9, hD9⟩, hS.F ht⟩) hS.2.2 dX7_boy_38
  · refine lv_if_eq (tgt := 35) hx hb dX7_boy_5 (by decide) (fun h => absurd h (by decide)) (fun _ => ?_)
    refine lv_aload_n hx hb dX7_boy_8 rfl (lv_at hl 0 rfl) ?_
    refine va_get (D := D) (ci := 7) (v := .ref (a 64)) (C := RX7) (T := TX7) (N := 12) hx hb hts inX7 hown hK hP 0 rfl rfl 10 (by decide) (hts _ tw_315) (fun _ h9 => h9) rfl dX7_boy_9 ?_
    refine lv_aload_n hx hb dX7_boy_12 rfl (lv_at hl 0 rfl) ?_
    refine va_get (D := D) (ci := 7) (v := .ref (a 3)) (C := RX7) (T := TX7) (N := 12) hx hb hts inX7 hown hK hP 0 rfl rfl 1 (by decide) (hts _ tw_306) (fun _ h9 => h9) rfl dX7_boy_13 ?_
    refine lv_iload_n hx hb dX7_boy_16 rfl (lv_at hl 1 rfl) ?_
    refine va_aldq hx hb hK hP 1 3 rfl rfl (by unfold vp_in; decide) dX7_boy_17 ?_
    refine lv_tr (y := .ref (a 9)) rfl ?_
    refine lv_aload_n hx hb dX7_boy_18 rfl (lv_at hl 0 rfl) ?_
    refine va_get (D := D) (ci := 7) (v := .ref (a 19)) (C := RX7) (T := TX7) (N := 12) hx hb hts inX7 hown hK hP 0 rfl rfl 2 (by decide) (hts _ tw_307) (fun _ h9 => h9) rfl dX7_boy_19 ?_
    refine lv_iload_n hx hb dX7_boy_22 rfl (lv_at hl 1 rfl) ?_
    refine va_aldq hx hb hK hP 2 4 rfl rfl (by unfold vp_in; decide) dX7_boy_23 ?_
    refine lv_tr (y := .ref (a 25)) rfl ?_
    refine va_get (D := D) (ci := 0) (v := .ref (a 28)) (C := RX0) (T := TX0) (N := 5) hx hb hts inX0 hown hK hP 22 rfl rfl 3 (by decide) (hts _ tw_271) (fun _ h9 => h9) rfl dX7_boy_24 ?_
    refine lv_iconst (v := 0) hx hb dX7_boy_27 (by decide) ?_
    refine va_iald hx hb hK hP 25 1 rfl rfl (by unfold vp_in; decide) dX7_boy_28 ?_
    refine lv_ti (y := (en1 0)) (by rfl) ?_
    refine rw_i (D := D) (wr := [((a 0), .inr (7, (fX7 (a 1) (a 3) (a 19) (a 35) (a 40) (nI rk) lfa (a 53) (a 56) (a 63) (a 64) (a 68)))), ((a 3), .inl (k 3, 3, .inr (.inr (.inr (.inr (a3 (a 4) (a 9) (a 14))))))), ((a 19), .inl (k 4, 3, .inr (.inr (.inr (.inr (a3 (a 20) (a 25) (a 30))))))), ((a 4), .inr (5, (fX5 (a 5) (a 6) (a 7) (a 8)))), (aI k (a 5) 10 (vv n0 see0 tm0 g0)), (aI k (a 6) 24 ff0), (aI k (a 7) 24 fp0), (aI k (a 8) 4 fl0), ((a 14), .inr (5, (fX5 (a 15) (a 16) (a 17) (a 18)))), (aI k (a 15) 10 (vv n2 see2 tm2 g2)), (aI k (a 16) 24 ff2), (aI k (a 17) 24 fp2), (aI k (a 18) 4 fl2), ((a 20), .inr (0, (fX0 (a 4) (a 21) (a 22) (a 23) (a 24)))), (aI k (a 21) 768 on0), (aI k (a 22) 4 sr0), (aI k (a 23) 4 en0), ((a 25), .inr (0, (fX0 (a 9) (a 26) (a 27) (a 28) (a 29)))), (aI k (a 26) 768 on1), (aI k (a 27) 4 sr1), (aI k (a 28) 4 en1), ((a 30), .inr (0, (fX0 (a 14) (a 31) (a 32) (a 33) (a 34)))), (aI k (a 31) 768 on2), (aI k (a 32) 4 sr2), (aI k (a 33) 4 en2)]) (va_runV (As := [.ref (a 9), .int (en1 0)]) (rest := []) ⟨hx, hb, hml, hown, hts⟩ ((y_boyOf l D k st lo (a 64) (a 65) (a 66) (a 67) wt wc ya yb yd (a 9) (a 10) (a 11) (a 12) (a 13) n1 see1 tm1 g1 ff1 fp1 fl1 (en1 0) (by first | assumption | omega) (hlt 1 (by omega)) (hok 1 (by omega))) H.size) (cwV 2 hts (gV tw_792 tw_793 tw_794 tw_83 tw_795) rfl rfl rfl (by decide +kernel) ⟨Nat.le_of_ble_eq_true rfl, Nat.le_of_ble_eq_true rfl⟩) (pV hS hAlo hlo hP hK (va_Dlo hD hAlo) hZ [30, 31, 32, 33, 8, 9, 10, 11, 12] (by decide +kernel) rfl (ci := 2) (q := (RX2, TX2, 5)) (q0 := 0) rfl rfl) rfl rfl hl.1 rfl (lv_room (Nat.le_of_ble_eq_true rfl)) dX7_boy_29 ⟨Nat.le_of_ble_eq_true rfl, Nat.le_of_ble_eq_true rfl⟩) hS hA hP hD [30, 31, 32, 33, 8, 9, 10, 11, 12] [0, 1, 2, 3, 4, 5, 6, 7, 13, 14, 15, 16, 17, 18, 19, 20, 21, 22, 23, 24, 25, 26, 27, 28, 29] rfl rfl (by decide +kernel) (by decide +kernel) (fun r_3 u H locs hw_3 hP hD hS => ?_)
    obtain ⟨ya__3, yb__3, yd__3⟩ := u
    have hQ9 := pd_mk [((a 0), .inr (7, (fX7 (a 1) (a 3) (a 19) (a 35) (a 40) (nI rk) lfa (a 53) (a 56) (a 63) (a 64) (a 68)))), ((a 3), .inl (k 3, 3, .inr (.inr (.inr (.inr (a3 (a 4) (a 9) (a 14))))))), ((a 19), .inl (k 4, 3, .inr (.inr (.inr (.inr (a3 (a 20) (a 25) (a 30))))))), ((a 4), .inr (5, (fX5 (a 5) (a 6) (a 7) (a 8)))), (aI k (a 5) 10 (vv n0 see0 tm0 g0)), (aI k (a 6) 24 ff0), (aI k (a 7) 24 fp0), (aI k (a 8) 4 fl0), ((a 14), .inr (5, (fX5 (a 15) (a 16) (a 17) (a 18)))), (aI k (a 15) 10 (vv n2 see2 tm2 g2)), (aI k (a 16) 24 ff2), (aI k (a 17) 24 fp2), (aI k (a 18) 4 fl2), ((a 20), .inr (0, (fX0 (a 4) (a 21) (a 22) (a 23) (a 24)))), (aI k (a 21) 768 on0), (aI k (a 22) 4 sr0), (aI k (a 23) 4 en0), ((a 25), .inr (0, (fX0 (a 9) (a 26) (a 27) (a 28) (a 29)))), (aI k (a 26) 768 on1), (aI k (a 27) 4 sr1), (aI k (a 28) 4 en1), ((a 30), .inr (0, (fX0 (a 14) (a 31) (a 32) (a 33) (a 34)))), (aI k (a 31) 768 on2), (aI k (a 32) 4 sr2), (aI k (a 33) 4 en2), ((a 64), .inr (2, (fX2 (a 65) (a 66) (a 67) wt wc))), (aI k (a 65) 25 ya__3), (aI k (a 66) 25 yb__3), (aI k (a 67) 25 yd__3), ((a 9), .inr (5, (fX5 (a 10) (a 11) (a 12) (a 13)))), (aI k (a 10) 10 (vv n1 see1 tm1 g1)), (aI k (a 11) 24 ff1), (aI k (a 12) 24 fp1), (aI k (a 13) 4 fl1)] hP hD
    clear hP hD
    obtain ⟨hP, hD⟩ := hQ9
    try dsimp only at hw_3
    refine lv_goto (tgt := 38) hx hb dX7_boy_32 (by decide) ?_
    obtain ⟨hP9, hD9⟩ := pd_sub [((a 0), .inr (7, (fX7 (a 1) (a 3) (a 19) (a 35) (a 40) (nI rk) lfa (a 53) (a 56) (a 63) (a 64) (a 68)))), ((a 3), .inl (k 3, 3, .inr (.inr (.inr (.inr (a3 (a 4) (a 9) (a 14))))))), ((a 19), .inl (k 4, 3, .inr (.inr (.inr (.inr (a3 (a 20) (a 25) (a 30))))))), ((a 4), .inr (5, (fX5 (a 5) (a 6) (a 7) (a 8)))), (aI k (a 5) 10 (vv n0 see0 tm0 g0)), (aI k (a 6) 24 ff0), (aI k (a 7) 24 fp0), (aI k (a 8) 4 fl0), ((a 9), .inr (5, (fX5 (a 10) (a 11) (a 12) (a 13)))), (aI k (a 10) 10 (vv n1 see1 tm1 g1)), (aI k (a 11) 24 ff1), (aI k (a 12) 24 fp1), (aI k (a 13) 4 fl1), ((a 14), .inr (5, (fX5 (a 15) (a 16) (a 17) (a 18)))), (aI k (a 15) 10 (vv n2 see2 tm2 g2)), (aI k (a 16) 24 ff2), (aI k (a 17) 24 fp2), (aI k (a 18) 4 fl2), ((a 20), .inr (0, (fX0 (a 4) (a 21) (a 22) (a 23) (a 24)))), (aI k (a 21) 768 on0), (aI k (a 22) 4 sr0), (aI k (a 23) 4 en0), ((a 25), .inr (0, (fX0 (a 9) (a 26) (a 27) (a 28) (a 29)))), (aI k (a 26) 768 on1), (aI k (a 27) 4 sr1), (aI k (a 28) 4 en1), ((a 30), .inr (0, (fX0 (a 14) (a 31) (a 32) (a 33) (a 34)))), (aI k (a 31) 768 on2), (aI k (a 32) 4 sr2), (aI k (a 33) 4 en2), ((a 64), .inr (2, (fX2 (a 65) (a 66) (a 67) wt wc))), (aI k (a 65) 25 ya__3), (aI k (a 66) 25 yb__3), (aI k (a 67) 25 yd__3)] [0, 1, 2, 3, 4, 5, 6, 7, 29, 30, 31, 32, 33, 8, 9, 10, 11, 12, 13, 14, 15, 16, 17, 18, 19, 20, 21, 22, 23, 24, 25, 26, 27, 28] hP hD (by decide +kernel) rfl
    exact W.iret (v := r_3) hx hb hr (fun t ht hW => ⟨⟨r_3, (ya__3, yb__3, yd__3), rfl, tq_at (s := 1) (by omega) (show 0 < n1 by omega) (show boA (sdX n1 see1 tm1 g1 ff1 fp1) _ from hw_3.trans (congrArg (fun z => boV (sdX n1 see1 tm1 g1 ff1 fp1) z n1 0 0) (show en1 0 = wayE (sdX n1 see1 tm1 g1 ff1 fp1) 0 from ((hwy 1 (by omega) (show 0 < n1 by omega)) 0 (Nat.zero_le _) (Nat.zero_le _)).1))), by rw [ht]; exact hP9, hD9⟩, hS.F ht⟩) hS.2.2 dX7_boy_38
  · refine lv_if_eq (tgt := 35) hx hb dX7_boy_5 (by decide) (fun h => absurd h (by decide)) (fun _ => ?_)
    refine lv_aload_n hx hb dX7_boy_8 rfl (lv_at hl 0 rfl) ?_
    refine va_get (D := D) (ci := 7) (v := .ref (a 64)) (C := RX7) (T := TX7) (N := 12) hx hb hts inX7 hown hK hP 0 rfl rfl 10 (by decide) (hts _ tw_315) (fun _ h9 => h9) rfl dX7_boy_9 ?_
    refine lv_aload_n hx hb dX7_boy_12 rfl (lv_at hl 0 rfl) ?_
    refine va_get (D := D) (ci := 7) (v := .ref (a 3)) (C := RX7) (T := TX7) (N := 12) hx hb hts inX7 hown hK hP 0 rfl rfl 1 (by decide) (hts _ tw_306) (fun _ h9 => h9) rfl dX7_boy_13 ?_
    refine lv_iload_n hx hb dX7_boy_16 rfl (lv_at hl 1 rfl) ?_
    refine va_aldq hx hb hK hP 1 3 rfl rfl (by unfold vp_in; decide) dX7_boy_17 ?_
    refine lv_tr (y := .ref (a 14)) rfl ?_
    refine lv_aload_n hx hb dX7_boy_18 rfl (lv_at hl 0 rfl) ?_
    refine va_get (D := D) (ci := 7) (v := .ref (a 19)) (C := RX7) (T := TX7) (N := 12) hx hb hts inX7 hown hK hP 0 rfl rfl 2 (by decide) (hts _ tw_307) (fun _ h9 => h9) rfl dX7_boy_19 ?_
    refine lv_iload_n hx hb dX7_boy_22 rfl (lv_at hl 1 rfl) ?_
    refine va_aldq hx hb hK hP 2 4 rfl rfl (by unfold vp_in; decide) dX7_boy_23 ?_
    refine lv_tr (y := .ref (a 30)) rfl ?_
    refine va_get (D := D) (ci := 0) (v := .ref (a 33)) (C := RX0) (T := TX0) (N := 5) hx hb hts inX0 hown hK hP 26 rfl rfl 3 (by decide) (hts _ tw_271) (fun _ h9 => h9) rfl dX7_boy_24 ?_
    refine lv_iconst (v := 0) hx hb dX7_boy_27 (by decide) ?_
    refine va_iald hx hb hK hP 29 1 rfl rfl (by unfold vp_in; decide) dX7_boy_28 ?_
    refine lv_ti (y := (en2 0)) (by rfl) ?_
    refine rw_i (D := D) (wr := [((a 0), .inr (7, (fX7 (a 1) (a 3) (a 19) (a 35) (a 40) (nI rk) lfa (a 53) (a 56) (a 63) (a 64) (a 68)))), ((a 3), .inl (k 3, 3, .inr (.inr (.inr (.inr (a3 (a 4) (a 9) (a 14))))))), ((a 19), .inl (k 4, 3, .inr (.inr (.inr (.inr (a3 (a 20) (a 25) (a 30))))))), ((a 4), .inr (5, (fX5 (a 5) (a 6) (a 7) (a 8)))), (aI k (a 5) 10 (vv n0 see0 tm0 g0)), (aI k (a 6) 24 ff0), (aI k (a 7) 24 fp0), (aI k (a 8) 4 fl0), ((a 9), .inr (5, (fX5 (a 10) (a 11) (a 12) (a 13)))), (aI k (a 10) 10 (vv n1 see1 tm1 g1)), (aI k (a 11) 24 ff1), (aI k (a 12) 24 fp1), (aI k (a 13) 4 fl1), ((a 20), .inr (0, (fX0 (a 4) (a 21) (a 22) (a 23) (a 24)))), (aI k (a 21) 768 on0), (aI k (a 22) 4 sr0), (aI k (a 23) 4 en0), ((a 25), .inr (0, (fX0 (a 9) (a 26) (a 27) (a 28) (a 29)))), (aI k (a 26) 768 on1), (aI k (a 27) 4 sr1), (aI k (a 28) 4 en1), ((a 30), .inr (0, (fX0 (a 14) (a 31) (a 32) (a 33) (a 34)))), (aI k (a 31) 768 on2), (aI k (a 32) 4 sr2), (aI k (a 33) 4 en2)]) (va_runV (As := [.ref (a 14), .int (en2 0)]) (rest := []) ⟨hx, hb, hml, hown, hts⟩ ((y_boyOf l D k st lo (a 64) (a 65) (a 66) (a 67) wt wc ya yb yd (a 14) (a 15) (a 16) (a 17) (a 18) n2 see2 tm2 g2 ff2 fp2 fl2 (en2 0) (by first | assumption | omega) (hlt 2 (by omega)) (hok 2 (by omega))) H.size) (cwV 2 hts (gV tw_792 tw_793 tw_794 tw_83 tw_795) rfl rfl rfl (by decide +kernel) ⟨Nat.le_of_ble_eq_true rfl, Nat.le_of_ble_eq_true rfl⟩) (pV hS hAlo hlo hP hK (va_Dlo hD hAlo) hZ [30, 31, 32, 33, 13, 14, 15, 16, 17] (by decide +kernel) rfl (ci := 2) (q := (RX2, TX2, 5)) (q0 := 0) rfl rfl) rfl rfl hl.1 rfl (lv_room (Nat.le_of_ble_eq_true rfl)) dX7_boy_29 ⟨Nat.le_of_ble_eq_true rfl, Nat.le_of_ble_eq_true rfl⟩) hS hA hP hD [30, 31, 32, 33, 13, 14, 15, 16, 17] [0, 1, 2, 3, 4, 5, 6, 7, 8, 9, 10, 11, 12, 18, 19, 20, 21, 22, 23, 24, 25, 26, 27, 28, 29] rfl rfl (by decide +kernel) (by decide +kernel) (fun r_4 u H locs hw_4 hP hD hS => ?_)
    obtain ⟨ya__4, yb__4, yd__4⟩ := u
    have hQ9 := pd_mk [((a 0), .inr (7, (fX7 (a 1) (a 3) (a 19) (a 35) (a 40) (nI rk) lfa (a 53) (a 56) (a 63) (a 64) (a 68)))), ((a 3), .inl (k 3, 3, .inr (.inr (.inr (.inr (a3 (a 4) (a 9) (a 14))))))), ((a 19), .inl (k 4, 3, .inr (.inr (.inr (.inr (a3 (a 20) (a 25) (a 30))))))), ((a 4), .inr (5, (fX5 (a 5) (a 6) (a 7) (a 8)))), (aI k (a 5) 10 (vv n0 see0 tm0 g0)), (aI k (a 6) 24 ff0), (aI k (a 7) 24 fp0), (aI k (a 8) 4 fl0), ((a 9), .inr (5, (fX5 (a 10) (a 11) (a 12) (a 13)))), (aI k (a 10) 10 (vv n1 see1 tm1 g1)), (aI k (a 11) 24 ff1), (aI k (a 12) 24 fp1), (aI k (a 13) 4 fl1), ((a 20), .inr (0, (fX0 (a 4) (a 21) (a 22) (a 23) (a 24)))), (aI k (a 21) 768 on0), (aI k (a 22) 4 sr0), (aI k (a 23) 4 en0), ((a 25), .inr (0, (fX0 (a 9) (a 26) (a 27) (a 28) (a 29)))), (aI k (a 26) 768 on1), (aI k (a 27) 4 sr1), (aI k (a 28) 4 en1), ((a 30), .inr (0, (fX0 (a 14) (a 31) (a 32) (a 33) (a 34)))), (aI k (a 31) 768 on2), (aI k (a 32) 4 sr2), (aI k (a 33) 4 en2), ((a 64), .inr (2, (fX2 (a 65) (a 66) (a 67) wt wc))), (aI k (a 65) 25 ya__4), (aI k (a 66) 25 yb__4), (aI k (a 67) 25 yd__4), ((a 14), .inr (5, (fX5 (a 15) (a 16) (a 17) (a 18)))), (aI k (a 15) 10 (vv n2 see2 tm2 g2)), (aI k (a 16) 24 ff2), (aI k (a 17) 24 fp2), (aI k (a 18) 4 fl2)] hP hD
    clear hP hD
    obtain ⟨hP, hD⟩ := hQ9
    try dsimp only at hw_4
    refine lv_goto (tgt := 38) hx hb dX7_boy_32 (by decide) ?_
    obtain ⟨hP9, hD9⟩ := pd_sub [((a 0), .inr (7, (fX7 (a 1) (a 3) (a 19) (a 35) (a 40) (nI rk) lfa (a 53) (a 56) (a 63) (a 64) (a 68)))), ((a 3), .inl (k 3, 3, .inr (.inr (.inr (.inr (a3 (a 4) (a 9) (a 14))))))), ((a 19), .inl (k 4, 3, .inr (.inr (.inr (.inr (a3 (a 20) (a 25) (a 30))))))), ((a 4), .inr (5, (fX5 (a 5) (a 6) (a 7) (a 8)))), (aI k (a 5) 10 (vv n0 see0 tm0 g0)), (aI k (a 6) 24 ff0), (aI k (a 7) 24 fp0), (aI k (a 8) 4 fl0), ((a 9), .inr (5, (fX5 (a 10) (a 11) (a 12) (a 13)))), (aI k (a 10) 10 (vv n1 see1 tm1 g1)), (aI k (a 11) 24 ff1), (aI k (a 12) 24 fp1), (aI k (a 13) 4 fl1), ((a 14), .inr (5, (fX5 (a 15) (a 16) (a 17) (a 18)))), (aI k (a 15) 10 (vv n2 see2 tm2 g2)), (aI k (a 16) 24 ff2), (aI k (a 17) 24 fp2), (aI k (a 18) 4 fl2), ((a 20), .inr (0, (fX0 (a 4) (a 21) (a 22) (a 23) (a 24)))), (aI k (a 21) 768 on0), (aI k (a 22) 4 sr0), (aI k (a 23) 4 en0), ((a 25), .inr (0, (fX0 (a 9) (a 26) (a 27) (a 28) (a 29)))), (aI k (a 26) 768 on1), (aI k (a 27) 4 sr1), (aI k (a 28) 4 en1), ((a 30), .inr (0, (fX0 (a 14) (a 31) (a 32) (a 33) (a 34)))), (aI k (a 31) 768 on2), (aI k (a 32) 4 sr2), (aI k (a 33) 4 en2), ((a 64), .inr (2, (fX2 (a 65) (a 66) (a 67) wt wc))), (aI k (a 65) 25 ya__4), (aI k (a 66) 25 yb__4), (aI k (a 67) 25 yd__4)] [0, 1, 2, 3, 4, 5, 6, 7, 8, 9, 10, 11, 12, 29, 30, 31, 32, 33, 13, 14, 15, 16, 17, 18, 19, 20, 21, 22, 23, 24, 25, 26, 27, 28] hP hD (by decide +kernel) rfl
    exact W.iret (v := r_4) hx hb hr (fun t ht hW => ⟨⟨r_4, (ya__4, yb__4, yd__4), rfl, tq_at (s := 2) (by omega) (show 0 < n2 by omega) (show boA (sdX n2 see2 tm2 g2 ff2 fp2) _ from hw_4.trans (congrArg (fun z => boV (sdX n2 see2 tm2 g2 ff2 fp2) z n2 0 0) (show en2 0 = wayE (sdX n2 see2 tm2 g2 ff2 fp2) 0 from ((hwy 2 (by omega) (show 0 < n2 by omega)) 0 (Nat.zero_le _) (Nat.zero_le _)).1))), by rw [ht]; exact hP9, hD9⟩, hS.F ht⟩) hS.2.2 dX7_boy_38
  · refine lv_if_eq (tgt := 35) hx hb dX7_boy_5 (by decide) (fun _ => ?_) (fun h => absurd (by decide) h)
    refine lv_sipush (v := (-1001)) hx hb dX7_boy_35 (by decide) ?_
    obtain ⟨hP9, hD9⟩ := pd_sub [((a 0), .inr (7, (fX7 (a 1) (a 3) (a 19) (a 35) (a 40) (nI rk) lfa (a 53) (a 56) (a 63) (a 64) (a 68)))), ((a 3), .inl (k 3, 3, .inr (.inr (.inr (.inr (a3 (a 4) (a 9) (a 14))))))), ((a 19), .inl (k 4, 3, .inr (.inr (.inr (.inr (a3 (a 20) (a 25) (a 30))))))), ((a 4), .inr (5, (fX5 (a 5) (a 6) (a 7) (a 8)))), (aI k (a 5) 10 (vv n0 see0 tm0 g0)), (aI k (a 6) 24 ff0), (aI k (a 7) 24 fp0), (aI k (a 8) 4 fl0), ((a 9), .inr (5, (fX5 (a 10) (a 11) (a 12) (a 13)))), (aI k (a 10) 10 (vv n1 see1 tm1 g1)), (aI k (a 11) 24 ff1), (aI k (a 12) 24 fp1), (aI k (a 13) 4 fl1), ((a 14), .inr (5, (fX5 (a 15) (a 16) (a 17) (a 18)))), (aI k (a 15) 10 (vv n2 see2 tm2 g2)), (aI k (a 16) 24 ff2), (aI k (a 17) 24 fp2), (aI k (a 18) 4 fl2), ((a 20), .inr (0, (fX0 (a 4) (a 21) (a 22) (a 23) (a 24)))), (aI k (a 21) 768 on0), (aI k (a 22) 4 sr0), (aI k (a 23) 4 en0), ((a 25), .inr (0, (fX0 (a 9) (a 26) (a 27) (a 28) (a 29)))), (aI k (a 26) 768 on1), (aI k (a 27) 4 sr1), (aI k (a 28) 4 en1), ((a 30), .inr (0, (fX0 (a 14) (a 31) (a 32) (a 33) (a 34)))), (aI k (a 31) 768 on2), (aI k (a 32) 4 sr2), (aI k (a 33) 4 en2), ((a 64), .inr (2, (fX2 (a 65) (a 66) (a 67) wt wc))), (aI k (a 65) 25 ya), (aI k (a 66) 25 yb), (aI k (a 67) 25 yd)] [0, 1, 2, 3, 4, 5, 6, 7, 8, 9, 10, 11, 12, 13, 14, 15, 16, 17, 18, 19, 20, 21, 22, 23, 24, 25, 26, 27, 28, 29, 30, 31, 32, 33] hP hD (by decide +kernel) rfl
    exact W.iret (v := (-1001)) hx hb hr (fun t ht hW => ⟨⟨(-1001), (ya, yb, yd), rfl, tq_no (fun s h1 h2 h3 => hw_1 s h1 h2 (by rw [d3_n] at h3; exact h3)), by rw [ht]; exact hP9, hD9⟩, hS.F ht⟩) hS.2.2 dX7_boy_38


set_option maxHeartbeats 4000000 in
set_option maxRecDepth 100000 in
theorem n_boy (l : Launch) (D : va_G) (k : Nat → ClassId) (st : Nat → Nat) (lo : Nat) (a : Nat → Nat) (tx : Nat) (t0 : Nat) (we : Nat) (rd : Nat) (ru : Nat) (rw : Nat) (ca : Nat) (fp : Int32) (wd : Int64) (nu : Int32) (na : Int32) (ts : Int32) (df : Int32) (db : Int32) (sd : Int32) (dn : Nat → Nat) (se : Nat → Nat) (tm : Nat → Nat) (gs : Nat → Int32) (ffrees : Nat → Int32) (fprices : Nat → Int32) (fons : Nat → Int32) (fworths : Nat → Int32) (fstarts : Nat → Int32) (fends : Nat → Int32) (fgoesRound : Nat → Int32) (fbegin : Nat → Int32) (fboys : Nat → Int32) (fboysNext : Nat → Int32) (p0 : Int32) (hdn : ∀ j, dn j ≤ 24) (hse : ∀ j, se j ≤ 2) (htm : ∀ j, tm j ≤ 3) : CWi l D k st lo yX8_boy cX8_boy 8 (some .int) ({ frames := 6, cells := 0, slots := 0, locals := 144 }) 0 0 [.ref (a 0), .int p0] [((a 0), .inr (8, (fX8 a (nI tx) fp (nI t0) wd (nI we) nu na (nI rd) ts (nI ru) (nI rw) (nI ca) df db sd))), (aI k (a 1) 3 (nF dn)), (aI k (a 4) 27 (sg se tm gs)), (aI k (a 2) 72 ffrees), (aI k (a 3) 72 fprices), (aI k (a 18) 768 fons), (aI k (a 19) 768 fworths), (aI k (a 20) 5 fstarts), (aI k (a 21) 4 fends), (aZ k (a 22) 4 fgoesRound), (aI k (a 23) 8 fbegin), (aI k (a 33) 50 fboys), (aI k (a 34) 50 fboysNext)] (fun (r : Int32) (u : (Nat → Int32) × (Nat → Int32) × (Nat → Int32) × (Nat → Int32) × (Nat → Int32) × (Nat → Int32) × (Nat → Int32) × (Nat → Int32)) => match u with | (fons_, fworths_, fstarts_, fends_, fgoesRound_, fbegin_, fboys_, fboysNext_) => tqP (sdM dn (sg se tm gs) ffrees fprices) p0 boA r) (fun (u : (Nat → Int32) × (Nat → Int32) × (Nat → Int32) × (Nat → Int32) × (Nat → Int32) × (Nat → Int32) × (Nat → Int32) × (Nat → Int32)) => match u with | (fons_, fworths_, fstarts_, fends_, fgoesRound_, fbegin_, fboys_, fboysNext_) => [((a 0), .inr (8, (fX8 a (nI tx) fp (nI t0) wd (nI we) nu na (nI rd) ts (nI ru) (nI rw) (nI ca) df db sd))), (aI k (a 1) 3 (nF dn)), (aI k (a 4) 27 (sg se tm gs)), (aI k (a 2) 72 ffrees), (aI k (a 3) 72 fprices), (aI k (a 18) 768 fons_), (aI k (a 19) 768 fworths_), (aI k (a 20) 5 fstarts_), (aI k (a 21) 4 fends_), (aZ k (a 22) 4 fgoesRound_), (aI k (a 23) 8 fbegin_), (aI k (a 33) 50 fboys_), (aI k (a 34) 50 fboysNext_)]) := by
  intro sz
  refine Met.ofW (cc := cX8_boy) (maxL := 8) (ret := (some .int)) (by decide) rfl ?_
  intro p e s m args below meth c s₁ B hml hv
  obtain ⟨rfl, hsz, hlo, hP, hK, hDL, hZ⟩ := hv
  have hx := B.exec
  have hb := B.bytes
  have hr := B.returns
  have hts := WS_ts B.pre
  have hown : s.vm.findClass RX8 = some m.cls := findClass_of_methodNamed B.named
  have hlocks := B.notSynchronized
  subst hsz
  have hD := hDL.self (sz := s.heap.size)
  have hAlo := A_lo hDL hlo
  generalize hAe : va_A [((a 0), .inr (8, (fX8 a (nI tx) fp (nI t0) wd (nI we) nu na (nI rd) ts (nI ru) (nI rw) (nI ca) df db sd))), (aI k (a 1) 3 (nF dn)), (aI k (a 4) 27 (sg se tm gs)), (aI k (a 2) 72 ffrees), (aI k (a 3) 72 fprices), (aI k (a 18) 768 fons), (aI k (a 19) 768 fworths), (aI k (a 20) 5 fstarts), (aI k (a 21) 4 fends), (aZ k (a 22) 4 fgoesRound), (aI k (a 23) 8 fbegin), (aI k (a 33) 50 fboys), (aI k (a 34) 50 fboysNext)] s.heap.size = A at hD hAlo ⊢
  have hA : ∀ q : Nat, s.heap.size ≤ q → A q := fun q h => by rw [← hAe]; exact Or.inr h
  have hS : va_S A s.heap s.heap [] := va_S.rf
  have hl := lv_entry ([.ref (a 0), .int p0]) (n := 8) (Nat.le_of_ble_eq_true rfl)
  rw [lg_entry_eq]
  generalize (lg_sl ([.ref (a 0), .int p0]) ++ List.replicate (8 - (lg_sl ([.ref (a 0), .int p0])).length) Slot.unset).toArray = ls at hl ⊢
  have hl : lv_has ls 8 [(0, .ref (a 0)), (1, .int p0)] := hl
  refine lv_aload_n hx hb dX8_boy_0 rfl (lv_at hl 0 rfl) ?_
  refine lv_iload_n hx hb dX8_boy_1 rfl (lv_at hl 1 rfl) ?_
  refine ro_i (D := D) (va_runV (As := [.int p0]) (rest := []) ⟨hx, hb, hml, hown, hts⟩ ((n_isStreet l D k st lo a tx t0 we rd ru rw ca fp wd nu na ts df db sd dn p0 hdn) s.heap.size) (cwV 1 hts (gV tw_1189 tw_1191 tw_38 tw_87 tw_1192) rfl rfl rfl (by decide +kernel) ⟨Nat.le_of_ble_eq_true rfl, Nat.le_of_ble_eq_true rfl⟩) (pV hS hAlo hlo hP hK (va_Dlo hD hAlo) hZ [0, 1] (by decide) rfl (ci := 8) (q := (RX8, TX8, 44)) (q0 := 0) rfl rfl) rfl rfl hl.1 rfl (lv_room (Nat.le_of_ble_eq_true rfl)) dX8_boy_2 ⟨Nat.le_of_ble_eq_true rfl, Nat.le_of_ble_eq_true rfl⟩) hS hA hP (fun r_1 H locs hw_1 hP hS => ?_)
  try dsimp only at hw_1
  rcases hw_1 with ⟨rfl, j_2, hj_2, rfl, hw_1⟩ | ⟨rfl, hw_1⟩
  · have hdj_2 := hdn j_2
    have htj_2 := htm j_2
    refine lv_if_ne (tgt := 12) hx hb dX8_boy_5 (by decide) (fun _ => ?_) (fun h => absurd h (by decide))
    refine lv_aload_n hx hb dX8_boy_12 rfl (lv_at hl 0 rfl) ?_
    refine lv_iload_n hx hb dX8_boy_13 rfl (lv_at hl 1 rfl) ?_
    refine rw_v (D := D) (wr := [(aI k (a 33) 50 fboys), (aI k (a 34) 50 fboysNext)]) (va_runV (As := [.int (nI j_2)]) (rest := []) ⟨hx, hb, hml, hown, hts⟩ ((n_findWay l D k st lo a tx t0 we rd ru rw ca fp wd nu na ts df db sd dn se tm gs ffrees fprices fons fworths fstarts fends fgoesRound fbegin j_2 hdn hse htm (by first | assumption | omega) (by first | assumption | omega)) H.size) (cwV 1 hts (gV tw_1250 tw_1252 tw_49 tw_87 tw_1253) rfl rfl rfl (by decide +kernel) ⟨Nat.le_of_ble_eq_true rfl, Nat.le_of_ble_eq_true rfl⟩) (pV hS hAlo hlo hP hK (va_Dlo hD hAlo) hZ [0, 1, 2, 3, 4, 5, 6, 7, 8, 9, 10] (by decide +kernel) rfl (ci := 8) (q := (RX8, TX8, 44)) (q0 := 0) rfl rfl) rfl rfl hl.1 rfl (lv_room (Nat.le_of_ble_eq_true rfl)) dX8_boy_14 ⟨Nat.le_of_ble_eq_true rfl, Nat.le_of_ble_eq_true rfl⟩) hS hA hP hD [0, 1, 2, 3, 4, 5, 6, 7, 8, 9, 10] [11, 12] rfl rfl (by decide +kernel) (by decide +kernel) (fun u H locs hw_3 hP hD hS => ?_)
    obtain ⟨fons__3, fworths__3, fstarts__3, fends__3, fgoesRound__3, fbegin__3⟩ := u
    have hQ9 := pd_mk [(aI k (a 33) 50 fboys), (aI k (a 34) 50 fboysNext), ((a 0), .inr (8, (fX8 a (nI tx) fp (nI t0) wd (nI we) nu na (nI rd) ts (nI ru) (nI rw) (nI ca) df db sd))), (aI k (a 1) 3 (nF dn)), (aI k (a 4) 27 (sg se tm gs)), (aI k (a 2) 72 ffrees), (aI k (a 3) 72 fprices), (aI k (a 18) 768 fons__3), (aI k (a 19) 768 fworths__3), (aI k (a 20) 5 fstarts__3), (aI k (a 21) 4 fends__3), (aZ k (a 22) 4 fgoesRound__3), (aI k (a 23) 8 fbegin__3)] hP hD
    clear hP hD
    obtain ⟨hP, hD⟩ := hQ9
    try dsimp only at hw_3
    refine lv_aload_n hx hb dX8_boy_17 rfl (lv_at hl 0 rfl) ?_
    refine va_get (D := D) (ci := 8) (v := .ref (a 1)) (C := RX8) (T := TX8) (N := 44) hx hb hts inX8 hown hK hP 2 rfl rfl 0 (by decide) (hts _ tw_973) (fun _ h9 => h9) rfl dX8_boy_18 ?_
    refine lv_iload_n hx hb dX8_boy_21 rfl (lv_at hl 1 rfl) ?_
    refine va_iald hx hb hK hP 3 1 rfl rfl (vp_in_nI (by omega) (by decide)) dX8_boy_22 ?_
    refine lv_ti (y := (nI (dn j_2))) (by rw [nI_clamp (by omega)]; rfl) ?_
    refine lv_istore_n (lv' := [(2, .int (nI (dn j_2))), (0, .ref (a 0)), (1, .int (nI j_2))]) hx hb dX8_boy_23 rfl hl (by decide) rfl (fun ls hl => ?_)
    refine lv_iconst (v := 0) hx hb dX8_boy_24 (by decide) ?_
    refine lv_istore_n (lv' := [(3, .int 0), (2, .int (nI (dn j_2))), (0, .ref (a 0)), (1, .int (nI j_2))]) hx hb dX8_boy_25 rfl hl (by decide) rfl (fun ls hl => ?_)
    refine W_loop (σ := Nat × (Nat → Int32)) (fun (n_ : Nat) (x_ : Nat × (Nat → Int32)) (H : Heap) (locs : List Loc) (ls : Array Slot) => match x_ with | (kk_4, fb_4) => n_ = 50 - kk_4 ∧ (kk_4 ≤ 50 ∧ ∀ k, k < kk_4 → fb_4 k = boV (sdM dn (sg se tm gs) ffrees fprices j_2) (fends__3 0) 0 (bph (sdM dn (sg se tm gs) ffrees fprices j_2) (fends__3 0) (k / 2)) (k % 2)) ∧ va_P D classes [(aI k (a 33) 50 fb_4), (aI k (a 34) 50 fboysNext), ((a 0), .inr (8, (fX8 a (nI tx) fp (nI t0) wd (nI we) nu na (nI rd) ts (nI ru) (nI rw) (nI ca) df db sd))), (aI k (a 1) 3 (nF dn)), (aI k (a 4) 27 (sg se tm gs)), (aI k (a 2) 72 ffrees), (aI k (a 3) 72 fprices), (aI k (a 18) 768 fons__3), (aI k (a 19) 768 fworths__3), (aI k (a 20) 5 fstarts__3), (aI k (a 21) 4 fends__3), (aZ k (a 22) 4 fgoesRound__3), (aI k (a 23) 8 fbegin__3)] H ∧ va_D A [(aI k (a 33) 50 fb_4), (aI k (a 34) 50 fboysNext), ((a 0), .inr (8, (fX8 a (nI tx) fp (nI t0) wd (nI we) nu na (nI rd) ts (nI ru) (nI rw) (nI ca) df db sd))), (aI k (a 1) 3 (nF dn)), (aI k (a 4) 27 (sg se tm gs)), (aI k (a 2) 72 ffrees), (aI k (a 3) 72 fprices), (aI k (a 18) 768 fons__3), (aI k (a 19) 768 fworths__3), (aI k (a 20) 5 fstarts__3), (aI k (a 21) 4 fends__3), (aZ k (a 22) 4 fgoesRound__3), (aI k (a 23) 8 fbegin__3)] ∧ va_S A s.heap H locs ∧ lv_has ls 8 [(3, .int (nI kk_4)), (2, .int (nI (dn j_2))), (0, .ref (a 0)), (1, .int (nI j_2))]) (fun n_4 x_4 H locs ls hI ih_4 => ?_) _ (0, fboys) ⟨rfl, ⟨by omega, fun k h => absurd h (Nat.not_lt_zero k)⟩, hP, hD, hS, (lv_sub hl [0, 1, 2, 3] rfl)⟩
    obtain ⟨kk_4, fb_4⟩ := x_4
    obtain ⟨hm_4, hv_4, hP, hD, hS, hl⟩ := hI
    subst hm_4
    refine lv_iload_n hx hb dX8_boy_26 rfl (lv_at hl 0 rfl) ?_
    refine lv_bipush (v := 50) hx hb dX8_boy_27 (by decide) ?_
    refine lv_icmp_ge (tgt := 111) hx hb dX8_boy_29 (by decide) (fun c_5 => ?_) (fun c_5 => ?_)
    · have c_5 := (nI_leI (a := 50) (b := kk_4) (by omega) (by omega)).mp c_5
      refine lv_iload_n hx hb dX8_boy_111 rfl (lv_at hl 1 rfl) ?_
      refine lv_iconst (v := 1) hx hb dX8_boy_112 (by decide) ?_
      refine lv_isub hx hb dX8_boy_113 ?_
      refine lv_ti (y := (nI (dn j_2) - 1)) rfl ?_
      refine lv_istore_n (lv' := [(3, .int (nI (dn j_2) - 1)), (2, .int (nI (dn j_2))), (0, .ref (a 0)), (1, .int (nI j_2))]) hx hb dX8_boy_114 rfl hl (by decide) rfl (fun ls hl => ?_)
      refine W_loop (σ := Nat × (Nat → Int32) × (Nat → Int32)) (fun (n_ : Nat) (x_ : Nat × (Nat → Int32) × (Nat → Int32)) (H : Heap) (locs : List Loc) (ls : Array Slot) => match x_ with | (q_6, fb_6, fn_6) => n_ = 2 * q_6 ∧ (q_6 ≤ dn j_2 ∧ ∀ k, k < 50 → fb_6 k = boV (sdM dn (sg se tm gs) ffrees fprices j_2) (fends__3 0) (dn j_2 - q_6) (bph (sdM dn (sg se tm gs) ffrees fprices j_2) (fends__3 0) (k / 2)) (k % 2)) ∧ va_P D classes [(aI k (a 33) 50 fb_6), (aI k (a 34) 50 fn_6), ((a 0), .inr (8, (fX8 a (nI tx) fp (nI t0) wd (nI we) nu na (nI rd) ts (nI ru) (nI rw) (nI ca) df db sd))), (aI k (a 1) 3 (nF dn)), (aI k (a 4) 27 (sg se tm gs)), (aI k (a 2) 72 ffrees), (aI k (a 3) 72 fprices), (aI k (a 18) 768 fons__3), (aI k (a 19) 768 fworths__3), (aI k (a 20) 5 fstarts__3), (aI k (a 21) 4 fends__3), (aZ k (a 22) 4 fgoesRound__3), (aI k (a 23) 8 fbegin__3)] H ∧ va_D A [(aI k (a 33) 50 fb_6), (aI k (a 34) 50 fn_6), ((a 0), .inr (8, (fX8 a (nI tx) fp (nI t0) wd (nI we) nu na (nI rd) ts (nI ru) (nI rw) (nI ca) df db sd))), (aI k (a 1) 3 (nF dn)), (aI k (a 4) 27 (sg se tm gs)), (aI k (a 2) 72 ffrees), (aI k (a 3) 72 fprices), (aI k (a 18) 768 fons__3), (aI k (a 19) 768 fworths__3), (aI k (a 20) 5 fstarts__3), (aI k (a 21) 4 fends__3), (aZ k (a 22) 4 fgoesRound__3), (aI k (a 23) 8 fbegin__3)] ∧ va_S A s.heap H locs ∧ lv_has ls 8 [(3, .int (nI q_6 - 1)), (2, .int (nI (dn j_2))), (0, .ref (a 0)), (1, .int (nI j_2))]) (fun n_6 x_6 H locs ls hI ih_6 => ?_) _ (dn j_2, fb_4, fboysNext) ⟨rfl, ⟨by omega, fun k hk => by rw [Nat.sub_self]; exact hv_4.2 k (by omega)⟩, hP, hD, hS, (lv_sub hl [0, 1, 2, 3] rfl)⟩
      obtain ⟨q_6, fb_6, fn_6⟩ := x_6
      obtain ⟨hm_6, hv_6, hP, hD, hS, hl⟩ := hI
      subst hm_6
      rcases q_6 with _ | q_6
      · rw [dn0] at hl
        refine lv_iload_n hx hb dX8_boy_115 rfl (lv_at hl 0 rfl) ?_
        refine lv_if_lt (tgt := 270) hx hb dX8_boy_116 (by decide) (fun _ => ?_) (fun h => absurd (by decide) h)
        refine lv_aload_n hx hb dX8_boy_270 rfl (lv_at hl 2 rfl) ?_
        refine va_get (D := D) (ci := 8) (v := .ref (a 33)) (C := RX8) (T := TX8) (N := 44) hx hb hts inX8 hown hK hP 2 rfl rfl 32 (by decide) (hts _ tw_1005) (fun _ h9 => h9) rfl dX8_boy_271 ?_
        refine lv_bipush (v := 48) hx hb dX8_boy_274 (by decide) ?_
        refine va_iald hx hb hK hP 0 1 rfl rfl (by unfold vp_in; decide) dX8_boy_276 ?_
        refine lv_ti (y := (fb_6 48)) (by rfl) ?_
        obtain ⟨hP9, hD9⟩ := pd_sub [((a 0), .inr (8, (fX8 a (nI tx) fp (nI t0) wd (nI we) nu na (nI rd) ts (nI ru) (nI rw) (nI ca) df db sd))), (aI k (a 1) 3 (nF dn)), (aI k (a 4) 27 (sg se tm gs)), (aI k (a 2) 72 ffrees), (aI k (a 3) 72 fprices), (aI k (a 18) 768 fons__3), (aI k (a 19) 768 fworths__3), (aI k (a 20) 5 fstarts__3), (aI k (a 21) 4 fends__3), (aZ k (a 22) 4 fgoesRound__3), (aI k (a 23) 8 fbegin__3), (aI k (a 33) 50 fb_6), (aI k (a 34) 50 fn_6)] [2, 3, 4, 5, 6, 7, 8, 9, 10, 11, 12, 0, 1] hP hD (by decide +kernel) rfl
        exact W.iret (v := (fb_6 48)) hx hb hr (fun t ht hW => ⟨⟨(fb_6 48), (fons__3, fworths__3, fstarts__3, fends__3, fgoesRound__3, fbegin__3, fb_6, fn_6), rfl, tq_at (s := j_2) (by omega) (show 0 < dn j_2 by omega) (show boA (sdM dn (sg se tm gs) ffrees fprices j_2) _ from (by have h9 := hv_6.2 48 (by omega); rw [bph_0 (fun q => absurd (show 48 / 2 < dn j_2 from q.1) (by omega)), (show fends__3 0 = wayE (sdM dn (sg se tm gs) ffrees fprices j_2) 0 from ((wm_of (hse _) (htm _) hw_3) 0 (Nat.zero_le _) (Nat.zero_le _)).1)] at h9; exact h9)), by rw [ht]; exact hP9, hD9⟩, hS.F ht⟩) hS.2.2 dX8_boy_277
      · rw [nI_pred] at hl
        refine lv_iload_n hx hb dX8_boy_115 rfl (lv_at hl 0 rfl) ?_
        refine lv_if_lt (tgt := 270) hx hb dX8_boy_116 (by decide) (fun h => absurd h (nI_pos0 (by omega))) (fun _ => ?_)
        refine lv_iconst (v := 0) hx hb dX8_boy_119 (by decide) ?_
        refine lv_istore (lv' := [(4, .int 0), (3, .int (nI q_6)), (2, .int (nI (dn j_2))), (0, .ref (a 0)), (1, .int (nI j_2))]) hx hb dX8_boy_120 hl (by decide) rfl (fun ls hl => ?_)
        refine W_loop (σ := Nat × (Nat → Int32)) (fun (n_ : Nat) (x_ : Nat × (Nat → Int32)) (H : Heap) (locs : List Loc) (ls : Array Slot) => match x_ with | (k2_7, fn2_7) => n_ = 50 - k2_7 ∧ (k2_7 ≤ 50 ∧ ∀ k, k < k2_7 → fn2_7 k = boV (sdM dn (sg se tm gs) ffrees fprices j_2) (fends__3 0) (dn j_2 - q_6) (bph (sdM dn (sg se tm gs) ffrees fprices j_2) (fends__3 0) (k / 2)) (k % 2)) ∧ va_P D classes [(aI k (a 33) 50 fb_6), (aI k (a 34) 50 fn2_7), ((a 0), .inr (8, (fX8 a (nI tx) fp (nI t0) wd (nI we) nu na (nI rd) ts (nI ru) (nI rw) (nI ca) df db sd))), (aI k (a 1) 3 (nF dn)), (aI k (a 4) 27 (sg se tm gs)), (aI k (a 2) 72 ffrees), (aI k (a 3) 72 fprices), (aI k (a 18) 768 fons__3), (aI k (a 19) 768 fworths__3), (aI k (a 20) 5 fstarts__3), (aI k (a 21) 4 fends__3), (aZ k (a 22) 4 fgoesRound__3), (aI k (a 23) 8 fbegin__3)] H ∧ va_D A [(aI k (a 33) 50 fb_6), (aI k (a 34) 50 fn2_7), ((a 0), .inr (8, (fX8 a (nI tx) fp (nI t0) wd (nI we) nu na (nI rd) ts (nI ru) (nI rw) (nI ca) df db sd))), (aI k (a 1) 3 (nF dn)), (aI k (a 4) 27 (sg se tm gs)), (aI k (a 2) 72 ffrees), (aI k (a 3) 72 fprices), (aI k (a 18) 768 fons__3), (aI k (a 19) 768 fworths__3), (aI k (a 20) 5 fstarts__3), (aI k (a 21) 4 fends__3), (aZ k (a 22) 4 fgoesRound__3), (aI k (a 23) 8 fbegin__3)] ∧ va_S A s.heap H locs ∧ lv_has ls 8 [(4, .int (nI k2_7)), (3, .int (nI q_6)), (2, .int (nI (dn j_2))), (0, .ref (a 0)), (1, .int (nI j_2))]) (fun n_7 x_7 H locs ls hI ih_7 => ?_) _ (0, fn_6) ⟨rfl, ⟨by omega, fun k h => absurd h (Nat.not_lt_zero k)⟩, hP, hD, hS, (lv_sub hl [0, 1, 2, 3, 4] rfl)⟩
        obtain ⟨k2_7, fn2_7⟩ := x_7
        obtain ⟨hm_7, hv_7, hP, hD, hS, hl⟩ := hI
        subst hm_7
        refine lv_iload hx hb dX8_boy_122 (lv_at hl 0 rfl) ?_
        refine lv_bipush (v := 50) hx hb dX8_boy_124 (by decide) ?_
        refine lv_icmp_ge (tgt := 234) hx hb dX8_boy_126 (by decide) (fun c_8 => ?_) (fun c_8 => ?_)
        · have c_8 := (nI_leI (a := 50) (b := k2_7) (by omega) (by omega)).mp c_8
          refine lv_iconst (v := 0) hx hb dX8_boy_234 (by decide) ?_
          refine lv_istore (lv' := [(4, .int 0), (3, .int (nI q_6)), (2, .int (nI (dn j_2))), (0, .ref (a 0)), (1, .int (nI j_2))]) hx hb dX8_boy_235 hl (by decide) rfl (fun ls hl => ?_)
          refine W_loop (σ := Nat × (Nat → Int32)) (fun (n_ : Nat) (x_ : Nat × (Nat → Int32)) (H : Heap) (locs : List Loc) (ls : Array Slot) => match x_ with | (k3_9, fb3_9) => n_ = 50 - k3_9 ∧ (k3_9 ≤ 50 ∧ (∀ k, k < k3_9 → fb3_9 k = boV (sdM dn (sg se tm gs) ffrees fprices j_2) (fends__3 0) (dn j_2 - q_6) (bph (sdM dn (sg se tm gs) ffrees fprices j_2) (fends__3 0) (k / 2)) (k % 2)) ∧ True) ∧ va_P D classes [(aI k (a 33) 50 fb3_9), (aI k (a 34) 50 fn2_7), ((a 0), .inr (8, (fX8 a (nI tx) fp (nI t0) wd (nI we) nu na (nI rd) ts (nI ru) (nI rw) (nI ca) df db sd))), (aI k (a 1) 3 (nF dn)), (aI k (a 4) 27 (sg se tm gs)), (aI k (a 2) 72 ffrees), (aI k (a 3) 72 fprices), (aI k (a 18) 768 fons__3), (aI k (a 19) 768 fworths__3), (aI k (a 20) 5 fstarts__3), (aI k (a 21) 4 fends__3), (aZ k (a 22) 4 fgoesRound__3), (aI k (a 23) 8 fbegin__3)] H ∧ va_D A [(aI k (a 33) 50 fb3_9), (aI k (a 34) 50 fn2_7), ((a 0), .inr (8, (fX8 a (nI tx) fp (nI t0) wd (nI we) nu na (nI rd) ts (nI ru) (nI rw) (nI ca) df db sd))), (aI k (a 1) 3 (nF dn)), (aI k (a 4) 27 (sg se tm gs)), (aI k (a 2) 72 ffrees), (aI k (a 3) 72 fprices), (aI k (a 18) 768 fons__3), (aI k (a 19) 768 fworths__3), (aI k (a 20) 5 fstarts__3), (aI k (a 21) 4 fends__3), (aZ k (a 22) 4 fgoesRound__3), (aI k (a 23) 8 fbegin__3)] ∧ va_S A s.heap H locs ∧ lv_has ls 8 [(4, .int (nI k3_9)), (3, .int (nI q_6)), (2, .int (nI (dn j_2))), (0, .ref (a 0)), (1, .int (nI j_2))]) (fun n_9 x_9 H locs ls hI ih_9 => ?_) _ (0, fb_6) ⟨rfl, ⟨by omega, fun k h => absurd h (Nat.not_lt_zero k), trivial⟩, hP, hD, hS, (lv_sub hl [0, 1, 2, 3, 4] rfl)⟩
          obtain ⟨k3_9, fb3_9⟩ := x_9
          obtain ⟨hm_9, hv_9, hP, hD, hS, hl⟩ := hI
          subst hm_9
          refine lv_iload hx hb dX8_boy_237 (lv_at hl 0 rfl) ?_
          refine lv_bipush (v := 50) hx hb dX8_boy_239 (by decide) ?_
          refine lv_icmp_ge (tgt := 264) hx hb dX8_boy_241 (by decide) (fun c_10 => ?_) (fun c_10 => ?_)
          · have c_10 := (nI_leI (a := 50) (b := k3_9) (by omega) (by omega)).mp c_10
            refine lv_iinc (v := (nI q_6 - 1)) (lv' := [(3, .int (nI q_6 - 1)), (4, .int (nI k3_9)), (2, .int (nI (dn j_2))), (0, .ref (a 0)), (1, .int (nI j_2))]) hx hb dX8_boy_264 hl (k := 1) rfl (dn1 _) (by decide) rfl (fun ls hl => ?_)
            refine lv_goto (tgt := 115) hx hb dX8_boy_267 (by decide) ?_
            exact ih_6 _ (q_6, fb3_9, fn2_7) _ _ _ (by omega) ⟨rfl, ⟨by omega, fun k hk => hv_9.2.1 k (by omega)⟩, hP, hD, hS, (lv_sub hl [0, 2, 3, 4] rfl)⟩
          · have c_10 : ¬ (50 ≤ k3_9) := fun h => c_10 ((nI_leI (a := 50) (b := k3_9) (by omega) (by omega)).mpr h)
            refine lv_aload_n hx hb dX8_boy_244 rfl (lv_at hl 3 rfl) ?_
            refine va_get (D := D) (ci := 8) (v := .ref (a 33)) (C := RX8) (T := TX8) (N := 44) hx hb hts inX8 hown hK hP 2 rfl rfl 32 (by decide) (hts _ tw_1005) (fun _ h9 => h9) rfl dX8_boy_245 ?_
            refine lv_iload hx hb dX8_boy_248 (lv_at hl 0 rfl) ?_
            refine lv_aload_n hx hb dX8_boy_250 rfl (lv_at hl 3 rfl) ?_
            refine va_get (D := D) (ci := 8) (v := .ref (a 34)) (C := RX8) (T := TX8) (N := 44) hx hb hts inX8 hown hK hP 2 rfl rfl 33 (by decide) (hts _ tw_1006) (fun _ h9 => h9) rfl dX8_boy_251 ?_
            refine lv_iload hx hb dX8_boy_254 (lv_at hl 0 rfl) ?_
            refine va_iald hx hb hK hP 1 1 rfl rfl (vp_in_nI (by omega) (by decide)) dX8_boy_256 ?_
            refine lv_ti (y := (fn2_7 k3_9)) (by rw [nI_clamp (by omega)]) ?_
            refine va_iast hx hb hK hP hD hS 0 1 rfl rfl (vp_in_nI (by omega) (by decide)) dX8_boy_257 (fun H locs hP hD hS => ?_)
            have hQ9 := pd_mk [(aI k (a 33) 50 (upd fb3_9 (Int32.toNatClampNeg (nI k3_9)) (fn2_7 k3_9))), (aI k (a 34) 50 fn2_7), ((a 0), .inr (8, (fX8 a (nI tx) fp (nI t0) wd (nI we) nu na (nI rd) ts (nI ru) (nI rw) (nI ca) df db sd))), (aI k (a 1) 3 (nF dn)), (aI k (a 4) 27 (sg se tm gs)), (aI k (a 2) 72 ffrees), (aI k (a 3) 72 fprices), (aI k (a 18) 768 fons__3), (aI k (a 19) 768 fworths__3), (aI k (a 20) 5 fstarts__3), (aI k (a 21) 4 fends__3), (aZ k (a 22) 4 fgoesRound__3), (aI k (a 23) 8 fbegin__3)] hP hD
            clear hP hD
            obtain ⟨hP, hD⟩ := hQ9
            rw [nI_clamp (n := k3_9) (by omega)] at hP hD
            have hQ9 := pd_mk [(aI k (a 33) 50 (upd fb3_9 k3_9 (fn2_7 k3_9))), (aI k (a 34) 50 fn2_7), ((a 0), .inr (8, (fX8 a (nI tx) fp (nI t0) wd (nI we) nu na (nI rd) ts (nI ru) (nI rw) (nI ca) df db sd))), (aI k (a 1) 3 (nF dn)), (aI k (a 4) 27 (sg se tm gs)), (aI k (a 2) 72 ffrees), (aI k (a 3) 72 fprices), (aI k (a 18) 768 fons__3), (aI k (a 19) 768 fworths__3), (aI k (a 20) 5 fstarts__3), (aI k (a 21) 4 fends__3), (aZ k (a 22) 4 fgoesRound__3), (aI k (a 23) 8 fbegin__3)] hP hD
            clear hP hD
            obtain ⟨hP, hD⟩ := hQ9
            refine lv_iinc (v := (nI (k3_9 + 1))) (lv' := [(4, .int (nI (k3_9 + 1))), (3, .int (nI q_6)), (2, .int (nI (dn j_2))), (0, .ref (a 0)), (1, .int (nI j_2))]) hx hb dX8_boy_258 hl (k := 0) rfl (nI_add k3_9 1) (by decide) rfl (fun ls hl => ?_)
            refine lv_goto (tgt := 237) hx hb dX8_boy_261 (by decide) ?_
            exact ih_9 _ (k3_9 + 1, (upd fb3_9 k3_9 (fn2_7 k3_9))) _ _ _ (by omega) ⟨rfl, ⟨by omega, la_upd (F := fun k => boV (sdM dn (sg se tm gs) ffrees fprices j_2) (fends__3 0) (dn j_2 - q_6) (bph (sdM dn (sg se tm gs) ffrees fprices j_2) (fends__3 0) (k / 2)) (k % 2)) hv_9.2.1 (hv_7.2 k3_9 (by omega)), trivial⟩, hP, hD, hS, (lv_sub hl [0, 1, 2, 3, 4] rfl)⟩
        · have c_8 : ¬ (50 ≤ k2_7) := fun h => c_8 ((nI_leI (a := 50) (b := k2_7) (by omega) (by omega)).mpr h)
          refine lv_iload hx hb dX8_boy_129 (lv_at hl 0 rfl) ?_
          refine lv_iconst (v := 2) hx hb dX8_boy_131 (by decide) ?_
          refine lv_idiv hx hb dX8_boy_132 (by decide) ?_
          refine lv_ti (y := (nI (k2_7 / 2))) (pk_div (by omega) (by decide) (by decide)) ?_
          refine lv_istore (lv' := [(5, .int (nI (k2_7 / 2))), (4, .int (nI k2_7)), (3, .int (nI q_6)), (2, .int (nI (dn j_2))), (0, .ref (a 0)), (1, .int (nI j_2))]) hx hb dX8_boy_133 hl (by decide) rfl (fun ls hl => ?_)
          refine lv_iload hx hb dX8_boy_135 (lv_at hl 0 rfl) ?_
          refine lv_iload_n hx hb dX8_boy_137 rfl (lv_at hl 3 rfl) ?_
          refine lv_icmp_ge (tgt := 159) hx hb dX8_boy_138 (by decide) (fun c_12 => ?_) (fun c_12 => ?_)
          · have c_12 := (nI_leI (a := (dn j_2)) (b := (k2_7 / 2)) (by omega) (by omega)).mp c_12
            refine lv_iconst (v := 1) hx hb dX8_boy_159 (by decide) ?_
            refine lv_goto (tgt := 164) hx hb dX8_boy_160 (by decide) ?_
            refine lv_istore (lv' := [(6, .int 1), (5, .int (nI (k2_7 / 2))), (4, .int (nI k2_7)), (3, .int (nI q_6)), (2, .int (nI (dn j_2))), (0, .ref (a 0)), (1, .int (nI j_2))]) hx hb dX8_boy_164 hl (by decide) rfl (fun ls hl => ?_)
            refine lv_aload_n hx hb dX8_boy_166 rfl (lv_at hl 5 rfl) ?_
            refine va_get (D := D) (ci := 8) (v := .ref (a 33)) (C := RX8) (T := TX8) (N := 44) hx hb hts inX8 hown hK hP 2 rfl rfl 32 (by decide) (hts _ tw_1005) (fun _ h9 => h9) rfl dX8_boy_167 ?_
            refine lv_iconst (v := 2) hx hb dX8_boy_170 (by decide) ?_
            refine lv_iload hx hb dX8_boy_171 (lv_at hl 0 rfl) ?_
            refine lv_if_eq (tgt := 180) hx hb dX8_boy_173 (by decide) (fun h => absurd h (by decide)) (fun _ => ?_)
            refine lv_iload_n hx hb dX8_boy_176 rfl (lv_at hl 3 rfl) ?_
            refine lv_goto (tgt := 182) hx hb dX8_boy_177 (by decide) ?_
            refine lv_imul hx hb dX8_boy_182 ?_
            refine lv_ti (y := (nI (2 * q_6))) (pk_mul 2 q_6) ?_
            refine lv_iconst (v := 1) hx hb dX8_boy_183 (by decide) ?_
            refine lv_iadd hx hb dX8_boy_184 ?_
            refine lv_ti (y := (nI (2 * q_6 + 1))) (nI_add (2 * q_6) 1) ?_
            refine va_iald hx hb hK hP 0 1 rfl rfl (vp_in_nI (by omega) (by decide)) dX8_boy_185 ?_
            refine lv_ti (y := (fb_6 (2 * q_6 + 1))) (by rw [nI_clamp (by omega)]) ?_
            refine lv_istore (lv' := [(7, .int (fb_6 (2 * q_6 + 1))), (6, .int 1), (5, .int (nI (k2_7 / 2))), (4, .int (nI k2_7)), (3, .int (nI q_6)), (2, .int (nI (dn j_2))), (0, .ref (a 0)), (1, .int (nI j_2))]) hx hb dX8_boy_186 hl (by decide) rfl (fun ls hl => ?_)
            refine lv_aload_n hx hb dX8_boy_188 rfl (lv_at hl 6 rfl) ?_
            refine va_get (D := D) (ci := 8) (v := .ref (a 34)) (C := RX8) (T := TX8) (N := 44) hx hb hts inX8 hown hK hP 2 rfl rfl 33 (by decide) (hts _ tw_1006) (fun _ h9 => h9) rfl dX8_boy_189 ?_
            refine lv_iload hx hb dX8_boy_192 (lv_at hl 3 rfl) ?_
            refine lv_aload_n hx hb dX8_boy_194 rfl (lv_at hl 6 rfl) ?_
            refine lv_iload_n hx hb dX8_boy_195 rfl (lv_at hl 7 rfl) ?_
            refine lv_iload_n hx hb dX8_boy_196 rfl (lv_at hl 4 rfl) ?_
            refine lv_iload hx hb dX8_boy_197 (lv_at hl 3 rfl) ?_
            refine lv_iconst (v := 2) hx hb dX8_boy_199 (by decide) ?_
            refine lv_irem hx hb dX8_boy_200 (by decide) ?_
            refine lv_ti (y := (nI (k2_7 % 2))) (pk_rem (by omega) (by decide) (by decide)) ?_
            refine lv_iconst (v := 1) hx hb dX8_boy_201 (by decide) ?_
            refine lv_icmp_ne (tgt := 209) hx hb dX8_boy_202 (by decide) (fun c_13 => ?_) (fun c_13 => ?_)
            · have c_13 : ¬ ((k2_7 % 2) = 1) := fun h => c_13 ((nI_eq (a := (k2_7 % 2)) (b := 1) (by omega) (by omega)).mpr h)
              refine lv_iconst (v := 0) hx hb dX8_boy_209 (by decide) ?_
              refine ro_i (D := D) (va_runV (As := [.int (nI j_2), .int (nI q_6), .int 0]) (rest := [.int (nI k2_7), .ref (a 34)]) ⟨hx, hb, hml, hown, hts⟩ ((n_chanceOf l D k st lo a tx t0 we rd ru rw ca fp wd nu na ts df db sd ffrees se tm gs j_2 q_6 0 (by first | assumption | omega) (by first | assumption | omega)) H.size) (cwV 3 hts (gV tw_1210 tw_1212 tw_41 tw_87 tw_1213) rfl rfl rfl (by decide +kernel) ⟨Nat.le_of_ble_eq_true rfl, Nat.le_of_ble_eq_true rfl⟩) (pV hS hAlo hlo hP hK (va_Dlo hD hAlo) hZ [2, 5, 4] (by decide) rfl (ci := 8) (q := (RX8, TX8, 44)) (q0 := 0) rfl rfl) rfl rfl hl.1 rfl (lv_room (Nat.le_of_ble_eq_true rfl)) dX8_boy_210 ⟨Nat.le_of_ble_eq_true rfl, Nat.le_of_ble_eq_true rfl⟩) hS hA hP (fun r_14 H locs hw_14 hP hS => ?_)
              try dsimp only at hw_14
              refine lv_iload hx hb dX8_boy_213 (lv_at hl 0 rfl) ?_
              refine lv_aload_n hx hb dX8_boy_215 rfl (lv_at hl 6 rfl) ?_
              refine va_get (D := D) (ci := 8) (v := .ref (a 33)) (C := RX8) (T := TX8) (N := 44) hx hb hts inX8 hown hK hP 2 rfl rfl 32 (by decide) (hts _ tw_1005) (fun _ h9 => h9) rfl dX8_boy_216 ?_
              refine lv_iconst (v := 2) hx hb dX8_boy_219 (by decide) ?_
              refine lv_iload hx hb dX8_boy_220 (lv_at hl 2 rfl) ?_
              refine lv_imul hx hb dX8_boy_222 ?_
              refine lv_ti (y := (nI (2 * (k2_7 / 2)))) (pk_mul 2 (k2_7 / 2)) ?_
              refine va_iald hx hb hK hP 0 1 rfl rfl (vp_in_nI (by omega) (by decide)) dX8_boy_223 ?_
              refine lv_ti (y := (fb_6 (2 * (k2_7 / 2)))) (by rw [nI_clamp (by omega)]) ?_
              refine ro_i (D := D) (va_runS (As := [.int r_14, .int (fb_6 (2 * q_6 + 1)), .int (fb_6 (2 * (k2_7 / 2)))]) (rest := [.int (nI k2_7), .ref (a 34)]) ⟨hx, hb, hml, hown, hts⟩ ((n_mixed l D k st lo r_14 (fb_6 (2 * q_6 + 1)) (fb_6 (2 * (k2_7 / 2)))) H.size) (va_cwS 3 hts (gS tw_1269 tw_1270 tw_87 tw_1271) rfl rfl rfl (by decide +kernel) ⟨Nat.le_of_ble_eq_true rfl, Nat.le_of_ble_eq_true rfl⟩) (pS hS hAlo hlo hP hK (va_Dlo hD hAlo) hZ [] (by decide) rfl) rfl rfl hl.1 rfl (lv_room (Nat.le_of_ble_eq_true rfl)) dX8_boy_224 ⟨Nat.le_of_ble_eq_true rfl, Nat.le_of_ble_eq_true rfl⟩) hS hA hP (fun r_15 H locs hw_15 hP hS => ?_)
              try dsimp only at hw_15
              refine va_iast hx hb hK hP hD hS 1 1 rfl rfl (vp_in_nI (by omega) (by decide)) dX8_boy_227 (fun H locs hP hD hS => ?_)
              have hQ9 := pd_mk [(aI k (a 33) 50 fb_6), (aI k (a 34) 50 (upd fn2_7 (Int32.toNatClampNeg (nI k2_7)) r_15)), ((a 0), .inr (8, (fX8 a (nI tx) fp (nI t0) wd (nI we) nu na (nI rd) ts (nI ru) (nI rw) (nI ca) df db sd))), (aI k (a 1) 3 (nF dn)), (aI k (a 4) 27 (sg se tm gs)), (aI k (a 2) 72 ffrees), (aI k (a 3) 72 fprices), (aI k (a 18) 768 fons__3), (aI k (a 19) 768 fworths__3), (aI k (a 20) 5 fstarts__3), (aI k (a 21) 4 fends__3), (aZ k (a 22) 4 fgoesRound__3), (aI k (a 23) 8 fbegin__3)] hP hD
              clear hP hD
              obtain ⟨hP, hD⟩ := hQ9
              rw [nI_clamp (n := k2_7) (by omega)] at hP hD
              have hQ9 := pd_mk [(aI k (a 33) 50 fb_6), (aI k (a 34) 50 (upd fn2_7 k2_7 r_15)), ((a 0), .inr (8, (fX8 a (nI tx) fp (nI t0) wd (nI we) nu na (nI rd) ts (nI ru) (nI rw) (nI ca) df db sd))), (aI k (a 1) 3 (nF dn)), (aI k (a 4) 27 (sg se tm gs)), (aI k (a 2) 72 ffrees), (aI k (a 3) 72 fprices), (aI k (a 18) 768 fons__3), (aI k (a 19) 768 fworths__3), (aI k (a 20) 5 fstarts__3), (aI k (a 21) 4 fends__3), (aZ k (a 22) 4 fgoesRound__3), (aI k (a 23) 8 fbegin__3)] hP hD
              clear hP hD
              obtain ⟨hP, hD⟩ := hQ9
              refine lv_iinc (v := (nI (k2_7 + 1))) (lv' := [(4, .int (nI (k2_7 + 1))), (7, .int (fb_6 (2 * q_6 + 1))), (6, .int 1), (5, .int (nI (k2_7 / 2))), (3, .int (nI q_6)), (2, .int (nI (dn j_2))), (0, .ref (a 0)), (1, .int (nI j_2))]) hx hb dX8_boy_228 hl (k := 3) rfl (nI_add k2_7 1) (by decide) rfl (fun ls hl => ?_)
              refine lv_goto (tgt := 122) hx hb dX8_boy_231 (by decide) ?_
              have hx_7 := bo_v (d := (sdM dn (sg se tm gs) ffrees fprices j_2)) (E := (fends__3 0)) (b := bph (sdM dn (sg se tm gs) ffrees fprices j_2) (fends__3 0) (k2_7 / 2)) (a := k2_7 % 2) (show q_6 < dn j_2 by omega) (show _ = pChance (sdM dn (sg se tm gs) ffrees fprices j_2) q_6 (nI (k2_7 % 2)) from by rw [show k2_7 % 2 = 0 by omega]; exact hw_14.trans (mChance (fpr := fprices) (show q_6 < dn j_2 by omega))) (by have h9 := hv_6.2 (2 * q_6 + 1) (by omega); rw [show (2 * q_6 + 1) / 2 = q_6 by omega, show (2 * q_6 + 1) % 2 = 1 by omega, (bph_y (d := (sdM dn (sg se tm gs) ffrees fprices j_2)) (E := (fends__3 0)) (L := (k2_7 / 2)) (show q_6 < dn j_2 by omega) (.inl (show ¬ (k2_7 / 2) < dn j_2 by omega)))] at h9; exact h9) (by have h9 := hv_6.2 (2 * (k2_7 / 2)) (by omega); rw [show (2 * (k2_7 / 2)) / 2 = (k2_7 / 2) by omega, show (2 * (k2_7 / 2)) % 2 = 0 by omega] at h9; exact h9) hw_15
              exact ih_7 _ (k2_7 + 1, (upd fn2_7 k2_7 r_15)) _ _ _ (by omega) ⟨rfl, ⟨by omega, la_upd (F := fun k => boV (sdM dn (sg se tm gs) ffrees fprices j_2) (fends__3 0) (dn j_2 - q_6) (bph (sdM dn (sg se tm gs) ffrees fprices j_2) (fends__3 0) (k / 2)) (k % 2)) hv_7.2 hx_7⟩, hP, hD, hS, (lv_sub hl [0, 4, 5, 6, 7] rfl)⟩
            · have c_13 := (nI_eq (a := (k2_7 % 2)) (b := 1) (by omega) (by omega)).mp c_13
              refine lv_iconst (v := 1) hx hb dX8_boy_205 (by decide) ?_
              refine lv_goto (tgt := 210) hx hb dX8_boy_206 (by decide) ?_
              refine ro_i (D := D) (va_runV (As := [.int (nI j_2), .int (nI q_6), .int 1]) (rest := [.int (nI k2_7), .ref (a 34)]) ⟨hx, hb, hml, hown, hts⟩ ((n_chanceOf l D k st lo a tx t0 we rd ru rw ca fp wd nu na ts df db sd ffrees se tm gs j_2 q_6 1 (by first | assumption | omega) (by first | assumption | omega)) H.size) (cwV 3 hts (gV tw_1210 tw_1212 tw_41 tw_87 tw_1213) rfl rfl rfl (by decide +kernel) ⟨Nat.le_of_ble_eq_true rfl, Nat.le_of_ble_eq_true rfl⟩) (pV hS hAlo hlo hP hK (va_Dlo hD hAlo) hZ [2, 5, 4] (by decide) rfl (ci := 8) (q := (RX8, TX8, 44)) (q0 := 0) rfl rfl) rfl rfl hl.1 rfl (lv_room (Nat.le_of_ble_eq_true rfl)) dX8_boy_210 ⟨Nat.le_of_ble_eq_true rfl, Nat.le_of_ble_eq_true rfl⟩) hS hA hP (fun r_17 H locs hw_17 hP hS => ?_)
              try dsimp only at hw_17
              refine lv_iload hx hb dX8_boy_213 (lv_at hl 0 rfl) ?_
              refine lv_aload_n hx hb dX8_boy_215 rfl (lv_at hl 6 rfl) ?_
              refine va_get (D := D) (ci := 8) (v := .ref (a 33)) (C := RX8) (T := TX8) (N := 44) hx hb hts inX8 hown hK hP 2 rfl rfl 32 (by decide) (hts _ tw_1005) (fun _ h9 => h9) rfl dX8_boy_216 ?_
              refine lv_iconst (v := 2) hx hb dX8_boy_219 (by decide) ?_
              refine lv_iload hx hb dX8_boy_220 (lv_at hl 2 rfl) ?_
              refine lv_imul hx hb dX8_boy_222 ?_
              refine lv_ti (y := (nI (2 * (k2_7 / 2)))) (pk_mul 2 (k2_7 / 2)) ?_
              refine va_iald hx hb hK hP 0 1 rfl rfl (vp_in_nI (by omega) (by decide)) dX8_boy_223 ?_
              refine lv_ti (y := (fb_6 (2 * (k2_7 / 2)))) (by rw [nI_clamp (by omega)]) ?_
              refine ro_i (D := D) (va_runS (As := [.int r_17, .int (fb_6 (2 * q_6 + 1)), .int (fb_6 (2 * (k2_7 / 2)))]) (rest := [.int (nI k2_7), .ref (a 34)]) ⟨hx, hb, hml, hown, hts⟩ ((n_mixed l D k st lo r_17 (fb_6 (2 * q_6 + 1)) (fb_6 (2 * (k2_7 / 2)))) H.size) (va_cwS 3 hts (gS tw_1269 tw_1270 tw_87 tw_1271) rfl rfl rfl (by decide +kernel) ⟨Nat.le_of_ble_eq_true rfl, Nat.le_of_ble_eq_true rfl⟩) (pS hS hAlo hlo hP hK (va_Dlo hD hAlo) hZ [] (by decide) rfl) rfl rfl hl.1 rfl (lv_room (Nat.le_of_ble_eq_true rfl)) dX8_boy_224 ⟨Nat.le_of_ble_eq_true rfl, Nat.le_of_ble_eq_true rfl⟩) hS hA hP (fun r_18 H locs hw_18 hP hS => ?_)
              try dsimp only at hw_18
              refine va_iast hx hb hK hP hD hS 1 1 rfl rfl (vp_in_nI (by omega) (by decide)) dX8_boy_227 (fun H locs hP hD hS => ?_)
              have hQ9 := pd_mk [(aI k (a 33) 50 fb_6), (aI k (a 34) 50 (upd fn2_7 (Int32.toNatClampNeg (nI k2_7)) r_18)), ((a 0), .inr (8, (fX8 a (nI tx) fp (nI t0) wd (nI we) nu na (nI rd) ts (nI ru) (nI rw) (nI ca) df db sd))), (aI k (a 1) 3 (nF dn)), (aI k (a 4) 27 (sg se tm gs)), (aI k (a 2) 72 ffrees), (aI k (a 3) 72 fprices), (aI k (a 18) 768 fons__3), (aI k (a 19) 768 fworths__3), (aI k (a 20) 5 fstarts__3), (aI k (a 21) 4 fends__3), (aZ k (a 22) 4 fgoesRound__3), (aI k (a 23) 8 fbegin__3)] hP hD
              clear hP hD
              obtain ⟨hP, hD⟩ := hQ9
              rw [nI_clamp (n := k2_7) (by omega)] at hP hD
              have hQ9 := pd_mk [(aI k (a 33) 50 fb_6), (aI k (a 34) 50 (upd fn2_7 k2_7 r_18)), ((a 0), .inr (8, (fX8 a (nI tx) fp (nI t0) wd (nI we) nu na (nI rd) ts (nI ru) (nI rw) (nI ca) df db sd))), (aI k (a 1) 3 (nF dn)), (aI k (a 4) 27 (sg se tm gs)), (aI k (a 2) 72 ffrees), (aI k (a 3) 72 fprices), (aI k (a 18) 768 fons__3), (aI k (a 19) 768 fworths__3), (aI k (a 20) 5 fstarts__3), (aI k (a 21) 4 fends__3), (aZ k (a 22) 4 fgoesRound__3), (aI k (a 23) 8 fbegin__3)] hP hD
              clear hP hD
              obtain ⟨hP, hD⟩ := hQ9
              refine lv_iinc (v := (nI (k2_7 + 1))) (lv' := [(4, .int (nI (k2_7 + 1))), (7, .int (fb_6 (2 * q_6 + 1))), (6, .int 1), (5, .int (nI (k2_7 / 2))), (3, .int (nI q_6)), (2, .int (nI (dn j_2))), (0, .ref (a 0)), (1, .int (nI j_2))]) hx hb dX8_boy_228 hl (k := 3) rfl (nI_add k2_7 1) (by decide) rfl (fun ls hl => ?_)
              refine lv_goto (tgt := 122) hx hb dX8_boy_231 (by decide) ?_
              have hx_7 := bo_v (d := (sdM dn (sg se tm gs) ffrees fprices j_2)) (E := (fends__3 0)) (b := bph (sdM dn (sg se tm gs) ffrees fprices j_2) (fends__3 0) (k2_7 / 2)) (a := k2_7 % 2) (show q_6 < dn j_2 by omega) (show _ = pChance (sdM dn (sg se tm gs) ffrees fprices j_2) q_6 (nI (k2_7 % 2)) from by rw [show k2_7 % 2 = 1 by omega]; exact hw_17.trans (mChance (fpr := fprices) (show q_6 < dn j_2 by omega))) (by have h9 := hv_6.2 (2 * q_6 + 1) (by omega); rw [show (2 * q_6 + 1) / 2 = q_6 by omega, show (2 * q_6 + 1) % 2 = 1 by omega, (bph_y (d := (sdM dn (sg se tm gs) ffrees fprices j_2)) (E := (fends__3 0)) (L := (k2_7 / 2)) (show q_6 < dn j_2 by omega) (.inl (show ¬ (k2_7 / 2) < dn j_2 by omega)))] at h9; exact h9) (by have h9 := hv_6.2 (2 * (k2_7 / 2)) (by omega); rw [show (2 * (k2_7 / 2)) / 2 = (k2_7 / 2) by omega, show (2 * (k2_7 / 2)) % 2 = 0 by omega] at h9; exact h9) hw_18
              exact ih_7 _ (k2_7 + 1, (upd fn2_7 k2_7 r_18)) _ _ _ (by omega) ⟨rfl, ⟨by omega, la_upd (F := fun k => boV (sdM dn (sg se tm gs) ffrees fprices j_2) (fends__3 0) (dn j_2 - q_6) (bph (sdM dn (sg se tm gs) ffrees fprices j_2) (fends__3 0) (k / 2)) (k % 2)) hv_7.2 hx_7⟩, hP, hD, hS, (lv_sub hl [0, 4, 5, 6, 7] rfl)⟩
          · have c_12 : ¬ ((dn j_2) ≤ (k2_7 / 2)) := fun h => c_12 ((nI_leI (a := (dn j_2)) (b := (k2_7 / 2)) (by omega) (by omega)).mpr h)
            refine lv_aload_n hx hb dX8_boy_141 rfl (lv_at hl 4 rfl) ?_
            refine lv_iload_n hx hb dX8_boy_142 rfl (lv_at hl 5 rfl) ?_
            refine lv_iconst (v := 0) hx hb dX8_boy_143 (by decide) ?_
            refine lv_iload_n hx hb dX8_boy_144 rfl (lv_at hl 2 rfl) ?_
            refine ro_i (D := D) (va_runV (As := [.int (nI j_2), .int 0, .int (nI q_6)]) (rest := []) ⟨hx, hb, hml, hown, hts⟩ ((n_takingOf l D k st lo a tx t0 we rd ru rw ca fp wd nu na ts df db sd dn se tm gs fprices j_2 q_6 0 (by first | assumption | omega) (by first | assumption | omega)) H.size) (cwV 3 hts (gV tw_1222 tw_1224 tw_43 tw_87 tw_1225) rfl rfl rfl (by decide +kernel) ⟨Nat.le_of_ble_eq_true rfl, Nat.le_of_ble_eq_true rfl⟩) (pV hS hAlo hlo hP hK (va_Dlo hD hAlo) hZ [2, 3, 4, 6] (by decide) rfl (ci := 8) (q := (RX8, TX8, 44)) (q0 := 0) rfl rfl) rfl rfl hl.1 rfl (lv_room (Nat.le_of_ble_eq_true rfl)) dX8_boy_145 ⟨Nat.le_of_ble_eq_true rfl, Nat.le_of_ble_eq_true rfl⟩) hS hA hP (fun r_20 H locs hw_20 hP hS => ?_)
            try dsimp only at hw_20
            refine lv_aload_n hx hb dX8_boy_148 rfl (lv_at hl 4 rfl) ?_
            refine lv_iload_n hx hb dX8_boy_149 rfl (lv_at hl 5 rfl) ?_
            refine lv_iconst (v := 0) hx hb dX8_boy_150 (by decide) ?_
            refine lv_iload hx hb dX8_boy_151 (lv_at hl 0 rfl) ?_
            refine ro_i (D := D) (va_runV (As := [.int (nI j_2), .int 0, .int (nI (k2_7 / 2))]) (rest := [.int r_20]) ⟨hx, hb, hml, hown, hts⟩ ((n_takingOf l D k st lo a tx t0 we rd ru rw ca fp wd nu na ts df db sd dn se tm gs fprices j_2 (k2_7 / 2) 0 (by first | assumption | omega) (by first | assumption | omega)) H.size) (cwV 3 hts (gV tw_1222 tw_1224 tw_43 tw_87 tw_1225) rfl rfl rfl (by decide +kernel) ⟨Nat.le_of_ble_eq_true rfl, Nat.le_of_ble_eq_true rfl⟩) (pV hS hAlo hlo hP hK (va_Dlo hD hAlo) hZ [2, 3, 4, 6] (by decide) rfl (ci := 8) (q := (RX8, TX8, 44)) (q0 := 0) rfl rfl) rfl rfl hl.1 rfl (lv_room (Nat.le_of_ble_eq_true rfl)) dX8_boy_153 ⟨Nat.le_of_ble_eq_true rfl, Nat.le_of_ble_eq_true rfl⟩) hS hA hP (fun r_21 H locs hw_21 hP hS => ?_)
            try dsimp only at hw_21
            refine lv_icmp_ge (tgt := 163) hx hb dX8_boy_156 (by decide) (fun c_22 => ?_) (fun c_22 => ?_)
            · refine lv_iconst (v := 0) hx hb dX8_boy_163 (by decide) ?_
              refine lv_istore (lv' := [(6, .int 0), (5, .int (nI (k2_7 / 2))), (4, .int (nI k2_7)), (3, .int (nI q_6)), (2, .int (nI (dn j_2))), (0, .ref (a 0)), (1, .int (nI j_2))]) hx hb dX8_boy_164 hl (by decide) rfl (fun ls hl => ?_)
              refine lv_aload_n hx hb dX8_boy_166 rfl (lv_at hl 5 rfl) ?_
              refine va_get (D := D) (ci := 8) (v := .ref (a 33)) (C := RX8) (T := TX8) (N := 44) hx hb hts inX8 hown hK hP 2 rfl rfl 32 (by decide) (hts _ tw_1005) (fun _ h9 => h9) rfl dX8_boy_167 ?_
              refine lv_iconst (v := 2) hx hb dX8_boy_170 (by decide) ?_
              refine lv_iload hx hb dX8_boy_171 (lv_at hl 0 rfl) ?_
              refine lv_if_eq (tgt := 180) hx hb dX8_boy_173 (by decide) (fun _ => ?_) (fun h => absurd (by decide) h)
              refine lv_iload hx hb dX8_boy_180 (lv_at hl 1 rfl) ?_
              refine lv_imul hx hb dX8_boy_182 ?_
              refine lv_ti (y := (nI (2 * (k2_7 / 2)))) (pk_mul 2 (k2_7 / 2)) ?_
              refine lv_iconst (v := 1) hx hb dX8_boy_183 (by decide) ?_
              refine lv_iadd hx hb dX8_boy_184 ?_
              refine lv_ti (y := (nI (2 * (k2_7 / 2) + 1))) (nI_add (2 * (k2_7 / 2)) 1) ?_
              refine va_iald hx hb hK hP 0 1 rfl rfl (vp_in_nI (by omega) (by decide)) dX8_boy_185 ?_
              refine lv_ti (y := (fb_6 (2 * (k2_7 / 2) + 1))) (by rw [nI_clamp (by omega)]) ?_
              refine lv_istore (lv' := [(7, .int (fb_6 (2 * (k2_7 / 2) + 1))), (6, .int 0), (5, .int (nI (k2_7 / 2))), (4, .int (nI k2_7)), (3, .int (nI q_6)), (2, .int (nI (dn j_2))), (0, .ref (a 0)), (1, .int (nI j_2))]) hx hb dX8_boy_186 hl (by decide) rfl (fun ls hl => ?_)
              refine lv_aload_n hx hb dX8_boy_188 rfl (lv_at hl 6 rfl) ?_
              refine va_get (D := D) (ci := 8) (v := .ref (a 34)) (C := RX8) (T := TX8) (N := 44) hx hb hts inX8 hown hK hP 2 rfl rfl 33 (by decide) (hts _ tw_1006) (fun _ h9 => h9) rfl dX8_boy_189 ?_
              refine lv_iload hx hb dX8_boy_192 (lv_at hl 3 rfl) ?_
              refine lv_aload_n hx hb dX8_boy_194 rfl (lv_at hl 6 rfl) ?_
              refine lv_iload_n hx hb dX8_boy_195 rfl (lv_at hl 7 rfl) ?_
              refine lv_iload_n hx hb dX8_boy_196 rfl (lv_at hl 4 rfl) ?_
              refine lv_iload hx hb dX8_boy_197 (lv_at hl 3 rfl) ?_
              refine lv_iconst (v := 2) hx hb dX8_boy_199 (by decide) ?_
              refine lv_irem hx hb dX8_boy_200 (by decide) ?_
              refine lv_ti (y := (nI (k2_7 % 2))) (pk_rem (by omega) (by decide) (by decide)) ?_
              refine lv_iconst (v := 1) hx hb dX8_boy_201 (by decide) ?_
              refine lv_icmp_ne (tgt := 209) hx hb dX8_boy_202 (by decide) (fun c_23 => ?_) (fun c_23 => ?_)
              · have c_23 : ¬ ((k2_7 % 2) = 1) := fun h => c_23 ((nI_eq (a := (k2_7 % 2)) (b := 1) (by omega) (by omega)).mpr h)
                refine lv_iconst (v := 0) hx hb dX8_boy_209 (by decide) ?_
                refine ro_i (D := D) (va_runV (As := [.int (nI j_2), .int (nI q_6), .int 0]) (rest := [.int (nI k2_7), .ref (a 34)]) ⟨hx, hb, hml, hown, hts⟩ ((n_chanceOf l D k st lo a tx t0 we rd ru rw ca fp wd nu na ts df db sd ffrees se tm gs j_2 q_6 0 (by first | assumption | omega) (by first | assumption | omega)) H.size) (cwV 3 hts (gV tw_1210 tw_1212 tw_41 tw_87 tw_1213) rfl rfl rfl (by decide +kernel) ⟨Nat.le_of_ble_eq_true rfl, Nat.le_of_ble_eq_true rfl⟩) (pV hS hAlo hlo hP hK (va_Dlo hD hAlo) hZ [2, 5, 4] (by decide) rfl (ci := 8) (q := (RX8, TX8, 44)) (q0 := 0) rfl rfl) rfl rfl hl.1 rfl (lv_room (Nat.le_of_ble_eq_true rfl)) dX8_boy_210 ⟨Nat.le_of_ble_eq_true rfl, Nat.le_of_ble_eq_true rfl⟩) hS hA hP (fun r_24 H locs hw_24 hP hS => ?_)
                try dsimp only at hw_24
                refine lv_iload hx hb dX8_boy_213 (lv_at hl 0 rfl) ?_
                refine lv_aload_n hx hb dX8_boy_215 rfl (lv_at hl 6 rfl) ?_
                refine va_get (D := D) (ci := 8) (v := .ref (a 33)) (C := RX8) (T := TX8) (N := 44) hx hb hts inX8 hown hK hP 2 rfl rfl 32 (by decide) (hts _ tw_1005) (fun _ h9 => h9) rfl dX8_boy_216 ?_
                refine lv_iconst (v := 2) hx hb dX8_boy_219 (by decide) ?_
                refine lv_iload hx hb dX8_boy_220 (lv_at hl 2 rfl) ?_
                refine lv_imul hx hb dX8_boy_222 ?_
                refine lv_ti (y := (nI (2 * (k2_7 / 2)))) (pk_mul 2 (k2_7 / 2)) ?_
                refine va_iald hx hb hK hP 0 1 rfl rfl (vp_in_nI (by omega) (by decide)) dX8_boy_223 ?_
                refine lv_ti (y := (fb_6 (2 * (k2_7 / 2)))) (by rw [nI_clamp (by omega)]) ?_
                refine ro_i (D := D) (va_runS (As := [.int r_24, .int (fb_6 (2 * (k2_7 / 2) + 1)), .int (fb_6 (2 * (k2_7 / 2)))]) (rest := [.int (nI k2_7), .ref (a 34)]) ⟨hx, hb, hml, hown, hts⟩ ((n_mixed l D k st lo r_24 (fb_6 (2 * (k2_7 / 2) + 1)) (fb_6 (2 * (k2_7 / 2)))) H.size) (va_cwS 3 hts (gS tw_1269 tw_1270 tw_87 tw_1271) rfl rfl rfl (by decide +kernel) ⟨Nat.le_of_ble_eq_true rfl, Nat.le_of_ble_eq_true rfl⟩) (pS hS hAlo hlo hP hK (va_Dlo hD hAlo) hZ [] (by decide) rfl) rfl rfl hl.1 rfl (lv_room (Nat.le_of_ble_eq_true rfl)) dX8_boy_224 ⟨Nat.le_of_ble_eq_true rfl, Nat.le_of_ble_eq_true rfl⟩) hS hA hP (fun r_25 H locs hw_25 hP hS => ?_)
                try dsimp only at hw_25
                refine va_iast hx hb hK hP hD hS 1 1 rfl rfl (vp_in_nI (by omega) (by decide)) dX8_boy_227 (fun H locs hP hD hS => ?_)
                have hQ9 := pd_mk [(aI k (a 33) 50 fb_6), (aI k (a 34) 50 (upd fn2_7 (Int32.toNatClampNeg (nI k2_7)) r_25)), ((a 0), .inr (8, (fX8 a (nI tx) fp (nI t0) wd (nI we) nu na (nI rd) ts (nI ru) (nI rw) (nI ca) df db sd))), (aI k (a 1) 3 (nF dn)), (aI k (a 4) 27 (sg se tm gs)), (aI k (a 2) 72 ffrees), (aI k (a 3) 72 fprices), (aI k (a 18) 768 fons__3), (aI k (a 19) 768 fworths__3), (aI k (a 20) 5 fstarts__3), (aI k (a 21) 4 fends__3), (aZ k (a 22) 4 fgoesRound__3), (aI k (a 23) 8 fbegin__3)] hP hD
                clear hP hD
                obtain ⟨hP, hD⟩ := hQ9
                rw [nI_clamp (n := k2_7) (by omega)] at hP hD
                have hQ9 := pd_mk [(aI k (a 33) 50 fb_6), (aI k (a 34) 50 (upd fn2_7 k2_7 r_25)), ((a 0), .inr (8, (fX8 a (nI tx) fp (nI t0) wd (nI we) nu na (nI rd) ts (nI ru) (nI rw) (nI ca) df db sd))), (aI k (a 1) 3 (nF dn)), (aI k (a 4) 27 (sg se tm gs)), (aI k (a 2) 72 ffrees), (aI k (a 3) 72 fprices), (aI k (a 18) 768 fons__3), (aI k (a 19) 768 fworths__3), (aI k (a 20) 5 fstarts__3), (aI k (a 21) 4 fends__3), (aZ k (a 22) 4 fgoesRound__3), (aI k (a 23) 8 fbegin__3)] hP hD
                clear hP hD
                obtain ⟨hP, hD⟩ := hQ9
                refine lv_iinc (v := (nI (k2_7 + 1))) (lv' := [(4, .int (nI (k2_7 + 1))), (7, .int (fb_6 (2 * (k2_7 / 2) + 1))), (6, .int 0), (5, .int (nI (k2_7 / 2))), (3, .int (nI q_6)), (2, .int (nI (dn j_2))), (0, .ref (a 0)), (1, .int (nI j_2))]) hx hb dX8_boy_228 hl (k := 3) rfl (nI_add k2_7 1) (by decide) rfl (fun ls hl => ?_)
                refine lv_goto (tgt := 122) hx hb dX8_boy_231 (by decide) ?_
                have hx_7 := bo_v (d := (sdM dn (sg se tm gs) ffrees fprices j_2)) (E := (fends__3 0)) (b := bph (sdM dn (sg se tm gs) ffrees fprices j_2) (fends__3 0) (k2_7 / 2)) (a := k2_7 % 2) (show q_6 < dn j_2 by omega) (show _ = pChance (sdM dn (sg se tm gs) ffrees fprices j_2) q_6 (nI (k2_7 % 2)) from by rw [show k2_7 % 2 = 0 by omega]; exact hw_24.trans (mChance (fpr := fprices) (show q_6 < dn j_2 by omega))) (by have h9 := hv_6.2 (2 * (k2_7 / 2) + 1) (by omega); rw [show (2 * (k2_7 / 2) + 1) / 2 = (k2_7 / 2) by omega, show (2 * (k2_7 / 2) + 1) % 2 = 1 by omega, (bph_n (d := (sdM dn (sg se tm gs) ffrees fprices j_2)) (E := (fends__3 0)) (i := q_6) (show (k2_7 / 2) < dn j_2 by omega) (by rw [← (show fM_taking dn se tm gs fprices j_2 q_6 0 = pTake (sdM dn (sg se tm gs) ffrees fprices j_2) 0 q_6 from mTake (dn := dn) (se := se) (tm := tm) (gs := gs) (ffr := ffrees) (fpr := fprices) (s := j_2) (r := 0) (i := q_6) (show q_6 < dn j_2 by omega)), ← (show fM_taking dn se tm gs fprices j_2 (k2_7 / 2) 0 = pTake (sdM dn (sg se tm gs) ffrees fprices j_2) 0 (k2_7 / 2) from mTake (dn := dn) (se := se) (tm := tm) (gs := gs) (ffr := ffrees) (fpr := fprices) (s := j_2) (r := 0) (i := (k2_7 / 2)) (show (k2_7 / 2) < dn j_2 by omega)), ← hw_20, ← hw_21]; exact Int32.not_lt.mpr c_22))] at h9; exact h9) (by have h9 := hv_6.2 (2 * (k2_7 / 2)) (by omega); rw [show (2 * (k2_7 / 2)) / 2 = (k2_7 / 2) by omega, show (2 * (k2_7 / 2)) % 2 = 0 by omega] at h9; exact h9) hw_25
                exact ih_7 _ (k2_7 + 1, (upd fn2_7 k2_7 r_25)) _ _ _ (by omega) ⟨rfl, ⟨by omega, la_upd (F := fun k => boV (sdM dn (sg se tm gs) ffrees fprices j_2) (fends__3 0) (dn j_2 - q_6) (bph (sdM dn (sg se tm gs) ffrees fprices j_2) (fends__3 0) (k / 2)) (k % 2)) hv_7.2 hx_7⟩, hP, hD, hS, (lv_sub hl [0, 4, 5, 6, 7] rfl)⟩
              · have c_23 := (nI_eq (a := (k2_7 % 2)) (b := 1) (by omega) (by omega)).mp c_23
                refine lv_iconst (v := 1) hx hb dX8_boy_205 (by decide) ?_
                refine lv_goto (tgt := 210) hx hb dX8_boy_206 (by decide) ?_
                refine ro_i (D := D) (va_runV (As := [.int (nI j_2), .int (nI q_6), .int 1]) (rest := [.int (nI k2_7), .ref (a 34)]) ⟨hx, hb, hml, hown, hts⟩ ((n_chanceOf l D k st lo a tx t0 we rd ru rw ca fp wd nu na ts df db sd ffrees se tm gs j_2 q_6 1 (by first | assumption | omega) (by first | assumption | omega)) H.size) (cwV 3 hts (gV tw_1210 tw_1212 tw_41 tw_87 tw_1213) rfl rfl rfl (by decide +kernel) ⟨Nat.le_of_ble_eq_true rfl, Nat.le_of_ble_eq_true rfl⟩) (pV hS hAlo hlo hP hK (va_Dlo hD hAlo) hZ [2, 5, 4] (by decide) rfl (ci := 8) (q := (RX8, TX8, 44)) (q0 := 0) rfl rfl) rfl rfl hl.1 rfl (lv_room (Nat.le_of_ble_eq_true rfl)) dX8_boy_210 ⟨Nat.le_of_ble_eq_true rfl, Nat.le_of_ble_eq_true rfl⟩) hS hA hP (fun r_27 H locs hw_27 hP hS => ?_)
                try dsimp only at hw_27
                refine lv_iload hx hb dX8_boy_213 (lv_at hl 0 rfl) ?_
                refine lv_aload_n hx hb dX8_boy_215 rfl (lv_at hl 6 rfl) ?_
                refine va_get (D := D) (ci := 8) (v := .ref (a 33)) (C := RX8) (T := TX8) (N := 44) hx hb hts inX8 hown hK hP 2 rfl rfl 32 (by decide) (hts _ tw_1005) (fun _ h9 => h9) rfl dX8_boy_216 ?_
                refine lv_iconst (v := 2) hx hb dX8_boy_219 (by decide) ?_
                refine lv_iload hx hb dX8_boy_220 (lv_at hl 2 rfl) ?_
                refine lv_imul hx hb dX8_boy_222 ?_
                refine lv_ti (y := (nI (2 * (k2_7 / 2)))) (pk_mul 2 (k2_7 / 2)) ?_
                refine va_iald hx hb hK hP 0 1 rfl rfl (vp_in_nI (by omega) (by decide)) dX8_boy_223 ?_
                refine lv_ti (y := (fb_6 (2 * (k2_7 / 2)))) (by rw [nI_clamp (by omega)]) ?_
                refine ro_i (D := D) (va_runS (As := [.int r_27, .int (fb_6 (2 * (k2_7 / 2) + 1)), .int (fb_6 (2 * (k2_7 / 2)))]) (rest := [.int (nI k2_7), .ref (a 34)]) ⟨hx, hb, hml, hown, hts⟩ ((n_mixed l D k st lo r_27 (fb_6 (2 * (k2_7 / 2) + 1)) (fb_6 (2 * (k2_7 / 2)))) H.size) (va_cwS 3 hts (gS tw_1269 tw_1270 tw_87 tw_1271) rfl rfl rfl (by decide +kernel) ⟨Nat.le_of_ble_eq_true rfl, Nat.le_of_ble_eq_true rfl⟩) (pS hS hAlo hlo hP hK (va_Dlo hD hAlo) hZ [] (by decide) rfl) rfl rfl hl.1 rfl (lv_room (Nat.le_of_ble_eq_true rfl)) dX8_boy_224 ⟨Nat.le_of_ble_eq_true rfl, Nat.le_of_ble_eq_true rfl⟩) hS hA hP (fun r_28 H locs hw_28 hP hS => ?_)
                try dsimp only at hw_28
                refine va_iast hx hb hK hP hD hS 1 1 rfl rfl (vp_in_nI (by omega) (by decide)) dX8_boy_227 (fun H locs hP hD hS => ?_)
                have hQ9 := pd_mk [(aI k (a 33) 50 fb_6), (aI k (a 34) 50 (upd fn2_7 (Int32.toNatClampNeg (nI k2_7)) r_28)), ((a 0), .inr (8, (fX8 a (nI tx) fp (nI t0) wd (nI we) nu na (nI rd) ts (nI ru) (nI rw) (nI ca) df db sd))), (aI k (a 1) 3 (nF dn)), (aI k (a 4) 27 (sg se tm gs)), (aI k (a 2) 72 ffrees), (aI k (a 3) 72 fprices), (aI k (a 18) 768 fons__3), (aI k (a 19) 768 fworths__3), (aI k (a 20) 5 fstarts__3), (aI k (a 21) 4 fends__3), (aZ k (a 22) 4 fgoesRound__3), (aI k (a 23) 8 fbegin__3)] hP hD
                clear hP hD
                obtain ⟨hP, hD⟩ := hQ9
                rw [nI_clamp (n := k2_7) (by omega)] at hP hD
                have hQ9 := pd_mk [(aI k (a 33) 50 fb_6), (aI k (a 34) 50 (upd fn2_7 k2_7 r_28)), ((a 0), .inr (8, (fX8 a (nI tx) fp (nI t0) wd (nI we) nu na (nI rd) ts (nI ru) (nI rw) (nI ca) df db sd))), (aI k (a 1) 3 (nF dn)), (aI k (a 4) 27 (sg se tm gs)), (aI k (a 2) 72 ffrees), (aI k (a 3) 72 fprices), (aI k (a 18) 768 fons__3), (aI k (a 19) 768 fworths__3), (aI k (a 20) 5 fstarts__3), (aI k (a 21) 4 fends__3), (aZ k (a 22) 4 fgoesRound__3), (aI k (a 23) 8 fbegin__3)] hP hD
                clear hP hD
                obtain ⟨hP, hD⟩ := hQ9
                refine lv_iinc (v := (nI (k2_7 + 1))) (lv' := [(4, .int (nI (k2_7 + 1))), (7, .int (fb_6 (2 * (k2_7 / 2) + 1))), (6, .int 0), (5, .int (nI (k2_7 / 2))), (3, .int (nI q_6)), (2, .int (nI (dn j_2))), (0, .ref (a 0)), (1, .int (nI j_2))]) hx hb dX8_boy_228 hl (k := 3) rfl (nI_add k2_7 1) (by decide) rfl (fun ls hl => ?_)
                refine lv_goto (tgt := 122) hx hb dX8_boy_231 (by decide) ?_
                have hx_7 := bo_v (d := (sdM dn (sg se tm gs) ffrees fprices j_2)) (E := (fends__3 0)) (b := bph (sdM dn (sg se tm gs) ffrees fprices j_2) (fends__3 0) (k2_7 / 2)) (a := k2_7 % 2) (show q_6 < dn j_2 by omega) (show _ = pChance (sdM dn (sg se tm gs) ffrees fprices j_2) q_6 (nI (k2_7 % 2)) from by rw [show k2_7 % 2 = 1 by omega]; exact hw_27.trans (mChance (fpr := fprices) (show q_6 < dn j_2 by omega))) (by have h9 := hv_6.2 (2 * (k2_7 / 2) + 1) (by omega); rw [show (2 * (k2_7 / 2) + 1) / 2 = (k2_7 / 2) by omega, show (2 * (k2_7 / 2) + 1) % 2 = 1 by omega, (bph_n (d := (sdM dn (sg se tm gs) ffrees fprices j_2)) (E := (fends__3 0)) (i := q_6) (show (k2_7 / 2) < dn j_2 by omega) (by rw [← (show fM_taking dn se tm gs fprices j_2 q_6 0 = pTake (sdM dn (sg se tm gs) ffrees fprices j_2) 0 q_6 from mTake (dn := dn) (se := se) (tm := tm) (gs := gs) (ffr := ffrees) (fpr := fprices) (s := j_2) (r := 0) (i := q_6) (show q_6 < dn j_2 by omega)), ← (show fM_taking dn se tm gs fprices j_2 (k2_7 / 2) 0 = pTake (sdM dn (sg se tm gs) ffrees fprices j_2) 0 (k2_7 / 2) from mTake (dn := dn) (se := se) (tm := tm) (gs := gs) (ffr := ffrees) (fpr := fprices) (s := j_2) (r := 0) (i := (k2_7 / 2)) (show (k2_7 / 2) < dn j_2 by omega)), ← hw_20, ← hw_21]; exact Int32.not_lt.mpr c_22))] at h9; exact h9) (by have h9 := hv_6.2 (2 * (k2_7 / 2)) (by omega); rw [show (2 * (k2_7 / 2)) / 2 = (k2_7 / 2) by omega, show (2 * (k2_7 / 2)) % 2 = 0 by omega] at h9; exact h9) hw_28
                exact ih_7 _ (k2_7 + 1, (upd fn2_7 k2_7 r_28)) _ _ _ (by omega) ⟨rfl, ⟨by omega, la_upd (F := fun k => boV (sdM dn (sg se tm gs) ffrees fprices j_2) (fends__3 0) (dn j_2 - q_6) (bph (sdM dn (sg se tm gs) ffrees fprices j_2) (fends__3 0) (k / 2)) (k % 2)) hv_7.2 hx_7⟩, hP, hD, hS, (lv_sub hl [0, 4, 5, 6, 7] rfl)⟩
            · refine lv_iconst (v := 1) hx hb dX8_boy_159 (by decide) ?_
              refine lv_goto (tgt := 164) hx hb dX8_boy_160 (by decide) ?_
              refine lv_istore (lv' := [(6, .int 1), (5, .int (nI (k2_7 / 2))), (4, .int (nI k2_7)), (3, .int (nI q_6)), (2, .int (nI (dn j_2))), (0, .ref (a 0)), (1, .int (nI j_2))]) hx hb dX8_boy_164 hl (by decide) rfl (fun ls hl => ?_)
              refine lv_aload_n hx hb dX8_boy_166 rfl (lv_at hl 5 rfl) ?_
              refine va_get (D := D) (ci := 8) (v := .ref (a 33)) (C := RX8) (T := TX8) (N := 44) hx hb hts inX8 hown hK hP 2 rfl rfl 32 (by decide) (hts _ tw_1005) (fun _ h9 => h9) rfl dX8_boy_167 ?_
              refine lv_iconst (v := 2) hx hb dX8_boy_170 (by decide) ?_
              refine lv_iload hx hb dX8_boy_171 (lv_at hl 0 rfl) ?_
              refine lv_if_eq (tgt := 180) hx hb dX8_boy_173 (by decide) (fun h => absurd h (by decide)) (fun _ => ?_)
              refine lv_iload_n hx hb dX8_boy_176 rfl (lv_at hl 3 rfl) ?_
              refine lv_goto (tgt := 182) hx hb dX8_boy_177 (by decide) ?_
              refine lv_imul hx hb dX8_boy_182 ?_
              refine lv_ti (y := (nI (2 * q_6))) (pk_mul 2 q_6) ?_
              refine lv_iconst (v := 1) hx hb dX8_boy_183 (by decide) ?_
              refine lv_iadd hx hb dX8_boy_184 ?_
              refine lv_ti (y := (nI (2 * q_6 + 1))) (nI_add (2 * q_6) 1) ?_
              refine va_iald hx hb hK hP 0 1 rfl rfl (vp_in_nI (by omega) (by decide)) dX8_boy_185 ?_
              refine lv_ti (y := (fb_6 (2 * q_6 + 1))) (by rw [nI_clamp (by omega)]) ?_
              refine lv_istore (lv' := [(7, .int (fb_6 (2 * q_6 + 1))), (6, .int 1), (5, .int (nI (k2_7 / 2))), (4, .int (nI k2_7)), (3, .int (nI q_6)), (2, .int (nI (dn j_2))), (0, .ref (a 0)), (1, .int (nI j_2))]) hx hb dX8_boy_186 hl (by decide) rfl (fun ls hl => ?_)
              refine lv_aload_n hx hb dX8_boy_188 rfl (lv_at hl 6 rfl) ?_
              refine va_get (D := D) (ci := 8) (v := .ref (a 34)) (C := RX8) (T := TX8) (N := 44) hx hb hts inX8 hown hK hP 2 rfl rfl 33 (by decide) (hts _ tw_1006) (fun _ h9 => h9) rfl dX8_boy_189 ?_
              refine lv_iload hx hb dX8_boy_192 (lv_at hl 3 rfl) ?_
              refine lv_aload_n hx hb dX8_boy_194 rfl (lv_at hl 6 rfl) ?_
              refine lv_iload_n hx hb dX8_boy_195 rfl (lv_at hl 7 rfl) ?_
              refine lv_iload_n hx hb dX8_boy_196 rfl (lv_at hl 4 rfl) ?_
              refine lv_iload hx hb dX8_boy_197 (lv_at hl 3 rfl) ?_
              refine lv_iconst (v := 2) hx hb dX8_boy_199 (by decide) ?_
              refine lv_irem hx hb dX8_boy_200 (by decide) ?_
              refine lv_ti (y := (nI (k2_7 % 2))) (pk_rem (by omega) (by decide) (by decide)) ?_
              refine lv_iconst (v := 1) hx hb dX8_boy_201 (by decide) ?_
              refine lv_icmp_ne (tgt := 209) hx hb dX8_boy_202 (by decide) (fun c_30 => ?_) (fun c_30 => ?_)
              · have c_30 : ¬ ((k2_7 % 2) = 1) := fun h => c_30 ((nI_eq (a := (k2_7 % 2)) (b := 1) (by omega) (by omega)).mpr h)
                refine lv_iconst (v := 0) hx hb dX8_boy_209 (by decide) ?_
                refine ro_i (D := D) (va_runV (As := [.int (nI j_2), .int (nI q_6), .int 0]) (rest := [.int (nI k2_7), .ref (a 34)]) ⟨hx, hb, hml, hown, hts⟩ ((n_chanceOf l D k st lo a tx t0 we rd ru rw ca fp wd nu na ts df db sd ffrees se tm gs j_2 q_6 0 (by first | assumption | omega) (by first | assumption | omega)) H.size) (cwV 3 hts (gV tw_1210 tw_1212 tw_41 tw_87 tw_1213) rfl rfl rfl (by decide +kernel) ⟨Nat.le_of_ble_eq_true rfl, Nat.le_of_ble_eq_true rfl⟩) (pV hS hAlo hlo hP hK (va_Dlo hD hAlo) hZ [2, 5, 4] (by decide) rfl (ci := 8) (q := (RX8, TX8, 44)) (q0 := 0) rfl rfl) rfl rfl hl.1 rfl (lv_room (Nat.le_of_ble_eq_true rfl)) dX8_boy_210 ⟨Nat.le_of_ble_eq_true rfl, Nat.le_of_ble_eq_true rfl⟩) hS hA hP (fun r_31 H locs hw_31 hP hS => ?_)
                try dsimp only at hw_31
                refine lv_iload hx hb dX8_boy_213 (lv_at hl 0 rfl) ?_
                refine lv_aload_n hx hb dX8_boy_215 rfl (lv_at hl 6 rfl) ?_
                refine va_get (D := D) (ci := 8) (v := .ref (a 33)) (C := RX8) (T := TX8) (N := 44) hx hb hts inX8 hown hK hP 2 rfl rfl 32 (by decide) (hts _ tw_1005) (fun _ h9 => h9) rfl dX8_boy_216 ?_
                refine lv_iconst (v := 2) hx hb dX8_boy_219 (by decide) ?_
                refine lv_iload hx hb dX8_boy_220 (lv_at hl 2 rfl) ?_
                refine lv_imul hx hb dX8_boy_222 ?_
                refine lv_ti (y := (nI (2 * (k2_7 / 2)))) (pk_mul 2 (k2_7 / 2)) ?_
                refine va_iald hx hb hK hP 0 1 rfl rfl (vp_in_nI (by omega) (by decide)) dX8_boy_223 ?_
                refine lv_ti (y := (fb_6 (2 * (k2_7 / 2)))) (by rw [nI_clamp (by omega)]) ?_
                refine ro_i (D := D) (va_runS (As := [.int r_31, .int (fb_6 (2 * q_6 + 1)), .int (fb_6 (2 * (k2_7 / 2)))]) (rest := [.int (nI k2_7), .ref (a 34)]) ⟨hx, hb, hml, hown, hts⟩ ((n_mixed l D k st lo r_31 (fb_6 (2 * q_6 + 1)) (fb_6 (2 * (k2_7 / 2)))) H.size) (va_cwS 3 hts (gS tw_1269 tw_1270 tw_87 tw_1271) rfl rfl rfl (by decide +kernel) ⟨Nat.le_of_ble_eq_true rfl, Nat.le_of_ble_eq_true rfl⟩) (pS hS hAlo hlo hP hK (va_Dlo hD hAlo) hZ [] (by decide) rfl) rfl rfl hl.1 rfl (lv_room (Nat.le_of_ble_eq_true rfl)) dX8_boy_224 ⟨Nat.le_of_ble_eq_true rfl, Nat.le_of_ble_eq_true rfl⟩) hS hA hP (fun r_32 H locs hw_32 hP hS => ?_)
                try dsimp only at hw_32
                refine va_iast hx hb hK hP hD hS 1 1 rfl rfl (vp_in_nI (by omega) (by decide)) dX8_boy_227 (fun H locs hP hD hS => ?_)
                have hQ9 := pd_mk [(aI k (a 33) 50 fb_6), (aI k (a 34) 50 (upd fn2_7 (Int32.toNatClampNeg (nI k2_7)) r_32)), ((a 0), .inr (8, (fX8 a (nI tx) fp (nI t0) wd (nI we) nu na (nI rd) ts (nI ru) (nI rw) (nI ca) df db sd))), (aI k (a 1) 3 (nF dn)), (aI k (a 4) 27 (sg se tm gs)), (aI k (a 2) 72 ffrees), (aI k (a 3) 72 fprices), (aI k (a 18) 768 fons__3), (aI k (a 19) 768 fworths__3), (aI k (a 20) 5 fstarts__3), (aI k (a 21) 4 fends__3), (aZ k (a 22) 4 fgoesRound__3), (aI k (a 23) 8 fbegin__3)] hP hD
                clear hP hD
                obtain ⟨hP, hD⟩ := hQ9
                rw [nI_clamp (n := k2_7) (by omega)] at hP hD
                have hQ9 := pd_mk [(aI k (a 33) 50 fb_6), (aI k (a 34) 50 (upd fn2_7 k2_7 r_32)), ((a 0), .inr (8, (fX8 a (nI tx) fp (nI t0) wd (nI we) nu na (nI rd) ts (nI ru) (nI rw) (nI ca) df db sd))), (aI k (a 1) 3 (nF dn)), (aI k (a 4) 27 (sg se tm gs)), (aI k (a 2) 72 ffrees), (aI k (a 3) 72 fprices), (aI k (a 18) 768 fons__3), (aI k (a 19) 768 fworths__3), (aI k (a 20) 5 fstarts__3), (aI k (a 21) 4 fends__3), (aZ k (a 22) 4 fgoesRound__3), (aI k (a 23) 8 fbegin__3)] hP hD
                clear hP hD
                obtain ⟨hP, hD⟩ := hQ9
                refine lv_iinc (v := (nI (k2_7 + 1))) (lv' := [(4, .int (nI (k2_7 + 1))), (7, .int (fb_6 (2 * q_6 + 1))), (6, .int 1), (5, .int (nI (k2_7 / 2))), (3, .int (nI q_6)), (2, .int (nI (dn j_2))), (0, .ref (a 0)), (1, .int (nI j_2))]) hx hb dX8_boy_228 hl (k := 3) rfl (nI_add k2_7 1) (by decide) rfl (fun ls hl => ?_)
                refine lv_goto (tgt := 122) hx hb dX8_boy_231 (by decide) ?_
                have hx_7 := bo_v (d := (sdM dn (sg se tm gs) ffrees fprices j_2)) (E := (fends__3 0)) (b := bph (sdM dn (sg se tm gs) ffrees fprices j_2) (fends__3 0) (k2_7 / 2)) (a := k2_7 % 2) (show q_6 < dn j_2 by omega) (show _ = pChance (sdM dn (sg se tm gs) ffrees fprices j_2) q_6 (nI (k2_7 % 2)) from by rw [show k2_7 % 2 = 0 by omega]; exact hw_31.trans (mChance (fpr := fprices) (show q_6 < dn j_2 by omega))) (by have h9 := hv_6.2 (2 * q_6 + 1) (by omega); rw [show (2 * q_6 + 1) / 2 = q_6 by omega, show (2 * q_6 + 1) % 2 = 1 by omega, (bph_y (d := (sdM dn (sg se tm gs) ffrees fprices j_2)) (E := (fends__3 0)) (L := (k2_7 / 2)) (show q_6 < dn j_2 by omega) (.inr (by rw [← (show fM_taking dn se tm gs fprices j_2 q_6 0 = pTake (sdM dn (sg se tm gs) ffrees fprices j_2) 0 q_6 from mTake (dn := dn) (se := se) (tm := tm) (gs := gs) (ffr := ffrees) (fpr := fprices) (s := j_2) (r := 0) (i := q_6) (show q_6 < dn j_2 by omega)), ← (show fM_taking dn se tm gs fprices j_2 (k2_7 / 2) 0 = pTake (sdM dn (sg se tm gs) ffrees fprices j_2) 0 (k2_7 / 2) from mTake (dn := dn) (se := se) (tm := tm) (gs := gs) (ffr := ffrees) (fpr := fprices) (s := j_2) (r := 0) (i := (k2_7 / 2)) (show (k2_7 / 2) < dn j_2 by omega)), ← hw_20, ← hw_21]; exact Int32.not_le.mp c_22)))] at h9; exact h9) (by have h9 := hv_6.2 (2 * (k2_7 / 2)) (by omega); rw [show (2 * (k2_7 / 2)) / 2 = (k2_7 / 2) by omega, show (2 * (k2_7 / 2)) % 2 = 0 by omega] at h9; exact h9) hw_32
                exact ih_7 _ (k2_7 + 1, (upd fn2_7 k2_7 r_32)) _ _ _ (by omega) ⟨rfl, ⟨by omega, la_upd (F := fun k => boV (sdM dn (sg se tm gs) ffrees fprices j_2) (fends__3 0) (dn j_2 - q_6) (bph (sdM dn (sg se tm gs) ffrees fprices j_2) (fends__3 0) (k / 2)) (k % 2)) hv_7.2 hx_7⟩, hP, hD, hS, (lv_sub hl [0, 4, 5, 6, 7] rfl)⟩
              · have c_30 := (nI_eq (a := (k2_7 % 2)) (b := 1) (by omega) (by omega)).mp c_30
                refine lv_iconst (v := 1) hx hb dX8_boy_205 (by decide) ?_
                refine lv_goto (tgt := 210) hx hb dX8_boy_206 (by decide) ?_
                refine ro_i (D := D) (va_runV (As := [.int (nI j_2), .int (nI q_6), .int 1]) (rest := [.int (nI k2_7), .ref (a 34)]) ⟨hx, hb, hml, hown, hts⟩ ((n_chanceOf l D k st lo a tx t0 we rd ru rw ca fp wd nu na ts df db sd ffrees se tm gs j_2 q_6 1 (by first | assumption | omega) (by first | assumption | omega)) H.size) (cwV 3 hts (gV tw_1210 tw_1212 tw_41 tw_87 tw_1213) rfl rfl rfl (by decide +kernel) ⟨Nat.le_of_ble_eq_true rfl, Nat.le_of_ble_eq_true rfl⟩) (pV hS hAlo hlo hP hK (va_Dlo hD hAlo) hZ [2, 5, 4] (by decide) rfl (ci := 8) (q := (RX8, TX8, 44)) (q0 := 0) rfl rfl) rfl rfl hl.1 rfl (lv_room (Nat.le_of_ble_eq_true rfl)) dX8_boy_210 ⟨Nat.le_of_ble_eq_true rfl, Nat.le_of_ble_eq_true rfl⟩) hS hA hP (fun r_34 H locs hw_34 hP hS => ?_)
                try dsimp only at hw_34
                refine lv_iload hx hb dX8_boy_213 (lv_at hl 0 rfl) ?_
                refine lv_aload_n hx hb dX8_boy_215 rfl (lv_at hl 6 rfl) ?_
                refine va_get (D := D) (ci := 8) (v := .ref (a 33)) (C := RX8) (T := TX8) (N := 44) hx hb hts inX8 hown hK hP 2 rfl rfl 32 (by decide) (hts _ tw_1005) (fun _ h9 => h9) rfl dX8_boy_216 ?_
                refine lv_iconst (v := 2) hx hb dX8_boy_219 (by decide) ?_
                refine lv_iload hx hb dX8_boy_220 (lv_at hl 2 rfl) ?_
                refine lv_imul hx hb dX8_boy_222 ?_
                refine lv_ti (y := (nI (2 * (k2_7 / 2)))) (pk_mul 2 (k2_7 / 2)) ?_
                refine va_iald hx hb hK hP 0 1 rfl rfl (vp_in_nI (by omega) (by decide)) dX8_boy_223 ?_
                refine lv_ti (y := (fb_6 (2 * (k2_7 / 2)))) (by rw [nI_clamp (by omega)]) ?_
                refine ro_i (D := D) (va_runS (As := [.int r_34, .int (fb_6 (2 * q_6 + 1)), .int (fb_6 (2 * (k2_7 / 2)))]) (rest := [.int (nI k2_7), .ref (a 34)]) ⟨hx, hb, hml, hown, hts⟩ ((n_mixed l D k st lo r_34 (fb_6 (2 * q_6 + 1)) (fb_6 (2 * (k2_7 / 2)))) H.size) (va_cwS 3 hts (gS tw_1269 tw_1270 tw_87 tw_1271) rfl rfl rfl (by decide +kernel) ⟨Nat.le_of_ble_eq_true rfl, Nat.le_of_ble_eq_true rfl⟩) (pS hS hAlo hlo hP hK (va_Dlo hD hAlo) hZ [] (by decide) rfl) rfl rfl hl.1 rfl (lv_room (Nat.le_of_ble_eq_true rfl)) dX8_boy_224 ⟨Nat.le_of_ble_eq_true rfl, Nat.le_of_ble_eq_true rfl⟩) hS hA hP (fun r_35 H locs hw_35 hP hS => ?_)
                try dsimp only at hw_35
                refine va_iast hx hb hK hP hD hS 1 1 rfl rfl (vp_in_nI (by omega) (by decide)) dX8_boy_227 (fun H locs hP hD hS => ?_)
                have hQ9 := pd_mk [(aI k (a 33) 50 fb_6), (aI k (a 34) 50 (upd fn2_7 (Int32.toNatClampNeg (nI k2_7)) r_35)), ((a 0), .inr (8, (fX8 a (nI tx) fp (nI t0) wd (nI we) nu na (nI rd) ts (nI ru) (nI rw) (nI ca) df db sd))), (aI k (a 1) 3 (nF dn)), (aI k (a 4) 27 (sg se tm gs)), (aI k (a 2) 72 ffrees), (aI k (a 3) 72 fprices), (aI k (a 18) 768 fons__3), (aI k (a 19) 768 fworths__3), (aI k (a 20) 5 fstarts__3), (aI k (a 21) 4 fends__3), (aZ k (a 22) 4 fgoesRound__3), (aI k (a 23) 8 fbegin__3)] hP hD
                clear hP hD
                obtain ⟨hP, hD⟩ := hQ9
                rw [nI_clamp (n := k2_7) (by omega)] at hP hD
                have hQ9 := pd_mk [(aI k (a 33) 50 fb_6), (aI k (a 34) 50 (upd fn2_7 k2_7 r_35)), ((a 0), .inr (8, (fX8 a (nI tx) fp (nI t0) wd (nI we) nu na (nI rd) ts (nI ru) (nI rw) (nI ca) df db sd))), (aI k (a 1) 3 (nF dn)), (aI k (a 4) 27 (sg se tm gs)), (aI k (a 2) 72 ffrees), (aI k (a 3) 72 fprices), (aI k (a 18) 768 fons__3), (aI k (a 19) 768 fworths__3), (aI k (a 20) 5 fstarts__3), (aI k (a 21) 4 fends__3), (aZ k (a 22) 4 fgoesRound__3), (aI k (a 23) 8 fbegin__3)] hP hD
                clear hP hD
                obtain ⟨hP, hD⟩ := hQ9
                refine lv_iinc (v := (nI (k2_7 + 1))) (lv' := [(4, .int (nI (k2_7 + 1))), (7, .int (fb_6 (2 * q_6 + 1))), (6, .int 1), (5, .int (nI (k2_7 / 2))), (3, .int (nI q_6)), (2, .int (nI (dn j_2))), (0, .ref (a 0)), (1, .int (nI j_2))]) hx hb dX8_boy_228 hl (k := 3) rfl (nI_add k2_7 1) (by decide) rfl (fun ls hl => ?_)
                refine lv_goto (tgt := 122) hx hb dX8_boy_231 (by decide) ?_
                have hx_7 := bo_v (d := (sdM dn (sg se tm gs) ffrees fprices j_2)) (E := (fends__3 0)) (b := bph (sdM dn (sg se tm gs) ffrees fprices j_2) (fends__3 0) (k2_7 / 2)) (a := k2_7 % 2) (show q_6 < dn j_2 by omega) (show _ = pChance (sdM dn (sg se tm gs) ffrees fprices j_2) q_6 (nI (k2_7 % 2)) from by rw [show k2_7 % 2 = 1 by omega]; exact hw_34.trans (mChance (fpr := fprices) (show q_6 < dn j_2 by omega))) (by have h9 := hv_6.2 (2 * q_6 + 1) (by omega); rw [show (2 * q_6 + 1) / 2 = q_6 by omega, show (2 * q_6 + 1) % 2 = 1 by omega, (bph_y (d := (sdM dn (sg se tm gs) ffrees fprices j_2)) (E := (fends__3 0)) (L := (k2_7 / 2)) (show q_6 < dn j_2 by omega) (.inr (by rw [← (show fM_taking dn se tm gs fprices j_2 q_6 0 = pTake (sdM dn (sg se tm gs) ffrees fprices j_2) 0 q_6 from mTake (dn := dn) (se := se) (tm := tm) (gs := gs) (ffr := ffrees) (fpr := fprices) (s := j_2) (r := 0) (i := q_6) (show q_6 < dn j_2 by omega)), ← (show fM_taking dn se tm gs fprices j_2 (k2_7 / 2) 0 = pTake (sdM dn (sg se tm gs) ffrees fprices j_2) 0 (k2_7 / 2) from mTake (dn := dn) (se := se) (tm := tm) (gs := gs) (ffr := ffrees) (fpr := fprices) (s := j_2) (r := 0) (i := (k2_7 / 2)) (show (k2_7 / 2) < dn j_2 by omega)), ← hw_20, ← hw_21]; exact Int32.not_le.mp c_22)))] at h9; exact h9) (by have h9 := hv_6.2 (2 * (k2_7 / 2)) (by omega); rw [show (2 * (k2_7 / 2)) / 2 = (k2_7 / 2) by omega, show (2 * (k2_7 / 2)) % 2 = 0 by omega] at h9; exact h9) hw_35
                exact ih_7 _ (k2_7 + 1, (upd fn2_7 k2_7 r_35)) _ _ _ (by omega) ⟨rfl, ⟨by omega, la_upd (F := fun k => boV (sdM dn (sg se tm gs) ffrees fprices j_2) (fends__3 0) (dn j_2 - q_6) (bph (sdM dn (sg se tm gs) ffrees fprices j_2) (fends__3 0) (k / 2)) (k % 2)) hv_7.2 hx_7⟩, hP, hD, hS, (lv_sub hl [0, 4, 5, 6, 7] rfl)⟩
    · have c_5 : ¬ (50 ≤ kk_4) := fun h => c_5 ((nI_leI (a := 50) (b := kk_4) (by omega) (by omega)).mpr h)
      refine lv_iload_n hx hb dX8_boy_32 rfl (lv_at hl 0 rfl) ?_
      refine lv_iconst (v := 2) hx hb dX8_boy_33 (by decide) ?_
      refine lv_idiv hx hb dX8_boy_34 (by decide) ?_
      refine lv_ti (y := (nI (kk_4 / 2))) (pk_div (by omega) (by decide) (by decide)) ?_
      refine lv_istore (lv' := [(4, .int (nI (kk_4 / 2))), (3, .int (nI kk_4)), (2, .int (nI (dn j_2))), (0, .ref (a 0)), (1, .int (nI j_2))]) hx hb dX8_boy_35 hl (by decide) rfl (fun ls hl => ?_)
      refine lv_iload hx hb dX8_boy_37 (lv_at hl 0 rfl) ?_
      refine lv_iload_n hx hb dX8_boy_39 rfl (lv_at hl 2 rfl) ?_
      refine lv_icmp_ge (tgt := 74) hx hb dX8_boy_40 (by decide) (fun c_37 => ?_) (fun c_37 => ?_)
      · have c_37 := (nI_leI (a := (dn j_2)) (b := (kk_4 / 2)) (by omega) (by omega)).mp c_37
        refine lv_iconst (v := 0) hx hb dX8_boy_74 (by decide) ?_
        refine lv_istore (lv' := [(5, .int 0), (4, .int (nI (kk_4 / 2))), (3, .int (nI kk_4)), (2, .int (nI (dn j_2))), (0, .ref (a 0)), (1, .int (nI j_2))]) hx hb dX8_boy_75 hl (by decide) rfl (fun ls hl => ?_)
        refine lv_aload_n hx hb dX8_boy_77 rfl (lv_at hl 4 rfl) ?_
        refine va_get (D := D) (ci := 8) (v := .ref (a 33)) (C := RX8) (T := TX8) (N := 44) hx hb hts inX8 hown hK hP 2 rfl rfl 32 (by decide) (hts _ tw_1005) (fun _ h9 => h9) rfl dX8_boy_78 ?_
        refine lv_iload_n hx hb dX8_boy_81 rfl (lv_at hl 2 rfl) ?_
        refine lv_iload hx hb dX8_boy_82 (lv_at hl 0 rfl) ?_
        refine lv_if_eq (tgt := 98) hx hb dX8_boy_84 (by decide) (fun _ => ?_) (fun h => absurd (by decide) h)
        refine lv_aload_n hx hb dX8_boy_98 rfl (lv_at hl 4 rfl) ?_
        refine va_get (D := D) (ci := 8) (v := .ref (a 21)) (C := RX8) (T := TX8) (N := 44) hx hb hts inX8 hown hK hP 2 rfl rfl 20 (by decide) (hts _ tw_993) (fun _ h9 => h9) rfl dX8_boy_99 ?_
        refine lv_iconst (v := 0) hx hb dX8_boy_102 (by decide) ?_
        refine va_iald hx hb hK hP 10 1 rfl rfl (by unfold vp_in; decide) dX8_boy_103 ?_
        refine lv_ti (y := (fends__3 0)) (by rfl) ?_
        refine va_iast hx hb hK hP hD hS 0 1 rfl rfl (vp_in_nI (by omega) (by decide)) dX8_boy_104 (fun H locs hP hD hS => ?_)
        have hQ9 := pd_mk [(aI k (a 33) 50 (upd fb_4 (Int32.toNatClampNeg (nI kk_4)) (fends__3 0))), (aI k (a 34) 50 fboysNext), ((a 0), .inr (8, (fX8 a (nI tx) fp (nI t0) wd (nI we) nu na (nI rd) ts (nI ru) (nI rw) (nI ca) df db sd))), (aI k (a 1) 3 (nF dn)), (aI k (a 4) 27 (sg se tm gs)), (aI k (a 2) 72 ffrees), (aI k (a 3) 72 fprices), (aI k (a 18) 768 fons__3), (aI k (a 19) 768 fworths__3), (aI k (a 20) 5 fstarts__3), (aI k (a 21) 4 fends__3), (aZ k (a 22) 4 fgoesRound__3), (aI k (a 23) 8 fbegin__3)] hP hD
        clear hP hD
        obtain ⟨hP, hD⟩ := hQ9
        rw [nI_clamp (n := kk_4) (by omega)] at hP hD
        have hQ9 := pd_mk [(aI k (a 33) 50 (upd fb_4 kk_4 (fends__3 0))), (aI k (a 34) 50 fboysNext), ((a 0), .inr (8, (fX8 a (nI tx) fp (nI t0) wd (nI we) nu na (nI rd) ts (nI ru) (nI rw) (nI ca) df db sd))), (aI k (a 1) 3 (nF dn)), (aI k (a 4) 27 (sg se tm gs)), (aI k (a 2) 72 ffrees), (aI k (a 3) 72 fprices), (aI k (a 18) 768 fons__3), (aI k (a 19) 768 fworths__3), (aI k (a 20) 5 fstarts__3), (aI k (a 21) 4 fends__3), (aZ k (a 22) 4 fgoesRound__3), (aI k (a 23) 8 fbegin__3)] hP hD
        clear hP hD
        obtain ⟨hP, hD⟩ := hQ9
        refine lv_iinc (v := (nI (kk_4 + 1))) (lv' := [(3, .int (nI (kk_4 + 1))), (5, .int 0), (4, .int (nI (kk_4 / 2))), (2, .int (nI (dn j_2))), (0, .ref (a 0)), (1, .int (nI j_2))]) hx hb dX8_boy_105 hl (k := 2) rfl (nI_add kk_4 1) (by decide) rfl (fun ls hl => ?_)
        refine lv_goto (tgt := 26) hx hb dX8_boy_108 (by decide) ?_
        exact ih_4 _ (kk_4 + 1, (upd fb_4 kk_4 (fends__3 0))) _ _ _ (by omega) ⟨rfl, ⟨by omega, la_upd (F := fun k => boV (sdM dn (sg se tm gs) ffrees fprices j_2) (fends__3 0) 0 (bph (sdM dn (sg se tm gs) ffrees fprices j_2) (fends__3 0) (k / 2)) (k % 2)) hv_4.2 (bo_0 (by rw [bph_0 (fun q => absurd (show kk_4 / 2 < dn j_2 from q.1) (by omega))]; rfl))⟩, hP, hD, hS, (lv_sub hl [0, 3, 4, 5] rfl)⟩
      · have c_37 : ¬ ((dn j_2) ≤ (kk_4 / 2)) := fun h => c_37 ((nI_leI (a := (dn j_2)) (b := (kk_4 / 2)) (by omega) (by omega)).mpr h)
        refine lv_aload_n hx hb dX8_boy_43 rfl (lv_at hl 3 rfl) ?_
        refine lv_iload_n hx hb dX8_boy_44 rfl (lv_at hl 4 rfl) ?_
        refine lv_iconst (v := 0) hx hb dX8_boy_45 (by decide) ?_
        refine lv_iload hx hb dX8_boy_46 (lv_at hl 0 rfl) ?_
        refine lv_iload_n hx hb dX8_boy_48 rfl (lv_at hl 2 rfl) ?_
        refine lv_icmp_ge (tgt := 57) hx hb dX8_boy_49 (by decide) (fun h => absurd ((nI_leI (a := (dn j_2)) (b := (kk_4 / 2)) (by omega) (by omega)).mp h) (by omega)) (fun _ => ?_)
        refine lv_iload hx hb dX8_boy_52 (lv_at hl 0 rfl) ?_
        refine lv_goto (tgt := 58) hx hb dX8_boy_54 (by decide) ?_
        refine ro_i (D := D) (va_runV (As := [.int (nI j_2), .int 0, .int (nI (kk_4 / 2))]) (rest := []) ⟨hx, hb, hml, hown, hts⟩ ((n_takingOf l D k st lo a tx t0 we rd ru rw ca fp wd nu na ts df db sd dn se tm gs fprices j_2 (kk_4 / 2) 0 (by first | assumption | omega) (by first | assumption | omega)) H.size) (cwV 3 hts (gV tw_1222 tw_1224 tw_43 tw_87 tw_1225) rfl rfl rfl (by decide +kernel) ⟨Nat.le_of_ble_eq_true rfl, Nat.le_of_ble_eq_true rfl⟩) (pV hS hAlo hlo hP hK (va_Dlo hD hAlo) hZ [2, 3, 4, 6] (by decide) rfl (ci := 8) (q := (RX8, TX8, 44)) (q0 := 0) rfl rfl) rfl rfl hl.1 rfl (lv_room (Nat.le_of_ble_eq_true rfl)) dX8_boy_58 ⟨Nat.le_of_ble_eq_true rfl, Nat.le_of_ble_eq_true rfl⟩) hS hA hP (fun r_40 H locs hw_40 hP hS => ?_)
        try dsimp only at hw_40
        refine lv_aload_n hx hb dX8_boy_61 rfl (lv_at hl 3 rfl) ?_
        refine va_get (D := D) (ci := 8) (v := .ref (a 21)) (C := RX8) (T := TX8) (N := 44) hx hb hts inX8 hown hK hP 2 rfl rfl 20 (by decide) (hts _ tw_993) (fun _ h9 => h9) rfl dX8_boy_62 ?_
        refine lv_iconst (v := 0) hx hb dX8_boy_65 (by decide) ?_
        refine va_iald hx hb hK hP 10 1 rfl rfl (by unfold vp_in; decide) dX8_boy_66 ?_
        refine lv_ti (y := (fends__3 0)) (by rfl) ?_
        refine lv_icmp_ge (tgt := 74) hx hb dX8_boy_67 (by decide) (fun c_41 => ?_) (fun c_41 => ?_)
        · refine lv_iconst (v := 0) hx hb dX8_boy_74 (by decide) ?_
          refine lv_istore (lv' := [(5, .int 0), (4, .int (nI (kk_4 / 2))), (3, .int (nI kk_4)), (2, .int (nI (dn j_2))), (0, .ref (a 0)), (1, .int (nI j_2))]) hx hb dX8_boy_75 hl (by decide) rfl (fun ls hl => ?_)
          refine lv_aload_n hx hb dX8_boy_77 rfl (lv_at hl 4 rfl) ?_
          refine va_get (D := D) (ci := 8) (v := .ref (a 33)) (C := RX8) (T := TX8) (N := 44) hx hb hts inX8 hown hK hP 2 rfl rfl 32 (by decide) (hts _ tw_1005) (fun _ h9 => h9) rfl dX8_boy_78 ?_
          refine lv_iload_n hx hb dX8_boy_81 rfl (lv_at hl 2 rfl) ?_
          refine lv_iload hx hb dX8_boy_82 (lv_at hl 0 rfl) ?_
          refine lv_if_eq (tgt := 98) hx hb dX8_boy_84 (by decide) (fun _ => ?_) (fun h => absurd (by decide) h)
          refine lv_aload_n hx hb dX8_boy_98 rfl (lv_at hl 4 rfl) ?_
          refine va_get (D := D) (ci := 8) (v := .ref (a 21)) (C := RX8) (T := TX8) (N := 44) hx hb hts inX8 hown hK hP 2 rfl rfl 20 (by decide) (hts _ tw_993) (fun _ h9 => h9) rfl dX8_boy_99 ?_
          refine lv_iconst (v := 0) hx hb dX8_boy_102 (by decide) ?_
          refine va_iald hx hb hK hP 10 1 rfl rfl (by unfold vp_in; decide) dX8_boy_103 ?_
          refine lv_ti (y := (fends__3 0)) (by rfl) ?_
          refine va_iast hx hb hK hP hD hS 0 1 rfl rfl (vp_in_nI (by omega) (by decide)) dX8_boy_104 (fun H locs hP hD hS => ?_)
          have hQ9 := pd_mk [(aI k (a 33) 50 (upd fb_4 (Int32.toNatClampNeg (nI kk_4)) (fends__3 0))), (aI k (a 34) 50 fboysNext), ((a 0), .inr (8, (fX8 a (nI tx) fp (nI t0) wd (nI we) nu na (nI rd) ts (nI ru) (nI rw) (nI ca) df db sd))), (aI k (a 1) 3 (nF dn)), (aI k (a 4) 27 (sg se tm gs)), (aI k (a 2) 72 ffrees), (aI k (a 3) 72 fprices), (aI k (a 18) 768 fons__3), (aI k (a 19) 768 fworths__3), (aI k (a 20) 5 fstarts__3), (aI k (a 21) 4 fends__3), (aZ k (a 22) 4 fgoesRound__3), (aI k (a 23) 8 fbegin__3)] hP hD
          clear hP hD
          obtain ⟨hP, hD⟩ := hQ9
          rw [nI_clamp (n := kk_4) (by omega)] at hP hD
          have hQ9 := pd_mk [(aI k (a 33) 50 (upd fb_4 kk_4 (fends__3 0))), (aI k (a 34) 50 fboysNext), ((a 0), .inr (8, (fX8 a (nI tx) fp (nI t0) wd (nI we) nu na (nI rd) ts (nI ru) (nI rw) (nI ca) df db sd))), (aI k (a 1) 3 (nF dn)), (aI k (a 4) 27 (sg se tm gs)), (aI k (a 2) 72 ffrees), (aI k (a 3) 72 fprices), (aI k (a 18) 768 fons__3), (aI k (a 19) 768 fworths__3), (aI k (a 20) 5 fstarts__3), (aI k (a 21) 4 fends__3), (aZ k (a 22) 4 fgoesRound__3), (aI k (a 23) 8 fbegin__3)] hP hD
          clear hP hD
          obtain ⟨hP, hD⟩ := hQ9
          refine lv_iinc (v := (nI (kk_4 + 1))) (lv' := [(3, .int (nI (kk_4 + 1))), (5, .int 0), (4, .int (nI (kk_4 / 2))), (2, .int (nI (dn j_2))), (0, .ref (a 0)), (1, .int (nI j_2))]) hx hb dX8_boy_105 hl (k := 2) rfl (nI_add kk_4 1) (by decide) rfl (fun ls hl => ?_)
          refine lv_goto (tgt := 26) hx hb dX8_boy_108 (by decide) ?_
          exact ih_4 _ (kk_4 + 1, (upd fb_4 kk_4 (fends__3 0))) _ _ _ (by omega) ⟨rfl, ⟨by omega, la_upd (F := fun k => boV (sdM dn (sg se tm gs) ffrees fprices j_2) (fends__3 0) 0 (bph (sdM dn (sg se tm gs) ffrees fprices j_2) (fends__3 0) (k / 2)) (k % 2)) hv_4.2 (bo_0 (by rw [bph_0 (fun q => absurd q.2 (by rw [← (show fM_taking dn se tm gs fprices j_2 (kk_4 / 2) 0 = pTake (sdM dn (sg se tm gs) ffrees fprices j_2) 0 (kk_4 / 2) from mTake (dn := dn) (se := se) (tm := tm) (gs := gs) (ffr := ffrees) (fpr := fprices) (s := j_2) (r := 0) (i := (kk_4 / 2)) (show (kk_4 / 2) < dn j_2 by omega)), ← hw_40]; exact Int32.not_lt.mpr c_41))]; rfl))⟩, hP, hD, hS, (lv_sub hl [0, 3, 4, 5] rfl)⟩
        · refine lv_iconst (v := 1) hx hb dX8_boy_70 (by decide) ?_
          refine lv_goto (tgt := 75) hx hb dX8_boy_71 (by decide) ?_
          refine lv_istore (lv' := [(5, .int 1), (4, .int (nI (kk_4 / 2))), (3, .int (nI kk_4)), (2, .int (nI (dn j_2))), (0, .ref (a 0)), (1, .int (nI j_2))]) hx hb dX8_boy_75 hl (by decide) rfl (fun ls hl => ?_)
          refine lv_aload_n hx hb dX8_boy_77 rfl (lv_at hl 4 rfl) ?_
          refine va_get (D := D) (ci := 8) (v := .ref (a 33)) (C := RX8) (T := TX8) (N := 44) hx hb hts inX8 hown hK hP 2 rfl rfl 32 (by decide) (hts _ tw_1005) (fun _ h9 => h9) rfl dX8_boy_78 ?_
          refine lv_iload_n hx hb dX8_boy_81 rfl (lv_at hl 2 rfl) ?_
          refine lv_iload hx hb dX8_boy_82 (lv_at hl 0 rfl) ?_
          refine lv_if_eq (tgt := 98) hx hb dX8_boy_84 (by decide) (fun h => absurd h (by decide)) (fun _ => ?_)
          refine lv_aload_n hx hb dX8_boy_87 rfl (lv_at hl 4 rfl) ?_
          refine lv_iload_n hx hb dX8_boy_88 rfl (lv_at hl 5 rfl) ?_
          refine lv_iconst (v := 0) hx hb dX8_boy_89 (by decide) ?_
          refine lv_iload hx hb dX8_boy_90 (lv_at hl 1 rfl) ?_
          refine ro_i (D := D) (va_runV (As := [.int (nI j_2), .int 0, .int (nI (kk_4 / 2))]) (rest := [.int (nI kk_4), .ref (a 33)]) ⟨hx, hb, hml, hown, hts⟩ ((n_takingOf l D k st lo a tx t0 we rd ru rw ca fp wd nu na ts df db sd dn se tm gs fprices j_2 (kk_4 / 2) 0 (by first | assumption | omega) (by first | assumption | omega)) H.size) (cwV 3 hts (gV tw_1222 tw_1224 tw_43 tw_87 tw_1225) rfl rfl rfl (by decide +kernel) ⟨Nat.le_of_ble_eq_true rfl, Nat.le_of_ble_eq_true rfl⟩) (pV hS hAlo hlo hP hK (va_Dlo hD hAlo) hZ [2, 3, 4, 6] (by decide) rfl (ci := 8) (q := (RX8, TX8, 44)) (q0 := 0) rfl rfl) rfl rfl hl.1 rfl (lv_room (Nat.le_of_ble_eq_true rfl)) dX8_boy_92 ⟨Nat.le_of_ble_eq_true rfl, Nat.le_of_ble_eq_true rfl⟩) hS hA hP (fun r_43 H locs hw_43 hP hS => ?_)
          try dsimp only at hw_43
          refine lv_goto (tgt := 104) hx hb dX8_boy_95 (by decide) ?_
          refine va_iast hx hb hK hP hD hS 0 1 rfl rfl (vp_in_nI (by omega) (by decide)) dX8_boy_104 (fun H locs hP hD hS => ?_)
          have hQ9 := pd_mk [(aI k (a 33) 50 (upd fb_4 (Int32.toNatClampNeg (nI kk_4)) r_43)), (aI k (a 34) 50 fboysNext), ((a 0), .inr (8, (fX8 a (nI tx) fp (nI t0) wd (nI we) nu na (nI rd) ts (nI ru) (nI rw) (nI ca) df db sd))), (aI k (a 1) 3 (nF dn)), (aI k (a 4) 27 (sg se tm gs)), (aI k (a 2) 72 ffrees), (aI k (a 3) 72 fprices), (aI k (a 18) 768 fons__3), (aI k (a 19) 768 fworths__3), (aI k (a 20) 5 fstarts__3), (aI k (a 21) 4 fends__3), (aZ k (a 22) 4 fgoesRound__3), (aI k (a 23) 8 fbegin__3)] hP hD
          clear hP hD
          obtain ⟨hP, hD⟩ := hQ9
          rw [nI_clamp (n := kk_4) (by omega)] at hP hD
          have hQ9 := pd_mk [(aI k (a 33) 50 (upd fb_4 kk_4 r_43)), (aI k (a 34) 50 fboysNext), ((a 0), .inr (8, (fX8 a (nI tx) fp (nI t0) wd (nI we) nu na (nI rd) ts (nI ru) (nI rw) (nI ca) df db sd))), (aI k (a 1) 3 (nF dn)), (aI k (a 4) 27 (sg se tm gs)), (aI k (a 2) 72 ffrees), (aI k (a 3) 72 fprices), (aI k (a 18) 768 fons__3), (aI k (a 19) 768 fworths__3), (aI k (a 20) 5 fstarts__3), (aI k (a 21) 4 fends__3), (aZ k (a 22) 4 fgoesRound__3), (aI k (a 23) 8 fbegin__3)] hP hD
          clear hP hD
          obtain ⟨hP, hD⟩ := hQ9
          refine lv_iinc (v := (nI (kk_4 + 1))) (lv' := [(3, .int (nI (kk_4 + 1))), (5, .int 1), (4, .int (nI (kk_4 / 2))), (2, .int (nI (dn j_2))), (0, .ref (a 0)), (1, .int (nI j_2))]) hx hb dX8_boy_105 hl (k := 2) rfl (nI_add kk_4 1) (by decide) rfl (fun ls hl => ?_)
          refine lv_goto (tgt := 26) hx hb dX8_boy_108 (by decide) ?_
          exact ih_4 _ (kk_4 + 1, (upd fb_4 kk_4 r_43)) _ _ _ (by omega) ⟨rfl, ⟨by omega, la_upd (F := fun k => boV (sdM dn (sg se tm gs) ffrees fprices j_2) (fends__3 0) 0 (bph (sdM dn (sg se tm gs) ffrees fprices j_2) (fends__3 0) (k / 2)) (k % 2)) hv_4.2 (bo_0 (by rw [bph_1 (show kk_4 / 2 < dn j_2 by omega) (by rw [← (show fM_taking dn se tm gs fprices j_2 (kk_4 / 2) 0 = pTake (sdM dn (sg se tm gs) ffrees fprices j_2) 0 (kk_4 / 2) from mTake (dn := dn) (se := se) (tm := tm) (gs := gs) (ffr := ffrees) (fpr := fprices) (s := j_2) (r := 0) (i := (kk_4 / 2)) (show (kk_4 / 2) < dn j_2 by omega)), ← hw_40]; exact Int32.not_le.mp c_41)]; exact hw_43.trans (show fM_taking dn se tm gs fprices j_2 (kk_4 / 2) 0 = pTake (sdM dn (sg se tm gs) ffrees fprices j_2) 0 (kk_4 / 2) from mTake (dn := dn) (se := se) (tm := tm) (gs := gs) (ffr := ffrees) (fpr := fprices) (s := j_2) (r := 0) (i := (kk_4 / 2)) (show (kk_4 / 2) < dn j_2 by omega))))⟩, hP, hD, hS, (lv_sub hl [0, 3, 4, 5] rfl)⟩
  · refine lv_if_ne (tgt := 12) hx hb dX8_boy_5 (by decide) (fun h => absurd (by decide) h) (fun _ => ?_)
    refine lv_sipush (v := (-1001)) hx hb dX8_boy_8 (by decide) ?_
    obtain ⟨hP9, hD9⟩ := pd_sub [((a 0), .inr (8, (fX8 a (nI tx) fp (nI t0) wd (nI we) nu na (nI rd) ts (nI ru) (nI rw) (nI ca) df db sd))), (aI k (a 1) 3 (nF dn)), (aI k (a 4) 27 (sg se tm gs)), (aI k (a 2) 72 ffrees), (aI k (a 3) 72 fprices), (aI k (a 18) 768 fons), (aI k (a 19) 768 fworths), (aI k (a 20) 5 fstarts), (aI k (a 21) 4 fends), (aZ k (a 22) 4 fgoesRound), (aI k (a 23) 8 fbegin), (aI k (a 33) 50 fboys), (aI k (a 34) 50 fboysNext)] [0, 1, 2, 3, 4, 5, 6, 7, 8, 9, 10, 11, 12] hP hD (by decide +kernel) rfl
    exact W.iret (v := (-1001)) hx hb hr (fun t ht hW => ⟨⟨(-1001), (fons, fworths, fstarts, fends, fgoesRound, fbegin, fboys, fboysNext), rfl, tq_no (fun s h1 h2 h3 => hw_1 s h1 h2 h3), by rw [ht]; exact hP9, hD9⟩, hS.F ht⟩) hS.2.2 dX8_boy_11

theorem f_glueP22 : True := trivial
/-! rules: from which door, by what was passed -/
def pBa (sn fr : Nat → Int32) (f0 p : Int32) : Nat → Int32
  | 0 => f0
  | k + 1 => if sn k ≤ p then fr k else pBa sn fr f0 p k
def pBar (u : RUt) (p : Nat) : Int32 := pBa u.2.1.2.1 u.2.1.2.2 u.1 (nI p) u.2.1.1
theorem pBa_y {sn fr : Nat → Int32} {f0 p : Int32} {k : Nat} (h : sn k ≤ p) : pBa sn fr f0 p (k + 1) = fr k := if_pos h
theorem pBa_n {sn fr : Nat → Int32} {f0 p : Int32} {k : Nat} (h : ¬ sn k ≤ p) : pBa sn fr f0 p (k + 1) = pBa sn fr f0 p k := if_neg h
theorem pBa_clp {sn fr : Nat → Int32} {f0 p : Int32} {n : Nat} : ∀ k, k ≤ n → pBa (clp n sn) (clp n fr) f0 p k = pBa sn fr f0 p k := by
  intro k
  induction k with
  | zero => intro _; rfl
  | succ k ih =>
    intro h
    show (if clp n sn k ≤ p then clp n fr k else pBa (clp n sn) (clp n fr) f0 p k) = (if sn k ≤ p then fr k else pBa sn fr f0 p k)
    rw [clp_in (by omega), clp_in (by omega), ih (by omega)]
theorem xBar {rf : Int32} {rc rr p : Nat} {rs rb : Nat → Int32} : pBar (ruX rf rc rr rs rb) p = pBa rs rb rf (nI p) rc := pBa_clp rc (Nat.le_refl rc)
/-! what is asked for: the cost, being late, the garage -/
def pLt (d : SDt) (r : Nat) : Bool := decide (d.2.1 5 < nI r * (nI d.1 + d.2.1 7) + nI d.1)
def pSh (d : SDt) (wh r i : Nat) : Int32 := if wh = 0 then pTake d r i else if wh = 1 then (if pLt d r = true then 1000000 else 0) else 0
def pGs (d : SDt) (wh r : Nat) : Int32 := if wh = 0 then pGar d r else if wh = 1 then (if pLt d r = true then 1000000 else 0) else 1000000
def pPs (d : SDt) (wh : Nat) : Int32 := if wh = 0 then pPass d else 0
def pRs (d : SDt) (wh : Nat) : Int32 := if wh = 0 then pRnd d else 0
def mV (d : SDt) (u : RUt) (wh r : Nat) (E : Int32) : Nat → Nat → Nat → Int32
  | 0, _, _ => E
  | m + 1, p, a => pMix (pChance d (d.1 - (m + 1)) (nI a)) (if pBar u p ≤ nI (d.1 - (m + 1)) then pSh d wh r (d.1 - (m + 1)) else pPs d wh + mV d u wh r E m (p + 1) 1) (pPs d wh + mV d u wh r E m p 0)
theorem mv_v {d : SDt} {u : RUt} {wh r i p a : Nat} {E x c f o : Int32} (hi : i < d.1) (hc : c = pChance d i (nI a)) (hf : f = if pBar u p ≤ nI i then pSh d wh r i else pPs d wh + mV d u wh r E (d.1 - (i + 1)) (p + 1) 1) (ho : o = pPs d wh + mV d u wh r E (d.1 - (i + 1)) p 0) (hx : x = pMix c f o) : x = mV d u wh r E (d.1 - i) p a := by
  rw [show d.1 - i = (d.1 - (i + 1)) + 1 by omega]
  show x = pMix (pChance d (d.1 - (d.1 - (i + 1) + 1)) (nI a)) (if pBar u p ≤ nI (d.1 - (d.1 - (i + 1) + 1)) then pSh d wh r (d.1 - (d.1 - (i + 1) + 1)) else pPs d wh + mV d u wh r E (d.1 - (i + 1)) (p + 1) 1) (pPs d wh + mV d u wh r E (d.1 - (i + 1)) p 0)
  rw [show d.1 - (d.1 - (i + 1) + 1) = i by omega, hx, hc, hf, ho]
def mR (d : SDt) (u : RUt) (wh L : Nat) : Nat → Int32
  | 0 => mV d u wh L (pGs d wh L) d.1 0 0
  | m + 1 => mV d u wh (L - (m + 1)) (mR d u wh L m + pRs d wh) d.1 0 0
def muD (d : SDt) (u : RUt) : Nat := min u.2.2.toNatClampNeg (tmD d)
def meA (p2 : Int32) (d : SDt) (u : RUt) (r : Int32) : Prop := (¬ inB p2 0 2 → r = -1002) ∧ ∀ wh : Nat, wh ≤ 2 → p2 = nI wh → r = mR d u wh (muD d u) (muD d u)
theorem mv_st {d : SDt} {u : RUt} {wh r m m2 a i be : Nat} {E x : Int32} {f : Nat → Int32} (h1 : ∀ b, b < be → f b = mV d u wh r E m b a) (h2 : ∀ b, be ≤ b → b < i + 2 → f b = mV d u wh r E m2 b a) (hx : x = mV d u wh r E m be a) : (∀ b, b < be + 1 → upd f be x b = mV d u wh r E m b a) ∧ ∀ b, be + 1 ≤ b → b < i + 2 → upd f be x b = mV d u wh r E m2 b a := by
  refine ⟨fun b hb => ?_, fun b hb hb2 => ?_⟩
  · by_cases e : b = be
    · rw [e, pk_us]
      exact hx
    · rw [pk_un e]
      exact h1 b (by omega)
  · rw [pk_un (by omega)]
    exact h2 b (by omega) hb2
theorem xLt {n see tm r : Nat} {g ff fp : Nat → Int32} : fX_isLate n g r = pLt (sdX n see tm g ff fp) r := by
  unfold fX_isLate pLt fX_arrival
  rw [gX (by omega), gX (by omega)]
  show (if nI r * (nI n + g 7) + nI n ≤ g 5 then false else true) = decide (g 5 < nI r * (nI n + g 7) + nI n)
  by_cases h : nI r * (nI n + g 7) + nI n ≤ g 5
  · rw [if_pos h, decide_eq_false (Int32.not_lt.mpr h)]
  · rw [if_neg h, decide_eq_true (Int32.not_le.mp h)]


set_option maxHeartbeats 4000000 in
set_option maxRecDepth 100000 in
theorem y_barAfter (l : Launch) (D : va_G) (k : Nat → ClassId) (st : Nat → Nat) (lo : Nat) (u0 : Nat) (u1 : Nat) (u2 : Nat) (rf : Int32) (rc : Nat) (rr : Nat) (rs : Nat → Int32) (rb : Nat → Int32) (pq : Nat) (hrc : rc ≤ 24) : CRi l D k st lo yX3_barAfter cX3_barAfter 3 (some .int) ({ frames := 0, cells := 0, slots := 0, locals := 0 }) [.ref u0, .int (nI pq)] [(u0, .inr (3, (fX3 u1 u2 rf (nI rc) (nI rr)))), (aI k u1 24 rs), (aI k u2 24 rb)] (fun r => r = pBar (ruX rf rc rr rs rb) pq) := by
  intro sz
  refine Met.ofW (cc := cX3_barAfter) (maxL := 3) (ret := (some .int)) (by decide) rfl ?_
  intro p e s m args below meth c s₁ B hml hv
  obtain ⟨rfl, hsz, hlo, hP, hK, hDL, hZ⟩ := hv
  have hx := B.exec
  have hb := B.bytes
  have hr := B.returns
  have hts := WS_ts B.pre
  have hown : s.vm.findClass RX3 = some m.cls := findClass_of_methodNamed B.named
  have hlocks := B.notSynchronized
  subst hsz
  have hA : ∀ q : Nat, s.heap.size ≤ q → (fun q : Nat => s.heap.size ≤ q) q := fun _ h => h
  have hAlo : ∀ q : Nat, (fun q : Nat => s.heap.size ≤ q) q → lo ≤ q := fun q h => Nat.le_trans hlo h
  have hS : va_S (fun q : Nat => s.heap.size ≤ q) s.heap s.heap [] := va_S.rf
  have hl := lv_entry ([.ref u0, .int (nI pq)]) (n := 3) (Nat.le_of_ble_eq_true rfl)
  rw [lg_entry_eq]
  generalize (lg_sl ([.ref u0, .int (nI pq)]) ++ List.replicate (3 - (lg_sl ([.ref u0, .int (nI pq)])).length) Slot.unset).toArray = ls at hl ⊢
  have hl : lv_has ls 3 [(0, .ref u0), (1, .int (nI pq))] := hl
  refine lv_aload_n hx hb dX3_barAfter_0 rfl (lv_at hl 0 rfl) ?_
  refine va_get (D := D) (ci := 3) (v := .int (nI rc)) (C := RX3) (T := TX3) (N := 5) hx hb hts inX3 hown hK hP 0 rfl rfl 3 (by decide) (hts _ tw_292) (fun _ h9 => h9) rfl dX3_barAfter_1 ?_
  refine lv_iconst (v := 1) hx hb dX3_barAfter_4 (by decide) ?_
  refine lv_isub hx hb dX3_barAfter_5 ?_
  refine lv_ti (y := (nI rc - 1)) rfl ?_
  refine lv_istore_n (lv' := [(2, .int (nI rc - 1)), (0, .ref u0), (1, .int (nI pq))]) hx hb dX3_barAfter_6 rfl hl (by decide) rfl (fun ls hl => ?_)
  refine W_loop (σ := Nat) (fun (n_ : Nat) (q_1 : Nat) (H : Heap) (locs : List Loc) (ls : Array Slot) => n_ = 2 * q_1 ∧ (q_1 ≤ rc ∧ pBa rs rb rf (nI pq) q_1 = pBa rs rb rf (nI pq) rc) ∧ va_P D classes [(u0, .inr (3, (fX3 u1 u2 rf (nI rc) (nI rr)))), (aI k u1 24 rs), (aI k u2 24 rb)] H ∧ va_S (fun q : Nat => s.heap.size ≤ q) s.heap H locs ∧ lv_has ls 3 [(2, .int (nI q_1 - 1)), (0, .ref u0), (1, .int (nI pq))]) (fun n_1 x_1 H locs ls hI ih_1 => ?_) _ rc ⟨rfl, ⟨by omega, rfl⟩, hP, hS, (lv_sub hl [0, 1, 2] rfl)⟩
  obtain ⟨q_1, rfl⟩ : ∃ z, z = x_1 := ⟨_, rfl⟩
  obtain ⟨hm_1, hv_1, hP, hS, hl⟩ := hI
  subst hm_1
  rcases q_1 with _ | q_1
  · rw [dn0] at hl
    refine lv_iload_n hx hb dX3_barAfter_7 rfl (lv_at hl 0 rfl) ?_
    refine lv_if_lt (tgt := 34) hx hb dX3_barAfter_8 (by decide) (fun _ => ?_) (fun h => absurd (by decide) h)
    refine lv_aload_n hx hb dX3_barAfter_34 rfl (lv_at hl 1 rfl) ?_
    refine va_get (D := D) (ci := 3) (v := .int rf) (C := RX3) (T := TX3) (N := 5) hx hb hts inX3 hown hK hP 0 rfl rfl 2 (by decide) (hts _ tw_291) (fun _ h9 => h9) rfl dX3_barAfter_35 ?_
    exact W.iret (v := rf) hx hb hr (fun t ht hW => ⟨⟨rf, (), rfl, (show rf = pBar (ruX rf rc rr rs rb) pq by rw [xBar]; exact hv_1.2), trivial⟩, hS.F ht⟩) hS.2.2 dX3_barAfter_38
  · rw [nI_pred] at hl
    refine lv_iload_n hx hb dX3_barAfter_7 rfl (lv_at hl 0 rfl) ?_
    refine lv_if_lt (tgt := 34) hx hb dX3_barAfter_8 (by decide) (fun h => absurd h (nI_pos0 (by omega))) (fun _ => ?_)
    refine lv_aload_n hx hb dX3_barAfter_11 rfl (lv_at hl 1 rfl) ?_
    refine va_get (D := D) (ci := 3) (v := .ref u1) (C := RX3) (T := TX3) (N := 5) hx hb hts inX3 hown hK hP 0 rfl rfl 0 (by decide) (hts _ tw_289) (fun _ h9 => h9) rfl dX3_barAfter_12 ?_
    refine lv_iload_n hx hb dX3_barAfter_15 rfl (lv_at hl 0 rfl) ?_
    refine va_iald hx hb hK hP 1 1 rfl rfl (vp_in_nI (by omega) (by decide)) dX3_barAfter_16 ?_
    refine lv_ti (y := (rs q_1)) (by rw [nI_clamp (by omega)]) ?_
    refine lv_iload_n hx hb dX3_barAfter_17 rfl (lv_at hl 2 rfl) ?_
    refine lv_icmp_gt (tgt := 28) hx hb dX3_barAfter_18 (by decide) (fun c_2 => ?_) (fun c_2 => ?_)
    · refine lv_iinc (v := (nI q_1 - 1)) (lv' := [(2, .int (nI q_1 - 1)), (0, .ref u0), (1, .int (nI pq))]) hx hb dX3_barAfter_28 hl (k := 0) rfl (dn1 _) (by decide) rfl (fun ls hl => ?_)
      refine lv_goto (tgt := 7) hx hb dX3_barAfter_31 (by decide) ?_
      exact ih_1 _ (q_1) _ _ _ (by omega) ⟨rfl, ⟨by omega, (pBa_n (Int32.not_le.mpr c_2)).symm.trans hv_1.2⟩, hP, hS, (lv_sub hl [0, 1, 2] rfl)⟩
    · refine lv_aload_n hx hb dX3_barAfter_21 rfl (lv_at hl 1 rfl) ?_
      refine va_get (D := D) (ci := 3) (v := .ref u2) (C := RX3) (T := TX3) (N := 5) hx hb hts inX3 hown hK hP 0 rfl rfl 1 (by decide) (hts _ tw_290) (fun _ h9 => h9) rfl dX3_barAfter_22 ?_
      refine lv_iload_n hx hb dX3_barAfter_25 rfl (lv_at hl 0 rfl) ?_
      refine va_iald hx hb hK hP 2 1 rfl rfl (vp_in_nI (by omega) (by decide)) dX3_barAfter_26 ?_
      refine lv_ti (y := (rb q_1)) (by rw [nI_clamp (by omega)]) ?_
      exact W.iret (v := (rb q_1)) hx hb hr (fun t ht hW => ⟨⟨(rb q_1), (), rfl, (show (rb q_1) = pBar (ruX rf rc rr rs rb) pq by rw [xBar, ← hv_1.2]; exact (pBa_y (Int32.not_lt.mp c_2)).symm), trivial⟩, hS.F ht⟩) hS.2.2 dX3_barAfter_27


set_option maxHeartbeats 4000000 in
set_option maxRecDepth 100000 in
theorem y_garageShare (l : Launch) (D : va_G) (k : Nat → ClassId) (st : Nat → Nat) (lo : Nat) (h0 : Nat) (h1 : Nat) (h2 : Nat) (h3 : Nat) (h4 : Nat) (n : Nat) (see : Nat) (tm : Nat) (g : Nat → Int32) (ff : Nat → Int32) (fp : Nat → Int32) (fl : Nat → Int32) (rn : Nat) (wh : Nat) (hrn : rn ≤ 3) (hwh : wh ≤ 2) (hl9 : ∀ r, r < 4 → fl r = pLate (sdX n see tm g ff fp) r) : CRi l D k st lo yX2_garageShare cX2_garageShare 3 (some .int) ({ frames := 2, cells := 0, slots := 0, locals := 42 }) [.ref h0, .int (nI rn), .int (nI wh)] [(h0, .inr (5, (fX5 h1 h2 h3 h4))), (aI k h1 10 (vv n see tm g)), (aI k h2 24 ff), (aI k h3 24 fp), (aI k h4 4 fl)] (fun r => r = pGs (sdX n see tm g ff fp) wh rn) := by
  intro sz
  refine Met.ofW (cc := cX2_garageShare) (maxL := 3) (ret := (some .int)) (by decide) rfl ?_
  intro p e s m args below meth c s₁ B hml hv
  obtain ⟨rfl, hsz, hlo, hP, hK, hDL, hZ⟩ := hv
  have hx := B.exec
  have hb := B.bytes
  have hr := B.returns
  have hts := WS_ts B.pre
  have hown : s.vm.findClass RX2 = some m.cls := findClass_of_methodNamed B.named
  have hlocks := B.notSynchronized
  subst hsz
  have hA : ∀ q : Nat, s.heap.size ≤ q → (fun q : Nat => s.heap.size ≤ q) q := fun _ h => h
  have hAlo : ∀ q : Nat, (fun q : Nat => s.heap.size ≤ q) q → lo ≤ q := fun q h => Nat.le_trans hlo h
  have hS : va_S (fun q : Nat => s.heap.size ≤ q) s.heap s.heap [] := va_S.rf
  have hl := lv_entry ([.ref h0, .int (nI rn), .int (nI wh)]) (n := 3) (Nat.le_of_ble_eq_true rfl)
  rw [lg_entry_eq]
  generalize (lg_sl ([.ref h0, .int (nI rn), .int (nI wh)]) ++ List.replicate (3 - (lg_sl ([.ref h0, .int (nI rn), .int (nI wh)])).length) Slot.unset).toArray = ls at hl ⊢
  have hl : lv_has ls 3 [(0, .ref h0), (1, .int (nI rn)), (2, .int (nI wh))] := hl
  rcases (show wh = 0 ∨ wh = 1 ∨ wh = 2 by omega) with rfl | rfl | rfl
  · refine lv_iload_n hx hb dX2_garageShare_0 rfl (lv_at hl 2 rfl) ?_
    refine lv_lookup (tgt := 28) (off := 27) hx hb dX2_garageShare_1 (by decide) (by decide) (by decide) ?_
    refine lv_aload_n hx hb dX2_garageShare_28 rfl (lv_at hl 0 rfl) ?_
    refine lv_iload_n hx hb dX2_garageShare_29 rfl (lv_at hl 1 rfl) ?_
    refine ro_i (D := D) (va_runV (As := [.int (nI rn)]) (rest := []) ⟨hx, hb, hml, hown, hts⟩ ((y_garageOf l D k st lo h0 h1 h2 h3 h4 n see tm g fl rn (by first | assumption | omega)) s.heap.size) (cwV 1 hts (gV tw_713 tw_521 tw_522 tw_81 tw_523) rfl rfl rfl (by decide +kernel) ⟨Nat.le_of_ble_eq_true rfl, Nat.le_of_ble_eq_true rfl⟩) (pV hS hAlo hlo hP hK hDL hZ [0, 1, 4] (by decide) rfl (ci := 5) (q := (RX5, TX5, 4)) (q0 := 0) rfl rfl) rfl rfl hl.1 rfl (lv_room (Nat.le_of_ble_eq_true rfl)) dX2_garageShare_30 ⟨Nat.le_of_ble_eq_true rfl, Nat.le_of_ble_eq_true rfl⟩) hS hA hP (fun r_1 H locs hw_1 hP hS => ?_)
    try dsimp only at hw_1
    exact W.iret (v := r_1) hx hb hr (fun t ht hW => ⟨⟨r_1, (), rfl, (hw_1.trans (xGar (hl9 _ (by omega)))), trivial⟩, hS.F ht⟩) hS.2.2 dX2_garageShare_33
  · refine lv_iload_n hx hb dX2_garageShare_0 rfl (lv_at hl 2 rfl) ?_
    refine lv_lookup (tgt := 34) (off := 33) hx hb dX2_garageShare_1 (by decide) (by decide) (by decide) ?_
    refine lv_aload_n hx hb dX2_garageShare_34 rfl (lv_at hl 0 rfl) ?_
    refine lv_iload_n hx hb dX2_garageShare_35 rfl (lv_at hl 1 rfl) ?_
    refine ro_i (D := D) (va_runV (As := [.int (nI rn)]) (rest := []) ⟨hx, hb, hml, hown, hts⟩ ((y_isLateIn l D k st lo h0 h1 h2 h3 h4 n see tm g rn) s.heap.size) (cwV 1 hts (gV tw_714 tw_715 tw_716 tw_81 tw_717) rfl rfl rfl (by decide +kernel) ⟨Nat.le_of_ble_eq_true rfl, Nat.le_of_ble_eq_true rfl⟩) (pV hS hAlo hlo hP hK hDL hZ [0, 1] (by decide) rfl (ci := 5) (q := (RX5, TX5, 4)) (q0 := 0) rfl rfl) rfl rfl hl.1 rfl (lv_room (Nat.le_of_ble_eq_true rfl)) dX2_garageShare_36 ⟨Nat.le_of_ble_eq_true rfl, Nat.le_of_ble_eq_true rfl⟩) hS hA hP (fun r_2 H locs hw_2 hP hS => ?_)
    try dsimp only at hw_2
    rcases Decidable.em (fX_isLate n g rn = true) with c_3 | c_3
    · rw [if_pos c_3] at hw_2
      subst hw_2
      refine lv_if_eq (tgt := 47) hx hb dX2_garageShare_39 (by decide) (fun h => absurd h (by decide)) (fun _ => ?_)
      refine lv_ldc hx hb hown (hts _ tw_718) dX2_garageShare_42 ?_
      refine lv_goto (tgt := 48) hx hb dX2_garageShare_44 (by decide) ?_
      exact W.iret (v := 1000000) hx hb hr (fun t ht hW => ⟨⟨1000000, (), rfl, (by show _ = (if pLt (sdX n see tm g ff fp) rn = true then (1000000 : Int32) else 0); rw [if_pos (by rw [← xLt]; exact c_3)]), trivial⟩, hS.F ht⟩) hS.2.2 dX2_garageShare_48
    · rw [if_neg c_3] at hw_2
      subst hw_2
      refine lv_if_eq (tgt := 47) hx hb dX2_garageShare_39 (by decide) (fun _ => ?_) (fun h => absurd (by decide) h)
      refine lv_iconst (v := 0) hx hb dX2_garageShare_47 (by decide) ?_
      exact W.iret (v := 0) hx hb hr (fun t ht hW => ⟨⟨0, (), rfl, (by show _ = (if pLt (sdX n see tm g ff fp) rn = true then (1000000 : Int32) else 0); rw [if_neg (by rw [← xLt]; exact c_3)]), trivial⟩, hS.F ht⟩) hS.2.2 dX2_garageShare_48
  · refine lv_iload_n hx hb dX2_garageShare_0 rfl (lv_at hl 2 rfl) ?_
    refine lv_lookup (tgt := 49) (off := 48) hx hb dX2_garageShare_1 (by decide) (by decide) (by decide) ?_
    refine lv_ldc hx hb hown (hts _ tw_718) dX2_garageShare_49 ?_
    exact W.iret (v := 1000000) hx hb hr (fun t ht hW => ⟨⟨1000000, (), rfl, rfl, trivial⟩, hS.F ht⟩) hS.2.2 dX2_garageShare_51


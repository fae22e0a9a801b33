
set_option maxHeartbeats 4000000 in
set_option maxRecDepth 100000 in
theorem n_boy (l : Launch) (D : va_G) (k : Nat → ClassId) (st : Nat → Nat) (lo : Nat) (a : Nat → Nat) (tx : Nat) (t0 : Nat) (we : Nat) (rd : Nat) (ru : Nat) (rw : Nat) (ca : Nat) (fp : Int32) (wd : Int64) (nu : Int32) (na : Int32) (ts : Int32) (df : Int32) (db : Int32) (sd : Int32) (dn : Nat → Nat) (se : Nat → Nat) (tm : Nat → Nat) (gs : Nat → Int32) (ffrees : Nat → Int32) (fprices : Nat → Int32) (fons : Nat → Int32) (fworths : Nat → Int32) (fstarts : Nat → Int32) (fends : Nat → Int32) (fgoesRound : Nat → Int32) (fbegin : Nat → Int32) (fboys : Nat → Int32) (fboysNext : Nat → Int32) (p0 : Int32) (hdn : ∀ j, dn j ≤ 24) (hse : ∀ j, se j ≤ 2) (htm : ∀ j, tm j ≤ 3) : CWi l D k st lo yX8_boy cX8_boy 8 (some .int) ({ frames := 6, cells := 0, slots := 0, locals := 144 }) 0 0 [.ref (a 0), .int p0] [((a 0), .inr (8, (fX8 a (nI tx) fp (nI t0) wd (nI we) nu na (nI rd) ts (nI ru) (nI rw) (nI ca) df db sd))), (aI k (a 1) 3 (nF dn)), (aI k (a 4) 27 (sg se tm gs)), (aI k (a 2) 72 ffrees), (aI k (a 3) 72 fprices), (aI k (a 18) 768 fons), (aI k (a 19) 768 fworths), (aI k (a 20) 5 fstarts), (aI k (a 21) 4 fends), (aZ k (a 22) 4 fgoesRound), (aI k (a 23) 8 fbegin), (aI k (a 33) 50 fboys), (aI k (a 34) 50 fboysNext)] (fun (r : Int32) (u : (Nat → Int32) × (Nat → Int32) × (Nat → Int32) × (Nat → Int32) × (Nat → Int32) × (Nat → Int32) × (Nat → Int32) × (Nat → Int32)) => match u with | (fons_, fworths_, fstarts_, fends_, fgoesRound_, fbegin_, fboys_, fboysNext_) => tqP (sdM dn (sg se tm gs) ffrees fprices) p0 boA r) (fun (u : (Nat → Int32) × (Nat → Int32) × (Nat → Int32) × (Nat → Int32) × (Nat → Int32) × (Nat → Int32) × (Nat → Int32) × (Nat → Int32)) => match u with | (fons_, fworths_, fstarts_, fends_, fgoesRound_, fbegin_, fboys_, fboysNext_) => [((a 0), .inr (8, (fX8 a (nI tx) fp (nI t0) wd (nI we) nu na (nI rd) ts (nI ru) (nI rw) (nI ca) df db sd))), (aI k (a 1) 3 (nF dn)), (aI k (a 4) 27 (sg se tm gs)), (aI k (a 2) 72 ffrees), (aI k (a 3) 72 fprices), (aI k (a 18) 768 fons_), (aI k (a 19) 768 fworths_), (aI k (a 20) 5 fstarts_), (aI k (a 21) 4 fends_), (aZ k (a 22) 4 fgoesRound_), (aI k (a 23) 8 fbegin_), (aI k (a 33) 50 fboys_), (aI k (a 34) 50 fboysNext_)]) := by
  intro sz
  refine Met.ofW (cc := cX8_boy) (maxL := 8) (ret := (some .int)) (by decide) rfl ?_
  intro p e s m args below meth c s₁ B hml hv
  obtain ⟨rfl, hsz, hlo, hP, hK, hDL, hZ⟩ := hv
  have hx := B.exec
  have hb := B.bytes
  have hr := B.returns
  have hts := WS_ts B.pre
  have hown : s.vm.findClass RX8 = some m.cls := findClass_of_methodNamed B.named
  have hlocks := B.notSynchronized
  subst hsz
  have hD := hDL.self (sz := s.heap.size)
  have hAlo := A_lo hDL hlo
  generalize hAe : va_A [((a 0), .inr (8, (fX8 a (nI tx) fp (nI t0) wd (nI we) nu na (nI rd) ts (nI ru) (nI rw) (nI ca) df db sd))), (aI k (a 1) 3 (nF dn)), (aI k (a 4) 27 (sg se tm gs)), (aI k (a 2) 72 ffrees), (aI k (a 3) 72 fprices), (aI k (a 18) 768 fons), (aI k (a 19) 768 fworths), (aI k (a 20) 5 fstarts), (aI k (a 21) 4 fends), (aZ k (a 22) 4 fgoesRound), (aI k (a 23) 8 fbegin), (aI k (a 33) 50 fboys), (aI k (a 34) 50 fboysNext)] s.heap.size = A at hD hAlo ⊢
  have hA : ∀ q : Nat, s.heap.size ≤ q → A q := fun q h => by rw [← hAe]; exact Or.inr h
  have hS : va_S A s.heap s.heap [] := va_S.rf
  have hl := lv_entry ([.ref (a 0), .int p0]) (n := 8) (Nat.le_of_ble_eq_true rfl)
  rw [lg_entry_eq]
  generalize (lg_sl ([.ref (a 0), .int p0]) ++ List.replicate (8 - (lg_sl ([.ref (a 0), .int p0])).length) Slot.unset).toArray = ls at hl ⊢
  have hl : lv_has ls 8 [(0, .ref (a 0)), (1, .int p0)] := hl
  refine lv_aload_n hx hb dX8_boy_0 rfl (lv_at hl 0 rfl) ?_
  refine lv_iload_n hx hb dX8_boy_1 rfl (lv_at hl 1 rfl) ?_
  refine ro_i (D := D) (va_runV (As := [.int p0]) (rest := []) ⟨hx, hb, hml, hown, hts⟩ ((n_isStreet l D k st lo a tx t0 we rd ru rw ca fp wd nu na ts df db sd dn p0 hdn) s.heap.size) (cwV 1 hts (gV tw_1189 tw_1191 tw_38 tw_87 tw_1192) rfl rfl rfl (by decide +kernel) ⟨Nat.le_of_ble_eq_true rfl, Nat.le_of_ble_eq_true rfl⟩) (pV hS hAlo hlo hP hK (va_Dlo hD hAlo) hZ [0, 1] (by decide) rfl (ci := 8) (q := (RX8, TX8, 44)) (q0 := 0) rfl rfl) rfl rfl hl.1 rfl (lv_room (Nat.le_of_ble_eq_true rfl)) dX8_boy_2 ⟨Nat.le_of_ble_eq_true rfl, Nat.le_of_ble_eq_true rfl⟩) hS hA hP (fun r_1 H locs hw_1 hP hS => ?_)
  try dsimp only at hw_1
  rcases hw_1 with ⟨rfl, j_2, hj_2, rfl, hw_1⟩ | ⟨rfl, hw_1⟩
  · have hdj_2 := hdn j_2
    have htj_2 := htm j_2
    refine lv_if_ne (tgt := 12) hx hb dX8_boy_5 (by decide) (fun _ => ?_) (fun h => absurd h (by decide))
    refine lv_aload_n hx hb dX8_boy_12 rfl (lv_at hl 0 rfl) ?_
    refine lv_iload_n hx hb dX8_boy_13 rfl (lv_at hl 1 rfl) ?_
    refine rw_v (D := D) (wr := [(aI k (a 33) 50 fboys), (aI k (a 34) 50 fboysNext)]) (va_runV (As := [.int (nI j_2)]) (rest := []) ⟨hx, hb, hml, hown, hts⟩ ((n_findWay l D k st lo a tx t0 we rd ru rw ca fp wd nu na ts df db sd dn se tm gs ffrees fprices fons fworths fstarts fends fgoesRound fbegin j_2 hdn hse htm (by first | assumption | omega) (by first | assumption | omega)) H.size) (cwV 1 hts (gV tw_1250 tw_1252 tw_49 tw_87 tw_1253) rfl rfl rfl (by decide +kernel) ⟨Nat.le_of_ble_eq_true rfl, Nat.le_of_ble_eq_true rfl⟩) (pV hS hAlo hlo hP hK (va_Dlo hD hAlo) hZ [0, 1, 2, 3, 4, 5, 6, 7, 8, 9, 10] (by decide +kernel) rfl (ci := 8) (q := (RX8, TX8, 44)) (q0 := 0) rfl rfl) rfl rfl hl.1 rfl (lv_room (Nat.le_of_ble_eq_true rfl)) dX8_boy_14 ⟨Nat.le_of_ble_eq_true rfl, Nat.le_of_ble_eq_true rfl⟩) hS hA hP hD [0, 1, 2, 3, 4, 5, 6, 7, 8, 9, 10] [11, 12] rfl rfl (by decide +kernel) (by decide +kernel) (fun u H locs hw_3 hP hD hS => ?_)
    obtain ⟨fons__3, fworths__3, fstarts__3, fends__3, fgoesRound__3, fbegin__3⟩ := u
    replace hP : va_P D classes [(aI k (a 33) 50 fboys), (aI k (a 34) 50 fboysNext), ((a 0), .inr (8, (fX8 a (nI tx) fp (nI t0) wd (nI we) nu na (nI rd) ts (nI ru) (nI rw) (nI ca) df db sd))), (aI k (a 1) 3 (nF dn)), (aI k (a 4) 27 (sg se tm gs)), (aI k (a 2) 72 ffrees), (aI k (a 3) 72 fprices), (aI k (a 18) 768 fons__3), (aI k (a 19) 768 fworths__3), (aI k (a 20) 5 fstarts__3), (aI k (a 21) 4 fends__3), (aZ k (a 22) 4 fgoesRound__3), (aI k (a 23) 8 fbegin__3)] H := hP
    replace hD : va_D A [(aI k (a 33) 50 fboys), (aI k (a 34) 50 fboysNext), ((a 0), .inr (8, (fX8 a (nI tx) fp (nI t0) wd (nI we) nu na (nI rd) ts (nI ru) (nI rw) (nI ca) df db sd))), (aI k (a 1) 3 (nF dn)), (aI k (a 4) 27 (sg se tm gs)), (aI k (a 2) 72 ffrees), (aI k (a 3) 72 fprices), (aI k (a 18) 768 fons__3), (aI k (a 19) 768 fworths__3), (aI k (a 20) 5 fstarts__3), (aI k (a 21) 4 fends__3), (aZ k (a 22) 4 fgoesRound__3), (aI k (a 23) 8 fbegin__3)] := hD
    try dsimp only at hw_3
    refine lv_aload_n hx hb dX8_boy_17 rfl (lv_at hl 0 rfl) ?_
    refine va_get (D := D) (ci := 8) (v := .ref (a 1)) (C := RX8) (T := TX8) (N := 44) hx hb hts inX8 hown hK hP 2 rfl rfl 0 (by decide) (hts _ tw_973) (fun _ h9 => h9) rfl dX8_boy_18 ?_
    refine lv_iload_n hx hb dX8_boy_21 rfl (lv_at hl 1 rfl) ?_
    refine va_iald hx hb hK hP 3 1 rfl rfl (vp_in_nI (by omega) (by decide)) dX8_boy_22 ?_
    refine lv_ti (y := (nI (dn j_2))) (by rw [nI_clamp (by omega)]; rfl) ?_
    refine lv_istore_n (lv' := [(2, .int (nI (dn j_2))), (0, .ref (a 0)), (1, .int (nI j_2))]) hx hb dX8_boy_23 rfl hl (by decide) rfl (fun ls hl => ?_)
    refine lv_iconst (v := 0) hx hb dX8_boy_24 (by decide) ?_
    refine lv_istore_n (lv' := [(3, .int 0), (2, .int (nI (dn j_2))), (0, .ref (a 0)), (1, .int (nI j_2))]) hx hb dX8_boy_25 rfl hl (by decide) rfl (fun ls hl => ?_)
    refine W_loop (σ := Nat × (Nat → Int32)) (fun (n_ : Nat) (x_ : Nat × (Nat → Int32)) (H : Heap) (locs : List Loc) (ls : Array Slot) => match x_ with | (kk_4, fb_4) => n_ = 50 - kk_4 ∧ (kk_4 ≤ 50 ∧ ∀ k, k < kk_4 → fb_4 k = boV (sdM dn (sg se tm gs) ffrees fprices j_2) (fends__3 0) 0 (bph (sdM dn (sg se tm gs) ffrees fprices j_2) (fends__3 0) (k / 2)) (k % 2)) ∧ va_P D classes [(aI k (a 33) 50 fb_4), (aI k (a 34) 50 fboysNext), ((a 0), .inr (8, (fX8 a (nI tx) fp (nI t0) wd (nI we) nu na (nI rd) ts (nI ru) (nI rw) (nI ca) df db sd))), (aI k (a 1) 3 (nF dn)), (aI k (a 4) 27 (sg se tm gs)), (aI k (a 2) 72 ffrees), (aI k (a 3) 72 fprices), (aI k (a 18) 768 fons__3), (aI k (a 19) 768 fworths__3), (aI k (a 20) 5 fstarts__3), (aI k (a 21) 4 fends__3), (aZ k (a 22) 4 fgoesRound__3), (aI k (a 23) 8 fbegin__3)] H ∧ va_D A [(aI k (a 33) 50 fb_4), (aI k (a 34) 50 fboysNext), ((a 0), .inr (8, (fX8 a (nI tx) fp (nI t0) wd (nI we) nu na (nI rd) ts (nI ru) (nI rw) (nI ca) df db sd))), (aI k (a 1) 3 (nF dn)), (aI k (a 4) 27 (sg se tm gs)), (aI k (a 2) 72 ffrees), (aI k (a 3) 72 fprices), (aI k (a 18) 768 fons__3), (aI k (a 19) 768 fworths__3), (aI k (a 20) 5 fstarts__3), (aI k (a 21) 4 fends__3), (aZ k (a 22) 4 fgoesRound__3), (aI k (a 23) 8 fbegin__3)] ∧ va_S A s.heap H locs ∧ lv_has ls 8 [(3, .int (nI kk_4)), (2, .int (nI (dn j_2))), (0, .ref (a 0)), (1, .int (nI j_2))]) (fun n_4 x_4 H locs ls hI ih_4 => ?_) _ (0, fboys) ⟨rfl, ⟨by omega, fun k h => absurd h (Nat.not_lt_zero k)⟩, hP, hD, hS, (lv_sub hl [0, 1, 2, 3] rfl)⟩
    obtain ⟨kk_4, fb_4⟩ := x_4
    obtain ⟨hm_4, hv_4, hP, hD, hS, hl⟩ := hI
    subst hm_4
    refine lv_iload_n hx hb dX8_boy_26 rfl (lv_at hl 0 rfl) ?_
    refine lv_bipush (v := 50) hx hb dX8_boy_27 (by decide) ?_
    refine lv_icmp_ge (tgt := 111) hx hb dX8_boy_29 (by decide) (fun c_5 => ?_) (fun c_5 => ?_)
    · have c_5 := (nI_leI (a := 50) (b := kk_4) (by omega) (by omega)).mp c_5
      refine lv_iload_n hx hb dX8_boy_111 rfl (lv_at hl 1 rfl) ?_
      refine lv_iconst (v := 1) hx hb dX8_boy_112 (by decide) ?_
      refine lv_isub hx hb dX8_boy_113 ?_
      refine lv_ti (y := (nI (dn j_2) - 1)) rfl ?_
      refine lv_istore_n (lv' := [(3, .int (nI (dn j_2) - 1)), (2, .int (nI (dn j_2))), (0, .ref (a 0)), (1, .int (nI j_2))]) hx hb dX8_boy_114 rfl hl (by decide) rfl (fun ls hl => ?_)
      refine W_loop (σ := Nat × (Nat → Int32) × (Nat → Int32)) (fun (n_ : Nat) (x_ : Nat × (Nat → Int32) × (Nat → Int32)) (H : Heap) (locs : List Loc) (ls : Array Slot) => match x_ with | (q_6, fb_6, fn_6) => n_ = 2 * q_6 ∧ (q_6 ≤ dn j_2 ∧ ∀ k, k < 50 → fb_6 k = boV (sdM dn (sg se tm gs) ffrees fprices j_2) (fends__3 0) (dn j_2 - q_6) (bph (sdM dn (sg se tm gs) ffrees fprices j_2) (fends__3 0) (k / 2)) (k % 2)) ∧ va_P D classes [(aI k (a 33) 50 fb_6), (aI k (a 34) 50 fn_6), ((a 0), .inr (8, (fX8 a (nI tx) fp (nI t0) wd (nI we) nu na (nI rd) ts (nI ru) (nI rw) (nI ca) df db sd))), (aI k (a 1) 3 (nF dn)), (aI k (a 4) 27 (sg se tm gs)), (aI k (a 2) 72 ffrees), (aI k (a 3) 72 fprices), (aI k (a 18) 768 fons__3), (aI k (a 19) 768 fworths__3), (aI k (a 20) 5 fstarts__3), (aI k (a 21) 4 fends__3), (aZ k (a 22) 4 fgoesRound__3), (aI k (a 23) 8 fbegin__3)] H ∧ va_D A [(aI k (a 33) 50 fb_6), (aI k (a 34) 50 fn_6), ((a 0), .inr (8, (fX8 a (nI tx) fp (nI t0) wd (nI we) nu na (nI rd) ts (nI ru) (nI rw) (nI ca) df db sd))), (aI k (a 1) 3 (nF dn)), (aI k (a 4) 27 (sg se tm gs)), (aI k (a 2) 72 ffrees), (aI k (a 3) 72 fprices), (aI k (a 18) 768 fons__3), (aI k (a 19) 768 fworths__3), (aI k (a 20) 5 fstarts__3), (aI k (a 21) 4 fends__3), (aZ k (a 22) 4 fgoesRound__3), (aI k (a 23) 8 fbegin__3)] ∧ va_S A s.heap H locs ∧ lv_has ls 8 [(3, .int (nI q_6 - 1)), (2, .int (nI (dn j_2))), (0, .ref (a 0)), (1, .int (nI j_2))]) (fun n_6 x_6 H locs ls hI ih_6 => ?_) _ (dn j_2, fb_4, fboysNext) ⟨rfl, ⟨by omega, fun k hk => by rw [Nat.sub_self]; exact hv_4.2 k (by omega)⟩, hP, hD, hS, (lv_sub hl [0, 1, 2, 3] rfl)⟩
      obtain ⟨q_6, fb_6, fn_6⟩ := x_6
      obtain ⟨hm_6, hv_6, hP, hD, hS, hl⟩ := hI
      subst hm_6
      rcases q_6 with _ | q_6
      · rw [dn0] at hl
        refine lv_iload_n hx hb dX8_boy_115 rfl (lv_at hl 0 rfl) ?_
        refine lv_if_lt (tgt := 270) hx hb dX8_boy_116 (by decide) (fun _ => ?_) (fun h => absurd (by decide) h)
        refine lv_aload_n hx hb dX8_boy_270 rfl (lv_at hl 2 rfl) ?_
        refine va_get (D := D) (ci := 8) (v := .ref (a 33)) (C := RX8) (T := TX8) (N := 44) hx hb hts inX8 hown hK hP 2 rfl rfl 32 (by decide) (hts _ tw_1005) (fun _ h9 => h9) rfl dX8_boy_271 ?_
        refine lv_bipush (v := 48) hx hb dX8_boy_274 (by decide) ?_
        refine va_iald hx hb hK hP 0 1 rfl rfl (by unfold vp_in; decide) dX8_boy_276 ?_
        refine lv_ti (y := (fb_6 48)) (by rfl) ?_
        have hP9 := hP.sub (ws' := [((a 0), .inr (8, (fX8 a (nI tx) fp (nI t0) wd (nI we) nu na (nI rd) ts (nI ru) (nI rw) (nI ca) df db sd))), (aI k (a 1) 3 (nF dn)), (aI k (a 4) 27 (sg se tm gs)), (aI k (a 2) 72 ffrees), (aI k (a 3) 72 fprices), (aI k (a 18) 768 fons__3), (aI k (a 19) 768 fworths__3), (aI k (a 20) 5 fstarts__3), (aI k (a 21) 4 fends__3), (aZ k (a 22) 4 fgoesRound__3), (aI k (a 23) 8 fbegin__3), (aI k (a 33) 50 fb_6), (aI k (a 34) 50 fn_6)]) [2, 3, 4, 5, 6, 7, 8, 9, 10, 11, 12, 0, 1] rfl
        have hD9 := hD.sub (ws' := [((a 0), .inr (8, (fX8 a (nI tx) fp (nI t0) wd (nI we) nu na (nI rd) ts (nI ru) (nI rw) (nI ca) df db sd))), (aI k (a 1) 3 (nF dn)), (aI k (a 4) 27 (sg se tm gs)), (aI k (a 2) 72 ffrees), (aI k (a 3) 72 fprices), (aI k (a 18) 768 fons__3), (aI k (a 19) 768 fworths__3), (aI k (a 20) 5 fstarts__3), (aI k (a 21) 4 fends__3), (aZ k (a 22) 4 fgoesRound__3), (aI k (a 23) 8 fbegin__3), (aI k (a 33) 50 fb_6), (aI k (a 34) 50 fn_6)]) [2, 3, 4, 5, 6, 7, 8, 9, 10, 11, 12, 0, 1] (by decide +kernel) rfl
        exact W.iret (v := (fb_6 48)) hx hb hr (fun t ht hW => ⟨⟨(fb_6 48), (fons__3, fworths__3, fstarts__3, fends__3, fgoesRound__3, fbegin__3, fb_6, fn_6), rfl, tq_at (s := j_2) (by omega) (show 0 < dn j_2 by omega) (show boA (sdM dn (sg se tm gs) ffrees fprices j_2) _ from (by have h9 := hv_6.2 48 (by omega); rw [bph_0 (fun q => absurd (show 48 / 2 < dn j_2 from q.1) (by omega)), (show fends__3 0 = wayE (sdM dn (sg se tm gs) ffrees fprices j_2) 0 from ((wm_of (hse _) (htm _) hw_3) 0 (Nat.zero_le _) (Nat.zero_le _)).1)] at h9; exact h9)), by rw [ht]; exact hP9, hD9⟩, hS.F ht⟩) hS.2.2 dX8_boy_277
      · rw [nI_pred] at hl
        refine lv_iload_n hx hb dX8_boy_115 rfl (lv_at hl 0 rfl) ?_
        refine lv_if_lt (tgt := 270) hx hb dX8_boy_116 (by decide) (fun h => absurd h (nI_pos0 (by omega))) (fun _ => ?_)
        refine lv_iconst (v := 0) hx hb dX8_boy_119 (by decide) ?_
        refine lv_istore (lv' := [(4, .int 0), (3, .int (nI q_6)), (2, .int (nI (dn j_2))), (0, .ref (a 0)), (1, .int (nI j_2))]) hx hb dX8_boy_120 hl (by decide) rfl (fun ls hl => ?_)
        refine W_loop (σ := Nat × (Nat → Int32)) (fun (n_ : Nat) (x_ : Nat × (Nat → Int32)) (H : Heap) (locs : List Loc) (ls : Array Slot) => match x_ with | (k2_7, fn2_7) => n_ = 50 - k2_7 ∧ (k2_7 ≤ 50 ∧ ∀ k, k < k2_7 → fn2_7 k = boV (sdM dn (sg se tm gs) ffrees fprices j_2) (fends__3 0) (dn j_2 - q_6) (bph (sdM dn (sg se tm gs) ffrees fprices j_2) (fends__3 0) (k / 2)) (k % 2)) ∧ va_P D classes [(aI k (a 33) 50 fb_6), (aI k (a 34) 50 fn2_7), ((a 0), .inr (8, (fX8 a (nI tx) fp (nI t0) wd (nI we) nu na (nI rd) ts (nI ru) (nI rw) (nI ca) df db sd))), (aI k (a 1) 3 (nF dn)), (aI k (a 4) 27 (sg se tm gs)), (aI k (a 2) 72 ffrees), (aI k (a 3) 72 fprices), (aI k (a 18) 768 fons__3), (aI k (a 19) 768 fworths__3), (aI k (a 20) 5 fstarts__3), (aI k (a 21) 4 fends__3), (aZ k (a 22) 4 fgoesRound__3), (aI k (a 23) 8 fbegin__3)] H ∧ va_D A [(aI k (a 33) 50 fb_6), (aI k (a 34) 50 fn2_7), ((a 0), .inr (8, (fX8 a (nI tx) fp (nI t0) wd (nI we) nu na (nI rd) ts (nI ru) (nI rw) (nI ca) df db sd))), (aI k (a 1) 3 (nF dn)), (aI k (a 4) 27 (sg se tm gs)), (aI k (a 2) 72 ffrees), (aI k (a 3) 72 fprices), (aI k (a 18) 768 fons__3), (aI k (a 19) 768 fworths__3), (aI k (a 20) 5 fstarts__3), (aI k (a 21) 4 fends__3), (aZ k (a 22) 4 fgoesRound__3), (aI k (a 23) 8 fbegin__3)] ∧ va_S A s.heap H locs ∧ lv_has ls 8 [(4, .int (nI k2_7)), (3, .int (nI q_6)), (2, .int (nI (dn j_2))), (0, .ref (a 0)), (1, .int (nI j_2))]) (fun n_7 x_7 H locs ls hI ih_7 => ?_) _ (0, fn_6) ⟨rfl, ⟨by omega, fun k h => absurd h (Nat.not_lt_zero k)⟩, hP, hD, hS, (lv_sub hl [0, 1, 2, 3, 4] rfl)⟩
        obtain ⟨k2_7, fn2_7⟩ := x_7
        obtain ⟨hm_7, hv_7, hP, hD, hS, hl⟩ := hI
        subst hm_7
        refine lv_iload hx hb dX8_boy_122 (lv_at hl 0 rfl) ?_
        refine lv_bipush (v := 50) hx hb dX8_boy_124 (by decide) ?_
        refine lv_icmp_ge (tgt := 234) hx hb dX8_boy_126 (by decide) (fun c_8 => ?_) (fun c_8 => ?_)
        · have c_8 := (nI_leI (a := 50) (b := k2_7) (by omega) (by omega)).mp c_8
          refine lv_iconst (v := 0) hx hb dX8_boy_234 (by decide) ?_
          refine lv_istore (lv' := [(4, .int 0), (3, .int (nI q_6)), (2, .int (nI (dn j_2))), (0, .ref (a 0)), (1, .int (nI j_2))]) hx hb dX8_boy_235 hl (by decide) rfl (fun ls hl => ?_)
          refine W_loop (σ := Nat × (Nat → Int32)) (fun (n_ : Nat) (x_ : Nat × (Nat → Int32)) (H : Heap) (locs : List Loc) (ls : Array Slot) => match x_ with | (k3_9, fb3_9) => n_ = 50 - k3_9 ∧ (k3_9 ≤ 50 ∧ (∀ k, k < k3_9 → fb3_9 k = boV (sdM dn (sg se tm gs) ffrees fprices j_2) (fends__3 0) (dn j_2 - q_6) (bph (sdM dn (sg se tm gs) ffrees fprices j_2) (fends__3 0) (k / 2)) (k % 2)) ∧ True) ∧ va_P D classes [(aI k (a 33) 50 fb3_9), (aI k (a 34) 50 fn2_7), ((a 0), .inr (8, (fX8 a (nI tx) fp (nI t0) wd (nI we) nu na (nI rd) ts (nI ru) (nI rw) (nI ca) df db sd))), (aI k (a 1) 3 (nF dn)), (aI k (a 4) 27 (sg se tm gs)), (aI k (a 2) 72 ffrees), (aI k (a 3) 72 fprices), (aI k (a 18) 768 fons__3), (aI k (a 19) 768 fworths__3), (aI k (a 20) 5 fstarts__3), (aI k (a 21) 4 fends__3), (aZ k (a 22) 4 fgoesRound__3), (aI k (a 23) 8 fbegin__3)] H ∧ va_D A [(aI k (a 33) 50 fb3_9), (aI k (a 34) 50 fn2_7), ((a 0), .inr (8, (fX8 a (nI tx) fp (nI t0) wd (nI we) nu na (nI rd) ts (nI ru) (nI rw) (nI ca) df db sd))), (aI k (a 1) 3 (nF dn)), (aI k (a 4) 27 (sg se tm gs)), (aI k (a 2) 72 ffrees), (aI k (a 3) 72 fprices), (aI k (a 18) 768 fons__3), (aI k (a 19) 768 fworths__3), (aI k (a 20) 5 fstarts__3), (aI k (a 21) 4 fends__3), (aZ k (a 22) 4 fgoesRound__3), (aI k (a 23) 8 fbegin__3)] ∧ va_S A s.heap H locs ∧ lv_has ls 8 [(4, .int (nI k3_9)), (3, .int (nI q_6)), (2, .int (nI (dn j_2))), (0, .ref (a 0)), (1, .int (nI j_2))]) (fun n_9 x_9 H locs ls hI ih_9 => ?_) _ (0, fb_6) ⟨rfl, ⟨by omega, fun k h => absurd h (Nat.not_lt_zero k), trivial⟩, hP, hD, hS, (lv_sub hl [0, 1, 2, 3, 4] rfl)⟩
          obtain ⟨k3_9, fb3_9⟩ := x_9
          obtain ⟨hm_9, hv_9, hP, hD, hS, hl⟩ := hI
          subst hm_9
          refine lv_iload hx hb dX8_boy_237 (lv_at hl 0 rfl) ?_
          refine lv_bipush (v := 50) hx hb dX8_boy_239 (by decide) ?_
          refine lv_icmp_ge (tgt := 264) hx hb dX8_boy_241 (by decide) (fun c_10 => ?_) (fun c_10 => ?_)
          · have c_10 := (nI_leI (a := 50) (b := k3_9) (by omega) (by omega)).mp c_10
            refine lv_iinc (v := (nI q_6 - 1)) (lv' := [(3, .int (nI q_6 - 1)), (4, .int (nI k3_9)), (2, .int (nI (dn j_2))), (0, .ref (a 0)), (1, .int (nI j_2))]) hx hb dX8_boy_264 hl (k := 1) rfl (dn1 _) (by decide) rfl (fun ls hl => ?_)
            refine lv_goto (tgt := 115) hx hb dX8_boy_267 (by decide) ?_
            exact ih_6 _ (q_6, fb3_9, fn2_7) _ _ _ (by omega) ⟨rfl, ⟨by omega, fun k hk => hv_9.2.1 k (by omega)⟩, hP, hD, hS, (lv_sub hl [0, 2, 3, 4] rfl)⟩
          · have c_10 : ¬ (50 ≤ k3_9) := fun h => c_10 ((nI_leI (a := 50) (b := k3_9) (by omega) (by omega)).mpr h)
            refine lv_aload_n hx hb dX8_boy_244 rfl (lv_at hl 3 rfl) ?_
            refine va_get (D := D) (ci := 8) (v := .ref (a 33)) (C := RX8) (T := TX8) (N := 44) hx hb hts inX8 hown hK hP 2 rfl rfl 32 (by decide) (hts _ tw_1005) (fun _ h9 => h9) rfl dX8_boy_245 ?_
            refine lv_iload hx hb dX8_boy_248 (lv_at hl 0 rfl) ?_
            refine lv_aload_n hx hb dX8_boy_250 rfl (lv_at hl 3 rfl) ?_
            refine va_get (D := D) (ci := 8) (v := .ref (a 34)) (C := RX8) (T := TX8) (N := 44) hx hb hts inX8 hown hK hP 2 rfl rfl 33 (by decide) (hts _ tw_1006) (fun _ h9 => h9) rfl dX8_boy_251 ?_
            refine lv_iload hx hb dX8_boy_254 (lv_at hl 0 rfl) ?_
            refine va_iald hx hb hK hP 1 1 rfl rfl (vp_in_nI (by omega) (by decide)) dX8_boy_256 ?_
            refine lv_ti (y := (fn2_7 k3_9)) (by rw [nI_clamp (by omega)]) ?_
            refine va_iast hx hb hK hP hD hS 0 1 rfl rfl (vp_in_nI (by omega) (by decide)) dX8_boy_257 (fun H locs hP hD hS => ?_)
            replace hP : va_P D classes [(aI k (a 33) 50 (upd fb3_9 (Int32.toNatClampNeg (nI k3_9)) (fn2_7 k3_9))), (aI k (a 34) 50 fn2_7), ((a 0), .inr (8, (fX8 a (nI tx) fp (nI t0) wd (nI we) nu na (nI rd) ts (nI ru) (nI rw) (nI ca) df db sd))), (aI k (a 1) 3 (nF dn)), (aI k (a 4) 27 (sg se tm gs)), (aI k (a 2) 72 ffrees), (aI k (a 3) 72 fprices), (aI k (a 18) 768 fons__3), (aI k (a 19) 768 fworths__3), (aI k (a 20) 5 fstarts__3), (aI k (a 21) 4 fends__3), (aZ k (a 22) 4 fgoesRound__3), (aI k (a 23) 8 fbegin__3)] H := hP
            replace hD : va_D A [(aI k (a 33) 50 (upd fb3_9 (Int32.toNatClampNeg (nI k3_9)) (fn2_7 k3_9))), (aI k (a 34) 50 fn2_7), ((a 0), .inr (8, (fX8 a (nI tx) fp (nI t0) wd (nI we) nu na (nI rd) ts (nI ru) (nI rw) (nI ca) df db sd))), (aI k (a 1) 3 (nF dn)), (aI k (a 4) 27 (sg se tm gs)), (aI k (a 2) 72 ffrees), (aI k (a 3) 72 fprices), (aI k (a 18) 768 fons__3), (aI k (a 19) 768 fworths__3), (aI k (a 20) 5 fstarts__3), (aI k (a 21) 4 fends__3), (aZ k (a 22) 4 fgoesRound__3), (aI k (a 23) 8 fbegin__3)] := hD
            rw [nI_clamp (n := k3_9) (by omega)] at hP hD
            replace hP : va_P D classes [(aI k (a 33) 50 (upd fb3_9 k3_9 (fn2_7 k3_9))), (aI k (a 34) 50 fn2_7), ((a 0), .inr (8, (fX8 a (nI tx) fp (nI t0) wd (nI we) nu na (nI rd) ts (nI ru) (nI rw) (nI ca) df db sd))), (aI k (a 1) 3 (nF dn)), (aI k (a 4) 27 (sg se tm gs)), (aI k (a 2) 72 ffrees), (aI k (a 3) 72 fprices), (aI k (a 18) 768 fons__3), (aI k (a 19) 768 fworths__3), (aI k (a 20) 5 fstarts__3), (aI k (a 21) 4 fends__3), (aZ k (a 22) 4 fgoesRound__3), (aI k (a 23) 8 fbegin__3)] H := hP
            replace hD : va_D A [(aI k (a 33) 50 (upd fb3_9 k3_9 (fn2_7 k3_9))), (aI k (a 34) 50 fn2_7), ((a 0), .inr (8, (fX8 a (nI tx) fp (nI t0) wd (nI we) nu na (nI rd) ts (nI ru) (nI rw) (nI ca) df db sd))), (aI k (a 1) 3 (nF dn)), (aI k (a 4) 27 (sg se tm gs)), (aI k (a 2) 72 ffrees), (aI k (a 3) 72 fprices), (aI k (a 18) 768 fons__3), (aI k (a 19) 768 fworths__3), (aI k (a 20) 5 fstarts__3), (aI k (a 21) 4 fends__3), (aZ k (a 22) 4 fgoesRound__3), (aI k (a 23) 8 fbegin__3)] := hD
            refine lv_iinc (v := (nI (k3_9 + 1))) (lv' := [(4, .int (nI (k3_9 + 1))), (3, .int (nI q_6)), (2, .int (nI (dn j_2))), (0, .ref (a 0)), (1, .int (nI j_2))]) hx hb dX8_boy_258 hl (k := 0) rfl (nI_add k3_9 1) (by decide) rfl (fun ls hl => ?_)
            refine lv_goto (tgt := 237) hx hb dX8_boy_261 (by decide) ?_
            exact ih_9 _ (k3_9 + 1, (upd fb3_9 k3_9 (fn2_7 k3_9))) _ _ _ (by omega) ⟨rfl, ⟨by omega, la_upd (F := fun k => boV (sdM dn (sg se tm gs) ffrees fprices j_2) (fends__3 0) (dn j_2 - q_6) (bph (sdM dn (sg se tm gs) ffrees fprices j_2) (fends__3 0) (k / 2)) (k % 2)) hv_9.2.1 (hv_7.2 k3_9 (by omega)), trivial⟩, hP, hD, hS, (lv_sub hl [0, 1, 2, 3, 4] rfl)⟩
        · have c_8 : ¬ (50 ≤ k2_7) := fun h => c_8 ((nI_leI (a := 50) (b := k2_7) (by omega) (by omega)).mpr h)
          refine lv_iload hx hb dX8_boy_129 (lv_at hl 0 rfl) ?_
          refine lv_iconst (v := 2) hx hb dX8_boy_131 (by decide) ?_
          refine lv_idiv hx hb dX8_boy_132 (by decide) ?_
          refine lv_ti (y := (nI (k2_7 / 2))) (pk_div (by omega) (by decide) (by decide)) ?_
          refine lv_istore (lv' := [(5, .int (nI (k2_7 / 2))), (4, .int (nI k2_7)), (3, .int (nI q_6)), (2, .int (nI (dn j_2))), (0, .ref (a 0)), (1, .int (nI j_2))]) hx hb dX8_boy_133 hl (by decide) rfl (fun ls hl => ?_)
          refine lv_iload hx hb dX8_boy_135 (lv_at hl 0 rfl) ?_
          refine lv_iload_n hx hb dX8_boy_137 rfl (lv_at hl 3 rfl) ?_
          refine lv_icmp_ge (tgt := 159) hx hb dX8_boy_138 (by decide) (fun c_12 => ?_) (fun c_12 => ?_)
          · have c_12 := (nI_leI (a := (dn j_2)) (b := (k2_7 / 2)) (by omega) (by omega)).mp c_12
            refine lv_iconst (v := 1) hx hb dX8_boy_159 (by decide) ?_
            refine lv_goto (tgt := 164) hx hb dX8_boy_160 (by decide) ?_
            refine lv_istore (lv' := [(6, .int 1), (5, .int (nI (k2_7 / 2))), (4, .int (nI k2_7)), (3, .int (nI q_6)), (2, .int (nI (dn j_2))), (0, .ref (a 0)), (1, .int (nI j_2))]) hx hb dX8_boy_164 hl (by decide) rfl (fun ls hl => ?_)
            refine lv_aload_n hx hb dX8_boy_166 rfl (lv_at hl 5 rfl) ?_
            refine va_get (D := D) (ci := 8) (v := .ref (a 33)) (C := RX8) (T := TX8) (N := 44) hx hb hts inX8 hown hK hP 2 rfl rfl 32 (by decide) (hts _ tw_1005) (fun _ h9 => h9) rfl dX8_boy_167 ?_
            refine lv_iconst (v := 2) hx hb dX8_boy_170 (by decide) ?_
            refine lv_iload hx hb dX8_boy_171 (lv_at hl 0 rfl) ?_
            refine lv_if_eq (tgt := 180) hx hb dX8_boy_173 (by decide) (fun h => absurd h (by decide)) (fun _ => ?_)
            refine lv_iload_n hx hb dX8_boy_176 rfl (lv_at hl 3 rfl) ?_
            refine lv_goto (tgt := 182) hx hb dX8_boy_177 (by decide) ?_
            refine lv_imul hx hb dX8_boy_182 ?_
            refine lv_ti (y := (nI (2 * q_6))) (pk_mul 2 q_6) ?_
            refine lv_iconst (v := 1) hx hb dX8_boy_183 (by decide) ?_
            refine lv_iadd hx hb dX8_boy_184 ?_
            refine lv_ti (y := (nI (2 * q_6 + 1))) (nI_add (2 * q_6) 1) ?_
            refine va_iald hx hb hK hP 0 1 rfl rfl (vp_in_nI (by omega) (by decide)) dX8_boy_185 ?_
            refine lv_ti (y := (fb_6 (2 * q_6 + 1))) (by rw [nI_clamp (by omega)]) ?_
            refine lv_istore (lv' := [(7, .int (fb_6 (2 * q_6 + 1))), (6, .int 1), (5, .int (nI (k2_7 / 2))), (4, .int (nI k2_7)), (3, .int (nI q_6)), (2, .int (nI (dn j_2))), (0, .ref (a 0)), (1, .int (nI j_2))]) hx hb dX8_boy_186 hl (by decide) rfl (fun ls hl => ?_)
            refine lv_aload_n hx hb dX8_boy_188 rfl (lv_at hl 6 rfl) ?_
            refine va_get (D := D) (ci := 8) (v := .ref (a 34)) (C := RX8) (T := TX8) (N := 44) hx hb hts inX8 hown hK hP 2 rfl rfl 33 (by decide) (hts _ tw_1006) (fun _ h9 => h9) rfl dX8_boy_189 ?_
            refine lv_iload hx hb dX8_boy_192 (lv_at hl 3 rfl) ?_
            refine lv_aload_n hx hb dX8_boy_194 rfl (lv_at hl 6 rfl) ?_
            refine lv_iload_n hx hb dX8_boy_195 rfl (lv_at hl 7 rfl) ?_
            refine lv_iload_n hx hb dX8_boy_196 rfl (lv_at hl 4 rfl) ?_
            refine lv_iload hx hb dX8_boy_197 (lv_at hl 3 rfl) ?_
            refine lv_iconst (v := 2) hx hb dX8_boy_199 (by decide) ?_
            refine lv_irem hx hb dX8_boy_200 (by decide) ?_
            refine lv_ti (y := (nI (k2_7 % 2))) (pk_rem (by omega) (by decide) (by decide)) ?_
            refine lv_iconst (v := 1) hx hb dX8_boy_201 (by decide) ?_
            refine lv_icmp_ne (tgt := 209) hx hb dX8_boy_202 (by decide) (fun c_13 => ?_) (fun c_13 => ?_)
            · have c_13 : ¬ ((k2_7 % 2) = 1) := fun h => c_13 ((nI_eq (a := (k2_7 % 2)) (b := 1) (by omega) (by omega)).mpr h)
              refine lv_iconst (v := 0) hx hb dX8_boy_209 (by decide) ?_
              refine ro_i (D := D) (va_runV (As := [.int (nI j_2), .int (nI q_6), .int 0]) (rest := [.int (nI k2_7), .ref (a 34)]) ⟨hx, hb, hml, hown, hts⟩ ((n_chanceOf l D k st lo a tx t0 we rd ru rw ca fp wd nu na ts df db sd ffrees se tm gs j_2 q_6 0 (by first | assumption | omega) (by first | assumption | omega)) H.size) (cwV 3 hts (gV tw_1210 tw_1212 tw_41 tw_87 tw_1213) rfl rfl rfl (by decide +kernel) ⟨Nat.le_of_ble_eq_true rfl, Nat.le_of_ble_eq_true rfl⟩) (pV hS hAlo hlo hP hK (va_Dlo hD hAlo) hZ [2, 5, 4] (by decide) rfl (ci := 8) (q := (RX8, TX8, 44)) (q0 := 0) rfl rfl) rfl rfl hl.1 rfl (lv_room (Nat.le_of_ble_eq_true rfl)) dX8_boy_210 ⟨Nat.le_of_ble_eq_true rfl, Nat.le_of_ble_eq_true rfl⟩) hS hA hP (fun r_14 H locs hw_14 hP hS => ?_)
              try dsimp only at hw_14
              refine lv_iload hx hb dX8_boy_213 (lv_at hl 0 rfl) ?_
              refine lv_aload_n hx hb dX8_boy_215 rfl (lv_at hl 6 rfl) ?_
              refine va_get (D := D) (ci := 8) (v := .ref (a 33)) (C := RX8) (T := TX8) (N := 44) hx hb hts inX8 hown hK hP 2 rfl rfl 32 (by decide) (hts _ tw_1005) (fun _ h9 => h9) rfl dX8_boy_216 ?_
              refine lv_iconst (v := 2) hx hb dX8_boy_219 (by decide) ?_
              refine lv_iload hx hb dX8_boy_220 (lv_at hl 2 rfl) ?_
              refine lv_imul hx hb dX8_boy_222 ?_
              refine lv_ti (y := (nI (2 * (k2_7 / 2)))) (pk_mul 2 (k2_7 / 2)) ?_
              refine va_iald hx hb hK hP 0 1 rfl rfl (vp_in_nI (by omega) (by decide)) dX8_boy_223 ?_
              refine lv_ti (y := (fb_6 (2 * (k2_7 / 2)))) (by rw [nI_clamp (by omega)]) ?_
              refine ro_i (D := D) (va_runS (As := [.int r_14, .int (fb_6 (2 * q_6 + 1)), .int (fb_6 (2 * (k2_7 / 2)))]) (rest := [.int (nI k2_7), .ref (a 34)]) ⟨hx, hb, hml, hown, hts⟩ ((n_mixed l D k st lo r_14 (fb_6 (2 * q_6 + 1)) (fb_6 (2 * (k2_7 / 2)))) H.size) (va_cwS 3 hts (gS tw_1269 tw_1270 tw_87 tw_1271) rfl rfl rfl (by decide +kernel) ⟨Nat.le_of_ble_eq_true rfl, Nat.le_of_ble_eq_true rfl⟩) (pS hS hAlo hlo hP hK (va_Dlo hD hAlo) hZ [] (by decide) rfl) rfl rfl hl.1 rfl (lv_room (Nat.le_of_ble_eq_true rfl)) dX8_boy_224 ⟨Nat.le_of_ble_eq_true rfl, Nat.le_of_ble_eq_true rfl⟩) hS hA hP (fun r_15 H locs hw_15 hP hS => ?_)
              try dsimp only at hw_15
              refine va_iast hx hb hK hP hD hS 1 1 rfl rfl (vp_in_nI (by omega) (by decide)) dX8_boy_227 (fun H locs hP hD hS => ?_)
              replace hP : va_P D classes [(aI k (a 33) 50 fb_6), (aI k (a 34) 50 (upd fn2_7 (Int32.toNatClampNeg (nI k2_7)) r_15)), ((a 0), .inr (8, (fX8 a (nI tx) fp (nI t0) wd (nI we) nu na (nI rd) ts (nI ru) (nI rw) (nI ca) df db sd))), (aI k (a 1) 3 (nF dn)), (aI k (a 4) 27 (sg se tm gs)), (aI k (a 2) 72 ffrees), (aI k (a 3) 72 fprices), (aI k (a 18) 768 fons__3), (aI k (a 19) 768 fworths__3), (aI k (a 20) 5 fstarts__3), (aI k (a 21) 4 fends__3), (aZ k (a 22) 4 fgoesRound__3), (aI k (a 23) 8 fbegin__3)] H := hP
              replace hD : va_D A [(aI k (a 33) 50 fb_6), (aI k (a 34) 50 (upd fn2_7 (Int32.toNatClampNeg (nI k2_7)) r_15)), ((a 0), .inr (8, (fX8 a (nI tx) fp (nI t0) wd (nI we) nu na (nI rd) ts (nI ru) (nI rw) (nI ca) df db sd))), (aI k (a 1) 3 (nF dn)), (aI k (a 4) 27 (sg se tm gs)), (aI k (a 2) 72 ffrees), (aI k (a 3) 72 fprices), (aI k (a 18) 768 fons__3), (aI k (a 19) 768 fworths__3), (aI k (a 20) 5 fstarts__3), (aI k (a 21) 4 fends__3), (aZ k (a 22) 4 fgoesRound__3), (aI k (a 23) 8 fbegin__3)] := hD
              rw [nI_clamp (n := k2_7) (by omega)] at hP hD
              replace hP : va_P D classes [(aI k (a 33) 50 fb_6), (aI k (a 34) 50 (upd fn2_7 k2_7 r_15)), ((a 0), .inr (8, (fX8 a (nI tx) fp (nI t0) wd (nI we) nu na (nI rd) ts (nI ru) (nI rw) (nI ca) df db sd))), (aI k (a 1) 3 (nF dn)), (aI k (a 4) 27 (sg se tm gs)), (aI k (a 2) 72 ffrees), (aI k (a 3) 72 fprices), (aI k (a 18) 768 fons__3), (aI k (a 19) 768 fworths__3), (aI k (a 20) 5 fstarts__3), (aI k (a 21) 4 fends__3), (aZ k (a 22) 4 fgoesRound__3), (aI k (a 23) 8 fbegin__3)] H := hP
              replace hD : va_D A [(aI k (a 33) 50 fb_6), (aI k (a 34) 50 (upd fn2_7 k2_7 r_15)), ((a 0), .inr (8, (fX8 a (nI tx) fp (nI t0) wd (nI we) nu na (nI rd) ts (nI ru) (nI rw) (nI ca) df db sd))), (aI k (a 1) 3 (nF dn)), (aI k (a 4) 27 (sg se tm gs)), (aI k (a 2) 72 ffrees), (aI k (a 3) 72 fprices), (aI k (a 18) 768 fons__3), (aI k (a 19) 768 fworths__3), (aI k (a 20) 5 fstarts__3), (aI k (a 21) 4 fends__3), (aZ k (a 22) 4 fgoesRound__3), (aI k (a 23) 8 fbegin__3)] := hD
              refine lv_iinc (v := (nI (k2_7 + 1))) (lv' := [(4, .int (nI (k2_7 + 1))), (7, .int (fb_6 (2 * q_6 + 1))), (6, .int 1), (5, .int (nI (k2_7 / 2))), (3, .int (nI q_6)), (2, .int (nI (dn j_2))), (0, .ref (a 0)), (1, .int (nI j_2))]) hx hb dX8_boy_228 hl (k := 3) rfl (nI_add k2_7 1) (by decide) rfl (fun ls hl => ?_)
              refine lv_goto (tgt := 122) hx hb dX8_boy_231 (by decide) ?_
              have hx_7 := bo_v (d := (sdM dn (sg se tm gs) ffrees fprices j_2)) (E := (fends__3 0)) (b := bph (sdM dn (sg se tm gs) ffrees fprices j_2) (fends__3 0) (k2_7 / 2)) (a := k2_7 % 2) (show q_6 < dn j_2 by omega) (show _ = pChance (sdM dn (sg se tm gs) ffrees fprices j_2) q_6 (nI (k2_7 % 2)) from by rw [show k2_7 % 2 = 0 by omega]; exact hw_14.trans (mChance (fpr := fprices) (show q_6 < dn j_2 by omega))) (by have h9 := hv_6.2 (2 * q_6 + 1) (by omega); rw [show (2 * q_6 + 1) / 2 = q_6 by omega, show (2 * q_6 + 1) % 2 = 1 by omega, (bph_y (d := (sdM dn (sg se tm gs) ffrees fprices j_2)) (E := (fends__3 0)) (L := (k2_7 / 2)) (show q_6 < dn j_2 by omega) (.inl (show ¬ (k2_7 / 2) < dn j_2 by omega)))] at h9; exact h9) (by have h9 := hv_6.2 (2 * (k2_7 / 2)) (by omega); rw [show (2 * (k2_7 / 2)) / 2 = (k2_7 / 2) by omega, show (2 * (k2_7 / 2)) % 2 = 0 by omega] at h9; exact h9) hw_15
              exact ih_7 _ (k2_7 + 1, (upd fn2_7 k2_7 r_15)) _ _ _ (by omega) ⟨rfl, ⟨by omega, la_upd (F := fun k => boV (sdM dn (sg se tm gs) ffrees fprices j_2) (fends__3 0) (dn j_2 - q_6) (bph (sdM dn (sg se tm gs) ffrees fprices j_2) (fends__3 0) (k / 2)) (k % 2)) hv_7.2 hx_7⟩, hP, hD, hS, (lv_sub hl [0, 4, 5, 6, 7] rfl)⟩
            · have c_13 := (nI_eq (a := (k2_7 % 2)) (b := 1) (by omega) (by omega)).mp c_13
              refine lv_iconst (v := 1) hx hb dX8_boy_205 (by decide) ?_
              refine lv_goto (tgt := 210) hx hb dX8_boy_206 (by decide) ?_
              refine ro_i (D := D) (va_runV (As := [.int (nI j_2), .int (nI q_6), .int 1]) (rest := [.int (nI k2_7), .ref (a 34)]) ⟨hx, hb, hml, hown, hts⟩ ((n_chanceOf l D k st lo a tx t0 we rd ru rw ca fp wd nu na ts df db sd ffrees se tm gs j_2 q_6 1 (by first | assumption | omega) (by first | assumption | omega)) H.size) (cwV 3 hts (gV tw_1210 tw_1212 tw_41 tw_87 tw_1213) rfl rfl rfl (by decide +kernel) ⟨Nat.le_of_ble_eq_true rfl, Nat.le_of_ble_eq_true rfl⟩) (pV hS hAlo hlo hP hK (va_Dlo hD hAlo) hZ [2, 5, 4] (by decide) rfl (ci := 8) (q := (RX8, TX8, 44)) (q0 := 0) rfl rfl) rfl rfl hl.1 rfl (lv_room (Nat.le_of_ble_eq_true rfl)) dX8_boy_210 ⟨Nat.le_of_ble_eq_true rfl, Nat.le_of_ble_eq_true rfl⟩) hS hA hP (fun r_17 H locs hw_17 hP hS => ?_)
              try dsimp only at hw_17
              refine lv_iload hx hb dX8_boy_213 (lv_at hl 0 rfl) ?_
              refine lv_aload_n hx hb dX8_boy_215 rfl (lv_at hl 6 rfl) ?_
              refine va_get (D := D) (ci := 8) (v := .ref (a 33)) (C := RX8) (T := TX8) (N := 44) hx hb hts inX8 hown hK hP 2 rfl rfl 32 (by decide) (hts _ tw_1005) (fun _ h9 => h9) rfl dX8_boy_216 ?_
              refine lv_iconst (v := 2) hx hb dX8_boy_219 (by decide) ?_
              refine lv_iload hx hb dX8_boy_220 (lv_at hl 2 rfl) ?_
              refine lv_imul hx hb dX8_boy_222 ?_
              refine lv_ti (y := (nI (2 * (k2_7 / 2)))) (pk_mul 2 (k2_7 / 2)) ?_
              refine va_iald hx hb hK hP 0 1 rfl rfl (vp_in_nI (by omega) (by decide)) dX8_boy_223 ?_
              refine lv_ti (y := (fb_6 (2 * (k2_7 / 2)))) (by rw [nI_clamp (by omega)]) ?_
              refine ro_i (D := D) (va_runS (As := [.int r_17, .int (fb_6 (2 * q_6 + 1)), .int (fb_6 (2 * (k2_7 / 2)))]) (rest := [.int (nI k2_7), .ref (a 34)]) ⟨hx, hb, hml, hown, hts⟩ ((n_mixed l D k st lo r_17 (fb_6 (2 * q_6 + 1)) (fb_6 (2 * (k2_7 / 2)))) H.size) (va_cwS 3 hts (gS tw_1269 tw_1270 tw_87 tw_1271) rfl rfl rfl (by decide +kernel) ⟨Nat.le_of_ble_eq_true rfl, Nat.le_of_ble_eq_true rfl⟩) (pS hS hAlo hlo hP hK (va_Dlo hD hAlo) hZ [] (by decide) rfl) rfl rfl hl.1 rfl (lv_room (Nat.le_of_ble_eq_true rfl)) dX8_boy_224 ⟨Nat.le_of_ble_eq_true rfl, Nat.le_of_ble_eq_true rfl⟩) hS hA hP (fun r_18 H locs hw_18 hP hS => ?_)
              try dsimp only at hw_18
              refine va_iast hx hb hK hP hD hS 1 1 rfl rfl (vp_in_nI (by omega) (by decide)) dX8_boy_227 (fun H locs hP hD hS => ?_)
              replace hP : va_P D classes [(aI k (a 33) 50 fb_6), (aI k (a 34) 50 (upd fn2_7 (Int32.toNatClampNeg (nI k2_7)) r_18)), ((a 0), .inr (8, (fX8 a (nI tx) fp (nI t0) wd (nI we) nu na (nI rd) ts (nI ru) (nI rw) (nI ca) df db sd))), (aI k (a 1) 3 (nF dn)), (aI k (a 4) 27 (sg se tm gs)), (aI k (a 2) 72 ffrees), (aI k (a 3) 72 fprices), (aI k (a 18) 768 fons__3), (aI k (a 19) 768 fworths__3), (aI k (a 20) 5 fstarts__3), (aI k (a 21) 4 fends__3), (aZ k (a 22) 4 fgoesRound__3), (aI k (a 23) 8 fbegin__3)] H := hP
              replace hD : va_D A [(aI k (a 33) 50 fb_6), (aI k (a 34) 50 (upd fn2_7 (Int32.toNatClampNeg (nI k2_7)) r_18)), ((a 0), .inr (8, (fX8 a (nI tx) fp (nI t0) wd (nI we) nu na (nI rd) ts (nI ru) (nI rw) (nI ca) df db sd))), (aI k (a 1) 3 (nF dn)), (aI k (a 4) 27 (sg se tm gs)), (aI k (a 2) 72 ffrees), (aI k (a 3) 72 fprices), (aI k (a 18) 768 fons__3), (aI k (a 19) 768 fworths__3), (aI k (a 20) 5 fstarts__3), (aI k (a 21) 4 fends__3), (aZ k (a 22) 4 fgoesRound__3), (aI k (a 23) 8 fbegin__3)] := hD
              rw [nI_clamp (n := k2_7) (by omega)] at hP hD
              replace hP : va_P D classes [(aI k (a 33) 50 fb_6), (aI k (a 34) 50 (upd fn2_7 k2_7 r_18)), ((a 0), .inr (8, (fX8 a (nI tx) fp (nI t0) wd (nI we) nu na (nI rd) ts (nI ru) (nI rw) (nI ca) df db sd))), (aI k (a 1) 3 (nF dn)), (aI k (a 4) 27 (sg se tm gs)), (aI k (a 2) 72 ffrees), (aI k (a 3) 72 fprices), (aI k (a 18) 768 fons__3), (aI k (a 19) 768 fworths__3), (aI k (a 20) 5 fstarts__3), (aI k (a 21) 4 fends__3), (aZ k (a 22) 4 fgoesRound__3), (aI k (a 23) 8 fbegin__3)] H := hP
              replace hD : va_D A [(aI k (a 33) 50 fb_6), (aI k (a 34) 50 (upd fn2_7 k2_7 r_18)), ((a 0), .inr (8, (fX8 a (nI tx) fp (nI t0) wd (nI we) nu na (nI rd) ts (nI ru) (nI rw) (nI ca) df db sd))), (aI k (a 1) 3 (nF dn)), (aI k (a 4) 27 (sg se tm gs)), (aI k (a 2) 72 ffrees), (aI k (a 3) 72 fprices), (aI k (a 18) 768 fons__3), (aI k (a 19) 768 fworths__3), (aI k (a 20) 5 fstarts__3), (aI k (a 21) 4 fends__3), (aZ k (a 22) 4 fgoesRound__3), (aI k (a 23) 8 fbegin__3)] := hD
              refine lv_iinc (v := (nI (k2_7 + 1))) (lv' := [(4, .int (nI (k2_7 + 1))), (7, .int (fb_6 (2 * q_6 + 1))), (6, .int 1), (5, .int (nI (k2_7 / 2))), (3, .int (nI q_6)), (2, .int (nI (dn j_2))), (0, .ref (a 0)), (1, .int (nI j_2))]) hx hb dX8_boy_228 hl (k := 3) rfl (nI_add k2_7 1) (by decide) rfl (fun ls hl => ?_)
              refine lv_goto (tgt := 122) hx hb dX8_boy_231 (by decide) ?_
              have hx_7 := bo_v (d := (sdM dn (sg se tm gs) ffrees fprices j_2)) (E := (fends__3 0)) (b := bph (sdM dn (sg se tm gs) ffrees fprices j_2) (fends__3 0) (k2_7 / 2)) (a := k2_7 % 2) (show q_6 < dn j_2 by omega) (show _ = pChance (sdM dn (sg se tm gs) ffrees fprices j_2) q_6 (nI (k2_7 % 2)) from by rw [show k2_7 % 2 = 1 by omega]; exact hw_17.trans (mChance (fpr := fprices) (show q_6 < dn j_2 by omega))) (by have h9 := hv_6.2 (2 * q_6 + 1) (by omega); rw [show (2 * q_6 + 1) / 2 = q_6 by omega, show (2 * q_6 + 1) % 2 = 1 by omega, (bph_y (d := (sdM dn (sg se tm gs) ffrees fprices j_2)) (E := (fends__3 0)) (L := (k2_7 / 2)) (show q_6 < dn j_2 by omega) (.inl (show ¬ (k2_7 / 2) < dn j_2 by omega)))] at h9; exact h9) (by have h9 := hv_6.2 (2 * (k2_7 / 2)) (by omega); rw [show (2 * (k2_7 / 2)) / 2 = (k2_7 / 2) by omega, show (2 * (k2_7 / 2)) % 2 = 0 by omega] at h9; exact h9) hw_18
              exact ih_7 _ (k2_7 + 1, (upd fn2_7 k2_7 r_18)) _ _ _ (by omega) ⟨rfl, ⟨by omega, la_upd (F := fun k => boV (sdM dn (sg se tm gs) ffrees fprices j_2) (fends__3 0) (dn j_2 - q_6) (bph (sdM dn (sg se tm gs) ffrees fprices j_2) (fends__3 0) (k / 2)) (k % 2)) hv_7.2 hx_7⟩, hP, hD, hS, (lv_sub hl [0, 4, 5, 6, 7] rfl)⟩
          · have c_12 : ¬ ((dn j_2) ≤ (k2_7 / 2)) := fun h => c_12 ((nI_leI (a := (dn j_2)) (b := (k2_7 / 2)) (by omega) (by omega)).mpr h)
            refine lv_aload_n hx hb dX8_boy_141 rfl (lv_at hl 4 rfl) ?_
            refine lv_iload_n hx hb dX8_boy_142 rfl (lv_at hl 5 rfl) ?_
            refine lv_iconst (v := 0) hx hb dX8_boy_143 (by decide) ?_
            refine lv_iload_n hx hb dX8_boy_144 rfl (lv_at hl 2 rfl) ?_
            refine ro_i (D := D) (va_runV (As := [.int (nI j_2), .int 0, .int (nI q_6)]) (rest := []) ⟨hx, hb, hml, hown, hts⟩ ((n_takingOf l D k st lo a tx t0 we rd ru rw ca fp wd nu na ts df db sd dn se tm gs fprices j_2 q_6 0 (by first | assumption | omega) (by first | assumption | omega)) H.size) (cwV 3 hts (gV tw_1222 tw_1224 tw_43 tw_87 tw_1225) rfl rfl rfl (by decide +kernel) ⟨Nat.le_of_ble_eq_true rfl, Nat.le_of_ble_eq_true rfl⟩) (pV hS hAlo hlo hP hK (va_Dlo hD hAlo) hZ [2, 3, 4, 6] (by decide) rfl (ci := 8) (q := (RX8, TX8, 44)) (q0 := 0) rfl rfl) rfl rfl hl.1 rfl (lv_room (Nat.le_of_ble_eq_true rfl)) dX8_boy_145 ⟨Nat.le_of_ble_eq_true rfl, Nat.le_of_ble_eq_true rfl⟩) hS hA hP (fun r_20 H locs hw_20 hP hS => ?_)
            try dsimp only at hw_20
            refine lv_aload_n hx hb dX8_boy_148 rfl (lv_at hl 4 rfl) ?_
            refine lv_iload_n hx hb dX8_boy_149 rfl (lv_at hl 5 rfl) ?_
            refine lv_iconst (v := 0) hx hb dX8_boy_150 (by decide) ?_
            refine lv_iload hx hb dX8_boy_151 (lv_at hl 0 rfl) ?_
            refine ro_i (D := D) (va_runV (As := [.int (nI j_2), .int 0, .int (nI (k2_7 / 2))]) (rest := [.int r_20]) ⟨hx, hb, hml, hown, hts⟩ ((n_takingOf l D k st lo a tx t0 we rd ru rw ca fp wd nu na ts df db sd dn se tm gs fprices j_2 (k2_7 / 2) 0 (by first | assumption | omega) (by first | assumption | omega)) H.size) (cwV 3 hts (gV tw_1222 tw_1224 tw_43 tw_87 tw_1225) rfl rfl rfl (by decide +kernel) ⟨Nat.le_of_ble_eq_true rfl, Nat.le_of_ble_eq_true rfl⟩) (pV hS hAlo hlo hP hK (va_Dlo hD hAlo) hZ [2, 3, 4, 6] (by decide) rfl (ci := 8) (q := (RX8, TX8, 44)) (q0 := 0) rfl rfl) rfl rfl hl.1 rfl (lv_room (Nat.le_of_ble_eq_true rfl)) dX8_boy_153 ⟨Nat.le_of_ble_eq_true rfl, Nat.le_of_ble_eq_true rfl⟩) hS hA hP (fun r_21 H locs hw_21 hP hS => ?_)
            try dsimp only at hw_21
            refine lv_icmp_ge (tgt := 163) hx hb dX8_boy_156 (by decide) (fun c_22 => ?_) (fun c_22 => ?_)
            · refine lv_iconst (v := 0) hx hb dX8_boy_163 (by decide) ?_
              refine lv_istore (lv' := [(6, .int 0), (5, .int (nI (k2_7 / 2))), (4, .int (nI k2_7)), (3, .int (nI q_6)), (2, .int (nI (dn j_2))), (0, .ref (a 0)), (1, .int (nI j_2))]) hx hb dX8_boy_164 hl (by decide) rfl (fun ls hl => ?_)
              refine lv_aload_n hx hb dX8_boy_166 rfl (lv_at hl 5 rfl) ?_
              refine va_get (D := D) (ci := 8) (v := .ref (a 33)) (C := RX8) (T := TX8) (N := 44) hx hb hts inX8 hown hK hP 2 rfl rfl 32 (by decide) (hts _ tw_1005) (fun _ h9 => h9) rfl dX8_boy_167 ?_
              refine lv_iconst (v := 2) hx hb dX8_boy_170 (by decide) ?_
              refine lv_iload hx hb dX8_boy_171 (lv_at hl 0 rfl) ?_
              refine lv_if_eq (tgt := 180) hx hb dX8_boy_173 (by decide) (fun _ => ?_) (fun h => absurd (by decide) h)
              refine lv_iload hx hb dX8_boy_180 (lv_at hl 1 rfl) ?_
              refine lv_imul hx hb dX8_boy_182 ?_
              refine lv_ti (y := (nI (2 * (k2_7 / 2)))) (pk_mul 2 (k2_7 / 2)) ?_
              refine lv_iconst (v := 1) hx hb dX8_boy_183 (by decide) ?_
              refine lv_iadd hx hb dX8_boy_184 ?_
              refine lv_ti (y := (nI (2 * (k2_7 / 2) + 1))) (nI_add (2 * (k2_7 / 2)) 1) ?_
              refine va_iald hx hb hK hP 0 1 rfl rfl (vp_in_nI (by omega) (by decide)) dX8_boy_185 ?_
              refine lv_ti (y := (fb_6 (2 * (k2_7 / 2) + 1))) (by rw [nI_clamp (by omega)]) ?_
              refine lv_istore (lv' := [(7, .int (fb_6 (2 * (k2_7 / 2) + 1))), (6, .int 0), (5, .int (nI (k2_7 / 2))), (4, .int (nI k2_7)), (3, .int (nI q_6)), (2, .int (nI (dn j_2))), (0, .ref (a 0)), (1, .int (nI j_2))]) hx hb dX8_boy_186 hl (by decide) rfl (fun ls hl => ?_)
              refine lv_aload_n hx hb dX8_boy_188 rfl (lv_at hl 6 rfl) ?_
              refine va_get (D := D) (ci := 8) (v := .ref (a 34)) (C := RX8) (T := TX8) (N := 44) hx hb hts inX8 hown hK hP 2 rfl rfl 33 (by decide) (hts _ tw_1006) (fun _ h9 => h9) rfl dX8_boy_189 ?_
              refine lv_iload hx hb dX8_boy_192 (lv_at hl 3 rfl) ?_
              refine lv_aload_n hx hb dX8_boy_194 rfl (lv_at hl 6 rfl) ?_
              refine lv_iload_n hx hb dX8_boy_195 rfl (lv_at hl 7 rfl) ?_
              refine lv_iload_n hx hb dX8_boy_196 rfl (lv_at hl 4 rfl) ?_
              refine lv_iload hx hb dX8_boy_197 (lv_at hl 3 rfl) ?_
              refine lv_iconst (v := 2) hx hb dX8_boy_199 (by decide) ?_
              refine lv_irem hx hb dX8_boy_200 (by decide) ?_
              refine lv_ti (y := (nI (k2_7 % 2))) (pk_rem (by omega) (by decide) (by decide)) ?_
              refine lv_iconst (v := 1) hx hb dX8_boy_201 (by decide) ?_
              refine lv_icmp_ne (tgt := 209) hx hb dX8_boy_202 (by decide) (fun c_23 => ?_) (fun c_23 => ?_)
              · have c_23 : ¬ ((k2_7 % 2) = 1) := fun h => c_23 ((nI_eq (a := (k2_7 % 2)) (b := 1) (by omega) (by omega)).mpr h)
                refine lv_iconst (v := 0) hx hb dX8_boy_209 (by decide) ?_
                refine ro_i (D := D) (va_runV (As := [.int (nI j_2), .int (nI q_6), .int 0]) (rest := [.int (nI k2_7), .ref (a 34)]) ⟨hx, hb, hml, hown, hts⟩ ((n_chanceOf l D k st lo a tx t0 we rd ru rw ca fp wd nu na ts df db sd ffrees se tm gs j_2 q_6 0 (by first | assumption | omega) (by first | assumption | omega)) H.size) (cwV 3 hts (gV tw_1210 tw_1212 tw_41 tw_87 tw_1213) rfl rfl rfl (by decide +kernel) ⟨Nat.le_of_ble_eq_true rfl, Nat.le_of_ble_eq_true rfl⟩) (pV hS hAlo hlo hP hK (va_Dlo hD hAlo) hZ [2, 5, 4] (by decide) rfl (ci := 8) (q := (RX8, TX8, 44)) (q0 := 0) rfl rfl) rfl rfl hl.1 rfl (lv_room (Nat.le_of_ble_eq_true rfl)) dX8_boy_210 ⟨Nat.le_of_ble_eq_true rfl, Nat.le_of_ble_eq_true rfl⟩) hS hA hP (fun r_24 H locs hw_24 hP hS => ?_)
                try dsimp only at hw_24
                refine lv_iload hx hb dX8_boy_213 (lv_at hl 0 rfl) ?_
                refine lv_aload_n hx hb dX8_boy_215 rfl (lv_at hl 6 rfl) ?_
                refine va_get (D := D) (ci := 8) (v := .ref (a 33)) (C := RX8) (T := TX8) (N := 44) hx hb hts inX8 hown hK hP 2 rfl rfl 32 (by decide) (hts _ tw_1005) (fun _ h9 => h9) rfl dX8_boy_216 ?_
                refine lv_iconst (v := 2) hx hb dX8_boy_219 (by decide) ?_
                refine lv_iload hx hb dX8_boy_220 (lv_at hl 2 rfl) ?_
                refine lv_imul hx hb dX8_boy_222 ?_
                refine lv_ti (y := (nI (2 * (k2_7 / 2)))) (pk_mul 2 (k2_7 / 2)) ?_
                refine va_iald hx hb hK hP 0 1 rfl rfl (vp_in_nI (by omega) (by decide)) dX8_boy_223 ?_
                refine lv_ti (y := (fb_6 (2 * (k2_7 / 2)))) (by rw [nI_clamp (by omega)]) ?_
                refine ro_i (D := D) (va_runS (As := [.int r_24, .int (fb_6 (2 * (k2_7 / 2) + 1)), .int (fb_6 (2 * (k2_7 / 2)))]) (rest := [.int (nI k2_7), .ref (a 34)]) ⟨hx, hb, hml, hown, hts⟩ ((n_mixed l D k st lo r_24 (fb_6 (2 * (k2_7 / 2) + 1)) (fb_6 (2 * (k2_7 / 2)))) H.size) (va_cwS 3 hts (gS tw_1269 tw_1270 tw_87 tw_1271) rfl rfl rfl (by decide +kernel) ⟨Nat.le_of_ble_eq_true rfl, Nat.le_of_ble_eq_true rfl⟩) (pS hS hAlo hlo hP hK (va_Dlo hD hAlo) hZ [] (by decide) rfl) rfl rfl hl.1 rfl (lv_room (Nat.le_of_ble_eq_true rfl)) dX8_boy_224 ⟨Nat.le_of_ble_eq_true rfl, Nat.le_of_ble_eq_true rfl⟩) hS hA hP (fun r_25 H locs hw_25 hP hS => ?_)
                try dsimp only at hw_25
                refine va_iast hx hb hK hP hD hS 1 1 rfl rfl (vp_in_nI (by omega) (by decide)) dX8_boy_227 (fun H locs hP hD hS => ?_)
                replace hP : va_P D classes [(aI k (a 33) 50 fb_6), (aI k (a 34) 50 (upd fn2_7 (Int32.toNatClampNeg (nI k2_7)) r_25)), ((a 0), .inr (8, (fX8 a (nI tx) fp (nI t0) wd (nI we) nu na (nI rd) ts (nI ru) (nI rw) (nI ca) df db sd))), (aI k (a 1) 3 (nF dn)), (aI k (a 4) 27 (sg se tm gs)), (aI k (a 2) 72 ffrees), (aI k (a 3) 72 fprices), (aI k (a 18) 768 fons__3), (aI k (a 19) 768 fworths__3), (aI k (a 20) 5 fstarts__3), (aI k (a 21) 4 fends__3), (aZ k (a 22) 4 fgoesRound__3), (aI k (a 23) 8 fbegin__3)] H := hP
                replace hD : va_D A [(aI k (a 33) 50 fb_6), (aI k (a 34) 50 (upd fn2_7 (Int32.toNatClampNeg (nI k2_7)) r_25)), ((a 0), .inr (8, (fX8 a (nI tx) fp (nI t0) wd (nI we) nu na (nI rd) ts (nI ru) (nI rw) (nI ca) df db sd))), (aI k (a 1) 3 (nF dn)), (aI k (a 4) 27 (sg se tm gs)), (aI k (a 2) 72 ffrees), (aI k (a 3) 72 fprices), (aI k (a 18) 768 fons__3), (aI k (a 19) 768 fworths__3), (aI k (a 20) 5 fstarts__3), (aI k (a 21) 4 fends__3), (aZ k (a 22) 4 fgoesRound__3), (aI k (a 23) 8 fbegin__3)] := hD
                rw [nI_clamp (n := k2_7) (by omega)] at hP hD
                replace hP : va_P D classes [(aI k (a 33) 50 fb_6), (aI k (a 34) 50 (upd fn2_7 k2_7 r_25)), ((a 0), .inr (8, (fX8 a (nI tx) fp (nI t0) wd (nI we) nu na (nI rd) ts (nI ru) (nI rw) (nI ca) df db sd))), (aI k (a 1) 3 (nF dn)), (aI k (a 4) 27 (sg se tm gs)), (aI k (a 2) 72 ffrees), (aI k (a 3) 72 fprices), (aI k (a 18) 768 fons__3), (aI k (a 19) 768 fworths__3), (aI k (a 20) 5 fstarts__3), (aI k (a 21) 4 fends__3), (aZ k (a 22) 4 fgoesRound__3), (aI k (a 23) 8 fbegin__3)] H := hP
                replace hD : va_D A [(aI k (a 33) 50 fb_6), (aI k (a 34) 50 (upd fn2_7 k2_7 r_25)), ((a 0), .inr (8, (fX8 a (nI tx) fp (nI t0) wd (nI we) nu na (nI rd) ts (nI ru) (nI rw) (nI ca) df db sd))), (aI k (a 1) 3 (nF dn)), (aI k (a 4) 27 (sg se tm gs)), (aI k (a 2) 72 ffrees), (aI k (a 3) 72 fprices), (aI k (a 18) 768 fons__3), (aI k (a 19) 768 fworths__3), (aI k (a 20) 5 fstarts__3), (aI k (a 21) 4 fends__3), (aZ k (a 22) 4 fgoesRound__3), (aI k (a 23) 8 fbegin__3)] := hD
                refine lv_iinc (v := (nI (k2_7 + 1))) (lv' := [(4, .int (nI (k2_7 + 1))), (7, .int (fb_6 (2 * (k2_7 / 2) + 1))), (6, .int 0), (5, .int (nI (k2_7 / 2))), (3, .int (nI q_6)), (2, .int (nI (dn j_2))), (0, .ref (a 0)), (1, .int (nI j_2))]) hx hb dX8_boy_228 hl (k := 3) rfl (nI_add k2_7 1) (by decide) rfl (fun ls hl => ?_)
                refine lv_goto (tgt := 122) hx hb dX8_boy_231 (by decide) ?_
                have hx_7 := bo_v (d := (sdM dn (sg se tm gs) ffrees fprices j_2)) (E := (fends__3 0)) (b := bph (sdM dn (sg se tm gs) ffrees fprices j_2) (fends__3 0) (k2_7 / 2)) (a := k2_7 % 2) (show q_6 < dn j_2 by omega) (show _ = pChance (sdM dn (sg se tm gs) ffrees fprices j_2) q_6 (nI (k2_7 % 2)) from by rw [show k2_7 % 2 = 0 by omega]; exact hw_24.trans (mChance (fpr := fprices) (show q_6 < dn j_2 by omega))) (by have h9 := hv_6.2 (2 * (k2_7 / 2) + 1) (by omega); rw [show (2 * (k2_7 / 2) + 1) / 2 = (k2_7 / 2) by omega, show (2 * (k2_7 / 2) + 1) % 2 = 1 by omega, (bph_n (d := (sdM dn (sg se tm gs) ffrees fprices j_2)) (E := (fends__3 0)) (i := q_6) (show (k2_7 / 2) < dn j_2 by omega) (by rw [← (show fM_taking dn se tm gs fprices j_2 q_6 0 = pTake (sdM dn (sg se tm gs) ffrees fprices j_2) 0 q_6 from mTake (dn := dn) (se := se) (tm := tm) (gs := gs) (ffr := ffrees) (fpr := fprices) (s := j_2) (r := 0) (i := q_6) (show q_6 < dn j_2 by omega)), ← (show fM_taking dn se tm gs fprices j_2 (k2_7 / 2) 0 = pTake (sdM dn (sg se tm gs) ffrees fprices j_2) 0 (k2_7 / 2) from mTake (dn := dn) (se := se) (tm := tm) (gs := gs) (ffr := ffrees) (fpr := fprices) (s := j_2) (r := 0) (i := (k2_7 / 2)) (show (k2_7 / 2) < dn j_2 by omega)), ← hw_20, ← hw_21]; exact Int32.not_lt.mpr c_22))] at h9; exact h9) (by have h9 := hv_6.2 (2 * (k2_7 / 2)) (by omega); rw [show (2 * (k2_7 / 2)) / 2 = (k2_7 / 2) by omega, show (2 * (k2_7 / 2)) % 2 = 0 by omega] at h9; exact h9) hw_25
                exact ih_7 _ (k2_7 + 1, (upd fn2_7 k2_7 r_25)) _ _ _ (by omega) ⟨rfl, ⟨by omega, la_upd (F := fun k => boV (sdM dn (sg se tm gs) ffrees fprices j_2) (fends__3 0) (dn j_2 - q_6) (bph (sdM dn (sg se tm gs) ffrees fprices j_2) (fends__3 0) (k / 2)) (k % 2)) hv_7.2 hx_7⟩, hP, hD, hS, (lv_sub hl [0, 4, 5, 6, 7] rfl)⟩
              · have c_23 := (nI_eq (a := (k2_7 % 2)) (b := 1) (by omega) (by omega)).mp c_23
                refine lv_iconst (v := 1) hx hb dX8_boy_205 (by decide) ?_
                refine lv_goto (tgt := 210) hx hb dX8_boy_206 (by decide) ?_
                refine ro_i (D := D) (va_runV (As := [.int (nI j_2), .int (nI q_6), .int 1]) (rest := [.int (nI k2_7), .ref (a 34)]) ⟨hx, hb, hml, hown, hts⟩ ((n_chanceOf l D k st lo a tx t0 we rd ru rw ca fp wd nu na ts df db sd ffrees se tm gs j_2 q_6 1 (by first | assumption | omega) (by first | assumption | omega)) H.size) (cwV 3 hts (gV tw_1210 tw_1212 tw_41 tw_87 tw_1213) rfl rfl rfl (by decide +kernel) ⟨Nat.le_of_ble_eq_true rfl, Nat.le_of_ble_eq_true rfl⟩) (pV hS hAlo hlo hP hK (va_Dlo hD hAlo) hZ [2, 5, 4] (by decide) rfl (ci := 8) (q := (RX8, TX8, 44)) (q0 := 0) rfl rfl) rfl rfl hl.1 rfl (lv_room (Nat.le_of_ble_eq_true rfl)) dX8_boy_210 ⟨Nat.le_of_ble_eq_true rfl, Nat.le_of_ble_eq_true rfl⟩) hS hA hP (fun r_27 H locs hw_27 hP hS => ?_)
                try dsimp only at hw_27
                refine lv_iload hx hb dX8_boy_213 (lv_at hl 0 rfl) ?_
                refine lv_aload_n hx hb dX8_boy_215 rfl (lv_at hl 6 rfl) ?_
                refine va_get (D := D) (ci := 8) (v := .ref (a 33)) (C := RX8) (T := TX8) (N := 44) hx hb hts inX8 hown hK hP 2 rfl rfl 32 (by decide) (hts _ tw_1005) (fun _ h9 => h9) rfl dX8_boy_216 ?_
                refine lv_iconst (v := 2) hx hb dX8_boy_219 (by decide) ?_
                refine lv_iload hx hb dX8_boy_220 (lv_at hl 2 rfl) ?_
                refine lv_imul hx hb dX8_boy_222 ?_
                refine lv_ti (y := (nI (2 * (k2_7 / 2)))) (pk_mul 2 (k2_7 / 2)) ?_
                refine va_iald hx hb hK hP 0 1 rfl rfl (vp_in_nI (by omega) (by decide)) dX8_boy_223 ?_
                refine lv_ti (y := (fb_6 (2 * (k2_7 / 2)))) (by rw [nI_clamp (by omega)]) ?_
                refine ro_i (D := D) (va_runS (As := [.int r_27, .int (fb_6 (2 * (k2_7 / 2) + 1)), .int (fb_6 (2 * (k2_7 / 2)))]) (rest := [.int (nI k2_7), .ref (a 34)]) ⟨hx, hb, hml, hown, hts⟩ ((n_mixed l D k st lo r_27 (fb_6 (2 * (k2_7 / 2) + 1)) (fb_6 (2 * (k2_7 / 2)))) H.size) (va_cwS 3 hts (gS tw_1269 tw_1270 tw_87 tw_1271) rfl rfl rfl (by decide +kernel) ⟨Nat.le_of_ble_eq_true rfl, Nat.le_of_ble_eq_true rfl⟩) (pS hS hAlo hlo hP hK (va_Dlo hD hAlo) hZ [] (by decide) rfl) rfl rfl hl.1 rfl (lv_room (Nat.le_of_ble_eq_true rfl)) dX8_boy_224 ⟨Nat.le_of_ble_eq_true rfl, Nat.le_of_ble_eq_true rfl⟩) hS hA hP (fun r_28 H locs hw_28 hP hS => ?_)
                try dsimp only at hw_28
                refine va_iast hx hb hK hP hD hS 1 1 rfl rfl (vp_in_nI (by omega) (by decide)) dX8_boy_227 (fun H locs hP hD hS => ?_)
                replace hP : va_P D classes [(aI k (a 33) 50 fb_6), (aI k (a 34) 50 (upd fn2_7 (Int32.toNatClampNeg (nI k2_7)) r_28)), ((a 0), .inr (8, (fX8 a (nI tx) fp (nI t0) wd (nI we) nu na (nI rd) ts (nI ru) (nI rw) (nI ca) df db sd))), (aI k (a 1) 3 (nF dn)), (aI k (a 4) 27 (sg se tm gs)), (aI k (a 2) 72 ffrees), (aI k (a 3) 72 fprices), (aI k (a 18) 768 fons__3), (aI k (a 19) 768 fworths__3), (aI k (a 20) 5 fstarts__3), (aI k (a 21) 4 fends__3), (aZ k (a 22) 4 fgoesRound__3), (aI k (a 23) 8 fbegin__3)] H := hP
                replace hD : va_D A [(aI k (a 33) 50 fb_6), (aI k (a 34) 50 (upd fn2_7 (Int32.toNatClampNeg (nI k2_7)) r_28)), ((a 0), .inr (8, (fX8 a (nI tx) fp (nI t0) wd (nI we) nu na (nI rd) ts (nI ru) (nI rw) (nI ca) df db sd))), (aI k (a 1) 3 (nF dn)), (aI k (a 4) 27 (sg se tm gs)), (aI k (a 2) 72 ffrees), (aI k (a 3) 72 fprices), (aI k (a 18) 768 fons__3), (aI k (a 19) 768 fworths__3), (aI k (a 20) 5 fstarts__3), (aI k (a 21) 4 fends__3), (aZ k (a 22) 4 fgoesRound__3), (aI k (a 23) 8 fbegin__3)] := hD
                rw [nI_clamp (n := k2_7) (by omega)] at hP hD
                replace hP : va_P D classes [(aI k (a 33) 50 fb_6), (aI k (a 34) 50 (upd fn2_7 k2_7 r_28)), ((a 0), .inr (8, (fX8 a (nI tx) fp (nI t0) wd (nI we) nu na (nI rd) ts (nI ru) (nI rw) (nI ca) df db sd))), (aI k (a 1) 3 (nF dn)), (aI k (a 4) 27 (sg se tm gs)), (aI k (a 2) 72 ffrees), (aI k (a 3) 72 fprices), (aI k (a 18) 768 fons__3), (aI k (a 19) 768 fworths__3), (aI k (a 20) 5 fstarts__3), (aI k (a 21) 4 fends__3), (aZ k (a 22) 4 fgoesRound__3), (aI k (a 23) 8 fbegin__3)] H := hP
                replace hD : va_D A [(aI k (a 33) 50 fb_6), (aI k (a 34) 50 (upd fn2_7 k2_7 r_28)), ((a 0), .inr (8, (fX8 a (nI tx) fp (nI t0) wd (nI we) nu na (nI rd) ts (nI ru) (nI rw) (nI ca) df db sd))), (aI k (a 1) 3 (nF dn)), (aI k (a 4) 27 (sg se tm gs)), (aI k (a 2) 72 ffrees), (aI k (a 3) 72 fprices), (aI k (a 18) 768 fons__3), (aI k (a 19) 768 fworths__3), (aI k (a 20) 5 fstarts__3), (aI k (a 21) 4 fends__3), (aZ k (a 22) 4 fgoesRound__3), (aI k (a 23) 8 fbegin__3)] := hD
                refine lv_iinc (v := (nI (k2_7 + 1))) (lv' := [(4, .int (nI (k2_7 + 1))), (7, .int (fb_6 (2 * (k2_7 / 2) + 1))), (6, .int 0), (5, .int (nI (k2_7 / 2))), (3, .int (nI q_6)), (2, .int (nI (dn j_2))), (0, .ref (a 0)), (1, .int (nI j_2))]) hx hb dX8_boy_228 hl (k := 3) rfl (nI_add k2_7 1) (by decide) rfl (fun ls hl => ?_)
                refine lv_goto (tgt := 122) hx hb dX8_boy_231 (by decide) ?_
                have hx_7 := bo_v (d := (sdM dn (sg se tm gs) ffrees fprices j_2)) (E := (fends__3 0)) (b := bph (sdM dn (sg se tm gs) ffrees fprices j_2) (fends__3 0) (k2_7 / 2)) (a := k2_7 % 2) (show q_6 < dn j_2 by omega) (show _ = pChance (sdM dn (sg se tm gs) ffrees fprices j_2) q_6 (nI (k2_7 % 2)) from by rw [show k2_7 % 2 = 1 by omega]; exact hw_27.trans (mChance (fpr := fprices) (show q_6 < dn j_2 by omega))) (by have h9 := hv_6.2 (2 * (k2_7 / 2) + 1) (by omega); rw [show (2 * (k2_7 / 2) + 1) / 2 = (k2_7 / 2) by omega, show (2 * (k2_7 / 2) + 1) % 2 = 1 by omega, (bph_n (d := (sdM dn (sg se tm gs) ffrees fprices j_2)) (E := (fends__3 0)) (i := q_6) (show (k2_7 / 2) < dn j_2 by omega) (by rw [← (show fM_taking dn se tm gs fprices j_2 q_6 0 = pTake (sdM dn (sg se tm gs) ffrees fprices j_2) 0 q_6 from mTake (dn := dn) (se := se) (tm := tm) (gs := gs) (ffr := ffrees) (fpr := fprices) (s := j_2) (r := 0) (i := q_6) (show q_6 < dn j_2 by omega)), ← (show fM_taking dn se tm gs fprices j_2 (k2_7 / 2) 0 = pTake (sdM dn (sg se tm gs) ffrees fprices j_2) 0 (k2_7 / 2) from mTake (dn := dn) (se := se) (tm := tm) (gs := gs) (ffr := ffrees) (fpr := fprices) (s := j_2) (r := 0) (i := (k2_7 / 2)) (show (k2_7 / 2) < dn j_2 by omega)), ← hw_20, ← hw_21]; exact Int32.not_lt.mpr c_22))] at h9; exact h9) (by have h9 := hv_6.2 (2 * (k2_7 / 2)) (by omega); rw [show (2 * (k2_7 / 2)) / 2 = (k2_7 / 2) by omega, show (2 * (k2_7 / 2)) % 2 = 0 by omega] at h9; exact h9) hw_28
                exact ih_7 _ (k2_7 + 1, (upd fn2_7 k2_7 r_28)) _ _ _ (by omega) ⟨rfl, ⟨by omega, la_upd (F := fun k => boV (sdM dn (sg se tm gs) ffrees fprices j_2) (fends__3 0) (dn j_2 - q_6) (bph (sdM dn (sg se tm gs) ffrees fprices j_2) (fends__3 0) (k / 2)) (k % 2)) hv_7.2 hx_7⟩, hP, hD, hS, (lv_sub hl [0, 4, 5, 6, 7] rfl)⟩
            · refine lv_iconst (v := 1) hx hb dX8_boy_159 (by decide) ?_
              refine lv_goto (tgt := 164) hx hb dX8_boy_160 (by decide) ?_
              refine lv_istore (lv' := [(6, .int 1), (5, .int (nI (k2_7 / 2))), (4, .int (nI k2_7)), (3, .int (nI q_6)), (2, .int (nI (dn j_2))), (0, .ref (a 0)), (1, .int (nI j_2))]) hx hb dX8_boy_164 hl (by decide) rfl (fun ls hl => ?_)
              refine lv_aload_n hx hb dX8_boy_166 rfl (lv_at hl 5 rfl) ?_
              refine va_get (D := D) (ci := 8) (v := .ref (a 33)) (C := RX8) (T := TX8) (N := 44) hx hb hts inX8 hown hK hP 2 rfl rfl 32 (by decide) (hts _ tw_1005) (fun _ h9 => h9) rfl dX8_boy_167 ?_
              refine lv_iconst (v := 2) hx hb dX8_boy_170 (by decide) ?_
              refine lv_iload hx hb dX8_boy_171 (lv_at hl 0 rfl) ?_
              refine lv_if_eq (tgt := 180) hx hb dX8_boy_173 (by decide) (fun h => absurd h (by decide)) (fun _ => ?_)
              refine lv_iload_n hx hb dX8_boy_176 rfl (lv_at hl 3 rfl) ?_
              refine lv_goto (tgt := 182) hx hb dX8_boy_177 (by decide) ?_
              refine lv_imul hx hb dX8_boy_182 ?_
              refine lv_ti (y := (nI (2 * q_6))) (pk_mul 2 q_6) ?_
              refine lv_iconst (v := 1) hx hb dX8_boy_183 (by decide) ?_
              refine lv_iadd hx hb dX8_boy_184 ?_
              refine lv_ti (y := (nI (2 * q_6 + 1))) (nI_add (2 * q_6) 1) ?_
              refine va_iald hx hb hK hP 0 1 rfl rfl (vp_in_nI (by omega) (by decide)) dX8_boy_185 ?_
              refine lv_ti (y := (fb_6 (2 * q_6 + 1))) (by rw [nI_clamp (by omega)]) ?_
              refine lv_istore (lv' := [(7, .int (fb_6 (2 * q_6 + 1))), (6, .int 1), (5, .int (nI (k2_7 / 2))), (4, .int (nI k2_7)), (3, .int (nI q_6)), (2, .int (nI (dn j_2))), (0, .ref (a 0)), (1, .int (nI j_2))]) hx hb dX8_boy_186 hl (by decide) rfl (fun ls hl => ?_)
              refine lv_aload_n hx hb dX8_boy_188 rfl (lv_at hl 6 rfl) ?_
              refine va_get (D := D) (ci := 8) (v := .ref (a 34)) (C := RX8) (T := TX8) (N := 44) hx hb hts inX8 hown hK hP 2 rfl rfl 33 (by decide) (hts _ tw_1006) (fun _ h9 => h9) rfl dX8_boy_189 ?_
              refine lv_iload hx hb dX8_boy_192 (lv_at hl 3 rfl) ?_
              refine lv_aload_n hx hb dX8_boy_194 rfl (lv_at hl 6 rfl) ?_
              refine lv_iload_n hx hb dX8_boy_195 rfl (lv_at hl 7 rfl) ?_
              refine lv_iload_n hx hb dX8_boy_196 rfl (lv_at hl 4 rfl) ?_
              refine lv_iload hx hb dX8_boy_197 (lv_at hl 3 rfl) ?_
              refine lv_iconst (v := 2) hx hb dX8_boy_199 (by decide) ?_
              refine lv_irem hx hb dX8_boy_200 (by decide) ?_
              refine lv_ti (y := (nI (k2_7 % 2))) (pk_rem (by omega) (by decide) (by decide)) ?_
              refine lv_iconst (v := 1) hx hb dX8_boy_201 (by decide) ?_
              refine lv_icmp_ne (tgt := 209) hx hb dX8_boy_202 (by decide) (fun c_30 => ?_) (fun c_30 => ?_)
              · have c_30 : ¬ ((k2_7 % 2) = 1) := fun h => c_30 ((nI_eq (a := (k2_7 % 2)) (b := 1) (by omega) (by omega)).mpr h)
                refine lv_iconst (v := 0) hx hb dX8_boy_209 (by decide) ?_
                refine ro_i (D := D) (va_runV (As := [.int (nI j_2), .int (nI q_6), .int 0]) (rest := [.int (nI k2_7), .ref (a 34)]) ⟨hx, hb, hml, hown, hts⟩ ((n_chanceOf l D k st lo a tx t0 we rd ru rw ca fp wd nu na ts df db sd ffrees se tm gs j_2 q_6 0 (by first | assumption | omega) (by first | assumption | omega)) H.size) (cwV 3 hts (gV tw_1210 tw_1212 tw_41 tw_87 tw_1213) rfl rfl rfl (by decide +kernel) ⟨Nat.le_of_ble_eq_true rfl, Nat.le_of_ble_eq_true rfl⟩) (pV hS hAlo hlo hP hK (va_Dlo hD hAlo) hZ [2, 5, 4] (by decide) rfl (ci := 8) (q := (RX8, TX8, 44)) (q0 := 0) rfl rfl) rfl rfl hl.1 rfl (lv_room (Nat.le_of_ble_eq_true rfl)) dX8_boy_210 ⟨Nat.le_of_ble_eq_true rfl, Nat.le_of_ble_eq_true rfl⟩) hS hA hP (fun r_31 H locs hw_31 hP hS => ?_)
                try dsimp only at hw_31
                refine lv_iload hx hb dX8_boy_213 (lv_at hl 0 rfl) ?_
                refine lv_aload_n hx hb dX8_boy_215 rfl (lv_at hl 6 rfl) ?_
                refine va_get (D := D) (ci := 8) (v := .ref (a 33)) (C := RX8) (T := TX8) (N := 44) hx hb hts inX8 hown hK hP 2 rfl rfl 32 (by decide) (hts _ tw_1005) (fun _ h9 => h9) rfl dX8_boy_216 ?_
                refine lv_iconst (v := 2) hx hb dX8_boy_219 (by decide) ?_
                refine lv_iload hx hb dX8_boy_220 (lv_at hl 2 rfl) ?_
                refine lv_imul hx hb dX8_boy_222 ?_
                refine lv_ti (y := (nI (2 * (k2_7 / 2)))) (pk_mul 2 (k2_7 / 2)) ?_
                refine va_iald hx hb hK hP 0 1 rfl rfl (vp_in_nI (by omega) (by decide)) dX8_boy_223 ?_
                refine lv_ti (y := (fb_6 (2 * (k2_7 / 2)))) (by rw [nI_clamp (by omega)]) ?_
                refine ro_i (D := D) (va_runS (As := [.int r_31, .int (fb_6 (2 * q_6 + 1)), .int (fb_6 (2 * (k2_7 / 2)))]) (rest := [.int (nI k2_7), .ref (a 34)]) ⟨hx, hb, hml, hown, hts⟩ ((n_mixed l D k st lo r_31 (fb_6 (2 * q_6 + 1)) (fb_6 (2 * (k2_7 / 2)))) H.size) (va_cwS 3 hts (gS tw_1269 tw_1270 tw_87 tw_1271) rfl rfl rfl (by decide +kernel) ⟨Nat.le_of_ble_eq_true rfl, Nat.le_of_ble_eq_true rfl⟩) (pS hS hAlo hlo hP hK (va_Dlo hD hAlo) hZ [] (by decide) rfl) rfl rfl hl.1 rfl (lv_room (Nat.le_of_ble_eq_true rfl)) dX8_boy_224 ⟨Nat.le_of_ble_eq_true rfl, Nat.le_of_ble_eq_true rfl⟩) hS hA hP (fun r_32 H locs hw_32 hP hS => ?_)
                try dsimp only at hw_32
                refine va_iast hx hb hK hP hD hS 1 1 rfl rfl (vp_in_nI (by omega) (by decide)) dX8_boy_227 (fun H locs hP hD hS => ?_)
                replace hP : va_P D classes [(aI k (a 33) 50 fb_6), (aI k (a 34) 50 (upd fn2_7 (Int32.toNatClampNeg (nI k2_7)) r_32)), ((a 0), .inr (8, (fX8 a (nI tx) fp (nI t0) wd (nI we) nu na (nI rd) ts (nI ru) (nI rw) (nI ca) df db sd))), (aI k (a 1) 3 (nF dn)), (aI k (a 4) 27 (sg se tm gs)), (aI k (a 2) 72 ffrees), (aI k (a 3) 72 fprices), (aI k (a 18) 768 fons__3), (aI k (a 19) 768 fworths__3), (aI k (a 20) 5 fstarts__3), (aI k (a 21) 4 fends__3), (aZ k (a 22) 4 fgoesRound__3), (aI k (a 23) 8 fbegin__3)] H := hP
                replace hD : va_D A [(aI k (a 33) 50 fb_6), (aI k (a 34) 50 (upd fn2_7 (Int32.toNatClampNeg (nI k2_7)) r_32)), ((a 0), .inr (8, (fX8 a (nI tx) fp (nI t0) wd (nI we) nu na (nI rd) ts (nI ru) (nI rw) (nI ca) df db sd))), (aI k (a 1) 3 (nF dn)), (aI k (a 4) 27 (sg se tm gs)), (aI k (a 2) 72 ffrees), (aI k (a 3) 72 fprices), (aI k (a 18) 768 fons__3), (aI k (a 19) 768 fworths__3), (aI k (a 20) 5 fstarts__3), (aI k (a 21) 4 fends__3), (aZ k (a 22) 4 fgoesRound__3), (aI k (a 23) 8 fbegin__3)] := hD
                rw [nI_clamp (n := k2_7) (by omega)] at hP hD
                replace hP : va_P D classes [(aI k (a 33) 50 fb_6), (aI k (a 34) 50 (upd fn2_7 k2_7 r_32)), ((a 0), .inr (8, (fX8 a (nI tx) fp (nI t0) wd (nI we) nu na (nI rd) ts (nI ru) (nI rw) (nI ca) df db sd))), (aI k (a 1) 3 (nF dn)), (aI k (a 4) 27 (sg se tm gs)), (aI k (a 2) 72 ffrees), (aI k (a 3) 72 fprices), (aI k (a 18) 768 fons__3), (aI k (a 19) 768 fworths__3), (aI k (a 20) 5 fstarts__3), (aI k (a 21) 4 fends__3), (aZ k (a 22) 4 fgoesRound__3), (aI k (a 23) 8 fbegin__3)] H := hP
                replace hD : va_D A [(aI k (a 33) 50 fb_6), (aI k (a 34) 50 (upd fn2_7 k2_7 r_32)), ((a 0), .inr (8, (fX8 a (nI tx) fp (nI t0) wd (nI we) nu na (nI rd) ts (nI ru) (nI rw) (nI ca) df db sd))), (aI k (a 1) 3 (nF dn)), (aI k (a 4) 27 (sg se tm gs)), (aI k (a 2) 72 ffrees), (aI k (a 3) 72 fprices), (aI k (a 18) 768 fons__3), (aI k (a 19) 768 fworths__3), (aI k (a 20) 5 fstarts__3), (aI k (a 21) 4 fends__3), (aZ k (a 22) 4 fgoesRound__3), (aI k (a 23) 8 fbegin__3)] := hD
                refine lv_iinc (v := (nI (k2_7 + 1))) (lv' := [(4, .int (nI (k2_7 + 1))), (7, .int (fb_6 (2 * q_6 + 1))), (6, .int 1), (5, .int (nI (k2_7 / 2))), (3, .int (nI q_6)), (2, .int (nI (dn j_2))), (0, .ref (a 0)), (1, .int (nI j_2))]) hx hb dX8_boy_228 hl (k := 3) rfl (nI_add k2_7 1) (by decide) rfl (fun ls hl => ?_)
                refine lv_goto (tgt := 122) hx hb dX8_boy_231 (by decide) ?_
                have hx_7 := bo_v (d := (sdM dn (sg se tm gs) ffrees fprices j_2)) (E := (fends__3 0)) (b := bph (sdM dn (sg se tm gs) ffrees fprices j_2) (fends__3 0) (k2_7 / 2)) (a := k2_7 % 2) (show q_6 < dn j_2 by omega) (show _ = pChance (sdM dn (sg se tm gs) ffrees fprices j_2) q_6 (nI (k2_7 % 2)) from by rw [show k2_7 % 2 = 0 by omega]; exact hw_31.trans (mChance (fpr := fprices) (show q_6 < dn j_2 by omega))) (by have h9 := hv_6.2 (2 * q_6 + 1) (by omega); rw [show (2 * q_6 + 1) / 2 = q_6 by omega, show (2 * q_6 + 1) % 2 = 1 by omega, (bph_y (d := (sdM dn (sg se tm gs) ffrees fprices j_2)) (E := (fends__3 0)) (L := (k2_7 / 2)) (show q_6 < dn j_2 by omega) (.inr (by rw [← (show fM_taking dn se tm gs fprices j_2 q_6 0 = pTake (sdM dn (sg se tm gs) ffrees fprices j_2) 0 q_6 from mTake (dn := dn) (se := se) (tm := tm) (gs := gs) (ffr := ffrees) (fpr := fprices) (s := j_2) (r := 0) (i := q_6) (show q_6 < dn j_2 by omega)), ← (show fM_taking dn se tm gs fprices j_2 (k2_7 / 2) 0 = pTake (sdM dn (sg se tm gs) ffrees fprices j_2) 0 (k2_7 / 2) from mTake (dn := dn) (se := se) (tm := tm) (gs := gs) (ffr := ffrees) (fpr := fprices) (s := j_2) (r := 0) (i := (k2_7 / 2)) (show (k2_7 / 2) < dn j_2 by omega)), ← hw_20, ← hw_21]; exact Int32.not_le.mp c_22)))] at h9; exact h9) (by have h9 := hv_6.2 (2 * (k2_7 / 2)) (by omega); rw [show (2 * (k2_7 / 2)) / 2 = (k2_7 / 2) by omega, show (2 * (k2_7 / 2)) % 2 = 0 by omega] at h9; exact h9) hw_32
                exact ih_7 _ (k2_7 + 1, (upd fn2_7 k2_7 r_32)) _ _ _ (by omega) ⟨rfl, ⟨by omega, la_upd (F := fun k => boV (sdM dn (sg se tm gs) ffrees fprices j_2) (fends__3 0) (dn j_2 - q_6) (bph (sdM dn (sg se tm gs) ffrees fprices j_2) (fends__3 0) (k / 2)) (k % 2)) hv_7.2 hx_7⟩, hP, hD, hS, (lv_sub hl [0, 4, 5, 6, 7] rfl)⟩
              · have c_30 := (nI_eq (a := (k2_7 % 2)) (b := 1) (by omega) (by omega)).mp c_30
                refine lv_iconst (v := 1) hx hb dX8_boy_205 (by decide) ?_
                refine lv_goto (tgt := 210) hx hb dX8_boy_206 (by decide) ?_
                refine ro_i (D := D) (va_runV (As := [.int (nI j_2), .int (nI q_6), .int 1]) (rest := [.int (nI k2_7), .ref (a 34)]) ⟨hx, hb, hml, hown, hts⟩ ((n_chanceOf l D k st lo a tx t0 we rd ru rw ca fp wd nu na ts df db sd ffrees se tm gs j_2 q_6 1 (by first | assumption | omega) (by first | assumption | omega)) H.size) (cwV 3 hts (gV tw_1210 tw_1212 tw_41 tw_87 tw_1213) rfl rfl rfl (by decide +kernel) ⟨Nat.le_of_ble_eq_true rfl, Nat.le_of_ble_eq_true rfl⟩) (pV hS hAlo hlo hP hK (va_Dlo hD hAlo) hZ [2, 5, 4] (by decide) rfl (ci := 8) (q := (RX8, TX8, 44)) (q0 := 0) rfl rfl) rfl rfl hl.1 rfl (lv_room (Nat.le_of_ble_eq_true rfl)) dX8_boy_210 ⟨Nat.le_of_ble_eq_true rfl, Nat.le_of_ble_eq_true rfl⟩) hS hA hP (fun r_34 H locs hw_34 hP hS => ?_)
                try dsimp only at hw_34
                refine lv_iload hx hb dX8_boy_213 (lv_at hl 0 rfl) ?_
                refine lv_aload_n hx hb dX8_boy_215 rfl (lv_at hl 6 rfl) ?_
                refine va_get (D := D) (ci := 8) (v := .ref (a 33)) (C := RX8) (T := TX8) (N := 44) hx hb hts inX8 hown hK hP 2 rfl rfl 32 (by decide) (hts _ tw_1005) (fun _ h9 => h9) rfl dX8_boy_216 ?_
                refine lv_iconst (v := 2) hx hb dX8_boy_219 (by decide) ?_
                refine lv_iload hx hb dX8_boy_220 (lv_at hl 2 rfl) ?_
                refine lv_imul hx hb dX8_boy_222 ?_
                refine lv_ti (y := (nI (2 * (k2_7 / 2)))) (pk_mul 2 (k2_7 / 2)) ?_
                refine va_iald hx hb hK hP 0 1 rfl rfl (vp_in_nI (by omega) (by decide)) dX8_boy_223 ?_
                refine lv_ti (y := (fb_6 (2 * (k2_7 / 2)))) (by rw [nI_clamp (by omega)]) ?_
                refine ro_i (D := D) (va_runS (As := [.int r_34, .int (fb_6 (2 * q_6 + 1)), .int (fb_6 (2 * (k2_7 / 2)))]) (rest := [.int (nI k2_7), .ref (a 34)]) ⟨hx, hb, hml, hown, hts⟩ ((n_mixed l D k st lo r_34 (fb_6 (2 * q_6 + 1)) (fb_6 (2 * (k2_7 / 2)))) H.size) (va_cwS 3 hts (gS tw_1269 tw_1270 tw_87 tw_1271) rfl rfl rfl (by decide +kernel) ⟨Nat.le_of_ble_eq_true rfl, Nat.le_of_ble_eq_true rfl⟩) (pS hS hAlo hlo hP hK (va_Dlo hD hAlo) hZ [] (by decide) rfl) rfl rfl hl.1 rfl (lv_room (Nat.le_of_ble_eq_true rfl)) dX8_boy_224 ⟨Nat.le_of_ble_eq_true rfl, Nat.le_of_ble_eq_true rfl⟩) hS hA hP (fun r_35 H locs hw_35 hP hS => ?_)
                try dsimp only at hw_35
                refine va_iast hx hb hK hP hD hS 1 1 rfl rfl (vp_in_nI (by omega) (by decide)) dX8_boy_227 (fun H locs hP hD hS => ?_)
                replace hP : va_P D classes [(aI k (a 33) 50 fb_6), (aI k (a 34) 50 (upd fn2_7 (Int32.toNatClampNeg (nI k2_7)) r_35)), ((a 0), .inr (8, (fX8 a (nI tx) fp (nI t0) wd (nI we) nu na (nI rd) ts (nI ru) (nI rw) (nI ca) df db sd))), (aI k (a 1) 3 (nF dn)), (aI k (a 4) 27 (sg se tm gs)), (aI k (a 2) 72 ffrees), (aI k (a 3) 72 fprices), (aI k (a 18) 768 fons__3), (aI k (a 19) 768 fworths__3), (aI k (a 20) 5 fstarts__3), (aI k (a 21) 4 fends__3), (aZ k (a 22) 4 fgoesRound__3), (aI k (a 23) 8 fbegin__3)] H := hP
                replace hD : va_D A [(aI k (a 33) 50 fb_6), (aI k (a 34) 50 (upd fn2_7 (Int32.toNatClampNeg (nI k2_7)) r_35)), ((a 0), .inr (8, (fX8 a (nI tx) fp (nI t0) wd (nI we) nu na (nI rd) ts (nI ru) (nI rw) (nI ca) df db sd))), (aI k (a 1) 3 (nF dn)), (aI k (a 4) 27 (sg se tm gs)), (aI k (a 2) 72 ffrees), (aI k (a 3) 72 fprices), (aI k (a 18) 768 fons__3), (aI k (a 19) 768 fworths__3), (aI k (a 20) 5 fstarts__3), (aI k (a 21) 4 fends__3), (aZ k (a 22) 4 fgoesRound__3), (aI k (a 23) 8 fbegin__3)] := hD
                rw [nI_clamp (n := k2_7) (by omega)] at hP hD
                replace hP : va_P D classes [(aI k (a 33) 50 fb_6), (aI k (a 34) 50 (upd fn2_7 k2_7 r_35)), ((a 0), .inr (8, (fX8 a (nI tx) fp (nI t0) wd (nI we) nu na (nI rd) ts (nI ru) (nI rw) (nI ca) df db sd))), (aI k (a 1) 3 (nF dn)), (aI k (a 4) 27 (sg se tm gs)), (aI k (a 2) 72 ffrees), (aI k (a 3) 72 fprices), (aI k (a 18) 768 fons__3), (aI k (a 19) 768 fworths__3), (aI k (a 20) 5 fstarts__3), (aI k (a 21) 4 fends__3), (aZ k (a 22) 4 fgoesRound__3), (aI k (a 23) 8 fbegin__3)] H := hP
                replace hD : va_D A [(aI k (a 33) 50 fb_6), (aI k (a 34) 50 (upd fn2_7 k2_7 r_35)), ((a 0), .inr (8, (fX8 a (nI tx) fp (nI t0) wd (nI we) nu na (nI rd) ts (nI ru) (nI rw) (nI ca) df db sd))), (aI k (a 1) 3 (nF dn)), (aI k (a 4) 27 (sg se tm gs)), (aI k (a 2) 72 ffrees), (aI k (a 3) 72 fprices), (aI k (a 18) 768 fons__3), (aI k (a 19) 768 fworths__3), (aI k (a 20) 5 fstarts__3), (aI k (a 21) 4 fends__3), (aZ k (a 22) 4 fgoesRound__3), (aI k (a 23) 8 fbegin__3)] := hD
                refine lv_iinc (v := (nI (k2_7 + 1))) (lv' := [(4, .int (nI (k2_7 + 1))), (7, .int (fb_6 (2 * q_6 + 1))), (6, .int 1), (5, .int (nI (k2_7 / 2))), (3, .int (nI q_6)), (2, .int (nI (dn j_2))), (0, .ref (a 0)), (1, .int (nI j_2))]) hx hb dX8_boy_228 hl (k := 3) rfl (nI_add k2_7 1) (by decide) rfl (fun ls hl => ?_)
                refine lv_goto (tgt := 122) hx hb dX8_boy_231 (by decide) ?_
                have hx_7 := bo_v (d := (sdM dn (sg se tm gs) ffrees fprices j_2)) (E := (fends__3 0)) (b := bph (sdM dn (sg se tm gs) ffrees fprices j_2) (fends__3 0) (k2_7 / 2)) (a := k2_7 % 2) (show q_6 < dn j_2 by omega) (show _ = pChance (sdM dn (sg se tm gs) ffrees fprices j_2) q_6 (nI (k2_7 % 2)) from by rw [show k2_7 % 2 = 1 by omega]; exact hw_34.trans (mChance (fpr := fprices) (show q_6 < dn j_2 by omega))) (by have h9 := hv_6.2 (2 * q_6 + 1) (by omega); rw [show (2 * q_6 + 1) / 2 = q_6 by omega, show (2 * q_6 + 1) % 2 = 1 by omega, (bph_y (d := (sdM dn (sg se tm gs) ffrees fprices j_2)) (E := (fends__3 0)) (L := (k2_7 / 2)) (show q_6 < dn j_2 by omega) (.inr (by rw [← (show fM_taking dn se tm gs fprices j_2 q_6 0 = pTake (sdM dn (sg se tm gs) ffrees fprices j_2) 0 q_6 from mTake (dn := dn) (se := se) (tm := tm) (gs := gs) (ffr := ffrees) (fpr := fprices) (s := j_2) (r := 0) (i := q_6) (show q_6 < dn j_2 by omega)), ← (show fM_taking dn se tm gs fprices j_2 (k2_7 / 2) 0 = pTake (sdM dn (sg se tm gs) ffrees fprices j_2) 0 (k2_7 / 2) from mTake (dn := dn) (se := se) (tm := tm) (gs := gs) (ffr := ffrees) (fpr := fprices) (s := j_2) (r := 0) (i := (k2_7 / 2)) (show (k2_7 / 2) < dn j_2 by omega)), ← hw_20, ← hw_21]; exact Int32.not_le.mp c_22)))] at h9; exact h9) (by have h9 := hv_6.2 (2 * (k2_7 / 2)) (by omega); rw [show (2 * (k2_7 / 2)) / 2 = (k2_7 / 2) by omega, show (2 * (k2_7 / 2)) % 2 = 0 by omega] at h9; exact h9) hw_35
                exact ih_7 _ (k2_7 + 1, (upd fn2_7 k2_7 r_35)) _ _ _ (by omega) ⟨rfl, ⟨by omega, la_upd (F := fun k => boV (sdM dn (sg se tm gs) ffrees fprices j_2) (fends__3 0) (dn j_2 - q_6) (bph (sdM dn (sg se tm gs) ffrees fprices j_2) (fends__3 0) (k / 2)) (k % 2)) hv_7.2 hx_7⟩, hP, hD, hS, (lv_sub hl [0, 4, 5, 6, 7] rfl)⟩
    · have c_5 : ¬ (50 ≤ kk_4) := fun h => c_5 ((nI_leI (a := 50) (b := kk_4) (by omega) (by omega)).mpr h)
      refine lv_iload_n hx hb dX8_boy_32 rfl (lv_at hl 0 rfl) ?_
      refine lv_iconst (v := 2) hx hb dX8_boy_33 (by decide) ?_
      refine lv_idiv hx hb dX8_boy_34 (by decide) ?_
      refine lv_ti (y := (nI (kk_4 / 2))) (pk_div (by omega) (by decide) (by decide)) ?_
      refine lv_istore (lv' := [(4, .int (nI (kk_4 / 2))), (3, .int (nI kk_4)), (2, .int (nI (dn j_2))), (0, .ref (a 0)), (1, .int (nI j_2))]) hx hb dX8_boy_35 hl (by decide) rfl (fun ls hl => ?_)
      refine lv_iload hx hb dX8_boy_37 (lv_at hl 0 rfl) ?_
      refine lv_iload_n hx hb dX8_boy_39 rfl (lv_at hl 2 rfl) ?_
      refine lv_icmp_ge (tgt := 74) hx hb dX8_boy_40 (by decide) (fun c_37 => ?_) (fun c_37 => ?_)
      · have c_37 := (nI_leI (a := (dn j_2)) (b := (kk_4 / 2)) (by omega) (by omega)).mp c_37
        refine lv_iconst (v := 0) hx hb dX8_boy_74 (by decide) ?_
        refine lv_istore (lv' := [(5, .int 0), (4, .int (nI (kk_4 / 2))), (3, .int (nI kk_4)), (2, .int (nI (dn j_2))), (0, .ref (a 0)), (1, .int (nI j_2))]) hx hb dX8_boy_75 hl (by decide) rfl (fun ls hl => ?_)
        refine lv_aload_n hx hb dX8_boy_77 rfl (lv_at hl 4 rfl) ?_
        refine va_get (D := D) (ci := 8) (v := .ref (a 33)) (C := RX8) (T := TX8) (N := 44) hx hb hts inX8 hown hK hP 2 rfl rfl 32 (by decide) (hts _ tw_1005) (fun _ h9 => h9) rfl dX8_boy_78 ?_
        refine lv_iload_n hx hb dX8_boy_81 rfl (lv_at hl 2 rfl) ?_
        refine lv_iload hx hb dX8_boy_82 (lv_at hl 0 rfl) ?_
        refine lv_if_eq (tgt := 98) hx hb dX8_boy_84 (by decide) (fun _ => ?_) (fun h => absurd (by decide) h)
        refine lv_aload_n hx hb dX8_boy_98 rfl (lv_at hl 4 rfl) ?_
        refine va_get (D := D) (ci := 8) (v := .ref (a 21)) (C := RX8) (T := TX8) (N := 44) hx hb hts inX8 hown hK hP 2 rfl rfl 20 (by decide) (hts _ tw_993) (fun _ h9 => h9) rfl dX8_boy_99 ?_
        refine lv_iconst (v := 0) hx hb dX8_boy_102 (by decide) ?_
        refine va_iald hx hb hK hP 10 1 rfl rfl (by unfold vp_in; decide) dX8_boy_103 ?_
        refine lv_ti (y := (fends__3 0)) (by rfl) ?_
        refine va_iast hx hb hK hP hD hS 0 1 rfl rfl (vp_in_nI (by omega) (by decide)) dX8_boy_104 (fun H locs hP hD hS => ?_)
        replace hP : va_P D classes [(aI k (a 33) 50 (upd fb_4 (Int32.toNatClampNeg (nI kk_4)) (fends__3 0))), (aI k (a 34) 50 fboysNext), ((a 0), .inr (8, (fX8 a (nI tx) fp (nI t0) wd (nI we) nu na (nI rd) ts (nI ru) (nI rw) (nI ca) df db sd))), (aI k (a 1) 3 (nF dn)), (aI k (a 4) 27 (sg se tm gs)), (aI k (a 2) 72 ffrees), (aI k (a 3) 72 fprices), (aI k (a 18) 768 fons__3), (aI k (a 19) 768 fworths__3), (aI k (a 20) 5 fstarts__3), (aI k (a 21) 4 fends__3), (aZ k (a 22) 4 fgoesRound__3), (aI k (a 23) 8 fbegin__3)] H := hP
        replace hD : va_D A [(aI k (a 33) 50 (upd fb_4 (Int32.toNatClampNeg (nI kk_4)) (fends__3 0))), (aI k (a 34) 50 fboysNext), ((a 0), .inr (8, (fX8 a (nI tx) fp (nI t0) wd (nI we) nu na (nI rd) ts (nI ru) (nI rw) (nI ca) df db sd))), (aI k (a 1) 3 (nF dn)), (aI k (a 4) 27 (sg se tm gs)), (aI k (a 2) 72 ffrees), (aI k (a 3) 72 fprices), (aI k (a 18) 768 fons__3), (aI k (a 19) 768 fworths__3), (aI k (a 20) 5 fstarts__3), (aI k (a 21) 4 fends__3), (aZ k (a 22) 4 fgoesRound__3), (aI k (a 23) 8 fbegin__3)] := hD
        rw [nI_clamp (n := kk_4) (by omega)] at hP hD
        replace hP : va_P D classes [(aI k (a 33) 50 (upd fb_4 kk_4 (fends__3 0))), (aI k (a 34) 50 fboysNext), ((a 0), .inr (8, (fX8 a (nI tx) fp (nI t0) wd (nI we) nu na (nI rd) ts (nI ru) (nI rw) (nI ca) df db sd))), (aI k (a 1) 3 (nF dn)), (aI k (a 4) 27 (sg se tm gs)), (aI k (a 2) 72 ffrees), (aI k (a 3) 72 fprices), (aI k (a 18) 768 fons__3), (aI k (a 19) 768 fworths__3), (aI k (a 20) 5 fstarts__3), (aI k (a 21) 4 fends__3), (aZ k (a 22) 4 fgoesRound__3), (aI k (a 23) 8 fbegin__3)] H := hP
        replace hD : va_D A [(aI k (a 33) 50 (upd fb_4 kk_4 (fends__3 0))), (aI k (a 34) 50 fboysNext), ((a 0), .inr (8, (fX8 a (nI tx) fp (nI t0) wd (nI we) nu na (nI rd) ts (nI ru) (nI rw) (nI ca) df db sd))), (aI k (a 1) 3 (nF dn)), (aI k (a 4) 27 (sg se tm gs)), (aI k (a 2) 72 ffrees), (aI k (a 3) 72 fprices), (aI k (a 18) 768 fons__3), (aI k (a 19) 768 fworths__3), (aI k (a 20) 5 fstarts__3), (aI k (a 21) 4 fends__3), (aZ k (a 22) 4 fgoesRound__3), (aI k (a 23) 8 fbegin__3)] := hD
        refine lv_iinc (v := (nI (kk_4 + 1))) (lv' := [(3, .int (nI (kk_4 + 1))), (5, .int 0), (4, .int (nI (kk_4 / 2))), (2, .int (nI (dn j_2))), (0, .ref (a 0)), (1, .int (nI j_2))]) hx hb dX8_boy_105 hl (k := 2) rfl (nI_add kk_4 1) (by decide) rfl (fun ls hl => ?_)
        refine lv_goto (tgt := 26) hx hb dX8_boy_108 (by decide) ?_
        exact ih_4 _ (kk_4 + 1, (upd fb_4 kk_4 (fends__3 0))) _ _ _ (by omega) ⟨rfl, ⟨by omega, la_upd (F := fun k => boV (sdM dn (sg se tm gs) ffrees fprices j_2) (fends__3 0) 0 (bph (sdM dn (sg se tm gs) ffrees fprices j_2) (fends__3 0) (k / 2)) (k % 2)) hv_4.2 (bo_0 (by rw [bph_0 (fun q => absurd (show kk_4 / 2 < dn j_2 from q.1) (by omega))]; rfl))⟩, hP, hD, hS, (lv_sub hl [0, 3, 4, 5] rfl)⟩
      · have c_37 : ¬ ((dn j_2) ≤ (kk_4 / 2)) := fun h => c_37 ((nI_leI (a := (dn j_2)) (b := (kk_4 / 2)) (by omega) (by omega)).mpr h)
        refine lv_aload_n hx hb dX8_boy_43 rfl (lv_at hl 3 rfl) ?_
        refine lv_iload_n hx hb dX8_boy_44 rfl (lv_at hl 4 rfl) ?_
        refine lv_iconst (v := 0) hx hb dX8_boy_45 (by decide) ?_
        refine lv_iload hx hb dX8_boy_46 (lv_at hl 0 rfl) ?_
        refine lv_iload_n hx hb dX8_boy_48 rfl (lv_at hl 2 rfl) ?_
        refine lv_icmp_ge (tgt := 57) hx hb dX8_boy_49 (by decide) (fun h => absurd ((nI_leI (a := (dn j_2)) (b := (kk_4 / 2)) (by omega) (by omega)).mp h) (by omega)) (fun _ => ?_)
        refine lv_iload hx hb dX8_boy_52 (lv_at hl 0 rfl) ?_
        refine lv_goto (tgt := 58) hx hb dX8_boy_54 (by decide) ?_
        refine ro_i (D := D) (va_runV (As := [.int (nI j_2), .int 0, .int (nI (kk_4 / 2))]) (rest := []) ⟨hx, hb, hml, hown, hts⟩ ((n_takingOf l D k st lo a tx t0 we rd ru rw ca fp wd nu na ts df db sd dn se tm gs fprices j_2 (kk_4 / 2) 0 (by first | assumption | omega) (by first | assumption | omega)) H.size) (cwV 3 hts (gV tw_1222 tw_1224 tw_43 tw_87 tw_1225) rfl rfl rfl (by decide +kernel) ⟨Nat.le_of_ble_eq_true rfl, Nat.le_of_ble_eq_true rfl⟩) (pV hS hAlo hlo hP hK (va_Dlo hD hAlo) hZ [2, 3, 4, 6] (by decide) rfl (ci := 8) (q := (RX8, TX8, 44)) (q0 := 0) rfl rfl) rfl rfl hl.1 rfl (lv_room (Nat.le_of_ble_eq_true rfl)) dX8_boy_58 ⟨Nat.le_of_ble_eq_true rfl, Nat.le_of_ble_eq_true rfl⟩) hS hA hP (fun r_40 H locs hw_40 hP hS => ?_)
        try dsimp only at hw_40
        refine lv_aload_n hx hb dX8_boy_61 rfl (lv_at hl 3 rfl) ?_
        refine va_get (D := D) (ci := 8) (v := .ref (a 21)) (C := RX8) (T := TX8) (N := 44) hx hb hts inX8 hown hK hP 2 rfl rfl 20 (by decide) (hts _ tw_993) (fun _ h9 => h9) rfl dX8_boy_62 ?_
        refine lv_iconst (v := 0) hx hb dX8_boy_65 (by decide) ?_
        refine va_iald hx hb hK hP 10 1 rfl rfl (by unfold vp_in; decide) dX8_boy_66 ?_
        refine lv_ti (y := (fends__3 0)) (by rfl) ?_
        refine lv_icmp_ge (tgt := 74) hx hb dX8_boy_67 (by decide) (fun c_41 => ?_) (fun c_41 => ?_)
        · refine lv_iconst (v := 0) hx hb dX8_boy_74 (by decide) ?_
          refine lv_istore (lv' := [(5, .int 0), (4, .int (nI (kk_4 / 2))), (3, .int (nI kk_4)), (2, .int (nI (dn j_2))), (0, .ref (a 0)), (1, .int (nI j_2))]) hx hb dX8_boy_75 hl (by decide) rfl (fun ls hl => ?_)
          refine lv_aload_n hx hb dX8_boy_77 rfl (lv_at hl 4 rfl) ?_
          refine va_get (D := D) (ci := 8) (v := .ref (a 33)) (C := RX8) (T := TX8) (N := 44) hx hb hts inX8 hown hK hP 2 rfl rfl 32 (by decide) (hts _ tw_1005) (fun _ h9 => h9) rfl dX8_boy_78 ?_
          refine lv_iload_n hx hb dX8_boy_81 rfl (lv_at hl 2 rfl) ?_
          refine lv_iload hx hb dX8_boy_82 (lv_at hl 0 rfl) ?_
          refine lv_if_eq (tgt := 98) hx hb dX8_boy_84 (by decide) (fun _ => ?_) (fun h => absurd (by decide) h)
          refine lv_aload_n hx hb dX8_boy_98 rfl (lv_at hl 4 rfl) ?_
          refine va_get (D := D) (ci := 8) (v := .ref (a 21)) (C := RX8) (T := TX8) (N := 44) hx hb hts inX8 hown hK hP 2 rfl rfl 20 (by decide) (hts _ tw_993) (fun _ h9 => h9) rfl dX8_boy_99 ?_
          refine lv_iconst (v := 0) hx hb dX8_boy_102 (by decide) ?_
          refine va_iald hx hb hK hP 10 1 rfl rfl (by unfold vp_in; decide) dX8_boy_103 ?_
          refine lv_ti (y := (fends__3 0)) (by rfl) ?_
          refine va_iast hx hb hK hP hD hS 0 1 rfl rfl (vp_in_nI (by omega) (by decide)) dX8_boy_104 (fun H locs hP hD hS => ?_)
          replace hP : va_P D classes [(aI k (a 33) 50 (upd fb_4 (Int32.toNatClampNeg (nI kk_4)) (fends__3 0))), (aI k (a 34) 50 fboysNext), ((a 0), .inr (8, (fX8 a (nI tx) fp (nI t0) wd (nI we) nu na (nI rd) ts (nI ru) (nI rw) (nI ca) df db sd))), (aI k (a 1) 3 (nF dn)), (aI k (a 4) 27 (sg se tm gs)), (aI k (a 2) 72 ffrees), (aI k (a 3) 72 fprices), (aI k (a 18) 768 fons__3), (aI k (a 19) 768 fworths__3), (aI k (a 20) 5 fstarts__3), (aI k (a 21) 4 fends__3), (aZ k (a 22) 4 fgoesRound__3), (aI k (a 23) 8 fbegin__3)] H := hP
          replace hD : va_D A [(aI k (a 33) 50 (upd fb_4 (Int32.toNatClampNeg (nI kk_4)) (fends__3 0))), (aI k (a 34) 50 fboysNext), ((a 0), .inr (8, (fX8 a (nI tx) fp (nI t0) wd (nI we) nu na (nI rd) ts (nI ru) (nI rw) (nI ca) df db sd))), (aI k (a 1) 3 (nF dn)), (aI k (a 4) 27 (sg se tm gs)), (aI k (a 2) 72 ffrees), (aI k (a 3) 72 fprices), (aI k (a 18) 768 fons__3), (aI k (a 19) 768 fworths__3), (aI k (a 20) 5 fstarts__3), (aI k (a 21) 4 fends__3), (aZ k (a 22) 4 fgoesRound__3), (aI k (a 23) 8 fbegin__3)] := hD
          rw [nI_clamp (n := kk_4) (by omega)] at hP hD
          replace hP : va_P D classes [(aI k (a 33) 50 (upd fb_4 kk_4 (fends__3 0))), (aI k (a 34) 50 fboysNext), ((a 0), .inr (8, (fX8 a (nI tx) fp (nI t0) wd (nI we) nu na (nI rd) ts (nI ru) (nI rw) (nI ca) df db sd))), (aI k (a 1) 3 (nF dn)), (aI k (a 4) 27 (sg se tm gs)), (aI k (a 2) 72 ffrees), (aI k (a 3) 72 fprices), (aI k (a 18) 768 fons__3), (aI k (a 19) 768 fworths__3), (aI k (a 20) 5 fstarts__3), (aI k (a 21) 4 fends__3), (aZ k (a 22) 4 fgoesRound__3), (aI k (a 23) 8 fbegin__3)] H := hP
          replace hD : va_D A [(aI k (a 33) 50 (upd fb_4 kk_4 (fends__3 0))), (aI k (a 34) 50 fboysNext), ((a 0), .inr (8, (fX8 a (nI tx) fp (nI t0) wd (nI we) nu na (nI rd) ts (nI ru) (nI rw) (nI ca) df db sd))), (aI k (a 1) 3 (nF dn)), (aI k (a 4) 27 (sg se tm gs)), (aI k (a 2) 72 ffrees), (aI k (a 3) 72 fprices), (aI k (a 18) 768 fons__3), (aI k (a 19) 768 fworths__3), (aI k (a 20) 5 fstarts__3), (aI k (a 21) 4 fends__3), (aZ k (a 22) 4 fgoesRound__3), (aI k (a 23) 8 fbegin__3)] := hD
          refine lv_iinc (v := (nI (kk_4 + 1))) (lv' := [(3, .int (nI (kk_4 + 1))), (5, .int 0), (4, .int (nI (kk_4 / 2))), (2, .int (nI (dn j_2))), (0, .ref (a 0)), (1, .int (nI j_2))]) hx hb dX8_boy_105 hl (k := 2) rfl (nI_add kk_4 1) (by decide) rfl (fun ls hl => ?_)
          refine lv_goto (tgt := 26) hx hb dX8_boy_108 (by decide) ?_
          exact ih_4 _ (kk_4 + 1, (upd fb_4 kk_4 (fends__3 0))) _ _ _ (by omega) ⟨rfl, ⟨by omega, la_upd (F := fun k => boV (sdM dn (sg se tm gs) ffrees fprices j_2) (fends__3 0) 0 (bph (sdM dn (sg se tm gs) ffrees fprices j_2) (fends__3 0) (k / 2)) (k % 2)) hv_4.2 (bo_0 (by rw [bph_0 (fun q => absurd q.2 (by rw [← (show fM_taking dn se tm gs fprices j_2 (kk_4 / 2) 0 = pTake (sdM dn (sg se tm gs) ffrees fprices j_2) 0 (kk_4 / 2) from mTake (dn := dn) (se := se) (tm := tm) (gs := gs) (ffr := ffrees) (fpr := fprices) (s := j_2) (r := 0) (i := (kk_4 / 2)) (show (kk_4 / 2) < dn j_2 by omega)), ← hw_40]; exact Int32.not_lt.mpr c_41))]; rfl))⟩, hP, hD, hS, (lv_sub hl [0, 3, 4, 5] rfl)⟩
        · refine lv_iconst (v := 1) hx hb dX8_boy_70 (by decide) ?_
          refine lv_goto (tgt := 75) hx hb dX8_boy_71 (by decide) ?_
          refine lv_istore (lv' := [(5, .int 1), (4, .int (nI (kk_4 / 2))), (3, .int (nI kk_4)), (2, .int (nI (dn j_2))), (0, .ref (a 0)), (1, .int (nI j_2))]) hx hb dX8_boy_75 hl (by decide) rfl (fun ls hl => ?_)
          refine lv_aload_n hx hb dX8_boy_77 rfl (lv_at hl 4 rfl) ?_
          refine va_get (D := D) (ci := 8) (v := .ref (a 33)) (C := RX8) (T := TX8) (N := 44) hx hb hts inX8 hown hK hP 2 rfl rfl 32 (by decide) (hts _ tw_1005) (fun _ h9 => h9) rfl dX8_boy_78 ?_
          refine lv_iload_n hx hb dX8_boy_81 rfl (lv_at hl 2 rfl) ?_
          refine lv_iload hx hb dX8_boy_82 (lv_at hl 0 rfl) ?_
          refine lv_if_eq (tgt := 98) hx hb dX8_boy_84 (by decide) (fun h => absurd h (by decide)) (fun _ => ?_)
          refine lv_aload_n hx hb dX8_boy_87 rfl (lv_at hl 4 rfl) ?_
          refine lv_iload_n hx hb dX8_boy_88 rfl (lv_at hl 5 rfl) ?_
          refine lv_iconst (v := 0) hx hb dX8_boy_89 (by decide) ?_
          refine lv_iload hx hb dX8_boy_90 (lv_at hl 1 rfl) ?_
          refine ro_i (D := D) (va_runV (As := [.int (nI j_2), .int 0, .int (nI (kk_4 / 2))]) (rest := [.int (nI kk_4), .ref (a 33)]) ⟨hx, hb, hml, hown, hts⟩ ((n_takingOf l D k st lo a tx t0 we rd ru rw ca fp wd nu na ts df db sd dn se tm gs fprices j_2 (kk_4 / 2) 0 (by first | assumption | omega) (by first | assumption | omega)) H.size) (cwV 3 hts (gV tw_1222 tw_1224 tw_43 tw_87 tw_1225) rfl rfl rfl (by decide +kernel) ⟨Nat.le_of_ble_eq_true rfl, Nat.le_of_ble_eq_true rfl⟩) (pV hS hAlo hlo hP hK (va_Dlo hD hAlo) hZ [2, 3, 4, 6] (by decide) rfl (ci := 8) (q := (RX8, TX8, 44)) (q0 := 0) rfl rfl) rfl rfl hl.1 rfl (lv_room (Nat.le_of_ble_eq_true rfl)) dX8_boy_92 ⟨Nat.le_of_ble_eq_true rfl, Nat.le_of_ble_eq_true rfl⟩) hS hA hP (fun r_43 H locs hw_43 hP hS => ?_)
          try dsimp only at hw_43
          refine lv_goto (tgt := 104) hx hb dX8_boy_95 (by decide) ?_
          refine va_iast hx hb hK hP hD hS 0 1 rfl rfl (vp_in_nI (by omega) (by decide)) dX8_boy_104 (fun H locs hP hD hS => ?_)
          replace hP : va_P D classes [(aI k (a 33) 50 (upd fb_4 (Int32.toNatClampNeg (nI kk_4)) r_43)), (aI k (a 34) 50 fboysNext), ((a 0), .inr (8, (fX8 a (nI tx) fp (nI t0) wd (nI we) nu na (nI rd) ts (nI ru) (nI rw) (nI ca) df db sd))), (aI k (a 1) 3 (nF dn)), (aI k (a 4) 27 (sg se tm gs)), (aI k (a 2) 72 ffrees), (aI k (a 3) 72 fprices), (aI k (a 18) 768 fons__3), (aI k (a 19) 768 fworths__3), (aI k (a 20) 5 fstarts__3), (aI k (a 21) 4 fends__3), (aZ k (a 22) 4 fgoesRound__3), (aI k (a 23) 8 fbegin__3)] H := hP
          replace hD : va_D A [(aI k (a 33) 50 (upd fb_4 (Int32.toNatClampNeg (nI kk_4)) r_43)), (aI k (a 34) 50 fboysNext), ((a 0), .inr (8, (fX8 a (nI tx) fp (nI t0) wd (nI we) nu na (nI rd) ts (nI ru) (nI rw) (nI ca) df db sd))), (aI k (a 1) 3 (nF dn)), (aI k (a 4) 27 (sg se tm gs)), (aI k (a 2) 72 ffrees), (aI k (a 3) 72 fprices), (aI k (a 18) 768 fons__3), (aI k (a 19) 768 fworths__3), (aI k (a 20) 5 fstarts__3), (aI k (a 21) 4 fends__3), (aZ k (a 22) 4 fgoesRound__3), (aI k (a 23) 8 fbegin__3)] := hD
          rw [nI_clamp (n := kk_4) (by omega)] at hP hD
          replace hP : va_P D classes [(aI k (a 33) 50 (upd fb_4 kk_4 r_43)), (aI k (a 34) 50 fboysNext), ((a 0), .inr (8, (fX8 a (nI tx) fp (nI t0) wd (nI we) nu na (nI rd) ts (nI ru) (nI rw) (nI ca) df db sd))), (aI k (a 1) 3 (nF dn)), (aI k (a 4) 27 (sg se tm gs)), (aI k (a 2) 72 ffrees), (aI k (a 3) 72 fprices), (aI k (a 18) 768 fons__3), (aI k (a 19) 768 fworths__3), (aI k (a 20) 5 fstarts__3), (aI k (a 21) 4 fends__3), (aZ k (a 22) 4 fgoesRound__3), (aI k (a 23) 8 fbegin__3)] H := hP
          replace hD : va_D A [(aI k (a 33) 50 (upd fb_4 kk_4 r_43)), (aI k (a 34) 50 fboysNext), ((a 0), .inr (8, (fX8 a (nI tx) fp (nI t0) wd (nI we) nu na (nI rd) ts (nI ru) (nI rw) (nI ca) df db sd))), (aI k (a 1) 3 (nF dn)), (aI k (a 4) 27 (sg se tm gs)), (aI k (a 2) 72 ffrees), (aI k (a 3) 72 fprices), (aI k (a 18) 768 fons__3), (aI k (a 19) 768 fworths__3), (aI k (a 20) 5 fstarts__3), (aI k (a 21) 4 fends__3), (aZ k (a 22) 4 fgoesRound__3), (aI k (a 23) 8 fbegin__3)] := hD
          refine lv_iinc (v := (nI (kk_4 + 1))) (lv' := [(3, .int (nI (kk_4 + 1))), (5, .int 1), (4, .int (nI (kk_4 / 2))), (2, .int (nI (dn j_2))), (0, .ref (a 0)), (1, .int (nI j_2))]) hx hb dX8_boy_105 hl (k := 2) rfl (nI_add kk_4 1) (by decide) rfl (fun ls hl => ?_)
          refine lv_goto (tgt := 26) hx hb dX8_boy_108 (by decide) ?_
          exact ih_4 _ (kk_4 + 1, (upd fb_4 kk_4 r_43)) _ _ _ (by omega) ⟨rfl, ⟨by omega, la_upd (F := fun k => boV (sdM dn (sg se tm gs) ffrees fprices j_2) (fends__3 0) 0 (bph (sdM dn (sg se tm gs) ffrees fprices j_2) (fends__3 0) (k / 2)) (k % 2)) hv_4.2 (bo_0 (by rw [bph_1 (show kk_4 / 2 < dn j_2 by omega) (by rw [← (show fM_taking dn se tm gs fprices j_2 (kk_4 / 2) 0 = pTake (sdM dn (sg se tm gs) ffrees fprices j_2) 0 (kk_4 / 2) from mTake (dn := dn) (se := se) (tm := tm) (gs := gs) (ffr := ffrees) (fpr := fprices) (s := j_2) (r := 0) (i := (kk_4 / 2)) (show (kk_4 / 2) < dn j_2 by omega)), ← hw_40]; exact Int32.not_le.mp c_41)]; exact hw_43.trans (show fM_taking dn se tm gs fprices j_2 (kk_4 / 2) 0 = pTake (sdM dn (sg se tm gs) ffrees fprices j_2) 0 (kk_4 / 2) from mTake (dn := dn) (se := se) (tm := tm) (gs := gs) (ffr := ffrees) (fpr := fprices) (s := j_2) (r := 0) (i := (kk_4 / 2)) (show (kk_4 / 2) < dn j_2 by omega))))⟩, hP, hD, hS, (lv_sub hl [0, 3, 4, 5] rfl)⟩
  · refine lv_if_ne (tgt := 12) hx hb dX8_boy_5 (by decide) (fun h => absurd (by decide) h) (fun _ => ?_)
    refine lv_sipush (v := (-1001)) hx hb dX8_boy_8 (by decide) ?_
    have hP9 := hP.sub (ws' := [((a 0), .inr (8, (fX8 a (nI tx) fp (nI t0) wd (nI we) nu na (nI rd) ts (nI ru) (nI rw) (nI ca) df db sd))), (aI k (a 1) 3 (nF dn)), (aI k (a 4) 27 (sg se tm gs)), (aI k (a 2) 72 ffrees), (aI k (a 3) 72 fprices), (aI k (a 18) 768 fons), (aI k (a 19) 768 fworths), (aI k (a 20) 5 fstarts), (aI k (a 21) 4 fends), (aZ k (a 22) 4 fgoesRound), (aI k (a 23) 8 fbegin), (aI k (a 33) 50 fboys), (aI k (a 34) 50 fboysNext)]) [0, 1, 2, 3, 4, 5, 6, 7, 8, 9, 10, 11, 12] rfl
    have hD9 := hD.sub (ws' := [((a 0), .inr (8, (fX8 a (nI tx) fp (nI t0) wd (nI we) nu na (nI rd) ts (nI ru) (nI rw) (nI ca) df db sd))), (aI k (a 1) 3 (nF dn)), (aI k (a 4) 27 (sg se tm gs)), (aI k (a 2) 72 ffrees), (aI k (a 3) 72 fprices), (aI k (a 18) 768 fons), (aI k (a 19) 768 fworths), (aI k (a 20) 5 fstarts), (aI k (a 21) 4 fends), (aZ k (a 22) 4 fgoesRound), (aI k (a 23) 8 fbegin), (aI k (a 33) 50 fboys), (aI k (a 34) 50 fboysNext)]) [0, 1, 2, 3, 4, 5, 6, 7, 8, 9, 10, 11, 12] (by decide +kernel) rfl
    exact W.iret (v := (-1001)) hx hb hr (fun t ht hW => ⟨⟨(-1001), (fons, fworths, fstarts, fends, fgoesRound, fbegin, fboys, fboysNext), rfl, tq_no (fun s h1 h2 h3 => hw_1 s h1 h2 h3), by rw [ht]; exact hP9, hD9⟩, hS.F ht⟩) hS.2.2 dX8_boy_11



set_option maxHeartbeats 4000000 in
set_option maxRecDepth 100000 in
theorem n_findWay (l : Launch) (D : va_G) (k : Nat → ClassId) (st : Nat → Nat) (lo : Nat) (a : Nat → Nat) (tx : Nat) (t0 : Nat) (we : Nat) (rd : Nat) (ru : Nat) (rw : Nat) (ca : Nat) (fp : Int32) (wd : Int64) (nu : Int32) (na : Int32) (ts : Int32) (df : Int32) (db : Int32) (sd : Int32) (dn : Nat → Nat) (se : Nat → Nat) (tm : Nat → Nat) (gs : Nat → Int32) (ffrees : Nat → Int32) (fprices : Nat → Int32) (fons : Nat → Int32) (fworths : Nat → Int32) (fstarts : Nat → Int32) (fends : Nat → Int32) (fgoesRound : Nat → Int32) (fbegin : Nat → Int32) (sn : Nat) (hdn : ∀ j, dn j ≤ 24) (hse : ∀ j, se j ≤ 2) (htm : ∀ j, tm j ≤ 3) (hs : sn < 3) (h0 : 0 < dn sn) : CWv l D k st lo yX8_findWay cX8_findWay 3 none ({ frames := 5, cells := 0, slots := 0, locals := 122 }) 0 0 [.ref (a 0), .int (nI sn)] [((a 0), .inr (8, (fX8 a (nI tx) fp (nI t0) wd (nI we) nu na (nI rd) ts (nI ru) (nI rw) (nI ca) df db sd))), (aI k (a 1) 3 (nF dn)), (aI k (a 4) 27 (sg se tm gs)), (aI k (a 2) 72 ffrees), (aI k (a 3) 72 fprices), (aI k (a 18) 768 fons), (aI k (a 19) 768 fworths), (aI k (a 20) 5 fstarts), (aI k (a 21) 4 fends), (aZ k (a 22) 4 fgoesRound), (aI k (a 23) 8 fbegin)] (fun (u : (Nat → Int32) × (Nat → Int32) × (Nat → Int32) × (Nat → Int32) × (Nat → Int32) × (Nat → Int32)) => match u with | (fons_, fworths_, fstarts_, fends_, fgoesRound_, fbegin_) => wmOK (sdM dn (sg se tm gs) ffrees fprices sn) (se sn) (tm sn) 0 fons_ fworths_ fstarts_ fends_ fgoesRound_) (fun (u : (Nat → Int32) × (Nat → Int32) × (Nat → Int32) × (Nat → Int32) × (Nat → Int32) × (Nat → Int32)) => match u with | (fons_, fworths_, fstarts_, fends_, fgoesRound_, fbegin_) => [((a 0), .inr (8, (fX8 a (nI tx) fp (nI t0) wd (nI we) nu na (nI rd) ts (nI ru) (nI rw) (nI ca) df db sd))), (aI k (a 1) 3 (nF dn)), (aI k (a 4) 27 (sg se tm gs)), (aI k (a 2) 72 ffrees), (aI k (a 3) 72 fprices), (aI k (a 18) 768 fons_), (aI k (a 19) 768 fworths_), (aI k (a 20) 5 fstarts_), (aI k (a 21) 4 fends_), (aZ k (a 22) 4 fgoesRound_), (aI k (a 23) 8 fbegin_)]) := by
  intro sz
  refine Met.ofW (cc := cX8_findWay) (maxL := 3) (ret := none) (by decide) rfl ?_
  intro p e s m args below meth c s₁ B hml hv
  obtain ⟨rfl, hsz, hlo, hP, hK, hDL, hZ⟩ := hv
  have hx := B.exec
  have hb := B.bytes
  have hr := B.returns
  have hts := WS_ts B.pre
  have hown : s.vm.findClass RX8 = some m.cls := findClass_of_methodNamed B.named
  have hlocks := B.notSynchronized
  subst hsz
  have hD := hDL.self (sz := s.heap.size)
  have hAlo := A_lo hDL hlo
  generalize hAe : va_A [((a 0), .inr (8, (fX8 a (nI tx) fp (nI t0) wd (nI we) nu na (nI rd) ts (nI ru) (nI rw) (nI ca) df db sd))), (aI k (a 1) 3 (nF dn)), (aI k (a 4) 27 (sg se tm gs)), (aI k (a 2) 72 ffrees), (aI k (a 3) 72 fprices), (aI k (a 18) 768 fons), (aI k (a 19) 768 fworths), (aI k (a 20) 5 fstarts), (aI k (a 21) 4 fends), (aZ k (a 22) 4 fgoesRound), (aI k (a 23) 8 fbegin)] s.heap.size = A at hD hAlo ⊢
  have hA : ∀ q : Nat, s.heap.size ≤ q → A q := fun q h => by rw [← hAe]; exact Or.inr h
  have hS : va_S A s.heap s.heap [] := va_S.rf
  have hl := lv_entry ([.ref (a 0), .int (nI sn)]) (n := 3) (Nat.le_of_ble_eq_true rfl)
  rw [lg_entry_eq]
  generalize (lg_sl ([.ref (a 0), .int (nI sn)]) ++ List.replicate (3 - (lg_sl ([.ref (a 0), .int (nI sn)])).length) Slot.unset).toArray = ls at hl ⊢
  have hl : lv_has ls 3 [(0, .ref (a 0)), (1, .int (nI sn))] := hl
  have hd_9 := hdn sn
  have hd_8 := hse sn
  have hd_7 := htm sn
  refine lv_aload_n hx hb dX8_findWay_0 rfl (lv_at hl 0 rfl) ?_
  refine lv_iload_n hx hb dX8_findWay_1 rfl (lv_at hl 1 rfl) ?_
  refine lv_bipush (v := 7) hx hb dX8_findWay_2 (by decide) ?_
  refine ro_i (D := D) (va_runV (As := [.int (nI sn), .int 7]) (rest := []) ⟨hx, hb, hml, hown, hts⟩ ((m_of l D k st lo a tx t0 we rd ru rw ca fp wd nu na ts df db sd se tm gs sn 7 (by first | assumption | omega) (by first | assumption | omega)) s.heap.size) (cwV 2 hts (gV tw_1194 tw_1196 tw_39 tw_87 tw_1197) rfl rfl rfl (by decide +kernel) ⟨Nat.le_of_ble_eq_true rfl, Nat.le_of_ble_eq_true rfl⟩) (pV hS hAlo hlo hP hK (va_Dlo hD hAlo) hZ [0, 2] (by decide) rfl (ci := 8) (q := (RX8, TX8, 44)) (q0 := 0) rfl rfl) rfl rfl hl.1 rfl (lv_room (Nat.le_of_ble_eq_true rfl)) dX8_findWay_4 ⟨Nat.le_of_ble_eq_true rfl, Nat.le_of_ble_eq_true rfl⟩) hS hA hP (fun r_1 H locs hw_1 hP hS => ?_)
  try dsimp only at hw_1
  obtain rfl := hw_1.trans (sg_tm _ _ _ _)
  refine lv_istore_n (lv' := [(2, .int (nI (tm sn))), (0, .ref (a 0)), (1, .int (nI sn))]) hx hb dX8_findWay_7 rfl hl (by decide) rfl (fun ls hl => ?_)
  refine W_loop (σ := Nat × (Nat → Int32) × (Nat → Int32) × (Nat → Int32) × (Nat → Int32) × (Nat → Int32) × (Nat → Int32)) (fun (n_ : Nat) (x_ : Nat × (Nat → Int32) × (Nat → Int32) × (Nat → Int32) × (Nat → Int32) × (Nat → Int32) × (Nat → Int32)) (H : Heap) (locs : List Loc) (ls : Array Slot) => match x_ with | (q_2, fons2_2, fwor2_2, fsta2_2, fend2_2, fgoe2_2, fbeg2_2) => n_ = 2 * q_2 ∧ (q_2 ≤ tm sn + 1 ∧ wmOK (sdM dn (sg se tm gs) ffrees fprices sn) (se sn) (tm sn) q_2 fons2_2 fwor2_2 fsta2_2 fend2_2 fgoe2_2) ∧ va_P D classes [((a 0), .inr (8, (fX8 a (nI tx) fp (nI t0) wd (nI we) nu na (nI rd) ts (nI ru) (nI rw) (nI ca) df db sd))), (aI k (a 1) 3 (nF dn)), (aI k (a 4) 27 (sg se tm gs)), (aI k (a 2) 72 ffrees), (aI k (a 3) 72 fprices), (aI k (a 18) 768 fons2_2), (aI k (a 19) 768 fwor2_2), (aI k (a 20) 5 fsta2_2), (aI k (a 21) 4 fend2_2), (aZ k (a 22) 4 fgoe2_2), (aI k (a 23) 8 fbeg2_2)] H ∧ va_D A [((a 0), .inr (8, (fX8 a (nI tx) fp (nI t0) wd (nI we) nu na (nI rd) ts (nI ru) (nI rw) (nI ca) df db sd))), (aI k (a 1) 3 (nF dn)), (aI k (a 4) 27 (sg se tm gs)), (aI k (a 2) 72 ffrees), (aI k (a 3) 72 fprices), (aI k (a 18) 768 fons2_2), (aI k (a 19) 768 fwor2_2), (aI k (a 20) 5 fsta2_2), (aI k (a 21) 4 fend2_2), (aZ k (a 22) 4 fgoe2_2), (aI k (a 23) 8 fbeg2_2)] ∧ va_S A s.heap H locs ∧ lv_has ls 3 [(2, .int (nI q_2 - 1)), (0, .ref (a 0)), (1, .int (nI sn))]) (fun n_2 x_2 H locs ls hI ih_2 => ?_) _ (tm sn + 1, fons, fworths, fstarts, fends, fgoesRound, fbegin) ⟨rfl, ⟨by omega, fun r h1 h2 => absurd h1 (by omega)⟩, hP, hD, hS, (by rw [nI_pred]; exact lv_sub hl [0, 1, 2] rfl)⟩
  obtain ⟨q_2, fons2_2, fwor2_2, fsta2_2, fend2_2, fgoe2_2, fbeg2_2⟩ := x_2
  obtain ⟨hm_2, hv_2, hP, hD, hS, hl⟩ := hI
  subst hm_2
  rcases q_2 with _ | q_2
  · rw [dn0] at hl
    refine lv_iload_n hx hb dX8_findWay_8 rfl (lv_at hl 0 rfl) ?_
    refine lv_if_lt (tgt := 24) hx hb dX8_findWay_9 (by decide) (fun _ => ?_) (fun h => absurd (by decide) h)
    have hP9 := hP.sub (ws' := [((a 0), .inr (8, (fX8 a (nI tx) fp (nI t0) wd (nI we) nu na (nI rd) ts (nI ru) (nI rw) (nI ca) df db sd))), (aI k (a 1) 3 (nF dn)), (aI k (a 4) 27 (sg se tm gs)), (aI k (a 2) 72 ffrees), (aI k (a 3) 72 fprices), (aI k (a 18) 768 fons2_2), (aI k (a 19) 768 fwor2_2), (aI k (a 20) 5 fsta2_2), (aI k (a 21) 4 fend2_2), (aZ k (a 22) 4 fgoe2_2), (aI k (a 23) 8 fbeg2_2)]) [0, 1, 2, 3, 4, 5, 6, 7, 8, 9, 10] rfl
    have hD9 := hD.sub (ws' := [((a 0), .inr (8, (fX8 a (nI tx) fp (nI t0) wd (nI we) nu na (nI rd) ts (nI ru) (nI rw) (nI ca) df db sd))), (aI k (a 1) 3 (nF dn)), (aI k (a 4) 27 (sg se tm gs)), (aI k (a 2) 72 ffrees), (aI k (a 3) 72 fprices), (aI k (a 18) 768 fons2_2), (aI k (a 19) 768 fwor2_2), (aI k (a 20) 5 fsta2_2), (aI k (a 21) 4 fend2_2), (aZ k (a 22) 4 fgoe2_2), (aI k (a 23) 8 fbeg2_2)]) [0, 1, 2, 3, 4, 5, 6, 7, 8, 9, 10] (by decide +kernel) rfl
    exact W.vret hx hb hr (fun t ht hW => ⟨⟨(fons2_2, fwor2_2, fsta2_2, fend2_2, fgoe2_2, fbeg2_2), rfl, hv_2.2, by rw [ht]; exact hP9, hD9⟩, hS.F ht⟩) hS.2.2 dX8_findWay_24
  · rw [nI_pred] at hl
    refine lv_iload_n hx hb dX8_findWay_8 rfl (lv_at hl 0 rfl) ?_
    refine lv_if_lt (tgt := 24) hx hb dX8_findWay_9 (by decide) (fun h => absurd h (nI_pos0 (by omega))) (fun _ => ?_)
    refine lv_aload_n hx hb dX8_findWay_12 rfl (lv_at hl 1 rfl) ?_
    refine lv_iload_n hx hb dX8_findWay_13 rfl (lv_at hl 2 rfl) ?_
    refine lv_iload_n hx hb dX8_findWay_14 rfl (lv_at hl 0 rfl) ?_
    refine rw_v (D := D) (wr := []) (va_runV (As := [.int (nI sn), .int (nI q_2)]) (rest := []) ⟨hx, hb, hml, hown, hts⟩ ((n_findRound l D k st lo a tx t0 we rd ru rw ca fp wd nu na ts df db sd dn se tm gs ffrees fprices fons2_2 fwor2_2 fsta2_2 fend2_2 fgoe2_2 fbeg2_2 sn q_2 hdn hse htm (by first | assumption | omega) (by first | assumption | omega) (by first | assumption | omega) hv_2.2) H.size) (cwV 2 hts (gV tw_1254 tw_1256 tw_50 tw_87 tw_1257) rfl rfl rfl (by decide +kernel) ⟨Nat.le_of_ble_eq_true rfl, Nat.le_of_ble_eq_true rfl⟩) (pV hS hAlo hlo hP hK (va_Dlo hD hAlo) hZ [0, 1, 2, 3, 4, 5, 6, 7, 8, 9, 10] (by decide +kernel) rfl (ci := 8) (q := (RX8, TX8, 44)) (q0 := 0) rfl rfl) rfl rfl hl.1 rfl (lv_room (Nat.le_of_ble_eq_true rfl)) dX8_findWay_15 ⟨Nat.le_of_ble_eq_true rfl, Nat.le_of_ble_eq_true rfl⟩) hS hA hP hD [0, 1, 2, 3, 4, 5, 6, 7, 8, 9, 10] [] rfl rfl (by decide +kernel) (by decide +kernel) (fun u H locs hw_3 hP hD hS => ?_)
    obtain ⟨fons__3, fworths__3, fstarts__3, fends__3, fgoesRound__3, fbegin__3⟩ := u
    replace hP : va_P D classes [((a 0), .inr (8, (fX8 a (nI tx) fp (nI t0) wd (nI we) nu na (nI rd) ts (nI ru) (nI rw) (nI ca) df db sd))), (aI k (a 1) 3 (nF dn)), (aI k (a 4) 27 (sg se tm gs)), (aI k (a 2) 72 ffrees), (aI k (a 3) 72 fprices), (aI k (a 18) 768 fons__3), (aI k (a 19) 768 fworths__3), (aI k (a 20) 5 fstarts__3), (aI k (a 21) 4 fends__3), (aZ k (a 22) 4 fgoesRound__3), (aI k (a 23) 8 fbegin__3)] H := hP
    replace hD : va_D A [((a 0), .inr (8, (fX8 a (nI tx) fp (nI t0) wd (nI we) nu na (nI rd) ts (nI ru) (nI rw) (nI ca) df db sd))), (aI k (a 1) 3 (nF dn)), (aI k (a 4) 27 (sg se tm gs)), (aI k (a 2) 72 ffrees), (aI k (a 3) 72 fprices), (aI k (a 18) 768 fons__3), (aI k (a 19) 768 fworths__3), (aI k (a 20) 5 fstarts__3), (aI k (a 21) 4 fends__3), (aZ k (a 22) 4 fgoesRound__3), (aI k (a 23) 8 fbegin__3)] := hD
    try dsimp only at hw_3
    refine lv_iinc (v := (nI q_2 - 1)) (lv' := [(2, .int (nI q_2 - 1)), (0, .ref (a 0)), (1, .int (nI sn))]) hx hb dX8_findWay_18 hl (k := 0) rfl (dn1 _) (by decide) rfl (fun ls hl => ?_)
    refine lv_goto (tgt := 8) hx hb dX8_findWay_21 (by decide) ?_
    exact ih_2 _ (q_2, fons__3, fworths__3, fstarts__3, fends__3, fgoesRound__3, fbegin__3) _ _ _ (by omega) ⟨rfl, ⟨by omega, hw_3⟩, hP, hD, hS, (lv_sub hl [0, 1, 2] rfl)⟩



set_option maxHeartbeats 4000000 in
set_option maxRecDepth 100000 in
theorem n_startOf (l : Launch) (D : va_G) (k : Nat → ClassId) (st : Nat → Nat) (lo : Nat) (a : Nat → Nat) (tx : Nat) (t0 : Nat) (we : Nat) (rd : Nat) (ru : Nat) (rw : Nat) (ca : Nat) (fp : Int32) (wd : Int64) (nu : Int32) (na : Int32) (ts : Int32) (df : Int32) (db : Int32) (sd : Int32) (dn : Nat → Nat) (se : Nat → Nat) (tm : Nat → Nat) (gs : Nat → Int32) (ffrees : Nat → Int32) (fprices : Nat → Int32) (fworths : Nat → Int32) (fbegin : Nat → Int32) (sn : Nat) (rn : Nat) (E9 : Int32) (hdn : ∀ j, dn j ≤ 24) (hse : ∀ j, se j ≤ 2) (hs : sn < 3) (hrn : rn ≤ 3) (h0 : 0 < dn sn) (hE : wwOK (sdM dn (sg se tm gs) ffrees fprices sn) (se sn) rn E9 0 fworths) : CWi l D k st lo yX8_startOf cX8_startOf 7 (some .int) ({ frames := 2, cells := 0, slots := 0, locals := 47 }) 0 0 [.ref (a 0), .int (nI sn), .int (nI rn)] [((a 0), .inr (8, (fX8 a (nI tx) fp (nI t0) wd (nI we) nu na (nI rd) ts (nI ru) (nI rw) (nI ca) df db sd))), (aI k (a 1) 3 (nF dn)), (aI k (a 4) 27 (sg se tm gs)), (aI k (a 2) 72 ffrees), (aI k (a 3) 72 fprices), (aI k (a 19) 768 fworths), (aI k (a 23) 8 fbegin)] (fun (r : Int32) (fbegin_ : (Nat → Int32)) => r = pSv (sdM dn (sg se tm gs) ffrees fprices sn) (se sn) rn E9) (fun (fbegin_ : (Nat → Int32)) => [((a 0), .inr (8, (fX8 a (nI tx) fp (nI t0) wd (nI we) nu na (nI rd) ts (nI ru) (nI rw) (nI ca) df db sd))), (aI k (a 1) 3 (nF dn)), (aI k (a 4) 27 (sg se tm gs)), (aI k (a 2) 72 ffrees), (aI k (a 3) 72 fprices), (aI k (a 19) 768 fworths), (aI k (a 23) 8 fbegin_)]) := by
  intro sz
  refine Met.ofW (cc := cX8_startOf) (maxL := 7) (ret := (some .int)) (by decide) rfl ?_
  intro p e s m args below meth c s₁ B hml hv
  obtain ⟨rfl, hsz, hlo, hP, hK, hDL, hZ⟩ := hv
  have hx := B.exec
  have hb := B.bytes
  have hr := B.returns
  have hts := WS_ts B.pre
  have hown : s.vm.findClass RX8 = some m.cls := findClass_of_methodNamed B.named
  have hlocks := B.notSynchronized
  subst hsz
  have hD := hDL.self (sz := s.heap.size)
  have hAlo := A_lo hDL hlo
  generalize hAe : va_A [((a 0), .inr (8, (fX8 a (nI tx) fp (nI t0) wd (nI we) nu na (nI rd) ts (nI ru) (nI rw) (nI ca) df db sd))), (aI k (a 1) 3 (nF dn)), (aI k (a 4) 27 (sg se tm gs)), (aI k (a 2) 72 ffrees), (aI k (a 3) 72 fprices), (aI k (a 19) 768 fworths), (aI k (a 23) 8 fbegin)] s.heap.size = A at hD hAlo ⊢
  have hA : ∀ q : Nat, s.heap.size ≤ q → A q := fun q h => by rw [← hAe]; exact Or.inr h
  have hS : va_S A s.heap s.heap [] := va_S.rf
  have hl := lv_entry ([.ref (a 0), .int (nI sn), .int (nI rn)]) (n := 7) (Nat.le_of_ble_eq_true rfl)
  rw [lg_entry_eq]
  generalize (lg_sl ([.ref (a 0), .int (nI sn), .int (nI rn)]) ++ List.replicate (7 - (lg_sl ([.ref (a 0), .int (nI sn), .int (nI rn)])).length) Slot.unset).toArray = ls at hl ⊢
  have hl : lv_has ls 7 [(0, .ref (a 0)), (1, .int (nI sn)), (2, .int (nI rn))] := hl
  have hd_9 := hdn sn
  have hd_8 := hse sn
  refine lv_aload_n hx hb dX8_startOf_0 rfl (lv_at hl 0 rfl) ?_
  refine lv_iload_n hx hb dX8_startOf_1 rfl (lv_at hl 1 rfl) ?_
  refine lv_iconst (v := 0) hx hb dX8_startOf_2 (by decide) ?_
  refine ro_i (D := D) (va_runV (As := [.int (nI sn), .int 0]) (rest := []) ⟨hx, hb, hml, hown, hts⟩ ((n_seen l D k st lo a tx t0 we rd ru rw ca fp wd nu na ts df db sd dn se tm gs sn 0 hdn hse (by first | assumption | omega) (by first | assumption | omega)) s.heap.size) (cwV 2 hts (gV tw_1246 tw_1248 tw_48 tw_87 tw_1249) rfl rfl rfl (by decide +kernel) ⟨Nat.le_of_ble_eq_true rfl, Nat.le_of_ble_eq_true rfl⟩) (pV hS hAlo hlo hP hK (va_Dlo hD hAlo) hZ [0, 1, 2] (by decide) rfl (ci := 8) (q := (RX8, TX8, 44)) (q0 := 0) rfl rfl) rfl rfl hl.1 rfl (lv_room (Nat.le_of_ble_eq_true rfl)) dX8_startOf_3 ⟨Nat.le_of_ble_eq_true rfl, Nat.le_of_ble_eq_true rfl⟩) hS hA hP (fun r_1 H locs hw_1 hP hS => ?_)
  try dsimp only at hw_1
  obtain ⟨sv_2, esv_2⟩ : ∃ z : Nat, z = sqN (se sn) (dn sn) 0 := ⟨_, rfl⟩
  rw [← esv_2] at hw_1
  subst hw_1
  have hsv_2 : sv_2 ≤ 3 ∧ sv_2 ≤ dn sn - 0 ∧ sv_2 ≤ se sn + 1 ∧ (0 < dn sn - 0 → 1 ≤ sv_2) := by have hse9 := hse sn; rw [esv_2]; unfold sqN; omega
  have hpv_2 := p8 (show sv_2 ≤ 3 by omega)
  have hpe_2 : 2 ^ sv_2 = 2 ^ sqN (se sn) (dn sn) 0 := by rw [esv_2]
  refine lv_istore_n (lv' := [(3, .int (nI sv_2)), (0, .ref (a 0)), (1, .int (nI sn)), (2, .int (nI rn))]) hx hb dX8_startOf_6 rfl hl (by decide) rfl (fun ls hl => ?_)
  refine lv_iconst (v := 0) hx hb dX8_startOf_7 (by decide) ?_
  refine lv_istore (lv' := [(4, .int 0), (3, .int (nI sv_2)), (0, .ref (a 0)), (1, .int (nI sn)), (2, .int (nI rn))]) hx hb dX8_startOf_8 hl (by decide) rfl (fun ls hl => ?_)
  refine W_loop (σ := Nat × (Nat → Int32)) (fun (n_ : Nat) (x_ : Nat × (Nat → Int32)) (H : Heap) (locs : List Loc) (ls : Array Slot) => match x_ with | (g2_3, fb_3) => n_ = 2 ^ sv_2 - g2_3 ∧ (g2_3 ≤ 2 ^ sv_2 ∧ ∀ h, h < g2_3 → fb_3 h = pWo (sdM dn (sg se tm gs) ffrees fprices sn) (se sn) rn E9 0 h) ∧ va_P D classes [((a 0), .inr (8, (fX8 a (nI tx) fp (nI t0) wd (nI we) nu na (nI rd) ts (nI ru) (nI rw) (nI ca) df db sd))), (aI k (a 1) 3 (nF dn)), (aI k (a 4) 27 (sg se tm gs)), (aI k (a 2) 72 ffrees), (aI k (a 3) 72 fprices), (aI k (a 19) 768 fworths), (aI k (a 23) 8 fb_3)] H ∧ va_D A [((a 0), .inr (8, (fX8 a (nI tx) fp (nI t0) wd (nI we) nu na (nI rd) ts (nI ru) (nI rw) (nI ca) df db sd))), (aI k (a 1) 3 (nF dn)), (aI k (a 4) 27 (sg se tm gs)), (aI k (a 2) 72 ffrees), (aI k (a 3) 72 fprices), (aI k (a 19) 768 fworths), (aI k (a 23) 8 fb_3)] ∧ va_S A s.heap H locs ∧ lv_has ls 7 [(4, .int (nI g2_3)), (3, .int (nI sv_2)), (0, .ref (a 0)), (1, .int (nI sn)), (2, .int (nI rn))]) (fun n_3 x_3 H locs ls hI ih_3 => ?_) _ (0, fbegin) ⟨rfl, ⟨Nat.zero_le _, fun h hh => absurd hh (Nat.not_lt_zero h)⟩, hP, hD, hS, (lv_sub hl [0, 1, 2, 3, 4] rfl)⟩
  obtain ⟨g2_3, fb_3⟩ := x_3
  obtain ⟨hm_3, hv_3, hP, hD, hS, hl⟩ := hI
  subst hm_3
  refine lv_iload hx hb dX8_startOf_10 (lv_at hl 0 rfl) ?_
  refine lv_iconst (v := 1) hx hb dX8_startOf_12 (by decide) ?_
  refine lv_iload_n hx hb dX8_startOf_13 rfl (lv_at hl 1 rfl) ?_
  refine lv_ishl hx hb dX8_startOf_14 ?_
  refine lv_ti (y := (nI (2 ^ sv_2))) (shl1 sv_2 (by omega)) ?_
  refine lv_icmp_ge (tgt := 43) hx hb dX8_startOf_15 (by decide) (fun c_4 => ?_) (fun c_4 => ?_)
  · have c_4 := (nI_leI (a := (2 ^ sv_2)) (b := g2_3) (by omega) (by omega)).mp c_4
    have hF_9 : ∀ h, h < 2 ^ (sqN (se sn) (dn sn) 0) → fb_3 h = pFo (sdM dn (sg se tm gs) ffrees fprices sn) (fun h => pWo (sdM dn (sg se tm gs) ffrees fprices sn) (se sn) rn E9 0 h) (sqN (se sn) (dn sn) 0) (0) h := fun h hh => hv_3.2 h (by rw [← esv_2] at hh; omega)
    refine lv_iload_n hx hb dX8_startOf_43 rfl (lv_at hl 1 rfl) ?_
    refine lv_iconst (v := 1) hx hb dX8_startOf_44 (by decide) ?_
    refine lv_isub hx hb dX8_startOf_45 ?_
    refine lv_ti (y := (nI sv_2 - 1)) rfl ?_
    refine lv_istore (lv' := [(4, .int (nI sv_2 - 1)), (3, .int (nI sv_2)), (0, .ref (a 0)), (1, .int (nI sn)), (2, .int (nI rn))]) hx hb dX8_startOf_46 hl (by decide) rfl (fun ls hl => ?_)
    refine W_loop (σ := Nat × (Nat → Int32)) (fun (n_ : Nat) (x_ : Nat × (Nat → Int32)) (H : Heap) (locs : List Loc) (ls : Array Slot) => match x_ with | (q_5, fb_5) => n_ = 2 * q_5 ∧ (q_5 ≤ sv_2 ∧ ∀ h, h < 2 ^ q_5 → fb_5 h = pFo (sdM dn (sg se tm gs) ffrees fprices sn) (fun h => pWo (sdM dn (sg se tm gs) ffrees fprices sn) (se sn) rn E9 0 h) (sqN (se sn) (dn sn) 0) ((sqN (se sn) (dn sn) 0) - q_5) h) ∧ va_P D classes [((a 0), .inr (8, (fX8 a (nI tx) fp (nI t0) wd (nI we) nu na (nI rd) ts (nI ru) (nI rw) (nI ca) df db sd))), (aI k (a 1) 3 (nF dn)), (aI k (a 4) 27 (sg se tm gs)), (aI k (a 2) 72 ffrees), (aI k (a 3) 72 fprices), (aI k (a 19) 768 fworths), (aI k (a 23) 8 fb_5)] H ∧ va_D A [((a 0), .inr (8, (fX8 a (nI tx) fp (nI t0) wd (nI we) nu na (nI rd) ts (nI ru) (nI rw) (nI ca) df db sd))), (aI k (a 1) 3 (nF dn)), (aI k (a 4) 27 (sg se tm gs)), (aI k (a 2) 72 ffrees), (aI k (a 3) 72 fprices), (aI k (a 19) 768 fworths), (aI k (a 23) 8 fb_5)] ∧ va_S A s.heap H locs ∧ lv_has ls 7 [(4, .int (nI q_5 - 1)), (3, .int (nI sv_2)), (0, .ref (a 0)), (1, .int (nI sn)), (2, .int (nI rn))]) (fun n_5 x_5 H locs ls hI ih_5 => ?_) _ (sv_2, fb_3) ⟨rfl, ⟨by omega, fun h hh => by rw [show (sqN (se sn) (dn sn) 0) - sv_2 = 0 by omega]; exact hF_9 h (by rw [← esv_2]; exact hh)⟩, hP, hD, hS, (lv_sub hl [0, 1, 2, 3, 4] rfl)⟩
    obtain ⟨q_5, fb_5⟩ := x_5
    obtain ⟨hm_5, hv_5, hP, hD, hS, hl⟩ := hI
    subst hm_5
    rcases q_5 with _ | q_5
    · rw [dn0] at hl
      refine lv_iload hx hb dX8_startOf_48 (lv_at hl 0 rfl) ?_
      refine lv_if_lt (tgt := 140) hx hb dX8_startOf_50 (by decide) (fun _ => ?_) (fun h => absurd (by decide) h)
      refine lv_aload_n hx hb dX8_startOf_140 rfl (lv_at hl 2 rfl) ?_
      refine va_get (D := D) (ci := 8) (v := .ref (a 23)) (C := RX8) (T := TX8) (N := 44) hx hb hts inX8 hown hK hP 0 rfl rfl 22 (by decide) (hts _ tw_995) (fun _ h9 => h9) rfl dX8_startOf_141 ?_
      refine lv_iconst (v := 0) hx hb dX8_startOf_144 (by decide) ?_
      refine va_iald hx hb hK hP 6 1 rfl rfl (by unfold vp_in; decide) dX8_startOf_145 ?_
      refine lv_ti (y := (fb_5 0)) (by rfl) ?_
      obtain ⟨hP9, hD9⟩ := pd_sub [((a 0), .inr (8, (fX8 a (nI tx) fp (nI t0) wd (nI we) nu na (nI rd) ts (nI ru) (nI rw) (nI ca) df db sd))), (aI k (a 1) 3 (nF dn)), (aI k (a 4) 27 (sg se tm gs)), (aI k (a 2) 72 ffrees), (aI k (a 3) 72 fprices), (aI k (a 19) 768 fworths), (aI k (a 23) 8 fb_5)] [0, 1, 2, 3, 4, 5, 6] hP hD (by decide) rfl
      exact W.iret (v := (fb_5 0)) hx hb hr (fun t ht hW => ⟨⟨(fb_5 0), fb_5, rfl, hv_5.2 0 (by decide), by rw [ht]; exact hP9, hD9⟩, hS.F ht⟩) hS.2.2 dX8_startOf_146
    · rw [nI_pred] at hl
      refine lv_iload hx hb dX8_startOf_48 (lv_at hl 0 rfl) ?_
      refine lv_if_lt (tgt := 140) hx hb dX8_startOf_50 (by decide) (fun h => absurd h (nI_pos0 (by omega))) (fun _ => ?_)
      refine lv_iconst (v := 0) hx hb dX8_startOf_53 (by decide) ?_
      refine lv_istore (lv' := [(5, .int 0), (4, .int (nI q_5)), (3, .int (nI sv_2)), (0, .ref (a 0)), (1, .int (nI sn)), (2, .int (nI rn))]) hx hb dX8_startOf_54 hl (by decide) rfl (fun ls hl => ?_)
      have hp4_5 := pw4 (show q_5 ≤ 2 by omega)
      refine W_loop (σ := Nat × (Nat → Int32)) (fun (n_ : Nat) (x_ : Nat × (Nat → Int32)) (H : Heap) (locs : List Loc) (ls : Array Slot) => match x_ with | (g3_6, fb3_6) => n_ = 2 ^ q_5 - g3_6 ∧ (g3_6 ≤ 2 ^ q_5 ∧ (∀ h, h < g3_6 → fb3_6 h = pFo (sdM dn (sg se tm gs) ffrees fprices sn) (fun h => pWo (sdM dn (sg se tm gs) ffrees fprices sn) (se sn) rn E9 0 h) (sqN (se sn) (dn sn) 0) ((sqN (se sn) (dn sn) 0) - q_5) h) ∧ (∀ h, g3_6 ≤ h → h < 2 ^ (q_5 + 1) → fb3_6 h = pFo (sdM dn (sg se tm gs) ffrees fprices sn) (fun h => pWo (sdM dn (sg se tm gs) ffrees fprices sn) (se sn) rn E9 0 h) (sqN (se sn) (dn sn) 0) ((sqN (se sn) (dn sn) 0) - (q_5 + 1)) h)) ∧ va_P D classes [((a 0), .inr (8, (fX8 a (nI tx) fp (nI t0) wd (nI we) nu na (nI rd) ts (nI ru) (nI rw) (nI ca) df db sd))), (aI k (a 1) 3 (nF dn)), (aI k (a 4) 27 (sg se tm gs)), (aI k (a 2) 72 ffrees), (aI k (a 3) 72 fprices), (aI k (a 19) 768 fworths), (aI k (a 23) 8 fb3_6)] H ∧ va_D A [((a 0), .inr (8, (fX8 a (nI tx) fp (nI t0) wd (nI we) nu na (nI rd) ts (nI ru) (nI rw) (nI ca) df db sd))), (aI k (a 1) 3 (nF dn)), (aI k (a 4) 27 (sg se tm gs)), (aI k (a 2) 72 ffrees), (aI k (a 3) 72 fprices), (aI k (a 19) 768 fworths), (aI k (a 23) 8 fb3_6)] ∧ va_S A s.heap H locs ∧ lv_has ls 7 [(5, .int (nI g3_6)), (4, .int (nI q_5)), (3, .int (nI sv_2)), (0, .ref (a 0)), (1, .int (nI sn)), (2, .int (nI rn))]) (fun n_6 x_6 H locs ls hI ih_6 => ?_) _ (0, fb_5) ⟨rfl, ⟨Nat.zero_le _, fun h hh => absurd hh (Nat.not_lt_zero h), fun h _ hh => hv_5.2 h hh⟩, hP, hD, hS, (lv_sub hl [0, 1, 2, 3, 4, 5] rfl)⟩
      obtain ⟨g3_6, fb3_6⟩ := x_6
      obtain ⟨hm_6, hv_6, hP, hD, hS, hl⟩ := hI
      subst hm_6
      refine lv_iload hx hb dX8_startOf_56 (lv_at hl 0 rfl) ?_
      refine lv_iconst (v := 1) hx hb dX8_startOf_58 (by decide) ?_
      refine lv_iload hx hb dX8_startOf_59 (lv_at hl 1 rfl) ?_
      refine lv_ishl hx hb dX8_startOf_61 ?_
      refine lv_ti (y := (nI (2 ^ q_5))) (shl1 q_5 (by omega)) ?_
      refine lv_icmp_ge (tgt := 134) hx hb dX8_startOf_62 (by decide) (fun c_7 => ?_) (fun c_7 => ?_)
      · have c_7 := (nI_leI (a := (2 ^ q_5)) (b := g3_6) (by omega) (by omega)).mp c_7
        refine lv_iinc (v := (nI q_5 - 1)) (lv' := [(4, .int (nI q_5 - 1)), (5, .int (nI g3_6)), (3, .int (nI sv_2)), (0, .ref (a 0)), (1, .int (nI sn)), (2, .int (nI rn))]) hx hb dX8_startOf_134 hl (k := 1) rfl (dn1 _) (by decide) rfl (fun ls hl => ?_)
        refine lv_goto (tgt := 48) hx hb dX8_startOf_137 (by decide) ?_
        exact ih_5 _ (q_5, fb3_6) _ _ _ (by omega) ⟨rfl, ⟨by omega, fun h hh => hv_6.2.1 h (by omega)⟩, hP, hD, hS, (lv_sub hl [0, 2, 3, 4, 5] rfl)⟩
      · have c_7 : ¬ ((2 ^ q_5) ≤ g3_6) := fun h => c_7 ((nI_leI (a := (2 ^ q_5)) (b := g3_6) (by omega) (by omega)).mpr h)
        refine lv_iload hx hb dX8_startOf_65 (lv_at hl 1 rfl) ?_
        refine lv_if_le (tgt := 87) hx hb dX8_startOf_67 (by decide) (fun c_8 => ?_) (fun c_8 => ?_)
        · have c_8 := (nI_leI (a := q_5) (b := 0) (by omega) (by omega)).mp c_8
          refine lv_iconst (v := 0) hx hb dX8_startOf_87 (by decide) ?_
          refine lv_istore (lv' := [(6, .int 0), (5, .int (nI g3_6)), (4, .int (nI q_5)), (3, .int (nI sv_2)), (0, .ref (a 0)), (1, .int (nI sn)), (2, .int (nI rn))]) hx hb dX8_startOf_88 hl (by decide) rfl (fun ls hl => ?_)
          refine lv_aload_n hx hb dX8_startOf_90 rfl (lv_at hl 4 rfl) ?_
          refine va_get (D := D) (ci := 8) (v := .ref (a 23)) (C := RX8) (T := TX8) (N := 44) hx hb hts inX8 hown hK hP 0 rfl rfl 22 (by decide) (hts _ tw_995) (fun _ h9 => h9) rfl dX8_startOf_91 ?_
          refine lv_iload hx hb dX8_startOf_94 (lv_at hl 1 rfl) ?_
          refine lv_aload_n hx hb dX8_startOf_96 rfl (lv_at hl 4 rfl) ?_
          refine lv_iload_n hx hb dX8_startOf_97 rfl (lv_at hl 5 rfl) ?_
          refine lv_iload hx hb dX8_startOf_98 (lv_at hl 2 rfl) ?_
          refine lv_iload hx hb dX8_startOf_100 (lv_at hl 0 rfl) ?_
          refine ro_i (D := D) (va_runV (As := [.int (nI sn), .int (nI q_5), .int 0]) (rest := [.int (nI g3_6), .ref (a 23)]) ⟨hx, hb, hml, hown, hts⟩ ((n_chanceOf l D k st lo a tx t0 we rd ru rw ca fp wd nu na ts df db sd ffrees se tm gs sn q_5 0 (by first | assumption | omega) (by first | assumption | omega)) H.size) (cwV 3 hts (gV tw_1210 tw_1212 tw_41 tw_87 tw_1213) rfl rfl rfl (by decide +kernel) ⟨Nat.le_of_ble_eq_true rfl, Nat.le_of_ble_eq_true rfl⟩) (pV hS hAlo hlo hP hK (va_Dlo hD hAlo) hZ [0, 3, 2] (by decide) rfl (ci := 8) (q := (RX8, TX8, 44)) (q0 := 0) rfl rfl) rfl rfl hl.1 rfl (lv_room (Nat.le_of_ble_eq_true rfl)) dX8_startOf_102 ⟨Nat.le_of_ble_eq_true rfl, Nat.le_of_ble_eq_true rfl⟩) hS hA hP (fun r_9 H locs hw_9 hP hS => ?_)
          try dsimp only at hw_9
          refine lv_aload_n hx hb dX8_startOf_105 rfl (lv_at hl 4 rfl) ?_
          refine va_get (D := D) (ci := 8) (v := .ref (a 23)) (C := RX8) (T := TX8) (N := 44) hx hb hts inX8 hown hK hP 0 rfl rfl 22 (by decide) (hts _ tw_995) (fun _ h9 => h9) rfl dX8_startOf_106 ?_
          refine lv_iload hx hb dX8_startOf_109 (lv_at hl 1 rfl) ?_
          refine lv_iconst (v := 1) hx hb dX8_startOf_111 (by decide) ?_
          refine lv_iload hx hb dX8_startOf_112 (lv_at hl 2 rfl) ?_
          refine lv_ishl hx hb dX8_startOf_114 ?_
          refine lv_ti (y := (nI (2 ^ q_5))) (shl1 q_5 (by omega)) ?_
          refine lv_ior hx hb dX8_startOf_115 ?_
          refine lv_ti (y := (nI (g3_6 + 2 ^ q_5))) (or_bit2 q_5 (by omega) g3_6 (by omega)) ?_
          refine va_iald hx hb hK hP 6 1 rfl rfl (vp_in_nI (by omega) (by decide)) dX8_startOf_116 ?_
          refine lv_ti (y := (fb3_6 (g3_6 + 2 ^ q_5))) (by rw [nI_clamp (by omega)]) ?_
          refine lv_aload_n hx hb dX8_startOf_117 rfl (lv_at hl 4 rfl) ?_
          refine va_get (D := D) (ci := 8) (v := .ref (a 23)) (C := RX8) (T := TX8) (N := 44) hx hb hts inX8 hown hK hP 0 rfl rfl 22 (by decide) (hts _ tw_995) (fun _ h9 => h9) rfl dX8_startOf_118 ?_
          refine lv_iload hx hb dX8_startOf_121 (lv_at hl 1 rfl) ?_
          refine va_iald hx hb hK hP 6 1 rfl rfl (vp_in_nI (by omega) (by decide)) dX8_startOf_123 ?_
          refine lv_ti (y := (fb3_6 g3_6)) (by rw [nI_clamp (by omega)]) ?_
          refine ro_i (D := D) (va_runS (As := [.int r_9, .int (fb3_6 (g3_6 + 2 ^ q_5)), .int (fb3_6 g3_6)]) (rest := [.int (nI g3_6), .ref (a 23)]) ⟨hx, hb, hml, hown, hts⟩ ((n_mixed l D k st lo r_9 (fb3_6 (g3_6 + 2 ^ q_5)) (fb3_6 g3_6)) H.size) (va_cwS 3 hts (gS tw_1269 tw_1270 tw_87 tw_1271) rfl rfl rfl (by decide +kernel) ⟨Nat.le_of_ble_eq_true rfl, Nat.le_of_ble_eq_true rfl⟩) (pS hS hAlo hlo hP hK (va_Dlo hD hAlo) hZ [] (by decide) rfl) rfl rfl hl.1 rfl (lv_room (Nat.le_of_ble_eq_true rfl)) dX8_startOf_124 ⟨Nat.le_of_ble_eq_true rfl, Nat.le_of_ble_eq_true rfl⟩) hS hA hP (fun r_10 H locs hw_10 hP hS => ?_)
          try dsimp only at hw_10
          refine va_iast hx hb hK hP hD hS 6 1 rfl rfl (vp_in_nI (by omega) (by decide)) dX8_startOf_127 (fun H locs hP hD hS => ?_)
          have hQ9 := pd_mk [((a 0), .inr (8, (fX8 a (nI tx) fp (nI t0) wd (nI we) nu na (nI rd) ts (nI ru) (nI rw) (nI ca) df db sd))), (aI k (a 1) 3 (nF dn)), (aI k (a 4) 27 (sg se tm gs)), (aI k (a 2) 72 ffrees), (aI k (a 3) 72 fprices), (aI k (a 19) 768 fworths), (aI k (a 23) 8 (upd fb3_6 (Int32.toNatClampNeg (nI g3_6)) r_10))] hP hD
          clear hP hD
          obtain ⟨hP, hD⟩ := hQ9
          rw [nI_clamp (n := g3_6) (by omega)] at hP hD
          have hQ9 := pd_mk [((a 0), .inr (8, (fX8 a (nI tx) fp (nI t0) wd (nI we) nu na (nI rd) ts (nI ru) (nI rw) (nI ca) df db sd))), (aI k (a 1) 3 (nF dn)), (aI k (a 4) 27 (sg se tm gs)), (aI k (a 2) 72 ffrees), (aI k (a 3) 72 fprices), (aI k (a 19) 768 fworths), (aI k (a 23) 8 (upd fb3_6 g3_6 r_10))] hP hD
          clear hP hD
          obtain ⟨hP, hD⟩ := hQ9
          refine lv_iinc (v := (nI (g3_6 + 1))) (lv' := [(5, .int (nI (g3_6 + 1))), (6, .int 0), (4, .int (nI q_5)), (3, .int (nI sv_2)), (0, .ref (a 0)), (1, .int (nI sn)), (2, .int (nI rn))]) hx hb dX8_startOf_128 hl (k := 1) rfl (nI_add g3_6 1) (by decide) rfl (fun ls hl => ?_)
          refine lv_goto (tgt := 56) hx hb dX8_startOf_131 (by decide) ?_
          have hst_6 := fo_stepM (d := (sdM dn (sg se tm gs) ffrees fprices sn)) (W := (fun h => pWo (sdM dn (sg se tm gs) ffrees fprices sn) (se sn) rn E9 0 h)) (q := (sqN (se sn) (dn sn) 0)) (show q_5 < (sqN (se sn) (dn sn) 0) by omega) (show g3_6 < 2 ^ q_5 by omega) hv_6.2.1 hv_6.2.2 (by rw [(show pAh g3_6 q_5 = 0 by rw [show q_5 = 0 by omega]; exact ah_z)]; exact hw_9.trans (mChance (show q_5 < dn sn by omega))) rfl rfl hw_10
          exact ih_6 _ (g3_6 + 1, (upd fb3_6 g3_6 r_10)) _ _ _ (by omega) ⟨rfl, ⟨by omega, hst_6.1, hst_6.2⟩, hP, hD, hS, (lv_sub hl [0, 2, 3, 4, 5, 6] rfl)⟩
        · have c_8 : ¬ (q_5 ≤ 0) := fun h => c_8 ((nI_leI (a := q_5) (b := 0) (by omega) (by omega)).mpr h)
          refine lv_iload hx hb dX8_startOf_70 (lv_at hl 0 rfl) ?_
          refine lv_iload hx hb dX8_startOf_72 (lv_at hl 1 rfl) ?_
          refine lv_iconst (v := 1) hx hb dX8_startOf_74 (by decide) ?_
          refine lv_isub hx hb dX8_startOf_75 ?_
          refine lv_ti (y := (nI (q_5 - 1))) (pk_sub (a := q_5) (b := 1) (by omega)) ?_
          refine lv_ishr hx hb dX8_startOf_76 ?_
          refine lv_topi (fun x_12 ex_12 => ?_)
          refine lv_iconst (v := 1) hx hb dX8_startOf_77 (by decide) ?_
          refine lv_iand hx hb dX8_startOf_78 ?_
          refine lv_topi (fun x_13 ex_13 => ?_)
          refine lv_iconst (v := 1) hx hb dX8_startOf_79 (by decide) ?_
          refine lv_icmp_ne (tgt := 87) hx hb dX8_startOf_80 (by decide) (fun c_14 => ?_) (fun c_14 => ?_)
          · rw [ex_13, ex_12] at c_14
            refine lv_iconst (v := 0) hx hb dX8_startOf_87 (by decide) ?_
            refine lv_istore (lv' := [(6, .int 0), (5, .int (nI g3_6)), (4, .int (nI q_5)), (3, .int (nI sv_2)), (0, .ref (a 0)), (1, .int (nI sn)), (2, .int (nI rn))]) hx hb dX8_startOf_88 hl (by decide) rfl (fun ls hl => ?_)
            refine lv_aload_n hx hb dX8_startOf_90 rfl (lv_at hl 4 rfl) ?_
            refine va_get (D := D) (ci := 8) (v := .ref (a 23)) (C := RX8) (T := TX8) (N := 44) hx hb hts inX8 hown hK hP 0 rfl rfl 22 (by decide) (hts _ tw_995) (fun _ h9 => h9) rfl dX8_startOf_91 ?_
            refine lv_iload hx hb dX8_startOf_94 (lv_at hl 1 rfl) ?_
            refine lv_aload_n hx hb dX8_startOf_96 rfl (lv_at hl 4 rfl) ?_
            refine lv_iload_n hx hb dX8_startOf_97 rfl (lv_at hl 5 rfl) ?_
            refine lv_iload hx hb dX8_startOf_98 (lv_at hl 2 rfl) ?_
            refine lv_iload hx hb dX8_startOf_100 (lv_at hl 0 rfl) ?_
            refine ro_i (D := D) (va_runV (As := [.int (nI sn), .int (nI q_5), .int 0]) (rest := [.int (nI g3_6), .ref (a 23)]) ⟨hx, hb, hml, hown, hts⟩ ((n_chanceOf l D k st lo a tx t0 we rd ru rw ca fp wd nu na ts df db sd ffrees se tm gs sn q_5 0 (by first | assumption | omega) (by first | assumption | omega)) H.size) (cwV 3 hts (gV tw_1210 tw_1212 tw_41 tw_87 tw_1213) rfl rfl rfl (by decide +kernel) ⟨Nat.le_of_ble_eq_true rfl, Nat.le_of_ble_eq_true rfl⟩) (pV hS hAlo hlo hP hK (va_Dlo hD hAlo) hZ [0, 3, 2] (by decide) rfl (ci := 8) (q := (RX8, TX8, 44)) (q0 := 0) rfl rfl) rfl rfl hl.1 rfl (lv_room (Nat.le_of_ble_eq_true rfl)) dX8_startOf_102 ⟨Nat.le_of_ble_eq_true rfl, Nat.le_of_ble_eq_true rfl⟩) hS hA hP (fun r_15 H locs hw_15 hP hS => ?_)
            try dsimp only at hw_15
            refine lv_aload_n hx hb dX8_startOf_105 rfl (lv_at hl 4 rfl) ?_
            refine va_get (D := D) (ci := 8) (v := .ref (a 23)) (C := RX8) (T := TX8) (N := 44) hx hb hts inX8 hown hK hP 0 rfl rfl 22 (by decide) (hts _ tw_995) (fun _ h9 => h9) rfl dX8_startOf_106 ?_
            refine lv_iload hx hb dX8_startOf_109 (lv_at hl 1 rfl) ?_
            refine lv_iconst (v := 1) hx hb dX8_startOf_111 (by decide) ?_
            refine lv_iload hx hb dX8_startOf_112 (lv_at hl 2 rfl) ?_
            refine lv_ishl hx hb dX8_startOf_114 ?_
            refine lv_ti (y := (nI (2 ^ q_5))) (shl1 q_5 (by omega)) ?_
            refine lv_ior hx hb dX8_startOf_115 ?_
            refine lv_ti (y := (nI (g3_6 + 2 ^ q_5))) (or_bit2 q_5 (by omega) g3_6 (by omega)) ?_
            refine va_iald hx hb hK hP 6 1 rfl rfl (vp_in_nI (by omega) (by decide)) dX8_startOf_116 ?_
            refine lv_ti (y := (fb3_6 (g3_6 + 2 ^ q_5))) (by rw [nI_clamp (by omega)]) ?_
            refine lv_aload_n hx hb dX8_startOf_117 rfl (lv_at hl 4 rfl) ?_
            refine va_get (D := D) (ci := 8) (v := .ref (a 23)) (C := RX8) (T := TX8) (N := 44) hx hb hts inX8 hown hK hP 0 rfl rfl 22 (by decide) (hts _ tw_995) (fun _ h9 => h9) rfl dX8_startOf_118 ?_
            refine lv_iload hx hb dX8_startOf_121 (lv_at hl 1 rfl) ?_
            refine va_iald hx hb hK hP 6 1 rfl rfl (vp_in_nI (by omega) (by decide)) dX8_startOf_123 ?_
            refine lv_ti (y := (fb3_6 g3_6)) (by rw [nI_clamp (by omega)]) ?_
            refine ro_i (D := D) (va_runS (As := [.int r_15, .int (fb3_6 (g3_6 + 2 ^ q_5)), .int (fb3_6 g3_6)]) (rest := [.int (nI g3_6), .ref (a 23)]) ⟨hx, hb, hml, hown, hts⟩ ((n_mixed l D k st lo r_15 (fb3_6 (g3_6 + 2 ^ q_5)) (fb3_6 g3_6)) H.size) (va_cwS 3 hts (gS tw_1269 tw_1270 tw_87 tw_1271) rfl rfl rfl (by decide +kernel) ⟨Nat.le_of_ble_eq_true rfl, Nat.le_of_ble_eq_true rfl⟩) (pS hS hAlo hlo hP hK (va_Dlo hD hAlo) hZ [] (by decide) rfl) rfl rfl hl.1 rfl (lv_room (Nat.le_of_ble_eq_true rfl)) dX8_startOf_124 ⟨Nat.le_of_ble_eq_true rfl, Nat.le_of_ble_eq_true rfl⟩) hS hA hP (fun r_16 H locs hw_16 hP hS => ?_)
            try dsimp only at hw_16
            refine va_iast hx hb hK hP hD hS 6 1 rfl rfl (vp_in_nI (by omega) (by decide)) dX8_startOf_127 (fun H locs hP hD hS => ?_)
            have hQ9 := pd_mk [((a 0), .inr (8, (fX8 a (nI tx) fp (nI t0) wd (nI we) nu na (nI rd) ts (nI ru) (nI rw) (nI ca) df db sd))), (aI k (a 1) 3 (nF dn)), (aI k (a 4) 27 (sg se tm gs)), (aI k (a 2) 72 ffrees), (aI k (a 3) 72 fprices), (aI k (a 19) 768 fworths), (aI k (a 23) 8 (upd fb3_6 (Int32.toNatClampNeg (nI g3_6)) r_16))] hP hD
            clear hP hD
            obtain ⟨hP, hD⟩ := hQ9
            rw [nI_clamp (n := g3_6) (by omega)] at hP hD
            have hQ9 := pd_mk [((a 0), .inr (8, (fX8 a (nI tx) fp (nI t0) wd (nI we) nu na (nI rd) ts (nI ru) (nI rw) (nI ca) df db sd))), (aI k (a 1) 3 (nF dn)), (aI k (a 4) 27 (sg se tm gs)), (aI k (a 2) 72 ffrees), (aI k (a 3) 72 fprices), (aI k (a 19) 768 fworths), (aI k (a 23) 8 (upd fb3_6 g3_6 r_16))] hP hD
            clear hP hD
            obtain ⟨hP, hD⟩ := hQ9
            refine lv_iinc (v := (nI (g3_6 + 1))) (lv' := [(5, .int (nI (g3_6 + 1))), (6, .int 0), (4, .int (nI q_5)), (3, .int (nI sv_2)), (0, .ref (a 0)), (1, .int (nI sn)), (2, .int (nI rn))]) hx hb dX8_startOf_128 hl (k := 1) rfl (nI_add g3_6 1) (by decide) rfl (fun ls hl => ?_)
            refine lv_goto (tgt := 56) hx hb dX8_startOf_131 (by decide) ?_
            have hst_6 := fo_stepM (d := (sdM dn (sg se tm gs) ffrees fprices sn)) (W := (fun h => pWo (sdM dn (sg se tm gs) ffrees fprices sn) (se sn) rn E9 0 h)) (q := (sqN (se sn) (dn sn) 0)) (show q_5 < (sqN (se sn) (dn sn) 0) by omega) (show g3_6 < 2 ^ q_5 by omega) hv_6.2.1 hv_6.2.2 (by rw [(ahm_0 (by omega) (by omega) c_14)]; exact hw_15.trans (mChance (show q_5 < dn sn by omega))) rfl rfl hw_16
            exact ih_6 _ (g3_6 + 1, (upd fb3_6 g3_6 r_16)) _ _ _ (by omega) ⟨rfl, ⟨by omega, hst_6.1, hst_6.2⟩, hP, hD, hS, (lv_sub hl [0, 2, 3, 4, 5, 6] rfl)⟩
          · rw [ex_13, ex_12] at c_14
            refine lv_iconst (v := 1) hx hb dX8_startOf_83 (by decide) ?_
            refine lv_goto (tgt := 88) hx hb dX8_startOf_84 (by decide) ?_
            refine lv_istore (lv' := [(6, .int 1), (5, .int (nI g3_6)), (4, .int (nI q_5)), (3, .int (nI sv_2)), (0, .ref (a 0)), (1, .int (nI sn)), (2, .int (nI rn))]) hx hb dX8_startOf_88 hl (by decide) rfl (fun ls hl => ?_)
            refine lv_aload_n hx hb dX8_startOf_90 rfl (lv_at hl 4 rfl) ?_
            refine va_get (D := D) (ci := 8) (v := .ref (a 23)) (C := RX8) (T := TX8) (N := 44) hx hb hts inX8 hown hK hP 0 rfl rfl 22 (by decide) (hts _ tw_995) (fun _ h9 => h9) rfl dX8_startOf_91 ?_
            refine lv_iload hx hb dX8_startOf_94 (lv_at hl 1 rfl) ?_
            refine lv_aload_n hx hb dX8_startOf_96 rfl (lv_at hl 4 rfl) ?_
            refine lv_iload_n hx hb dX8_startOf_97 rfl (lv_at hl 5 rfl) ?_
            refine lv_iload hx hb dX8_startOf_98 (lv_at hl 2 rfl) ?_
            refine lv_iload hx hb dX8_startOf_100 (lv_at hl 0 rfl) ?_
            refine ro_i (D := D) (va_runV (As := [.int (nI sn), .int (nI q_5), .int 1]) (rest := [.int (nI g3_6), .ref (a 23)]) ⟨hx, hb, hml, hown, hts⟩ ((n_chanceOf l D k st lo a tx t0 we rd ru rw ca fp wd nu na ts df db sd ffrees se tm gs sn q_5 1 (by first | assumption | omega) (by first | assumption | omega)) H.size) (cwV 3 hts (gV tw_1210 tw_1212 tw_41 tw_87 tw_1213) rfl rfl rfl (by decide +kernel) ⟨Nat.le_of_ble_eq_true rfl, Nat.le_of_ble_eq_true rfl⟩) (pV hS hAlo hlo hP hK (va_Dlo hD hAlo) hZ [0, 3, 2] (by decide) rfl (ci := 8) (q := (RX8, TX8, 44)) (q0 := 0) rfl rfl) rfl rfl hl.1 rfl (lv_room (Nat.le_of_ble_eq_true rfl)) dX8_startOf_102 ⟨Nat.le_of_ble_eq_true rfl, Nat.le_of_ble_eq_true rfl⟩) hS hA hP (fun r_18 H locs hw_18 hP hS => ?_)
            try dsimp only at hw_18
            refine lv_aload_n hx hb dX8_startOf_105 rfl (lv_at hl 4 rfl) ?_
            refine va_get (D := D) (ci := 8) (v := .ref (a 23)) (C := RX8) (T := TX8) (N := 44) hx hb hts inX8 hown hK hP 0 rfl rfl 22 (by decide) (hts _ tw_995) (fun _ h9 => h9) rfl dX8_startOf_106 ?_
            refine lv_iload hx hb dX8_startOf_109 (lv_at hl 1 rfl) ?_
            refine lv_iconst (v := 1) hx hb dX8_startOf_111 (by decide) ?_
            refine lv_iload hx hb dX8_startOf_112 (lv_at hl 2 rfl) ?_
            refine lv_ishl hx hb dX8_startOf_114 ?_
            refine lv_ti (y := (nI (2 ^ q_5))) (shl1 q_5 (by omega)) ?_
            refine lv_ior hx hb dX8_startOf_115 ?_
            refine lv_ti (y := (nI (g3_6 + 2 ^ q_5))) (or_bit2 q_5 (by omega) g3_6 (by omega)) ?_
            refine va_iald hx hb hK hP 6 1 rfl rfl (vp_in_nI (by omega) (by decide)) dX8_startOf_116 ?_
            refine lv_ti (y := (fb3_6 (g3_6 + 2 ^ q_5))) (by rw [nI_clamp (by omega)]) ?_
            refine lv_aload_n hx hb dX8_startOf_117 rfl (lv_at hl 4 rfl) ?_
            refine va_get (D := D) (ci := 8) (v := .ref (a 23)) (C := RX8) (T := TX8) (N := 44) hx hb hts inX8 hown hK hP 0 rfl rfl 22 (by decide) (hts _ tw_995) (fun _ h9 => h9) rfl dX8_startOf_118 ?_
            refine lv_iload hx hb dX8_startOf_121 (lv_at hl 1 rfl) ?_
            refine va_iald hx hb hK hP 6 1 rfl rfl (vp_in_nI (by omega) (by decide)) dX8_startOf_123 ?_
            refine lv_ti (y := (fb3_6 g3_6)) (by rw [nI_clamp (by omega)]) ?_
            refine ro_i (D := D) (va_runS (As := [.int r_18, .int (fb3_6 (g3_6 + 2 ^ q_5)), .int (fb3_6 g3_6)]) (rest := [.int (nI g3_6), .ref (a 23)]) ⟨hx, hb, hml, hown, hts⟩ ((n_mixed l D k st lo r_18 (fb3_6 (g3_6 + 2 ^ q_5)) (fb3_6 g3_6)) H.size) (va_cwS 3 hts (gS tw_1269 tw_1270 tw_87 tw_1271) rfl rfl rfl (by decide +kernel) ⟨Nat.le_of_ble_eq_true rfl, Nat.le_of_ble_eq_true rfl⟩) (pS hS hAlo hlo hP hK (va_Dlo hD hAlo) hZ [] (by decide) rfl) rfl rfl hl.1 rfl (lv_room (Nat.le_of_ble_eq_true rfl)) dX8_startOf_124 ⟨Nat.le_of_ble_eq_true rfl, Nat.le_of_ble_eq_true rfl⟩) hS hA hP (fun r_19 H locs hw_19 hP hS => ?_)
            try dsimp only at hw_19
            refine va_iast hx hb hK hP hD hS 6 1 rfl rfl (vp_in_nI (by omega) (by decide)) dX8_startOf_127 (fun H locs hP hD hS => ?_)
            have hQ9 := pd_mk [((a 0), .inr (8, (fX8 a (nI tx) fp (nI t0) wd (nI we) nu na (nI rd) ts (nI ru) (nI rw) (nI ca) df db sd))), (aI k (a 1) 3 (nF dn)), (aI k (a 4) 27 (sg se tm gs)), (aI k (a 2) 72 ffrees), (aI k (a 3) 72 fprices), (aI k (a 19) 768 fworths), (aI k (a 23) 8 (upd fb3_6 (Int32.toNatClampNeg (nI g3_6)) r_19))] hP hD
            clear hP hD
            obtain ⟨hP, hD⟩ := hQ9
            rw [nI_clamp (n := g3_6) (by omega)] at hP hD
            have hQ9 := pd_mk [((a 0), .inr (8, (fX8 a (nI tx) fp (nI t0) wd (nI we) nu na (nI rd) ts (nI ru) (nI rw) (nI ca) df db sd))), (aI k (a 1) 3 (nF dn)), (aI k (a 4) 27 (sg se tm gs)), (aI k (a 2) 72 ffrees), (aI k (a 3) 72 fprices), (aI k (a 19) 768 fworths), (aI k (a 23) 8 (upd fb3_6 g3_6 r_19))] hP hD
            clear hP hD
            obtain ⟨hP, hD⟩ := hQ9
            refine lv_iinc (v := (nI (g3_6 + 1))) (lv' := [(5, .int (nI (g3_6 + 1))), (6, .int 1), (4, .int (nI q_5)), (3, .int (nI sv_2)), (0, .ref (a 0)), (1, .int (nI sn)), (2, .int (nI rn))]) hx hb dX8_startOf_128 hl (k := 1) rfl (nI_add g3_6 1) (by decide) rfl (fun ls hl => ?_)
            refine lv_goto (tgt := 56) hx hb dX8_startOf_131 (by decide) ?_
            have hst_6 := fo_stepM (d := (sdM dn (sg se tm gs) ffrees fprices sn)) (W := (fun h => pWo (sdM dn (sg se tm gs) ffrees fprices sn) (se sn) rn E9 0 h)) (q := (sqN (se sn) (dn sn) 0)) (show q_5 < (sqN (se sn) (dn sn) 0) by omega) (show g3_6 < 2 ^ q_5 by omega) hv_6.2.1 hv_6.2.2 (by rw [(ahm_1 (by omega) (by omega) (by omega) c_14)]; exact hw_18.trans (mChance (show q_5 < dn sn by omega))) rfl rfl hw_19
            exact ih_6 _ (g3_6 + 1, (upd fb3_6 g3_6 r_19)) _ _ _ (by omega) ⟨rfl, ⟨by omega, hst_6.1, hst_6.2⟩, hP, hD, hS, (lv_sub hl [0, 2, 3, 4, 5, 6] rfl)⟩
  · have c_4 : ¬ ((2 ^ sv_2) ≤ g2_3) := fun h => c_4 ((nI_leI (a := (2 ^ sv_2)) (b := g2_3) (by omega) (by omega)).mpr h)
    refine lv_aload_n hx hb dX8_startOf_18 rfl (lv_at hl 2 rfl) ?_
    refine va_get (D := D) (ci := 8) (v := .ref (a 23)) (C := RX8) (T := TX8) (N := 44) hx hb hts inX8 hown hK hP 0 rfl rfl 22 (by decide) (hts _ tw_995) (fun _ h9 => h9) rfl dX8_startOf_19 ?_
    refine lv_iload hx hb dX8_startOf_22 (lv_at hl 0 rfl) ?_
    refine lv_aload_n hx hb dX8_startOf_24 rfl (lv_at hl 2 rfl) ?_
    refine va_get (D := D) (ci := 8) (v := .ref (a 19)) (C := RX8) (T := TX8) (N := 44) hx hb hts inX8 hown hK hP 0 rfl rfl 18 (by decide) (hts _ tw_991) (fun _ h9 => h9) rfl dX8_startOf_25 ?_
    refine lv_iload_n hx hb dX8_startOf_28 rfl (lv_at hl 4 rfl) ?_
    refine lv_iconst (v := 0) hx hb dX8_startOf_29 (by decide) ?_
    refine lv_iload hx hb dX8_startOf_30 (lv_at hl 0 rfl) ?_
    refine ro_i (D := D) (va_runS (As := [.int (nI rn), .int 0, .int (nI g2_3)]) (rest := [.ref (a 19), .int (nI g2_3), .ref (a 23)]) ⟨hx, hb, hml, hown, hts⟩ ((m_at l D k st lo rn 0 g2_3) H.size) (va_cwS 3 hts (gS tw_1266 tw_1267 tw_87 tw_1268) rfl rfl rfl (by decide +kernel) ⟨Nat.le_of_ble_eq_true rfl, Nat.le_of_ble_eq_true rfl⟩) (pS hS hAlo hlo hP hK (va_Dlo hD hAlo) hZ [] (by decide) rfl) rfl rfl hl.1 rfl (lv_room (Nat.le_of_ble_eq_true rfl)) dX8_startOf_32 ⟨Nat.le_of_ble_eq_true rfl, Nat.le_of_ble_eq_true rfl⟩) hS hA hP (fun r_21 H locs hw_21 hP hS => ?_)
    try dsimp only at hw_21
    subst hw_21
    refine va_iald hx hb hK hP 5 1 rfl rfl (vp_in_nI (by omega) (by decide)) dX8_startOf_35 ?_
    refine lv_ti (y := (fworths (192 * rn + 8 * 0 + g2_3))) (by rw [nI_clamp (by omega)]) ?_
    refine va_iast hx hb hK hP hD hS 6 1 rfl rfl (vp_in_nI (by omega) (by decide)) dX8_startOf_36 (fun H locs hP hD hS => ?_)
    have hQ9 := pd_mk [((a 0), .inr (8, (fX8 a (nI tx) fp (nI t0) wd (nI we) nu na (nI rd) ts (nI ru) (nI rw) (nI ca) df db sd))), (aI k (a 1) 3 (nF dn)), (aI k (a 4) 27 (sg se tm gs)), (aI k (a 2) 72 ffrees), (aI k (a 3) 72 fprices), (aI k (a 19) 768 fworths), (aI k (a 23) 8 (upd fb_3 (Int32.toNatClampNeg (nI g2_3)) (fworths (192 * rn + 8 * 0 + g2_3))))] hP hD
    clear hP hD
    obtain ⟨hP, hD⟩ := hQ9
    rw [nI_clamp (n := g2_3) (by omega)] at hP hD
    have hQ9 := pd_mk [((a 0), .inr (8, (fX8 a (nI tx) fp (nI t0) wd (nI we) nu na (nI rd) ts (nI ru) (nI rw) (nI ca) df db sd))), (aI k (a 1) 3 (nF dn)), (aI k (a 4) 27 (sg se tm gs)), (aI k (a 2) 72 ffrees), (aI k (a 3) 72 fprices), (aI k (a 19) 768 fworths), (aI k (a 23) 8 (upd fb_3 g2_3 (fworths (192 * rn + 8 * 0 + g2_3))))] hP hD
    clear hP hD
    obtain ⟨hP, hD⟩ := hQ9
    refine lv_iinc (v := (nI (g2_3 + 1))) (lv' := [(4, .int (nI (g2_3 + 1))), (3, .int (nI sv_2)), (0, .ref (a 0)), (1, .int (nI sn)), (2, .int (nI rn))]) hx hb dX8_startOf_37 hl (k := 0) rfl (nI_add g2_3 1) (by decide) rfl (fun ls hl => ?_)
    refine lv_goto (tgt := 10) hx hb dX8_startOf_40 (by decide) ?_
    exact ih_3 _ (g2_3 + 1, (upd fb_3 g2_3 (fworths (192 * rn + 8 * 0 + g2_3)))) _ _ _ (by omega) ⟨rfl, ⟨by omega, la_upd hv_3.2 ((congrArg fworths (show 192 * rn + 8 * 0 + g2_3 = slN rn 0 g2_3 by unfold slN; omega)).trans (hE 0 (by omega) (show 0 < dn sn by omega) g2_3 (show g2_3 < 2 ^ sqN (se sn) (dn sn) 0 by rw [← esv_2]; omega)))⟩, hP, hD, hS, (lv_sub hl [0, 1, 2, 3, 4] rfl)⟩


set_option maxHeartbeats 4000000 in
set_option maxRecDepth 100000 in
theorem n_findRound (l : Launch) (D : va_G) (k : Nat → ClassId) (st : Nat → Nat) (lo : Nat) (a : Nat → Nat) (tx : Nat) (t0 : Nat) (we : Nat) (rd : Nat) (ru : Nat) (rw : Nat) (ca : Nat) (fp : Int32) (wd : Int64) (nu : Int32) (na : Int32) (ts : Int32) (df : Int32) (db : Int32) (sd : Int32) (dn : Nat → Nat) (se : Nat → Nat) (tm : Nat → Nat) (gs : Nat → Int32) (ffrees : Nat → Int32) (fprices : Nat → Int32) (fons : Nat → Int32) (fworths : Nat → Int32) (fstarts : Nat → Int32) (fends : Nat → Int32) (fgoesRound : Nat → Int32) (fbegin : Nat → Int32) (sn : Nat) (rn : Nat) (hdn : ∀ j, dn j ≤ 24) (hse : ∀ j, se j ≤ 2) (htm : ∀ j, tm j ≤ 3) (hs : sn < 3) (hrn : rn ≤ tm sn) (h0 : 0 < dn sn) (hWm : wmOK (sdM dn (sg se tm gs) ffrees fprices sn) (se sn) (tm sn) (rn + 1) fons fworths fstarts fends fgoesRound) : CWv l D k st lo yX8_findRound cX8_findRound 10 none ({ frames := 4, cells := 0, slots := 0, locals := 93 }) 0 0 [.ref (a 0), .int (nI sn), .int (nI rn)] [((a 0), .inr (8, (fX8 a (nI tx) fp (nI t0) wd (nI we) nu na (nI rd) ts (nI ru) (nI rw) (nI ca) df db sd))), (aI k (a 1) 3 (nF dn)), (aI k (a 4) 27 (sg se tm gs)), (aI k (a 2) 72 ffrees), (aI k (a 3) 72 fprices), (aI k (a 18) 768 fons), (aI k (a 19) 768 fworths), (aI k (a 20) 5 fstarts), (aI k (a 21) 4 fends), (aZ k (a 22) 4 fgoesRound), (aI k (a 23) 8 fbegin)] (fun (u : (Nat → Int32) × (Nat → Int32) × (Nat → Int32) × (Nat → Int32) × (Nat → Int32) × (Nat → Int32)) => match u with | (fons_, fworths_, fstarts_, fends_, fgoesRound_, fbegin_) => wmOK (sdM dn (sg se tm gs) ffrees fprices sn) (se sn) (tm sn) rn fons_ fworths_ fstarts_ fends_ fgoesRound_) (fun (u : (Nat → Int32) × (Nat → Int32) × (Nat → Int32) × (Nat → Int32) × (Nat → Int32) × (Nat → Int32)) => match u with | (fons_, fworths_, fstarts_, fends_, fgoesRound_, fbegin_) => [((a 0), .inr (8, (fX8 a (nI tx) fp (nI t0) wd (nI we) nu na (nI rd) ts (nI ru) (nI rw) (nI ca) df db sd))), (aI k (a 1) 3 (nF dn)), (aI k (a 4) 27 (sg se tm gs)), (aI k (a 2) 72 ffrees), (aI k (a 3) 72 fprices), (aI k (a 18) 768 fons_), (aI k (a 19) 768 fworths_), (aI k (a 20) 5 fstarts_), (aI k (a 21) 4 fends_), (aZ k (a 22) 4 fgoesRound_), (aI k (a 23) 8 fbegin_)]) := by
  intro sz
  refine Met.ofW (cc := cX8_findRound) (maxL := 10) (ret := none) (by decide) rfl ?_
  intro p e s m args below meth c s₁ B hml hv
  obtain ⟨rfl, hsz, hlo, hP, hK, hDL, hZ⟩ := hv
  have hx := B.exec
  have hb := B.bytes
  have hr := B.returns
  have hts := WS_ts B.pre
  have hown : s.vm.findClass RX8 = some m.cls := findClass_of_methodNamed B.named
  have hlocks := B.notSynchronized
  subst hsz
  have hD := hDL.self (sz := s.heap.size)
  have hAlo := A_lo hDL hlo
  generalize hAe : va_A [((a 0), .inr (8, (fX8 a (nI tx) fp (nI t0) wd (nI we) nu na (nI rd) ts (nI ru) (nI rw) (nI ca) df db sd))), (aI k (a 1) 3 (nF dn)), (aI k (a 4) 27 (sg se tm gs)), (aI k (a 2) 72 ffrees), (aI k (a 3) 72 fprices), (aI k (a 18) 768 fons), (aI k (a 19) 768 fworths), (aI k (a 20) 5 fstarts), (aI k (a 21) 4 fends), (aZ k (a 22) 4 fgoesRound), (aI k (a 23) 8 fbegin)] s.heap.size = A at hD hAlo ⊢
  have hA : ∀ q : Nat, s.heap.size ≤ q → A q := fun q h => by rw [← hAe]; exact Or.inr h
  have hS : va_S A s.heap s.heap [] := va_S.rf
  have hl := lv_entry ([.ref (a 0), .int (nI sn), .int (nI rn)]) (n := 10) (Nat.le_of_ble_eq_true rfl)
  rw [lg_entry_eq]
  generalize (lg_sl ([.ref (a 0), .int (nI sn), .int (nI rn)]) ++ List.replicate (10 - (lg_sl ([.ref (a 0), .int (nI sn), .int (nI rn)])).length) Slot.unset).toArray = ls at hl ⊢
  have hl : lv_has ls 10 [(0, .ref (a 0)), (1, .int (nI sn)), (2, .int (nI rn))] := hl
  have hd_9 := hdn sn
  have hd_8 := hse sn
  have hd_7 := htm sn
  refine lv_aload_n hx hb dX8_findRound_0 rfl (lv_at hl 0 rfl) ?_
  refine va_get (D := D) (ci := 8) (v := .ref (a 1)) (C := RX8) (T := TX8) (N := 44) hx hb hts inX8 hown hK hP 0 rfl rfl 0 (by decide) (hts _ tw_973) (fun _ h9 => h9) rfl dX8_findRound_1 ?_
  refine lv_iload_n hx hb dX8_findRound_4 rfl (lv_at hl 1 rfl) ?_
  refine va_iald hx hb hK hP 1 1 rfl rfl (vp_in_nI (by omega) (by decide)) dX8_findRound_5 ?_
  refine lv_ti (y := (nI (dn sn))) (by rw [nI_clamp (by omega)]; rfl) ?_
  refine lv_istore_n (lv' := [(3, .int (nI (dn sn))), (0, .ref (a 0)), (1, .int (nI sn)), (2, .int (nI rn))]) hx hb dX8_findRound_6 rfl hl (by decide) rfl (fun ls hl => ?_)
  refine lv_aload_n hx hb dX8_findRound_7 rfl (lv_at hl 1 rfl) ?_
  refine lv_iload_n hx hb dX8_findRound_8 rfl (lv_at hl 2 rfl) ?_
  refine lv_iload_n hx hb dX8_findRound_9 rfl (lv_at hl 3 rfl) ?_
  refine ro_i (D := D) (va_runV (As := [.int (nI sn), .int (nI rn)]) (rest := []) ⟨hx, hb, hml, hown, hts⟩ ((n_garageOf l D k st lo a tx t0 we rd ru rw ca fp wd nu na ts df db sd dn se tm gs sn (nI rn) (by first | assumption | omega)) s.heap.size) (cwV 2 hts (gV tw_1258 tw_1260 tw_51 tw_87 tw_1261) rfl rfl rfl (by decide +kernel) ⟨Nat.le_of_ble_eq_true rfl, Nat.le_of_ble_eq_true rfl⟩) (pV hS hAlo hlo hP hK (va_Dlo hD hAlo) hZ [0, 1, 2] (by decide) rfl (ci := 8) (q := (RX8, TX8, 44)) (q0 := 0) rfl rfl) rfl rfl hl.1 rfl (lv_room (Nat.le_of_ble_eq_true rfl)) dX8_findRound_10 ⟨Nat.le_of_ble_eq_true rfl, Nat.le_of_ble_eq_true rfl⟩) hS hA hP (fun r_1 H locs hw_1 hP hS => ?_)
  try dsimp only at hw_1
  refine lv_istore (lv' := [(4, .int r_1), (3, .int (nI (dn sn))), (0, .ref (a 0)), (1, .int (nI sn)), (2, .int (nI rn))]) hx hb dX8_findRound_13 hl (by decide) rfl (fun ls hl => ?_)
  refine lv_iload_n hx hb dX8_findRound_15 rfl (lv_at hl 4 rfl) ?_
  refine lv_aload_n hx hb dX8_findRound_16 rfl (lv_at hl 2 rfl) ?_
  refine lv_iload_n hx hb dX8_findRound_17 rfl (lv_at hl 3 rfl) ?_
  refine lv_bipush (v := 7) hx hb dX8_findRound_18 (by decide) ?_
  refine ro_i (D := D) (va_runV (As := [.int (nI sn), .int 7]) (rest := [.int (nI rn)]) ⟨hx, hb, hml, hown, hts⟩ ((m_of l D k st lo a tx t0 we rd ru rw ca fp wd nu na ts df db sd se tm gs sn 7 (by first | assumption | omega) (by first | assumption | omega)) H.size) (cwV 2 hts (gV tw_1194 tw_1196 tw_39 tw_87 tw_1197) rfl rfl rfl (by decide +kernel) ⟨Nat.le_of_ble_eq_true rfl, Nat.le_of_ble_eq_true rfl⟩) (pV hS hAlo hlo hP hK (va_Dlo hD hAlo) hZ [0, 2] (by decide) rfl (ci := 8) (q := (RX8, TX8, 44)) (q0 := 0) rfl rfl) rfl rfl hl.1 rfl (lv_room (Nat.le_of_ble_eq_true rfl)) dX8_findRound_20 ⟨Nat.le_of_ble_eq_true rfl, Nat.le_of_ble_eq_true rfl⟩) hS hA hP (fun r_2 H locs hw_2 hP hS => ?_)
  try dsimp only at hw_2
  obtain rfl := hw_2.trans (sg_tm _ _ _ _)
  refine lv_icmp_ge (tgt := 56) hx hb dX8_findRound_23 (by decide) (fun c_3 => ?_) (fun c_3 => ?_)
  · have c_3 := (nI_leI (a := (tm sn)) (b := rn) (by omega) (by omega)).mp c_3
    refine lv_iload hx hb dX8_findRound_56 (lv_at hl 0 rfl) ?_
    refine lv_istore (lv' := [(5, .int r_1), (4, .int r_1), (3, .int (nI (dn sn))), (0, .ref (a 0)), (1, .int (nI sn)), (2, .int (nI rn))]) hx hb dX8_findRound_58 hl (by decide) rfl (fun ls hl => ?_)
    refine lv_aload_n hx hb dX8_findRound_60 rfl (lv_at hl 3 rfl) ?_
    refine va_get (D := D) (ci := 8) (v := .ref (a 22)) (C := RX8) (T := TX8) (N := 44) hx hb hts inX8 hown hK hP 0 rfl rfl 21 (by decide) (hts _ tw_994) (fun _ h9 => h9) rfl dX8_findRound_61 ?_
    refine lv_iload_n hx hb dX8_findRound_64 rfl (lv_at hl 5 rfl) ?_
    refine lv_iload hx hb dX8_findRound_65 (lv_at hl 0 rfl) ?_
    refine lv_iload hx hb dX8_findRound_67 (lv_at hl 1 rfl) ?_
    refine lv_icmp_ge (tgt := 76) hx hb dX8_findRound_69 (by decide) (fun c_4 => ?_) (fun c_4 => absurd c_4 (fun h => h (Int32.le_refl _)))
    refine lv_iconst (v := 0) hx hb dX8_findRound_76 (by decide) ?_
    refine va_zast hx hb hK hP hD hS 9 2 rfl rfl (vp_in_nI (by omega) (by decide)) dX8_findRound_77 (fun H locs hP hD hS => ?_)
    have hQ9 := pd_mk [((a 0), .inr (8, (fX8 a (nI tx) fp (nI t0) wd (nI we) nu na (nI rd) ts (nI ru) (nI rw) (nI ca) df db sd))), (aI k (a 1) 3 (nF dn)), (aI k (a 4) 27 (sg se tm gs)), (aI k (a 2) 72 ffrees), (aI k (a 3) 72 fprices), (aI k (a 18) 768 fons), (aI k (a 19) 768 fworths), (aI k (a 20) 5 fstarts), (aI k (a 21) 4 fends), (aZ k (a 22) 4 (upd fgoesRound (Int32.toNatClampNeg (nI rn)) (vp_nar .boolean 0))), (aI k (a 23) 8 fbegin)] hP hD
    clear hP hD
    obtain ⟨hP, hD⟩ := hQ9
    rw [nI_clamp (n := rn) (by omega)] at hP hD
    have hQ9 := pd_mk [((a 0), .inr (8, (fX8 a (nI tx) fp (nI t0) wd (nI we) nu na (nI rd) ts (nI ru) (nI rw) (nI ca) df db sd))), (aI k (a 1) 3 (nF dn)), (aI k (a 4) 27 (sg se tm gs)), (aI k (a 2) 72 ffrees), (aI k (a 3) 72 fprices), (aI k (a 18) 768 fons), (aI k (a 19) 768 fworths), (aI k (a 20) 5 fstarts), (aI k (a 21) 4 fends), (aZ k (a 22) 4 (upd fgoesRound rn (vp_nar .boolean 0))), (aI k (a 23) 8 fbegin)] hP hD
    clear hP hD
    obtain ⟨hP, hD⟩ := hQ9
    refine lv_aload_n hx hb dX8_findRound_78 rfl (lv_at hl 3 rfl) ?_
    refine va_get (D := D) (ci := 8) (v := .ref (a 21)) (C := RX8) (T := TX8) (N := 44) hx hb hts inX8 hown hK hP 0 rfl rfl 20 (by decide) (hts _ tw_993) (fun _ h9 => h9) rfl dX8_findRound_79 ?_
    refine lv_iload_n hx hb dX8_findRound_82 rfl (lv_at hl 5 rfl) ?_
    refine lv_iload hx hb dX8_findRound_83 (lv_at hl 0 rfl) ?_
    refine lv_iload hx hb dX8_findRound_85 (lv_at hl 1 rfl) ?_
    refine lv_icmp_ge (tgt := 95) hx hb dX8_findRound_87 (by decide) (fun c_6 => ?_) (fun c_6 => absurd c_6 (fun h => h c_4))
    refine lv_iload hx hb dX8_findRound_95 (lv_at hl 1 rfl) ?_
    refine va_iast hx hb hK hP hD hS 8 1 rfl rfl (vp_in_nI (by omega) (by decide)) dX8_findRound_97 (fun H locs hP hD hS => ?_)
    have hQ9 := pd_mk [((a 0), .inr (8, (fX8 a (nI tx) fp (nI t0) wd (nI we) nu na (nI rd) ts (nI ru) (nI rw) (nI ca) df db sd))), (aI k (a 1) 3 (nF dn)), (aI k (a 4) 27 (sg se tm gs)), (aI k (a 2) 72 ffrees), (aI k (a 3) 72 fprices), (aI k (a 18) 768 fons), (aI k (a 19) 768 fworths), (aI k (a 20) 5 fstarts), (aI k (a 21) 4 (upd fends (Int32.toNatClampNeg (nI rn)) r_1)), (aZ k (a 22) 4 (upd fgoesRound rn (vp_nar .boolean 0))), (aI k (a 23) 8 fbegin)] hP hD
    clear hP hD
    obtain ⟨hP, hD⟩ := hQ9
    rw [nI_clamp (n := rn) (by omega)] at hP hD
    have hQ9 := pd_mk [((a 0), .inr (8, (fX8 a (nI tx) fp (nI t0) wd (nI we) nu na (nI rd) ts (nI ru) (nI rw) (nI ca) df db sd))), (aI k (a 1) 3 (nF dn)), (aI k (a 4) 27 (sg se tm gs)), (aI k (a 2) 72 ffrees), (aI k (a 3) 72 fprices), (aI k (a 18) 768 fons), (aI k (a 19) 768 fworths), (aI k (a 20) 5 fstarts), (aI k (a 21) 4 (upd fends rn r_1)), (aZ k (a 22) 4 (upd fgoesRound rn (vp_nar .boolean 0))), (aI k (a 23) 8 fbegin)] hP hD
    clear hP hD
    obtain ⟨hP, hD⟩ := hQ9
    have hga_8 := hw_1.trans (mGar (dn := dn) (se := se) (tm := tm) (gs := gs) (ffr := ffrees) (fpr := fprices) (s := sn) (r := rn))
    have hx_8 : r_1 = pEr (sdM dn (sg se tm gs) ffrees fprices sn) (se sn) (tm sn) rn := by rw [show rn = tm sn by omega] at hga_8 ⊢; rw [pEr_last]; exact hga_8
    have hy_8 : (vp_nar .boolean 0) = grV (sdM dn (sg se tm gs) ffrees fprices sn) (se sn) (tm sn) rn := by unfold grV; rw [show rn = tm sn by omega, pEr_last, if_neg Int32.lt_irrefl]; rfl
    refine lv_iload_n hx hb dX8_findRound_98 rfl (lv_at hl 2 rfl) ?_
    refine lv_iconst (v := 1) hx hb dX8_findRound_99 (by decide) ?_
    refine lv_isub hx hb dX8_findRound_100 ?_
    refine lv_ti (y := (nI (dn sn) - 1)) rfl ?_
    refine lv_istore (lv' := [(6, .int (nI (dn sn) - 1)), (5, .int r_1), (4, .int r_1), (3, .int (nI (dn sn))), (0, .ref (a 0)), (1, .int (nI sn)), (2, .int (nI rn))]) hx hb dX8_findRound_101 hl (by decide) rfl (fun ls hl => ?_)
    refine W_loop (σ := Nat × (Nat → Int32) × (Nat → Int32)) (fun (n_ : Nat) (x_ : Nat × (Nat → Int32) × (Nat → Int32)) (H : Heap) (locs : List Loc) (ls : Array Slot) => match x_ with | (q_9, fo_9, fw_9) => n_ = 2 * q_9 ∧ (q_9 ≤ dn sn ∧ onOK (sdM dn (sg se tm gs) ffrees fprices sn) (se sn) rn r_1 q_9 fo_9 ∧ wwOK (sdM dn (sg se tm gs) ffrees fprices sn) (se sn) rn r_1 q_9 fw_9 ∧ (∀ x, ¬ (192 * rn ≤ x ∧ x < 192 * rn + 192) → fo_9 x = fons x) ∧ (∀ x, ¬ (192 * rn ≤ x ∧ x < 192 * rn + 192) → fw_9 x = fworths x)) ∧ va_P D classes [((a 0), .inr (8, (fX8 a (nI tx) fp (nI t0) wd (nI we) nu na (nI rd) ts (nI ru) (nI rw) (nI ca) df db sd))), (aI k (a 1) 3 (nF dn)), (aI k (a 4) 27 (sg se tm gs)), (aI k (a 2) 72 ffrees), (aI k (a 3) 72 fprices), (aI k (a 18) 768 fo_9), (aI k (a 19) 768 fw_9), (aI k (a 20) 5 fstarts), (aI k (a 21) 4 (upd fends rn r_1)), (aZ k (a 22) 4 (upd fgoesRound rn (vp_nar .boolean 0))), (aI k (a 23) 8 fbegin)] H ∧ va_D A [((a 0), .inr (8, (fX8 a (nI tx) fp (nI t0) wd (nI we) nu na (nI rd) ts (nI ru) (nI rw) (nI ca) df db sd))), (aI k (a 1) 3 (nF dn)), (aI k (a 4) 27 (sg se tm gs)), (aI k (a 2) 72 ffrees), (aI k (a 3) 72 fprices), (aI k (a 18) 768 fo_9), (aI k (a 19) 768 fw_9), (aI k (a 20) 5 fstarts), (aI k (a 21) 4 (upd fends rn r_1)), (aZ k (a 22) 4 (upd fgoesRound rn (vp_nar .boolean 0))), (aI k (a 23) 8 fbegin)] ∧ va_S A s.heap H locs ∧ lv_has ls 10 [(6, .int (nI q_9 - 1)), (5, .int r_1), (4, .int r_1), (3, .int (nI (dn sn))), (0, .ref (a 0)), (1, .int (nI sn)), (2, .int (nI rn))]) (fun n_9 x_9 H locs ls hI ih_9 => ?_) _ (dn sn, fons, fworths) ⟨rfl, ⟨by omega, fun i h1 h2 => absurd h1 (by have h3 : i < dn sn := h2; omega), fun i h1 h2 => absurd h1 (by have h3 : i < dn sn := h2; omega), fun _ _ => rfl, fun _ _ => rfl⟩, hP, hD, hS, (lv_sub hl [0, 1, 2, 3, 4, 5, 6] rfl)⟩
    obtain ⟨q_9, fo_9, fw_9⟩ := x_9
    obtain ⟨hm_9, hv_9, hP, hD, hS, hl⟩ := hI
    subst hm_9
    rcases q_9 with _ | q_9
    · rw [dn0] at hl
      refine lv_iload hx hb dX8_findRound_103 (lv_at hl 0 rfl) ?_
      refine lv_if_lt (tgt := 237) hx hb dX8_findRound_105 (by decide) (fun _ => ?_) (fun h => absurd (by decide) h)
      refine lv_aload_n hx hb dX8_findRound_237 rfl (lv_at hl 4 rfl) ?_
      refine va_get (D := D) (ci := 8) (v := .ref (a 20)) (C := RX8) (T := TX8) (N := 44) hx hb hts inX8 hown hK hP 0 rfl rfl 19 (by decide) (hts _ tw_992) (fun _ h9 => h9) rfl dX8_findRound_238 ?_
      refine lv_iload_n hx hb dX8_findRound_241 rfl (lv_at hl 6 rfl) ?_
      refine lv_aload_n hx hb dX8_findRound_242 rfl (lv_at hl 4 rfl) ?_
      refine lv_iload_n hx hb dX8_findRound_243 rfl (lv_at hl 5 rfl) ?_
      refine lv_iload_n hx hb dX8_findRound_244 rfl (lv_at hl 6 rfl) ?_
      refine rw_i (D := D) (wr := [(aI k (a 18) 768 fo_9), (aI k (a 20) 5 fstarts), (aI k (a 21) 4 (upd fends rn r_1)), (aZ k (a 22) 4 (upd fgoesRound rn (vp_nar .boolean 0)))]) (va_runV (As := [.int (nI sn), .int (nI rn)]) (rest := [.int (nI rn), .ref (a 20)]) ⟨hx, hb, hml, hown, hts⟩ ((n_startOf l D k st lo a tx t0 we rd ru rw ca fp wd nu na ts df db sd dn se tm gs ffrees fprices fw_9 fbegin sn rn r_1 hdn hse (by first | assumption | omega) (by first | assumption | omega) (by first | assumption | omega) hv_9.2.2.1) H.size) (cwV 2 hts (gV tw_1273 tw_1275 tw_53 tw_87 tw_1276) rfl rfl rfl (by decide +kernel) ⟨Nat.le_of_ble_eq_true rfl, Nat.le_of_ble_eq_true rfl⟩) (pV hS hAlo hlo hP hK (va_Dlo hD hAlo) hZ [0, 1, 2, 3, 4, 6, 10] (by decide) rfl (ci := 8) (q := (RX8, TX8, 44)) (q0 := 0) rfl rfl) rfl rfl hl.1 rfl (lv_room (Nat.le_of_ble_eq_true rfl)) dX8_findRound_245 ⟨Nat.le_of_ble_eq_true rfl, Nat.le_of_ble_eq_true rfl⟩) hS hA hP hD [0, 1, 2, 3, 4, 6, 10] [5, 7, 8, 9] rfl rfl (by decide +kernel) (by decide +kernel) (fun r_10 u H locs hw_10 hP hD hS => ?_)
      obtain ⟨fbegin__10, rfl⟩ : ∃ z, z = u := ⟨_, rfl⟩
      have hQ9 := pd_mk [(aI k (a 18) 768 fo_9), (aI k (a 20) 5 fstarts), (aI k (a 21) 4 (upd fends rn r_1)), (aZ k (a 22) 4 (upd fgoesRound rn (vp_nar .boolean 0))), ((a 0), .inr (8, (fX8 a (nI tx) fp (nI t0) wd (nI we) nu na (nI rd) ts (nI ru) (nI rw) (nI ca) df db sd))), (aI k (a 1) 3 (nF dn)), (aI k (a 4) 27 (sg se tm gs)), (aI k (a 2) 72 ffrees), (aI k (a 3) 72 fprices), (aI k (a 19) 768 fw_9), (aI k (a 23) 8 fbegin__10)] hP hD
      clear hP hD
      obtain ⟨hP, hD⟩ := hQ9
      try dsimp only at hw_10
      refine va_iast hx hb hK hP hD hS 1 1 rfl rfl (vp_in_nI (by omega) (by decide)) dX8_findRound_248 (fun H locs hP hD hS => ?_)
      have hQ9 := pd_mk [(aI k (a 18) 768 fo_9), (aI k (a 20) 5 (upd fstarts (Int32.toNatClampNeg (nI rn)) r_10)), (aI k (a 21) 4 (upd fends rn r_1)), (aZ k (a 22) 4 (upd fgoesRound rn (vp_nar .boolean 0))), ((a 0), .inr (8, (fX8 a (nI tx) fp (nI t0) wd (nI we) nu na (nI rd) ts (nI ru) (nI rw) (nI ca) df db sd))), (aI k (a 1) 3 (nF dn)), (aI k (a 4) 27 (sg se tm gs)), (aI k (a 2) 72 ffrees), (aI k (a 3) 72 fprices), (aI k (a 19) 768 fw_9), (aI k (a 23) 8 fbegin__10)] hP hD
      clear hP hD
      obtain ⟨hP, hD⟩ := hQ9
      rw [nI_clamp (n := rn) (by omega)] at hP hD
      have hQ9 := pd_mk [(aI k (a 18) 768 fo_9), (aI k (a 20) 5 (upd fstarts rn r_10)), (aI k (a 21) 4 (upd fends rn r_1)), (aZ k (a 22) 4 (upd fgoesRound rn (vp_nar .boolean 0))), ((a 0), .inr (8, (fX8 a (nI tx) fp (nI t0) wd (nI we) nu na (nI rd) ts (nI ru) (nI rw) (nI ca) df db sd))), (aI k (a 1) 3 (nF dn)), (aI k (a 4) 27 (sg se tm gs)), (aI k (a 2) 72 ffrees), (aI k (a 3) 72 fprices), (aI k (a 19) 768 fw_9), (aI k (a 23) 8 fbegin__10)] hP hD
      clear hP hD
      obtain ⟨hP, hD⟩ := hQ9
      obtain ⟨hP9, hD9⟩ := pd_sub [((a 0), .inr (8, (fX8 a (nI tx) fp (nI t0) wd (nI we) nu na (nI rd) ts (nI ru) (nI rw) (nI ca) df db sd))), (aI k (a 1) 3 (nF dn)), (aI k (a 4) 27 (sg se tm gs)), (aI k (a 2) 72 ffrees), (aI k (a 3) 72 fprices), (aI k (a 18) 768 fo_9), (aI k (a 19) 768 fw_9), (aI k (a 20) 5 (upd fstarts rn r_10)), (aI k (a 21) 4 (upd fends rn r_1)), (aZ k (a 22) 4 (upd fgoesRound rn (vp_nar .boolean 0))), (aI k (a 23) 8 fbegin__10)] [4, 5, 6, 7, 8, 0, 9, 1, 2, 3, 10] hP hD (by decide +kernel) rfl
      exact W.vret hx hb hr (fun t ht hW => ⟨⟨(fo_9, fw_9, (upd fstarts rn r_10), (upd fends rn r_1), (upd fgoesRound rn (vp_nar .boolean 0)), fbegin__10), rfl, wm_step (d := (sdM dn (sg se tm gs) ffrees fprices sn)) (show dn sn ≤ 24 by omega) (show se sn ≤ 2 by omega) (by omega) hWm hx_8 hy_8 hv_9.2.1 hv_9.2.2.1 hv_9.2.2.2.1 hv_9.2.2.2.2 hw_10, by rw [ht]; exact hP9, hD9⟩, hS.F ht⟩) hS.2.2 dX8_findRound_249
    · rw [nI_pred] at hl
      refine lv_iload hx hb dX8_findRound_103 (lv_at hl 0 rfl) ?_
      refine lv_if_lt (tgt := 237) hx hb dX8_findRound_105 (by decide) (fun h => absurd h (nI_pos0 (by omega))) (fun _ => ?_)
      refine lv_iconst (v := 0) hx hb dX8_findRound_108 (by decide) ?_
      refine lv_istore (lv' := [(7, .int 0), (6, .int (nI q_9)), (5, .int r_1), (4, .int r_1), (3, .int (nI (dn sn))), (0, .ref (a 0)), (1, .int (nI sn)), (2, .int (nI rn))]) hx hb dX8_findRound_109 hl (by decide) rfl (fun ls hl => ?_)
      have hp8_9 := p8 (sq_le (see := se sn) (n := dn sn) (i := q_9) (by omega))
      refine W_loop (σ := Nat × (Nat → Int32) × (Nat → Int32)) (fun (n_ : Nat) (x_ : Nat × (Nat → Int32) × (Nat → Int32)) (H : Heap) (locs : List Loc) (ls : Array Slot) => match x_ with | (g2_12, fo3_12, fw3_12) => n_ = 2 ^ sqN (se sn) (dn sn) q_9 - g2_12 ∧ (g2_12 ≤ 2 ^ sqN (se sn) (dn sn) q_9 ∧ onOK (sdM dn (sg se tm gs) ffrees fprices sn) (se sn) rn r_1 (q_9 + 1) fo3_12 ∧ (∀ h, h < g2_12 → fo3_12 (slN rn q_9 h) = pOn (sdM dn (sg se tm gs) ffrees fprices sn) (se sn) rn r_1 q_9 h) ∧ wwOK (sdM dn (sg se tm gs) ffrees fprices sn) (se sn) rn r_1 (q_9 + 1) fw3_12 ∧ (∀ h, h < g2_12 → fw3_12 (slN rn q_9 h) = pWo (sdM dn (sg se tm gs) ffrees fprices sn) (se sn) rn r_1 q_9 h) ∧ (∀ x, ¬ (192 * rn ≤ x ∧ x < 192 * rn + 192) → fo3_12 x = fons x) ∧ (∀ x, ¬ (192 * rn ≤ x ∧ x < 192 * rn + 192) → fw3_12 x = fworths x)) ∧ va_P D classes [((a 0), .inr (8, (fX8 a (nI tx) fp (nI t0) wd (nI we) nu na (nI rd) ts (nI ru) (nI rw) (nI ca) df db sd))), (aI k (a 1) 3 (nF dn)), (aI k (a 4) 27 (sg se tm gs)), (aI k (a 2) 72 ffrees), (aI k (a 3) 72 fprices), (aI k (a 18) 768 fo3_12), (aI k (a 19) 768 fw3_12), (aI k (a 20) 5 fstarts), (aI k (a 21) 4 (upd fends rn r_1)), (aZ k (a 22) 4 (upd fgoesRound rn (vp_nar .boolean 0))), (aI k (a 23) 8 fbegin)] H ∧ va_D A [((a 0), .inr (8, (fX8 a (nI tx) fp (nI t0) wd (nI we) nu na (nI rd) ts (nI ru) (nI rw) (nI ca) df db sd))), (aI k (a 1) 3 (nF dn)), (aI k (a 4) 27 (sg se tm gs)), (aI k (a 2) 72 ffrees), (aI k (a 3) 72 fprices), (aI k (a 18) 768 fo3_12), (aI k (a 19) 768 fw3_12), (aI k (a 20) 5 fstarts), (aI k (a 21) 4 (upd fends rn r_1)), (aZ k (a 22) 4 (upd fgoesRound rn (vp_nar .boolean 0))), (aI k (a 23) 8 fbegin)] ∧ va_S A s.heap H locs ∧ lv_has ls 10 [(7, .int (nI g2_12)), (6, .int (nI q_9)), (5, .int r_1), (4, .int r_1), (3, .int (nI (dn sn))), (0, .ref (a 0)), (1, .int (nI sn)), (2, .int (nI rn))]) (fun n_12 x_12 H locs ls hI ih_12 => ?_) _ (0, fo_9, fw_9) ⟨rfl, ⟨Nat.zero_le _, hv_9.2.1, fun h hh => absurd hh (Nat.not_lt_zero h), hv_9.2.2.1, fun h hh => absurd hh (Nat.not_lt_zero h), hv_9.2.2.2.1, hv_9.2.2.2.2⟩, hP, hD, hS, (lv_sub hl [0, 1, 2, 3, 4, 5, 6, 7] rfl)⟩
      obtain ⟨g2_12, fo3_12, fw3_12⟩ := x_12
      obtain ⟨hm_12, hv_12, hP, hD, hS, hl⟩ := hI
      subst hm_12
      refine lv_iload hx hb dX8_findRound_111 (lv_at hl 0 rfl) ?_
      refine lv_iconst (v := 1) hx hb dX8_findRound_113 (by decide) ?_
      refine lv_aload_n hx hb dX8_findRound_114 rfl (lv_at hl 5 rfl) ?_
      refine lv_iload_n hx hb dX8_findRound_115 rfl (lv_at hl 6 rfl) ?_
      refine lv_iload hx hb dX8_findRound_116 (lv_at hl 1 rfl) ?_
      refine ro_i (D := D) (va_runV (As := [.int (nI sn), .int (nI q_9)]) (rest := [.int 1, .int (nI g2_12)]) ⟨hx, hb, hml, hown, hts⟩ ((n_seen l D k st lo a tx t0 we rd ru rw ca fp wd nu na ts df db sd dn se tm gs sn q_9 hdn hse (by first | assumption | omega) (by first | assumption | omega)) H.size) (cwV 2 hts (gV tw_1246 tw_1248 tw_48 tw_87 tw_1249) rfl rfl rfl (by decide +kernel) ⟨Nat.le_of_ble_eq_true rfl, Nat.le_of_ble_eq_true rfl⟩) (pV hS hAlo hlo hP hK (va_Dlo hD hAlo) hZ [0, 1, 2] (by decide) rfl (ci := 8) (q := (RX8, TX8, 44)) (q0 := 0) rfl rfl) rfl rfl hl.1 rfl (lv_room (Nat.le_of_ble_eq_true rfl)) dX8_findRound_118 ⟨Nat.le_of_ble_eq_true rfl, Nat.le_of_ble_eq_true rfl⟩) hS hA hP (fun r_13 H locs hw_13 hP hS => ?_)
      try dsimp only at hw_13
      obtain ⟨sv_14, esv_14⟩ : ∃ z : Nat, z = sqN (se sn) (dn sn) q_9 := ⟨_, rfl⟩
      rw [← esv_14] at hw_13
      subst hw_13
      have hsv_14 : sv_14 ≤ 3 ∧ sv_14 ≤ dn sn - q_9 ∧ sv_14 ≤ se sn + 1 ∧ (0 < dn sn - q_9 → 1 ≤ sv_14) := by have hse9 := hse sn; rw [esv_14]; unfold sqN; omega
      have hpv_14 := p8 (show sv_14 ≤ 3 by omega)
      have hpe_14 : 2 ^ sv_14 = 2 ^ sqN (se sn) (dn sn) q_9 := by rw [esv_14]
      refine lv_ishl hx hb dX8_findRound_121 ?_
      refine lv_ti (y := (nI (2 ^ sv_14))) (shl1 sv_14 (by omega)) ?_
      refine lv_icmp_ge (tgt := 231) hx hb dX8_findRound_122 (by decide) (fun c_15 => ?_) (fun c_15 => ?_)
      · have c_15 := (nI_leI (a := (2 ^ sv_14)) (b := g2_12) (by omega) (by omega)).mp c_15
        refine lv_iinc (v := (nI q_9 - 1)) (lv' := [(6, .int (nI q_9 - 1)), (7, .int (nI g2_12)), (5, .int r_1), (4, .int r_1), (3, .int (nI (dn sn))), (0, .ref (a 0)), (1, .int (nI sn)), (2, .int (nI rn))]) hx hb dX8_findRound_231 hl (k := 1) rfl (dn1 _) (by decide) rfl (fun ls hl => ?_)
        refine lv_goto (tgt := 103) hx hb dX8_findRound_234 (by decide) ?_
        exact ih_9 _ (q_9, fo3_12, fw3_12) _ _ _ (by omega) ⟨rfl, ⟨by omega, on_door (d := (sdM dn (sg se tm gs) ffrees fprices sn)) (show g2_12 = 2 ^ sqN (se sn) (dn sn) q_9 by omega) hv_12.2.1 hv_12.2.2.1, ww_door (d := (sdM dn (sg se tm gs) ffrees fprices sn)) (show g2_12 = 2 ^ sqN (se sn) (dn sn) q_9 by omega) hv_12.2.2.2.1 hv_12.2.2.2.2.1, hv_12.2.2.2.2.2.1, hv_12.2.2.2.2.2.2⟩, hP, hD, hS, (lv_sub hl [0, 2, 3, 4, 5, 6, 7] rfl)⟩
      · have c_15 : ¬ ((2 ^ sv_14) ≤ g2_12) := fun h => c_15 ((nI_leI (a := (2 ^ sv_14)) (b := g2_12) (by omega) (by omega)).mpr h)
        have hgl_12 : g2_12 < 2 ^ sqN (se sn) (dn sn) q_9 := by omega
        refine lv_aload_n hx hb dX8_findRound_125 rfl (lv_at hl 5 rfl) ?_
        refine lv_iload_n hx hb dX8_findRound_126 rfl (lv_at hl 6 rfl) ?_
        refine lv_iconst (v := 2) hx hb dX8_findRound_127 (by decide) ?_
        refine ro_i (D := D) (va_runV (As := [.int (nI sn), .int 2]) (rest := []) ⟨hx, hb, hml, hown, hts⟩ ((m_of l D k st lo a tx t0 we rd ru rw ca fp wd nu na ts df db sd se tm gs sn 2 (by first | assumption | omega) (by first | assumption | omega)) H.size) (cwV 2 hts (gV tw_1194 tw_1196 tw_39 tw_87 tw_1197) rfl rfl rfl (by decide +kernel) ⟨Nat.le_of_ble_eq_true rfl, Nat.le_of_ble_eq_true rfl⟩) (pV hS hAlo hlo hP hK (va_Dlo hD hAlo) hZ [0, 2] (by decide) rfl (ci := 8) (q := (RX8, TX8, 44)) (q0 := 0) rfl rfl) rfl rfl hl.1 rfl (lv_room (Nat.le_of_ble_eq_true rfl)) dX8_findRound_128 ⟨Nat.le_of_ble_eq_true rfl, Nat.le_of_ble_eq_true rfl⟩) hS hA hP (fun r_16 H locs hw_16 hP hS => ?_)
        try dsimp only at hw_16
        refine lv_sipush (v := 1000) hx hb dX8_findRound_131 (by decide) ?_
        refine lv_imul hx hb dX8_findRound_134 ?_
        refine lv_topi (fun x_17 ex_17 => ?_)
        refine lv_iload hx hb dX8_findRound_135 (lv_at hl 1 rfl) ?_
        refine lv_iload_n hx hb dX8_findRound_137 rfl (lv_at hl 4 rfl) ?_
        refine lv_iconst (v := 1) hx hb dX8_findRound_138 (by decide) ?_
        refine lv_isub hx hb dX8_findRound_139 ?_
        refine lv_ti (y := (nI ((dn sn) - 1))) (pk_sub (a := (dn sn)) (b := 1) (by omega)) ?_
        refine lv_icmp_ne (tgt := 152) hx hb dX8_findRound_140 (by decide) (fun c_18 => ?_) (fun c_18 => ?_)
        · have c_18 : ¬ (q_9 = ((dn sn) - 1)) := fun h => c_18 ((nI_eq (a := q_9) (b := ((dn sn) - 1)) (by omega) (by omega)).mpr h)
          refine lv_aload_n hx hb dX8_findRound_152 rfl (lv_at hl 5 rfl) ?_
          refine lv_iload_n hx hb dX8_findRound_153 rfl (lv_at hl 6 rfl) ?_
          refine lv_iload_n hx hb dX8_findRound_154 rfl (lv_at hl 7 rfl) ?_
          refine lv_iload hx hb dX8_findRound_155 (lv_at hl 1 rfl) ?_
          refine lv_iload hx hb dX8_findRound_157 (lv_at hl 0 rfl) ?_
          refine ro_i (D := D) (va_runV (As := [.int (nI sn), .int (nI rn), .int (nI q_9), .int (nI g2_12)]) (rest := [.int x_17]) ⟨hx, hb, hml, hown, hts⟩ ((n_on l D k st lo a tx t0 we rd ru rw ca fp wd nu na ts df db sd dn se tm gs ffrees fprices fw3_12 sn rn q_9 g2_12 hdn hse (by first | assumption | omega) (by first | assumption | omega) (by first | assumption | omega) (by first | assumption | omega) (by first | assumption | omega)) H.size) (cwV 4 hts (gV tw_1262 tw_1264 tw_52 tw_87 tw_1265) rfl rfl rfl (by decide +kernel) ⟨Nat.le_of_ble_eq_true rfl, Nat.le_of_ble_eq_true rfl⟩) (pV hS hAlo hlo hP hK (va_Dlo hD hAlo) hZ [0, 1, 2, 3, 4, 6] (by decide) rfl (ci := 8) (q := (RX8, TX8, 44)) (q0 := 0) rfl rfl) rfl rfl hl.1 rfl (lv_room (Nat.le_of_ble_eq_true rfl)) dX8_findRound_159 ⟨Nat.le_of_ble_eq_true rfl, Nat.le_of_ble_eq_true rfl⟩) hS hA hP (fun r_19 H locs hw_19 hP hS => ?_)
          try dsimp only at hw_19
          refine lv_iadd hx hb dX8_findRound_162 ?_
          refine lv_topi (fun x_20 ex_20 => ?_)
          have hxo_21 : x_20 = pOn (sdM dn (sg se tm gs) ffrees fprices sn) (se sn) rn r_1 q_9 g2_12 := by rw [ex_20, ex_17, hw_16, mPass (dn := dn) (ffr := ffrees) (fpr := fprices), pOn_next (show q_9 + 1 < dn sn by omega), hw_19]; exact congrArg (fun z => pPass (sdM dn (sg se tm gs) ffrees fprices sn) + z) (nx_congr (show q_9 + 1 < dn sn by omega) hgl_12 (fun q hq => hv_12.2.2.2.1 (q_9 + 1) (by omega) (show q_9 + 1 < dn sn by omega) q hq))
          refine lv_istore (lv' := [(8, .int x_20), (7, .int (nI g2_12)), (6, .int (nI q_9)), (5, .int r_1), (4, .int r_1), (3, .int (nI (dn sn))), (0, .ref (a 0)), (1, .int (nI sn)), (2, .int (nI rn))]) hx hb dX8_findRound_163 hl (by decide) rfl (fun ls hl => ?_)
          refine lv_aload_n hx hb dX8_findRound_165 rfl (lv_at hl 6 rfl) ?_
          refine lv_iload_n hx hb dX8_findRound_166 rfl (lv_at hl 7 rfl) ?_
          refine lv_iload_n hx hb dX8_findRound_167 rfl (lv_at hl 8 rfl) ?_
          refine lv_iload hx hb dX8_findRound_168 (lv_at hl 2 rfl) ?_
          refine ro_i (D := D) (va_runV (As := [.int (nI sn), .int (nI rn), .int (nI q_9)]) (rest := []) ⟨hx, hb, hml, hown, hts⟩ ((n_takingOf l D k st lo a tx t0 we rd ru rw ca fp wd nu na ts df db sd dn se tm gs fprices sn q_9 (nI rn) (by first | assumption | omega) (by first | assumption | omega)) H.size) (cwV 3 hts (gV tw_1222 tw_1224 tw_43 tw_87 tw_1225) rfl rfl rfl (by decide +kernel) ⟨Nat.le_of_ble_eq_true rfl, Nat.le_of_ble_eq_true rfl⟩) (pV hS hAlo hlo hP hK (va_Dlo hD hAlo) hZ [0, 1, 2, 4] (by decide) rfl (ci := 8) (q := (RX8, TX8, 44)) (q0 := 0) rfl rfl) rfl rfl hl.1 rfl (lv_room (Nat.le_of_ble_eq_true rfl)) dX8_findRound_170 ⟨Nat.le_of_ble_eq_true rfl, Nat.le_of_ble_eq_true rfl⟩) hS hA hP (fun r_22 H locs hw_22 hP hS => ?_)
          try dsimp only at hw_22
          refine lv_istore (lv' := [(9, .int r_22), (8, .int x_20), (7, .int (nI g2_12)), (6, .int (nI q_9)), (5, .int r_1), (4, .int r_1), (3, .int (nI (dn sn))), (0, .ref (a 0)), (1, .int (nI sn)), (2, .int (nI rn))]) hx hb dX8_findRound_173 hl (by decide) rfl (fun ls hl => ?_)
          refine lv_aload_n hx hb dX8_findRound_175 rfl (lv_at hl 7 rfl) ?_
          refine va_get (D := D) (ci := 8) (v := .ref (a 18)) (C := RX8) (T := TX8) (N := 44) hx hb hts inX8 hown hK hP 0 rfl rfl 17 (by decide) (hts _ tw_990) (fun _ h9 => h9) rfl dX8_findRound_176 ?_
          refine lv_iload_n hx hb dX8_findRound_179 rfl (lv_at hl 9 rfl) ?_
          refine lv_iload hx hb dX8_findRound_180 (lv_at hl 3 rfl) ?_
          refine lv_iload hx hb dX8_findRound_182 (lv_at hl 2 rfl) ?_
          refine ro_i (D := D) (va_runS (As := [.int (nI rn), .int (nI q_9), .int (nI g2_12)]) (rest := [.ref (a 18)]) ⟨hx, hb, hml, hown, hts⟩ ((m_at l D k st lo rn q_9 g2_12) H.size) (va_cwS 3 hts (gS tw_1266 tw_1267 tw_87 tw_1268) rfl rfl rfl (by decide +kernel) ⟨Nat.le_of_ble_eq_true rfl, Nat.le_of_ble_eq_true rfl⟩) (pS hS hAlo hlo hP hK (va_Dlo hD hAlo) hZ [] (by decide) rfl) rfl rfl hl.1 rfl (lv_room (Nat.le_of_ble_eq_true rfl)) dX8_findRound_184 ⟨Nat.le_of_ble_eq_true rfl, Nat.le_of_ble_eq_true rfl⟩) hS hA hP (fun r_23 H locs hw_23 hP hS => ?_)
          try dsimp only at hw_23
          subst hw_23
          refine lv_iload hx hb dX8_findRound_187 (lv_at hl 1 rfl) ?_
          refine va_iast hx hb hK hP hD hS 5 1 rfl rfl (vp_in_nI (by omega) (by decide)) dX8_findRound_189 (fun H locs hP hD hS => ?_)
          have hQ9 := pd_mk [((a 0), .inr (8, (fX8 a (nI tx) fp (nI t0) wd (nI we) nu na (nI rd) ts (nI ru) (nI rw) (nI ca) df db sd))), (aI k (a 1) 3 (nF dn)), (aI k (a 4) 27 (sg se tm gs)), (aI k (a 2) 72 ffrees), (aI k (a 3) 72 fprices), (aI k (a 18) 768 (upd fo3_12 (Int32.toNatClampNeg (nI (192 * rn + 8 * q_9 + g2_12))) x_20)), (aI k (a 19) 768 fw3_12), (aI k (a 20) 5 fstarts), (aI k (a 21) 4 (upd fends rn r_1)), (aZ k (a 22) 4 (upd fgoesRound rn (vp_nar .boolean 0))), (aI k (a 23) 8 fbegin)] hP hD
          clear hP hD
          obtain ⟨hP, hD⟩ := hQ9
          rw [nI_clamp (n := (192 * rn + 8 * q_9 + g2_12)) (by omega)] at hP hD
          have hQ9 := pd_mk [((a 0), .inr (8, (fX8 a (nI tx) fp (nI t0) wd (nI we) nu na (nI rd) ts (nI ru) (nI rw) (nI ca) df db sd))), (aI k (a 1) 3 (nF dn)), (aI k (a 4) 27 (sg se tm gs)), (aI k (a 2) 72 ffrees), (aI k (a 3) 72 fprices), (aI k (a 18) 768 (upd fo3_12 (192 * rn + 8 * q_9 + g2_12) x_20)), (aI k (a 19) 768 fw3_12), (aI k (a 20) 5 fstarts), (aI k (a 21) 4 (upd fends rn r_1)), (aZ k (a 22) 4 (upd fgoesRound rn (vp_nar .boolean 0))), (aI k (a 23) 8 fbegin)] hP hD
          clear hP hD
          obtain ⟨hP, hD⟩ := hQ9
          refine lv_aload_n hx hb dX8_findRound_190 rfl (lv_at hl 7 rfl) ?_
          refine va_get (D := D) (ci := 8) (v := .ref (a 19)) (C := RX8) (T := TX8) (N := 44) hx hb hts inX8 hown hK hP 0 rfl rfl 18 (by decide) (hts _ tw_991) (fun _ h9 => h9) rfl dX8_findRound_191 ?_
          refine lv_iload_n hx hb dX8_findRound_194 rfl (lv_at hl 9 rfl) ?_
          refine lv_iload hx hb dX8_findRound_195 (lv_at hl 3 rfl) ?_
          refine lv_iload hx hb dX8_findRound_197 (lv_at hl 2 rfl) ?_
          refine ro_i (D := D) (va_runS (As := [.int (nI rn), .int (nI q_9), .int (nI g2_12)]) (rest := [.ref (a 19)]) ⟨hx, hb, hml, hown, hts⟩ ((m_at l D k st lo rn q_9 g2_12) H.size) (va_cwS 3 hts (gS tw_1266 tw_1267 tw_87 tw_1268) rfl rfl rfl (by decide +kernel) ⟨Nat.le_of_ble_eq_true rfl, Nat.le_of_ble_eq_true rfl⟩) (pS hS hAlo hlo hP hK (va_Dlo hD hAlo) hZ [] (by decide) rfl) rfl rfl hl.1 rfl (lv_room (Nat.le_of_ble_eq_true rfl)) dX8_findRound_199 ⟨Nat.le_of_ble_eq_true rfl, Nat.le_of_ble_eq_true rfl⟩) hS hA hP (fun r_25 H locs hw_25 hP hS => ?_)
          try dsimp only at hw_25
          subst hw_25
          refine lv_iload hx hb dX8_findRound_202 (lv_at hl 2 rfl) ?_
          refine lv_iconst (v := 1) hx hb dX8_findRound_204 (by decide) ?_
          refine lv_iand hx hb dX8_findRound_205 ?_
          refine lv_topi (fun x_26 ex_26 => ?_)
          refine lv_iconst (v := 1) hx hb dX8_findRound_206 (by decide) ?_
          refine lv_icmp_ne (tgt := 222) hx hb dX8_findRound_207 (by decide) (fun c_27 => ?_) (fun c_27 => ?_)
          · rw [ex_26] at c_27
            refine lv_iload hx hb dX8_findRound_222 (lv_at hl 1 rfl) ?_
            refine va_iast hx hb hK hP hD hS 6 1 rfl rfl (vp_in_nI (by omega) (by decide)) dX8_findRound_224 (fun H locs hP hD hS => ?_)
            have hQ9 := pd_mk [((a 0), .inr (8, (fX8 a (nI tx) fp (nI t0) wd (nI we) nu na (nI rd) ts (nI ru) (nI rw) (nI ca) df db sd))), (aI k (a 1) 3 (nF dn)), (aI k (a 4) 27 (sg se tm gs)), (aI k (a 2) 72 ffrees), (aI k (a 3) 72 fprices), (aI k (a 18) 768 (upd fo3_12 (192 * rn + 8 * q_9 + g2_12) x_20)), (aI k (a 19) 768 (upd fw3_12 (Int32.toNatClampNeg (nI (192 * rn + 8 * q_9 + g2_12))) x_20)), (aI k (a 20) 5 fstarts), (aI k (a 21) 4 (upd fends rn r_1)), (aZ k (a 22) 4 (upd fgoesRound rn (vp_nar .boolean 0))), (aI k (a 23) 8 fbegin)] hP hD
            clear hP hD
            obtain ⟨hP, hD⟩ := hQ9
            rw [nI_clamp (n := (192 * rn + 8 * q_9 + g2_12)) (by omega)] at hP hD
            have hQ9 := pd_mk [((a 0), .inr (8, (fX8 a (nI tx) fp (nI t0) wd (nI we) nu na (nI rd) ts (nI ru) (nI rw) (nI ca) df db sd))), (aI k (a 1) 3 (nF dn)), (aI k (a 4) 27 (sg se tm gs)), (aI k (a 2) 72 ffrees), (aI k (a 3) 72 fprices), (aI k (a 18) 768 (upd fo3_12 (192 * rn + 8 * q_9 + g2_12) x_20)), (aI k (a 19) 768 (upd fw3_12 (192 * rn + 8 * q_9 + g2_12) x_20)), (aI k (a 20) 5 fstarts), (aI k (a 21) 4 (upd fends rn r_1)), (aZ k (a 22) 4 (upd fgoesRound rn (vp_nar .boolean 0))), (aI k (a 23) 8 fbegin)] hP hD
            clear hP hD
            obtain ⟨hP, hD⟩ := hQ9
            refine lv_iinc (v := (nI (g2_12 + 1))) (lv' := [(7, .int (nI (g2_12 + 1))), (9, .int r_22), (8, .int x_20), (6, .int (nI q_9)), (5, .int r_1), (4, .int r_1), (3, .int (nI (dn sn))), (0, .ref (a 0)), (1, .int (nI sn)), (2, .int (nI rn))]) hx hb dX8_findRound_225 hl (k := 2) rfl (nI_add g2_12 1) (by decide) rfl (fun ls hl => ?_)
            refine lv_goto (tgt := 111) hx hb dX8_findRound_228 (by decide) ?_
            have hso_12 := on_step (d := (sdM dn (sg se tm gs) ffrees fprices sn)) (show dn sn ≤ 24 by omega) (show se sn ≤ 2 by omega) (show q_9 < dn sn by omega) (show g2_12 < 8 by omega) hv_12.2.1 hv_12.2.2.1 hxo_21
            have hsw_12 := ww_step (d := (sdM dn (sg se tm gs) ffrees fprices sn)) (show dn sn ≤ 24 by omega) (show se sn ≤ 2 by omega) (show q_9 < dn sn by omega) (show g2_12 < 8 by omega) hv_12.2.2.2.1 hv_12.2.2.2.2.1 ((pWm_0 (on := x_20) (show g2_12 < 8 by omega) c_27).trans (congrArg (fun z => pW (sdM dn (sg se tm gs) ffrees fprices sn) rn q_9 z _) hxo_21))
            rw [(show slN rn q_9 g2_12 = 192 * rn + 8 * q_9 + g2_12 by unfold slN; omega)] at hso_12 hsw_12
            exact ih_12 _ (g2_12 + 1, (upd fo3_12 (192 * rn + 8 * q_9 + g2_12) x_20), (upd fw3_12 (192 * rn + 8 * q_9 + g2_12) x_20)) _ _ _ (by omega) ⟨rfl, ⟨by omega, hso_12.1, hso_12.2, hsw_12.1, hsw_12.2, fun x hx => (pk_un (by omega)).trans (hv_12.2.2.2.2.2.1 x hx), fun x hx => (pk_un (by omega)).trans (hv_12.2.2.2.2.2.2 x hx)⟩, hP, hD, hS, (lv_sub hl [0, 3, 4, 5, 6, 7, 8, 9] rfl)⟩
          · rw [ex_26] at c_27
            refine lv_iload hx hb dX8_findRound_210 (lv_at hl 0 rfl) ?_
            refine lv_iload hx hb dX8_findRound_212 (lv_at hl 1 rfl) ?_
            refine lv_icmp_gt (tgt := 222) hx hb dX8_findRound_214 (by decide) (fun c_29 => ?_) (fun c_29 => ?_)
            · refine lv_iload hx hb dX8_findRound_222 (lv_at hl 1 rfl) ?_
              refine va_iast hx hb hK hP hD hS 6 1 rfl rfl (vp_in_nI (by omega) (by decide)) dX8_findRound_224 (fun H locs hP hD hS => ?_)
              have hQ9 := pd_mk [((a 0), .inr (8, (fX8 a (nI tx) fp (nI t0) wd (nI we) nu na (nI rd) ts (nI ru) (nI rw) (nI ca) df db sd))), (aI k (a 1) 3 (nF dn)), (aI k (a 4) 27 (sg se tm gs)), (aI k (a 2) 72 ffrees), (aI k (a 3) 72 fprices), (aI k (a 18) 768 (upd fo3_12 (192 * rn + 8 * q_9 + g2_12) x_20)), (aI k (a 19) 768 (upd fw3_12 (Int32.toNatClampNeg (nI (192 * rn + 8 * q_9 + g2_12))) x_20)), (aI k (a 20) 5 fstarts), (aI k (a 21) 4 (upd fends rn r_1)), (aZ k (a 22) 4 (upd fgoesRound rn (vp_nar .boolean 0))), (aI k (a 23) 8 fbegin)] hP hD
              clear hP hD
              obtain ⟨hP, hD⟩ := hQ9
              rw [nI_clamp (n := (192 * rn + 8 * q_9 + g2_12)) (by omega)] at hP hD
              have hQ9 := pd_mk [((a 0), .inr (8, (fX8 a (nI tx) fp (nI t0) wd (nI we) nu na (nI rd) ts (nI ru) (nI rw) (nI ca) df db sd))), (aI k (a 1) 3 (nF dn)), (aI k (a 4) 27 (sg se tm gs)), (aI k (a 2) 72 ffrees), (aI k (a 3) 72 fprices), (aI k (a 18) 768 (upd fo3_12 (192 * rn + 8 * q_9 + g2_12) x_20)), (aI k (a 19) 768 (upd fw3_12 (192 * rn + 8 * q_9 + g2_12) x_20)), (aI k (a 20) 5 fstarts), (aI k (a 21) 4 (upd fends rn r_1)), (aZ k (a 22) 4 (upd fgoesRound rn (vp_nar .boolean 0))), (aI k (a 23) 8 fbegin)] hP hD
              clear hP hD
              obtain ⟨hP, hD⟩ := hQ9
              refine lv_iinc (v := (nI (g2_12 + 1))) (lv' := [(7, .int (nI (g2_12 + 1))), (9, .int r_22), (8, .int x_20), (6, .int (nI q_9)), (5, .int r_1), (4, .int r_1), (3, .int (nI (dn sn))), (0, .ref (a 0)), (1, .int (nI sn)), (2, .int (nI rn))]) hx hb dX8_findRound_225 hl (k := 2) rfl (nI_add g2_12 1) (by decide) rfl (fun ls hl => ?_)
              refine lv_goto (tgt := 111) hx hb dX8_findRound_228 (by decide) ?_
              have hso_12 := on_step (d := (sdM dn (sg se tm gs) ffrees fprices sn)) (show dn sn ≤ 24 by omega) (show se sn ≤ 2 by omega) (show q_9 < dn sn by omega) (show g2_12 < 8 by omega) hv_12.2.1 hv_12.2.2.1 hxo_21
              have hsw_12 := ww_step (d := (sdM dn (sg se tm gs) ffrees fprices sn)) (show dn sn ≤ 24 by omega) (show se sn ≤ 2 by omega) (show q_9 < dn sn by omega) (show g2_12 < 8 by omega) hv_12.2.2.2.1 hv_12.2.2.2.2.1 ((pWm_2 (on := x_20) (show g2_12 < 8 by omega) c_27 (hw_22.trans (mTake (ffr := ffrees) (show q_9 < dn sn by omega))) (Int32.not_le.mpr c_29)).trans (congrArg (fun z => pW (sdM dn (sg se tm gs) ffrees fprices sn) rn q_9 z _) hxo_21))
              rw [(show slN rn q_9 g2_12 = 192 * rn + 8 * q_9 + g2_12 by unfold slN; omega)] at hso_12 hsw_12
              exact ih_12 _ (g2_12 + 1, (upd fo3_12 (192 * rn + 8 * q_9 + g2_12) x_20), (upd fw3_12 (192 * rn + 8 * q_9 + g2_12) x_20)) _ _ _ (by omega) ⟨rfl, ⟨by omega, hso_12.1, hso_12.2, hsw_12.1, hsw_12.2, fun x hx => (pk_un (by omega)).trans (hv_12.2.2.2.2.2.1 x hx), fun x hx => (pk_un (by omega)).trans (hv_12.2.2.2.2.2.2 x hx)⟩, hP, hD, hS, (lv_sub hl [0, 3, 4, 5, 6, 7, 8, 9] rfl)⟩
            · refine lv_iload hx hb dX8_findRound_217 (lv_at hl 0 rfl) ?_
              refine lv_goto (tgt := 224) hx hb dX8_findRound_219 (by decide) ?_
              refine va_iast hx hb hK hP hD hS 6 1 rfl rfl (vp_in_nI (by omega) (by decide)) dX8_findRound_224 (fun H locs hP hD hS => ?_)
              have hQ9 := pd_mk [((a 0), .inr (8, (fX8 a (nI tx) fp (nI t0) wd (nI we) nu na (nI rd) ts (nI ru) (nI rw) (nI ca) df db sd))), (aI k (a 1) 3 (nF dn)), (aI k (a 4) 27 (sg se tm gs)), (aI k (a 2) 72 ffrees), (aI k (a 3) 72 fprices), (aI k (a 18) 768 (upd fo3_12 (192 * rn + 8 * q_9 + g2_12) x_20)), (aI k (a 19) 768 (upd fw3_12 (Int32.toNatClampNeg (nI (192 * rn + 8 * q_9 + g2_12))) r_22)), (aI k (a 20) 5 fstarts), (aI k (a 21) 4 (upd fends rn r_1)), (aZ k (a 22) 4 (upd fgoesRound rn (vp_nar .boolean 0))), (aI k (a 23) 8 fbegin)] hP hD
              clear hP hD
              obtain ⟨hP, hD⟩ := hQ9
              rw [nI_clamp (n := (192 * rn + 8 * q_9 + g2_12)) (by omega)] at hP hD
              have hQ9 := pd_mk [((a 0), .inr (8, (fX8 a (nI tx) fp (nI t0) wd (nI we) nu na (nI rd) ts (nI ru) (nI rw) (nI ca) df db sd))), (aI k (a 1) 3 (nF dn)), (aI k (a 4) 27 (sg se tm gs)), (aI k (a 2) 72 ffrees), (aI k (a 3) 72 fprices), (aI k (a 18) 768 (upd fo3_12 (192 * rn + 8 * q_9 + g2_12) x_20)), (aI k (a 19) 768 (upd fw3_12 (192 * rn + 8 * q_9 + g2_12) r_22)), (aI k (a 20) 5 fstarts), (aI k (a 21) 4 (upd fends rn r_1)), (aZ k (a 22) 4 (upd fgoesRound rn (vp_nar .boolean 0))), (aI k (a 23) 8 fbegin)] hP hD
              clear hP hD
              obtain ⟨hP, hD⟩ := hQ9
              refine lv_iinc (v := (nI (g2_12 + 1))) (lv' := [(7, .int (nI (g2_12 + 1))), (9, .int r_22), (8, .int x_20), (6, .int (nI q_9)), (5, .int r_1), (4, .int r_1), (3, .int (nI (dn sn))), (0, .ref (a 0)), (1, .int (nI sn)), (2, .int (nI rn))]) hx hb dX8_findRound_225 hl (k := 2) rfl (nI_add g2_12 1) (by decide) rfl (fun ls hl => ?_)
              refine lv_goto (tgt := 111) hx hb dX8_findRound_228 (by decide) ?_
              have hso_12 := on_step (d := (sdM dn (sg se tm gs) ffrees fprices sn)) (show dn sn ≤ 24 by omega) (show se sn ≤ 2 by omega) (show q_9 < dn sn by omega) (show g2_12 < 8 by omega) hv_12.2.1 hv_12.2.2.1 hxo_21
              have hsw_12 := ww_step (d := (sdM dn (sg se tm gs) ffrees fprices sn)) (show dn sn ≤ 24 by omega) (show se sn ≤ 2 by omega) (show q_9 < dn sn by omega) (show g2_12 < 8 by omega) hv_12.2.2.2.1 hv_12.2.2.2.2.1 ((pWm_1 (on := x_20) (show g2_12 < 8 by omega) c_27 (hw_22.trans (mTake (ffr := ffrees) (show q_9 < dn sn by omega))) (Int32.not_lt.mp c_29)).trans (congrArg (fun z => pW (sdM dn (sg se tm gs) ffrees fprices sn) rn q_9 z _) hxo_21))
              rw [(show slN rn q_9 g2_12 = 192 * rn + 8 * q_9 + g2_12 by unfold slN; omega)] at hso_12 hsw_12
              exact ih_12 _ (g2_12 + 1, (upd fo3_12 (192 * rn + 8 * q_9 + g2_12) x_20), (upd fw3_12 (192 * rn + 8 * q_9 + g2_12) r_22)) _ _ _ (by omega) ⟨rfl, ⟨by omega, hso_12.1, hso_12.2, hsw_12.1, hsw_12.2, fun x hx => (pk_un (by omega)).trans (hv_12.2.2.2.2.2.1 x hx), fun x hx => (pk_un (by omega)).trans (hv_12.2.2.2.2.2.2 x hx)⟩, hP, hD, hS, (lv_sub hl [0, 3, 4, 5, 6, 7, 8, 9] rfl)⟩
        · have c_18 := (nI_eq (a := q_9) (b := ((dn sn) - 1)) (by omega) (by omega)).mp c_18
          refine lv_aload_n hx hb dX8_findRound_143 rfl (lv_at hl 5 rfl) ?_
          refine va_get (D := D) (ci := 8) (v := .ref (a 21)) (C := RX8) (T := TX8) (N := 44) hx hb hts inX8 hown hK hP 0 rfl rfl 20 (by decide) (hts _ tw_993) (fun _ h9 => h9) rfl dX8_findRound_144 ?_
          refine lv_iload_n hx hb dX8_findRound_147 rfl (lv_at hl 7 rfl) ?_
          refine va_iald hx hb hK hP 8 1 rfl rfl (vp_in_nI (by omega) (by decide)) dX8_findRound_148 ?_
          refine lv_ti (y := ((upd fends rn r_1) rn)) (by rw [nI_clamp (by omega)]) ?_
          refine lv_goto (tgt := 162) hx hb dX8_findRound_149 (by decide) ?_
          refine lv_iadd hx hb dX8_findRound_162 ?_
          refine lv_topi (fun x_32 ex_32 => ?_)
          have hxo_33 : x_32 = pOn (sdM dn (sg se tm gs) ffrees fprices sn) (se sn) rn r_1 q_9 g2_12 := by rw [ex_32, ex_17, hw_16, mPass (dn := dn) (ffr := ffrees) (fpr := fprices), pOn_last (show q_9 + 1 = dn sn by omega), (show (upd fends rn r_1) rn = r_1 from pk_us)]
          refine lv_istore (lv' := [(8, .int x_32), (7, .int (nI g2_12)), (6, .int (nI q_9)), (5, .int r_1), (4, .int r_1), (3, .int (nI (dn sn))), (0, .ref (a 0)), (1, .int (nI sn)), (2, .int (nI rn))]) hx hb dX8_findRound_163 hl (by decide) rfl (fun ls hl => ?_)
          refine lv_aload_n hx hb dX8_findRound_165 rfl (lv_at hl 6 rfl) ?_
          refine lv_iload_n hx hb dX8_findRound_166 rfl (lv_at hl 7 rfl) ?_
          refine lv_iload_n hx hb dX8_findRound_167 rfl (lv_at hl 8 rfl) ?_
          refine lv_iload hx hb dX8_findRound_168 (lv_at hl 2 rfl) ?_
          refine ro_i (D := D) (va_runV (As := [.int (nI sn), .int (nI rn), .int (nI q_9)]) (rest := []) ⟨hx, hb, hml, hown, hts⟩ ((n_takingOf l D k st lo a tx t0 we rd ru rw ca fp wd nu na ts df db sd dn se tm gs fprices sn q_9 (nI rn) (by first | assumption | omega) (by first | assumption | omega)) H.size) (cwV 3 hts (gV tw_1222 tw_1224 tw_43 tw_87 tw_1225) rfl rfl rfl (by decide +kernel) ⟨Nat.le_of_ble_eq_true rfl, Nat.le_of_ble_eq_true rfl⟩) (pV hS hAlo hlo hP hK (va_Dlo hD hAlo) hZ [0, 1, 2, 4] (by decide) rfl (ci := 8) (q := (RX8, TX8, 44)) (q0 := 0) rfl rfl) rfl rfl hl.1 rfl (lv_room (Nat.le_of_ble_eq_true rfl)) dX8_findRound_170 ⟨Nat.le_of_ble_eq_true rfl, Nat.le_of_ble_eq_true rfl⟩) hS hA hP (fun r_34 H locs hw_34 hP hS => ?_)
          try dsimp only at hw_34
          refine lv_istore (lv' := [(9, .int r_34), (8, .int x_32), (7, .int (nI g2_12)), (6, .int (nI q_9)), (5, .int r_1), (4, .int r_1), (3, .int (nI (dn sn))), (0, .ref (a 0)), (1, .int (nI sn)), (2, .int (nI rn))]) hx hb dX8_findRound_173 hl (by decide) rfl (fun ls hl => ?_)
          refine lv_aload_n hx hb dX8_findRound_175 rfl (lv_at hl 7 rfl) ?_
          refine va_get (D := D) (ci := 8) (v := .ref (a 18)) (C := RX8) (T := TX8) (N := 44) hx hb hts inX8 hown hK hP 0 rfl rfl 17 (by decide) (hts _ tw_990) (fun _ h9 => h9) rfl dX8_findRound_176 ?_
          refine lv_iload_n hx hb dX8_findRound_179 rfl (lv_at hl 9 rfl) ?_
          refine lv_iload hx hb dX8_findRound_180 (lv_at hl 3 rfl) ?_
          refine lv_iload hx hb dX8_findRound_182 (lv_at hl 2 rfl) ?_
          refine ro_i (D := D) (va_runS (As := [.int (nI rn), .int (nI q_9), .int (nI g2_12)]) (rest := [.ref (a 18)]) ⟨hx, hb, hml, hown, hts⟩ ((m_at l D k st lo rn q_9 g2_12) H.size) (va_cwS 3 hts (gS tw_1266 tw_1267 tw_87 tw_1268) rfl rfl rfl (by decide +kernel) ⟨Nat.le_of_ble_eq_true rfl, Nat.le_of_ble_eq_true rfl⟩) (pS hS hAlo hlo hP hK (va_Dlo hD hAlo) hZ [] (by decide) rfl) rfl rfl hl.1 rfl (lv_room (Nat.le_of_ble_eq_true rfl)) dX8_findRound_184 ⟨Nat.le_of_ble_eq_true rfl, Nat.le_of_ble_eq_true rfl⟩) hS hA hP (fun r_35 H locs hw_35 hP hS => ?_)
          try dsimp only at hw_35
          subst hw_35
          refine lv_iload hx hb dX8_findRound_187 (lv_at hl 1 rfl) ?_
          refine va_iast hx hb hK hP hD hS 5 1 rfl rfl (vp_in_nI (by omega) (by decide)) dX8_findRound_189 (fun H locs hP hD hS => ?_)
          have hQ9 := pd_mk [((a 0), .inr (8, (fX8 a (nI tx) fp (nI t0) wd (nI we) nu na (nI rd) ts (nI ru) (nI rw) (nI ca) df db sd))), (aI k (a 1) 3 (nF dn)), (aI k (a 4) 27 (sg se tm gs)), (aI k (a 2) 72 ffrees), (aI k (a 3) 72 fprices), (aI k (a 18) 768 (upd fo3_12 (Int32.toNatClampNeg (nI (192 * rn + 8 * q_9 + g2_12))) x_32)), (aI k (a 19) 768 fw3_12), (aI k (a 20) 5 fstarts), (aI k (a 21) 4 (upd fends rn r_1)), (aZ k (a 22) 4 (upd fgoesRound rn (vp_nar .boolean 0))), (aI k (a 23) 8 fbegin)] hP hD
          clear hP hD
          obtain ⟨hP, hD⟩ := hQ9
          rw [nI_clamp (n := (192 * rn + 8 * q_9 + g2_12)) (by omega)] at hP hD
          have hQ9 := pd_mk [((a 0), .inr (8, (fX8 a (nI tx) fp (nI t0) wd (nI we) nu na (nI rd) ts (nI ru) (nI rw) (nI ca) df db sd))), (aI k (a 1) 3 (nF dn)), (aI k (a 4) 27 (sg se tm gs)), (aI k (a 2) 72 ffrees), (aI k (a 3) 72 fprices), (aI k (a 18) 768 (upd fo3_12 (192 * rn + 8 * q_9 + g2_12) x_32)), (aI k (a 19) 768 fw3_12), (aI k (a 20) 5 fstarts), (aI k (a 21) 4 (upd fends rn r_1)), (aZ k (a 22) 4 (upd fgoesRound rn (vp_nar .boolean 0))), (aI k (a 23) 8 fbegin)] hP hD
          clear hP hD
          obtain ⟨hP, hD⟩ := hQ9
          refine lv_aload_n hx hb dX8_findRound_190 rfl (lv_at hl 7 rfl) ?_
          refine va_get (D := D) (ci := 8) (v := .ref (a 19)) (C := RX8) (T := TX8) (N := 44) hx hb hts inX8 hown hK hP 0 rfl rfl 18 (by decide) (hts _ tw_991) (fun _ h9 => h9) rfl dX8_findRound_191 ?_
          refine lv_iload_n hx hb dX8_findRound_194 rfl (lv_at hl 9 rfl) ?_
          refine lv_iload hx hb dX8_findRound_195 (lv_at hl 3 rfl) ?_
          refine lv_iload hx hb dX8_findRound_197 (lv_at hl 2 rfl) ?_
          refine ro_i (D := D) (va_runS (As := [.int (nI rn), .int (nI q_9), .int (nI g2_12)]) (rest := [.ref (a 19)]) ⟨hx, hb, hml, hown, hts⟩ ((m_at l D k st lo rn q_9 g2_12) H.size) (va_cwS 3 hts (gS tw_1266 tw_1267 tw_87 tw_1268) rfl rfl rfl (by decide +kernel) ⟨Nat.le_of_ble_eq_true rfl, Nat.le_of_ble_eq_true rfl⟩) (pS hS hAlo hlo hP hK (va_Dlo hD hAlo) hZ [] (by decide) rfl) rfl rfl hl.1 rfl (lv_room (Nat.le_of_ble_eq_true rfl)) dX8_findRound_199 ⟨Nat.le_of_ble_eq_true rfl, Nat.le_of_ble_eq_true rfl⟩) hS hA hP (fun r_37 H locs hw_37 hP hS => ?_)
          try dsimp only at hw_37
          subst hw_37
          refine lv_iload hx hb dX8_findRound_202 (lv_at hl 2 rfl) ?_
          refine lv_iconst (v := 1) hx hb dX8_findRound_204 (by decide) ?_
          refine lv_iand hx hb dX8_findRound_205 ?_
          refine lv_topi (fun x_38 ex_38 => ?_)
          refine lv_iconst (v := 1) hx hb dX8_findRound_206 (by decide) ?_
          refine lv_icmp_ne (tgt := 222) hx hb dX8_findRound_207 (by decide) (fun c_39 => ?_) (fun c_39 => ?_)
          · rw [ex_38] at c_39
            refine lv_iload hx hb dX8_findRound_222 (lv_at hl 1 rfl) ?_
            refine va_iast hx hb hK hP hD hS 6 1 rfl rfl (vp_in_nI (by omega) (by decide)) dX8_findRound_224 (fun H locs hP hD hS => ?_)
            have hQ9 := pd_mk [((a 0), .inr (8, (fX8 a (nI tx) fp (nI t0) wd (nI we) nu na (nI rd) ts (nI ru) (nI rw) (nI ca) df db sd))), (aI k (a 1) 3 (nF dn)), (aI k (a 4) 27 (sg se tm gs)), (aI k (a 2) 72 ffrees), (aI k (a 3) 72 fprices), (aI k (a 18) 768 (upd fo3_12 (192 * rn + 8 * q_9 + g2_12) x_32)), (aI k (a 19) 768 (upd fw3_12 (Int32.toNatClampNeg (nI (192 * rn + 8 * q_9 + g2_12))) x_32)), (aI k (a 20) 5 fstarts), (aI k (a 21) 4 (upd fends rn r_1)), (aZ k (a 22) 4 (upd fgoesRound rn (vp_nar .boolean 0))), (aI k (a 23) 8 fbegin)] hP hD
            clear hP hD
            obtain ⟨hP, hD⟩ := hQ9
            rw [nI_clamp (n := (192 * rn + 8 * q_9 + g2_12)) (by omega)] at hP hD
            have hQ9 := pd_mk [((a 0), .inr (8, (fX8 a (nI tx) fp (nI t0) wd (nI we) nu na (nI rd) ts (nI ru) (nI rw) (nI ca) df db sd))), (aI k (a 1) 3 (nF dn)), (aI k (a 4) 27 (sg se tm gs)), (aI k (a 2) 72 ffrees), (aI k (a 3) 72 fprices), (aI k (a 18) 768 (upd fo3_12 (192 * rn + 8 * q_9 + g2_12) x_32)), (aI k (a 19) 768 (upd fw3_12 (192 * rn + 8 * q_9 + g2_12) x_32)), (aI k (a 20) 5 fstarts), (aI k (a 21) 4 (upd fends rn r_1)), (aZ k (a 22) 4 (upd fgoesRound rn (vp_nar .boolean 0))), (aI k (a 23) 8 fbegin)] hP hD
            clear hP hD
            obtain ⟨hP, hD⟩ := hQ9
            refine lv_iinc (v := (nI (g2_12 + 1))) (lv' := [(7, .int (nI (g2_12 + 1))), (9, .int r_34), (8, .int x_32), (6, .int (nI q_9)), (5, .int r_1), (4, .int r_1), (3, .int (nI (dn sn))), (0, .ref (a 0)), (1, .int (nI sn)), (2, .int (nI rn))]) hx hb dX8_findRound_225 hl (k := 2) rfl (nI_add g2_12 1) (by decide) rfl (fun ls hl => ?_)
            refine lv_goto (tgt := 111) hx hb dX8_findRound_228 (by decide) ?_
            have hso_12 := on_step (d := (sdM dn (sg se tm gs) ffrees fprices sn)) (show dn sn ≤ 24 by omega) (show se sn ≤ 2 by omega) (show q_9 < dn sn by omega) (show g2_12 < 8 by omega) hv_12.2.1 hv_12.2.2.1 hxo_33
            have hsw_12 := ww_step (d := (sdM dn (sg se tm gs) ffrees fprices sn)) (show dn sn ≤ 24 by omega) (show se sn ≤ 2 by omega) (show q_9 < dn sn by omega) (show g2_12 < 8 by omega) hv_12.2.2.2.1 hv_12.2.2.2.2.1 ((pWm_0 (on := x_32) (show g2_12 < 8 by omega) c_39).trans (congrArg (fun z => pW (sdM dn (sg se tm gs) ffrees fprices sn) rn q_9 z _) hxo_33))
            rw [(show slN rn q_9 g2_12 = 192 * rn + 8 * q_9 + g2_12 by unfold slN; omega)] at hso_12 hsw_12
            exact ih_12 _ (g2_12 + 1, (upd fo3_12 (192 * rn + 8 * q_9 + g2_12) x_32), (upd fw3_12 (192 * rn + 8 * q_9 + g2_12) x_32)) _ _ _ (by omega) ⟨rfl, ⟨by omega, hso_12.1, hso_12.2, hsw_12.1, hsw_12.2, fun x hx => (pk_un (by omega)).trans (hv_12.2.2.2.2.2.1 x hx), fun x hx => (pk_un (by omega)).trans (hv_12.2.2.2.2.2.2 x hx)⟩, hP, hD, hS, (lv_sub hl [0, 3, 4, 5, 6, 7, 8, 9] rfl)⟩
          · rw [ex_38] at c_39
            refine lv_iload hx hb dX8_findRound_210 (lv_at hl 0 rfl) ?_
            refine lv_iload hx hb dX8_findRound_212 (lv_at hl 1 rfl) ?_
            refine lv_icmp_gt (tgt := 222) hx hb dX8_findRound_214 (by decide) (fun c_41 => ?_) (fun c_41 => ?_)
            · refine lv_iload hx hb dX8_findRound_222 (lv_at hl 1 rfl) ?_
              refine va_iast hx hb hK hP hD hS 6 1 rfl rfl (vp_in_nI (by omega) (by decide)) dX8_findRound_224 (fun H locs hP hD hS => ?_)
              have hQ9 := pd_mk [((a 0), .inr (8, (fX8 a (nI tx) fp (nI t0) wd (nI we) nu na (nI rd) ts (nI ru) (nI rw) (nI ca) df db sd))), (aI k (a 1) 3 (nF dn)), (aI k (a 4) 27 (sg se tm gs)), (aI k (a 2) 72 ffrees), (aI k (a 3) 72 fprices), (aI k (a 18) 768 (upd fo3_12 (192 * rn + 8 * q_9 + g2_12) x_32)), (aI k (a 19) 768 (upd fw3_12 (Int32.toNatClampNeg (nI (192 * rn + 8 * q_9 + g2_12))) x_32)), (aI k (a 20) 5 fstarts), (aI k (a 21) 4 (upd fends rn r_1)), (aZ k (a 22) 4 (upd fgoesRound rn (vp_nar .boolean 0))), (aI k (a 23) 8 fbegin)] hP hD
              clear hP hD
              obtain ⟨hP, hD⟩ := hQ9
              rw [nI_clamp (n := (192 * rn + 8 * q_9 + g2_12)) (by omega)] at hP hD
              have hQ9 := pd_mk [((a 0), .inr (8, (fX8 a (nI tx) fp (nI t0) wd (nI we) nu na (nI rd) ts (nI ru) (nI rw) (nI ca) df db sd))), (aI k (a 1) 3 (nF dn)), (aI k (a 4) 27 (sg se tm gs)), (aI k (a 2) 72 ffrees), (aI k (a 3) 72 fprices), (aI k (a 18) 768 (upd fo3_12 (192 * rn + 8 * q_9 + g2_12) x_32)), (aI k (a 19) 768 (upd fw3_12 (192 * rn + 8 * q_9 + g2_12) x_32)), (aI k (a 20) 5 fstarts), (aI k (a 21) 4 (upd fends rn r_1)), (aZ k (a 22) 4 (upd fgoesRound rn (vp_nar .boolean 0))), (aI k (a 23) 8 fbegin)] hP hD
              clear hP hD
              obtain ⟨hP, hD⟩ := hQ9
              refine lv_iinc (v := (nI (g2_12 + 1))) (lv' := [(7, .int (nI (g2_12 + 1))), (9, .int r_34), (8, .int x_32), (6, .int (nI q_9)), (5, .int r_1), (4, .int r_1), (3, .int (nI (dn sn))), (0, .ref (a 0)), (1, .int (nI sn)), (2, .int (nI rn))]) hx hb dX8_findRound_225 hl (k := 2) rfl (nI_add g2_12 1) (by decide) rfl (fun ls hl => ?_)
              refine lv_goto (tgt := 111) hx hb dX8_findRound_228 (by decide) ?_
              have hso_12 := on_step (d := (sdM dn (sg se tm gs) ffrees fprices sn)) (show dn sn ≤ 24 by omega) (show se sn ≤ 2 by omega) (show q_9 < dn sn by omega) (show g2_12 < 8 by omega) hv_12.2.1 hv_12.2.2.1 hxo_33
              have hsw_12 := ww_step (d := (sdM dn (sg se tm gs) ffrees fprices sn)) (show dn sn ≤ 24 by omega) (show se sn ≤ 2 by omega) (show q_9 < dn sn by omega) (show g2_12 < 8 by omega) hv_12.2.2.2.1 hv_12.2.2.2.2.1 ((pWm_2 (on := x_32) (show g2_12 < 8 by omega) c_39 (hw_34.trans (mTake (ffr := ffrees) (show q_9 < dn sn by omega))) (Int32.not_le.mpr c_41)).trans (congrArg (fun z => pW (sdM dn (sg se tm gs) ffrees fprices sn) rn q_9 z _) hxo_33))
              rw [(show slN rn q_9 g2_12 = 192 * rn + 8 * q_9 + g2_12 by unfold slN; omega)] at hso_12 hsw_12
              exact ih_12 _ (g2_12 + 1, (upd fo3_12 (192 * rn + 8 * q_9 + g2_12) x_32), (upd fw3_12 (192 * rn + 8 * q_9 + g2_12) x_32)) _ _ _ (by omega) ⟨rfl, ⟨by omega, hso_12.1, hso_12.2, hsw_12.1, hsw_12.2, fun x hx => (pk_un (by omega)).trans (hv_12.2.2.2.2.2.1 x hx), fun x hx => (pk_un (by omega)).trans (hv_12.2.2.2.2.2.2 x hx)⟩, hP, hD, hS, (lv_sub hl [0, 3, 4, 5, 6, 7, 8, 9] rfl)⟩
            · refine lv_iload hx hb dX8_findRound_217 (lv_at hl 0 rfl) ?_
              refine lv_goto (tgt := 224) hx hb dX8_findRound_219 (by decide) ?_
              refine va_iast hx hb hK hP hD hS 6 1 rfl rfl (vp_in_nI (by omega) (by decide)) dX8_findRound_224 (fun H locs hP hD hS => ?_)
              have hQ9 := pd_mk [((a 0), .inr (8, (fX8 a (nI tx) fp (nI t0) wd (nI we) nu na (nI rd) ts (nI ru) (nI rw) (nI ca) df db sd))), (aI k (a 1) 3 (nF dn)), (aI k (a 4) 27 (sg se tm gs)), (aI k (a 2) 72 ffrees), (aI k (a 3) 72 fprices), (aI k (a 18) 768 (upd fo3_12 (192 * rn + 8 * q_9 + g2_12) x_32)), (aI k (a 19) 768 (upd fw3_12 (Int32.toNatClampNeg (nI (192 * rn + 8 * q_9 + g2_12))) r_34)), (aI k (a 20) 5 fstarts), (aI k (a 21) 4 (upd fends rn r_1)), (aZ k (a 22) 4 (upd fgoesRound rn (vp_nar .boolean 0))), (aI k (a 23) 8 fbegin)] hP hD
              clear hP hD
              obtain ⟨hP, hD⟩ := hQ9
              rw [nI_clamp (n := (192 * rn + 8 * q_9 + g2_12)) (by omega)] at hP hD
              have hQ9 := pd_mk [((a 0), .inr (8, (fX8 a (nI tx) fp (nI t0) wd (nI we) nu na (nI rd) ts (nI ru) (nI rw) (nI ca) df db sd))), (aI k (a 1) 3 (nF dn)), (aI k (a 4) 27 (sg se tm gs)), (aI k (a 2) 72 ffrees), (aI k (a 3) 72 fprices), (aI k (a 18) 768 (upd fo3_12 (192 * rn + 8 * q_9 + g2_12) x_32)), (aI k (a 19) 768 (upd fw3_12 (192 * rn + 8 * q_9 + g2_12) r_34)), (aI k (a 20) 5 fstarts), (aI k (a 21) 4 (upd fends rn r_1)), (aZ k (a 22) 4 (upd fgoesRound rn (vp_nar .boolean 0))), (aI k (a 23) 8 fbegin)] hP hD
              clear hP hD
              obtain ⟨hP, hD⟩ := hQ9
              refine lv_iinc (v := (nI (g2_12 + 1))) (lv' := [(7, .int (nI (g2_12 + 1))), (9, .int r_34), (8, .int x_32), (6, .int (nI q_9)), (5, .int r_1), (4, .int r_1), (3, .int (nI (dn sn))), (0, .ref (a 0)), (1, .int (nI sn)), (2, .int (nI rn))]) hx hb dX8_findRound_225 hl (k := 2) rfl (nI_add g2_12 1) (by decide) rfl (fun ls hl => ?_)
              refine lv_goto (tgt := 111) hx hb dX8_findRound_228 (by decide) ?_
              have hso_12 := on_step (d := (sdM dn (sg se tm gs) ffrees fprices sn)) (show dn sn ≤ 24 by omega) (show se sn ≤ 2 by omega) (show q_9 < dn sn by omega) (show g2_12 < 8 by omega) hv_12.2.1 hv_12.2.2.1 hxo_33
              have hsw_12 := ww_step (d := (sdM dn (sg se tm gs) ffrees fprices sn)) (show dn sn ≤ 24 by omega) (show se sn ≤ 2 by omega) (show q_9 < dn sn by omega) (show g2_12 < 8 by omega) hv_12.2.2.2.1 hv_12.2.2.2.2.1 ((pWm_1 (on := x_32) (show g2_12 < 8 by omega) c_39 (hw_34.trans (mTake (ffr := ffrees) (show q_9 < dn sn by omega))) (Int32.not_lt.mp c_41)).trans (congrArg (fun z => pW (sdM dn (sg se tm gs) ffrees fprices sn) rn q_9 z _) hxo_33))
              rw [(show slN rn q_9 g2_12 = 192 * rn + 8 * q_9 + g2_12 by unfold slN; omega)] at hso_12 hsw_12
              exact ih_12 _ (g2_12 + 1, (upd fo3_12 (192 * rn + 8 * q_9 + g2_12) x_32), (upd fw3_12 (192 * rn + 8 * q_9 + g2_12) r_34)) _ _ _ (by omega) ⟨rfl, ⟨by omega, hso_12.1, hso_12.2, hsw_12.1, hsw_12.2, fun x hx => (pk_un (by omega)).trans (hv_12.2.2.2.2.2.1 x hx), fun x hx => (pk_un (by omega)).trans (hv_12.2.2.2.2.2.2 x hx)⟩, hP, hD, hS, (lv_sub hl [0, 3, 4, 5, 6, 7, 8, 9] rfl)⟩
  · have c_3 : ¬ ((tm sn) ≤ rn) := fun h => c_3 ((nI_leI (a := (tm sn)) (b := rn) (by omega) (by omega)).mpr h)
    refine lv_aload_n hx hb dX8_findRound_26 rfl (lv_at hl 2 rfl) ?_
    refine lv_iload_n hx hb dX8_findRound_27 rfl (lv_at hl 3 rfl) ?_
    refine lv_iconst (v := 2) hx hb dX8_findRound_28 (by decide) ?_
    refine ro_i (D := D) (va_runV (As := [.int (nI sn), .int 2]) (rest := []) ⟨hx, hb, hml, hown, hts⟩ ((m_of l D k st lo a tx t0 we rd ru rw ca fp wd nu na ts df db sd se tm gs sn 2 (by first | assumption | omega) (by first | assumption | omega)) H.size) (cwV 2 hts (gV tw_1194 tw_1196 tw_39 tw_87 tw_1197) rfl rfl rfl (by decide +kernel) ⟨Nat.le_of_ble_eq_true rfl, Nat.le_of_ble_eq_true rfl⟩) (pV hS hAlo hlo hP hK (va_Dlo hD hAlo) hZ [0, 2] (by decide) rfl (ci := 8) (q := (RX8, TX8, 44)) (q0 := 0) rfl rfl) rfl rfl hl.1 rfl (lv_room (Nat.le_of_ble_eq_true rfl)) dX8_findRound_29 ⟨Nat.le_of_ble_eq_true rfl, Nat.le_of_ble_eq_true rfl⟩) hS hA hP (fun r_44 H locs hw_44 hP hS => ?_)
    try dsimp only at hw_44
    refine lv_aload_n hx hb dX8_findRound_32 rfl (lv_at hl 2 rfl) ?_
    refine lv_iload_n hx hb dX8_findRound_33 rfl (lv_at hl 3 rfl) ?_
    refine lv_bipush (v := 6) hx hb dX8_findRound_34 (by decide) ?_
    refine ro_i (D := D) (va_runV (As := [.int (nI sn), .int 6]) (rest := [.int r_44]) ⟨hx, hb, hml, hown, hts⟩ ((m_of l D k st lo a tx t0 we rd ru rw ca fp wd nu na ts df db sd se tm gs sn 6 (by first | assumption | omega) (by first | assumption | omega)) H.size) (cwV 2 hts (gV tw_1194 tw_1196 tw_39 tw_87 tw_1197) rfl rfl rfl (by decide +kernel) ⟨Nat.le_of_ble_eq_true rfl, Nat.le_of_ble_eq_true rfl⟩) (pV hS hAlo hlo hP hK (va_Dlo hD hAlo) hZ [0, 2] (by decide) rfl (ci := 8) (q := (RX8, TX8, 44)) (q0 := 0) rfl rfl) rfl rfl hl.1 rfl (lv_room (Nat.le_of_ble_eq_true rfl)) dX8_findRound_36 ⟨Nat.le_of_ble_eq_true rfl, Nat.le_of_ble_eq_true rfl⟩) hS hA hP (fun r_45 H locs hw_45 hP hS => ?_)
    try dsimp only at hw_45
    refine lv_imul hx hb dX8_findRound_39 ?_
    refine lv_topi (fun x_46 ex_46 => ?_)
    refine lv_sipush (v := 1000) hx hb dX8_findRound_40 (by decide) ?_
    refine lv_imul hx hb dX8_findRound_43 ?_
    refine lv_topi (fun x_47 ex_47 => ?_)
    refine lv_aload_n hx hb dX8_findRound_44 rfl (lv_at hl 2 rfl) ?_
    refine va_get (D := D) (ci := 8) (v := .ref (a 20)) (C := RX8) (T := TX8) (N := 44) hx hb hts inX8 hown hK hP 0 rfl rfl 19 (by decide) (hts _ tw_992) (fun _ h9 => h9) rfl dX8_findRound_45 ?_
    refine lv_iload_n hx hb dX8_findRound_48 rfl (lv_at hl 4 rfl) ?_
    refine lv_iconst (v := 1) hx hb dX8_findRound_49 (by decide) ?_
    refine lv_iadd hx hb dX8_findRound_50 ?_
    refine lv_ti (y := (nI (rn + 1))) (nI_add rn 1) ?_
    refine va_iald hx hb hK hP 7 1 rfl rfl (vp_in_nI (by omega) (by decide)) dX8_findRound_51 ?_
    refine lv_ti (y := (fstarts (rn + 1))) (by rw [nI_clamp (by omega)]) ?_
    refine lv_iadd hx hb dX8_findRound_52 ?_
    refine lv_topi (fun x_48 ex_48 => ?_)
    refine lv_goto (tgt := 58) hx hb dX8_findRound_53 (by decide) ?_
    refine lv_istore (lv' := [(5, .int x_48), (4, .int r_1), (3, .int (nI (dn sn))), (0, .ref (a 0)), (1, .int (nI sn)), (2, .int (nI rn))]) hx hb dX8_findRound_58 hl (by decide) rfl (fun ls hl => ?_)
    refine lv_aload_n hx hb dX8_findRound_60 rfl (lv_at hl 3 rfl) ?_
    refine va_get (D := D) (ci := 8) (v := .ref (a 22)) (C := RX8) (T := TX8) (N := 44) hx hb hts inX8 hown hK hP 0 rfl rfl 21 (by decide) (hts _ tw_994) (fun _ h9 => h9) rfl dX8_findRound_61 ?_
    refine lv_iload_n hx hb dX8_findRound_64 rfl (lv_at hl 5 rfl) ?_
    refine lv_iload hx hb dX8_findRound_65 (lv_at hl 0 rfl) ?_
    refine lv_iload hx hb dX8_findRound_67 (lv_at hl 1 rfl) ?_
    refine lv_icmp_ge (tgt := 76) hx hb dX8_findRound_69 (by decide) (fun c_49 => ?_) (fun c_49 => ?_)
    · refine lv_iconst (v := 0) hx hb dX8_findRound_76 (by decide) ?_
      refine va_zast hx hb hK hP hD hS 9 2 rfl rfl (vp_in_nI (by omega) (by decide)) dX8_findRound_77 (fun H locs hP hD hS => ?_)
      have hQ9 := pd_mk [((a 0), .inr (8, (fX8 a (nI tx) fp (nI t0) wd (nI we) nu na (nI rd) ts (nI ru) (nI rw) (nI ca) df db sd))), (aI k (a 1) 3 (nF dn)), (aI k (a 4) 27 (sg se tm gs)), (aI k (a 2) 72 ffrees), (aI k (a 3) 72 fprices), (aI k (a 18) 768 fons), (aI k (a 19) 768 fworths), (aI k (a 20) 5 fstarts), (aI k (a 21) 4 fends), (aZ k (a 22) 4 (upd fgoesRound (Int32.toNatClampNeg (nI rn)) (vp_nar .boolean 0))), (aI k (a 23) 8 fbegin)] hP hD
      clear hP hD
      obtain ⟨hP, hD⟩ := hQ9
      rw [nI_clamp (n := rn) (by omega)] at hP hD
      have hQ9 := pd_mk [((a 0), .inr (8, (fX8 a (nI tx) fp (nI t0) wd (nI we) nu na (nI rd) ts (nI ru) (nI rw) (nI ca) df db sd))), (aI k (a 1) 3 (nF dn)), (aI k (a 4) 27 (sg se tm gs)), (aI k (a 2) 72 ffrees), (aI k (a 3) 72 fprices), (aI k (a 18) 768 fons), (aI k (a 19) 768 fworths), (aI k (a 20) 5 fstarts), (aI k (a 21) 4 fends), (aZ k (a 22) 4 (upd fgoesRound rn (vp_nar .boolean 0))), (aI k (a 23) 8 fbegin)] hP hD
      clear hP hD
      obtain ⟨hP, hD⟩ := hQ9
      refine lv_aload_n hx hb dX8_findRound_78 rfl (lv_at hl 3 rfl) ?_
      refine va_get (D := D) (ci := 8) (v := .ref (a 21)) (C := RX8) (T := TX8) (N := 44) hx hb hts inX8 hown hK hP 0 rfl rfl 20 (by decide) (hts _ tw_993) (fun _ h9 => h9) rfl dX8_findRound_79 ?_
      refine lv_iload_n hx hb dX8_findRound_82 rfl (lv_at hl 5 rfl) ?_
      refine lv_iload hx hb dX8_findRound_83 (lv_at hl 0 rfl) ?_
      refine lv_iload hx hb dX8_findRound_85 (lv_at hl 1 rfl) ?_
      refine lv_icmp_ge (tgt := 95) hx hb dX8_findRound_87 (by decide) (fun c_51 => ?_) (fun c_51 => absurd c_51 (fun h => h c_49))
      refine lv_iload hx hb dX8_findRound_95 (lv_at hl 1 rfl) ?_
      refine va_iast hx hb hK hP hD hS 8 1 rfl rfl (vp_in_nI (by omega) (by decide)) dX8_findRound_97 (fun H locs hP hD hS => ?_)
      have hQ9 := pd_mk [((a 0), .inr (8, (fX8 a (nI tx) fp (nI t0) wd (nI we) nu na (nI rd) ts (nI ru) (nI rw) (nI ca) df db sd))), (aI k (a 1) 3 (nF dn)), (aI k (a 4) 27 (sg se tm gs)), (aI k (a 2) 72 ffrees), (aI k (a 3) 72 fprices), (aI k (a 18) 768 fons), (aI k (a 19) 768 fworths), (aI k (a 20) 5 fstarts), (aI k (a 21) 4 (upd fends (Int32.toNatClampNeg (nI rn)) r_1)), (aZ k (a 22) 4 (upd fgoesRound rn (vp_nar .boolean 0))), (aI k (a 23) 8 fbegin)] hP hD
      clear hP hD
      obtain ⟨hP, hD⟩ := hQ9
      rw [nI_clamp (n := rn) (by omega)] at hP hD
      have hQ9 := pd_mk [((a 0), .inr (8, (fX8 a (nI tx) fp (nI t0) wd (nI we) nu na (nI rd) ts (nI ru) (nI rw) (nI ca) df db sd))), (aI k (a 1) 3 (nF dn)), (aI k (a 4) 27 (sg se tm gs)), (aI k (a 2) 72 ffrees), (aI k (a 3) 72 fprices), (aI k (a 18) 768 fons), (aI k (a 19) 768 fworths), (aI k (a 20) 5 fstarts), (aI k (a 21) 4 (upd fends rn r_1)), (aZ k (a 22) 4 (upd fgoesRound rn (vp_nar .boolean 0))), (aI k (a 23) 8 fbegin)] hP hD
      clear hP hD
      obtain ⟨hP, hD⟩ := hQ9
      have hby_53 : x_48 = pRnd (sdM dn (sg se tm gs) ffrees fprices sn) + pSr (sdM dn (sg se tm gs) ffrees fprices sn) (se sn) (tm sn) (rn + 1) := by rw [ex_48, ex_47, ex_46, hw_44, hw_45, mRnd (dn := dn) (ffr := ffrees) (fpr := fprices), (hWm (rn + 1) (by omega) (by omega)).2.1]
      have hga_53 := hw_1.trans (mGar (dn := dn) (se := se) (tm := tm) (gs := gs) (ffr := ffrees) (fpr := fprices) (s := sn) (r := rn))
      have hx_53 : r_1 = pEr (sdM dn (sg se tm gs) ffrees fprices sn) (se sn) (tm sn) rn := by rw [pEr_ahead (by omega), ← hga_53, ← hby_53]; unfold pMn; rw [if_neg (Int32.not_lt.mpr c_49)]
      have hy_53 : (vp_nar .boolean 0) = grV (sdM dn (sg se tm gs) ffrees fprices sn) (se sn) (tm sn) rn := by unfold grV; rw [pEr_ahead (by omega), ← hga_53, ← hby_53]; rw [if_neg (fun q => absurd (gr_of.mp q) (Int32.not_lt.mpr c_49))]; rfl
      refine lv_iload_n hx hb dX8_findRound_98 rfl (lv_at hl 2 rfl) ?_
      refine lv_iconst (v := 1) hx hb dX8_findRound_99 (by decide) ?_
      refine lv_isub hx hb dX8_findRound_100 ?_
      refine lv_ti (y := (nI (dn sn) - 1)) rfl ?_
      refine lv_istore (lv' := [(6, .int (nI (dn sn) - 1)), (5, .int x_48), (4, .int r_1), (3, .int (nI (dn sn))), (0, .ref (a 0)), (1, .int (nI sn)), (2, .int (nI rn))]) hx hb dX8_findRound_101 hl (by decide) rfl (fun ls hl => ?_)
      refine W_loop (σ := Nat × (Nat → Int32) × (Nat → Int32)) (fun (n_ : Nat) (x_ : Nat × (Nat → Int32) × (Nat → Int32)) (H : Heap) (locs : List Loc) (ls : Array Slot) => match x_ with | (q_54, fo_54, fw_54) => n_ = 2 * q_54 ∧ (q_54 ≤ dn sn ∧ onOK (sdM dn (sg se tm gs) ffrees fprices sn) (se sn) rn r_1 q_54 fo_54 ∧ wwOK (sdM dn (sg se tm gs) ffrees fprices sn) (se sn) rn r_1 q_54 fw_54 ∧ (∀ x, ¬ (192 * rn ≤ x ∧ x < 192 * rn + 192) → fo_54 x = fons x) ∧ (∀ x, ¬ (192 * rn ≤ x ∧ x < 192 * rn + 192) → fw_54 x = fworths x)) ∧ va_P D classes [((a 0), .inr (8, (fX8 a (nI tx) fp (nI t0) wd (nI we) nu na (nI rd) ts (nI ru) (nI rw) (nI ca) df db sd))), (aI k (a 1) 3 (nF dn)), (aI k (a 4) 27 (sg se tm gs)), (aI k (a 2) 72 ffrees), (aI k (a 3) 72 fprices), (aI k (a 18) 768 fo_54), (aI k (a 19) 768 fw_54), (aI k (a 20) 5 fstarts), (aI k (a 21) 4 (upd fends rn r_1)), (aZ k (a 22) 4 (upd fgoesRound rn (vp_nar .boolean 0))), (aI k (a 23) 8 fbegin)] H ∧ va_D A [((a 0), .inr (8, (fX8 a (nI tx) fp (nI t0) wd (nI we) nu na (nI rd) ts (nI ru) (nI rw) (nI ca) df db sd))), (aI k (a 1) 3 (nF dn)), (aI k (a 4) 27 (sg se tm gs)), (aI k (a 2) 72 ffrees), (aI k (a 3) 72 fprices), (aI k (a 18) 768 fo_54), (aI k (a 19) 768 fw_54), (aI k (a 20) 5 fstarts), (aI k (a 21) 4 (upd fends rn r_1)), (aZ k (a 22) 4 (upd fgoesRound rn (vp_nar .boolean 0))), (aI k (a 23) 8 fbegin)] ∧ va_S A s.heap H locs ∧ lv_has ls 10 [(6, .int (nI q_54 - 1)), (5, .int x_48), (4, .int r_1), (3, .int (nI (dn sn))), (0, .ref (a 0)), (1, .int (nI sn)), (2, .int (nI rn))]) (fun n_54 x_54 H locs ls hI ih_54 => ?_) _ (dn sn, fons, fworths) ⟨rfl, ⟨by omega, fun i h1 h2 => absurd h1 (by have h3 : i < dn sn := h2; omega), fun i h1 h2 => absurd h1 (by have h3 : i < dn sn := h2; omega), fun _ _ => rfl, fun _ _ => rfl⟩, hP, hD, hS, (lv_sub hl [0, 1, 2, 3, 4, 5, 6] rfl)⟩
      obtain ⟨q_54, fo_54, fw_54⟩ := x_54
      obtain ⟨hm_54, hv_54, hP, hD, hS, hl⟩ := hI
      subst hm_54
      rcases q_54 with _ | q_54
      · rw [dn0] at hl
        refine lv_iload hx hb dX8_findRound_103 (lv_at hl 0 rfl) ?_
        refine lv_if_lt (tgt := 237) hx hb dX8_findRound_105 (by decide) (fun _ => ?_) (fun h => absurd (by decide) h)
        refine lv_aload_n hx hb dX8_findRound_237 rfl (lv_at hl 4 rfl) ?_
        refine va_get (D := D) (ci := 8) (v := .ref (a 20)) (C := RX8) (T := TX8) (N := 44) hx hb hts inX8 hown hK hP 0 rfl rfl 19 (by decide) (hts _ tw_992) (fun _ h9 => h9) rfl dX8_findRound_238 ?_
        refine lv_iload_n hx hb dX8_findRound_241 rfl (lv_at hl 6 rfl) ?_
        refine lv_aload_n hx hb dX8_findRound_242 rfl (lv_at hl 4 rfl) ?_
        refine lv_iload_n hx hb dX8_findRound_243 rfl (lv_at hl 5 rfl) ?_
        refine lv_iload_n hx hb dX8_findRound_244 rfl (lv_at hl 6 rfl) ?_
        refine rw_i (D := D) (wr := [(aI k (a 18) 768 fo_54), (aI k (a 20) 5 fstarts), (aI k (a 21) 4 (upd fends rn r_1)), (aZ k (a 22) 4 (upd fgoesRound rn (vp_nar .boolean 0)))]) (va_runV (As := [.int (nI sn), .int (nI rn)]) (rest := [.int (nI rn), .ref (a 20)]) ⟨hx, hb, hml, hown, hts⟩ ((n_startOf l D k st lo a tx t0 we rd ru rw ca fp wd nu na ts df db sd dn se tm gs ffrees fprices fw_54 fbegin sn rn r_1 hdn hse (by first | assumption | omega) (by first | assumption | omega) (by first | assumption | omega) hv_54.2.2.1) H.size) (cwV 2 hts (gV tw_1273 tw_1275 tw_53 tw_87 tw_1276) rfl rfl rfl (by decide +kernel) ⟨Nat.le_of_ble_eq_true rfl, Nat.le_of_ble_eq_true rfl⟩) (pV hS hAlo hlo hP hK (va_Dlo hD hAlo) hZ [0, 1, 2, 3, 4, 6, 10] (by decide) rfl (ci := 8) (q := (RX8, TX8, 44)) (q0 := 0) rfl rfl) rfl rfl hl.1 rfl (lv_room (Nat.le_of_ble_eq_true rfl)) dX8_findRound_245 ⟨Nat.le_of_ble_eq_true rfl, Nat.le_of_ble_eq_true rfl⟩) hS hA hP hD [0, 1, 2, 3, 4, 6, 10] [5, 7, 8, 9] rfl rfl (by decide +kernel) (by decide +kernel) (fun r_55 u H locs hw_55 hP hD hS => ?_)
        obtain ⟨fbegin__55, rfl⟩ : ∃ z, z = u := ⟨_, rfl⟩
        have hQ9 := pd_mk [(aI k (a 18) 768 fo_54), (aI k (a 20) 5 fstarts), (aI k (a 21) 4 (upd fends rn r_1)), (aZ k (a 22) 4 (upd fgoesRound rn (vp_nar .boolean 0))), ((a 0), .inr (8, (fX8 a (nI tx) fp (nI t0) wd (nI we) nu na (nI rd) ts (nI ru) (nI rw) (nI ca) df db sd))), (aI k (a 1) 3 (nF dn)), (aI k (a 4) 27 (sg se tm gs)), (aI k (a 2) 72 ffrees), (aI k (a 3) 72 fprices), (aI k (a 19) 768 fw_54), (aI k (a 23) 8 fbegin__55)] hP hD
        clear hP hD
        obtain ⟨hP, hD⟩ := hQ9
        try dsimp only at hw_55
        refine va_iast hx hb hK hP hD hS 1 1 rfl rfl (vp_in_nI (by omega) (by decide)) dX8_findRound_248 (fun H locs hP hD hS => ?_)
        have hQ9 := pd_mk [(aI k (a 18) 768 fo_54), (aI k (a 20) 5 (upd fstarts (Int32.toNatClampNeg (nI rn)) r_55)), (aI k (a 21) 4 (upd fends rn r_1)), (aZ k (a 22) 4 (upd fgoesRound rn (vp_nar .boolean 0))), ((a 0), .inr (8, (fX8 a (nI tx) fp (nI t0) wd (nI we) nu na (nI rd) ts (nI ru) (nI rw) (nI ca) df db sd))), (aI k (a 1) 3 (nF dn)), (aI k (a 4) 27 (sg se tm gs)), (aI k (a 2) 72 ffrees), (aI k (a 3) 72 fprices), (aI k (a 19) 768 fw_54), (aI k (a 23) 8 fbegin__55)] hP hD
        clear hP hD
        obtain ⟨hP, hD⟩ := hQ9
        rw [nI_clamp (n := rn) (by omega)] at hP hD
        have hQ9 := pd_mk [(aI k (a 18) 768 fo_54), (aI k (a 20) 5 (upd fstarts rn r_55)), (aI k (a 21) 4 (upd fends rn r_1)), (aZ k (a 22) 4 (upd fgoesRound rn (vp_nar .boolean 0))), ((a 0), .inr (8, (fX8 a (nI tx) fp (nI t0) wd (nI we) nu na (nI rd) ts (nI ru) (nI rw) (nI ca) df db sd))), (aI k (a 1) 3 (nF dn)), (aI k (a 4) 27 (sg se tm gs)), (aI k (a 2) 72 ffrees), (aI k (a 3) 72 fprices), (aI k (a 19) 768 fw_54), (aI k (a 23) 8 fbegin__55)] hP hD
        clear hP hD
        obtain ⟨hP, hD⟩ := hQ9
        obtain ⟨hP9, hD9⟩ := pd_sub [((a 0), .inr (8, (fX8 a (nI tx) fp (nI t0) wd (nI we) nu na (nI rd) ts (nI ru) (nI rw) (nI ca) df db sd))), (aI k (a 1) 3 (nF dn)), (aI k (a 4) 27 (sg se tm gs)), (aI k (a 2) 72 ffrees), (aI k (a 3) 72 fprices), (aI k (a 18) 768 fo_54), (aI k (a 19) 768 fw_54), (aI k (a 20) 5 (upd fstarts rn r_55)), (aI k (a 21) 4 (upd fends rn r_1)), (aZ k (a 22) 4 (upd fgoesRound rn (vp_nar .boolean 0))), (aI k (a 23) 8 fbegin__55)] [4, 5, 6, 7, 8, 0, 9, 1, 2, 3, 10] hP hD (by decide +kernel) rfl
        exact W.vret hx hb hr (fun t ht hW => ⟨⟨(fo_54, fw_54, (upd fstarts rn r_55), (upd fends rn r_1), (upd fgoesRound rn (vp_nar .boolean 0)), fbegin__55), rfl, wm_step (d := (sdM dn (sg se tm gs) ffrees fprices sn)) (show dn sn ≤ 24 by omega) (show se sn ≤ 2 by omega) (by omega) hWm hx_53 hy_53 hv_54.2.1 hv_54.2.2.1 hv_54.2.2.2.1 hv_54.2.2.2.2 hw_55, by rw [ht]; exact hP9, hD9⟩, hS.F ht⟩) hS.2.2 dX8_findRound_249
      · rw [nI_pred] at hl
        refine lv_iload hx hb dX8_findRound_103 (lv_at hl 0 rfl) ?_
        refine lv_if_lt (tgt := 237) hx hb dX8_findRound_105 (by decide) (fun h => absurd h (nI_pos0 (by omega))) (fun _ => ?_)
        refine lv_iconst (v := 0) hx hb dX8_findRound_108 (by decide) ?_
        refine lv_istore (lv' := [(7, .int 0), (6, .int (nI q_54)), (5, .int x_48), (4, .int r_1), (3, .int (nI (dn sn))), (0, .ref (a 0)), (1, .int (nI sn)), (2, .int (nI rn))]) hx hb dX8_findRound_109 hl (by decide) rfl (fun ls hl => ?_)
        have hp8_54 := p8 (sq_le (see := se sn) (n := dn sn) (i := q_54) (by omega))
        refine W_loop (σ := Nat × (Nat → Int32) × (Nat → Int32)) (fun (n_ : Nat) (x_ : Nat × (Nat → Int32) × (Nat → Int32)) (H : Heap) (locs : List Loc) (ls : Array Slot) => match x_ with | (g2_57, fo3_57, fw3_57) => n_ = 2 ^ sqN (se sn) (dn sn) q_54 - g2_57 ∧ (g2_57 ≤ 2 ^ sqN (se sn) (dn sn) q_54 ∧ onOK (sdM dn (sg se tm gs) ffrees fprices sn) (se sn) rn r_1 (q_54 + 1) fo3_57 ∧ (∀ h, h < g2_57 → fo3_57 (slN rn q_54 h) = pOn (sdM dn (sg se tm gs) ffrees fprices sn) (se sn) rn r_1 q_54 h) ∧ wwOK (sdM dn (sg se tm gs) ffrees fprices sn) (se sn) rn r_1 (q_54 + 1) fw3_57 ∧ (∀ h, h < g2_57 → fw3_57 (slN rn q_54 h) = pWo (sdM dn (sg se tm gs) ffrees fprices sn) (se sn) rn r_1 q_54 h) ∧ (∀ x, ¬ (192 * rn ≤ x ∧ x < 192 * rn + 192) → fo3_57 x = fons x) ∧ (∀ x, ¬ (192 * rn ≤ x ∧ x < 192 * rn + 192) → fw3_57 x = fworths x)) ∧ va_P D classes [((a 0), .inr (8, (fX8 a (nI tx) fp (nI t0) wd (nI we) nu na (nI rd) ts (nI ru) (nI rw) (nI ca) df db sd))), (aI k (a 1) 3 (nF dn)), (aI k (a 4) 27 (sg se tm gs)), (aI k (a 2) 72 ffrees), (aI k (a 3) 72 fprices), (aI k (a 18) 768 fo3_57), (aI k (a 19) 768 fw3_57), (aI k (a 20) 5 fstarts), (aI k (a 21) 4 (upd fends rn r_1)), (aZ k (a 22) 4 (upd fgoesRound rn (vp_nar .boolean 0))), (aI k (a 23) 8 fbegin)] H ∧ va_D A [((a 0), .inr (8, (fX8 a (nI tx) fp (nI t0) wd (nI we) nu na (nI rd) ts (nI ru) (nI rw) (nI ca) df db sd))), (aI k (a 1) 3 (nF dn)), (aI k (a 4) 27 (sg se tm gs)), (aI k (a 2) 72 ffrees), (aI k (a 3) 72 fprices), (aI k (a 18) 768 fo3_57), (aI k (a 19) 768 fw3_57), (aI k (a 20) 5 fstarts), (aI k (a 21) 4 (upd fends rn r_1)), (aZ k (a 22) 4 (upd fgoesRound rn (vp_nar .boolean 0))), (aI k (a 23) 8 fbegin)] ∧ va_S A s.heap H locs ∧ lv_has ls 10 [(7, .int (nI g2_57)), (6, .int (nI q_54)), (5, .int x_48), (4, .int r_1), (3, .int (nI (dn sn))), (0, .ref (a 0)), (1, .int (nI sn)), (2, .int (nI rn))]) (fun n_57 x_57 H locs ls hI ih_57 => ?_) _ (0, fo_54, fw_54) ⟨rfl, ⟨Nat.zero_le _, hv_54.2.1, fun h hh => absurd hh (Nat.not_lt_zero h), hv_54.2.2.1, fun h hh => absurd hh (Nat.not_lt_zero h), hv_54.2.2.2.1, hv_54.2.2.2.2⟩, hP, hD, hS, (lv_sub hl [0, 1, 2, 3, 4, 5, 6, 7] rfl)⟩
        obtain ⟨g2_57, fo3_57, fw3_57⟩ := x_57
        obtain ⟨hm_57, hv_57, hP, hD, hS, hl⟩ := hI
        subst hm_57
        refine lv_iload hx hb dX8_findRound_111 (lv_at hl 0 rfl) ?_
        refine lv_iconst (v := 1) hx hb dX8_findRound_113 (by decide) ?_
        refine lv_aload_n hx hb dX8_findRound_114 rfl (lv_at hl 5 rfl) ?_
        refine lv_iload_n hx hb dX8_findRound_115 rfl (lv_at hl 6 rfl) ?_
        refine lv_iload hx hb dX8_findRound_116 (lv_at hl 1 rfl) ?_
        refine ro_i (D := D) (va_runV (As := [.int (nI sn), .int (nI q_54)]) (rest := [.int 1, .int (nI g2_57)]) ⟨hx, hb, hml, hown, hts⟩ ((n_seen l D k st lo a tx t0 we rd ru rw ca fp wd nu na ts df db sd dn se tm gs sn q_54 hdn hse (by first | assumption | omega) (by first | assumption | omega)) H.size) (cwV 2 hts (gV tw_1246 tw_1248 tw_48 tw_87 tw_1249) rfl rfl rfl (by decide +kernel) ⟨Nat.le_of_ble_eq_true rfl, Nat.le_of_ble_eq_true rfl⟩) (pV hS hAlo hlo hP hK (va_Dlo hD hAlo) hZ [0, 1, 2] (by decide) rfl (ci := 8) (q := (RX8, TX8, 44)) (q0 := 0) rfl rfl) rfl rfl hl.1 rfl (lv_room (Nat.le_of_ble_eq_true rfl)) dX8_findRound_118 ⟨Nat.le_of_ble_eq_true rfl, Nat.le_of_ble_eq_true rfl⟩) hS hA hP (fun r_58 H locs hw_58 hP hS => ?_)
        try dsimp only at hw_58
        obtain ⟨sv_59, esv_59⟩ : ∃ z : Nat, z = sqN (se sn) (dn sn) q_54 := ⟨_, rfl⟩
        rw [← esv_59] at hw_58
        subst hw_58
        have hsv_59 : sv_59 ≤ 3 ∧ sv_59 ≤ dn sn - q_54 ∧ sv_59 ≤ se sn + 1 ∧ (0 < dn sn - q_54 → 1 ≤ sv_59) := by have hse9 := hse sn; rw [esv_59]; unfold sqN; omega
        have hpv_59 := p8 (show sv_59 ≤ 3 by omega)
        have hpe_59 : 2 ^ sv_59 = 2 ^ sqN (se sn) (dn sn) q_54 := by rw [esv_59]
        refine lv_ishl hx hb dX8_findRound_121 ?_
        refine lv_ti (y := (nI (2 ^ sv_59))) (shl1 sv_59 (by omega)) ?_
        refine lv_icmp_ge (tgt := 231) hx hb dX8_findRound_122 (by decide) (fun c_60 => ?_) (fun c_60 => ?_)
        · have c_60 := (nI_leI (a := (2 ^ sv_59)) (b := g2_57) (by omega) (by omega)).mp c_60
          refine lv_iinc (v := (nI q_54 - 1)) (lv' := [(6, .int (nI q_54 - 1)), (7, .int (nI g2_57)), (5, .int x_48), (4, .int r_1), (3, .int (nI (dn sn))), (0, .ref (a 0)), (1, .int (nI sn)), (2, .int (nI rn))]) hx hb dX8_findRound_231 hl (k := 1) rfl (dn1 _) (by decide) rfl (fun ls hl => ?_)
          refine lv_goto (tgt := 103) hx hb dX8_findRound_234 (by decide) ?_
          exact ih_54 _ (q_54, fo3_57, fw3_57) _ _ _ (by omega) ⟨rfl, ⟨by omega, on_door (d := (sdM dn (sg se tm gs) ffrees fprices sn)) (show g2_57 = 2 ^ sqN (se sn) (dn sn) q_54 by omega) hv_57.2.1 hv_57.2.2.1, ww_door (d := (sdM dn (sg se tm gs) ffrees fprices sn)) (show g2_57 = 2 ^ sqN (se sn) (dn sn) q_54 by omega) hv_57.2.2.2.1 hv_57.2.2.2.2.1, hv_57.2.2.2.2.2.1, hv_57.2.2.2.2.2.2⟩, hP, hD, hS, (lv_sub hl [0, 2, 3, 4, 5, 6, 7] rfl)⟩
        · have c_60 : ¬ ((2 ^ sv_59) ≤ g2_57) := fun h => c_60 ((nI_leI (a := (2 ^ sv_59)) (b := g2_57) (by omega) (by omega)).mpr h)
          have hgl_57 : g2_57 < 2 ^ sqN (se sn) (dn sn) q_54 := by omega
          refine lv_aload_n hx hb dX8_findRound_125 rfl (lv_at hl 5 rfl) ?_
          refine lv_iload_n hx hb dX8_findRound_126 rfl (lv_at hl 6 rfl) ?_
          refine lv_iconst (v := 2) hx hb dX8_findRound_127 (by decide) ?_
          refine ro_i (D := D) (va_runV (As := [.int (nI sn), .int 2]) (rest := []) ⟨hx, hb, hml, hown, hts⟩ ((m_of l D k st lo a tx t0 we rd ru rw ca fp wd nu na ts df db sd se tm gs sn 2 (by first | assumption | omega) (by first | assumption | omega)) H.size) (cwV 2 hts (gV tw_1194 tw_1196 tw_39 tw_87 tw_1197) rfl rfl rfl (by decide +kernel) ⟨Nat.le_of_ble_eq_true rfl, Nat.le_of_ble_eq_true rfl⟩) (pV hS hAlo hlo hP hK (va_Dlo hD hAlo) hZ [0, 2] (by decide) rfl (ci := 8) (q := (RX8, TX8, 44)) (q0 := 0) rfl rfl) rfl rfl hl.1 rfl (lv_room (Nat.le_of_ble_eq_true rfl)) dX8_findRound_128 ⟨Nat.le_of_ble_eq_true rfl, Nat.le_of_ble_eq_true rfl⟩) hS hA hP (fun r_61 H locs hw_61 hP hS => ?_)
          try dsimp only at hw_61
          refine lv_sipush (v := 1000) hx hb dX8_findRound_131 (by decide) ?_
          refine lv_imul hx hb dX8_findRound_134 ?_
          refine lv_topi (fun x_62 ex_62 => ?_)
          refine lv_iload hx hb dX8_findRound_135 (lv_at hl 1 rfl) ?_
          refine lv_iload_n hx hb dX8_findRound_137 rfl (lv_at hl 4 rfl) ?_
          refine lv_iconst (v := 1) hx hb dX8_findRound_138 (by decide) ?_
          refine lv_isub hx hb dX8_findRound_139 ?_
          refine lv_ti (y := (nI ((dn sn) - 1))) (pk_sub (a := (dn sn)) (b := 1) (by omega)) ?_
          refine lv_icmp_ne (tgt := 152) hx hb dX8_findRound_140 (by decide) (fun c_63 => ?_) (fun c_63 => ?_)
          · have c_63 : ¬ (q_54 = ((dn sn) - 1)) := fun h => c_63 ((nI_eq (a := q_54) (b := ((dn sn) - 1)) (by omega) (by omega)).mpr h)
            refine lv_aload_n hx hb dX8_findRound_152 rfl (lv_at hl 5 rfl) ?_
            refine lv_iload_n hx hb dX8_findRound_153 rfl (lv_at hl 6 rfl) ?_
            refine lv_iload_n hx hb dX8_findRound_154 rfl (lv_at hl 7 rfl) ?_
            refine lv_iload hx hb dX8_findRound_155 (lv_at hl 1 rfl) ?_
            refine lv_iload hx hb dX8_findRound_157 (lv_at hl 0 rfl) ?_
            refine ro_i (D := D) (va_runV (As := [.int (nI sn), .int (nI rn), .int (nI q_54), .int (nI g2_57)]) (rest := [.int x_62]) ⟨hx, hb, hml, hown, hts⟩ ((n_on l D k st lo a tx t0 we rd ru rw ca fp wd nu na ts df db sd dn se tm gs ffrees fprices fw3_57 sn rn q_54 g2_57 hdn hse (by first | assumption | omega) (by first | assumption | omega) (by first | assumption | omega) (by first | assumption | omega) (by first | assumption | omega)) H.size) (cwV 4 hts (gV tw_1262 tw_1264 tw_52 tw_87 tw_1265) rfl rfl rfl (by decide +kernel) ⟨Nat.le_of_ble_eq_true rfl, Nat.le_of_ble_eq_true rfl⟩) (pV hS hAlo hlo hP hK (va_Dlo hD hAlo) hZ [0, 1, 2, 3, 4, 6] (by decide) rfl (ci := 8) (q := (RX8, TX8, 44)) (q0 := 0) rfl rfl) rfl rfl hl.1 rfl (lv_room (Nat.le_of_ble_eq_true rfl)) dX8_findRound_159 ⟨Nat.le_of_ble_eq_true rfl, Nat.le_of_ble_eq_true rfl⟩) hS hA hP (fun r_64 H locs hw_64 hP hS => ?_)
            try dsimp only at hw_64
            refine lv_iadd hx hb dX8_findRound_162 ?_
            refine lv_topi (fun x_65 ex_65 => ?_)
            have hxo_66 : x_65 = pOn (sdM dn (sg se tm gs) ffrees fprices sn) (se sn) rn r_1 q_54 g2_57 := by rw [ex_65, ex_62, hw_61, mPass (dn := dn) (ffr := ffrees) (fpr := fprices), pOn_next (show q_54 + 1 < dn sn by omega), hw_64]; exact congrArg (fun z => pPass (sdM dn (sg se tm gs) ffrees fprices sn) + z) (nx_congr (show q_54 + 1 < dn sn by omega) hgl_57 (fun q hq => hv_57.2.2.2.1 (q_54 + 1) (by omega) (show q_54 + 1 < dn sn by omega) q hq))
            refine lv_istore (lv' := [(8, .int x_65), (7, .int (nI g2_57)), (6, .int (nI q_54)), (5, .int x_48), (4, .int r_1), (3, .int (nI (dn sn))), (0, .ref (a 0)), (1, .int (nI sn)), (2, .int (nI rn))]) hx hb dX8_findRound_163 hl (by decide) rfl (fun ls hl => ?_)
            refine lv_aload_n hx hb dX8_findRound_165 rfl (lv_at hl 6 rfl) ?_
            refine lv_iload_n hx hb dX8_findRound_166 rfl (lv_at hl 7 rfl) ?_
            refine lv_iload_n hx hb dX8_findRound_167 rfl (lv_at hl 8 rfl) ?_
            refine lv_iload hx hb dX8_findRound_168 (lv_at hl 2 rfl) ?_
            refine ro_i (D := D) (va_runV (As := [.int (nI sn), .int (nI rn), .int (nI q_54)]) (rest := []) ⟨hx, hb, hml, hown, hts⟩ ((n_takingOf l D k st lo a tx t0 we rd ru rw ca fp wd nu na ts df db sd dn se tm gs fprices sn q_54 (nI rn) (by first | assumption | omega) (by first | assumption | omega)) H.size) (cwV 3 hts (gV tw_1222 tw_1224 tw_43 tw_87 tw_1225) rfl rfl rfl (by decide +kernel) ⟨Nat.le_of_ble_eq_true rfl, Nat.le_of_ble_eq_true rfl⟩) (pV hS hAlo hlo hP hK (va_Dlo hD hAlo) hZ [0, 1, 2, 4] (by decide) rfl (ci := 8) (q := (RX8, TX8, 44)) (q0 := 0) rfl rfl) rfl rfl hl.1 rfl (lv_room (Nat.le_of_ble_eq_true rfl)) dX8_findRound_170 ⟨Nat.le_of_ble_eq_true rfl, Nat.le_of_ble_eq_true rfl⟩) hS hA hP (fun r_67 H locs hw_67 hP hS => ?_)
            try dsimp only at hw_67
            refine lv_istore (lv' := [(9, .int r_67), (8, .int x_65), (7, .int (nI g2_57)), (6, .int (nI q_54)), (5, .int x_48), (4, .int r_1), (3, .int (nI (dn sn))), (0, .ref (a 0)), (1, .int (nI sn)), (2, .int (nI rn))]) hx hb dX8_findRound_173 hl (by decide) rfl (fun ls hl => ?_)
            refine lv_aload_n hx hb dX8_findRound_175 rfl (lv_at hl 7 rfl) ?_
            refine va_get (D := D) (ci := 8) (v := .ref (a 18)) (C := RX8) (T := TX8) (N := 44) hx hb hts inX8 hown hK hP 0 rfl rfl 17 (by decide) (hts _ tw_990) (fun _ h9 => h9) rfl dX8_findRound_176 ?_
            refine lv_iload_n hx hb dX8_findRound_179 rfl (lv_at hl 9 rfl) ?_
            refine lv_iload hx hb dX8_findRound_180 (lv_at hl 3 rfl) ?_
            refine lv_iload hx hb dX8_findRound_182 (lv_at hl 2 rfl) ?_
            refine ro_i (D := D) (va_runS (As := [.int (nI rn), .int (nI q_54), .int (nI g2_57)]) (rest := [.ref (a 18)]) ⟨hx, hb, hml, hown, hts⟩ ((m_at l D k st lo rn q_54 g2_57) H.size) (va_cwS 3 hts (gS tw_1266 tw_1267 tw_87 tw_1268) rfl rfl rfl (by decide +kernel) ⟨Nat.le_of_ble_eq_true rfl, Nat.le_of_ble_eq_true rfl⟩) (pS hS hAlo hlo hP hK (va_Dlo hD hAlo) hZ [] (by decide) rfl) rfl rfl hl.1 rfl (lv_room (Nat.le_of_ble_eq_true rfl)) dX8_findRound_184 ⟨Nat.le_of_ble_eq_true rfl, Nat.le_of_ble_eq_true rfl⟩) hS hA hP (fun r_68 H locs hw_68 hP hS => ?_)
            try dsimp only at hw_68
            subst hw_68
            refine lv_iload hx hb dX8_findRound_187 (lv_at hl 1 rfl) ?_
            refine va_iast hx hb hK hP hD hS 5 1 rfl rfl (vp_in_nI (by omega) (by decide)) dX8_findRound_189 (fun H locs hP hD hS => ?_)
            have hQ9 := pd_mk [((a 0), .inr (8, (fX8 a (nI tx) fp (nI t0) wd (nI we) nu na (nI rd) ts (nI ru) (nI rw) (nI ca) df db sd))), (aI k (a 1) 3 (nF dn)), (aI k (a 4) 27 (sg se tm gs)), (aI k (a 2) 72 ffrees), (aI k (a 3) 72 fprices), (aI k (a 18) 768 (upd fo3_57 (Int32.toNatClampNeg (nI (192 * rn + 8 * q_54 + g2_57))) x_65)), (aI k (a 19) 768 fw3_57), (aI k (a 20) 5 fstarts), (aI k (a 21) 4 (upd fends rn r_1)), (aZ k (a 22) 4 (upd fgoesRound rn (vp_nar .boolean 0))), (aI k (a 23) 8 fbegin)] hP hD
            clear hP hD
            obtain ⟨hP, hD⟩ := hQ9
            rw [nI_clamp (n := (192 * rn + 8 * q_54 + g2_57)) (by omega)] at hP hD
            have hQ9 := pd_mk [((a 0), .inr (8, (fX8 a (nI tx) fp (nI t0) wd (nI we) nu na (nI rd) ts (nI ru) (nI rw) (nI ca) df db sd))), (aI k (a 1) 3 (nF dn)), (aI k (a 4) 27 (sg se tm gs)), (aI k (a 2) 72 ffrees), (aI k (a 3) 72 fprices), (aI k (a 18) 768 (upd fo3_57 (192 * rn + 8 * q_54 + g2_57) x_65)), (aI k (a 19) 768 fw3_57), (aI k (a 20) 5 fstarts), (aI k (a 21) 4 (upd fends rn r_1)), (aZ k (a 22) 4 (upd fgoesRound rn (vp_nar .boolean 0))), (aI k (a 23) 8 fbegin)] hP hD
            clear hP hD
            obtain ⟨hP, hD⟩ := hQ9
            refine lv_aload_n hx hb dX8_findRound_190 rfl (lv_at hl 7 rfl) ?_
            refine va_get (D := D) (ci := 8) (v := .ref (a 19)) (C := RX8) (T := TX8) (N := 44) hx hb hts inX8 hown hK hP 0 rfl rfl 18 (by decide) (hts _ tw_991) (fun _ h9 => h9) rfl dX8_findRound_191 ?_
            refine lv_iload_n hx hb dX8_findRound_194 rfl (lv_at hl 9 rfl) ?_
            refine lv_iload hx hb dX8_findRound_195 (lv_at hl 3 rfl) ?_
            refine lv_iload hx hb dX8_findRound_197 (lv_at hl 2 rfl) ?_
            refine ro_i (D := D) (va_runS (As := [.int (nI rn), .int (nI q_54), .int (nI g2_57)]) (rest := [.ref (a 19)]) ⟨hx, hb, hml, hown, hts⟩ ((m_at l D k st lo rn q_54 g2_57) H.size) (va_cwS 3 hts (gS tw_1266 tw_1267 tw_87 tw_1268) rfl rfl rfl (by decide +kernel) ⟨Nat.le_of_ble_eq_true rfl, Nat.le_of_ble_eq_true rfl⟩) (pS hS hAlo hlo hP hK (va_Dlo hD hAlo) hZ [] (by decide) rfl) rfl rfl hl.1 rfl (lv_room (Nat.le_of_ble_eq_true rfl)) dX8_findRound_199 ⟨Nat.le_of_ble_eq_true rfl, Nat.le_of_ble_eq_true rfl⟩) hS hA hP (fun r_70 H locs hw_70 hP hS => ?_)
            try dsimp only at hw_70
            subst hw_70
            refine lv_iload hx hb dX8_findRound_202 (lv_at hl 2 rfl) ?_
            refine lv_iconst (v := 1) hx hb dX8_findRound_204 (by decide) ?_
            refine lv_iand hx hb dX8_findRound_205 ?_
            refine lv_topi (fun x_71 ex_71 => ?_)
            refine lv_iconst (v := 1) hx hb dX8_findRound_206 (by decide) ?_
            refine lv_icmp_ne (tgt := 222) hx hb dX8_findRound_207 (by decide) (fun c_72 => ?_) (fun c_72 => ?_)
            · rw [ex_71] at c_72
              refine lv_iload hx hb dX8_findRound_222 (lv_at hl 1 rfl) ?_
              refine va_iast hx hb hK hP hD hS 6 1 rfl rfl (vp_in_nI (by omega) (by decide)) dX8_findRound_224 (fun H locs hP hD hS => ?_)
              have hQ9 := pd_mk [((a 0), .inr (8, (fX8 a (nI tx) fp (nI t0) wd (nI we) nu na (nI rd) ts (nI ru) (nI rw) (nI ca) df db sd))), (aI k (a 1) 3 (nF dn)), (aI k (a 4) 27 (sg se tm gs)), (aI k (a 2) 72 ffrees), (aI k (a 3) 72 fprices), (aI k (a 18) 768 (upd fo3_57 (192 * rn + 8 * q_54 + g2_57) x_65)), (aI k (a 19) 768 (upd fw3_57 (Int32.toNatClampNeg (nI (192 * rn + 8 * q_54 + g2_57))) x_65)), (aI k (a 20) 5 fstarts), (aI k (a 21) 4 (upd fends rn r_1)), (aZ k (a 22) 4 (upd fgoesRound rn (vp_nar .boolean 0))), (aI k (a 23) 8 fbegin)] hP hD
              clear hP hD
              obtain ⟨hP, hD⟩ := hQ9
              rw [nI_clamp (n := (192 * rn + 8 * q_54 + g2_57)) (by omega)] at hP hD
              have hQ9 := pd_mk [((a 0), .inr (8, (fX8 a (nI tx) fp (nI t0) wd (nI we) nu na (nI rd) ts (nI ru) (nI rw) (nI ca) df db sd))), (aI k (a 1) 3 (nF dn)), (aI k (a 4) 27 (sg se tm gs)), (aI k (a 2) 72 ffrees), (aI k (a 3) 72 fprices), (aI k (a 18) 768 (upd fo3_57 (192 * rn + 8 * q_54 + g2_57) x_65)), (aI k (a 19) 768 (upd fw3_57 (192 * rn + 8 * q_54 + g2_57) x_65)), (aI k (a 20) 5 fstarts), (aI k (a 21) 4 (upd fends rn r_1)), (aZ k (a 22) 4 (upd fgoesRound rn (vp_nar .boolean 0))), (aI k (a 23) 8 fbegin)] hP hD
              clear hP hD
              obtain ⟨hP, hD⟩ := hQ9
              refine lv_iinc (v := (nI (g2_57 + 1))) (lv' := [(7, .int (nI (g2_57 + 1))), (9, .int r_67), (8, .int x_65), (6, .int (nI q_54)), (5, .int x_48), (4, .int r_1), (3, .int (nI (dn sn))), (0, .ref (a 0)), (1, .int (nI sn)), (2, .int (nI rn))]) hx hb dX8_findRound_225 hl (k := 2) rfl (nI_add g2_57 1) (by decide) rfl (fun ls hl => ?_)
              refine lv_goto (tgt := 111) hx hb dX8_findRound_228 (by decide) ?_
              have hso_57 := on_step (d := (sdM dn (sg se tm gs) ffrees fprices sn)) (show dn sn ≤ 24 by omega) (show se sn ≤ 2 by omega) (show q_54 < dn sn by omega) (show g2_57 < 8 by omega) hv_57.2.1 hv_57.2.2.1 hxo_66
              have hsw_57 := ww_step (d := (sdM dn (sg se tm gs) ffrees fprices sn)) (show dn sn ≤ 24 by omega) (show se sn ≤ 2 by omega) (show q_54 < dn sn by omega) (show g2_57 < 8 by omega) hv_57.2.2.2.1 hv_57.2.2.2.2.1 ((pWm_0 (on := x_65) (show g2_57 < 8 by omega) c_72).trans (congrArg (fun z => pW (sdM dn (sg se tm gs) ffrees fprices sn) rn q_54 z _) hxo_66))
              rw [(show slN rn q_54 g2_57 = 192 * rn + 8 * q_54 + g2_57 by unfold slN; omega)] at hso_57 hsw_57
              exact ih_57 _ (g2_57 + 1, (upd fo3_57 (192 * rn + 8 * q_54 + g2_57) x_65), (upd fw3_57 (192 * rn + 8 * q_54 + g2_57) x_65)) _ _ _ (by omega) ⟨rfl, ⟨by omega, hso_57.1, hso_57.2, hsw_57.1, hsw_57.2, fun x hx => (pk_un (by omega)).trans (hv_57.2.2.2.2.2.1 x hx), fun x hx => (pk_un (by omega)).trans (hv_57.2.2.2.2.2.2 x hx)⟩, hP, hD, hS, (lv_sub hl [0, 3, 4, 5, 6, 7, 8, 9] rfl)⟩
            · rw [ex_71] at c_72
              refine lv_iload hx hb dX8_findRound_210 (lv_at hl 0 rfl) ?_
              refine lv_iload hx hb dX8_findRound_212 (lv_at hl 1 rfl) ?_
              refine lv_icmp_gt (tgt := 222) hx hb dX8_findRound_214 (by decide) (fun c_74 => ?_) (fun c_74 => ?_)
              · refine lv_iload hx hb dX8_findRound_222 (lv_at hl 1 rfl) ?_
                refine va_iast hx hb hK hP hD hS 6 1 rfl rfl (vp_in_nI (by omega) (by decide)) dX8_findRound_224 (fun H locs hP hD hS => ?_)
                have hQ9 := pd_mk [((a 0), .inr (8, (fX8 a (nI tx) fp (nI t0) wd (nI we) nu na (nI rd) ts (nI ru) (nI rw) (nI ca) df db sd))), (aI k (a 1) 3 (nF dn)), (aI k (a 4) 27 (sg se tm gs)), (aI k (a 2) 72 ffrees), (aI k (a 3) 72 fprices), (aI k (a 18) 768 (upd fo3_57 (192 * rn + 8 * q_54 + g2_57) x_65)), (aI k (a 19) 768 (upd fw3_57 (Int32.toNatClampNeg (nI (192 * rn + 8 * q_54 + g2_57))) x_65)), (aI k (a 20) 5 fstarts), (aI k (a 21) 4 (upd fends rn r_1)), (aZ k (a 22) 4 (upd fgoesRound rn (vp_nar .boolean 0))), (aI k (a 23) 8 fbegin)] hP hD
                clear hP hD
                obtain ⟨hP, hD⟩ := hQ9
                rw [nI_clamp (n := (192 * rn + 8 * q_54 + g2_57)) (by omega)] at hP hD
                have hQ9 := pd_mk [((a 0), .inr (8, (fX8 a (nI tx) fp (nI t0) wd (nI we) nu na (nI rd) ts (nI ru) (nI rw) (nI ca) df db sd))), (aI k (a 1) 3 (nF dn)), (aI k (a 4) 27 (sg se tm gs)), (aI k (a 2) 72 ffrees), (aI k (a 3) 72 fprices), (aI k (a 18) 768 (upd fo3_57 (192 * rn + 8 * q_54 + g2_57) x_65)), (aI k (a 19) 768 (upd fw3_57 (192 * rn + 8 * q_54 + g2_57) x_65)), (aI k (a 20) 5 fstarts), (aI k (a 21) 4 (upd fends rn r_1)), (aZ k (a 22) 4 (upd fgoesRound rn (vp_nar .boolean 0))), (aI k (a 23) 8 fbegin)] hP hD
                clear hP hD
                obtain ⟨hP, hD⟩ := hQ9
                refine lv_iinc (v := (nI (g2_57 + 1))) (lv' := [(7, .int (nI (g2_57 + 1))), (9, .int r_67), (8, .int x_65), (6, .int (nI q_54)), (5, .int x_48), (4, .int r_1), (3, .int (nI (dn sn))), (0, .ref (a 0)), (1, .int (nI sn)), (2, .int (nI rn))]) hx hb dX8_findRound_225 hl (k := 2) rfl (nI_add g2_57 1) (by decide) rfl (fun ls hl => ?_)
                refine lv_goto (tgt := 111) hx hb dX8_findRound_228 (by decide) ?_
                have hso_57 := on_step (d := (sdM dn (sg se tm gs) ffrees fprices sn)) (show dn sn ≤ 24 by omega) (show se sn ≤ 2 by omega) (show q_54 < dn sn by omega) (show g2_57 < 8 by omega) hv_57.2.1 hv_57.2.2.1 hxo_66
                have hsw_57 := ww_step (d := (sdM dn (sg se tm gs) ffrees fprices sn)) (show dn sn ≤ 24 by omega) (show se sn ≤ 2 by omega) (show q_54 < dn sn by omega) (show g2_57 < 8 by omega) hv_57.2.2.2.1 hv_57.2.2.2.2.1 ((pWm_2 (on := x_65) (show g2_57 < 8 by omega) c_72 (hw_67.trans (mTake (ffr := ffrees) (show q_54 < dn sn by omega))) (Int32.not_le.mpr c_74)).trans (congrArg (fun z => pW (sdM dn (sg se tm gs) ffrees fprices sn) rn q_54 z _) hxo_66))
                rw [(show slN rn q_54 g2_57 = 192 * rn + 8 * q_54 + g2_57 by unfold slN; omega)] at hso_57 hsw_57
                exact ih_57 _ (g2_57 + 1, (upd fo3_57 (192 * rn + 8 * q_54 + g2_57) x_65), (upd fw3_57 (192 * rn + 8 * q_54 + g2_57) x_65)) _ _ _ (by omega) ⟨rfl, ⟨by omega, hso_57.1, hso_57.2, hsw_57.1, hsw_57.2, fun x hx => (pk_un (by omega)).trans (hv_57.2.2.2.2.2.1 x hx), fun x hx => (pk_un (by omega)).trans (hv_57.2.2.2.2.2.2 x hx)⟩, hP, hD, hS, (lv_sub hl [0, 3, 4, 5, 6, 7, 8, 9] rfl)⟩
              · refine lv_iload hx hb dX8_findRound_217 (lv_at hl 0 rfl) ?_
                refine lv_goto (tgt := 224) hx hb dX8_findRound_219 (by decide) ?_
                refine va_iast hx hb hK hP hD hS 6 1 rfl rfl (vp_in_nI (by omega) (by decide)) dX8_findRound_224 (fun H locs hP hD hS => ?_)
                have hQ9 := pd_mk [((a 0), .inr (8, (fX8 a (nI tx) fp (nI t0) wd (nI we) nu na (nI rd) ts (nI ru) (nI rw) (nI ca) df db sd))), (aI k (a 1) 3 (nF dn)), (aI k (a 4) 27 (sg se tm gs)), (aI k (a 2) 72 ffrees), (aI k (a 3) 72 fprices), (aI k (a 18) 768 (upd fo3_57 (192 * rn + 8 * q_54 + g2_57) x_65)), (aI k (a 19) 768 (upd fw3_57 (Int32.toNatClampNeg (nI (192 * rn + 8 * q_54 + g2_57))) r_67)), (aI k (a 20) 5 fstarts), (aI k (a 21) 4 (upd fends rn r_1)), (aZ k (a 22) 4 (upd fgoesRound rn (vp_nar .boolean 0))), (aI k (a 23) 8 fbegin)] hP hD
                clear hP hD
                obtain ⟨hP, hD⟩ := hQ9
                rw [nI_clamp (n := (192 * rn + 8 * q_54 + g2_57)) (by omega)] at hP hD
                have hQ9 := pd_mk [((a 0), .inr (8, (fX8 a (nI tx) fp (nI t0) wd (nI we) nu na (nI rd) ts (nI ru) (nI rw) (nI ca) df db sd))), (aI k (a 1) 3 (nF dn)), (aI k (a 4) 27 (sg se tm gs)), (aI k (a 2) 72 ffrees), (aI k (a 3) 72 fprices), (aI k (a 18) 768 (upd fo3_57 (192 * rn + 8 * q_54 + g2_57) x_65)), (aI k (a 19) 768 (upd fw3_57 (192 * rn + 8 * q_54 + g2_57) r_67)), (aI k (a 20) 5 fstarts), (aI k (a 21) 4 (upd fends rn r_1)), (aZ k (a 22) 4 (upd fgoesRound rn (vp_nar .boolean 0))), (aI k (a 23) 8 fbegin)] hP hD
                clear hP hD
                obtain ⟨hP, hD⟩ := hQ9
                refine lv_iinc (v := (nI (g2_57 + 1))) (lv' := [(7, .int (nI (g2_57 + 1))), (9, .int r_67), (8, .int x_65), (6, .int (nI q_54)), (5, .int x_48), (4, .int r_1), (3, .int (nI (dn sn))), (0, .ref (a 0)), (1, .int (nI sn)), (2, .int (nI rn))]) hx hb dX8_findRound_225 hl (k := 2) rfl (nI_add g2_57 1) (by decide) rfl (fun ls hl => ?_)
                refine lv_goto (tgt := 111) hx hb dX8_findRound_228 (by decide) ?_
                have hso_57 := on_step (d := (sdM dn (sg se tm gs) ffrees fprices sn)) (show dn sn ≤ 24 by omega) (show se sn ≤ 2 by omega) (show q_54 < dn sn by omega) (show g2_57 < 8 by omega) hv_57.2.1 hv_57.2.2.1 hxo_66
                have hsw_57 := ww_step (d := (sdM dn (sg se tm gs) ffrees fprices sn)) (show dn sn ≤ 24 by omega) (show se sn ≤ 2 by omega) (show q_54 < dn sn by omega) (show g2_57 < 8 by omega) hv_57.2.2.2.1 hv_57.2.2.2.2.1 ((pWm_1 (on := x_65) (show g2_57 < 8 by omega) c_72 (hw_67.trans (mTake (ffr := ffrees) (show q_54 < dn sn by omega))) (Int32.not_lt.mp c_74)).trans (congrArg (fun z => pW (sdM dn (sg se tm gs) ffrees fprices sn) rn q_54 z _) hxo_66))
                rw [(show slN rn q_54 g2_57 = 192 * rn + 8 * q_54 + g2_57 by unfold slN; omega)] at hso_57 hsw_57
                exact ih_57 _ (g2_57 + 1, (upd fo3_57 (192 * rn + 8 * q_54 + g2_57) x_65), (upd fw3_57 (192 * rn + 8 * q_54 + g2_57) r_67)) _ _ _ (by omega) ⟨rfl, ⟨by omega, hso_57.1, hso_57.2, hsw_57.1, hsw_57.2, fun x hx => (pk_un (by omega)).trans (hv_57.2.2.2.2.2.1 x hx), fun x hx => (pk_un (by omega)).trans (hv_57.2.2.2.2.2.2 x hx)⟩, hP, hD, hS, (lv_sub hl [0, 3, 4, 5, 6, 7, 8, 9] rfl)⟩
          · have c_63 := (nI_eq (a := q_54) (b := ((dn sn) - 1)) (by omega) (by omega)).mp c_63
            refine lv_aload_n hx hb dX8_findRound_143 rfl (lv_at hl 5 rfl) ?_
            refine va_get (D := D) (ci := 8) (v := .ref (a 21)) (C := RX8) (T := TX8) (N := 44) hx hb hts inX8 hown hK hP 0 rfl rfl 20 (by decide) (hts _ tw_993) (fun _ h9 => h9) rfl dX8_findRound_144 ?_
            refine lv_iload_n hx hb dX8_findRound_147 rfl (lv_at hl 7 rfl) ?_
            refine va_iald hx hb hK hP 8 1 rfl rfl (vp_in_nI (by omega) (by decide)) dX8_findRound_148 ?_
            refine lv_ti (y := ((upd fends rn r_1) rn)) (by rw [nI_clamp (by omega)]) ?_
            refine lv_goto (tgt := 162) hx hb dX8_findRound_149 (by decide) ?_
            refine lv_iadd hx hb dX8_findRound_162 ?_
            refine lv_topi (fun x_77 ex_77 => ?_)
            have hxo_78 : x_77 = pOn (sdM dn (sg se tm gs) ffrees fprices sn) (se sn) rn r_1 q_54 g2_57 := by rw [ex_77, ex_62, hw_61, mPass (dn := dn) (ffr := ffrees) (fpr := fprices), pOn_last (show q_54 + 1 = dn sn by omega), (show (upd fends rn r_1) rn = r_1 from pk_us)]
            refine lv_istore (lv' := [(8, .int x_77), (7, .int (nI g2_57)), (6, .int (nI q_54)), (5, .int x_48), (4, .int r_1), (3, .int (nI (dn sn))), (0, .ref (a 0)), (1, .int (nI sn)), (2, .int (nI rn))]) hx hb dX8_findRound_163 hl (by decide) rfl (fun ls hl => ?_)
            refine lv_aload_n hx hb dX8_findRound_165 rfl (lv_at hl 6 rfl) ?_
            refine lv_iload_n hx hb dX8_findRound_166 rfl (lv_at hl 7 rfl) ?_
            refine lv_iload_n hx hb dX8_findRound_167 rfl (lv_at hl 8 rfl) ?_
            refine lv_iload hx hb dX8_findRound_168 (lv_at hl 2 rfl) ?_
            refine ro_i (D := D) (va_runV (As := [.int (nI sn), .int (nI rn), .int (nI q_54)]) (rest := []) ⟨hx, hb, hml, hown, hts⟩ ((n_takingOf l D k st lo a tx t0 we rd ru rw ca fp wd nu na ts df db sd dn se tm gs fprices sn q_54 (nI rn) (by first | assumption | omega) (by first | assumption | omega)) H.size) (cwV 3 hts (gV tw_1222 tw_1224 tw_43 tw_87 tw_1225) rfl rfl rfl (by decide +kernel) ⟨Nat.le_of_ble_eq_true rfl, Nat.le_of_ble_eq_true rfl⟩) (pV hS hAlo hlo hP hK (va_Dlo hD hAlo) hZ [0, 1, 2, 4] (by decide) rfl (ci := 8) (q := (RX8, TX8, 44)) (q0 := 0) rfl rfl) rfl rfl hl.1 rfl (lv_room (Nat.le_of_ble_eq_true rfl)) dX8_findRound_170 ⟨Nat.le_of_ble_eq_true rfl, Nat.le_of_ble_eq_true rfl⟩) hS hA hP (fun r_79 H locs hw_79 hP hS => ?_)
            try dsimp only at hw_79
            refine lv_istore (lv' := [(9, .int r_79), (8, .int x_77), (7, .int (nI g2_57)), (6, .int (nI q_54)), (5, .int x_48), (4, .int r_1), (3, .int (nI (dn sn))), (0, .ref (a 0)), (1, .int (nI sn)), (2, .int (nI rn))]) hx hb dX8_findRound_173 hl (by decide) rfl (fun ls hl => ?_)
            refine lv_aload_n hx hb dX8_findRound_175 rfl (lv_at hl 7 rfl) ?_
            refine va_get (D := D) (ci := 8) (v := .ref (a 18)) (C := RX8) (T := TX8) (N := 44) hx hb hts inX8 hown hK hP 0 rfl rfl 17 (by decide) (hts _ tw_990) (fun _ h9 => h9) rfl dX8_findRound_176 ?_
            refine lv_iload_n hx hb dX8_findRound_179 rfl (lv_at hl 9 rfl) ?_
            refine lv_iload hx hb dX8_findRound_180 (lv_at hl 3 rfl) ?_
            refine lv_iload hx hb dX8_findRound_182 (lv_at hl 2 rfl) ?_
            refine ro_i (D := D) (va_runS (As := [.int (nI rn), .int (nI q_54), .int (nI g2_57)]) (rest := [.ref (a 18)]) ⟨hx, hb, hml, hown, hts⟩ ((m_at l D k st lo rn q_54 g2_57) H.size) (va_cwS 3 hts (gS tw_1266 tw_1267 tw_87 tw_1268) rfl rfl rfl (by decide +kernel) ⟨Nat.le_of_ble_eq_true rfl, Nat.le_of_ble_eq_true rfl⟩) (pS hS hAlo hlo hP hK (va_Dlo hD hAlo) hZ [] (by decide) rfl) rfl rfl hl.1 rfl (lv_room (Nat.le_of_ble_eq_true rfl)) dX8_findRound_184 ⟨Nat.le_of_ble_eq_true rfl, Nat.le_of_ble_eq_true rfl⟩) hS hA hP (fun r_80 H locs hw_80 hP hS => ?_)
            try dsimp only at hw_80
            subst hw_80
            refine lv_iload hx hb dX8_findRound_187 (lv_at hl 1 rfl) ?_
            refine va_iast hx hb hK hP hD hS 5 1 rfl rfl (vp_in_nI (by omega) (by decide)) dX8_findRound_189 (fun H locs hP hD hS => ?_)
            have hQ9 := pd_mk [((a 0), .inr (8, (fX8 a (nI tx) fp (nI t0) wd (nI we) nu na (nI rd) ts (nI ru) (nI rw) (nI ca) df db sd))), (aI k (a 1) 3 (nF dn)), (aI k (a 4) 27 (sg se tm gs)), (aI k (a 2) 72 ffrees), (aI k (a 3) 72 fprices), (aI k (a 18) 768 (upd fo3_57 (Int32.toNatClampNeg (nI (192 * rn + 8 * q_54 + g2_57))) x_77)), (aI k (a 19) 768 fw3_57), (aI k (a 20) 5 fstarts), (aI k (a 21) 4 (upd fends rn r_1)), (aZ k (a 22) 4 (upd fgoesRound rn (vp_nar .boolean 0))), (aI k (a 23) 8 fbegin)] hP hD
            clear hP hD
            obtain ⟨hP, hD⟩ := hQ9
            rw [nI_clamp (n := (192 * rn + 8 * q_54 + g2_57)) (by omega)] at hP hD
            have hQ9 := pd_mk [((a 0), .inr (8, (fX8 a (nI tx) fp (nI t0) wd (nI we) nu na (nI rd) ts (nI ru) (nI rw) (nI ca) df db sd))), (aI k (a 1) 3 (nF dn)), (aI k (a 4) 27 (sg se tm gs)), (aI k (a 2) 72 ffrees), (aI k (a 3) 72 fprices), (aI k (a 18) 768 (upd fo3_57 (192 * rn + 8 * q_54 + g2_57) x_77)), (aI k (a 19) 768 fw3_57), (aI k (a 20) 5 fstarts), (aI k (a 21) 4 (upd fends rn r_1)), (aZ k (a 22) 4 (upd fgoesRound rn (vp_nar .boolean 0))), (aI k (a 23) 8 fbegin)] hP hD
            clear hP hD
            obtain ⟨hP, hD⟩ := hQ9
            refine lv_aload_n hx hb dX8_findRound_190 rfl (lv_at hl 7 rfl) ?_
            refine va_get (D := D) (ci := 8) (v := .ref (a 19)) (C := RX8) (T := TX8) (N := 44) hx hb hts inX8 hown hK hP 0 rfl rfl 18 (by decide) (hts _ tw_991) (fun _ h9 => h9) rfl dX8_findRound_191 ?_
            refine lv_iload_n hx hb dX8_findRound_194 rfl (lv_at hl 9 rfl) ?_
            refine lv_iload hx hb dX8_findRound_195 (lv_at hl 3 rfl) ?_
            refine lv_iload hx hb dX8_findRound_197 (lv_at hl 2 rfl) ?_
            refine ro_i (D := D) (va_runS (As := [.int (nI rn), .int (nI q_54), .int (nI g2_57)]) (rest := [.ref (a 19)]) ⟨hx, hb, hml, hown, hts⟩ ((m_at l D k st lo rn q_54 g2_57) H.size) (va_cwS 3 hts (gS tw_1266 tw_1267 tw_87 tw_1268) rfl rfl rfl (by decide +kernel) ⟨Nat.le_of_ble_eq_true rfl, Nat.le_of_ble_eq_true rfl⟩) (pS hS hAlo hlo hP hK (va_Dlo hD hAlo) hZ [] (by decide) rfl) rfl rfl hl.1 rfl (lv_room (Nat.le_of_ble_eq_true rfl)) dX8_findRound_199 ⟨Nat.le_of_ble_eq_true rfl, Nat.le_of_ble_eq_true rfl⟩) hS hA hP (fun r_82 H locs hw_82 hP hS => ?_)
            try dsimp only at hw_82
            subst hw_82
            refine lv_iload hx hb dX8_findRound_202 (lv_at hl 2 rfl) ?_
            refine lv_iconst (v := 1) hx hb dX8_findRound_204 (by decide) ?_
            refine lv_iand hx hb dX8_findRound_205 ?_
            refine lv_topi (fun x_83 ex_83 => ?_)
            refine lv_iconst (v := 1) hx hb dX8_findRound_206 (by decide) ?_
            refine lv_icmp_ne (tgt := 222) hx hb dX8_findRound_207 (by decide) (fun c_84 => ?_) (fun c_84 => ?_)
            · rw [ex_83] at c_84
              refine lv_iload hx hb dX8_findRound_222 (lv_at hl 1 rfl) ?_
              refine va_iast hx hb hK hP hD hS 6 1 rfl rfl (vp_in_nI (by omega) (by decide)) dX8_findRound_224 (fun H locs hP hD hS => ?_)
              have hQ9 := pd_mk [((a 0), .inr (8, (fX8 a (nI tx) fp (nI t0) wd (nI we) nu na (nI rd) ts (nI ru) (nI rw) (nI ca) df db sd))), (aI k (a 1) 3 (nF dn)), (aI k (a 4) 27 (sg se tm gs)), (aI k (a 2) 72 ffrees), (aI k (a 3) 72 fprices), (aI k (a 18) 768 (upd fo3_57 (192 * rn + 8 * q_54 + g2_57) x_77)), (aI k (a 19) 768 (upd fw3_57 (Int32.toNatClampNeg (nI (192 * rn + 8 * q_54 + g2_57))) x_77)), (aI k (a 20) 5 fstarts), (aI k (a 21) 4 (upd fends rn r_1)), (aZ k (a 22) 4 (upd fgoesRound rn (vp_nar .boolean 0))), (aI k (a 23) 8 fbegin)] hP hD
              clear hP hD
              obtain ⟨hP, hD⟩ := hQ9
              rw [nI_clamp (n := (192 * rn + 8 * q_54 + g2_57)) (by omega)] at hP hD
              have hQ9 := pd_mk [((a 0), .inr (8, (fX8 a (nI tx) fp (nI t0) wd (nI we) nu na (nI rd) ts (nI ru) (nI rw) (nI ca) df db sd))), (aI k (a 1) 3 (nF dn)), (aI k (a 4) 27 (sg se tm gs)), (aI k (a 2) 72 ffrees), (aI k (a 3) 72 fprices), (aI k (a 18) 768 (upd fo3_57 (192 * rn + 8 * q_54 + g2_57) x_77)), (aI k (a 19) 768 (upd fw3_57 (192 * rn + 8 * q_54 + g2_57) x_77)), (aI k (a 20) 5 fstarts), (aI k (a 21) 4 (upd fends rn r_1)), (aZ k (a 22) 4 (upd fgoesRound rn (vp_nar .boolean 0))), (aI k (a 23) 8 fbegin)] hP hD
              clear hP hD
              obtain ⟨hP, hD⟩ := hQ9
              refine lv_iinc (v := (nI (g2_57 + 1))) (lv' := [(7, .int (nI (g2_57 + 1))), (9, .int r_79), (8, .int x_77), (6, .int (nI q_54)), (5, .int x_48), (4, .int r_1), (3, .int (nI (dn sn))), (0, .ref (a 0)), (1, .int (nI sn)), (2, .int (nI rn))]) hx hb dX8_findRound_225 hl (k := 2) rfl (nI_add g2_57 1) (by decide) rfl (fun ls hl => ?_)
              refine lv_goto (tgt := 111) hx hb dX8_findRound_228 (by decide) ?_
              have hso_57 := on_step (d := (sdM dn (sg se tm gs) ffrees fprices sn)) (show dn sn ≤ 24 by omega) (show se sn ≤ 2 by omega) (show q_54 < dn sn by omega) (show g2_57 < 8 by omega) hv_57.2.1 hv_57.2.2.1 hxo_78
              have hsw_57 := ww_step (d := (sdM dn (sg se tm gs) ffrees fprices sn)) (show dn sn ≤ 24 by omega) (show se sn ≤ 2 by omega) (show q_54 < dn sn by omega) (show g2_57 < 8 by omega) hv_57.2.2.2.1 hv_57.2.2.2.2.1 ((pWm_0 (on := x_77) (show g2_57 < 8 by omega) c_84).trans (congrArg (fun z => pW (sdM dn (sg se tm gs) ffrees fprices sn) rn q_54 z _) hxo_78))
              rw [(show slN rn q_54 g2_57 = 192 * rn + 8 * q_54 + g2_57 by unfold slN; omega)] at hso_57 hsw_57
              exact ih_57 _ (g2_57 + 1, (upd fo3_57 (192 * rn + 8 * q_54 + g2_57) x_77), (upd fw3_57 (192 * rn + 8 * q_54 + g2_57) x_77)) _ _ _ (by omega) ⟨rfl, ⟨by omega, hso_57.1, hso_57.2, hsw_57.1, hsw_57.2, fun x hx => (pk_un (by omega)).trans (hv_57.2.2.2.2.2.1 x hx), fun x hx => (pk_un (by omega)).trans (hv_57.2.2.2.2.2.2 x hx)⟩, hP, hD, hS, (lv_sub hl [0, 3, 4, 5, 6, 7, 8, 9] rfl)⟩
            · rw [ex_83] at c_84
              refine lv_iload hx hb dX8_findRound_210 (lv_at hl 0 rfl) ?_
              refine lv_iload hx hb dX8_findRound_212 (lv_at hl 1 rfl) ?_
              refine lv_icmp_gt (tgt := 222) hx hb dX8_findRound_214 (by decide) (fun c_86 => ?_) (fun c_86 => ?_)
              · refine lv_iload hx hb dX8_findRound_222 (lv_at hl 1 rfl) ?_
                refine va_iast hx hb hK hP hD hS 6 1 rfl rfl (vp_in_nI (by omega) (by decide)) dX8_findRound_224 (fun H locs hP hD hS => ?_)
                have hQ9 := pd_mk [((a 0), .inr (8, (fX8 a (nI tx) fp (nI t0) wd (nI we) nu na (nI rd) ts (nI ru) (nI rw) (nI ca) df db sd))), (aI k (a 1) 3 (nF dn)), (aI k (a 4) 27 (sg se tm gs)), (aI k (a 2) 72 ffrees), (aI k (a 3) 72 fprices), (aI k (a 18) 768 (upd fo3_57 (192 * rn + 8 * q_54 + g2_57) x_77)), (aI k (a 19) 768 (upd fw3_57 (Int32.toNatClampNeg (nI (192 * rn + 8 * q_54 + g2_57))) x_77)), (aI k (a 20) 5 fstarts), (aI k (a 21) 4 (upd fends rn r_1)), (aZ k (a 22) 4 (upd fgoesRound rn (vp_nar .boolean 0))), (aI k (a 23) 8 fbegin)] hP hD
                clear hP hD
                obtain ⟨hP, hD⟩ := hQ9
                rw [nI_clamp (n := (192 * rn + 8 * q_54 + g2_57)) (by omega)] at hP hD
                have hQ9 := pd_mk [((a 0), .inr (8, (fX8 a (nI tx) fp (nI t0) wd (nI we) nu na (nI rd) ts (nI ru) (nI rw) (nI ca) df db sd))), (aI k (a 1) 3 (nF dn)), (aI k (a 4) 27 (sg se tm gs)), (aI k (a 2) 72 ffrees), (aI k (a 3) 72 fprices), (aI k (a 18) 768 (upd fo3_57 (192 * rn + 8 * q_54 + g2_57) x_77)), (aI k (a 19) 768 (upd fw3_57 (192 * rn + 8 * q_54 + g2_57) x_77)), (aI k (a 20) 5 fstarts), (aI k (a 21) 4 (upd fends rn r_1)), (aZ k (a 22) 4 (upd fgoesRound rn (vp_nar .boolean 0))), (aI k (a 23) 8 fbegin)] hP hD
                clear hP hD
                obtain ⟨hP, hD⟩ := hQ9
                refine lv_iinc (v := (nI (g2_57 + 1))) (lv' := [(7, .int (nI (g2_57 + 1))), (9, .int r_79), (8, .int x_77), (6, .int (nI q_54)), (5, .int x_48), (4, .int r_1), (3, .int (nI (dn sn))), (0, .ref (a 0)), (1, .int (nI sn)), (2, .int (nI rn))]) hx hb dX8_findRound_225 hl (k := 2) rfl (nI_add g2_57 1) (by decide) rfl (fun ls hl => ?_)
                refine lv_goto (tgt := 111) hx hb dX8_findRound_228 (by decide) ?_
                have hso_57 := on_step (d := (sdM dn (sg se tm gs) ffrees fprices sn)) (show dn sn ≤ 24 by omega) (show se sn ≤ 2 by omega) (show q_54 < dn sn by omega) (show g2_57 < 8 by omega) hv_57.2.1 hv_57.2.2.1 hxo_78
                have hsw_57 := ww_step (d := (sdM dn (sg se tm gs) ffrees fprices sn)) (show dn sn ≤ 24 by omega) (show se sn ≤ 2 by omega) (show q_54 < dn sn by omega) (show g2_57 < 8 by omega) hv_57.2.2.2.1 hv_57.2.2.2.2.1 ((pWm_2 (on := x_77) (show g2_57 < 8 by omega) c_84 (hw_79.trans (mTake (ffr := ffrees) (show q_54 < dn sn by omega))) (Int32.not_le.mpr c_86)).trans (congrArg (fun z => pW (sdM dn (sg se tm gs) ffrees fprices sn) rn q_54 z _) hxo_78))
                rw [(show slN rn q_54 g2_57 = 192 * rn + 8 * q_54 + g2_57 by unfold slN; omega)] at hso_57 hsw_57
                exact ih_57 _ (g2_57 + 1, (upd fo3_57 (192 * rn + 8 * q_54 + g2_57) x_77), (upd fw3_57 (192 * rn + 8 * q_54 + g2_57) x_77)) _ _ _ (by omega) ⟨rfl, ⟨by omega, hso_57.1, hso_57.2, hsw_57.1, hsw_57.2, fun x hx => (pk_un (by omega)).trans (hv_57.2.2.2.2.2.1 x hx), fun x hx => (pk_un (by omega)).trans (hv_57.2.2.2.2.2.2 x hx)⟩, hP, hD, hS, (lv_sub hl [0, 3, 4, 5, 6, 7, 8, 9] rfl)⟩
              · refine lv_iload hx hb dX8_findRound_217 (lv_at hl 0 rfl) ?_
                refine lv_goto (tgt := 224) hx hb dX8_findRound_219 (by decide) ?_
                refine va_iast hx hb hK hP hD hS 6 1 rfl rfl (vp_in_nI (by omega) (by decide)) dX8_findRound_224 (fun H locs hP hD hS => ?_)
                have hQ9 := pd_mk [((a 0), .inr (8, (fX8 a (nI tx) fp (nI t0) wd (nI we) nu na (nI rd) ts (nI ru) (nI rw) (nI ca) df db sd))), (aI k (a 1) 3 (nF dn)), (aI k (a 4) 27 (sg se tm gs)), (aI k (a 2) 72 ffrees), (aI k (a 3) 72 fprices), (aI k (a 18) 768 (upd fo3_57 (192 * rn + 8 * q_54 + g2_57) x_77)), (aI k (a 19) 768 (upd fw3_57 (Int32.toNatClampNeg (nI (192 * rn + 8 * q_54 + g2_57))) r_79)), (aI k (a 20) 5 fstarts), (aI k (a 21) 4 (upd fends rn r_1)), (aZ k (a 22) 4 (upd fgoesRound rn (vp_nar .boolean 0))), (aI k (a 23) 8 fbegin)] hP hD
                clear hP hD
                obtain ⟨hP, hD⟩ := hQ9
                rw [nI_clamp (n := (192 * rn + 8 * q_54 + g2_57)) (by omega)] at hP hD
                have hQ9 := pd_mk [((a 0), .inr (8, (fX8 a (nI tx) fp (nI t0) wd (nI we) nu na (nI rd) ts (nI ru) (nI rw) (nI ca) df db sd))), (aI k (a 1) 3 (nF dn)), (aI k (a 4) 27 (sg se tm gs)), (aI k (a 2) 72 ffrees), (aI k (a 3) 72 fprices), (aI k (a 18) 768 (upd fo3_57 (192 * rn + 8 * q_54 + g2_57) x_77)), (aI k (a 19) 768 (upd fw3_57 (192 * rn + 8 * q_54 + g2_57) r_79)), (aI k (a 20) 5 fstarts), (aI k (a 21) 4 (upd fends rn r_1)), (aZ k (a 22) 4 (upd fgoesRound rn (vp_nar .boolean 0))), (aI k (a 23) 8 fbegin)] hP hD
                clear hP hD
                obtain ⟨hP, hD⟩ := hQ9
                refine lv_iinc (v := (nI (g2_57 + 1))) (lv' := [(7, .int (nI (g2_57 + 1))), (9, .int r_79), (8, .int x_77), (6, .int (nI q_54)), (5, .int x_48), (4, .int r_1), (3, .int (nI (dn sn))), (0, .ref (a 0)), (1, .int (nI sn)), (2, .int (nI rn))]) hx hb dX8_findRound_225 hl (k := 2) rfl (nI_add g2_57 1) (by decide) rfl (fun ls hl => ?_)
                refine lv_goto (tgt := 111) hx hb dX8_findRound_228 (by decide) ?_
                have hso_57 := on_step (d := (sdM dn (sg se tm gs) ffrees fprices sn)) (show dn sn ≤ 24 by omega) (show se sn ≤ 2 by omega) (show q_54 < dn sn by omega) (show g2_57 < 8 by omega) hv_57.2.1 hv_57.2.2.1 hxo_78
                have hsw_57 := ww_step (d := (sdM dn (sg se tm gs) ffrees fprices sn)) (show dn sn ≤ 24 by omega) (show se sn ≤ 2 by omega) (show q_54 < dn sn by omega) (show g2_57 < 8 by omega) hv_57.2.2.2.1 hv_57.2.2.2.2.1 ((pWm_1 (on := x_77) (show g2_57 < 8 by omega) c_84 (hw_79.trans (mTake (ffr := ffrees) (show q_54 < dn sn by omega))) (Int32.not_lt.mp c_86)).trans (congrArg (fun z => pW (sdM dn (sg se tm gs) ffrees fprices sn) rn q_54 z _) hxo_78))
                rw [(show slN rn q_54 g2_57 = 192 * rn + 8 * q_54 + g2_57 by unfold slN; omega)] at hso_57 hsw_57
                exact ih_57 _ (g2_57 + 1, (upd fo3_57 (192 * rn + 8 * q_54 + g2_57) x_77), (upd fw3_57 (192 * rn + 8 * q_54 + g2_57) r_79)) _ _ _ (by omega) ⟨rfl, ⟨by omega, hso_57.1, hso_57.2, hsw_57.1, hsw_57.2, fun x hx => (pk_un (by omega)).trans (hv_57.2.2.2.2.2.1 x hx), fun x hx => (pk_un (by omega)).trans (hv_57.2.2.2.2.2.2 x hx)⟩, hP, hD, hS, (lv_sub hl [0, 3, 4, 5, 6, 7, 8, 9] rfl)⟩
    · refine lv_iconst (v := 1) hx hb dX8_findRound_72 (by decide) ?_
      refine lv_goto (tgt := 77) hx hb dX8_findRound_73 (by decide) ?_
      refine va_zast hx hb hK hP hD hS 9 2 rfl rfl (vp_in_nI (by omega) (by decide)) dX8_findRound_77 (fun H locs hP hD hS => ?_)
      have hQ9 := pd_mk [((a 0), .inr (8, (fX8 a (nI tx) fp (nI t0) wd (nI we) nu na (nI rd) ts (nI ru) (nI rw) (nI ca) df db sd))), (aI k (a 1) 3 (nF dn)), (aI k (a 4) 27 (sg se tm gs)), (aI k (a 2) 72 ffrees), (aI k (a 3) 72 fprices), (aI k (a 18) 768 fons), (aI k (a 19) 768 fworths), (aI k (a 20) 5 fstarts), (aI k (a 21) 4 fends), (aZ k (a 22) 4 (upd fgoesRound (Int32.toNatClampNeg (nI rn)) (vp_nar .boolean 1))), (aI k (a 23) 8 fbegin)] hP hD
      clear hP hD
      obtain ⟨hP, hD⟩ := hQ9
      rw [nI_clamp (n := rn) (by omega)] at hP hD
      have hQ9 := pd_mk [((a 0), .inr (8, (fX8 a (nI tx) fp (nI t0) wd (nI we) nu na (nI rd) ts (nI ru) (nI rw) (nI ca) df db sd))), (aI k (a 1) 3 (nF dn)), (aI k (a 4) 27 (sg se tm gs)), (aI k (a 2) 72 ffrees), (aI k (a 3) 72 fprices), (aI k (a 18) 768 fons), (aI k (a 19) 768 fworths), (aI k (a 20) 5 fstarts), (aI k (a 21) 4 fends), (aZ k (a 22) 4 (upd fgoesRound rn (vp_nar .boolean 1))), (aI k (a 23) 8 fbegin)] hP hD
      clear hP hD
      obtain ⟨hP, hD⟩ := hQ9
      refine lv_aload_n hx hb dX8_findRound_78 rfl (lv_at hl 3 rfl) ?_
      refine va_get (D := D) (ci := 8) (v := .ref (a 21)) (C := RX8) (T := TX8) (N := 44) hx hb hts inX8 hown hK hP 0 rfl rfl 20 (by decide) (hts _ tw_993) (fun _ h9 => h9) rfl dX8_findRound_79 ?_
      refine lv_iload_n hx hb dX8_findRound_82 rfl (lv_at hl 5 rfl) ?_
      refine lv_iload hx hb dX8_findRound_83 (lv_at hl 0 rfl) ?_
      refine lv_iload hx hb dX8_findRound_85 (lv_at hl 1 rfl) ?_
      refine lv_icmp_ge (tgt := 95) hx hb dX8_findRound_87 (by decide) (fun c_90 => absurd c_90 (c_49)) (fun c_90 => ?_)
      refine lv_iload hx hb dX8_findRound_90 (lv_at hl 0 rfl) ?_
      refine lv_goto (tgt := 97) hx hb dX8_findRound_92 (by decide) ?_
      refine va_iast hx hb hK hP hD hS 8 1 rfl rfl (vp_in_nI (by omega) (by decide)) dX8_findRound_97 (fun H locs hP hD hS => ?_)
      have hQ9 := pd_mk [((a 0), .inr (8, (fX8 a (nI tx) fp (nI t0) wd (nI we) nu na (nI rd) ts (nI ru) (nI rw) (nI ca) df db sd))), (aI k (a 1) 3 (nF dn)), (aI k (a 4) 27 (sg se tm gs)), (aI k (a 2) 72 ffrees), (aI k (a 3) 72 fprices), (aI k (a 18) 768 fons), (aI k (a 19) 768 fworths), (aI k (a 20) 5 fstarts), (aI k (a 21) 4 (upd fends (Int32.toNatClampNeg (nI rn)) x_48)), (aZ k (a 22) 4 (upd fgoesRound rn (vp_nar .boolean 1))), (aI k (a 23) 8 fbegin)] hP hD
      clear hP hD
      obtain ⟨hP, hD⟩ := hQ9
      rw [nI_clamp (n := rn) (by omega)] at hP hD
      have hQ9 := pd_mk [((a 0), .inr (8, (fX8 a (nI tx) fp (nI t0) wd (nI we) nu na (nI rd) ts (nI ru) (nI rw) (nI ca) df db sd))), (aI k (a 1) 3 (nF dn)), (aI k (a 4) 27 (sg se tm gs)), (aI k (a 2) 72 ffrees), (aI k (a 3) 72 fprices), (aI k (a 18) 768 fons), (aI k (a 19) 768 fworths), (aI k (a 20) 5 fstarts), (aI k (a 21) 4 (upd fends rn x_48)), (aZ k (a 22) 4 (upd fgoesRound rn (vp_nar .boolean 1))), (aI k (a 23) 8 fbegin)] hP hD
      clear hP hD
      obtain ⟨hP, hD⟩ := hQ9
      have hby_92 : x_48 = pRnd (sdM dn (sg se tm gs) ffrees fprices sn) + pSr (sdM dn (sg se tm gs) ffrees fprices sn) (se sn) (tm sn) (rn + 1) := by rw [ex_48, ex_47, ex_46, hw_44, hw_45, mRnd (dn := dn) (ffr := ffrees) (fpr := fprices), (hWm (rn + 1) (by omega) (by omega)).2.1]
      have hga_92 := hw_1.trans (mGar (dn := dn) (se := se) (tm := tm) (gs := gs) (ffr := ffrees) (fpr := fprices) (s := sn) (r := rn))
      have hx_92 : x_48 = pEr (sdM dn (sg se tm gs) ffrees fprices sn) (se sn) (tm sn) rn := by rw [pEr_ahead (by omega), ← hga_92, ← hby_92]; unfold pMn; rw [if_pos (Int32.not_le.mp c_49)]
      have hy_92 : (vp_nar .boolean 1) = grV (sdM dn (sg se tm gs) ffrees fprices sn) (se sn) (tm sn) rn := by unfold grV; rw [pEr_ahead (by omega), ← hga_92, ← hby_92]; rw [if_pos (gr_of.mpr (Int32.not_le.mp c_49))]; rfl
      refine lv_iload_n hx hb dX8_findRound_98 rfl (lv_at hl 2 rfl) ?_
      refine lv_iconst (v := 1) hx hb dX8_findRound_99 (by decide) ?_
      refine lv_isub hx hb dX8_findRound_100 ?_
      refine lv_ti (y := (nI (dn sn) - 1)) rfl ?_
      refine lv_istore (lv' := [(6, .int (nI (dn sn) - 1)), (5, .int x_48), (4, .int r_1), (3, .int (nI (dn sn))), (0, .ref (a 0)), (1, .int (nI sn)), (2, .int (nI rn))]) hx hb dX8_findRound_101 hl (by decide) rfl (fun ls hl => ?_)
      refine W_loop (σ := Nat × (Nat → Int32) × (Nat → Int32)) (fun (n_ : Nat) (x_ : Nat × (Nat → Int32) × (Nat → Int32)) (H : Heap) (locs : List Loc) (ls : Array Slot) => match x_ with | (q_93, fo_93, fw_93) => n_ = 2 * q_93 ∧ (q_93 ≤ dn sn ∧ onOK (sdM dn (sg se tm gs) ffrees fprices sn) (se sn) rn x_48 q_93 fo_93 ∧ wwOK (sdM dn (sg se tm gs) ffrees fprices sn) (se sn) rn x_48 q_93 fw_93 ∧ (∀ x, ¬ (192 * rn ≤ x ∧ x < 192 * rn + 192) → fo_93 x = fons x) ∧ (∀ x, ¬ (192 * rn ≤ x ∧ x < 192 * rn + 192) → fw_93 x = fworths x)) ∧ va_P D classes [((a 0), .inr (8, (fX8 a (nI tx) fp (nI t0) wd (nI we) nu na (nI rd) ts (nI ru) (nI rw) (nI ca) df db sd))), (aI k (a 1) 3 (nF dn)), (aI k (a 4) 27 (sg se tm gs)), (aI k (a 2) 72 ffrees), (aI k (a 3) 72 fprices), (aI k (a 18) 768 fo_93), (aI k (a 19) 768 fw_93), (aI k (a 20) 5 fstarts), (aI k (a 21) 4 (upd fends rn x_48)), (aZ k (a 22) 4 (upd fgoesRound rn (vp_nar .boolean 1))), (aI k (a 23) 8 fbegin)] H ∧ va_D A [((a 0), .inr (8, (fX8 a (nI tx) fp (nI t0) wd (nI we) nu na (nI rd) ts (nI ru) (nI rw) (nI ca) df db sd))), (aI k (a 1) 3 (nF dn)), (aI k (a 4) 27 (sg se tm gs)), (aI k (a 2) 72 ffrees), (aI k (a 3) 72 fprices), (aI k (a 18) 768 fo_93), (aI k (a 19) 768 fw_93), (aI k (a 20) 5 fstarts), (aI k (a 21) 4 (upd fends rn x_48)), (aZ k (a 22) 4 (upd fgoesRound rn (vp_nar .boolean 1))), (aI k (a 23) 8 fbegin)] ∧ va_S A s.heap H locs ∧ lv_has ls 10 [(6, .int (nI q_93 - 1)), (5, .int x_48), (4, .int r_1), (3, .int (nI (dn sn))), (0, .ref (a 0)), (1, .int (nI sn)), (2, .int (nI rn))]) (fun n_93 x_93 H locs ls hI ih_93 => ?_) _ (dn sn, fons, fworths) ⟨rfl, ⟨by omega, fun i h1 h2 => absurd h1 (by have h3 : i < dn sn := h2; omega), fun i h1 h2 => absurd h1 (by have h3 : i < dn sn := h2; omega), fun _ _ => rfl, fun _ _ => rfl⟩, hP, hD, hS, (lv_sub hl [0, 1, 2, 3, 4, 5, 6] rfl)⟩
      obtain ⟨q_93, fo_93, fw_93⟩ := x_93
      obtain ⟨hm_93, hv_93, hP, hD, hS, hl⟩ := hI
      subst hm_93
      rcases q_93 with _ | q_93
      · rw [dn0] at hl
        refine lv_iload hx hb dX8_findRound_103 (lv_at hl 0 rfl) ?_
        refine lv_if_lt (tgt := 237) hx hb dX8_findRound_105 (by decide) (fun _ => ?_) (fun h => absurd (by decide) h)
        refine lv_aload_n hx hb dX8_findRound_237 rfl (lv_at hl 4 rfl) ?_
        refine va_get (D := D) (ci := 8) (v := .ref (a 20)) (C := RX8) (T := TX8) (N := 44) hx hb hts inX8 hown hK hP 0 rfl rfl 19 (by decide) (hts _ tw_992) (fun _ h9 => h9) rfl dX8_findRound_238 ?_
        refine lv_iload_n hx hb dX8_findRound_241 rfl (lv_at hl 6 rfl) ?_
        refine lv_aload_n hx hb dX8_findRound_242 rfl (lv_at hl 4 rfl) ?_
        refine lv_iload_n hx hb dX8_findRound_243 rfl (lv_at hl 5 rfl) ?_
        refine lv_iload_n hx hb dX8_findRound_244 rfl (lv_at hl 6 rfl) ?_
        refine rw_i (D := D) (wr := [(aI k (a 18) 768 fo_93), (aI k (a 20) 5 fstarts), (aI k (a 21) 4 (upd fends rn x_48)), (aZ k (a 22) 4 (upd fgoesRound rn (vp_nar .boolean 1)))]) (va_runV (As := [.int (nI sn), .int (nI rn)]) (rest := [.int (nI rn), .ref (a 20)]) ⟨hx, hb, hml, hown, hts⟩ ((n_startOf l D k st lo a tx t0 we rd ru rw ca fp wd nu na ts df db sd dn se tm gs ffrees fprices fw_93 fbegin sn rn x_48 hdn hse (by first | assumption | omega) (by first | assumption | omega) (by first | assumption | omega) hv_93.2.2.1) H.size) (cwV 2 hts (gV tw_1273 tw_1275 tw_53 tw_87 tw_1276) rfl rfl rfl (by decide +kernel) ⟨Nat.le_of_ble_eq_true rfl, Nat.le_of_ble_eq_true rfl⟩) (pV hS hAlo hlo hP hK (va_Dlo hD hAlo) hZ [0, 1, 2, 3, 4, 6, 10] (by decide) rfl (ci := 8) (q := (RX8, TX8, 44)) (q0 := 0) rfl rfl) rfl rfl hl.1 rfl (lv_room (Nat.le_of_ble_eq_true rfl)) dX8_findRound_245 ⟨Nat.le_of_ble_eq_true rfl, Nat.le_of_ble_eq_true rfl⟩) hS hA hP hD [0, 1, 2, 3, 4, 6, 10] [5, 7, 8, 9] rfl rfl (by decide +kernel) (by decide +kernel) (fun r_94 u H locs hw_94 hP hD hS => ?_)
        obtain ⟨fbegin__94, rfl⟩ : ∃ z, z = u := ⟨_, rfl⟩
        have hQ9 := pd_mk [(aI k (a 18) 768 fo_93), (aI k (a 20) 5 fstarts), (aI k (a 21) 4 (upd fends rn x_48)), (aZ k (a 22) 4 (upd fgoesRound rn (vp_nar .boolean 1))), ((a 0), .inr (8, (fX8 a (nI tx) fp (nI t0) wd (nI we) nu na (nI rd) ts (nI ru) (nI rw) (nI ca) df db sd))), (aI k (a 1) 3 (nF dn)), (aI k (a 4) 27 (sg se tm gs)), (aI k (a 2) 72 ffrees), (aI k (a 3) 72 fprices), (aI k (a 19) 768 fw_93), (aI k (a 23) 8 fbegin__94)] hP hD
        clear hP hD
        obtain ⟨hP, hD⟩ := hQ9
        try dsimp only at hw_94
        refine va_iast hx hb hK hP hD hS 1 1 rfl rfl (vp_in_nI (by omega) (by decide)) dX8_findRound_248 (fun H locs hP hD hS => ?_)
        have hQ9 := pd_mk [(aI k (a 18) 768 fo_93), (aI k (a 20) 5 (upd fstarts (Int32.toNatClampNeg (nI rn)) r_94)), (aI k (a 21) 4 (upd fends rn x_48)), (aZ k (a 22) 4 (upd fgoesRound rn (vp_nar .boolean 1))), ((a 0), .inr (8, (fX8 a (nI tx) fp (nI t0) wd (nI we) nu na (nI rd) ts (nI ru) (nI rw) (nI ca) df db sd))), (aI k (a 1) 3 (nF dn)), (aI k (a 4) 27 (sg se tm gs)), (aI k (a 2) 72 ffrees), (aI k (a 3) 72 fprices), (aI k (a 19) 768 fw_93), (aI k (a 23) 8 fbegin__94)] hP hD
        clear hP hD
        obtain ⟨hP, hD⟩ := hQ9
        rw [nI_clamp (n := rn) (by omega)] at hP hD
        have hQ9 := pd_mk [(aI k (a 18) 768 fo_93), (aI k (a 20) 5 (upd fstarts rn r_94)), (aI k (a 21) 4 (upd fends rn x_48)), (aZ k (a 22) 4 (upd fgoesRound rn (vp_nar .boolean 1))), ((a 0), .inr (8, (fX8 a (nI tx) fp (nI t0) wd (nI we) nu na (nI rd) ts (nI ru) (nI rw) (nI ca) df db sd))), (aI k (a 1) 3 (nF dn)), (aI k (a 4) 27 (sg se tm gs)), (aI k (a 2) 72 ffrees), (aI k (a 3) 72 fprices), (aI k (a 19) 768 fw_93), (aI k (a 23) 8 fbegin__94)] hP hD
        clear hP hD
        obtain ⟨hP, hD⟩ := hQ9
        obtain ⟨hP9, hD9⟩ := pd_sub [((a 0), .inr (8, (fX8 a (nI tx) fp (nI t0) wd (nI we) nu na (nI rd) ts (nI ru) (nI rw) (nI ca) df db sd))), (aI k (a 1) 3 (nF dn)), (aI k (a 4) 27 (sg se tm gs)), (aI k (a 2) 72 ffrees), (aI k (a 3) 72 fprices), (aI k (a 18) 768 fo_93), (aI k (a 19) 768 fw_93), (aI k (a 20) 5 (upd fstarts rn r_94)), (aI k (a 21) 4 (upd fends rn x_48)), (aZ k (a 22) 4 (upd fgoesRound rn (vp_nar .boolean 1))), (aI k (a 23) 8 fbegin__94)] [4, 5, 6, 7, 8, 0, 9, 1, 2, 3, 10] hP hD (by decide +kernel) rfl
        exact W.vret hx hb hr (fun t ht hW => ⟨⟨(fo_93, fw_93, (upd fstarts rn r_94), (upd fends rn x_48), (upd fgoesRound rn (vp_nar .boolean 1)), fbegin__94), rfl, wm_step (d := (sdM dn (sg se tm gs) ffrees fprices sn)) (show dn sn ≤ 24 by omega) (show se sn ≤ 2 by omega) (by omega) hWm hx_92 hy_92 hv_93.2.1 hv_93.2.2.1 hv_93.2.2.2.1 hv_93.2.2.2.2 hw_94, by rw [ht]; exact hP9, hD9⟩, hS.F ht⟩) hS.2.2 dX8_findRound_249
      · rw [nI_pred] at hl
        refine lv_iload hx hb dX8_findRound_103 (lv_at hl 0 rfl) ?_
        refine lv_if_lt (tgt := 237) hx hb dX8_findRound_105 (by decide) (fun h => absurd h (nI_pos0 (by omega))) (fun _ => ?_)
        refine lv_iconst (v := 0) hx hb dX8_findRound_108 (by decide) ?_
        refine lv_istore (lv' := [(7, .int 0), (6, .int (nI q_93)), (5, .int x_48), (4, .int r_1), (3, .int (nI (dn sn))), (0, .ref (a 0)), (1, .int (nI sn)), (2, .int (nI rn))]) hx hb dX8_findRound_109 hl (by decide) rfl (fun ls hl => ?_)
        have hp8_93 := p8 (sq_le (see := se sn) (n := dn sn) (i := q_93) (by omega))
        refine W_loop (σ := Nat × (Nat → Int32) × (Nat → Int32)) (fun (n_ : Nat) (x_ : Nat × (Nat → Int32) × (Nat → Int32)) (H : Heap) (locs : List Loc) (ls : Array Slot) => match x_ with | (g2_96, fo3_96, fw3_96) => n_ = 2 ^ sqN (se sn) (dn sn) q_93 - g2_96 ∧ (g2_96 ≤ 2 ^ sqN (se sn) (dn sn) q_93 ∧ onOK (sdM dn (sg se tm gs) ffrees fprices sn) (se sn) rn x_48 (q_93 + 1) fo3_96 ∧ (∀ h, h < g2_96 → fo3_96 (slN rn q_93 h) = pOn (sdM dn (sg se tm gs) ffrees fprices sn) (se sn) rn x_48 q_93 h) ∧ wwOK (sdM dn (sg se tm gs) ffrees fprices sn) (se sn) rn x_48 (q_93 + 1) fw3_96 ∧ (∀ h, h < g2_96 → fw3_96 (slN rn q_93 h) = pWo (sdM dn (sg se tm gs) ffrees fprices sn) (se sn) rn x_48 q_93 h) ∧ (∀ x, ¬ (192 * rn ≤ x ∧ x < 192 * rn + 192) → fo3_96 x = fons x) ∧ (∀ x, ¬ (192 * rn ≤ x ∧ x < 192 * rn + 192) → fw3_96 x = fworths x)) ∧ va_P D classes [((a 0), .inr (8, (fX8 a (nI tx) fp (nI t0) wd (nI we) nu na (nI rd) ts (nI ru) (nI rw) (nI ca) df db sd))), (aI k (a 1) 3 (nF dn)), (aI k (a 4) 27 (sg se tm gs)), (aI k (a 2) 72 ffrees), (aI k (a 3) 72 fprices), (aI k (a 18) 768 fo3_96), (aI k (a 19) 768 fw3_96), (aI k (a 20) 5 fstarts), (aI k (a 21) 4 (upd fends rn x_48)), (aZ k (a 22) 4 (upd fgoesRound rn (vp_nar .boolean 1))), (aI k (a 23) 8 fbegin)] H ∧ va_D A [((a 0), .inr (8, (fX8 a (nI tx) fp (nI t0) wd (nI we) nu na (nI rd) ts (nI ru) (nI rw) (nI ca) df db sd))), (aI k (a 1) 3 (nF dn)), (aI k (a 4) 27 (sg se tm gs)), (aI k (a 2) 72 ffrees), (aI k (a 3) 72 fprices), (aI k (a 18) 768 fo3_96), (aI k (a 19) 768 fw3_96), (aI k (a 20) 5 fstarts), (aI k (a 21) 4 (upd fends rn x_48)), (aZ k (a 22) 4 (upd fgoesRound rn (vp_nar .boolean 1))), (aI k (a 23) 8 fbegin)] ∧ va_S A s.heap H locs ∧ lv_has ls 10 [(7, .int (nI g2_96)), (6, .int (nI q_93)), (5, .int x_48), (4, .int r_1), (3, .int (nI (dn sn))), (0, .ref (a 0)), (1, .int (nI sn)), (2, .int (nI rn))]) (fun n_96 x_96 H locs ls hI ih_96 => ?_) _ (0, fo_93, fw_93) ⟨rfl, ⟨Nat.zero_le _, hv_93.2.1, fun h hh => absurd hh (Nat.not_lt_zero h), hv_93.2.2.1, fun h hh => absurd hh (Nat.not_lt_zero h), hv_93.2.2.2.1, hv_93.2.2.2.2⟩, hP, hD, hS, (lv_sub hl [0, 1, 2, 3, 4, 5, 6, 7] rfl)⟩
        obtain ⟨g2_96, fo3_96, fw3_96⟩ := x_96
        obtain ⟨hm_96, hv_96, hP, hD, hS, hl⟩ := hI
        subst hm_96
        refine lv_iload hx hb dX8_findRound_111 (lv_at hl 0 rfl) ?_
        refine lv_iconst (v := 1) hx hb dX8_findRound_113 (by decide) ?_
        refine lv_aload_n hx hb dX8_findRound_114 rfl (lv_at hl 5 rfl) ?_
        refine lv_iload_n hx hb dX8_findRound_115 rfl (lv_at hl 6 rfl) ?_
        refine lv_iload hx hb dX8_findRound_116 (lv_at hl 1 rfl) ?_
        refine ro_i (D := D) (va_runV (As := [.int (nI sn), .int (nI q_93)]) (rest := [.int 1, .int (nI g2_96)]) ⟨hx, hb, hml, hown, hts⟩ ((n_seen l D k st lo a tx t0 we rd ru rw ca fp wd nu na ts df db sd dn se tm gs sn q_93 hdn hse (by first | assumption | omega) (by first | assumption | omega)) H.size) (cwV 2 hts (gV tw_1246 tw_1248 tw_48 tw_87 tw_1249) rfl rfl rfl (by decide +kernel) ⟨Nat.le_of_ble_eq_true rfl, Nat.le_of_ble_eq_true rfl⟩) (pV hS hAlo hlo hP hK (va_Dlo hD hAlo) hZ [0, 1, 2] (by decide) rfl (ci := 8) (q := (RX8, TX8, 44)) (q0 := 0) rfl rfl) rfl rfl hl.1 rfl (lv_room (Nat.le_of_ble_eq_true rfl)) dX8_findRound_118 ⟨Nat.le_of_ble_eq_true rfl, Nat.le_of_ble_eq_true rfl⟩) hS hA hP (fun r_97 H locs hw_97 hP hS => ?_)
        try dsimp only at hw_97
        obtain ⟨sv_98, esv_98⟩ : ∃ z : Nat, z = sqN (se sn) (dn sn) q_93 := ⟨_, rfl⟩
        rw [← esv_98] at hw_97
        subst hw_97
        have hsv_98 : sv_98 ≤ 3 ∧ sv_98 ≤ dn sn - q_93 ∧ sv_98 ≤ se sn + 1 ∧ (0 < dn sn - q_93 → 1 ≤ sv_98) := by have hse9 := hse sn; rw [esv_98]; unfold sqN; omega
        have hpv_98 := p8 (show sv_98 ≤ 3 by omega)
        have hpe_98 : 2 ^ sv_98 = 2 ^ sqN (se sn) (dn sn) q_93 := by rw [esv_98]
        refine lv_ishl hx hb dX8_findRound_121 ?_
        refine lv_ti (y := (nI (2 ^ sv_98))) (shl1 sv_98 (by omega)) ?_
        refine lv_icmp_ge (tgt := 231) hx hb dX8_findRound_122 (by decide) (fun c_99 => ?_) (fun c_99 => ?_)
        · have c_99 := (nI_leI (a := (2 ^ sv_98)) (b := g2_96) (by omega) (by omega)).mp c_99
          refine lv_iinc (v := (nI q_93 - 1)) (lv' := [(6, .int (nI q_93 - 1)), (7, .int (nI g2_96)), (5, .int x_48), (4, .int r_1), (3, .int (nI (dn sn))), (0, .ref (a 0)), (1, .int (nI sn)), (2, .int (nI rn))]) hx hb dX8_findRound_231 hl (k := 1) rfl (dn1 _) (by decide) rfl (fun ls hl => ?_)
          refine lv_goto (tgt := 103) hx hb dX8_findRound_234 (by decide) ?_
          exact ih_93 _ (q_93, fo3_96, fw3_96) _ _ _ (by omega) ⟨rfl, ⟨by omega, on_door (d := (sdM dn (sg se tm gs) ffrees fprices sn)) (show g2_96 = 2 ^ sqN (se sn) (dn sn) q_93 by omega) hv_96.2.1 hv_96.2.2.1, ww_door (d := (sdM dn (sg se tm gs) ffrees fprices sn)) (show g2_96 = 2 ^ sqN (se sn) (dn sn) q_93 by omega) hv_96.2.2.2.1 hv_96.2.2.2.2.1, hv_96.2.2.2.2.2.1, hv_96.2.2.2.2.2.2⟩, hP, hD, hS, (lv_sub hl [0, 2, 3, 4, 5, 6, 7] rfl)⟩
        · have c_99 : ¬ ((2 ^ sv_98) ≤ g2_96) := fun h => c_99 ((nI_leI (a := (2 ^ sv_98)) (b := g2_96) (by omega) (by omega)).mpr h)
          have hgl_96 : g2_96 < 2 ^ sqN (se sn) (dn sn) q_93 := by omega
          refine lv_aload_n hx hb dX8_findRound_125 rfl (lv_at hl 5 rfl) ?_
          refine lv_iload_n hx hb dX8_findRound_126 rfl (lv_at hl 6 rfl) ?_
          refine lv_iconst (v := 2) hx hb dX8_findRound_127 (by decide) ?_
          refine ro_i (D := D) (va_runV (As := [.int (nI sn), .int 2]) (rest := []) ⟨hx, hb, hml, hown, hts⟩ ((m_of l D k st lo a tx t0 we rd ru rw ca fp wd nu na ts df db sd se tm gs sn 2 (by first | assumption | omega) (by first | assumption | omega)) H.size) (cwV 2 hts (gV tw_1194 tw_1196 tw_39 tw_87 tw_1197) rfl rfl rfl (by decide +kernel) ⟨Nat.le_of_ble_eq_true rfl, Nat.le_of_ble_eq_true rfl⟩) (pV hS hAlo hlo hP hK (va_Dlo hD hAlo) hZ [0, 2] (by decide) rfl (ci := 8) (q := (RX8, TX8, 44)) (q0 := 0) rfl rfl) rfl rfl hl.1 rfl (lv_room (Nat.le_of_ble_eq_true rfl)) dX8_findRound_128 ⟨Nat.le_of_ble_eq_true rfl, Nat.le_of_ble_eq_true rfl⟩) hS hA hP (fun r_100 H locs hw_100 hP hS => ?_)
          try dsimp only at hw_100
          refine lv_sipush (v := 1000) hx hb dX8_findRound_131 (by decide) ?_
          refine lv_imul hx hb dX8_findRound_134 ?_
          refine lv_topi (fun x_101 ex_101 => ?_)
          refine lv_iload hx hb dX8_findRound_135 (lv_at hl 1 rfl) ?_
          refine lv_iload_n hx hb dX8_findRound_137 rfl (lv_at hl 4 rfl) ?_
          refine lv_iconst (v := 1) hx hb dX8_findRound_138 (by decide) ?_
          refine lv_isub hx hb dX8_findRound_139 ?_
          refine lv_ti (y := (nI ((dn sn) - 1))) (pk_sub (a := (dn sn)) (b := 1) (by omega)) ?_
          refine lv_icmp_ne (tgt := 152) hx hb dX8_findRound_140 (by decide) (fun c_102 => ?_) (fun c_102 => ?_)
          · have c_102 : ¬ (q_93 = ((dn sn) - 1)) := fun h => c_102 ((nI_eq (a := q_93) (b := ((dn sn) - 1)) (by omega) (by omega)).mpr h)
            refine lv_aload_n hx hb dX8_findRound_152 rfl (lv_at hl 5 rfl) ?_
            refine lv_iload_n hx hb dX8_findRound_153 rfl (lv_at hl 6 rfl) ?_
            refine lv_iload_n hx hb dX8_findRound_154 rfl (lv_at hl 7 rfl) ?_
            refine lv_iload hx hb dX8_findRound_155 (lv_at hl 1 rfl) ?_
            refine lv_iload hx hb dX8_findRound_157 (lv_at hl 0 rfl) ?_
            refine ro_i (D := D) (va_runV (As := [.int (nI sn), .int (nI rn), .int (nI q_93), .int (nI g2_96)]) (rest := [.int x_101]) ⟨hx, hb, hml, hown, hts⟩ ((n_on l D k st lo a tx t0 we rd ru rw ca fp wd nu na ts df db sd dn se tm gs ffrees fprices fw3_96 sn rn q_93 g2_96 hdn hse (by first | assumption | omega) (by first | assumption | omega) (by first | assumption | omega) (by first | assumption | omega) (by first | assumption | omega)) H.size) (cwV 4 hts (gV tw_1262 tw_1264 tw_52 tw_87 tw_1265) rfl rfl rfl (by decide +kernel) ⟨Nat.le_of_ble_eq_true rfl, Nat.le_of_ble_eq_true rfl⟩) (pV hS hAlo hlo hP hK (va_Dlo hD hAlo) hZ [0, 1, 2, 3, 4, 6] (by decide) rfl (ci := 8) (q := (RX8, TX8, 44)) (q0 := 0) rfl rfl) rfl rfl hl.1 rfl (lv_room (Nat.le_of_ble_eq_true rfl)) dX8_findRound_159 ⟨Nat.le_of_ble_eq_true rfl, Nat.le_of_ble_eq_true rfl⟩) hS hA hP (fun r_103 H locs hw_103 hP hS => ?_)
            try dsimp only at hw_103
            refine lv_iadd hx hb dX8_findRound_162 ?_
            refine lv_topi (fun x_104 ex_104 => ?_)
            have hxo_105 : x_104 = pOn (sdM dn (sg se tm gs) ffrees fprices sn) (se sn) rn x_48 q_93 g2_96 := by rw [ex_104, ex_101, hw_100, mPass (dn := dn) (ffr := ffrees) (fpr := fprices), pOn_next (show q_93 + 1 < dn sn by omega), hw_103]; exact congrArg (fun z => pPass (sdM dn (sg se tm gs) ffrees fprices sn) + z) (nx_congr (show q_93 + 1 < dn sn by omega) hgl_96 (fun q hq => hv_96.2.2.2.1 (q_93 + 1) (by omega) (show q_93 + 1 < dn sn by omega) q hq))
            refine lv_istore (lv' := [(8, .int x_104), (7, .int (nI g2_96)), (6, .int (nI q_93)), (5, .int x_48), (4, .int r_1), (3, .int (nI (dn sn))), (0, .ref (a 0)), (1, .int (nI sn)), (2, .int (nI rn))]) hx hb dX8_findRound_163 hl (by decide) rfl (fun ls hl => ?_)
            refine lv_aload_n hx hb dX8_findRound_165 rfl (lv_at hl 6 rfl) ?_
            refine lv_iload_n hx hb dX8_findRound_166 rfl (lv_at hl 7 rfl) ?_
            refine lv_iload_n hx hb dX8_findRound_167 rfl (lv_at hl 8 rfl) ?_
            refine lv_iload hx hb dX8_findRound_168 (lv_at hl 2 rfl) ?_
            refine ro_i (D := D) (va_runV (As := [.int (nI sn), .int (nI rn), .int (nI q_93)]) (rest := []) ⟨hx, hb, hml, hown, hts⟩ ((n_takingOf l D k st lo a tx t0 we rd ru rw ca fp wd nu na ts df db sd dn se tm gs fprices sn q_93 (nI rn) (by first | assumption | omega) (by first | assumption | omega)) H.size) (cwV 3 hts (gV tw_1222 tw_1224 tw_43 tw_87 tw_1225) rfl rfl rfl (by decide +kernel) ⟨Nat.le_of_ble_eq_true rfl, Nat.le_of_ble_eq_true rfl⟩) (pV hS hAlo hlo hP hK (va_Dlo hD hAlo) hZ [0, 1, 2, 4] (by decide) rfl (ci := 8) (q := (RX8, TX8, 44)) (q0 := 0) rfl rfl) rfl rfl hl.1 rfl (lv_room (Nat.le_of_ble_eq_true rfl)) dX8_findRound_170 ⟨Nat.le_of_ble_eq_true rfl, Nat.le_of_ble_eq_true rfl⟩) hS hA hP (fun r_106 H locs hw_106 hP hS => ?_)
            try dsimp only at hw_106
            refine lv_istore (lv' := [(9, .int r_106), (8, .int x_104), (7, .int (nI g2_96)), (6, .int (nI q_93)), (5, .int x_48), (4, .int r_1), (3, .int (nI (dn sn))), (0, .ref (a 0)), (1, .int (nI sn)), (2, .int (nI rn))]) hx hb dX8_findRound_173 hl (by decide) rfl (fun ls hl => ?_)
            refine lv_aload_n hx hb dX8_findRound_175 rfl (lv_at hl 7 rfl) ?_
            refine va_get (D := D) (ci := 8) (v := .ref (a 18)) (C := RX8) (T := TX8) (N := 44) hx hb hts inX8 hown hK hP 0 rfl rfl 17 (by decide) (hts _ tw_990) (fun _ h9 => h9) rfl dX8_findRound_176 ?_
            refine lv_iload_n hx hb dX8_findRound_179 rfl (lv_at hl 9 rfl) ?_
            refine lv_iload hx hb dX8_findRound_180 (lv_at hl 3 rfl) ?_
            refine lv_iload hx hb dX8_findRound_182 (lv_at hl 2 rfl) ?_
            refine ro_i (D := D) (va_runS (As := [.int (nI rn), .int (nI q_93), .int (nI g2_96)]) (rest := [.ref (a 18)]) ⟨hx, hb, hml, hown, hts⟩ ((m_at l D k st lo rn q_93 g2_96) H.size) (va_cwS 3 hts (gS tw_1266 tw_1267 tw_87 tw_1268) rfl rfl rfl (by decide +kernel) ⟨Nat.le_of_ble_eq_true rfl, Nat.le_of_ble_eq_true rfl⟩) (pS hS hAlo hlo hP hK (va_Dlo hD hAlo) hZ [] (by decide) rfl) rfl rfl hl.1 rfl (lv_room (Nat.le_of_ble_eq_true rfl)) dX8_findRound_184 ⟨Nat.le_of_ble_eq_true rfl, Nat.le_of_ble_eq_true rfl⟩) hS hA hP (fun r_107 H locs hw_107 hP hS => ?_)
            try dsimp only at hw_107
            subst hw_107
            refine lv_iload hx hb dX8_findRound_187 (lv_at hl 1 rfl) ?_
            refine va_iast hx hb hK hP hD hS 5 1 rfl rfl (vp_in_nI (by omega) (by decide)) dX8_findRound_189 (fun H locs hP hD hS => ?_)
            have hQ9 := pd_mk [((a 0), .inr (8, (fX8 a (nI tx) fp (nI t0) wd (nI we) nu na (nI rd) ts (nI ru) (nI rw) (nI ca) df db sd))), (aI k (a 1) 3 (nF dn)), (aI k (a 4) 27 (sg se tm gs)), (aI k (a 2) 72 ffrees), (aI k (a 3) 72 fprices), (aI k (a 18) 768 (upd fo3_96 (Int32.toNatClampNeg (nI (192 * rn + 8 * q_93 + g2_96))) x_104)), (aI k (a 19) 768 fw3_96), (aI k (a 20) 5 fstarts), (aI k (a 21) 4 (upd fends rn x_48)), (aZ k (a 22) 4 (upd fgoesRound rn (vp_nar .boolean 1))), (aI k (a 23) 8 fbegin)] hP hD
            clear hP hD
            obtain ⟨hP, hD⟩ := hQ9
            rw [nI_clamp (n := (192 * rn + 8 * q_93 + g2_96)) (by omega)] at hP hD
            have hQ9 := pd_mk [((a 0), .inr (8, (fX8 a (nI tx) fp (nI t0) wd (nI we) nu na (nI rd) ts (nI ru) (nI rw) (nI ca) df db sd))), (aI k (a 1) 3 (nF dn)), (aI k (a 4) 27 (sg se tm gs)), (aI k (a 2) 72 ffrees), (aI k (a 3) 72 fprices), (aI k (a 18) 768 (upd fo3_96 (192 * rn + 8 * q_93 + g2_96) x_104)), (aI k (a 19) 768 fw3_96), (aI k (a 20) 5 fstarts), (aI k (a 21) 4 (upd fends rn x_48)), (aZ k (a 22) 4 (upd fgoesRound rn (vp_nar .boolean 1))), (aI k (a 23) 8 fbegin)] hP hD
            clear hP hD
            obtain ⟨hP, hD⟩ := hQ9
            refine lv_aload_n hx hb dX8_findRound_190 rfl (lv_at hl 7 rfl) ?_
            refine va_get (D := D) (ci := 8) (v := .ref (a 19)) (C := RX8) (T := TX8) (N := 44) hx hb hts inX8 hown hK hP 0 rfl rfl 18 (by decide) (hts _ tw_991) (fun _ h9 => h9) rfl dX8_findRound_191 ?_
            refine lv_iload_n hx hb dX8_findRound_194 rfl (lv_at hl 9 rfl) ?_
            refine lv_iload hx hb dX8_findRound_195 (lv_at hl 3 rfl) ?_
            refine lv_iload hx hb dX8_findRound_197 (lv_at hl 2 rfl) ?_
            refine ro_i (D := D) (va_runS (As := [.int (nI rn), .int (nI q_93), .int (nI g2_96)]) (rest := [.ref (a 19)]) ⟨hx, hb, hml, hown, hts⟩ ((m_at l D k st lo rn q_93 g2_96) H.size) (va_cwS 3 hts (gS tw_1266 tw_1267 tw_87 tw_1268) rfl rfl rfl (by decide +kernel) ⟨Nat.le_of_ble_eq_true rfl, Nat.le_of_ble_eq_true rfl⟩) (pS hS hAlo hlo hP hK (va_Dlo hD hAlo) hZ [] (by decide) rfl) rfl rfl hl.1 rfl (lv_room (Nat.le_of_ble_eq_true rfl)) dX8_findRound_199 ⟨Nat.le_of_ble_eq_true rfl, Nat.le_of_ble_eq_true rfl⟩) hS hA hP (fun r_109 H locs hw_109 hP hS => ?_)
            try dsimp only at hw_109
            subst hw_109
            refine lv_iload hx hb dX8_findRound_202 (lv_at hl 2 rfl) ?_
            refine lv_iconst (v := 1) hx hb dX8_findRound_204 (by decide) ?_
            refine lv_iand hx hb dX8_findRound_205 ?_
            refine lv_topi (fun x_110 ex_110 => ?_)
            refine lv_iconst (v := 1) hx hb dX8_findRound_206 (by decide) ?_
            refine lv_icmp_ne (tgt := 222) hx hb dX8_findRound_207 (by decide) (fun c_111 => ?_) (fun c_111 => ?_)
            · rw [ex_110] at c_111
              refine lv_iload hx hb dX8_findRound_222 (lv_at hl 1 rfl) ?_
              refine va_iast hx hb hK hP hD hS 6 1 rfl rfl (vp_in_nI (by omega) (by decide)) dX8_findRound_224 (fun H locs hP hD hS => ?_)
              have hQ9 := pd_mk [((a 0), .inr (8, (fX8 a (nI tx) fp (nI t0) wd (nI we) nu na (nI rd) ts (nI ru) (nI rw) (nI ca) df db sd))), (aI k (a 1) 3 (nF dn)), (aI k (a 4) 27 (sg se tm gs)), (aI k (a 2) 72 ffrees), (aI k (a 3) 72 fprices), (aI k (a 18) 768 (upd fo3_96 (192 * rn + 8 * q_93 + g2_96) x_104)), (aI k (a 19) 768 (upd fw3_96 (Int32.toNatClampNeg (nI (192 * rn + 8 * q_93 + g2_96))) x_104)), (aI k (a 20) 5 fstarts), (aI k (a 21) 4 (upd fends rn x_48)), (aZ k (a 22) 4 (upd fgoesRound rn (vp_nar .boolean 1))), (aI k (a 23) 8 fbegin)] hP hD
              clear hP hD
              obtain ⟨hP, hD⟩ := hQ9
              rw [nI_clamp (n := (192 * rn + 8 * q_93 + g2_96)) (by omega)] at hP hD
              have hQ9 := pd_mk [((a 0), .inr (8, (fX8 a (nI tx) fp (nI t0) wd (nI we) nu na (nI rd) ts (nI ru) (nI rw) (nI ca) df db sd))), (aI k (a 1) 3 (nF dn)), (aI k (a 4) 27 (sg se tm gs)), (aI k (a 2) 72 ffrees), (aI k (a 3) 72 fprices), (aI k (a 18) 768 (upd fo3_96 (192 * rn + 8 * q_93 + g2_96) x_104)), (aI k (a 19) 768 (upd fw3_96 (192 * rn + 8 * q_93 + g2_96) x_104)), (aI k (a 20) 5 fstarts), (aI k (a 21) 4 (upd fends rn x_48)), (aZ k (a 22) 4 (upd fgoesRound rn (vp_nar .boolean 1))), (aI k (a 23) 8 fbegin)] hP hD
              clear hP hD
              obtain ⟨hP, hD⟩ := hQ9
              refine lv_iinc (v := (nI (g2_96 + 1))) (lv' := [(7, .int (nI (g2_96 + 1))), (9, .int r_106), (8, .int x_104), (6, .int (nI q_93)), (5, .int x_48), (4, .int r_1), (3, .int (nI (dn sn))), (0, .ref (a 0)), (1, .int (nI sn)), (2, .int (nI rn))]) hx hb dX8_findRound_225 hl (k := 2) rfl (nI_add g2_96 1) (by decide) rfl (fun ls hl => ?_)
              refine lv_goto (tgt := 111) hx hb dX8_findRound_228 (by decide) ?_
              have hso_96 := on_step (d := (sdM dn (sg se tm gs) ffrees fprices sn)) (show dn sn ≤ 24 by omega) (show se sn ≤ 2 by omega) (show q_93 < dn sn by omega) (show g2_96 < 8 by omega) hv_96.2.1 hv_96.2.2.1 hxo_105
              have hsw_96 := ww_step (d := (sdM dn (sg se tm gs) ffrees fprices sn)) (show dn sn ≤ 24 by omega) (show se sn ≤ 2 by omega) (show q_93 < dn sn by omega) (show g2_96 < 8 by omega) hv_96.2.2.2.1 hv_96.2.2.2.2.1 ((pWm_0 (on := x_104) (show g2_96 < 8 by omega) c_111).trans (congrArg (fun z => pW (sdM dn (sg se tm gs) ffrees fprices sn) rn q_93 z _) hxo_105))
              rw [(show slN rn q_93 g2_96 = 192 * rn + 8 * q_93 + g2_96 by unfold slN; omega)] at hso_96 hsw_96
              exact ih_96 _ (g2_96 + 1, (upd fo3_96 (192 * rn + 8 * q_93 + g2_96) x_104), (upd fw3_96 (192 * rn + 8 * q_93 + g2_96) x_104)) _ _ _ (by omega) ⟨rfl, ⟨by omega, hso_96.1, hso_96.2, hsw_96.1, hsw_96.2, fun x hx => (pk_un (by omega)).trans (hv_96.2.2.2.2.2.1 x hx), fun x hx => (pk_un (by omega)).trans (hv_96.2.2.2.2.2.2 x hx)⟩, hP, hD, hS, (lv_sub hl [0, 3, 4, 5, 6, 7, 8, 9] rfl)⟩
            · rw [ex_110] at c_111
              refine lv_iload hx hb dX8_findRound_210 (lv_at hl 0 rfl) ?_
              refine lv_iload hx hb dX8_findRound_212 (lv_at hl 1 rfl) ?_
              refine lv_icmp_gt (tgt := 222) hx hb dX8_findRound_214 (by decide) (fun c_113 => ?_) (fun c_113 => ?_)
              · refine lv_iload hx hb dX8_findRound_222 (lv_at hl 1 rfl) ?_
                refine va_iast hx hb hK hP hD hS 6 1 rfl rfl (vp_in_nI (by omega) (by decide)) dX8_findRound_224 (fun H locs hP hD hS => ?_)
                have hQ9 := pd_mk [((a 0), .inr (8, (fX8 a (nI tx) fp (nI t0) wd (nI we) nu na (nI rd) ts (nI ru) (nI rw) (nI ca) df db sd))), (aI k (a 1) 3 (nF dn)), (aI k (a 4) 27 (sg se tm gs)), (aI k (a 2) 72 ffrees), (aI k (a 3) 72 fprices), (aI k (a 18) 768 (upd fo3_96 (192 * rn + 8 * q_93 + g2_96) x_104)), (aI k (a 19) 768 (upd fw3_96 (Int32.toNatClampNeg (nI (192 * rn + 8 * q_93 + g2_96))) x_104)), (aI k (a 20) 5 fstarts), (aI k (a 21) 4 (upd fends rn x_48)), (aZ k (a 22) 4 (upd fgoesRound rn (vp_nar .boolean 1))), (aI k (a 23) 8 fbegin)] hP hD
                clear hP hD
                obtain ⟨hP, hD⟩ := hQ9
                rw [nI_clamp (n := (192 * rn + 8 * q_93 + g2_96)) (by omega)] at hP hD
                have hQ9 := pd_mk [((a 0), .inr (8, (fX8 a (nI tx) fp (nI t0) wd (nI we) nu na (nI rd) ts (nI ru) (nI rw) (nI ca) df db sd))), (aI k (a 1) 3 (nF dn)), (aI k (a 4) 27 (sg se tm gs)), (aI k (a 2) 72 ffrees), (aI k (a 3) 72 fprices), (aI k (a 18) 768 (upd fo3_96 (192 * rn + 8 * q_93 + g2_96) x_104)), (aI k (a 19) 768 (upd fw3_96 (192 * rn + 8 * q_93 + g2_96) x_104)), (aI k (a 20) 5 fstarts), (aI k (a 21) 4 (upd fends rn x_48)), (aZ k (a 22) 4 (upd fgoesRound rn (vp_nar .boolean 1))), (aI k (a 23) 8 fbegin)] hP hD
                clear hP hD
                obtain ⟨hP, hD⟩ := hQ9
                refine lv_iinc (v := (nI (g2_96 + 1))) (lv' := [(7, .int (nI (g2_96 + 1))), (9, .int r_106), (8, .int x_104), (6, .int (nI q_93)), (5, .int x_48), (4, .int r_1), (3, .int (nI (dn sn))), (0, .ref (a 0)), (1, .int (nI sn)), (2, .int (nI rn))]) hx hb dX8_findRound_225 hl (k := 2) rfl (nI_add g2_96 1) (by decide) rfl (fun ls hl => ?_)
                refine lv_goto (tgt := 111) hx hb dX8_findRound_228 (by decide) ?_
                have hso_96 := on_step (d := (sdM dn (sg se tm gs) ffrees fprices sn)) (show dn sn ≤ 24 by omega) (show se sn ≤ 2 by omega) (show q_93 < dn sn by omega) (show g2_96 < 8 by omega) hv_96.2.1 hv_96.2.2.1 hxo_105
                have hsw_96 := ww_step (d := (sdM dn (sg se tm gs) ffrees fprices sn)) (show dn sn ≤ 24 by omega) (show se sn ≤ 2 by omega) (show q_93 < dn sn by omega) (show g2_96 < 8 by omega) hv_96.2.2.2.1 hv_96.2.2.2.2.1 ((pWm_2 (on := x_104) (show g2_96 < 8 by omega) c_111 (hw_106.trans (mTake (ffr := ffrees) (show q_93 < dn sn by omega))) (Int32.not_le.mpr c_113)).trans (congrArg (fun z => pW (sdM dn (sg se tm gs) ffrees fprices sn) rn q_93 z _) hxo_105))
                rw [(show slN rn q_93 g2_96 = 192 * rn + 8 * q_93 + g2_96 by unfold slN; omega)] at hso_96 hsw_96
                exact ih_96 _ (g2_96 + 1, (upd fo3_96 (192 * rn + 8 * q_93 + g2_96) x_104), (upd fw3_96 (192 * rn + 8 * q_93 + g2_96) x_104)) _ _ _ (by omega) ⟨rfl, ⟨by omega, hso_96.1, hso_96.2, hsw_96.1, hsw_96.2, fun x hx => (pk_un (by omega)).trans (hv_96.2.2.2.2.2.1 x hx), fun x hx => (pk_un (by omega)).trans (hv_96.2.2.2.2.2.2 x hx)⟩, hP, hD, hS, (lv_sub hl [0, 3, 4, 5, 6, 7, 8, 9] rfl)⟩
              · refine lv_iload hx hb dX8_findRound_217 (lv_at hl 0 rfl) ?_
                refine lv_goto (tgt := 224) hx hb dX8_findRound_219 (by decide) ?_
                refine va_iast hx hb hK hP hD hS 6 1 rfl rfl (vp_in_nI (by omega) (by decide)) dX8_findRound_224 (fun H locs hP hD hS => ?_)
                have hQ9 := pd_mk [((a 0), .inr (8, (fX8 a (nI tx) fp (nI t0) wd (nI we) nu na (nI rd) ts (nI ru) (nI rw) (nI ca) df db sd))), (aI k (a 1) 3 (nF dn)), (aI k (a 4) 27 (sg se tm gs)), (aI k (a 2) 72 ffrees), (aI k (a 3) 72 fprices), (aI k (a 18) 768 (upd fo3_96 (192 * rn + 8 * q_93 + g2_96) x_104)), (aI k (a 19) 768 (upd fw3_96 (Int32.toNatClampNeg (nI (192 * rn + 8 * q_93 + g2_96))) r_106)), (aI k (a 20) 5 fstarts), (aI k (a 21) 4 (upd fends rn x_48)), (aZ k (a 22) 4 (upd fgoesRound rn (vp_nar .boolean 1))), (aI k (a 23) 8 fbegin)] hP hD
                clear hP hD
                obtain ⟨hP, hD⟩ := hQ9
                rw [nI_clamp (n := (192 * rn + 8 * q_93 + g2_96)) (by omega)] at hP hD
                have hQ9 := pd_mk [((a 0), .inr (8, (fX8 a (nI tx) fp (nI t0) wd (nI we) nu na (nI rd) ts (nI ru) (nI rw) (nI ca) df db sd))), (aI k (a 1) 3 (nF dn)), (aI k (a 4) 27 (sg se tm gs)), (aI k (a 2) 72 ffrees), (aI k (a 3) 72 fprices), (aI k (a 18) 768 (upd fo3_96 (192 * rn + 8 * q_93 + g2_96) x_104)), (aI k (a 19) 768 (upd fw3_96 (192 * rn + 8 * q_93 + g2_96) r_106)), (aI k (a 20) 5 fstarts), (aI k (a 21) 4 (upd fends rn x_48)), (aZ k (a 22) 4 (upd fgoesRound rn (vp_nar .boolean 1))), (aI k (a 23) 8 fbegin)] hP hD
                clear hP hD
                obtain ⟨hP, hD⟩ := hQ9
                refine lv_iinc (v := (nI (g2_96 + 1))) (lv' := [(7, .int (nI (g2_96 + 1))), (9, .int r_106), (8, .int x_104), (6, .int (nI q_93)), (5, .int x_48), (4, .int r_1), (3, .int (nI (dn sn))), (0, .ref (a 0)), (1, .int (nI sn)), (2, .int (nI rn))]) hx hb dX8_findRound_225 hl (k := 2) rfl (nI_add g2_96 1) (by decide) rfl (fun ls hl => ?_)
                refine lv_goto (tgt := 111) hx hb dX8_findRound_228 (by decide) ?_
                have hso_96 := on_step (d := (sdM dn (sg se tm gs) ffrees fprices sn)) (show dn sn ≤ 24 by omega) (show se sn ≤ 2 by omega) (show q_93 < dn sn by omega) (show g2_96 < 8 by omega) hv_96.2.1 hv_96.2.2.1 hxo_105
                have hsw_96 := ww_step (d := (sdM dn (sg se tm gs) ffrees fprices sn)) (show dn sn ≤ 24 by omega) (show se sn ≤ 2 by omega) (show q_93 < dn sn by omega) (show g2_96 < 8 by omega) hv_96.2.2.2.1 hv_96.2.2.2.2.1 ((pWm_1 (on := x_104) (show g2_96 < 8 by omega) c_111 (hw_106.trans (mTake (ffr := ffrees) (show q_93 < dn sn by omega))) (Int32.not_lt.mp c_113)).trans (congrArg (fun z => pW (sdM dn (sg se tm gs) ffrees fprices sn) rn q_93 z _) hxo_105))
                rw [(show slN rn q_93 g2_96 = 192 * rn + 8 * q_93 + g2_96 by unfold slN; omega)] at hso_96 hsw_96
                exact ih_96 _ (g2_96 + 1, (upd fo3_96 (192 * rn + 8 * q_93 + g2_96) x_104), (upd fw3_96 (192 * rn + 8 * q_93 + g2_96) r_106)) _ _ _ (by omega) ⟨rfl, ⟨by omega, hso_96.1, hso_96.2, hsw_96.1, hsw_96.2, fun x hx => (pk_un (by omega)).trans (hv_96.2.2.2.2.2.1 x hx), fun x hx => (pk_un (by omega)).trans (hv_96.2.2.2.2.2.2 x hx)⟩, hP, hD, hS, (lv_sub hl [0, 3, 4, 5, 6, 7, 8, 9] rfl)⟩
          · have c_102 := (nI_eq (a := q_93) (b := ((dn sn) - 1)) (by omega) (by omega)).mp c_102
            refine lv_aload_n hx hb dX8_findRound_143 rfl (lv_at hl 5 rfl) ?_
            refine va_get (D := D) (ci := 8) (v := .ref (a 21)) (C := RX8) (T := TX8) (N := 44) hx hb hts inX8 hown hK hP 0 rfl rfl 20 (by decide) (hts _ tw_993) (fun _ h9 => h9) rfl dX8_findRound_144 ?_
            refine lv_iload_n hx hb dX8_findRound_147 rfl (lv_at hl 7 rfl) ?_
            refine va_iald hx hb hK hP 8 1 rfl rfl (vp_in_nI (by omega) (by decide)) dX8_findRound_148 ?_
            refine lv_ti (y := ((upd fends rn x_48) rn)) (by rw [nI_clamp (by omega)]) ?_
            refine lv_goto (tgt := 162) hx hb dX8_findRound_149 (by decide) ?_
            refine lv_iadd hx hb dX8_findRound_162 ?_
            refine lv_topi (fun x_116 ex_116 => ?_)
            have hxo_117 : x_116 = pOn (sdM dn (sg se tm gs) ffrees fprices sn) (se sn) rn x_48 q_93 g2_96 := by rw [ex_116, ex_101, hw_100, mPass (dn := dn) (ffr := ffrees) (fpr := fprices), pOn_last (show q_93 + 1 = dn sn by omega), (show (upd fends rn x_48) rn = x_48 from pk_us)]
            refine lv_istore (lv' := [(8, .int x_116), (7, .int (nI g2_96)), (6, .int (nI q_93)), (5, .int x_48), (4, .int r_1), (3, .int (nI (dn sn))), (0, .ref (a 0)), (1, .int (nI sn)), (2, .int (nI rn))]) hx hb dX8_findRound_163 hl (by decide) rfl (fun ls hl => ?_)
            refine lv_aload_n hx hb dX8_findRound_165 rfl (lv_at hl 6 rfl) ?_
            refine lv_iload_n hx hb dX8_findRound_166 rfl (lv_at hl 7 rfl) ?_
            refine lv_iload_n hx hb dX8_findRound_167 rfl (lv_at hl 8 rfl) ?_
            refine lv_iload hx hb dX8_findRound_168 (lv_at hl 2 rfl) ?_
            refine ro_i (D := D) (va_runV (As := [.int (nI sn), .int (nI rn), .int (nI q_93)]) (rest := []) ⟨hx, hb, hml, hown, hts⟩ ((n_takingOf l D k st lo a tx t0 we rd ru rw ca fp wd nu na ts df db sd dn se tm gs fprices sn q_93 (nI rn) (by first | assumption | omega) (by first | assumption | omega)) H.size) (cwV 3 hts (gV tw_1222 tw_1224 tw_43 tw_87 tw_1225) rfl rfl rfl (by decide +kernel) ⟨Nat.le_of_ble_eq_true rfl, Nat.le_of_ble_eq_true rfl⟩) (pV hS hAlo hlo hP hK (va_Dlo hD hAlo) hZ [0, 1, 2, 4] (by decide) rfl (ci := 8) (q := (RX8, TX8, 44)) (q0 := 0) rfl rfl) rfl rfl hl.1 rfl (lv_room (Nat.le_of_ble_eq_true rfl)) dX8_findRound_170 ⟨Nat.le_of_ble_eq_true rfl, Nat.le_of_ble_eq_true rfl⟩) hS hA hP (fun r_118 H locs hw_118 hP hS => ?_)
            try dsimp only at hw_118
            refine lv_istore (lv' := [(9, .int r_118), (8, .int x_116), (7, .int (nI g2_96)), (6, .int (nI q_93)), (5, .int x_48), (4, .int r_1), (3, .int (nI (dn sn))), (0, .ref (a 0)), (1, .int (nI sn)), (2, .int (nI rn))]) hx hb dX8_findRound_173 hl (by decide) rfl (fun ls hl => ?_)
            refine lv_aload_n hx hb dX8_findRound_175 rfl (lv_at hl 7 rfl) ?_
            refine va_get (D := D) (ci := 8) (v := .ref (a 18)) (C := RX8) (T := TX8) (N := 44) hx hb hts inX8 hown hK hP 0 rfl rfl 17 (by decide) (hts _ tw_990) (fun _ h9 => h9) rfl dX8_findRound_176 ?_
            refine lv_iload_n hx hb dX8_findRound_179 rfl (lv_at hl 9 rfl) ?_
            refine lv_iload hx hb dX8_findRound_180 (lv_at hl 3 rfl) ?_
            refine lv_iload hx hb dX8_findRound_182 (lv_at hl 2 rfl) ?_
            refine ro_i (D := D) (va_runS (As := [.int (nI rn), .int (nI q_93), .int (nI g2_96)]) (rest := [.ref (a 18)]) ⟨hx, hb, hml, hown, hts⟩ ((m_at l D k st lo rn q_93 g2_96) H.size) (va_cwS 3 hts (gS tw_1266 tw_1267 tw_87 tw_1268) rfl rfl rfl (by decide +kernel) ⟨Nat.le_of_ble_eq_true rfl, Nat.le_of_ble_eq_true rfl⟩) (pS hS hAlo hlo hP hK (va_Dlo hD hAlo) hZ [] (by decide) rfl) rfl rfl hl.1 rfl (lv_room (Nat.le_of_ble_eq_true rfl)) dX8_findRound_184 ⟨Nat.le_of_ble_eq_true rfl, Nat.le_of_ble_eq_true rfl⟩) hS hA hP (fun r_119 H locs hw_119 hP hS => ?_)
            try dsimp only at hw_119
            subst hw_119
            refine lv_iload hx hb dX8_findRound_187 (lv_at hl 1 rfl) ?_
            refine va_iast hx hb hK hP hD hS 5 1 rfl rfl (vp_in_nI (by omega) (by decide)) dX8_findRound_189 (fun H locs hP hD hS => ?_)
            have hQ9 := pd_mk [((a 0), .inr (8, (fX8 a (nI tx) fp (nI t0) wd (nI we) nu na (nI rd) ts (nI ru) (nI rw) (nI ca) df db sd))), (aI k (a 1) 3 (nF dn)), (aI k (a 4) 27 (sg se tm gs)), (aI k (a 2) 72 ffrees), (aI k (a 3) 72 fprices), (aI k (a 18) 768 (upd fo3_96 (Int32.toNatClampNeg (nI (192 * rn + 8 * q_93 + g2_96))) x_116)), (aI k (a 19) 768 fw3_96), (aI k (a 20) 5 fstarts), (aI k (a 21) 4 (upd fends rn x_48)), (aZ k (a 22) 4 (upd fgoesRound rn (vp_nar .boolean 1))), (aI k (a 23) 8 fbegin)] hP hD
            clear hP hD
            obtain ⟨hP, hD⟩ := hQ9
            rw [nI_clamp (n := (192 * rn + 8 * q_93 + g2_96)) (by omega)] at hP hD
            have hQ9 := pd_mk [((a 0), .inr (8, (fX8 a (nI tx) fp (nI t0) wd (nI we) nu na (nI rd) ts (nI ru) (nI rw) (nI ca) df db sd))), (aI k (a 1) 3 (nF dn)), (aI k (a 4) 27 (sg se tm gs)), (aI k (a 2) 72 ffrees), (aI k (a 3) 72 fprices), (aI k (a 18) 768 (upd fo3_96 (192 * rn + 8 * q_93 + g2_96) x_116)), (aI k (a 19) 768 fw3_96), (aI k (a 20) 5 fstarts), (aI k (a 21) 4 (upd fends rn x_48)), (aZ k (a 22) 4 (upd fgoesRound rn (vp_nar .boolean 1))), (aI k (a 23) 8 fbegin)] hP hD
            clear hP hD
            obtain ⟨hP, hD⟩ := hQ9
            refine lv_aload_n hx hb dX8_findRound_190 rfl (lv_at hl 7 rfl) ?_
            refine va_get (D := D) (ci := 8) (v := .ref (a 19)) (C := RX8) (T := TX8) (N := 44) hx hb hts inX8 hown hK hP 0 rfl rfl 18 (by decide) (hts _ tw_991) (fun _ h9 => h9) rfl dX8_findRound_191 ?_
            refine lv_iload_n hx hb dX8_findRound_194 rfl (lv_at hl 9 rfl) ?_
            refine lv_iload hx hb dX8_findRound_195 (lv_at hl 3 rfl) ?_
            refine lv_iload hx hb dX8_findRound_197 (lv_at hl 2 rfl) ?_
            refine ro_i (D := D) (va_runS (As := [.int (nI rn), .int (nI q_93), .int (nI g2_96)]) (rest := [.ref (a 19)]) ⟨hx, hb, hml, hown, hts⟩ ((m_at l D k st lo rn q_93 g2_96) H.size) (va_cwS 3 hts (gS tw_1266 tw_1267 tw_87 tw_1268) rfl rfl rfl (by decide +kernel) ⟨Nat.le_of_ble_eq_true rfl, Nat.le_of_ble_eq_true rfl⟩) (pS hS hAlo hlo hP hK (va_Dlo hD hAlo) hZ [] (by decide) rfl) rfl rfl hl.1 rfl (lv_room (Nat.le_of_ble_eq_true rfl)) dX8_findRound_199 ⟨Nat.le_of_ble_eq_true rfl, Nat.le_of_ble_eq_true rfl⟩) hS hA hP (fun r_121 H locs hw_121 hP hS => ?_)
            try dsimp only at hw_121
            subst hw_121
            refine lv_iload hx hb dX8_findRound_202 (lv_at hl 2 rfl) ?_
            refine lv_iconst (v := 1) hx hb dX8_findRound_204 (by decide) ?_
            refine lv_iand hx hb dX8_findRound_205 ?_
            refine lv_topi (fun x_122 ex_122 => ?_)
            refine lv_iconst (v := 1) hx hb dX8_findRound_206 (by decide) ?_
            refine lv_icmp_ne (tgt := 222) hx hb dX8_findRound_207 (by decide) (fun c_123 => ?_) (fun c_123 => ?_)
            · rw [ex_122] at c_123
              refine lv_iload hx hb dX8_findRound_222 (lv_at hl 1 rfl) ?_
              refine va_iast hx hb hK hP hD hS 6 1 rfl rfl (vp_in_nI (by omega) (by decide)) dX8_findRound_224 (fun H locs hP hD hS => ?_)
              have hQ9 := pd_mk [((a 0), .inr (8, (fX8 a (nI tx) fp (nI t0) wd (nI we) nu na (nI rd) ts (nI ru) (nI rw) (nI ca) df db sd))), (aI k (a 1) 3 (nF dn)), (aI k (a 4) 27 (sg se tm gs)), (aI k (a 2) 72 ffrees), (aI k (a 3) 72 fprices), (aI k (a 18) 768 (upd fo3_96 (192 * rn + 8 * q_93 + g2_96) x_116)), (aI k (a 19) 768 (upd fw3_96 (Int32.toNatClampNeg (nI (192 * rn + 8 * q_93 + g2_96))) x_116)), (aI k (a 20) 5 fstarts), (aI k (a 21) 4 (upd fends rn x_48)), (aZ k (a 22) 4 (upd fgoesRound rn (vp_nar .boolean 1))), (aI k (a 23) 8 fbegin)] hP hD
              clear hP hD
              obtain ⟨hP, hD⟩ := hQ9
              rw [nI_clamp (n := (192 * rn + 8 * q_93 + g2_96)) (by omega)] at hP hD
              have hQ9 := pd_mk [((a 0), .inr (8, (fX8 a (nI tx) fp (nI t0) wd (nI we) nu na (nI rd) ts (nI ru) (nI rw) (nI ca) df db sd))), (aI k (a 1) 3 (nF dn)), (aI k (a 4) 27 (sg se tm gs)), (aI k (a 2) 72 ffrees), (aI k (a 3) 72 fprices), (aI k (a 18) 768 (upd fo3_96 (192 * rn + 8 * q_93 + g2_96) x_116)), (aI k (a 19) 768 (upd fw3_96 (192 * rn + 8 * q_93 + g2_96) x_116)), (aI k (a 20) 5 fstarts), (aI k (a 21) 4 (upd fends rn x_48)), (aZ k (a 22) 4 (upd fgoesRound rn (vp_nar .boolean 1))), (aI k (a 23) 8 fbegin)] hP hD
              clear hP hD
              obtain ⟨hP, hD⟩ := hQ9
              refine lv_iinc (v := (nI (g2_96 + 1))) (lv' := [(7, .int (nI (g2_96 + 1))), (9, .int r_118), (8, .int x_116), (6, .int (nI q_93)), (5, .int x_48), (4, .int r_1), (3, .int (nI (dn sn))), (0, .ref (a 0)), (1, .int (nI sn)), (2, .int (nI rn))]) hx hb dX8_findRound_225 hl (k := 2) rfl (nI_add g2_96 1) (by decide) rfl (fun ls hl => ?_)
              refine lv_goto (tgt := 111) hx hb dX8_findRound_228 (by decide) ?_
              have hso_96 := on_step (d := (sdM dn (sg se tm gs) ffrees fprices sn)) (show dn sn ≤ 24 by omega) (show se sn ≤ 2 by omega) (show q_93 < dn sn by omega) (show g2_96 < 8 by omega) hv_96.2.1 hv_96.2.2.1 hxo_117
              have hsw_96 := ww_step (d := (sdM dn (sg se tm gs) ffrees fprices sn)) (show dn sn ≤ 24 by omega) (show se sn ≤ 2 by omega) (show q_93 < dn sn by omega) (show g2_96 < 8 by omega) hv_96.2.2.2.1 hv_96.2.2.2.2.1 ((pWm_0 (on := x_116) (show g2_96 < 8 by omega) c_123).trans (congrArg (fun z => pW (sdM dn (sg se tm gs) ffrees fprices sn) rn q_93 z _) hxo_117))
              rw [(show slN rn q_93 g2_96 = 192 * rn + 8 * q_93 + g2_96 by unfold slN; omega)] at hso_96 hsw_96
              exact ih_96 _ (g2_96 + 1, (upd fo3_96 (192 * rn + 8 * q_93 + g2_96) x_116), (upd fw3_96 (192 * rn + 8 * q_93 + g2_96) x_116)) _ _ _ (by omega) ⟨rfl, ⟨by omega, hso_96.1, hso_96.2, hsw_96.1, hsw_96.2, fun x hx => (pk_un (by omega)).trans (hv_96.2.2.2.2.2.1 x hx), fun x hx => (pk_un (by omega)).trans (hv_96.2.2.2.2.2.2 x hx)⟩, hP, hD, hS, (lv_sub hl [0, 3, 4, 5, 6, 7, 8, 9] rfl)⟩
            · rw [ex_122] at c_123
              refine lv_iload hx hb dX8_findRound_210 (lv_at hl 0 rfl) ?_
              refine lv_iload hx hb dX8_findRound_212 (lv_at hl 1 rfl) ?_
              refine lv_icmp_gt (tgt := 222) hx hb dX8_findRound_214 (by decide) (fun c_125 => ?_) (fun c_125 => ?_)
              · refine lv_iload hx hb dX8_findRound_222 (lv_at hl 1 rfl) ?_
                refine va_iast hx hb hK hP hD hS 6 1 rfl rfl (vp_in_nI (by omega) (by decide)) dX8_findRound_224 (fun H locs hP hD hS => ?_)
                have hQ9 := pd_mk [((a 0), .inr (8, (fX8 a (nI tx) fp (nI t0) wd (nI we) nu na (nI rd) ts (nI ru) (nI rw) (nI ca) df db sd))), (aI k (a 1) 3 (nF dn)), (aI k (a 4) 27 (sg se tm gs)), (aI k (a 2) 72 ffrees), (aI k (a 3) 72 fprices), (aI k (a 18) 768 (upd fo3_96 (192 * rn + 8 * q_93 + g2_96) x_116)), (aI k (a 19) 768 (upd fw3_96 (Int32.toNatClampNeg (nI (192 * rn + 8 * q_93 + g2_96))) x_116)), (aI k (a 20) 5 fstarts), (aI k (a 21) 4 (upd fends rn x_48)), (aZ k (a 22) 4 (upd fgoesRound rn (vp_nar .boolean 1))), (aI k (a 23) 8 fbegin)] hP hD
                clear hP hD
                obtain ⟨hP, hD⟩ := hQ9
                rw [nI_clamp (n := (192 * rn + 8 * q_93 + g2_96)) (by omega)] at hP hD
                have hQ9 := pd_mk [((a 0), .inr (8, (fX8 a (nI tx) fp (nI t0) wd (nI we) nu na (nI rd) ts (nI ru) (nI rw) (nI ca) df db sd))), (aI k (a 1) 3 (nF dn)), (aI k (a 4) 27 (sg se tm gs)), (aI k (a 2) 72 ffrees), (aI k (a 3) 72 fprices), (aI k (a 18) 768 (upd fo3_96 (192 * rn + 8 * q_93 + g2_96) x_116)), (aI k (a 19) 768 (upd fw3_96 (192 * rn + 8 * q_93 + g2_96) x_116)), (aI k (a 20) 5 fstarts), (aI k (a 21) 4 (upd fends rn x_48)), (aZ k (a 22) 4 (upd fgoesRound rn (vp_nar .boolean 1))), (aI k (a 23) 8 fbegin)] hP hD
                clear hP hD
                obtain ⟨hP, hD⟩ := hQ9
                refine lv_iinc (v := (nI (g2_96 + 1))) (lv' := [(7, .int (nI (g2_96 + 1))), (9, .int r_118), (8, .int x_116), (6, .int (nI q_93)), (5, .int x_48), (4, .int r_1), (3, .int (nI (dn sn))), (0, .ref (a 0)), (1, .int (nI sn)), (2, .int (nI rn))]) hx hb dX8_findRound_225 hl (k := 2) rfl (nI_add g2_96 1) (by decide) rfl (fun ls hl => ?_)
                refine lv_goto (tgt := 111) hx hb dX8_findRound_228 (by decide) ?_
                have hso_96 := on_step (d := (sdM dn (sg se tm gs) ffrees fprices sn)) (show dn sn ≤ 24 by omega) (show se sn ≤ 2 by omega) (show q_93 < dn sn by omega) (show g2_96 < 8 by omega) hv_96.2.1 hv_96.2.2.1 hxo_117
                have hsw_96 := ww_step (d := (sdM dn (sg se tm gs) ffrees fprices sn)) (show dn sn ≤ 24 by omega) (show se sn ≤ 2 by omega) (show q_93 < dn sn by omega) (show g2_96 < 8 by omega) hv_96.2.2.2.1 hv_96.2.2.2.2.1 ((pWm_2 (on := x_116) (show g2_96 < 8 by omega) c_123 (hw_118.trans (mTake (ffr := ffrees) (show q_93 < dn sn by omega))) (Int32.not_le.mpr c_125)).trans (congrArg (fun z => pW (sdM dn (sg se tm gs) ffrees fprices sn) rn q_93 z _) hxo_117))
                rw [(show slN rn q_93 g2_96 = 192 * rn + 8 * q_93 + g2_96 by unfold slN; omega)] at hso_96 hsw_96
                exact ih_96 _ (g2_96 + 1, (upd fo3_96 (192 * rn + 8 * q_93 + g2_96) x_116), (upd fw3_96 (192 * rn + 8 * q_93 + g2_96) x_116)) _ _ _ (by omega) ⟨rfl, ⟨by omega, hso_96.1, hso_96.2, hsw_96.1, hsw_96.2, fun x hx => (pk_un (by omega)).trans (hv_96.2.2.2.2.2.1 x hx), fun x hx => (pk_un (by omega)).trans (hv_96.2.2.2.2.2.2 x hx)⟩, hP, hD, hS, (lv_sub hl [0, 3, 4, 5, 6, 7, 8, 9] rfl)⟩
              · refine lv_iload hx hb dX8_findRound_217 (lv_at hl 0 rfl) ?_
                refine lv_goto (tgt := 224) hx hb dX8_findRound_219 (by decide) ?_
                refine va_iast hx hb hK hP hD hS 6 1 rfl rfl (vp_in_nI (by omega) (by decide)) dX8_findRound_224 (fun H locs hP hD hS => ?_)
                have hQ9 := pd_mk [((a 0), .inr (8, (fX8 a (nI tx) fp (nI t0) wd (nI we) nu na (nI rd) ts (nI ru) (nI rw) (nI ca) df db sd))), (aI k (a 1) 3 (nF dn)), (aI k (a 4) 27 (sg se tm gs)), (aI k (a 2) 72 ffrees), (aI k (a 3) 72 fprices), (aI k (a 18) 768 (upd fo3_96 (192 * rn + 8 * q_93 + g2_96) x_116)), (aI k (a 19) 768 (upd fw3_96 (Int32.toNatClampNeg (nI (192 * rn + 8 * q_93 + g2_96))) r_118)), (aI k (a 20) 5 fstarts), (aI k (a 21) 4 (upd fends rn x_48)), (aZ k (a 22) 4 (upd fgoesRound rn (vp_nar .boolean 1))), (aI k (a 23) 8 fbegin)] hP hD
                clear hP hD
                obtain ⟨hP, hD⟩ := hQ9
                rw [nI_clamp (n := (192 * rn + 8 * q_93 + g2_96)) (by omega)] at hP hD
                have hQ9 := pd_mk [((a 0), .inr (8, (fX8 a (nI tx) fp (nI t0) wd (nI we) nu na (nI rd) ts (nI ru) (nI rw) (nI ca) df db sd))), (aI k (a 1) 3 (nF dn)), (aI k (a 4) 27 (sg se tm gs)), (aI k (a 2) 72 ffrees), (aI k (a 3) 72 fprices), (aI k (a 18) 768 (upd fo3_96 (192 * rn + 8 * q_93 + g2_96) x_116)), (aI k (a 19) 768 (upd fw3_96 (192 * rn + 8 * q_93 + g2_96) r_118)), (aI k (a 20) 5 fstarts), (aI k (a 21) 4 (upd fends rn x_48)), (aZ k (a 22) 4 (upd fgoesRound rn (vp_nar .boolean 1))), (aI k (a 23) 8 fbegin)] hP hD
                clear hP hD
                obtain ⟨hP, hD⟩ := hQ9
                refine lv_iinc (v := (nI (g2_96 + 1))) (lv' := [(7, .int (nI (g2_96 + 1))), (9, .int r_118), (8, .int x_116), (6, .int (nI q_93)), (5, .int x_48), (4, .int r_1), (3, .int (nI (dn sn))), (0, .ref (a 0)), (1, .int (nI sn)), (2, .int (nI rn))]) hx hb dX8_findRound_225 hl (k := 2) rfl (nI_add g2_96 1) (by decide) rfl (fun ls hl => ?_)
                refine lv_goto (tgt := 111) hx hb dX8_findRound_228 (by decide) ?_
                have hso_96 := on_step (d := (sdM dn (sg se tm gs) ffrees fprices sn)) (show dn sn ≤ 24 by omega) (show se sn ≤ 2 by omega) (show q_93 < dn sn by omega) (show g2_96 < 8 by omega) hv_96.2.1 hv_96.2.2.1 hxo_117
                have hsw_96 := ww_step (d := (sdM dn (sg se tm gs) ffrees fprices sn)) (show dn sn ≤ 24 by omega) (show se sn ≤ 2 by omega) (show q_93 < dn sn by omega) (show g2_96 < 8 by omega) hv_96.2.2.2.1 hv_96.2.2.2.2.1 ((pWm_1 (on := x_116) (show g2_96 < 8 by omega) c_123 (hw_118.trans (mTake (ffr := ffrees) (show q_93 < dn sn by omega))) (Int32.not_lt.mp c_125)).trans (congrArg (fun z => pW (sdM dn (sg se tm gs) ffrees fprices sn) rn q_93 z _) hxo_117))
                rw [(show slN rn q_93 g2_96 = 192 * rn + 8 * q_93 + g2_96 by unfold slN; omega)] at hso_96 hsw_96
                exact ih_96 _ (g2_96 + 1, (upd fo3_96 (192 * rn + 8 * q_93 + g2_96) x_116), (upd fw3_96 (192 * rn + 8 * q_93 + g2_96) r_118)) _ _ _ (by omega) ⟨rfl, ⟨by omega, hso_96.1, hso_96.2, hsw_96.1, hsw_96.2, fun x hx => (pk_un (by omega)).trans (hv_96.2.2.2.2.2.1 x hx), fun x hx => (pk_un (by omega)).trans (hv_96.2.2.2.2.2.2 x hx)⟩, hP, hD, hS, (lv_sub hl [0, 3, 4, 5, 6, 7, 8, 9] rfl)⟩


set_option maxHeartbeats 4000000 in
set_option maxRecDepth 100000 in
theorem n_findWay (l : Launch) (D : va_G) (k : Nat → ClassId) (st : Nat → Nat) (lo : Nat) (a : Nat → Nat) (tx : Nat) (t0 : Nat) (we : Nat) (rd : Nat) (ru : Nat) (rw : Nat) (ca : Nat) (fp : Int32) (wd : Int64) (nu : Int32) (na : Int32) (ts : Int32) (df : Int32) (db : Int32) (sd : Int32) (dn : Nat → Nat) (se : Nat → Nat) (tm : Nat → Nat) (gs : Nat → Int32) (ffrees : Nat → Int32) (fprices : Nat → Int32) (fons : Nat → Int32) (fworths : Nat → Int32) (fstarts : Nat → Int32) (fends : Nat → Int32) (fgoesRound : Nat → Int32) (fbegin : Nat → Int32) (sn : Nat) (hdn : ∀ j, dn j ≤ 24) (hse : ∀ j, se j ≤ 2) (htm : ∀ j, tm j ≤ 3) (hs : sn < 3) (h0 : 0 < dn sn) : CWv l D k st lo yX8_findWay cX8_findWay 3 none ({ frames := 5, cells := 0, slots := 0, locals := 122 }) 0 0 [.ref (a 0), .int (nI sn)] [((a 0), .inr (8, (fX8 a (nI tx) fp (nI t0) wd (nI we) nu na (nI rd) ts (nI ru) (nI rw) (nI ca) df db sd))), (aI k (a 1) 3 (nF dn)), (aI k (a 4) 27 (sg se tm gs)), (aI k (a 2) 72 ffrees), (aI k (a 3) 72 fprices), (aI k (a 18) 768 fons), (aI k (a 19) 768 fworths), (aI k (a 20) 5 fstarts), (aI k (a 21) 4 fends), (aZ k (a 22) 4 fgoesRound), (aI k (a 23) 8 fbegin)] (fun (u : (Nat → Int32) × (Nat → Int32) × (Nat → Int32) × (Nat → Int32) × (Nat → Int32) × (Nat → Int32)) => match u with | (fons_, fworths_, fstarts_, fends_, fgoesRound_, fbegin_) => wmOK (sdM dn (sg se tm gs) ffrees fprices sn) (se sn) (tm sn) 0 fons_ fworths_ fstarts_ fends_ fgoesRound_) (fun (u : (Nat → Int32) × (Nat → Int32) × (Nat → Int32) × (Nat → Int32) × (Nat → Int32) × (Nat → Int32)) => match u with | (fons_, fworths_, fstarts_, fends_, fgoesRound_, fbegin_) => [((a 0), .inr (8, (fX8 a (nI tx) fp (nI t0) wd (nI we) nu na (nI rd) ts (nI ru) (nI rw) (nI ca) df db sd))), (aI k (a 1) 3 (nF dn)), (aI k (a 4) 27 (sg se tm gs)), (aI k (a 2) 72 ffrees), (aI k (a 3) 72 fprices), (aI k (a 18) 768 fons_), (aI k (a 19) 768 fworths_), (aI k (a 20) 5 fstarts_), (aI k (a 21) 4 fends_), (aZ k (a 22) 4 fgoesRound_), (aI k (a 23) 8 fbegin_)]) := by
  intro sz
  refine Met.ofW (cc := cX8_findWay) (maxL := 3) (ret := none) (by decide) rfl ?_
  intro p e s m args below meth c s₁ B hml hv
  obtain ⟨rfl, hsz, hlo, hP, hK, hDL, hZ⟩ := hv
  have hx := B.exec
  have hb := B.bytes
  have hr := B.returns
  have hts := WS_ts B.pre
  have hown : s.vm.findClass RX8 = some m.cls := findClass_of_methodNamed B.named
  have hlocks := B.notSynchronized
  subst hsz
  have hD := hDL.self (sz := s.heap.size)
  have hAlo := A_lo hDL hlo
  generalize hAe : va_A [((a 0), .inr (8, (fX8 a (nI tx) fp (nI t0) wd (nI we) nu na (nI rd) ts (nI ru) (nI rw) (nI ca) df db sd))), (aI k (a 1) 3 (nF dn)), (aI k (a 4) 27 (sg se tm gs)), (aI k (a 2) 72 ffrees), (aI k (a 3) 72 fprices), (aI k (a 18) 768 fons), (aI k (a 19) 768 fworths), (aI k (a 20) 5 fstarts), (aI k (a 21) 4 fends), (aZ k (a 22) 4 fgoesRound), (aI k (a 23) 8 fbegin)] s.heap.size = A at hD hAlo ⊢
  have hA : ∀ q : Nat, s.heap.size ≤ q → A q := fun q h => by rw [← hAe]; exact Or.inr h
  have hS : va_S A s.heap s.heap [] := va_S.rf
  have hl := lv_entry ([.ref (a 0), .int (nI sn)]) (n := 3) (Nat.le_of_ble_eq_true rfl)
  rw [lg_entry_eq]
  generalize (lg_sl ([.ref (a 0), .int (nI sn)]) ++ List.replicate (3 - (lg_sl ([.ref (a 0), .int (nI sn)])).length) Slot.unset).toArray = ls at hl ⊢
  have hl : lv_has ls 3 [(0, .ref (a 0)), (1, .int (nI sn))] := hl
  have hd_9 := hdn sn
  have hd_8 := hse sn
  have hd_7 := htm sn
  refine lv_aload_n hx hb dX8_findWay_0 rfl (lv_at hl 0 rfl) ?_
  refine lv_iload_n hx hb dX8_findWay_1 rfl (lv_at hl 1 rfl) ?_
  refine lv_bipush (v := 7) hx hb dX8_findWay_2 (by decide) ?_
  refine ro_i (D := D) (va_runV (As := [.int (nI sn), .int 7]) (rest := []) ⟨hx, hb, hml, hown, hts⟩ ((m_of l D k st lo a tx t0 we rd ru rw ca fp wd nu na ts df db sd se tm gs sn 7 (by first | assumption | omega) (by first | assumption | omega)) s.heap.size) (cwV 2 hts (gV tw_1194 tw_1196 tw_39 tw_87 tw_1197) rfl rfl rfl (by decide +kernel) ⟨Nat.le_of_ble_eq_true rfl, Nat.le_of_ble_eq_true rfl⟩) (pV hS hAlo hlo hP hK (va_Dlo hD hAlo) hZ [0, 2] (by decide) rfl (ci := 8) (q := (RX8, TX8, 44)) (q0 := 0) rfl rfl) rfl rfl hl.1 rfl (lv_room (Nat.le_of_ble_eq_true rfl)) dX8_findWay_4 ⟨Nat.le_of_ble_eq_true rfl, Nat.le_of_ble_eq_true rfl⟩) hS hA hP (fun r_1 H locs hw_1 hP hS => ?_)
  try dsimp only at hw_1
  obtain rfl := hw_1.trans (sg_tm _ _ _ _)
  refine lv_istore_n (lv' := [(2, .int (nI (tm sn))), (0, .ref (a 0)), (1, .int (nI sn))]) hx hb dX8_findWay_7 rfl hl (by decide) rfl (fun ls hl => ?_)
  refine W_loop (σ := Nat × (Nat → Int32) × (Nat → Int32) × (Nat → Int32) × (Nat → Int32) × (Nat → Int32) × (Nat → Int32)) (fun (n_ : Nat) (x_ : Nat × (Nat → Int32) × (Nat → Int32) × (Nat → Int32) × (Nat → Int32) × (Nat → Int32) × (Nat → Int32)) (H : Heap) (locs : List Loc) (ls : Array Slot) => match x_ with | (q_2, fons2_2, fwor2_2, fsta2_2, fend2_2, fgoe2_2, fbeg2_2) => n_ = 2 * q_2 ∧ (q_2 ≤ tm sn + 1 ∧ wmOK (sdM dn (sg se tm gs) ffrees fprices sn) (se sn) (tm sn) q_2 fons2_2 fwor2_2 fsta2_2 fend2_2 fgoe2_2) ∧ va_P D classes [((a 0), .inr (8, (fX8 a (nI tx) fp (nI t0) wd (nI we) nu na (nI rd) ts (nI ru) (nI rw) (nI ca) df db sd))), (aI k (a 1) 3 (nF dn)), (aI k (a 4) 27 (sg se tm gs)), (aI k (a 2) 72 ffrees), (aI k (a 3) 72 fprices), (aI k (a 18) 768 fons2_2), (aI k (a 19) 768 fwor2_2), (aI k (a 20) 5 fsta2_2), (aI k (a 21) 4 fend2_2), (aZ k (a 22) 4 fgoe2_2), (aI k (a 23) 8 fbeg2_2)] H ∧ va_D A [((a 0), .inr (8, (fX8 a (nI tx) fp (nI t0) wd (nI we) nu na (nI rd) ts (nI ru) (nI rw) (nI ca) df db sd))), (aI k (a 1) 3 (nF dn)), (aI k (a 4) 27 (sg se tm gs)), (aI k (a 2) 72 ffrees), (aI k (a 3) 72 fprices), (aI k (a 18) 768 fons2_2), (aI k (a 19) 768 fwor2_2), (aI k (a 20) 5 fsta2_2), (aI k (a 21) 4 fend2_2), (aZ k (a 22) 4 fgoe2_2), (aI k (a 23) 8 fbeg2_2)] ∧ va_S A s.heap H locs ∧ lv_has ls 3 [(2, .int (nI q_2 - 1)), (0, .ref (a 0)), (1, .int (nI sn))]) (fun n_2 x_2 H locs ls hI ih_2 => ?_) _ (tm sn + 1, fons, fworths, fstarts, fends, fgoesRound, fbegin) ⟨rfl, ⟨by omega, fun r h1 h2 => absurd h1 (by omega)⟩, hP, hD, hS, (by rw [nI_pred]; exact lv_sub hl [0, 1, 2] rfl)⟩
  obtain ⟨q_2, fons2_2, fwor2_2, fsta2_2, fend2_2, fgoe2_2, fbeg2_2⟩ := x_2
  obtain ⟨hm_2, hv_2, hP, hD, hS, hl⟩ := hI
  subst hm_2
  rcases q_2 with _ | q_2
  · rw [dn0] at hl
    refine lv_iload_n hx hb dX8_findWay_8 rfl (lv_at hl 0 rfl) ?_
    refine lv_if_lt (tgt := 24) hx hb dX8_findWay_9 (by decide) (fun _ => ?_) (fun h => absurd (by decide) h)
    obtain ⟨hP9, hD9⟩ := pd_sub [((a 0), .inr (8, (fX8 a (nI tx) fp (nI t0) wd (nI we) nu na (nI rd) ts (nI ru) (nI rw) (nI ca) df db sd))), (aI k (a 1) 3 (nF dn)), (aI k (a 4) 27 (sg se tm gs)), (aI k (a 2) 72 ffrees), (aI k (a 3) 72 fprices), (aI k (a 18) 768 fons2_2), (aI k (a 19) 768 fwor2_2), (aI k (a 20) 5 fsta2_2), (aI k (a 21) 4 fend2_2), (aZ k (a 22) 4 fgoe2_2), (aI k (a 23) 8 fbeg2_2)] [0, 1, 2, 3, 4, 5, 6, 7, 8, 9, 10] hP hD (by decide +kernel) rfl
    exact W.vret hx hb hr (fun t ht hW => ⟨⟨(fons2_2, fwor2_2, fsta2_2, fend2_2, fgoe2_2, fbeg2_2), rfl, hv_2.2, by rw [ht]; exact hP9, hD9⟩, hS.F ht⟩) hS.2.2 dX8_findWay_24
  · rw [nI_pred] at hl
    refine lv_iload_n hx hb dX8_findWay_8 rfl (lv_at hl 0 rfl) ?_
    refine lv_if_lt (tgt := 24) hx hb dX8_findWay_9 (by decide) (fun h => absurd h (nI_pos0 (by omega))) (fun _ => ?_)
    refine lv_aload_n hx hb dX8_findWay_12 rfl (lv_at hl 1 rfl) ?_
    refine lv_iload_n hx hb dX8_findWay_13 rfl (lv_at hl 2 rfl) ?_
    refine lv_iload_n hx hb dX8_findWay_14 rfl (lv_at hl 0 rfl) ?_
    refine rw_v (D := D) (wr := []) (va_runV (As := [.int (nI sn), .int (nI q_2)]) (rest := []) ⟨hx, hb, hml, hown, hts⟩ ((n_findRound l D k st lo a tx t0 we rd ru rw ca fp wd nu na ts df db sd dn se tm gs ffrees fprices fons2_2 fwor2_2 fsta2_2 fend2_2 fgoe2_2 fbeg2_2 sn q_2 hdn hse htm (by first | assumption | omega) (by first | assumption | omega) (by first | assumption | omega) hv_2.2) H.size) (cwV 2 hts (gV tw_1254 tw_1256 tw_50 tw_87 tw_1257) rfl rfl rfl (by decide +kernel) ⟨Nat.le_of_ble_eq_true rfl, Nat.le_of_ble_eq_true rfl⟩) (pV hS hAlo hlo hP hK (va_Dlo hD hAlo) hZ [0, 1, 2, 3, 4, 5, 6, 7, 8, 9, 10] (by decide +kernel) rfl (ci := 8) (q := (RX8, TX8, 44)) (q0 := 0) rfl rfl) rfl rfl hl.1 rfl (lv_room (Nat.le_of_ble_eq_true rfl)) dX8_findWay_15 ⟨Nat.le_of_ble_eq_true rfl, Nat.le_of_ble_eq_true rfl⟩) hS hA hP hD [0, 1, 2, 3, 4, 5, 6, 7, 8, 9, 10] [] rfl rfl (by decide +kernel) (by decide +kernel) (fun u H locs hw_3 hP hD hS => ?_)
    obtain ⟨fons__3, fworths__3, fstarts__3, fends__3, fgoesRound__3, fbegin__3⟩ := u
    have hQ9 := pd_mk [((a 0), .inr (8, (fX8 a (nI tx) fp (nI t0) wd (nI we) nu na (nI rd) ts (nI ru) (nI rw) (nI ca) df db sd))), (aI k (a 1) 3 (nF dn)), (aI k (a 4) 27 (sg se tm gs)), (aI k (a 2) 72 ffrees), (aI k (a 3) 72 fprices), (aI k (a 18) 768 fons__3), (aI k (a 19) 768 fworths__3), (aI k (a 20) 5 fstarts__3), (aI k (a 21) 4 fends__3), (aZ k (a 22) 4 fgoesRound__3), (aI k (a 23) 8 fbegin__3)] hP hD
    clear hP hD
    obtain ⟨hP, hD⟩ := hQ9
    try dsimp only at hw_3
    refine lv_iinc (v := (nI q_2 - 1)) (lv' := [(2, .int (nI q_2 - 1)), (0, .ref (a 0)), (1, .int (nI sn))]) hx hb dX8_findWay_18 hl (k := 0) rfl (dn1 _) (by decide) rfl (fun ls hl => ?_)
    refine lv_goto (tgt := 8) hx hb dX8_findWay_21 (by decide) ?_
    exact ih_2 _ (q_2, fons__3, fworths__3, fstarts__3, fends__3, fgoesRound__3, fbegin__3) _ _ _ (by omega) ⟨rfl, ⟨by omega, hw_3⟩, hP, hD, hS, (lv_sub hl [0, 1, 2] rfl)⟩

theorem f_glueP17 : True := trivial
def seD (d : SDt) : Nat := (d.2.1 6).toNatClampNeg
def tmD (d : SDt) : Nat := (d.2.1 8).toNatClampNeg
theorem seX {n see tm : Nat} {g ff fp : Nat → Int32} (h : see ≤ 2) : seD (sdX n see tm g ff fp) = see := by
  unfold seD
  show (nG (vv n see tm g) 6).toNatClampNeg = see
  rw [nG_in (by omega) (by omega)]
  show (nI see).toNatClampNeg = see
  exact nI_clamp (by omega)
theorem tmX {n see tm : Nat} {g ff fp : Nat → Int32} (h : tm ≤ 3) : tmD (sdX n see tm g ff fp) = tm := by
  unfold tmD
  rw [rdX]
  exact nI_clamp (by omega)
theorem seM {dn se tm : Nat → Nat} {gs ffr fpr : Nat → Int32} {s : Nat} (h : se s ≤ 2) : seD (sdM dn (sg se tm gs) ffr fpr s) = se s := by
  unfold seD
  rw [gM' (by omega) (by omega), sg_se]
  exact nI_clamp (by omega)
theorem tmM {dn se tm : Nat → Nat} {gs ffr fpr : Nat → Int32} {s : Nat} (h : tm s ≤ 3) : tmD (sdM dn (sg se tm gs) ffr fpr s) = tm s := by
  unfold tmD
  rw [rdM]
  exact nI_clamp (by omega)
def wayE (d : SDt) (r : Nat) : Int32 := pEr d (seD d) (tmD d) r
def wayS (d : SDt) (r : Nat) : Int32 := pSr d (seD d) (tmD d) r
def wayO (d : SDt) (r i g : Nat) : Int32 := pOn d (seD d) r (wayE d r) i g
def wayW (d : SDt) (r i g : Nat) : Int32 := pW d r i (wayO d r i g) g
def wy3 (sd : Nat → SDt) (on sr en : Nat → Nat → Int32) : Prop := ∀ i, i < 3 → 0 < (sd i).1 → wyOK (sd i) (seD (sd i)) (tmD (sd i)) 0 (on i) (sr i) (en i)
theorem wy_of {n see tm : Nat} {g ff fp on sr en : Nat → Int32} (hs : see ≤ 2) (ht : tm ≤ 3) (h : wyOK (sdX n see tm g ff fp) see tm 0 on sr en) : wyOK (sdX n see tm g ff fp) (seD (sdX n see tm g ff fp)) (tmD (sdX n see tm g ff fp)) 0 on sr en := by
  rw [seX hs, tmX ht]
  exact h
theorem wm_of {dn se tm : Nat → Nat} {gs ffr fpr on wo sr en gr : Nat → Int32} {s : Nat} (hs : se s ≤ 2) (ht : tm s ≤ 3) (h : wmOK (sdM dn (sg se tm gs) ffr fpr s) (se s) (tm s) 0 on wo sr en gr) : wmOK (sdM dn (sg se tm gs) ffr fpr s) (seD (sdM dn (sg se tm gs) ffr fpr s)) (tmD (sdM dn (sg se tm gs) ffr fpr s)) 0 on wo sr en gr := by
  rw [seM hs, tmM ht]
  exact h
theorem wo_of {d : SDt} {on sr en : Nat → Int32} {r i g : Nat} (h : wyOK d (seD d) (tmD d) 0 on sr en) (hr : r ≤ tmD d) (hi : i < d.1) (hg : g < 2 ^ sqN (seD d) d.1 i) : on (slN r i g) = wayO d r i g := (h r (Nat.zero_le r) hr).2.2 i (Nat.zero_le i) hi g hg
/-! sights asked for -/
def okR (d : SDt) (i : Nat) (p1 p3 : Int32) (rn g : Nat) : Prop := p1 = nI rn ∧ rn ≤ tmD d ∧ p3 = nI g ∧ g < 2 ^ sqN (seD d) d.1 i
def siA (p1 p3 : Int32) (F : SDt → Nat → Nat → Nat → Int32 → Prop) (d : SDt) (i : Nat) (r : Int32) : Prop := ((∀ rn g, ¬ okR d i p1 p3 rn g) → r = -1002) ∧ ∀ rn g, okR d i p1 p3 rn g → F d rn i g r
theorem siA_fun {p1 p3 : Int32} {F : SDt → Nat → Nat → Nat → Int32 → Prop} (hF : ∀ d rn i g x y, F d rn i g x → F d rn i g y → x = y) (d : SDt) (i : Nat) (x y : Int32) (h : siA p1 p3 F d i x) (k : siA p1 p3 F d i y) : x = y := by
  rcases Classical.em (∃ rn g, okR d i p1 p3 rn g) with ⟨rn, g, c⟩ | c
  · exact hF _ _ _ _ _ _ (h.2 rn g c) (k.2 rn g c)
  · exact (h.1 (fun rn g q => c ⟨rn, g, q⟩)).trans (k.1 (fun rn g q => c ⟨rn, g, q⟩)).symm
theorem si_no {p1 p3 : Int32} {F : SDt → Nat → Nat → Nat → Int32 → Prop} {d : SDt} {i : Nat} (h : ∀ rn g, ¬ okR d i p1 p3 rn g) : siA p1 p3 F d i (-1002) := ⟨fun _ => rfl, fun rn g c => absurd c (h rn g)⟩
theorem si_at {F : SDt → Nat → Nat → Nat → Int32 → Prop} {d : SDt} {i rn g : Nat} {r : Int32} (h1 : tmD d ≤ 3) (h2 : seD d ≤ 2) (hr : rn ≤ tmD d) (hg : g < 2 ^ sqN (seD d) d.1 i) (hF : F d rn i g r) : siA (nI rn) (nI g) F d i r := by
  have h8 := (p8 (sq_le (n := d.1) (i := i) h2)).2
  refine ⟨fun q => absurd ⟨rfl, hr, rfl, hg⟩ (q rn g), fun rn2 g2 c => ?_⟩
  obtain ⟨c1, c2, c3, c4⟩ := c
  have e1 := nI_inj (by omega) (by omega) c1
  have e2 := nI_inj (by omega) (by omega) c3
  subst e1 e2
  exact hF
def woA (d : SDt) (rn i g : Nat) (r : Int32) : Prop := r = wayW d rn i g
def goA (d : SDt) (rn i g : Nat) (r : Int32) : Prop := r = wayO d rn i g
def tsA (d : SDt) (rn i g : Nat) (r : Int32) : Prop := (¬ g % 2 = 1 → r = -1003) ∧ (g % 2 = 1 → r = if pTake d rn i ≤ wayO d rn i g then 1 else 0)
theorem tsA_fun (d : SDt) (rn i g : Nat) (x y : Int32) (h : tsA d rn i g x) (k : tsA d rn i g y) : x = y := by
  rcases Classical.em (g % 2 = 1) with c | c
  · exact (h.2 c).trans (k.2 c).symm
  · exact (h.1 c).trans (k.1 c).symm
/-! answers of a street -/
def tqP (sd : Nat → SDt) (p0 : Int32) (F : SDt → Int32 → Prop) (r : Int32) : Prop := ((∀ s, s < 3 → p0 = nI s → ¬ 0 < (sd s).1) → r = -1001) ∧ ∀ s, s < 3 → p0 = nI s → 0 < (sd s).1 → F (sd s) r
theorem tq_fun {sd se : Nat → SDt} {p0 r q : Int32} {F : SDt → Int32 → Prop} (hF : ∀ d x y, F d x → F d y → x = y) (h : tqP sd p0 F r) (g : tqP se p0 F q) (e : ∀ i, i < 3 → sd i = se i) : r = q := by
  rcases Classical.em (∃ s, s < 3 ∧ p0 = nI s ∧ 0 < (sd s).1) with ⟨s, h1, h2, h3⟩ | hn
  · have a := h.2 s h1 h2 h3
    have b := g.2 s h1 h2 (by rw [← e s h1]; exact h3)
    rw [← e s h1] at b
    exact hF _ _ _ a b
  · have a := h.1 (fun s h1 h2 h3 => hn ⟨s, h1, h2, h3⟩)
    have b := g.1 (fun s h1 h2 h3 => hn ⟨s, h1, h2, by rw [e s h1]; exact h3⟩)
    exact a.trans b.symm
theorem tq_no {sd : Nat → SDt} {p0 : Int32} {F : SDt → Int32 → Prop} (h : ∀ s, s < 3 → p0 = nI s → ¬ 0 < (sd s).1) : tqP sd p0 F (-1001) := ⟨fun _ => rfl, fun s h1 h2 h3 => absurd h3 (h s h1 h2)⟩
theorem tq_at {sd : Nat → SDt} {s : Nat} {r : Int32} {F : SDt → Int32 → Prop} (hs : s < 3) (hp : 0 < (sd s).1) (h : F (sd s) r) : tqP sd (nI s) F r := by
  refine ⟨fun q => absurd hp (q s hs rfl), fun t h1 h2 _ => ?_⟩
  have := nI_inj (by omega) (by omega) h2
  subst this
  exact h
def stA (p1 : Int32) (d : SDt) (r : Int32) : Prop := (¬ inB p1 0 (d.2.1 8) → r = -1002) ∧ ∀ k : Nat, k < 2 ^ 31 → p1 = nI k → inB p1 0 (d.2.1 8) → r = wayS d k
theorem stA_fun {p1 : Int32} (d : SDt) (x y : Int32) (h : stA p1 d x) (g : stA p1 d y) : x = y := by
  rcases Classical.em (inB p1 0 (d.2.1 8)) with c | c
  · obtain ⟨k, h2, e⟩ := nI_of (Int32.not_lt.mpr c.1)
    exact (h.2 k h2 e c).trans (g.2 k h2 e c).symm
  · exact (h.1 c).trans (g.1 c).symm
theorem st_o {p1 : Int32} {d : SDt} (h : ¬ inB p1 0 (d.2.1 8)) : stA p1 d (-1002) := ⟨fun _ => rfl, fun _ _ _ c => absurd c h⟩
theorem st_i {k : Nat} {d : SDt} {r : Int32} (hk : k ≤ 3) (hi : inB (nI k) 0 (d.2.1 8)) (h : r = wayS d k) : stA (nI k) d r := by
  refine ⟨fun c => absurd hi c, fun q hq e _ => ?_⟩
  have := nI_inj (by omega) hq e
  subst this
  exact h
def enA (p1 p2 : Int32) (d : SDt) (r : Int32) : Prop := (¬ (inB p1 0 (d.2.1 8) ∧ inB p2 0 1) → r = -1002) ∧ ∀ k : Nat, k < 2 ^ 31 → p1 = nI k → inB p1 0 (d.2.1 8) → (p2 = 0 → r = wayE d k) ∧ (p2 = 1 → r = if wayE d k < pGar d k then 1 else 0)
theorem enA_fun {p1 p2 : Int32} (d : SDt) (x y : Int32) (h : enA p1 p2 d x) (g : enA p1 p2 d y) : x = y := by
  rcases Classical.em (inB p1 0 (d.2.1 8) ∧ inB p2 0 1) with c | c
  · obtain ⟨k, h2, e⟩ := nI_of (Int32.not_lt.mpr c.1.1)
    rcases Classical.em (p2 = 0) with z | z
    · exact ((h.2 k h2 e c.1).1 z).trans ((g.2 k h2 e c.1).1 z).symm
    · have z1 := is01 c.2 z
      exact ((h.2 k h2 e c.1).2 z1).trans ((g.2 k h2 e c.1).2 z1).symm
  · exact (h.1 c).trans (g.1 c).symm
theorem en_o {p1 p2 : Int32} {d : SDt} (h : ¬ (inB p1 0 (d.2.1 8) ∧ inB p2 0 1)) : enA p1 p2 d (-1002) := by
  refine ⟨fun _ => rfl, fun k _ _ c => ⟨fun z => absurd ⟨c, ?_⟩ h, fun z => absurd ⟨c, ?_⟩ h⟩⟩
  · rw [z]
    exact ⟨by decide, by decide⟩
  · rw [z]
    exact ⟨by decide, by decide⟩
theorem en_0 {k : Nat} {p2 : Int32} {d : SDt} {r : Int32} (hk : k ≤ 3) (hi : inB (nI k) 0 (d.2.1 8)) (hp : p2 = 0) (h : r = wayE d k) : enA (nI k) p2 d r := by
  refine ⟨fun c => absurd ⟨hi, by rw [hp]; exact ⟨by decide, by decide⟩⟩ c, fun q hq e _ => ⟨fun _ => ?_, fun z => absurd (hp.symm.trans z) (by decide)⟩⟩
  have := nI_inj (by omega) hq e
  subst this
  exact h
theorem en_1 {k : Nat} {p2 : Int32} {d : SDt} {r : Int32} (hk : k ≤ 3) (hi : inB (nI k) 0 (d.2.1 8)) (hp : p2 = 1) (h : r = if wayE d k < pGar d k then 1 else 0) : enA (nI k) p2 d r := by
  refine ⟨fun c => absurd ⟨hi, by rw [hp]; exact ⟨by decide, by decide⟩⟩ c, fun q hq e _ => ⟨fun z => absurd (z.symm.trans hp) (by decide), fun _ => ?_⟩⟩
  have := nI_inj (by omega) hq e
  subst this
  exact h
/-! which -/
def wcP (sd : Nat → SDt) (p0 p1 r : Int32) : Prop := ((∀ s t, s < 3 → t < 3 → p0 = nI s → p1 = nI t → ¬ (0 < (sd s).1 ∧ 0 < (sd t).1)) → r = -1001) ∧ ∀ s t, s < 3 → t < 3 → p0 = nI s → p1 = nI t → 0 < (sd s).1 → 0 < (sd t).1 → r = if wayS (sd t) 0 < wayS (sd s) 0 then p1 else p0
theorem wcP_fun {sd se : Nat → SDt} {p0 p1 r q : Int32} (h : wcP sd p0 p1 r) (g : wcP se p0 p1 q) (e : ∀ i, i < 3 → sd i = se i) : r = q := by
  rcases Classical.em (∃ s t, s < 3 ∧ t < 3 ∧ p0 = nI s ∧ p1 = nI t ∧ 0 < (sd s).1 ∧ 0 < (sd t).1) with ⟨s, t, h1, h2, h3, h4, h5, h6⟩ | hn
  · have a := h.2 s t h1 h2 h3 h4 h5 h6
    have b := g.2 s t h1 h2 h3 h4 (by rw [← e s h1]; exact h5) (by rw [← e t h2]; exact h6)
    rw [← e s h1, ← e t h2] at b
    exact a.trans b.symm
  · have a := h.1 (fun s t h1 h2 h3 h4 h5 => hn ⟨s, t, h1, h2, h3, h4, h5.1, h5.2⟩)
    have b := g.1 (fun s t h1 h2 h3 h4 h5 => hn ⟨s, t, h1, h2, h3, h4, by rw [e s h1]; exact h5.1, by rw [e t h2]; exact h5.2⟩)
    exact a.trans b.symm
theorem wc_no0 {sd : Nat → SDt} {p0 p1 : Int32} (h : ∀ s, s < 3 → p0 = nI s → ¬ 0 < (sd s).1) : wcP sd p0 p1 (-1001) := ⟨fun _ => rfl, fun s t h1 _ h3 _ h5 _ => absurd h5 (h s h1 h3)⟩
theorem wc_no1 {sd : Nat → SDt} {p0 p1 : Int32} (h : ∀ s, s < 3 → p1 = nI s → ¬ 0 < (sd s).1) : wcP sd p0 p1 (-1001) := ⟨fun _ => rfl, fun s t _ h2 _ h4 _ h6 => absurd h6 (h t h2 h4)⟩
theorem wc_at {sd : Nat → SDt} {s t : Nat} {r : Int32} (hs : s < 3) (ht : t < 3) (h1 : 0 < (sd s).1) (h2 : 0 < (sd t).1) (h : r = if wayS (sd t) 0 < wayS (sd s) 0 then nI t else nI s) : wcP sd (nI s) (nI t) r := by
  refine ⟨fun q => absurd ⟨h1, h2⟩ (q s t hs ht rfl rfl), fun s2 t2 k1 k2 k3 k4 _ _ => ?_⟩
  have e1 := nI_inj (by omega) (by omega) k3
  have e2 := nI_inj (by omega) (by omega) k4
  subst e1 e2
  exact h
/-! at the beginning -/
def zX : SDt := sdX 0 0 0 (fun _ => 0) (fun _ => 0) (fun _ => 0)
theorem zX_1 : zX.1 = 0 := rfl
theorem zX_l (r : Nat) : pLate zX r = 0 := by
  unfold pLate
  have e : zX.2.1 4 = 0 := by
    show nG (vv 0 0 0 (fun _ => 0)) 4 = 0
    rw [nG_in (by omega) (by omega), vv_in (by omega) (by omega) (by omega)]
  rw [e, Int32.zero_mul]
theorem z3 {i : Nat} : d3 zX zX zX i = zX := by
  match i with
  | 0 => rfl
  | 1 => rfl
  | i + 2 => rfl
theorem f3 {i : Nat} : d3 (fun _ => (0 : Int32)) (fun _ => 0) (fun _ => 0) i = fun _ : Nat => (0 : Int32) := by
  match i with
  | 0 => rfl
  | 1 => rfl
  | i + 2 => rfl
theorem ltp_0 : ltP (d3 (fun _ => 0) (fun _ => 0) (fun _ => 0)) (d3 zX zX zX) := by
  intro i _ r _
  rw [z3, f3, zX_l]
theorem okd_0 : ∀ i, i < 3 → okD (d3 zX zX zX i) := by
  intro i _
  rw [z3]
  exact fun k hk => absurd hk (Nat.not_lt_zero k)
theorem wy3_0 : wy3 (d3 zX zX zX) (d3 (fun _ => 0) (fun _ => 0) (fun _ => 0)) (d3 (fun _ => 0) (fun _ => 0) (fun _ => 0)) (d3 (fun _ => 0) (fun _ => 0) (fun _ => 0)) := by
  intro i _ h
  rw [z3] at h
  exact absurd h (Nat.lt_irrefl 0)


set_option maxHeartbeats 4000000 in
set_option maxRecDepth 100000 in
theorem y_street3 (l : Launch) (D : va_G) (k : Nat → ClassId) (st : Nat → Nat) (lo : Nat) (a : Nat → Nat) (rk : Nat) (lfa : Int32) (tz : Nat) (ta : Int32) (na : Int32) (fn : Int32) (fb : Int32) (fx : Nat → Int32) (n0 : Nat) (see0 : Nat) (tm0 : Nat) (g0 : Nat → Int32) (ff0 : Nat → Int32) (fp0 : Nat → Int32) (fl0 : Nat → Int32) (n1 : Nat) (see1 : Nat) (tm1 : Nat) (g1 : Nat → Int32) (ff1 : Nat → Int32) (fp1 : Nat → Int32) (fl1 : Nat → Int32) (n2 : Nat) (see2 : Nat) (tm2 : Nat) (g2 : Nat → Int32) (ff2 : Nat → Int32) (fp2 : Nat → Int32) (fl2 : Nat → Int32) (on0 : Nat → Int32) (sr0 : Nat → Int32) (en0 : Nat → Int32) (fo0 : Nat → Int32) (on1 : Nat → Int32) (sr1 : Nat → Int32) (en1 : Nat → Int32) (fo1 : Nat → Int32) (on2 : Nat → Int32) (sr2 : Nat → Int32) (en2 : Nat → Int32) (fo2 : Nat → Int32) (nq : Nat) (seeq : Nat) (tmq : Nat) (gq : Nat → Int32) (ffq : Nat → Int32) (fpq : Nat → Int32) (flq : Nat → Int32) (pz : Int32) (hz : tz ≤ 240) (hn0 : n0 ≤ 24) (hse0 : see0 ≤ 2) (htm0 : tm0 ≤ 3) (hn1 : n1 ≤ 24) (hse1 : see1 ≤ 2) (htm1 : tm1 ≤ 3) (hn2 : n2 ≤ 24) (hse2 : see2 ≤ 2) (htm2 : tm2 ≤ 3) : CWi l D k st lo yX7_street cX7_street 3 (some .int) ({ frames := 8, cells := 0, slots := 0, locals := 180 }) 0 0 [.ref (a 0), .int pz] [((a 0), .inr (7, (fX7 (a 1) (a 3) (a 19) (a 35) (a 40) (nI rk) lfa (a 53) (a 56) (a 63) (a 64) (a 68)))), ((a 1), .inr (6, (fX6 (a 2) (nI tz) ta na fn fb))), (aB k (a 2) 240 fx), ((a 3), .inl (k 3, 3, .inr (.inr (.inr (.inr (a3 (a 4) (a 9) (a 14))))))), ((a 19), .inl (k 4, 3, .inr (.inr (.inr (.inr (a3 (a 20) (a 25) (a 30))))))), ((a 4), .inr (5, (fX5 (a 5) (a 6) (a 7) (a 8)))), (aI k (a 5) 10 (vv n0 see0 tm0 g0)), (aI k (a 6) 24 ff0), (aI k (a 7) 24 fp0), (aI k (a 8) 4 fl0), ((a 9), .inr (5, (fX5 (a 10) (a 11) (a 12) (a 13)))), (aI k (a 10) 10 (vv n1 see1 tm1 g1)), (aI k (a 11) 24 ff1), (aI k (a 12) 24 fp1), (aI k (a 13) 4 fl1), ((a 14), .inr (5, (fX5 (a 15) (a 16) (a 17) (a 18)))), (aI k (a 15) 10 (vv n2 see2 tm2 g2)), (aI k (a 16) 24 ff2), (aI k (a 17) 24 fp2), (aI k (a 18) 4 fl2), ((a 20), .inr (0, (fX0 (a 4) (a 21) (a 22) (a 23) (a 24)))), (aI k (a 21) 768 on0), (aI k (a 22) 4 sr0), (aI k (a 23) 4 en0), (aI k (a 24) 8 fo0), ((a 25), .inr (0, (fX0 (a 9) (a 26) (a 27) (a 28) (a 29)))), (aI k (a 26) 768 on1), (aI k (a 27) 4 sr1), (aI k (a 28) 4 en1), (aI k (a 29) 8 fo1), ((a 30), .inr (0, (fX0 (a 14) (a 31) (a 32) (a 33) (a 34)))), (aI k (a 31) 768 on2), (aI k (a 32) 4 sr2), (aI k (a 33) 4 en2), (aI k (a 34) 8 fo2), ((a 35), .inr (5, (fX5 (a 36) (a 37) (a 38) (a 39)))), (aI k (a 36) 10 (vv nq seeq tmq gq)), (aI k (a 37) 24 ffq), (aI k (a 38) 24 fpq), (aI k (a 39) 4 flq)] (fun (r : Int32) (u : Int32 × Nat × Int32 × Int32 × Int32 × Int32 × Nat × Nat × Nat × (Nat → Int32) × (Nat → Int32) × (Nat → Int32) × Nat × Nat × Nat × (Nat → Int32) × (Nat → Int32) × (Nat → Int32) × (Nat → Int32) × (Nat → Int32) × (Nat → Int32) × (Nat → Int32) × (Nat → Int32) × Nat × Nat × Nat × (Nat → Int32) × (Nat → Int32) × (Nat → Int32) × (Nat → Int32) × (Nat → Int32) × (Nat → Int32) × (Nat → Int32) × (Nat → Int32) × Nat × Nat × Nat × (Nat → Int32) × (Nat → Int32) × (Nat → Int32) × (Nat → Int32) × (Nat → Int32) × (Nat → Int32) × (Nat → Int32) × (Nat → Int32)) => match u with | (lfa_, tz_, ta_, na_, fn_, fb_, nq_, seeq_, tmq_, gq_, ffq_, fpq_, n0_, see0_, tm0_, g0_, ff0_, fp0_, fl0_, on0_, sr0_, en0_, fo0_, n1_, see1_, tm1_, g1_, ff1_, fp1_, fl1_, on1_, sr1_, en1_, fo1_, n2_, see2_, tm2_, g2_, ff2_, fp2_, fl2_, on2_, sr2_, en2_, fo2_) => stP pz (bF fx) tz lfa (d3 (sdX n0 see0 tm0 g0 ff0 fp0) (sdX n1 see1 tm1 g1 ff1 fp1) (sdX n2 see2 tm2 g2 ff2 fp2)) r tz_ lfa_ (d3 (sdX n0_ see0_ tm0_ g0_ ff0_ fp0_) (sdX n1_ see1_ tm1_ g1_ ff1_ fp1_) (sdX n2_ see2_ tm2_ g2_ ff2_ fp2_)) ∧ (ltP (d3 fl0 fl1 fl2) (d3 (sdX n0 see0 tm0 g0 ff0 fp0) (sdX n1 see1 tm1 g1 ff1 fp1) (sdX n2 see2 tm2 g2 ff2 fp2)) → ltP (d3 fl0_ fl1_ fl2_) (d3 (sdX n0_ see0_ tm0_ g0_ ff0_ fp0_) (sdX n1_ see1_ tm1_ g1_ ff1_ fp1_) (sdX n2_ see2_ tm2_ g2_ ff2_ fp2_))) ∧ (wy3 (d3 (sdX n0 see0 tm0 g0 ff0 fp0) (sdX n1 see1 tm1 g1 ff1 fp1) (sdX n2 see2 tm2 g2 ff2 fp2)) (d3 on0 on1 on2) (d3 sr0 sr1 sr2) (d3 en0 en1 en2) → wy3 (d3 (sdX n0_ see0_ tm0_ g0_ ff0_ fp0_) (sdX n1_ see1_ tm1_ g1_ ff1_ fp1_) (sdX n2_ see2_ tm2_ g2_ ff2_ fp2_)) (d3 on0_ on1_ on2_) (d3 sr0_ sr1_ sr2_) (d3 en0_ en1_ en2_)) ∧ tz_ ≤ 240 ∧ n0_ ≤ 24 ∧ see0_ ≤ 2 ∧ tm0_ ≤ 3 ∧ n1_ ≤ 24 ∧ see1_ ≤ 2 ∧ tm1_ ≤ 3 ∧ n2_ ≤ 24 ∧ see2_ ≤ 2 ∧ tm2_ ≤ 3) (fun (u : Int32 × Nat × Int32 × Int32 × Int32 × Int32 × Nat × Nat × Nat × (Nat → Int32) × (Nat → Int32) × (Nat → Int32) × Nat × Nat × Nat × (Nat → Int32) × (Nat → Int32) × (Nat → Int32) × (Nat → Int32) × (Nat → Int32) × (Nat → Int32) × (Nat → Int32) × (Nat → Int32) × Nat × Nat × Nat × (Nat → Int32) × (Nat → Int32) × (Nat → Int32) × (Nat → Int32) × (Nat → Int32) × (Nat → Int32) × (Nat → Int32) × (Nat → Int32) × Nat × Nat × Nat × (Nat → Int32) × (Nat → Int32) × (Nat → Int32) × (Nat → Int32) × (Nat → Int32) × (Nat → Int32) × (Nat → Int32) × (Nat → Int32)) => match u with | (lfa_, tz_, ta_, na_, fn_, fb_, nq_, seeq_, tmq_, gq_, ffq_, fpq_, n0_, see0_, tm0_, g0_, ff0_, fp0_, fl0_, on0_, sr0_, en0_, fo0_, n1_, see1_, tm1_, g1_, ff1_, fp1_, fl1_, on1_, sr1_, en1_, fo1_, n2_, see2_, tm2_, g2_, ff2_, fp2_, fl2_, on2_, sr2_, en2_, fo2_) => [((a 0), .inr (7, (fX7 (a 1) (a 3) (a 19) (a 35) (a 40) (nI rk) lfa_ (a 53) (a 56) (a 63) (a 64) (a 68)))), ((a 1), .inr (6, (fX6 (a 2) (nI tz_) ta_ na_ fn_ fb_))), (aB k (a 2) 240 fx), ((a 3), .inl (k 3, 3, .inr (.inr (.inr (.inr (a3 (a 4) (a 9) (a 14))))))), ((a 19), .inl (k 4, 3, .inr (.inr (.inr (.inr (a3 (a 20) (a 25) (a 30))))))), ((a 4), .inr (5, (fX5 (a 5) (a 6) (a 7) (a 8)))), (aI k (a 5) 10 (vv n0_ see0_ tm0_ g0_)), (aI k (a 6) 24 ff0_), (aI k (a 7) 24 fp0_), (aI k (a 8) 4 fl0_), ((a 9), .inr (5, (fX5 (a 10) (a 11) (a 12) (a 13)))), (aI k (a 10) 10 (vv n1_ see1_ tm1_ g1_)), (aI k (a 11) 24 ff1_), (aI k (a 12) 24 fp1_), (aI k (a 13) 4 fl1_), ((a 14), .inr (5, (fX5 (a 15) (a 16) (a 17) (a 18)))), (aI k (a 15) 10 (vv n2_ see2_ tm2_ g2_)), (aI k (a 16) 24 ff2_), (aI k (a 17) 24 fp2_), (aI k (a 18) 4 fl2_), ((a 20), .inr (0, (fX0 (a 4) (a 21) (a 22) (a 23) (a 24)))), (aI k (a 21) 768 on0_), (aI k (a 22) 4 sr0_), (aI k (a 23) 4 en0_), (aI k (a 24) 8 fo0_), ((a 25), .inr (0, (fX0 (a 9) (a 26) (a 27) (a 28) (a 29)))), (aI k (a 26) 768 on1_), (aI k (a 27) 4 sr1_), (aI k (a 28) 4 en1_), (aI k (a 29) 8 fo1_), ((a 30), .inr (0, (fX0 (a 14) (a 31) (a 32) (a 33) (a 34)))), (aI k (a 31) 768 on2_), (aI k (a 32) 4 sr2_), (aI k (a 33) 4 en2_), (aI k (a 34) 8 fo2_), ((a 35), .inr (5, (fX5 (a 36) (a 37) (a 38) (a 39)))), (aI k (a 36) 10 (vv nq_ seeq_ tmq_ gq_)), (aI k (a 37) 24 ffq_), (aI k (a 38) 24 fpq_), (aI k (a 39) 4 flq)]) := by
  intro sz
  refine Met.ofW (cc := cX7_street) (maxL := 3) (ret := (some .int)) (by decide) rfl ?_
  intro p e s m args below meth c s₁ B hml hv
  obtain ⟨rfl, hsz, hlo, hP, hK, hDL, hZ⟩ := hv
  have hx := B.exec
  have hb := B.bytes
  have hr := B.returns
  have hts := WS_ts B.pre
  have hown : s.vm.findClass RX7 = some m.cls := findClass_of_methodNamed B.named
  have hlocks := B.notSynchronized
  subst hsz
  have hD := hDL.self (sz := s.heap.size)
  have hAlo := A_lo hDL hlo
  generalize hAe : va_A [((a 0), .inr (7, (fX7 (a 1) (a 3) (a 19) (a 35) (a 40) (nI rk) lfa (a 53) (a 56) (a 63) (a 64) (a 68)))), ((a 1), .inr (6, (fX6 (a 2) (nI tz) ta na fn fb))), (aB k (a 2) 240 fx), ((a 3), .inl (k 3, 3, .inr (.inr (.inr (.inr (a3 (a 4) (a 9) (a 14))))))), ((a 19), .inl (k 4, 3, .inr (.inr (.inr (.inr (a3 (a 20) (a 25) (a 30))))))), ((a 4), .inr (5, (fX5 (a 5) (a 6) (a 7) (a 8)))), (aI k (a 5) 10 (vv n0 see0 tm0 g0)), (aI k (a 6) 24 ff0), (aI k (a 7) 24 fp0), (aI k (a 8) 4 fl0), ((a 9), .inr (5, (fX5 (a 10) (a 11) (a 12) (a 13)))), (aI k (a 10) 10 (vv n1 see1 tm1 g1)), (aI k (a 11) 24 ff1), (aI k (a 12) 24 fp1), (aI k (a 13) 4 fl1), ((a 14), .inr (5, (fX5 (a 15) (a 16) (a 17) (a 18)))), (aI k (a 15) 10 (vv n2 see2 tm2 g2)), (aI k (a 16) 24 ff2), (aI k (a 17) 24 fp2), (aI k (a 18) 4 fl2), ((a 20), .inr (0, (fX0 (a 4) (a 21) (a 22) (a 23) (a 24)))), (aI k (a 21) 768 on0), (aI k (a 22) 4 sr0), (aI k (a 23) 4 en0), (aI k (a 24) 8 fo0), ((a 25), .inr (0, (fX0 (a 9) (a 26) (a 27) (a 28) (a 29)))), (aI k (a 26) 768 on1), (aI k (a 27) 4 sr1), (aI k (a 28) 4 en1), (aI k (a 29) 8 fo1), ((a 30), .inr (0, (fX0 (a 14) (a 31) (a 32) (a 33) (a 34)))), (aI k (a 31) 768 on2), (aI k (a 32) 4 sr2), (aI k (a 33) 4 en2), (aI k (a 34) 8 fo2), ((a 35), .inr (5, (fX5 (a 36) (a 37) (a 38) (a 39)))), (aI k (a 36) 10 (vv nq seeq tmq gq)), (aI k (a 37) 24 ffq), (aI k (a 38) 24 fpq), (aI k (a 39) 4 flq)] s.heap.size = A at hD hAlo ⊢
  have hA : ∀ q : Nat, s.heap.size ≤ q → A q := fun q h => by rw [← hAe]; exact Or.inr h
  have hS : va_S A s.heap s.heap [] := va_S.rf
  have hl := lv_entry ([.ref (a 0), .int pz]) (n := 3) (Nat.le_of_ble_eq_true rfl)
  rw [lg_entry_eq]
  generalize (lg_sl ([.ref (a 0), .int pz]) ++ List.replicate (3 - (lg_sl ([.ref (a 0), .int pz])).length) Slot.unset).toArray = ls at hl ⊢
  have hl : lv_has ls 3 [(0, .ref (a 0)), (1, .int pz)] := hl
  refine lv_iload_n hx hb dX7_street_0 rfl (lv_at hl 1 rfl) ?_
  refine lv_if_lt (tgt := 9) hx hb dX7_street_1 (by decide) (fun c_1 => ?_) (fun c_1 => ?_)
  · refine lv_sipush (v := (-1001)) hx hb dX7_street_9 (by decide) ?_
    obtain ⟨hP9, hD9⟩ := pd_sub [((a 0), .inr (7, (fX7 (a 1) (a 3) (a 19) (a 35) (a 40) (nI rk) lfa (a 53) (a 56) (a 63) (a 64) (a 68)))), ((a 1), .inr (6, (fX6 (a 2) (nI tz) ta na fn fb))), (aB k (a 2) 240 fx), ((a 3), .inl (k 3, 3, .inr (.inr (.inr (.inr (a3 (a 4) (a 9) (a 14))))))), ((a 19), .inl (k 4, 3, .inr (.inr (.inr (.inr (a3 (a 20) (a 25) (a 30))))))), ((a 4), .inr (5, (fX5 (a 5) (a 6) (a 7) (a 8)))), (aI k (a 5) 10 (vv n0 see0 tm0 g0)), (aI k (a 6) 24 ff0), (aI k (a 7) 24 fp0), (aI k (a 8) 4 fl0), ((a 9), .inr (5, (fX5 (a 10) (a 11) (a 12) (a 13)))), (aI k (a 10) 10 (vv n1 see1 tm1 g1)), (aI k (a 11) 24 ff1), (aI k (a 12) 24 fp1), (aI k (a 13) 4 fl1), ((a 14), .inr (5, (fX5 (a 15) (a 16) (a 17) (a 18)))), (aI k (a 15) 10 (vv n2 see2 tm2 g2)), (aI k (a 16) 24 ff2), (aI k (a 17) 24 fp2), (aI k (a 18) 4 fl2), ((a 20), .inr (0, (fX0 (a 4) (a 21) (a 22) (a 23) (a 24)))), (aI k (a 21) 768 on0), (aI k (a 22) 4 sr0), (aI k (a 23) 4 en0), (aI k (a 24) 8 fo0), ((a 25), .inr (0, (fX0 (a 9) (a 26) (a 27) (a 28) (a 29)))), (aI k (a 26) 768 on1), (aI k (a 27) 4 sr1), (aI k (a 28) 4 en1), (aI k (a 29) 8 fo1), ((a 30), .inr (0, (fX0 (a 14) (a 31) (a 32) (a 33) (a 34)))), (aI k (a 31) 768 on2), (aI k (a 32) 4 sr2), (aI k (a 33) 4 en2), (aI k (a 34) 8 fo2), ((a 35), .inr (5, (fX5 (a 36) (a 37) (a 38) (a 39)))), (aI k (a 36) 10 (vv nq seeq tmq gq)), (aI k (a 37) 24 ffq), (aI k (a 38) 24 fpq), (aI k (a 39) 4 flq)] [0, 1, 2, 3, 4, 5, 6, 7, 8, 9, 10, 11, 12, 13, 14, 15, 16, 17, 18, 19, 20, 21, 22, 23, 24, 25, 26, 27, 28, 29, 30, 31, 32, 33, 34, 35, 36, 37, 38, 39] hP hD (by decide +kernel) rfl
    exact W.iret (v := (-1001)) hx hb hr (fun t ht hW => ⟨⟨(-1001), (lfa, tz, ta, na, fn, fb, nq, seeq, tmq, gq, ffq, fpq, n0, see0, tm0, g0, ff0, fp0, fl0, on0, sr0, en0, fo0, n1, see1, tm1, g1, ff1, fp1, fl1, on1, sr1, en1, fo1, n2, see2, tm2, g2, ff2, fp2, fl2, on2, sr2, en2, fo2), rfl, ⟨⟨fun _ => ⟨rfl, rfl, rfl, fun _ _ => rfl⟩, fun h => absurd h (fun h => absurd c_1 (Int32.not_lt.mpr h.1))⟩, fun h => h, fun h => h, by omega, by omega, by omega, by omega, by omega, by omega, by omega, by omega, by omega, by omega⟩, by rw [ht]; exact hP9, hD9⟩, hS.F ht⟩) hS.2.2 dX7_street_12
  · refine lv_iload_n hx hb dX7_street_4 rfl (lv_at hl 1 rfl) ?_
    refine lv_iconst (v := 3) hx hb dX7_street_5 (by decide) ?_
    refine lv_icmp_lt (tgt := 13) hx hb dX7_street_6 (by decide) (fun c_2 => ?_) (fun c_2 => ?_)
    · rcases xspl3 c_1 (Int32.not_le.mpr c_2) with rfl | rfl | rfl
      · refine lv_aload_n hx hb dX7_street_13 rfl (lv_at hl 0 rfl) ?_
        refine va_get (D := D) (ci := 7) (v := .ref (a 1)) (C := RX7) (T := TX7) (N := 12) hx hb hts inX7 hown hK hP 0 rfl rfl 0 (by decide) (hts _ tw_305) (fun _ h9 => h9) rfl dX7_street_14 ?_
        refine rw_v (D := D) (wr := [((a 0), .inr (7, (fX7 (a 1) (a 3) (a 19) (a 35) (a 40) (nI rk) lfa (a 53) (a 56) (a 63) (a 64) (a 68)))), ((a 3), .inl (k 3, 3, .inr (.inr (.inr (.inr (a3 (a 4) (a 9) (a 14))))))), ((a 19), .inl (k 4, 3, .inr (.inr (.inr (.inr (a3 (a 20) (a 25) (a 30))))))), ((a 4), .inr (5, (fX5 (a 5) (a 6) (a 7) (a 8)))), (aI k (a 5) 10 (vv n0 see0 tm0 g0)), (aI k (a 6) 24 ff0), (aI k (a 7) 24 fp0), (aI k (a 8) 4 fl0), ((a 9), .inr (5, (fX5 (a 10) (a 11) (a 12) (a 13)))), (aI k (a 10) 10 (vv n1 see1 tm1 g1)), (aI k (a 11) 24 ff1), (aI k (a 12) 24 fp1), (aI k (a 13) 4 fl1), ((a 14), .inr (5, (fX5 (a 15) (a 16) (a 17) (a 18)))), (aI k (a 15) 10 (vv n2 see2 tm2 g2)), (aI k (a 16) 24 ff2), (aI k (a 17) 24 fp2), (aI k (a 18) 4 fl2), ((a 20), .inr (0, (fX0 (a 4) (a 21) (a 22) (a 23) (a 24)))), (aI k (a 21) 768 on0), (aI k (a 22) 4 sr0), (aI k (a 23) 4 en0), (aI k (a 24) 8 fo0), ((a 25), .inr (0, (fX0 (a 9) (a 26) (a 27) (a 28) (a 29)))), (aI k (a 26) 768 on1), (aI k (a 27) 4 sr1), (aI k (a 28) 4 en1), (aI k (a 29) 8 fo1), ((a 30), .inr (0, (fX0 (a 14) (a 31) (a 32) (a 33) (a 34)))), (aI k (a 31) 768 on2), (aI k (a 32) 4 sr2), (aI k (a 33) 4 en2), (aI k (a 34) 8 fo2), ((a 35), .inr (5, (fX5 (a 36) (a 37) (a 38) (a 39)))), (aI k (a 36) 10 (vv nq seeq tmq gq)), (aI k (a 37) 24 ffq), (aI k (a 38) 24 fpq), (aI k (a 39) 4 flq)]) (va_runV (As := []) (rest := []) ⟨hx, hb, hml, hown, hts⟩ ((x_rewind l D k st lo (a 1) (a 2) tz ta na fn fb fx) s.heap.size) (cwV 0 hts (gV tw_354 tw_355 tw_356 tw_80 tw_357) rfl rfl rfl (by decide +kernel) ⟨Nat.le_of_ble_eq_true rfl, Nat.le_of_ble_eq_true rfl⟩) (pV hS hAlo hlo hP hK (va_Dlo hD hAlo) hZ [1, 2] (by decide) rfl (ci := 6) (q := (RX6, TX6, 6)) (q0 := 0) rfl rfl) rfl rfl hl.1 rfl (lv_room (Nat.le_of_ble_eq_true rfl)) dX7_street_17 ⟨Nat.le_of_ble_eq_true rfl, Nat.le_of_ble_eq_true rfl⟩) hS hA hP hD [1, 2] [0, 3, 4, 5, 6, 7, 8, 9, 10, 11, 12, 13, 14, 15, 16, 17, 18, 19, 20, 21, 22, 23, 24, 25, 26, 27, 28, 29, 30, 31, 32, 33, 34, 35, 36, 37, 38, 39] rfl rfl (by decide +kernel) (by decide +kernel) (fun u H locs hw_3 hP hD hS => ?_)
        obtain ⟨ta__3, na__3, fn__3, fb__3⟩ := u
        have hQ9 := pd_mk [((a 0), .inr (7, (fX7 (a 1) (a 3) (a 19) (a 35) (a 40) (nI rk) lfa (a 53) (a 56) (a 63) (a 64) (a 68)))), ((a 3), .inl (k 3, 3, .inr (.inr (.inr (.inr (a3 (a 4) (a 9) (a 14))))))), ((a 19), .inl (k 4, 3, .inr (.inr (.inr (.inr (a3 (a 20) (a 25) (a 30))))))), ((a 4), .inr (5, (fX5 (a 5) (a 6) (a 7) (a 8)))), (aI k (a 5) 10 (vv n0 see0 tm0 g0)), (aI k (a 6) 24 ff0), (aI k (a 7) 24 fp0), (aI k (a 8) 4 fl0), ((a 9), .inr (5, (fX5 (a 10) (a 11) (a 12) (a 13)))), (aI k (a 10) 10 (vv n1 see1 tm1 g1)), (aI k (a 11) 24 ff1), (aI k (a 12) 24 fp1), (aI k (a 13) 4 fl1), ((a 14), .inr (5, (fX5 (a 15) (a 16) (a 17) (a 18)))), (aI k (a 15) 10 (vv n2 see2 tm2 g2)), (aI k (a 16) 24 ff2), (aI k (a 17) 24 fp2), (aI k (a 18) 4 fl2), ((a 20), .inr (0, (fX0 (a 4) (a 21) (a 22) (a 23) (a 24)))), (aI k (a 21) 768 on0), (aI k (a 22) 4 sr0), (aI k (a 23) 4 en0), (aI k (a 24) 8 fo0), ((a 25), .inr (0, (fX0 (a 9) (a 26) (a 27) (a 28) (a 29)))), (aI k (a 26) 768 on1), (aI k (a 27) 4 sr1), (aI k (a 28) 4 en1), (aI k (a 29) 8 fo1), ((a 30), .inr (0, (fX0 (a 14) (a 31) (a 32) (a 33) (a 34)))), (aI k (a 31) 768 on2), (aI k (a 32) 4 sr2), (aI k (a 33) 4 en2), (aI k (a 34) 8 fo2), ((a 35), .inr (5, (fX5 (a 36) (a 37) (a 38) (a 39)))), (aI k (a 36) 10 (vv nq seeq tmq gq)), (aI k (a 37) 24 ffq), (aI k (a 38) 24 fpq), (aI k (a 39) 4 flq), ((a 1), .inr (6, (fX6 (a 2) (nI tz) ta__3 na__3 fn__3 fb__3))), (aB k (a 2) 240 fx)] hP hD
        clear hP hD
        obtain ⟨hP, hD⟩ := hQ9
        try dsimp only at hw_3
        obtain ⟨rfl, rfl⟩ := hw_3
        refine lv_aload_n hx hb dX7_street_20 rfl (lv_at hl 0 rfl) ?_
        refine va_get (D := D) (ci := 7) (v := .ref (a 35)) (C := RX7) (T := TX7) (N := 12) hx hb hts inX7 hown hK hP 0 rfl rfl 3 (by decide) (hts _ tw_308) (fun _ h9 => h9) rfl dX7_street_21 ?_
        refine lv_aload_n hx hb dX7_street_24 rfl (lv_at hl 0 rfl) ?_
        refine va_get (D := D) (ci := 7) (v := .ref (a 1)) (C := RX7) (T := TX7) (N := 12) hx hb hts inX7 hown hK hP 0 rfl rfl 0 (by decide) (hts _ tw_305) (fun _ h9 => h9) rfl dX7_street_25 ?_
        refine rw_v (D := D) (wr := [((a 0), .inr (7, (fX7 (a 1) (a 3) (a 19) (a 35) (a 40) (nI rk) lfa (a 53) (a 56) (a 63) (a 64) (a 68)))), ((a 3), .inl (k 3, 3, .inr (.inr (.inr (.inr (a3 (a 4) (a 9) (a 14))))))), ((a 19), .inl (k 4, 3, .inr (.inr (.inr (.inr (a3 (a 20) (a 25) (a 30))))))), ((a 4), .inr (5, (fX5 (a 5) (a 6) (a 7) (a 8)))), (aI k (a 5) 10 (vv n0 see0 tm0 g0)), (aI k (a 6) 24 ff0), (aI k (a 7) 24 fp0), (aI k (a 8) 4 fl0), ((a 9), .inr (5, (fX5 (a 10) (a 11) (a 12) (a 13)))), (aI k (a 10) 10 (vv n1 see1 tm1 g1)), (aI k (a 11) 24 ff1), (aI k (a 12) 24 fp1), (aI k (a 13) 4 fl1), ((a 14), .inr (5, (fX5 (a 15) (a 16) (a 17) (a 18)))), (aI k (a 15) 10 (vv n2 see2 tm2 g2)), (aI k (a 16) 24 ff2), (aI k (a 17) 24 fp2), (aI k (a 18) 4 fl2), ((a 20), .inr (0, (fX0 (a 4) (a 21) (a 22) (a 23) (a 24)))), (aI k (a 21) 768 on0), (aI k (a 22) 4 sr0), (aI k (a 23) 4 en0), (aI k (a 24) 8 fo0), ((a 25), .inr (0, (fX0 (a 9) (a 26) (a 27) (a 28) (a 29)))), (aI k (a 26) 768 on1), (aI k (a 27) 4 sr1), (aI k (a 28) 4 en1), (aI k (a 29) 8 fo1), ((a 30), .inr (0, (fX0 (a 14) (a 31) (a 32) (a 33) (a 34)))), (aI k (a 31) 768 on2), (aI k (a 32) 4 sr2), (aI k (a 33) 4 en2), (aI k (a 34) 8 fo2), (aI k (a 39) 4 flq)]) (va_runV (As := [.ref (a 1)]) (rest := []) ⟨hx, hb, hml, hown, hts⟩ ((y_Street_readFrom l D k st lo (a 35) (a 36) (a 37) (a 38) (a 39) nq seeq tmq gq ffq fpq (a 1) (a 2) tz 0 na__3 0 fb__3 fx (by first | assumption | omega) (by first | assumption | omega) rfl) H.size) (cwV 1 hts (gV tw_358 tw_359 tw_360 tw_81 tw_361) rfl rfl rfl (by decide +kernel) ⟨Nat.le_of_ble_eq_true rfl, Nat.le_of_ble_eq_true rfl⟩) (pV hS hAlo hlo hP hK (va_Dlo hD hAlo) hZ [33, 34, 35, 36, 38, 39] (by decide) rfl (ci := 5) (q := (RX5, TX5, 4)) (q0 := 0) rfl rfl) rfl rfl hl.1 rfl (lv_room (Nat.le_of_ble_eq_true rfl)) dX7_street_28 ⟨Nat.le_of_ble_eq_true rfl, Nat.le_of_ble_eq_true rfl⟩) hS hA hP hD [33, 34, 35, 36, 38, 39] [0, 1, 2, 3, 4, 5, 6, 7, 8, 9, 10, 11, 12, 13, 14, 15, 16, 17, 18, 19, 20, 21, 22, 23, 24, 25, 26, 27, 28, 29, 30, 31, 32, 37] rfl rfl (by decide +kernel) (by decide +kernel) (fun u H locs hw_4 hP hD hS => ?_)
        obtain ⟨n__4, see__4, tm__4, g__4, ff__4, fp__4, ta__4, na__4, fn__4, fb__4⟩ := u
        have hQ9 := pd_mk [((a 0), .inr (7, (fX7 (a 1) (a 3) (a 19) (a 35) (a 40) (nI rk) lfa (a 53) (a 56) (a 63) (a 64) (a 68)))), ((a 3), .inl (k 3, 3, .inr (.inr (.inr (.inr (a3 (a 4) (a 9) (a 14))))))), ((a 19), .inl (k 4, 3, .inr (.inr (.inr (.inr (a3 (a 20) (a 25) (a 30))))))), ((a 4), .inr (5, (fX5 (a 5) (a 6) (a 7) (a 8)))), (aI k (a 5) 10 (vv n0 see0 tm0 g0)), (aI k (a 6) 24 ff0), (aI k (a 7) 24 fp0), (aI k (a 8) 4 fl0), ((a 9), .inr (5, (fX5 (a 10) (a 11) (a 12) (a 13)))), (aI k (a 10) 10 (vv n1 see1 tm1 g1)), (aI k (a 11) 24 ff1), (aI k (a 12) 24 fp1), (aI k (a 13) 4 fl1), ((a 14), .inr (5, (fX5 (a 15) (a 16) (a 17) (a 18)))), (aI k (a 15) 10 (vv n2 see2 tm2 g2)), (aI k (a 16) 24 ff2), (aI k (a 17) 24 fp2), (aI k (a 18) 4 fl2), ((a 20), .inr (0, (fX0 (a 4) (a 21) (a 22) (a 23) (a 24)))), (aI k (a 21) 768 on0), (aI k (a 22) 4 sr0), (aI k (a 23) 4 en0), (aI k (a 24) 8 fo0), ((a 25), .inr (0, (fX0 (a 9) (a 26) (a 27) (a 28) (a 29)))), (aI k (a 26) 768 on1), (aI k (a 27) 4 sr1), (aI k (a 28) 4 en1), (aI k (a 29) 8 fo1), ((a 30), .inr (0, (fX0 (a 14) (a 31) (a 32) (a 33) (a 34)))), (aI k (a 31) 768 on2), (aI k (a 32) 4 sr2), (aI k (a 33) 4 en2), (aI k (a 34) 8 fo2), (aI k (a 39) 4 flq), ((a 35), .inr (5, (fX5 (a 36) (a 37) (a 38) (a 39)))), (aI k (a 36) 10 (vv n__4 see__4 tm__4 g__4)), (aI k (a 37) 24 ff__4), (aI k (a 38) 24 fp__4), ((a 1), .inr (6, (fX6 (a 2) (nI tz) (nI ta__4) na__4 fn__4 fb__4))), (aB k (a 2) 240 fx)] hP hD
        clear hP hD
        obtain ⟨hP, hD⟩ := hQ9
        try dsimp only at hw_4
        rcases hw_4 with ⟨⟨rfl, ms_5, hrf_5, hnn_5⟩ | ⟨e_5, pl_5, rfl, he1_5, he2_5, hp1_5, hp2_5, rfl⟩, hw_4⟩
        · refine lv_aload_n hx hb dX7_street_31 rfl (lv_at hl 0 rfl) ?_
          refine rw_i (D := D) (wr := [((a 3), .inl (k 3, 3, .inr (.inr (.inr (.inr (a3 (a 4) (a 9) (a 14))))))), ((a 19), .inl (k 4, 3, .inr (.inr (.inr (.inr (a3 (a 20) (a 25) (a 30))))))), ((a 4), .inr (5, (fX5 (a 5) (a 6) (a 7) (a 8)))), (aI k (a 5) 10 (vv n0 see0 tm0 g0)), (aI k (a 6) 24 ff0), (aI k (a 7) 24 fp0), (aI k (a 8) 4 fl0), ((a 9), .inr (5, (fX5 (a 10) (a 11) (a 12) (a 13)))), (aI k (a 10) 10 (vv n1 see1 tm1 g1)), (aI k (a 11) 24 ff1), (aI k (a 12) 24 fp1), (aI k (a 13) 4 fl1), ((a 14), .inr (5, (fX5 (a 15) (a 16) (a 17) (a 18)))), (aI k (a 15) 10 (vv n2 see2 tm2 g2)), (aI k (a 16) 24 ff2), (aI k (a 17) 24 fp2), (aI k (a 18) 4 fl2), ((a 20), .inr (0, (fX0 (a 4) (a 21) (a 22) (a 23) (a 24)))), (aI k (a 21) 768 on0), (aI k (a 22) 4 sr0), (aI k (a 23) 4 en0), (aI k (a 24) 8 fo0), ((a 25), .inr (0, (fX0 (a 9) (a 26) (a 27) (a 28) (a 29)))), (aI k (a 26) 768 on1), (aI k (a 27) 4 sr1), (aI k (a 28) 4 en1), (aI k (a 29) 8 fo1), ((a 30), .inr (0, (fX0 (a 14) (a 31) (a 32) (a 33) (a 34)))), (aI k (a 31) 768 on2), (aI k (a 32) 4 sr2), (aI k (a 33) 4 en2), (aI k (a 34) 8 fo2), (aI k (a 39) 4 flq), ((a 35), .inr (5, (fX5 (a 36) (a 37) (a 38) (a 39)))), (aI k (a 36) 10 (vv n__4 see__4 tm__4 g__4)), (aI k (a 37) 24 ff__4), (aI k (a 38) 24 fp__4), (aB k (a 2) 240 fx)]) (va_runV (As := []) (rest := []) ⟨hx, hb, hml, hown, hts⟩ ((y_closeText l D k st lo a rk lfa tz (nI ta__4) na__4 0 fb__4) H.size) (cwV 0 hts (gV tw_496 tw_498 tw_2 tw_79 tw_499) rfl rfl rfl (by decide +kernel) ⟨Nat.le_of_ble_eq_true rfl, Nat.le_of_ble_eq_true rfl⟩) (pV hS hAlo hlo hP hK (va_Dlo hD hAlo) hZ [0, 38] (by decide) rfl (ci := 7) (q := (RX7, TX7, 12)) (q0 := 0) rfl rfl) rfl rfl hl.1 rfl (lv_room (Nat.le_of_ble_eq_true rfl)) dX7_street_32 ⟨Nat.le_of_ble_eq_true rfl, Nat.le_of_ble_eq_true rfl⟩) hS hA hP hD [0, 38] [1, 2, 3, 4, 5, 6, 7, 8, 9, 10, 11, 12, 13, 14, 15, 16, 17, 18, 19, 20, 21, 22, 23, 24, 25, 26, 27, 28, 29, 30, 31, 32, 33, 34, 35, 36, 37, 39] rfl rfl (by decide +kernel) (by decide +kernel) (fun r_6 u H locs hw_6 hP hD hS => ?_)
          obtain ⟨lfa__6, tz__6⟩ := u
          have hQ9 := pd_mk [((a 3), .inl (k 3, 3, .inr (.inr (.inr (.inr (a3 (a 4) (a 9) (a 14))))))), ((a 19), .inl (k 4, 3, .inr (.inr (.inr (.inr (a3 (a 20) (a 25) (a 30))))))), ((a 4), .inr (5, (fX5 (a 5) (a 6) (a 7) (a 8)))), (aI k (a 5) 10 (vv n0 see0 tm0 g0)), (aI k (a 6) 24 ff0), (aI k (a 7) 24 fp0), (aI k (a 8) 4 fl0), ((a 9), .inr (5, (fX5 (a 10) (a 11) (a 12) (a 13)))), (aI k (a 10) 10 (vv n1 see1 tm1 g1)), (aI k (a 11) 24 ff1), (aI k (a 12) 24 fp1), (aI k (a 13) 4 fl1), ((a 14), .inr (5, (fX5 (a 15) (a 16) (a 17) (a 18)))), (aI k (a 15) 10 (vv n2 see2 tm2 g2)), (aI k (a 16) 24 ff2), (aI k (a 17) 24 fp2), (aI k (a 18) 4 fl2), ((a 20), .inr (0, (fX0 (a 4) (a 21) (a 22) (a 23) (a 24)))), (aI k (a 21) 768 on0), (aI k (a 22) 4 sr0), (aI k (a 23) 4 en0), (aI k (a 24) 8 fo0), ((a 25), .inr (0, (fX0 (a 9) (a 26) (a 27) (a 28) (a 29)))), (aI k (a 26) 768 on1), (aI k (a 27) 4 sr1), (aI k (a 28) 4 en1), (aI k (a 29) 8 fo1), ((a 30), .inr (0, (fX0 (a 14) (a 31) (a 32) (a 33) (a 34)))), (aI k (a 31) 768 on2), (aI k (a 32) 4 sr2), (aI k (a 33) 4 en2), (aI k (a 34) 8 fo2), (aI k (a 39) 4 flq), ((a 35), .inr (5, (fX5 (a 36) (a 37) (a 38) (a 39)))), (aI k (a 36) 10 (vv n__4 see__4 tm__4 g__4)), (aI k (a 37) 24 ff__4), (aI k (a 38) 24 fp__4), (aB k (a 2) 240 fx), ((a 0), .inr (7, (fX7 (a 1) (a 3) (a 19) (a 35) (a 40) (nI rk) lfa__6 (a 53) (a 56) (a 63) (a 64) (a 68)))), ((a 1), .inr (6, (fX6 (a 2) (nI tz__6) (nI ta__4) na__4 0 fb__4)))] hP hD
          clear hP hD
          obtain ⟨hP, hD⟩ := hQ9
          try dsimp only at hw_6
          have hcl_7 := hw_6.2.1 rfl
          obtain ⟨hs0_8, hs1_8, hs2_8⟩ := (⟨hw_6.1, hcl_7.1, hcl_7.2⟩ : _ ∧ _ ∧ _)
          replace hs0_8 := hs0_8.symm
          subst hs0_8
          replace hs1_8 := hs1_8.symm
          subst hs1_8
          replace hs2_8 := hs2_8.symm
          subst hs2_8
          refine lv_istore_n (lv' := [(2, .int 0), (0, .ref (a 0)), (1, .int 0)]) hx hb dX7_street_35 rfl hl (by decide) rfl (fun ls hl => ?_)
          refine lv_iload_n hx hb dX7_street_36 rfl (lv_at hl 0 rfl) ?_
          refine lv_if_ge (tgt := 42) hx hb dX7_street_37 (by decide) (fun _ => ?_) (fun h => absurd (by decide) h)
          refine lv_aload_n hx hb dX7_street_42 rfl (lv_at hl 1 rfl) ?_
          refine va_get (D := D) (ci := 7) (v := .ref (a 3)) (C := RX7) (T := TX7) (N := 12) hx hb hts inX7 hown hK hP 38 rfl rfl 1 (by decide) (hts _ tw_306) (fun _ h9 => h9) rfl dX7_street_43 ?_
          refine lv_iload_n hx hb dX7_street_46 rfl (lv_at hl 2 rfl) ?_
          refine va_aldq hx hb hK hP 0 3 rfl rfl (by unfold vp_in; decide) dX7_street_47 ?_
          refine lv_tr (y := .ref (a 4)) rfl ?_
          refine lv_aload_n hx hb dX7_street_48 rfl (lv_at hl 1 rfl) ?_
          refine va_get (D := D) (ci := 7) (v := .ref (a 35)) (C := RX7) (T := TX7) (N := 12) hx hb hts inX7 hown hK hP 38 rfl rfl 3 (by decide) (hts _ tw_308) (fun _ h9 => h9) rfl dX7_street_49 ?_
          refine rw_v (D := D) (wr := [((a 3), .inl (k 3, 3, .inr (.inr (.inr (.inr (a3 (a 4) (a 9) (a 14))))))), ((a 19), .inl (k 4, 3, .inr (.inr (.inr (.inr (a3 (a 20) (a 25) (a 30))))))), ((a 9), .inr (5, (fX5 (a 10) (a 11) (a 12) (a 13)))), (aI k (a 10) 10 (vv n1 see1 tm1 g1)), (aI k (a 11) 24 ff1), (aI k (a 12) 24 fp1), (aI k (a 13) 4 fl1), ((a 14), .inr (5, (fX5 (a 15) (a 16) (a 17) (a 18)))), (aI k (a 15) 10 (vv n2 see2 tm2 g2)), (aI k (a 16) 24 ff2), (aI k (a 17) 24 fp2), (aI k (a 18) 4 fl2), ((a 20), .inr (0, (fX0 (a 4) (a 21) (a 22) (a 23) (a 24)))), (aI k (a 21) 768 on0), (aI k (a 22) 4 sr0), (aI k (a 23) 4 en0), (aI k (a 24) 8 fo0), ((a 25), .inr (0, (fX0 (a 9) (a 26) (a 27) (a 28) (a 29)))), (aI k (a 26) 768 on1), (aI k (a 27) 4 sr1), (aI k (a 28) 4 en1), (aI k (a 29) 8 fo1), ((a 30), .inr (0, (fX0 (a 14) (a 31) (a 32) (a 33) (a 34)))), (aI k (a 31) 768 on2), (aI k (a 32) 4 sr2), (aI k (a 33) 4 en2), (aI k (a 34) 8 fo2), (aB k (a 2) 240 fx), ((a 0), .inr (7, (fX7 (a 1) (a 3) (a 19) (a 35) (a 40) (nI rk) (-1) (a 53) (a 56) (a 63) (a 64) (a 68)))), ((a 1), .inr (6, (fX6 (a 2) 0 (nI ta__4) na__4 0 fb__4)))]) (va_runV (As := [.ref (a 35)]) (rest := []) ⟨hx, hb, hml, hown, hts⟩ ((y_become2 l D k st lo (a 4) (a 5) (a 6) (a 7) (a 8) n0 see0 tm0 g0 ff0 fp0 fl0 (a 35) (a 36) (a 37) (a 38) (a 39) n__4 see__4 tm__4 g__4 ff__4 fp__4 flq (by first | assumption | omega)) H.size) (cwV 1 hts (gV tw_501 tw_502 tw_503 tw_81 tw_504) rfl rfl rfl (by decide +kernel) ⟨Nat.le_of_ble_eq_true rfl, Nat.le_of_ble_eq_true rfl⟩) (pV hS hAlo hlo hP hK (va_Dlo hD hAlo) hZ [2, 3, 4, 5, 6, 33, 34, 35, 36, 32] (by decide +kernel) rfl (ci := 5) (q := (RX5, TX5, 4)) (q0 := 0) rfl rfl) rfl rfl hl.1 rfl (lv_room (Nat.le_of_ble_eq_true rfl)) dX7_street_52 ⟨Nat.le_of_ble_eq_true rfl, Nat.le_of_ble_eq_true rfl⟩) hS hA hP hD [2, 3, 4, 5, 6, 33, 34, 35, 36, 32] [0, 1, 7, 8, 9, 10, 11, 12, 13, 14, 15, 16, 17, 18, 19, 20, 21, 22, 23, 24, 25, 26, 27, 28, 29, 30, 31, 37, 38, 39] rfl rfl (by decide +kernel) (by decide +kernel) (fun u H locs hw_9 hP hD hS => ?_)
          obtain ⟨n__9, see__9, tm__9, g__9, ff__9, fp__9, fl__9⟩ := u
          have hQ9 := pd_mk [((a 3), .inl (k 3, 3, .inr (.inr (.inr (.inr (a3 (a 4) (a 9) (a 14))))))), ((a 19), .inl (k 4, 3, .inr (.inr (.inr (.inr (a3 (a 20) (a 25) (a 30))))))), ((a 9), .inr (5, (fX5 (a 10) (a 11) (a 12) (a 13)))), (aI k (a 10) 10 (vv n1 see1 tm1 g1)), (aI k (a 11) 24 ff1), (aI k (a 12) 24 fp1), (aI k (a 13) 4 fl1), ((a 14), .inr (5, (fX5 (a 15) (a 16) (a 17) (a 18)))), (aI k (a 15) 10 (vv n2 see2 tm2 g2)), (aI k (a 16) 24 ff2), (aI k (a 17) 24 fp2), (aI k (a 18) 4 fl2), ((a 20), .inr (0, (fX0 (a 4) (a 21) (a 22) (a 23) (a 24)))), (aI k (a 21) 768 on0), (aI k (a 22) 4 sr0), (aI k (a 23) 4 en0), (aI k (a 24) 8 fo0), ((a 25), .inr (0, (fX0 (a 9) (a 26) (a 27) (a 28) (a 29)))), (aI k (a 26) 768 on1), (aI k (a 27) 4 sr1), (aI k (a 28) 4 en1), (aI k (a 29) 8 fo1), ((a 30), .inr (0, (fX0 (a 14) (a 31) (a 32) (a 33) (a 34)))), (aI k (a 31) 768 on2), (aI k (a 32) 4 sr2), (aI k (a 33) 4 en2), (aI k (a 34) 8 fo2), (aB k (a 2) 240 fx), ((a 0), .inr (7, (fX7 (a 1) (a 3) (a 19) (a 35) (a 40) (nI rk) (-1) (a 53) (a 56) (a 63) (a 64) (a 68)))), ((a 1), .inr (6, (fX6 (a 2) 0 (nI ta__4) na__4 0 fb__4))), ((a 4), .inr (5, (fX5 (a 5) (a 6) (a 7) (a 8)))), (aI k (a 5) 10 (vv n__9 see__9 tm__9 g__9)), (aI k (a 6) 24 ff__9), (aI k (a 7) 24 fp__9), (aI k (a 8) 4 fl__9), ((a 35), .inr (5, (fX5 (a 36) (a 37) (a 38) (a 39)))), (aI k (a 36) 10 (vv n__4 see__4 tm__4 g__4)), (aI k (a 37) 24 ff__4), (aI k (a 38) 24 fp__4), (aI k (a 39) 4 flq)] hP hD
          clear hP hD
          obtain ⟨hP, hD⟩ := hQ9
          try dsimp only at hw_9
          have hsd_10 := hw_9.2.2.2.1
          have hla_10 := hw_9.2.2.2.2
          obtain ⟨hs0_11, hs1_11, hs2_11⟩ := (⟨hw_9.1, hw_9.2.1, hw_9.2.2.1⟩ : _ ∧ _ ∧ _)
          replace hs0_11 := hs0_11.symm
          subst hs0_11
          replace hs1_11 := hs1_11.symm
          subst hs1_11
          replace hs2_11 := hs2_11.symm
          subst hs2_11
          refine lv_aload_n hx hb dX7_street_55 rfl (lv_at hl 1 rfl) ?_
          refine va_get (D := D) (ci := 7) (v := .ref (a 19)) (C := RX7) (T := TX7) (N := 12) hx hb hts inX7 hown hK hP 28 rfl rfl 2 (by decide) (hts _ tw_307) (fun _ h9 => h9) rfl dX7_street_56 ?_
          refine lv_iload_n hx hb dX7_street_59 rfl (lv_at hl 2 rfl) ?_
          refine va_aldq hx hb hK hP 1 4 rfl rfl (by unfold vp_in; decide) dX7_street_60 ?_
          refine lv_tr (y := .ref (a 20)) rfl ?_
          refine rw_v (D := D) (wr := [((a 3), .inl (k 3, 3, .inr (.inr (.inr (.inr (a3 (a 4) (a 9) (a 14))))))), ((a 19), .inl (k 4, 3, .inr (.inr (.inr (.inr (a3 (a 20) (a 25) (a 30))))))), ((a 9), .inr (5, (fX5 (a 10) (a 11) (a 12) (a 13)))), (aI k (a 10) 10 (vv n1 see1 tm1 g1)), (aI k (a 11) 24 ff1), (aI k (a 12) 24 fp1), (aI k (a 13) 4 fl1), ((a 14), .inr (5, (fX5 (a 15) (a 16) (a 17) (a 18)))), (aI k (a 15) 10 (vv n2 see2 tm2 g2)), (aI k (a 16) 24 ff2), (aI k (a 17) 24 fp2), (aI k (a 18) 4 fl2), ((a 25), .inr (0, (fX0 (a 9) (a 26) (a 27) (a 28) (a 29)))), (aI k (a 26) 768 on1), (aI k (a 27) 4 sr1), (aI k (a 28) 4 en1), (aI k (a 29) 8 fo1), ((a 30), .inr (0, (fX0 (a 14) (a 31) (a 32) (a 33) (a 34)))), (aI k (a 31) 768 on2), (aI k (a 32) 4 sr2), (aI k (a 33) 4 en2), (aI k (a 34) 8 fo2), (aB k (a 2) 240 fx), ((a 0), .inr (7, (fX7 (a 1) (a 3) (a 19) (a 35) (a 40) (nI rk) (-1) (a 53) (a 56) (a 63) (a 64) (a 68)))), ((a 1), .inr (6, (fX6 (a 2) 0 (nI ta__4) na__4 0 fb__4))), ((a 35), .inr (5, (fX5 (a 36) (a 37) (a 38) (a 39)))), (aI k (a 36) 10 (vv n__4 see__4 tm__4 g__4)), (aI k (a 37) 24 ff__4), (aI k (a 38) 24 fp__4), (aI k (a 39) 4 flq)]) (va_runV (As := []) (rest := []) ⟨hx, hb, hml, hown, hts⟩ ((y_reckon l D k st lo (a 4) (a 5) (a 6) (a 7) (a 8) n__4 see__4 tm__4 g__9 ff__9 fp__9 fl__9 (a 20) (a 21) (a 22) (a 23) (a 24) on0 sr0 en0 fo0 (by first | assumption | omega) (by first | assumption | omega) (by first | assumption | omega) (fun r hr => (hla_10 r hr).trans (congrArg (fun z => pLate z r) hsd_10.symm)) (by rw [hsd_10]; exact okS_F hrf_5) (by first | assumption | omega)) H.size) (cwV 0 hts (gV tw_512 tw_513 tw_514 tw_85 tw_515) rfl rfl rfl (by decide +kernel) ⟨Nat.le_of_ble_eq_true rfl, Nat.le_of_ble_eq_true rfl⟩) (pV hS hAlo hlo hP hK (va_Dlo hD hAlo) hZ [30, 31, 32, 33, 34, 12, 13, 14, 15, 16] (by decide +kernel) rfl (ci := 0) (q := (RX0, TX0, 5)) (q0 := 5) rfl rfl) rfl rfl hl.1 rfl (lv_room (Nat.le_of_ble_eq_true rfl)) dX7_street_61 ⟨Nat.le_of_ble_eq_true rfl, Nat.le_of_ble_eq_true rfl⟩) hS hA hP hD [30, 31, 32, 33, 34, 12, 13, 14, 15, 16] [0, 1, 2, 3, 4, 5, 6, 7, 8, 9, 10, 11, 17, 18, 19, 20, 21, 22, 23, 24, 25, 26, 27, 28, 29, 35, 36, 37, 38, 39] rfl rfl (by decide +kernel) (by decide +kernel) (fun u H locs hw_12 hP hD hS => ?_)
          obtain ⟨on__12, sr__12, en__12, fo__12⟩ := u
          have hQ9 := pd_mk [((a 3), .inl (k 3, 3, .inr (.inr (.inr (.inr (a3 (a 4) (a 9) (a 14))))))), ((a 19), .inl (k 4, 3, .inr (.inr (.inr (.inr (a3 (a 20) (a 25) (a 30))))))), ((a 9), .inr (5, (fX5 (a 10) (a 11) (a 12) (a 13)))), (aI k (a 10) 10 (vv n1 see1 tm1 g1)), (aI k (a 11) 24 ff1), (aI k (a 12) 24 fp1), (aI k (a 13) 4 fl1), ((a 14), .inr (5, (fX5 (a 15) (a 16) (a 17) (a 18)))), (aI k (a 15) 10 (vv n2 see2 tm2 g2)), (aI k (a 16) 24 ff2), (aI k (a 17) 24 fp2), (aI k (a 18) 4 fl2), ((a 25), .inr (0, (fX0 (a 9) (a 26) (a 27) (a 28) (a 29)))), (aI k (a 26) 768 on1), (aI k (a 27) 4 sr1), (aI k (a 28) 4 en1), (aI k (a 29) 8 fo1), ((a 30), .inr (0, (fX0 (a 14) (a 31) (a 32) (a 33) (a 34)))), (aI k (a 31) 768 on2), (aI k (a 32) 4 sr2), (aI k (a 33) 4 en2), (aI k (a 34) 8 fo2), (aB k (a 2) 240 fx), ((a 0), .inr (7, (fX7 (a 1) (a 3) (a 19) (a 35) (a 40) (nI rk) (-1) (a 53) (a 56) (a 63) (a 64) (a 68)))), ((a 1), .inr (6, (fX6 (a 2) 0 (nI ta__4) na__4 0 fb__4))), ((a 35), .inr (5, (fX5 (a 36) (a 37) (a 38) (a 39)))), (aI k (a 36) 10 (vv n__4 see__4 tm__4 g__4)), (aI k (a 37) 24 ff__4), (aI k (a 38) 24 fp__4), (aI k (a 39) 4 flq), ((a 4), .inr (5, (fX5 (a 5) (a 6) (a 7) (a 8)))), (aI k (a 5) 10 (vv n__4 see__4 tm__4 g__9)), (aI k (a 6) 24 ff__9), (aI k (a 7) 24 fp__9), (aI k (a 8) 4 fl__9), ((a 20), .inr (0, (fX0 (a 4) (a 21) (a 22) (a 23) (a 24)))), (aI k (a 21) 768 on__12), (aI k (a 22) 4 sr__12), (aI k (a 23) 4 en__12), (aI k (a 24) 8 fo__12)] hP hD
          clear hP hD
          obtain ⟨hP, hD⟩ := hQ9
          try dsimp only at hw_12
          refine lv_aload_n hx hb dX7_street_64 rfl (lv_at hl 1 rfl) ?_
          refine va_get (D := D) (ci := 7) (v := .ref (a 3)) (C := RX7) (T := TX7) (N := 12) hx hb hts inX7 hown hK hP 23 rfl rfl 1 (by decide) (hts _ tw_306) (fun _ h9 => h9) rfl dX7_street_65 ?_
          refine lv_iload_n hx hb dX7_street_68 rfl (lv_at hl 2 rfl) ?_
          refine va_aldq hx hb hK hP 0 3 rfl rfl (by unfold vp_in; decide) dX7_street_69 ?_
          refine lv_tr (y := .ref (a 4)) rfl ?_
          refine ro_i (D := D) (va_runV (As := []) (rest := []) ⟨hx, hb, hml, hown, hts⟩ ((x_doors l D k st lo (a 4) (a 5) (a 6) (a 7) (a 8) n__4 see__4 tm__4 g__9) H.size) (cwV 0 hts (gV tw_580 tw_478 tw_479 tw_81 tw_480) rfl rfl rfl (by decide +kernel) ⟨Nat.le_of_ble_eq_true rfl, Nat.le_of_ble_eq_true rfl⟩) (pV hS hAlo hlo hP hK (va_Dlo hD hAlo) hZ [30, 31] (by decide) rfl (ci := 5) (q := (RX5, TX5, 4)) (q0 := 0) rfl rfl) rfl rfl hl.1 rfl (lv_room (Nat.le_of_ble_eq_true rfl)) dX7_street_70 ⟨Nat.le_of_ble_eq_true rfl, Nat.le_of_ble_eq_true rfl⟩) hS hA hP (fun r_13 H locs hw_13 hP hS => ?_)
          try dsimp only at hw_13
          subst hw_13
          obtain ⟨hP9, hD9⟩ := pd_sub [((a 0), .inr (7, (fX7 (a 1) (a 3) (a 19) (a 35) (a 40) (nI rk) (-1) (a 53) (a 56) (a 63) (a 64) (a 68)))), ((a 1), .inr (6, (fX6 (a 2) 0 (nI ta__4) na__4 0 fb__4))), (aB k (a 2) 240 fx), ((a 3), .inl (k 3, 3, .inr (.inr (.inr (.inr (a3 (a 4) (a 9) (a 14))))))), ((a 19), .inl (k 4, 3, .inr (.inr (.inr (.inr (a3 (a 20) (a 25) (a 30))))))), ((a 4), .inr (5, (fX5 (a 5) (a 6) (a 7) (a 8)))), (aI k (a 5) 10 (vv n__4 see__4 tm__4 g__9)), (aI k (a 6) 24 ff__9), (aI k (a 7) 24 fp__9), (aI k (a 8) 4 fl__9), ((a 9), .inr (5, (fX5 (a 10) (a 11) (a 12) (a 13)))), (aI k (a 10) 10 (vv n1 see1 tm1 g1)), (aI k (a 11) 24 ff1), (aI k (a 12) 24 fp1), (aI k (a 13) 4 fl1), ((a 14), .inr (5, (fX5 (a 15) (a 16) (a 17) (a 18)))), (aI k (a 15) 10 (vv n2 see2 tm2 g2)), (aI k (a 16) 24 ff2), (aI k (a 17) 24 fp2), (aI k (a 18) 4 fl2), ((a 20), .inr (0, (fX0 (a 4) (a 21) (a 22) (a 23) (a 24)))), (aI k (a 21) 768 on__12), (aI k (a 22) 4 sr__12), (aI k (a 23) 4 en__12), (aI k (a 24) 8 fo__12), ((a 25), .inr (0, (fX0 (a 9) (a 26) (a 27) (a 28) (a 29)))), (aI k (a 26) 768 on1), (aI k (a 27) 4 sr1), (aI k (a 28) 4 en1), (aI k (a 29) 8 fo1), ((a 30), .inr (0, (fX0 (a 14) (a 31) (a 32) (a 33) (a 34)))), (aI k (a 31) 768 on2), (aI k (a 32) 4 sr2), (aI k (a 33) 4 en2), (aI k (a 34) 8 fo2), ((a 35), .inr (5, (fX5 (a 36) (a 37) (a 38) (a 39)))), (aI k (a 36) 10 (vv n__4 see__4 tm__4 g__4)), (aI k (a 37) 24 ff__4), (aI k (a 38) 24 fp__4), (aI k (a 39) 4 flq)] [23, 24, 22, 0, 1, 30, 31, 32, 33, 34, 2, 3, 4, 5, 6, 7, 8, 9, 10, 11, 35, 36, 37, 38, 39, 12, 13, 14, 15, 16, 17, 18, 19, 20, 21, 25, 26, 27, 28, 29] hP hD (by decide +kernel) rfl
          exact W.iret (v := (nI n__4)) hx hb hr (fun t ht hW => ⟨⟨(nI n__4), ((-1), 0, (nI ta__4), na__4, 0, fb__4, n__4, see__4, tm__4, g__4, ff__4, fp__4, n__4, see__4, tm__4, g__9, ff__9, fp__9, fl__9, on__12, sr__12, en__12, fo__12, n1, see1, tm1, g1, ff1, fp1, fl1, on1, sr1, en1, fo1, n2, see2, tm2, g2, ff2, fp2, fl2, on2, sr2, en2, fo2), rfl, ⟨⟨(fun h => absurd (by exact ⟨by decide, by decide⟩) h), fun _ => ⟨rfl, .inr ⟨0, _, by omega, rfl, hrf_5, rfl, rfl, hsd_10.trans rfl, (fun q hq hn => by rcases (show q = 0 ∨ q = 1 ∨ q = 2 by omega) with rfl | rfl | rfl <;> first | rfl | exact absurd rfl hn)⟩⟩⟩, fun h i hi r hr => by rcases (show i = 0 ∨ i = 1 ∨ i = 2 by omega) with rfl | rfl | rfl; exact (hla_10 r hr).trans (congrArg (fun z => pLate z r) hsd_10.symm); exact h 1 (by omega) r hr; exact h 2 (by omega) r hr, fun h i hi hn => by rcases (show i = 0 ∨ i = 1 ∨ i = 2 by omega) with rfl | rfl | rfl; exact wy_of (by omega) (by omega) hw_12; exact h 1 (by omega) hn; exact h 2 (by omega) hn, by omega, by omega, by omega, by omega, by omega, by omega, by omega, by omega, by omega, by omega⟩, by rw [ht]; exact hP9, hD9⟩, hS.F ht⟩) hS.2.2 dX7_street_73
        · refine lv_aload_n hx hb dX7_street_31 rfl (lv_at hl 0 rfl) ?_
          refine rw_i (D := D) (wr := [((a 3), .inl (k 3, 3, .inr (.inr (.inr (.inr (a3 (a 4) (a 9) (a 14))))))), ((a 19), .inl (k 4, 3, .inr (.inr (.inr (.inr (a3 (a 20) (a 25) (a 30))))))), ((a 4), .inr (5, (fX5 (a 5) (a 6) (a 7) (a 8)))), (aI k (a 5) 10 (vv n0 see0 tm0 g0)), (aI k (a 6) 24 ff0), (aI k (a 7) 24 fp0), (aI k (a 8) 4 fl0), ((a 9), .inr (5, (fX5 (a 10) (a 11) (a 12) (a 13)))), (aI k (a 10) 10 (vv n1 see1 tm1 g1)), (aI k (a 11) 24 ff1), (aI k (a 12) 24 fp1), (aI k (a 13) 4 fl1), ((a 14), .inr (5, (fX5 (a 15) (a 16) (a 17) (a 18)))), (aI k (a 15) 10 (vv n2 see2 tm2 g2)), (aI k (a 16) 24 ff2), (aI k (a 17) 24 fp2), (aI k (a 18) 4 fl2), ((a 20), .inr (0, (fX0 (a 4) (a 21) (a 22) (a 23) (a 24)))), (aI k (a 21) 768 on0), (aI k (a 22) 4 sr0), (aI k (a 23) 4 en0), (aI k (a 24) 8 fo0), ((a 25), .inr (0, (fX0 (a 9) (a 26) (a 27) (a 28) (a 29)))), (aI k (a 26) 768 on1), (aI k (a 27) 4 sr1), (aI k (a 28) 4 en1), (aI k (a 29) 8 fo1), ((a 30), .inr (0, (fX0 (a 14) (a 31) (a 32) (a 33) (a 34)))), (aI k (a 31) 768 on2), (aI k (a 32) 4 sr2), (aI k (a 33) 4 en2), (aI k (a 34) 8 fo2), (aI k (a 39) 4 flq), ((a 35), .inr (5, (fX5 (a 36) (a 37) (a 38) (a 39)))), (aI k (a 36) 10 (vv n__4 see__4 tm__4 g__4)), (aI k (a 37) 24 ff__4), (aI k (a 38) 24 fp__4), (aB k (a 2) 240 fx)]) (va_runV (As := []) (rest := []) ⟨hx, hb, hml, hown, hts⟩ ((y_closeText l D k st lo a rk lfa tz (nI ta__4) na__4 (nI e_5) (nI pl_5)) H.size) (cwV 0 hts (gV tw_496 tw_498 tw_2 tw_79 tw_499) rfl rfl rfl (by decide +kernel) ⟨Nat.le_of_ble_eq_true rfl, Nat.le_of_ble_eq_true rfl⟩) (pV hS hAlo hlo hP hK (va_Dlo hD hAlo) hZ [0, 38] (by decide) rfl (ci := 7) (q := (RX7, TX7, 12)) (q0 := 0) rfl rfl) rfl rfl hl.1 rfl (lv_room (Nat.le_of_ble_eq_true rfl)) dX7_street_32 ⟨Nat.le_of_ble_eq_true rfl, Nat.le_of_ble_eq_true rfl⟩) hS hA hP hD [0, 38] [1, 2, 3, 4, 5, 6, 7, 8, 9, 10, 11, 12, 13, 14, 15, 16, 17, 18, 19, 20, 21, 22, 23, 24, 25, 26, 27, 28, 29, 30, 31, 32, 33, 34, 35, 36, 37, 39] rfl rfl (by decide +kernel) (by decide +kernel) (fun r_14 u H locs hw_14 hP hD hS => ?_)
          obtain ⟨lfa__14, tz__14⟩ := u
          have hQ9 := pd_mk [((a 3), .inl (k 3, 3, .inr (.inr (.inr (.inr (a3 (a 4) (a 9) (a 14))))))), ((a 19), .inl (k 4, 3, .inr (.inr (.inr (.inr (a3 (a 20) (a 25) (a 30))))))), ((a 4), .inr (5, (fX5 (a 5) (a 6) (a 7) (a 8)))), (aI k (a 5) 10 (vv n0 see0 tm0 g0)), (aI k (a 6) 24 ff0), (aI k (a 7) 24 fp0), (aI k (a 8) 4 fl0), ((a 9), .inr (5, (fX5 (a 10) (a 11) (a 12) (a 13)))), (aI k (a 10) 10 (vv n1 see1 tm1 g1)), (aI k (a 11) 24 ff1), (aI k (a 12) 24 fp1), (aI k (a 13) 4 fl1), ((a 14), .inr (5, (fX5 (a 15) (a 16) (a 17) (a 18)))), (aI k (a 15) 10 (vv n2 see2 tm2 g2)), (aI k (a 16) 24 ff2), (aI k (a 17) 24 fp2), (aI k (a 18) 4 fl2), ((a 20), .inr (0, (fX0 (a 4) (a 21) (a 22) (a 23) (a 24)))), (aI k (a 21) 768 on0), (aI k (a 22) 4 sr0), (aI k (a 23) 4 en0), (aI k (a 24) 8 fo0), ((a 25), .inr (0, (fX0 (a 9) (a 26) (a 27) (a 28) (a 29)))), (aI k (a 26) 768 on1), (aI k (a 27) 4 sr1), (aI k (a 28) 4 en1), (aI k (a 29) 8 fo1), ((a 30), .inr (0, (fX0 (a 14) (a 31) (a 32) (a 33) (a 34)))), (aI k (a 31) 768 on2), (aI k (a 32) 4 sr2), (aI k (a 33) 4 en2), (aI k (a 34) 8 fo2), (aI k (a 39) 4 flq), ((a 35), .inr (5, (fX5 (a 36) (a 37) (a 38) (a 39)))), (aI k (a 36) 10 (vv n__4 see__4 tm__4 g__4)), (aI k (a 37) 24 ff__4), (aI k (a 38) 24 fp__4), (aB k (a 2) 240 fx), ((a 0), .inr (7, (fX7 (a 1) (a 3) (a 19) (a 35) (a 40) (nI rk) lfa__14 (a 53) (a 56) (a 63) (a 64) (a 68)))), ((a 1), .inr (6, (fX6 (a 2) (nI tz__14) (nI ta__4) na__4 (nI e_5) (nI pl_5))))] hP hD
          clear hP hD
          obtain ⟨hP, hD⟩ := hQ9
          try dsimp only at hw_14
          have hcl_15 := hw_14.2.2 (nI_ne0 (show 0 < e_5 by omega) (by omega))
          obtain ⟨hs0_16, hs1_16⟩ := (⟨hw_14.1, hcl_15.2⟩ : _ ∧ _)
          replace hs0_16 := hs0_16.symm
          subst hs0_16
          replace hs1_16 := hs1_16.symm
          subst hs1_16
          refine lv_istore_n (lv' := [(2, .int r_14), (0, .ref (a 0)), (1, .int 0)]) hx hb dX7_street_35 rfl hl (by decide) rfl (fun ls hl => ?_)
          refine lv_iload_n hx hb dX7_street_36 rfl (lv_at hl 0 rfl) ?_
          refine lv_if_ge (tgt := 42) hx hb dX7_street_37 (by decide) (fun c_17 => absurd c_17 (by rw [hcl_15.1]; exact neg10 he1_5 he2_5)) (fun c_17 => ?_)
          refine lv_iload_n hx hb dX7_street_40 rfl (lv_at hl 0 rfl) ?_
          obtain ⟨hP9, hD9⟩ := pd_sub [((a 0), .inr (7, (fX7 (a 1) (a 3) (a 19) (a 35) (a 40) (nI rk) (nI pl_5) (a 53) (a 56) (a 63) (a 64) (a 68)))), ((a 1), .inr (6, (fX6 (a 2) 0 (nI ta__4) na__4 (nI e_5) (nI pl_5)))), (aB k (a 2) 240 fx), ((a 3), .inl (k 3, 3, .inr (.inr (.inr (.inr (a3 (a 4) (a 9) (a 14))))))), ((a 19), .inl (k 4, 3, .inr (.inr (.inr (.inr (a3 (a 20) (a 25) (a 30))))))), ((a 4), .inr (5, (fX5 (a 5) (a 6) (a 7) (a 8)))), (aI k (a 5) 10 (vv n0 see0 tm0 g0)), (aI k (a 6) 24 ff0), (aI k (a 7) 24 fp0), (aI k (a 8) 4 fl0), ((a 9), .inr (5, (fX5 (a 10) (a 11) (a 12) (a 13)))), (aI k (a 10) 10 (vv n1 see1 tm1 g1)), (aI k (a 11) 24 ff1), (aI k (a 12) 24 fp1), (aI k (a 13) 4 fl1), ((a 14), .inr (5, (fX5 (a 15) (a 16) (a 17) (a 18)))), (aI k (a 15) 10 (vv n2 see2 tm2 g2)), (aI k (a 16) 24 ff2), (aI k (a 17) 24 fp2), (aI k (a 18) 4 fl2), ((a 20), .inr (0, (fX0 (a 4) (a 21) (a 22) (a 23) (a 24)))), (aI k (a 21) 768 on0), (aI k (a 22) 4 sr0), (aI k (a 23) 4 en0), (aI k (a 24) 8 fo0), ((a 25), .inr (0, (fX0 (a 9) (a 26) (a 27) (a 28) (a 29)))), (aI k (a 26) 768 on1), (aI k (a 27) 4 sr1), (aI k (a 28) 4 en1), (aI k (a 29) 8 fo1), ((a 30), .inr (0, (fX0 (a 14) (a 31) (a 32) (a 33) (a 34)))), (aI k (a 31) 768 on2), (aI k (a 32) 4 sr2), (aI k (a 33) 4 en2), (aI k (a 34) 8 fo2), ((a 35), .inr (5, (fX5 (a 36) (a 37) (a 38) (a 39)))), (aI k (a 36) 10 (vv n__4 see__4 tm__4 g__4)), (aI k (a 37) 24 ff__4), (aI k (a 38) 24 fp__4), (aI k (a 39) 4 flq)] [38, 39, 37, 0, 1, 2, 3, 4, 5, 6, 7, 8, 9, 10, 11, 12, 13, 14, 15, 16, 17, 18, 19, 20, 21, 22, 23, 24, 25, 26, 27, 28, 29, 30, 31, 33, 34, 35, 36, 32] hP hD (by decide +kernel) rfl
          exact W.iret (v := r_14) hx hb hr (fun t ht hW => ⟨⟨r_14, ((nI pl_5), 0, (nI ta__4), na__4, (nI e_5), (nI pl_5), n__4, see__4, tm__4, g__4, ff__4, fp__4, n0, see0, tm0, g0, ff0, fp0, fl0, on0, sr0, en0, fo0, n1, see1, tm1, g1, ff1, fp1, fl1, on1, sr1, en1, fo1, n2, see2, tm2, g2, ff2, fp2, fl2, on2, sr2, en2, fo2), rfl, ⟨⟨(fun h => absurd (by exact ⟨by decide, by decide⟩) h), fun _ => ⟨rfl, .inl ⟨e_5, pl_5, he1_5, he2_5, hp1_5, hp2_5, hcl_15.1, rfl, fun _ _ => rfl⟩⟩⟩, fun h => h, fun h => h, by omega, by omega, by omega, by omega, by omega, by omega, by omega, by omega, by omega, by omega⟩, by rw [ht]; exact hP9, hD9⟩, hS.F ht⟩) hS.2.2 dX7_street_41
      · refine lv_aload_n hx hb dX7_street_13 rfl (lv_at hl 0 rfl) ?_
        refine va_get (D := D) (ci := 7) (v := .ref (a 1)) (C := RX7) (T := TX7) (N := 12) hx hb hts inX7 hown hK hP 0 rfl rfl 0 (by decide) (hts _ tw_305) (fun _ h9 => h9) rfl dX7_street_14 ?_
        refine rw_v (D := D) (wr := [((a 0), .inr (7, (fX7 (a 1) (a 3) (a 19) (a 35) (a 40) (nI rk) lfa (a 53) (a 56) (a 63) (a 64) (a 68)))), ((a 3), .inl (k 3, 3, .inr (.inr (.inr (.inr (a3 (a 4) (a 9) (a 14))))))), ((a 19), .inl (k 4, 3, .inr (.inr (.inr (.inr (a3 (a 20) (a 25) (a 30))))))), ((a 4), .inr (5, (fX5 (a 5) (a 6) (a 7) (a 8)))), (aI k (a 5) 10 (vv n0 see0 tm0 g0)), (aI k (a 6) 24 ff0), (aI k (a 7) 24 fp0), (aI k (a 8) 4 fl0), ((a 9), .inr (5, (fX5 (a 10) (a 11) (a 12) (a 13)))), (aI k (a 10) 10 (vv n1 see1 tm1 g1)), (aI k (a 11) 24 ff1), (aI k (a 12) 24 fp1), (aI k (a 13) 4 fl1), ((a 14), .inr (5, (fX5 (a 15) (a 16) (a 17) (a 18)))), (aI k (a 15) 10 (vv n2 see2 tm2 g2)), (aI k (a 16) 24 ff2), (aI k (a 17) 24 fp2), (aI k (a 18) 4 fl2), ((a 20), .inr (0, (fX0 (a 4) (a 21) (a 22) (a 23) (a 24)))), (aI k (a 21) 768 on0), (aI k (a 22) 4 sr0), (aI k (a 23) 4 en0), (aI k (a 24) 8 fo0), ((a 25), .inr (0, (fX0 (a 9) (a 26) (a 27) (a 28) (a 29)))), (aI k (a 26) 768 on1), (aI k (a 27) 4 sr1), (aI k (a 28) 4 en1), (aI k (a 29) 8 fo1), ((a 30), .inr (0, (fX0 (a 14) (a 31) (a 32) (a 33) (a 34)))), (aI k (a 31) 768 on2), (aI k (a 32) 4 sr2), (aI k (a 33) 4 en2), (aI k (a 34) 8 fo2), ((a 35), .inr (5, (fX5 (a 36) (a 37) (a 38) (a 39)))), (aI k (a 36) 10 (vv nq seeq tmq gq)), (aI k (a 37) 24 ffq), (aI k (a 38) 24 fpq), (aI k (a 39) 4 flq)]) (va_runV (As := []) (rest := []) ⟨hx, hb, hml, hown, hts⟩ ((x_rewind l D k st lo (a 1) (a 2) tz ta na fn fb fx) s.heap.size) (cwV 0 hts (gV tw_354 tw_355 tw_356 tw_80 tw_357) rfl rfl rfl (by decide +kernel) ⟨Nat.le_of_ble_eq_true rfl, Nat.le_of_ble_eq_true rfl⟩) (pV hS hAlo hlo hP hK (va_Dlo hD hAlo) hZ [1, 2] (by decide) rfl (ci := 6) (q := (RX6, TX6, 6)) (q0 := 0) rfl rfl) rfl rfl hl.1 rfl (lv_room (Nat.le_of_ble_eq_true rfl)) dX7_street_17 ⟨Nat.le_of_ble_eq_true rfl, Nat.le_of_ble_eq_true rfl⟩) hS hA hP hD [1, 2] [0, 3, 4, 5, 6, 7, 8, 9, 10, 11, 12, 13, 14, 15, 16, 17, 18, 19, 20, 21, 22, 23, 24, 25, 26, 27, 28, 29, 30, 31, 32, 33, 34, 35, 36, 37, 38, 39] rfl rfl (by decide +kernel) (by decide +kernel) (fun u H locs hw_18 hP hD hS => ?_)
        obtain ⟨ta__18, na__18, fn__18, fb__18⟩ := u
        have hQ9 := pd_mk [((a 0), .inr (7, (fX7 (a 1) (a 3) (a 19) (a 35) (a 40) (nI rk) lfa (a 53) (a 56) (a 63) (a 64) (a 68)))), ((a 3), .inl (k 3, 3, .inr (.inr (.inr (.inr (a3 (a 4) (a 9) (a 14))))))), ((a 19), .inl (k 4, 3, .inr (.inr (.inr (.inr (a3 (a 20) (a 25) (a 30))))))), ((a 4), .inr (5, (fX5 (a 5) (a 6) (a 7) (a 8)))), (aI k (a 5) 10 (vv n0 see0 tm0 g0)), (aI k (a 6) 24 ff0), (aI k (a 7) 24 fp0), (aI k (a 8) 4 fl0), ((a 9), .inr (5, (fX5 (a 10) (a 11) (a 12) (a 13)))), (aI k (a 10) 10 (vv n1 see1 tm1 g1)), (aI k (a 11) 24 ff1), (aI k (a 12) 24 fp1), (aI k (a 13) 4 fl1), ((a 14), .inr (5, (fX5 (a 15) (a 16) (a 17) (a 18)))), (aI k (a 15) 10 (vv n2 see2 tm2 g2)), (aI k (a 16) 24 ff2), (aI k (a 17) 24 fp2), (aI k (a 18) 4 fl2), ((a 20), .inr (0, (fX0 (a 4) (a 21) (a 22) (a 23) (a 24)))), (aI k (a 21) 768 on0), (aI k (a 22) 4 sr0), (aI k (a 23) 4 en0), (aI k (a 24) 8 fo0), ((a 25), .inr (0, (fX0 (a 9) (a 26) (a 27) (a 28) (a 29)))), (aI k (a 26) 768 on1), (aI k (a 27) 4 sr1), (aI k (a 28) 4 en1), (aI k (a 29) 8 fo1), ((a 30), .inr (0, (fX0 (a 14) (a 31) (a 32) (a 33) (a 34)))), (aI k (a 31) 768 on2), (aI k (a 32) 4 sr2), (aI k (a 33) 4 en2), (aI k (a 34) 8 fo2), ((a 35), .inr (5, (fX5 (a 36) (a 37) (a 38) (a 39)))), (aI k (a 36) 10 (vv nq seeq tmq gq)), (aI k (a 37) 24 ffq), (aI k (a 38) 24 fpq), (aI k (a 39) 4 flq), ((a 1), .inr (6, (fX6 (a 2) (nI tz) ta__18 na__18 fn__18 fb__18))), (aB k (a 2) 240 fx)] hP hD
        clear hP hD
        obtain ⟨hP, hD⟩ := hQ9
        try dsimp only at hw_18
        obtain ⟨rfl, rfl⟩ := hw_18
        refine lv_aload_n hx hb dX7_street_20 rfl (lv_at hl 0 rfl) ?_
        refine va_get (D := D) (ci := 7) (v := .ref (a 35)) (C := RX7) (T := TX7) (N := 12) hx hb hts inX7 hown hK hP 0 rfl rfl 3 (by decide) (hts _ tw_308) (fun _ h9 => h9) rfl dX7_street_21 ?_
        refine lv_aload_n hx hb dX7_street_24 rfl (lv_at hl 0 rfl) ?_
        refine va_get (D := D) (ci := 7) (v := .ref (a 1)) (C := RX7) (T := TX7) (N := 12) hx hb hts inX7 hown hK hP 0 rfl rfl 0 (by decide) (hts _ tw_305) (fun _ h9 => h9) rfl dX7_street_25 ?_
        refine rw_v (D := D) (wr := [((a 0), .inr (7, (fX7 (a 1) (a 3) (a 19) (a 35) (a 40) (nI rk) lfa (a 53) (a 56) (a 63) (a 64) (a 68)))), ((a 3), .inl (k 3, 3, .inr (.inr (.inr (.inr (a3 (a 4) (a 9) (a 14))))))), ((a 19), .inl (k 4, 3, .inr (.inr (.inr (.inr (a3 (a 20) (a 25) (a 30))))))), ((a 4), .inr (5, (fX5 (a 5) (a 6) (a 7) (a 8)))), (aI k (a 5) 10 (vv n0 see0 tm0 g0)), (aI k (a 6) 24 ff0), (aI k (a 7) 24 fp0), (aI k (a 8) 4 fl0), ((a 9), .inr (5, (fX5 (a 10) (a 11) (a 12) (a 13)))), (aI k (a 10) 10 (vv n1 see1 tm1 g1)), (aI k (a 11) 24 ff1), (aI k (a 12) 24 fp1), (aI k (a 13) 4 fl1), ((a 14), .inr (5, (fX5 (a 15) (a 16) (a 17) (a 18)))), (aI k (a 15) 10 (vv n2 see2 tm2 g2)), (aI k (a 16) 24 ff2), (aI k (a 17) 24 fp2), (aI k (a 18) 4 fl2), ((a 20), .inr (0, (fX0 (a 4) (a 21) (a 22) (a 23) (a 24)))), (aI k (a 21) 768 on0), (aI k (a 22) 4 sr0), (aI k (a 23) 4 en0), (aI k (a 24) 8 fo0), ((a 25), .inr (0, (fX0 (a 9) (a 26) (a 27) (a 28) (a 29)))), (aI k (a 26) 768 on1), (aI k (a 27) 4 sr1), (aI k (a 28) 4 en1), (aI k (a 29) 8 fo1), ((a 30), .inr (0, (fX0 (a 14) (a 31) (a 32) (a 33) (a 34)))), (aI k (a 31) 768 on2), (aI k (a 32) 4 sr2), (aI k (a 33) 4 en2), (aI k (a 34) 8 fo2), (aI k (a 39) 4 flq)]) (va_runV (As := [.ref (a 1)]) (rest := []) ⟨hx, hb, hml, hown, hts⟩ ((y_Street_readFrom l D k st lo (a 35) (a 36) (a 37) (a 38) (a 39) nq seeq tmq gq ffq fpq (a 1) (a 2) tz 0 na__18 0 fb__18 fx (by first | assumption | omega) (by first | assumption | omega) rfl) H.size) (cwV 1 hts (gV tw_358 tw_359 tw_360 tw_81 tw_361) rfl rfl rfl (by decide +kernel) ⟨Nat.le_of_ble_eq_true rfl, Nat.le_of_ble_eq_true rfl⟩) (pV hS hAlo hlo hP hK (va_Dlo hD hAlo) hZ [33, 34, 35, 36, 38, 39] (by decide) rfl (ci := 5) (q := (RX5, TX5, 4)) (q0 := 0) rfl rfl) rfl rfl hl.1 rfl (lv_room (Nat.le_of_ble_eq_true rfl)) dX7_street_28 ⟨Nat.le_of_ble_eq_true rfl, Nat.le_of_ble_eq_true rfl⟩) hS hA hP hD [33, 34, 35, 36, 38, 39] [0, 1, 2, 3, 4, 5, 6, 7, 8, 9, 10, 11, 12, 13, 14, 15, 16, 17, 18, 19, 20, 21, 22, 23, 24, 25, 26, 27, 28, 29, 30, 31, 32, 37] rfl rfl (by decide +kernel) (by decide +kernel) (fun u H locs hw_19 hP hD hS => ?_)
        obtain ⟨n__19, see__19, tm__19, g__19, ff__19, fp__19, ta__19, na__19, fn__19, fb__19⟩ := u
        have hQ9 := pd_mk [((a 0), .inr (7, (fX7 (a 1) (a 3) (a 19) (a 35) (a 40) (nI rk) lfa (a 53) (a 56) (a 63) (a 64) (a 68)))), ((a 3), .inl (k 3, 3, .inr (.inr (.inr (.inr (a3 (a 4) (a 9) (a 14))))))), ((a 19), .inl (k 4, 3, .inr (.inr (.inr (.inr (a3 (a 20) (a 25) (a 30))))))), ((a 4), .inr (5, (fX5 (a 5) (a 6) (a 7) (a 8)))), (aI k (a 5) 10 (vv n0 see0 tm0 g0)), (aI k (a 6) 24 ff0), (aI k (a 7) 24 fp0), (aI k (a 8) 4 fl0), ((a 9), .inr (5, (fX5 (a 10) (a 11) (a 12) (a 13)))), (aI k (a 10) 10 (vv n1 see1 tm1 g1)), (aI k (a 11) 24 ff1), (aI k (a 12) 24 fp1), (aI k (a 13) 4 fl1), ((a 14), .inr (5, (fX5 (a 15) (a 16) (a 17) (a 18)))), (aI k (a 15) 10 (vv n2 see2 tm2 g2)), (aI k (a 16) 24 ff2), (aI k (a 17) 24 fp2), (aI k (a 18) 4 fl2), ((a 20), .inr (0, (fX0 (a 4) (a 21) (a 22) (a 23) (a 24)))), (aI k (a 21) 768 on0), (aI k (a 22) 4 sr0), (aI k (a 23) 4 en0), (aI k (a 24) 8 fo0), ((a 25), .inr (0, (fX0 (a 9) (a 26) (a 27) (a 28) (a 29)))), (aI k (a 26) 768 on1), (aI k (a 27) 4 sr1), (aI k (a 28) 4 en1), (aI k (a 29) 8 fo1), ((a 30), .inr (0, (fX0 (a 14) (a 31) (a 32) (a 33) (a 34)))), (aI k (a 31) 768 on2), (aI k (a 32) 4 sr2), (aI k (a 33) 4 en2), (aI k (a 34) 8 fo2), (aI k (a 39) 4 flq), ((a 35), .inr (5, (fX5 (a 36) (a 37) (a 38) (a 39)))), (aI k (a 36) 10 (vv n__19 see__19 tm__19 g__19)), (aI k (a 37) 24 ff__19), (aI k (a 38) 24 fp__19), ((a 1), .inr (6, (fX6 (a 2) (nI tz) (nI ta__19) na__19 fn__19 fb__19))), (aB k (a 2) 240 fx)] hP hD
        clear hP hD
        obtain ⟨hP, hD⟩ := hQ9
        try dsimp only at hw_19
        rcases hw_19 with ⟨⟨rfl, ms_20, hrf_20, hnn_20⟩ | ⟨e_20, pl_20, rfl, he1_20, he2_20, hp1_20, hp2_20, rfl⟩, hw_19⟩
        · refine lv_aload_n hx hb dX7_street_31 rfl (lv_at hl 0 rfl) ?_
          refine rw_i (D := D) (wr := [((a 3), .inl (k 3, 3, .inr (.inr (.inr (.inr (a3 (a 4) (a 9) (a 14))))))), ((a 19), .inl (k 4, 3, .inr (.inr (.inr (.inr (a3 (a 20) (a 25) (a 30))))))), ((a 4), .inr (5, (fX5 (a 5) (a 6) (a 7) (a 8)))), (aI k (a 5) 10 (vv n0 see0 tm0 g0)), (aI k (a 6) 24 ff0), (aI k (a 7) 24 fp0), (aI k (a 8) 4 fl0), ((a 9), .inr (5, (fX5 (a 10) (a 11) (a 12) (a 13)))), (aI k (a 10) 10 (vv n1 see1 tm1 g1)), (aI k (a 11) 24 ff1), (aI k (a 12) 24 fp1), (aI k (a 13) 4 fl1), ((a 14), .inr (5, (fX5 (a 15) (a 16) (a 17) (a 18)))), (aI k (a 15) 10 (vv n2 see2 tm2 g2)), (aI k (a 16) 24 ff2), (aI k (a 17) 24 fp2), (aI k (a 18) 4 fl2), ((a 20), .inr (0, (fX0 (a 4) (a 21) (a 22) (a 23) (a 24)))), (aI k (a 21) 768 on0), (aI k (a 22) 4 sr0), (aI k (a 23) 4 en0), (aI k (a 24) 8 fo0), ((a 25), .inr (0, (fX0 (a 9) (a 26) (a 27) (a 28) (a 29)))), (aI k (a 26) 768 on1), (aI k (a 27) 4 sr1), (aI k (a 28) 4 en1), (aI k (a 29) 8 fo1), ((a 30), .inr (0, (fX0 (a 14) (a 31) (a 32) (a 33) (a 34)))), (aI k (a 31) 768 on2), (aI k (a 32) 4 sr2), (aI k (a 33) 4 en2), (aI k (a 34) 8 fo2), (aI k (a 39) 4 flq), ((a 35), .inr (5, (fX5 (a 36) (a 37) (a 38) (a 39)))), (aI k (a 36) 10 (vv n__19 see__19 tm__19 g__19)), (aI k (a 37) 24 ff__19), (aI k (a 38) 24 fp__19), (aB k (a 2) 240 fx)]) (va_runV (As := []) (rest := []) ⟨hx, hb, hml, hown, hts⟩ ((y_closeText l D k st lo a rk lfa tz (nI ta__19) na__19 0 fb__19) H.size) (cwV 0 hts (gV tw_496 tw_498 tw_2 tw_79 tw_499) rfl rfl rfl (by decide +kernel) ⟨Nat.le_of_ble_eq_true rfl, Nat.le_of_ble_eq_true rfl⟩) (pV hS hAlo hlo hP hK (va_Dlo hD hAlo) hZ [0, 38] (by decide) rfl (ci := 7) (q := (RX7, TX7, 12)) (q0 := 0) rfl rfl) rfl rfl hl.1 rfl (lv_room (Nat.le_of_ble_eq_true rfl)) dX7_street_32 ⟨Nat.le_of_ble_eq_true rfl, Nat.le_of_ble_eq_true rfl⟩) hS hA hP hD [0, 38] [1, 2, 3, 4, 5, 6, 7, 8, 9, 10, 11, 12, 13, 14, 15, 16, 17, 18, 19, 20, 21, 22, 23, 24, 25, 26, 27, 28, 29, 30, 31, 32, 33, 34, 35, 36, 37, 39] rfl rfl (by decide +kernel) (by decide +kernel) (fun r_21 u H locs hw_21 hP hD hS => ?_)
          obtain ⟨lfa__21, tz__21⟩ := u
          have hQ9 := pd_mk [((a 3), .inl (k 3, 3, .inr (.inr (.inr (.inr (a3 (a 4) (a 9) (a 14))))))), ((a 19), .inl (k 4, 3, .inr (.inr (.inr (.inr (a3 (a 20) (a 25) (a 30))))))), ((a 4), .inr (5, (fX5 (a 5) (a 6) (a 7) (a 8)))), (aI k (a 5) 10 (vv n0 see0 tm0 g0)), (aI k (a 6) 24 ff0), (aI k (a 7) 24 fp0), (aI k (a 8) 4 fl0), ((a 9), .inr (5, (fX5 (a 10) (a 11) (a 12) (a 13)))), (aI k (a 10) 10 (vv n1 see1 tm1 g1)), (aI k (a 11) 24 ff1), (aI k (a 12) 24 fp1), (aI k (a 13) 4 fl1), ((a 14), .inr (5, (fX5 (a 15) (a 16) (a 17) (a 18)))), (aI k (a 15) 10 (vv n2 see2 tm2 g2)), (aI k (a 16) 24 ff2), (aI k (a 17) 24 fp2), (aI k (a 18) 4 fl2), ((a 20), .inr (0, (fX0 (a 4) (a 21) (a 22) (a 23) (a 24)))), (aI k (a 21) 768 on0), (aI k (a 22) 4 sr0), (aI k (a 23) 4 en0), (aI k (a 24) 8 fo0), ((a 25), .inr (0, (fX0 (a 9) (a 26) (a 27) (a 28) (a 29)))), (aI k (a 26) 768 on1), (aI k (a 27) 4 sr1), (aI k (a 28) 4 en1), (aI k (a 29) 8 fo1), ((a 30), .inr (0, (fX0 (a 14) (a 31) (a 32) (a 33) (a 34)))), (aI k (a 31) 768 on2), (aI k (a 32) 4 sr2), (aI k (a 33) 4 en2), (aI k (a 34) 8 fo2), (aI k (a 39) 4 flq), ((a 35), .inr (5, (fX5 (a 36) (a 37) (a 38) (a 39)))), (aI k (a 36) 10 (vv n__19 see__19 tm__19 g__19)), (aI k (a 37) 24 ff__19), (aI k (a 38) 24 fp__19), (aB k (a 2) 240 fx), ((a 0), .inr (7, (fX7 (a 1) (a 3) (a 19) (a 35) (a 40) (nI rk) lfa__21 (a 53) (a 56) (a 63) (a 64) (a 68)))), ((a 1), .inr (6, (fX6 (a 2) (nI tz__21) (nI ta__19) na__19 0 fb__19)))] hP hD
          clear hP hD
          obtain ⟨hP, hD⟩ := hQ9
          try dsimp only at hw_21
          have hcl_22 := hw_21.2.1 rfl
          obtain ⟨hs0_23, hs1_23, hs2_23⟩ := (⟨hw_21.1, hcl_22.1, hcl_22.2⟩ : _ ∧ _ ∧ _)
          replace hs0_23 := hs0_23.symm
          subst hs0_23
          replace hs1_23 := hs1_23.symm
          subst hs1_23
          replace hs2_23 := hs2_23.symm
          subst hs2_23
          refine lv_istore_n (lv' := [(2, .int 0), (0, .ref (a 0)), (1, .int 1)]) hx hb dX7_street_35 rfl hl (by decide) rfl (fun ls hl => ?_)
          refine lv_iload_n hx hb dX7_street_36 rfl (lv_at hl 0 rfl) ?_
          refine lv_if_ge (tgt := 42) hx hb dX7_street_37 (by decide) (fun _ => ?_) (fun h => absurd (by decide) h)
          refine lv_aload_n hx hb dX7_street_42 rfl (lv_at hl 1 rfl) ?_
          refine va_get (D := D) (ci := 7) (v := .ref (a 3)) (C := RX7) (T := TX7) (N := 12) hx hb hts inX7 hown hK hP 38 rfl rfl 1 (by decide) (hts _ tw_306) (fun _ h9 => h9) rfl dX7_street_43 ?_
          refine lv_iload_n hx hb dX7_street_46 rfl (lv_at hl 2 rfl) ?_
          refine va_aldq hx hb hK hP 0 3 rfl rfl (by unfold vp_in; decide) dX7_street_47 ?_
          refine lv_tr (y := .ref (a 9)) rfl ?_
          refine lv_aload_n hx hb dX7_street_48 rfl (lv_at hl 1 rfl) ?_
          refine va_get (D := D) (ci := 7) (v := .ref (a 35)) (C := RX7) (T := TX7) (N := 12) hx hb hts inX7 hown hK hP 38 rfl rfl 3 (by decide) (hts _ tw_308) (fun _ h9 => h9) rfl dX7_street_49 ?_
          refine rw_v (D := D) (wr := [((a 3), .inl (k 3, 3, .inr (.inr (.inr (.inr (a3 (a 4) (a 9) (a 14))))))), ((a 19), .inl (k 4, 3, .inr (.inr (.inr (.inr (a3 (a 20) (a 25) (a 30))))))), ((a 4), .inr (5, (fX5 (a 5) (a 6) (a 7) (a 8)))), (aI k (a 5) 10 (vv n0 see0 tm0 g0)), (aI k (a 6) 24 ff0), (aI k (a 7) 24 fp0), (aI k (a 8) 4 fl0), ((a 14), .inr (5, (fX5 (a 15) (a 16) (a 17) (a 18)))), (aI k (a 15) 10 (vv n2 see2 tm2 g2)), (aI k (a 16) 24 ff2), (aI k (a 17) 24 fp2), (aI k (a 18) 4 fl2), ((a 20), .inr (0, (fX0 (a 4) (a 21) (a 22) (a 23) (a 24)))), (aI k (a 21) 768 on0), (aI k (a 22) 4 sr0), (aI k (a 23) 4 en0), (aI k (a 24) 8 fo0), ((a 25), .inr (0, (fX0 (a 9) (a 26) (a 27) (a 28) (a 29)))), (aI k (a 26) 768 on1), (aI k (a 27) 4 sr1), (aI k (a 28) 4 en1), (aI k (a 29) 8 fo1), ((a 30), .inr (0, (fX0 (a 14) (a 31) (a 32) (a 33) (a 34)))), (aI k (a 31) 768 on2), (aI k (a 32) 4 sr2), (aI k (a 33) 4 en2), (aI k (a 34) 8 fo2), (aB k (a 2) 240 fx), ((a 0), .inr (7, (fX7 (a 1) (a 3) (a 19) (a 35) (a 40) (nI rk) (-1) (a 53) (a 56) (a 63) (a 64) (a 68)))), ((a 1), .inr (6, (fX6 (a 2) 0 (nI ta__19) na__19 0 fb__19)))]) (va_runV (As := [.ref (a 35)]) (rest := []) ⟨hx, hb, hml, hown, hts⟩ ((y_become2 l D k st lo (a 9) (a 10) (a 11) (a 12) (a 13) n1 see1 tm1 g1 ff1 fp1 fl1 (a 35) (a 36) (a 37) (a 38) (a 39) n__19 see__19 tm__19 g__19 ff__19 fp__19 flq (by first | assumption | omega)) H.size) (cwV 1 hts (gV tw_501 tw_502 tw_503 tw_81 tw_504) rfl rfl rfl (by decide +kernel) ⟨Nat.le_of_ble_eq_true rfl, Nat.le_of_ble_eq_true rfl⟩) (pV hS hAlo hlo hP hK (va_Dlo hD hAlo) hZ [7, 8, 9, 10, 11, 33, 34, 35, 36, 32] (by decide +kernel) rfl (ci := 5) (q := (RX5, TX5, 4)) (q0 := 0) rfl rfl) rfl rfl hl.1 rfl (lv_room (Nat.le_of_ble_eq_true rfl)) dX7_street_52 ⟨Nat.le_of_ble_eq_true rfl, Nat.le_of_ble_eq_true rfl⟩) hS hA hP hD [7, 8, 9, 10, 11, 33, 34, 35, 36, 32] [0, 1, 2, 3, 4, 5, 6, 12, 13, 14, 15, 16, 17, 18, 19, 20, 21, 22, 23, 24, 25, 26, 27, 28, 29, 30, 31, 37, 38, 39] rfl rfl (by decide +kernel) (by decide +kernel) (fun u H locs hw_24 hP hD hS => ?_)
          obtain ⟨n__24, see__24, tm__24, g__24, ff__24, fp__24, fl__24⟩ := u
          have hQ9 := pd_mk [((a 3), .inl (k 3, 3, .inr (.inr (.inr (.inr (a3 (a 4) (a 9) (a 14))))))), ((a 19), .inl (k 4, 3, .inr (.inr (.inr (.inr (a3 (a 20) (a 25) (a 30))))))), ((a 4), .inr (5, (fX5 (a 5) (a 6) (a 7) (a 8)))), (aI k (a 5) 10 (vv n0 see0 tm0 g0)), (aI k (a 6) 24 ff0), (aI k (a 7) 24 fp0), (aI k (a 8) 4 fl0), ((a 14), .inr (5, (fX5 (a 15) (a 16) (a 17) (a 18)))), (aI k (a 15) 10 (vv n2 see2 tm2 g2)), (aI k (a 16) 24 ff2), (aI k (a 17) 24 fp2), (aI k (a 18) 4 fl2), ((a 20), .inr (0, (fX0 (a 4) (a 21) (a 22) (a 23) (a 24)))), (aI k (a 21) 768 on0), (aI k (a 22) 4 sr0), (aI k (a 23) 4 en0), (aI k (a 24) 8 fo0), ((a 25), .inr (0, (fX0 (a 9) (a 26) (a 27) (a 28) (a 29)))), (aI k (a 26) 768 on1), (aI k (a 27) 4 sr1), (aI k (a 28) 4 en1), (aI k (a 29) 8 fo1), ((a 30), .inr (0, (fX0 (a 14) (a 31) (a 32) (a 33) (a 34)))), (aI k (a 31) 768 on2), (aI k (a 32) 4 sr2), (aI k (a 33) 4 en2), (aI k (a 34) 8 fo2), (aB k (a 2) 240 fx), ((a 0), .inr (7, (fX7 (a 1) (a 3) (a 19) (a 35) (a 40) (nI rk) (-1) (a 53) (a 56) (a 63) (a 64) (a 68)))), ((a 1), .inr (6, (fX6 (a 2) 0 (nI ta__19) na__19 0 fb__19))), ((a 9), .inr (5, (fX5 (a 10) (a 11) (a 12) (a 13)))), (aI k (a 10) 10 (vv n__24 see__24 tm__24 g__24)), (aI k (a 11) 24 ff__24), (aI k (a 12) 24 fp__24), (aI k (a 13) 4 fl__24), ((a 35), .inr (5, (fX5 (a 36) (a 37) (a 38) (a 39)))), (aI k (a 36) 10 (vv n__19 see__19 tm__19 g__19)), (aI k (a 37) 24 ff__19), (aI k (a 38) 24 fp__19), (aI k (a 39) 4 flq)] hP hD
          clear hP hD
          obtain ⟨hP, hD⟩ := hQ9
          try dsimp only at hw_24
          have hsd_25 := hw_24.2.2.2.1
          have hla_25 := hw_24.2.2.2.2
          obtain ⟨hs0_26, hs1_26, hs2_26⟩ := (⟨hw_24.1, hw_24.2.1, hw_24.2.2.1⟩ : _ ∧ _ ∧ _)
          replace hs0_26 := hs0_26.symm
          subst hs0_26
          replace hs1_26 := hs1_26.symm
          subst hs1_26
          replace hs2_26 := hs2_26.symm
          subst hs2_26
          refine lv_aload_n hx hb dX7_street_55 rfl (lv_at hl 1 rfl) ?_
          refine va_get (D := D) (ci := 7) (v := .ref (a 19)) (C := RX7) (T := TX7) (N := 12) hx hb hts inX7 hown hK hP 28 rfl rfl 2 (by decide) (hts _ tw_307) (fun _ h9 => h9) rfl dX7_street_56 ?_
          refine lv_iload_n hx hb dX7_street_59 rfl (lv_at hl 2 rfl) ?_
          refine va_aldq hx hb hK hP 1 4 rfl rfl (by unfold vp_in; decide) dX7_street_60 ?_
          refine lv_tr (y := .ref (a 25)) rfl ?_
          refine rw_v (D := D) (wr := [((a 3), .inl (k 3, 3, .inr (.inr (.inr (.inr (a3 (a 4) (a 9) (a 14))))))), ((a 19), .inl (k 4, 3, .inr (.inr (.inr (.inr (a3 (a 20) (a 25) (a 30))))))), ((a 4), .inr (5, (fX5 (a 5) (a 6) (a 7) (a 8)))), (aI k (a 5) 10 (vv n0 see0 tm0 g0)), (aI k (a 6) 24 ff0), (aI k (a 7) 24 fp0), (aI k (a 8) 4 fl0), ((a 14), .inr (5, (fX5 (a 15) (a 16) (a 17) (a 18)))), (aI k (a 15) 10 (vv n2 see2 tm2 g2)), (aI k (a 16) 24 ff2), (aI k (a 17) 24 fp2), (aI k (a 18) 4 fl2), ((a 20), .inr (0, (fX0 (a 4) (a 21) (a 22) (a 23) (a 24)))), (aI k (a 21) 768 on0), (aI k (a 22) 4 sr0), (aI k (a 23) 4 en0), (aI k (a 24) 8 fo0), ((a 30), .inr (0, (fX0 (a 14) (a 31) (a 32) (a 33) (a 34)))), (aI k (a 31) 768 on2), (aI k (a 32) 4 sr2), (aI k (a 33) 4 en2), (aI k (a 34) 8 fo2), (aB k (a 2) 240 fx), ((a 0), .inr (7, (fX7 (a 1) (a 3) (a 19) (a 35) (a 40) (nI rk) (-1) (a 53) (a 56) (a 63) (a 64) (a 68)))), ((a 1), .inr (6, (fX6 (a 2) 0 (nI ta__19) na__19 0 fb__19))), ((a 35), .inr (5, (fX5 (a 36) (a 37) (a 38) (a 39)))), (aI k (a 36) 10 (vv n__19 see__19 tm__19 g__19)), (aI k (a 37) 24 ff__19), (aI k (a 38) 24 fp__19), (aI k (a 39) 4 flq)]) (va_runV (As := []) (rest := []) ⟨hx, hb, hml, hown, hts⟩ ((y_reckon l D k st lo (a 9) (a 10) (a 11) (a 12) (a 13) n__19 see__19 tm__19 g__24 ff__24 fp__24 fl__24 (a 25) (a 26) (a 27) (a 28) (a 29) on1 sr1 en1 fo1 (by first | assumption | omega) (by first | assumption | omega) (by first | assumption | omega) (fun r hr => (hla_25 r hr).trans (congrArg (fun z => pLate z r) hsd_25.symm)) (by rw [hsd_25]; exact okS_F hrf_20) (by first | assumption | omega)) H.size) (cwV 0 hts (gV tw_512 tw_513 tw_514 tw_85 tw_515) rfl rfl rfl (by decide +kernel) ⟨Nat.le_of_ble_eq_true rfl, Nat.le_of_ble_eq_true rfl⟩) (pV hS hAlo hlo hP hK (va_Dlo hD hAlo) hZ [30, 31, 32, 33, 34, 17, 18, 19, 20, 21] (by decide +kernel) rfl (ci := 0) (q := (RX0, TX0, 5)) (q0 := 5) rfl rfl) rfl rfl hl.1 rfl (lv_room (Nat.le_of_ble_eq_true rfl)) dX7_street_61 ⟨Nat.le_of_ble_eq_true rfl, Nat.le_of_ble_eq_true rfl⟩) hS hA hP hD [30, 31, 32, 33, 34, 17, 18, 19, 20, 21] [0, 1, 2, 3, 4, 5, 6, 7, 8, 9, 10, 11, 12, 13, 14, 15, 16, 22, 23, 24, 25, 26, 27, 28, 29, 35, 36, 37, 38, 39] rfl rfl (by decide +kernel) (by decide +kernel) (fun u H locs hw_27 hP hD hS => ?_)
          obtain ⟨on__27, sr__27, en__27, fo__27⟩ := u
          have hQ9 := pd_mk [((a 3), .inl (k 3, 3, .inr (.inr (.inr (.inr (a3 (a 4) (a 9) (a 14))))))), ((a 19), .inl (k 4, 3, .inr (.inr (.inr (.inr (a3 (a 20) (a 25) (a 30))))))), ((a 4), .inr (5, (fX5 (a 5) (a 6) (a 7) (a 8)))), (aI k (a 5) 10 (vv n0 see0 tm0 g0)), (aI k (a 6) 24 ff0), (aI k (a 7) 24 fp0), (aI k (a 8) 4 fl0), ((a 14), .inr (5, (fX5 (a 15) (a 16) (a 17) (a 18)))), (aI k (a 15) 10 (vv n2 see2 tm2 g2)), (aI k (a 16) 24 ff2), (aI k (a 17) 24 fp2), (aI k (a 18) 4 fl2), ((a 20), .inr (0, (fX0 (a 4) (a 21) (a 22) (a 23) (a 24)))), (aI k (a 21) 768 on0), (aI k (a 22) 4 sr0), (aI k (a 23) 4 en0), (aI k (a 24) 8 fo0), ((a 30), .inr (0, (fX0 (a 14) (a 31) (a 32) (a 33) (a 34)))), (aI k (a 31) 768 on2), (aI k (a 32) 4 sr2), (aI k (a 33) 4 en2), (aI k (a 34) 8 fo2), (aB k (a 2) 240 fx), ((a 0), .inr (7, (fX7 (a 1) (a 3) (a 19) (a 35) (a 40) (nI rk) (-1) (a 53) (a 56) (a 63) (a 64) (a 68)))), ((a 1), .inr (6, (fX6 (a 2) 0 (nI ta__19) na__19 0 fb__19))), ((a 35), .inr (5, (fX5 (a 36) (a 37) (a 38) (a 39)))), (aI k (a 36) 10 (vv n__19 see__19 tm__19 g__19)), (aI k (a 37) 24 ff__19), (aI k (a 38) 24 fp__19), (aI k (a 39) 4 flq), ((a 9), .inr (5, (fX5 (a 10) (a 11) (a 12) (a 13)))), (aI k (a 10) 10 (vv n__19 see__19 tm__19 g__24)), (aI k (a 11) 24 ff__24), (aI k (a 12) 24 fp__24), (aI k (a 13) 4 fl__24), ((a 25), .inr (0, (fX0 (a 9) (a 26) (a 27) (a 28) (a 29)))), (aI k (a 26) 768 on__27), (aI k (a 27) 4 sr__27), (aI k (a 28) 4 en__27), (aI k (a 29) 8 fo__27)] hP hD
          clear hP hD
          obtain ⟨hP, hD⟩ := hQ9
          try dsimp only at hw_27
          refine lv_aload_n hx hb dX7_street_64 rfl (lv_at hl 1 rfl) ?_
          refine va_get (D := D) (ci := 7) (v := .ref (a 3)) (C := RX7) (T := TX7) (N := 12) hx hb hts inX7 hown hK hP 23 rfl rfl 1 (by decide) (hts _ tw_306) (fun _ h9 => h9) rfl dX7_street_65 ?_
          refine lv_iload_n hx hb dX7_street_68 rfl (lv_at hl 2 rfl) ?_
          refine va_aldq hx hb hK hP 0 3 rfl rfl (by unfold vp_in; decide) dX7_street_69 ?_
          refine lv_tr (y := .ref (a 9)) rfl ?_
          refine ro_i (D := D) (va_runV (As := []) (rest := []) ⟨hx, hb, hml, hown, hts⟩ ((x_doors l D k st lo (a 9) (a 10) (a 11) (a 12) (a 13) n__19 see__19 tm__19 g__24) H.size) (cwV 0 hts (gV tw_580 tw_478 tw_479 tw_81 tw_480) rfl rfl rfl (by decide +kernel) ⟨Nat.le_of_ble_eq_true rfl, Nat.le_of_ble_eq_true rfl⟩) (pV hS hAlo hlo hP hK (va_Dlo hD hAlo) hZ [30, 31] (by decide) rfl (ci := 5) (q := (RX5, TX5, 4)) (q0 := 0) rfl rfl) rfl rfl hl.1 rfl (lv_room (Nat.le_of_ble_eq_true rfl)) dX7_street_70 ⟨Nat.le_of_ble_eq_true rfl, Nat.le_of_ble_eq_true rfl⟩) hS hA hP (fun r_28 H locs hw_28 hP hS => ?_)
          try dsimp only at hw_28
          subst hw_28
          obtain ⟨hP9, hD9⟩ := pd_sub [((a 0), .inr (7, (fX7 (a 1) (a 3) (a 19) (a 35) (a 40) (nI rk) (-1) (a 53) (a 56) (a 63) (a 64) (a 68)))), ((a 1), .inr (6, (fX6 (a 2) 0 (nI ta__19) na__19 0 fb__19))), (aB k (a 2) 240 fx), ((a 3), .inl (k 3, 3, .inr (.inr (.inr (.inr (a3 (a 4) (a 9) (a 14))))))), ((a 19), .inl (k 4, 3, .inr (.inr (.inr (.inr (a3 (a 20) (a 25) (a 30))))))), ((a 4), .inr (5, (fX5 (a 5) (a 6) (a 7) (a 8)))), (aI k (a 5) 10 (vv n0 see0 tm0 g0)), (aI k (a 6) 24 ff0), (aI k (a 7) 24 fp0), (aI k (a 8) 4 fl0), ((a 9), .inr (5, (fX5 (a 10) (a 11) (a 12) (a 13)))), (aI k (a 10) 10 (vv n__19 see__19 tm__19 g__24)), (aI k (a 11) 24 ff__24), (aI k (a 12) 24 fp__24), (aI k (a 13) 4 fl__24), ((a 14), .inr (5, (fX5 (a 15) (a 16) (a 17) (a 18)))), (aI k (a 15) 10 (vv n2 see2 tm2 g2)), (aI k (a 16) 24 ff2), (aI k (a 17) 24 fp2), (aI k (a 18) 4 fl2), ((a 20), .inr (0, (fX0 (a 4) (a 21) (a 22) (a 23) (a 24)))), (aI k (a 21) 768 on0), (aI k (a 22) 4 sr0), (aI k (a 23) 4 en0), (aI k (a 24) 8 fo0), ((a 25), .inr (0, (fX0 (a 9) (a 26) (a 27) (a 28) (a 29)))), (aI k (a 26) 768 on__27), (aI k (a 27) 4 sr__27), (aI k (a 28) 4 en__27), (aI k (a 29) 8 fo__27), ((a 30), .inr (0, (fX0 (a 14) (a 31) (a 32) (a 33) (a 34)))), (aI k (a 31) 768 on2), (aI k (a 32) 4 sr2), (aI k (a 33) 4 en2), (aI k (a 34) 8 fo2), ((a 35), .inr (5, (fX5 (a 36) (a 37) (a 38) (a 39)))), (aI k (a 36) 10 (vv n__19 see__19 tm__19 g__19)), (aI k (a 37) 24 ff__19), (aI k (a 38) 24 fp__19), (aI k (a 39) 4 flq)] [23, 24, 22, 0, 1, 2, 3, 4, 5, 6, 30, 31, 32, 33, 34, 7, 8, 9, 10, 11, 12, 13, 14, 15, 16, 35, 36, 37, 38, 39, 17, 18, 19, 20, 21, 25, 26, 27, 28, 29] hP hD (by decide +kernel) rfl
          exact W.iret (v := (nI n__19)) hx hb hr (fun t ht hW => ⟨⟨(nI n__19), ((-1), 0, (nI ta__19), na__19, 0, fb__19, n__19, see__19, tm__19, g__19, ff__19, fp__19, n0, see0, tm0, g0, ff0, fp0, fl0, on0, sr0, en0, fo0, n__19, see__19, tm__19, g__24, ff__24, fp__24, fl__24, on__27, sr__27, en__27, fo__27, n2, see2, tm2, g2, ff2, fp2, fl2, on2, sr2, en2, fo2), rfl, ⟨⟨(fun h => absurd (by exact ⟨by decide, by decide⟩) h), fun _ => ⟨rfl, .inr ⟨1, _, by omega, rfl, hrf_20, rfl, rfl, hsd_25.trans rfl, (fun q hq hn => by rcases (show q = 0 ∨ q = 1 ∨ q = 2 by omega) with rfl | rfl | rfl <;> first | rfl | exact absurd rfl hn)⟩⟩⟩, fun h i hi r hr => by rcases (show i = 0 ∨ i = 1 ∨ i = 2 by omega) with rfl | rfl | rfl; exact h 0 (by omega) r hr; exact (hla_25 r hr).trans (congrArg (fun z => pLate z r) hsd_25.symm); exact h 2 (by omega) r hr, fun h i hi hn => by rcases (show i = 0 ∨ i = 1 ∨ i = 2 by omega) with rfl | rfl | rfl; exact h 0 (by omega) hn; exact wy_of (by omega) (by omega) hw_27; exact h 2 (by omega) hn, by omega, by omega, by omega, by omega, by omega, by omega, by omega, by omega, by omega, by omega⟩, by rw [ht]; exact hP9, hD9⟩, hS.F ht⟩) hS.2.2 dX7_street_73
        · refine lv_aload_n hx hb dX7_street_31 rfl (lv_at hl 0 rfl) ?_
          refine rw_i (D := D) (wr := [((a 3), .inl (k 3, 3, .inr (.inr (.inr (.inr (a3 (a 4) (a 9) (a 14))))))), ((a 19), .inl (k 4, 3, .inr (.inr (.inr (.inr (a3 (a 20) (a 25) (a 30))))))), ((a 4), .inr (5, (fX5 (a 5) (a 6) (a 7) (a 8)))), (aI k (a 5) 10 (vv n0 see0 tm0 g0)), (aI k (a 6) 24 ff0), (aI k (a 7) 24 fp0), (aI k (a 8) 4 fl0), ((a 9), .inr (5, (fX5 (a 10) (a 11) (a 12) (a 13)))), (aI k (a 10) 10 (vv n1 see1 tm1 g1)), (aI k (a 11) 24 ff1), (aI k (a 12) 24 fp1), (aI k (a 13) 4 fl1), ((a 14), .inr (5, (fX5 (a 15) (a 16) (a 17) (a 18)))), (aI k (a 15) 10 (vv n2 see2 tm2 g2)), (aI k (a 16) 24 ff2), (aI k (a 17) 24 fp2), (aI k (a 18) 4 fl2), ((a 20), .inr (0, (fX0 (a 4) (a 21) (a 22) (a 23) (a 24)))), (aI k (a 21) 768 on0), (aI k (a 22) 4 sr0), (aI k (a 23) 4 en0), (aI k (a 24) 8 fo0), ((a 25), .inr (0, (fX0 (a 9) (a 26) (a 27) (a 28) (a 29)))), (aI k (a 26) 768 on1), (aI k (a 27) 4 sr1), (aI k (a 28) 4 en1), (aI k (a 29) 8 fo1), ((a 30), .inr (0, (fX0 (a 14) (a 31) (a 32) (a 33) (a 34)))), (aI k (a 31) 768 on2), (aI k (a 32) 4 sr2), (aI k (a 33) 4 en2), (aI k (a 34) 8 fo2), (aI k (a 39) 4 flq), ((a 35), .inr (5, (fX5 (a 36) (a 37) (a 38) (a 39)))), (aI k (a 36) 10 (vv n__19 see__19 tm__19 g__19)), (aI k (a 37) 24 ff__19), (aI k (a 38) 24 fp__19), (aB k (a 2) 240 fx)]) (va_runV (As := []) (rest := []) ⟨hx, hb, hml, hown, hts⟩ ((y_closeText l D k st lo a rk lfa tz (nI ta__19) na__19 (nI e_20) (nI pl_20)) H.size) (cwV 0 hts (gV tw_496 tw_498 tw_2 tw_79 tw_499) rfl rfl rfl (by decide +kernel) ⟨Nat.le_of_ble_eq_true rfl, Nat.le_of_ble_eq_true rfl⟩) (pV hS hAlo hlo hP hK (va_Dlo hD hAlo) hZ [0, 38] (by decide) rfl (ci := 7) (q := (RX7, TX7, 12)) (q0 := 0) rfl rfl) rfl rfl hl.1 rfl (lv_room (Nat.le_of_ble_eq_true rfl)) dX7_street_32 ⟨Nat.le_of_ble_eq_true rfl, Nat.le_of_ble_eq_true rfl⟩) hS hA hP hD [0, 38] [1, 2, 3, 4, 5, 6, 7, 8, 9, 10, 11, 12, 13, 14, 15, 16, 17, 18, 19, 20, 21, 22, 23, 24, 25, 26, 27, 28, 29, 30, 31, 32, 33, 34, 35, 36, 37, 39] rfl rfl (by decide +kernel) (by decide +kernel) (fun r_29 u H locs hw_29 hP hD hS => ?_)
          obtain ⟨lfa__29, tz__29⟩ := u
          have hQ9 := pd_mk [((a 3), .inl (k 3, 3, .inr (.inr (.inr (.inr (a3 (a 4) (a 9) (a 14))))))), ((a 19), .inl (k 4, 3, .inr (.inr (.inr (.inr (a3 (a 20) (a 25) (a 30))))))), ((a 4), .inr (5, (fX5 (a 5) (a 6) (a 7) (a 8)))), (aI k (a 5) 10 (vv n0 see0 tm0 g0)), (aI k (a 6) 24 ff0), (aI k (a 7) 24 fp0), (aI k (a 8) 4 fl0), ((a 9), .inr (5, (fX5 (a 10) (a 11) (a 12) (a 13)))), (aI k (a 10) 10 (vv n1 see1 tm1 g1)), (aI k (a 11) 24 ff1), (aI k (a 12) 24 fp1), (aI k (a 13) 4 fl1), ((a 14), .inr (5, (fX5 (a 15) (a 16) (a 17) (a 18)))), (aI k (a 15) 10 (vv n2 see2 tm2 g2)), (aI k (a 16) 24 ff2), (aI k (a 17) 24 fp2), (aI k (a 18) 4 fl2), ((a 20), .inr (0, (fX0 (a 4) (a 21) (a 22) (a 23) (a 24)))), (aI k (a 21) 768 on0), (aI k (a 22) 4 sr0), (aI k (a 23) 4 en0), (aI k (a 24) 8 fo0), ((a 25), .inr (0, (fX0 (a 9) (a 26) (a 27) (a 28) (a 29)))), (aI k (a 26) 768 on1), (aI k (a 27) 4 sr1), (aI k (a 28) 4 en1), (aI k (a 29) 8 fo1), ((a 30), .inr (0, (fX0 (a 14) (a 31) (a 32) (a 33) (a 34)))), (aI k (a 31) 768 on2), (aI k (a 32) 4 sr2), (aI k (a 33) 4 en2), (aI k (a 34) 8 fo2), (aI k (a 39) 4 flq), ((a 35), .inr (5, (fX5 (a 36) (a 37) (a 38) (a 39)))), (aI k (a 36) 10 (vv n__19 see__19 tm__19 g__19)), (aI k (a 37) 24 ff__19), (aI k (a 38) 24 fp__19), (aB k (a 2) 240 fx), ((a 0), .inr (7, (fX7 (a 1) (a 3) (a 19) (a 35) (a 40) (nI rk) lfa__29 (a 53) (a 56) (a 63) (a 64) (a 68)))), ((a 1), .inr (6, (fX6 (a 2) (nI tz__29) (nI ta__19) na__19 (nI e_20) (nI pl_20))))] hP hD
          clear hP hD
          obtain ⟨hP, hD⟩ := hQ9
          try dsimp only at hw_29
          have hcl_30 := hw_29.2.2 (nI_ne0 (show 0 < e_20 by omega) (by omega))
          obtain ⟨hs0_31, hs1_31⟩ := (⟨hw_29.1, hcl_30.2⟩ : _ ∧ _)
          replace hs0_31 := hs0_31.symm
          subst hs0_31
          replace hs1_31 := hs1_31.symm
          subst hs1_31
          refine lv_istore_n (lv' := [(2, .int r_29), (0, .ref (a 0)), (1, .int 1)]) hx hb dX7_street_35 rfl hl (by decide) rfl (fun ls hl => ?_)
          refine lv_iload_n hx hb dX7_street_36 rfl (lv_at hl 0 rfl) ?_
          refine lv_if_ge (tgt := 42) hx hb dX7_street_37 (by decide) (fun c_32 => absurd c_32 (by rw [hcl_30.1]; exact neg10 he1_20 he2_20)) (fun c_32 => ?_)
          refine lv_iload_n hx hb dX7_street_40 rfl (lv_at hl 0 rfl) ?_
          obtain ⟨hP9, hD9⟩ := pd_sub [((a 0), .inr (7, (fX7 (a 1) (a 3) (a 19) (a 35) (a 40) (nI rk) (nI pl_20) (a 53) (a 56) (a 63) (a 64) (a 68)))), ((a 1), .inr (6, (fX6 (a 2) 0 (nI ta__19) na__19 (nI e_20) (nI pl_20)))), (aB k (a 2) 240 fx), ((a 3), .inl (k 3, 3, .inr (.inr (.inr (.inr (a3 (a 4) (a 9) (a 14))))))), ((a 19), .inl (k 4, 3, .inr (.inr (.inr (.inr (a3 (a 20) (a 25) (a 30))))))), ((a 4), .inr (5, (fX5 (a 5) (a 6) (a 7) (a 8)))), (aI k (a 5) 10 (vv n0 see0 tm0 g0)), (aI k (a 6) 24 ff0), (aI k (a 7) 24 fp0), (aI k (a 8) 4 fl0), ((a 9), .inr (5, (fX5 (a 10) (a 11) (a 12) (a 13)))), (aI k (a 10) 10 (vv n1 see1 tm1 g1)), (aI k (a 11) 24 ff1), (aI k (a 12) 24 fp1), (aI k (a 13) 4 fl1), ((a 14), .inr (5, (fX5 (a 15) (a 16) (a 17) (a 18)))), (aI k (a 15) 10 (vv n2 see2 tm2 g2)), (aI k (a 16) 24 ff2), (aI k (a 17) 24 fp2), (aI k (a 18) 4 fl2), ((a 20), .inr (0, (fX0 (a 4) (a 21) (a 22) (a 23) (a 24)))), (aI k (a 21) 768 on0), (aI k (a 22) 4 sr0), (aI k (a 23) 4 en0), (aI k (a 24) 8 fo0), ((a 25), .inr (0, (fX0 (a 9) (a 26) (a 27) (a 28) (a 29)))), (aI k (a 26) 768 on1), (aI k (a 27) 4 sr1), (aI k (a 28) 4 en1), (aI k (a 29) 8 fo1), ((a 30), .inr (0, (fX0 (a 14) (a 31) (a 32) (a 33) (a 34)))), (aI k (a 31) 768 on2), (aI k (a 32) 4 sr2), (aI k (a 33) 4 en2), (aI k (a 34) 8 fo2), ((a 35), .inr (5, (fX5 (a 36) (a 37) (a 38) (a 39)))), (aI k (a 36) 10 (vv n__19 see__19 tm__19 g__19)), (aI k (a 37) 24 ff__19), (aI k (a 38) 24 fp__19), (aI k (a 39) 4 flq)] [38, 39, 37, 0, 1, 2, 3, 4, 5, 6, 7, 8, 9, 10, 11, 12, 13, 14, 15, 16, 17, 18, 19, 20, 21, 22, 23, 24, 25, 26, 27, 28, 29, 30, 31, 33, 34, 35, 36, 32] hP hD (by decide +kernel) rfl
          exact W.iret (v := r_29) hx hb hr (fun t ht hW => ⟨⟨r_29, ((nI pl_20), 0, (nI ta__19), na__19, (nI e_20), (nI pl_20), n__19, see__19, tm__19, g__19, ff__19, fp__19, n0, see0, tm0, g0, ff0, fp0, fl0, on0, sr0, en0, fo0, n1, see1, tm1, g1, ff1, fp1, fl1, on1, sr1, en1, fo1, n2, see2, tm2, g2, ff2, fp2, fl2, on2, sr2, en2, fo2), rfl, ⟨⟨(fun h => absurd (by exact ⟨by decide, by decide⟩) h), fun _ => ⟨rfl, .inl ⟨e_20, pl_20, he1_20, he2_20, hp1_20, hp2_20, hcl_30.1, rfl, fun _ _ => rfl⟩⟩⟩, fun h => h, fun h => h, by omega, by omega, by omega, by omega, by omega, by omega, by omega, by omega, by omega, by omega⟩, by rw [ht]; exact hP9, hD9⟩, hS.F ht⟩) hS.2.2 dX7_street_41
      · refine lv_aload_n hx hb dX7_street_13 rfl (lv_at hl 0 rfl) ?_
        refine va_get (D := D) (ci := 7) (v := .ref (a 1)) (C := RX7) (T := TX7) (N := 12) hx hb hts inX7 hown hK hP 0 rfl rfl 0 (by decide) (hts _ tw_305) (fun _ h9 => h9) rfl dX7_street_14 ?_
        refine rw_v (D := D) (wr := [((a 0), .inr (7, (fX7 (a 1) (a 3) (a 19) (a 35) (a 40) (nI rk) lfa (a 53) (a 56) (a 63) (a 64) (a 68)))), ((a 3), .inl (k 3, 3, .inr (.inr (.inr (.inr (a3 (a 4) (a 9) (a 14))))))), ((a 19), .inl (k 4, 3, .inr (.inr (.inr (.inr (a3 (a 20) (a 25) (a 30))))))), ((a 4), .inr (5, (fX5 (a 5) (a 6) (a 7) (a 8)))), (aI k (a 5) 10 (vv n0 see0 tm0 g0)), (aI k (a 6) 24 ff0), (aI k (a 7) 24 fp0), (aI k (a 8) 4 fl0), ((a 9), .inr (5, (fX5 (a 10) (a 11) (a 12) (a 13)))), (aI k (a 10) 10 (vv n1 see1 tm1 g1)), (aI k (a 11) 24 ff1), (aI k (a 12) 24 fp1), (aI k (a 13) 4 fl1), ((a 14), .inr (5, (fX5 (a 15) (a 16) (a 17) (a 18)))), (aI k (a 15) 10 (vv n2 see2 tm2 g2)), (aI k (a 16) 24 ff2), (aI k (a 17) 24 fp2), (aI k (a 18) 4 fl2), ((a 20), .inr (0, (fX0 (a 4) (a 21) (a 22) (a 23) (a 24)))), (aI k (a 21) 768 on0), (aI k (a 22) 4 sr0), (aI k (a 23) 4 en0), (aI k (a 24) 8 fo0), ((a 25), .inr (0, (fX0 (a 9) (a 26) (a 27) (a 28) (a 29)))), (aI k (a 26) 768 on1), (aI k (a 27) 4 sr1), (aI k (a 28) 4 en1), (aI k (a 29) 8 fo1), ((a 30), .inr (0, (fX0 (a 14) (a 31) (a 32) (a 33) (a 34)))), (aI k (a 31) 768 on2), (aI k (a 32) 4 sr2), (aI k (a 33) 4 en2), (aI k (a 34) 8 fo2), ((a 35), .inr (5, (fX5 (a 36) (a 37) (a 38) (a 39)))), (aI k (a 36) 10 (vv nq seeq tmq gq)), (aI k (a 37) 24 ffq), (aI k (a 38) 24 fpq), (aI k (a 39) 4 flq)]) (va_runV (As := []) (rest := []) ⟨hx, hb, hml, hown, hts⟩ ((x_rewind l D k st lo (a 1) (a 2) tz ta na fn fb fx) s.heap.size) (cwV 0 hts (gV tw_354 tw_355 tw_356 tw_80 tw_357) rfl rfl rfl (by decide +kernel) ⟨Nat.le_of_ble_eq_true rfl, Nat.le_of_ble_eq_true rfl⟩) (pV hS hAlo hlo hP hK (va_Dlo hD hAlo) hZ [1, 2] (by decide) rfl (ci := 6) (q := (RX6, TX6, 6)) (q0 := 0) rfl rfl) rfl rfl hl.1 rfl (lv_room (Nat.le_of_ble_eq_true rfl)) dX7_street_17 ⟨Nat.le_of_ble_eq_true rfl, Nat.le_of_ble_eq_true rfl⟩) hS hA hP hD [1, 2] [0, 3, 4, 5, 6, 7, 8, 9, 10, 11, 12, 13, 14, 15, 16, 17, 18, 19, 20, 21, 22, 23, 24, 25, 26, 27, 28, 29, 30, 31, 32, 33, 34, 35, 36, 37, 38, 39] rfl rfl (by decide +kernel) (by decide +kernel) (fun u H locs hw_33 hP hD hS => ?_)
        obtain ⟨ta__33, na__33, fn__33, fb__33⟩ := u
        have hQ9 := pd_mk [((a 0), .inr (7, (fX7 (a 1) (a 3) (a 19) (a 35) (a 40) (nI rk) lfa (a 53) (a 56) (a 63) (a 64) (a 68)))), ((a 3), .inl (k 3, 3, .inr (.inr (.inr (.inr (a3 (a 4) (a 9) (a 14))))))), ((a 19), .inl (k 4, 3, .inr (.inr (.inr (.inr (a3 (a 20) (a 25) (a 30))))))), ((a 4), .inr (5, (fX5 (a 5) (a 6) (a 7) (a 8)))), (aI k (a 5) 10 (vv n0 see0 tm0 g0)), (aI k (a 6) 24 ff0), (aI k (a 7) 24 fp0), (aI k (a 8) 4 fl0), ((a 9), .inr (5, (fX5 (a 10) (a 11) (a 12) (a 13)))), (aI k (a 10) 10 (vv n1 see1 tm1 g1)), (aI k (a 11) 24 ff1), (aI k (a 12) 24 fp1), (aI k (a 13) 4 fl1), ((a 14), .inr (5, (fX5 (a 15) (a 16) (a 17) (a 18)))), (aI k (a 15) 10 (vv n2 see2 tm2 g2)), (aI k (a 16) 24 ff2), (aI k (a 17) 24 fp2), (aI k (a 18) 4 fl2), ((a 20), .inr (0, (fX0 (a 4) (a 21) (a 22) (a 23) (a 24)))), (aI k (a 21) 768 on0), (aI k (a 22) 4 sr0), (aI k (a 23) 4 en0), (aI k (a 24) 8 fo0), ((a 25), .inr (0, (fX0 (a 9) (a 26) (a 27) (a 28) (a 29)))), (aI k (a 26) 768 on1), (aI k (a 27) 4 sr1), (aI k (a 28) 4 en1), (aI k (a 29) 8 fo1), ((a 30), .inr (0, (fX0 (a 14) (a 31) (a 32) (a 33) (a 34)))), (aI k (a 31) 768 on2), (aI k (a 32) 4 sr2), (aI k (a 33) 4 en2), (aI k (a 34) 8 fo2), ((a 35), .inr (5, (fX5 (a 36) (a 37) (a 38) (a 39)))), (aI k (a 36) 10 (vv nq seeq tmq gq)), (aI k (a 37) 24 ffq), (aI k (a 38) 24 fpq), (aI k (a 39) 4 flq), ((a 1), .inr (6, (fX6 (a 2) (nI tz) ta__33 na__33 fn__33 fb__33))), (aB k (a 2) 240 fx)] hP hD
        clear hP hD
        obtain ⟨hP, hD⟩ := hQ9
        try dsimp only at hw_33
        obtain ⟨rfl, rfl⟩ := hw_33
        refine lv_aload_n hx hb dX7_street_20 rfl (lv_at hl 0 rfl) ?_
        refine va_get (D := D) (ci := 7) (v := .ref (a 35)) (C := RX7) (T := TX7) (N := 12) hx hb hts inX7 hown hK hP 0 rfl rfl 3 (by decide) (hts _ tw_308) (fun _ h9 => h9) rfl dX7_street_21 ?_
        refine lv_aload_n hx hb dX7_street_24 rfl (lv_at hl 0 rfl) ?_
        refine va_get (D := D) (ci := 7) (v := .ref (a 1)) (C := RX7) (T := TX7) (N := 12) hx hb hts inX7 hown hK hP 0 rfl rfl 0 (by decide) (hts _ tw_305) (fun _ h9 => h9) rfl dX7_street_25 ?_
        refine rw_v (D := D) (wr := [((a 0), .inr (7, (fX7 (a 1) (a 3) (a 19) (a 35) (a 40) (nI rk) lfa (a 53) (a 56) (a 63) (a 64) (a 68)))), ((a 3), .inl (k 3, 3, .inr (.inr (.inr (.inr (a3 (a 4) (a 9) (a 14))))))), ((a 19), .inl (k 4, 3, .inr (.inr (.inr (.inr (a3 (a 20) (a 25) (a 30))))))), ((a 4), .inr (5, (fX5 (a 5) (a 6) (a 7) (a 8)))), (aI k (a 5) 10 (vv n0 see0 tm0 g0)), (aI k (a 6) 24 ff0), (aI k (a 7) 24 fp0), (aI k (a 8) 4 fl0), ((a 9), .inr (5, (fX5 (a 10) (a 11) (a 12) (a 13)))), (aI k (a 10) 10 (vv n1 see1 tm1 g1)), (aI k (a 11) 24 ff1), (aI k (a 12) 24 fp1), (aI k (a 13) 4 fl1), ((a 14), .inr (5, (fX5 (a 15) (a 16) (a 17) (a 18)))), (aI k (a 15) 10 (vv n2 see2 tm2 g2)), (aI k (a 16) 24 ff2), (aI k (a 17) 24 fp2), (aI k (a 18) 4 fl2), ((a 20), .inr (0, (fX0 (a 4) (a 21) (a 22) (a 23) (a 24)))), (aI k (a 21) 768 on0), (aI k (a 22) 4 sr0), (aI k (a 23) 4 en0), (aI k (a 24) 8 fo0), ((a 25), .inr (0, (fX0 (a 9) (a 26) (a 27) (a 28) (a 29)))), (aI k (a 26) 768 on1), (aI k (a 27) 4 sr1), (aI k (a 28) 4 en1), (aI k (a 29) 8 fo1), ((a 30), .inr (0, (fX0 (a 14) (a 31) (a 32) (a 33) (a 34)))), (aI k (a 31) 768 on2), (aI k (a 32) 4 sr2), (aI k (a 33) 4 en2), (aI k (a 34) 8 fo2), (aI k (a 39) 4 flq)]) (va_runV (As := [.ref (a 1)]) (rest := []) ⟨hx, hb, hml, hown, hts⟩ ((y_Street_readFrom l D k st lo (a 35) (a 36) (a 37) (a 38) (a 39) nq seeq tmq gq ffq fpq (a 1) (a 2) tz 0 na__33 0 fb__33 fx (by first | assumption | omega) (by first | assumption | omega) rfl) H.size) (cwV 1 hts (gV tw_358 tw_359 tw_360 tw_81 tw_361) rfl rfl rfl (by decide +kernel) ⟨Nat.le_of_ble_eq_true rfl, Nat.le_of_ble_eq_true rfl⟩) (pV hS hAlo hlo hP hK (va_Dlo hD hAlo) hZ [33, 34, 35, 36, 38, 39] (by decide) rfl (ci := 5) (q := (RX5, TX5, 4)) (q0 := 0) rfl rfl) rfl rfl hl.1 rfl (lv_room (Nat.le_of_ble_eq_true rfl)) dX7_street_28 ⟨Nat.le_of_ble_eq_true rfl, Nat.le_of_ble_eq_true rfl⟩) hS hA hP hD [33, 34, 35, 36, 38, 39] [0, 1, 2, 3, 4, 5, 6, 7, 8, 9, 10, 11, 12, 13, 14, 15, 16, 17, 18, 19, 20, 21, 22, 23, 24, 25, 26, 27, 28, 29, 30, 31, 32, 37] rfl rfl (by decide +kernel) (by decide +kernel) (fun u H locs hw_34 hP hD hS => ?_)
        obtain ⟨n__34, see__34, tm__34, g__34, ff__34, fp__34, ta__34, na__34, fn__34, fb__34⟩ := u
        have hQ9 := pd_mk [((a 0), .inr (7, (fX7 (a 1) (a 3) (a 19) (a 35) (a 40) (nI rk) lfa (a 53) (a 56) (a 63) (a 64) (a 68)))), ((a 3), .inl (k 3, 3, .inr (.inr (.inr (.inr (a3 (a 4) (a 9) (a 14))))))), ((a 19), .inl (k 4, 3, .inr (.inr (.inr (.inr (a3 (a 20) (a 25) (a 30))))))), ((a 4), .inr (5, (fX5 (a 5) (a 6) (a 7) (a 8)))), (aI k (a 5) 10 (vv n0 see0 tm0 g0)), (aI k (a 6) 24 ff0), (aI k (a 7) 24 fp0), (aI k (a 8) 4 fl0), ((a 9), .inr (5, (fX5 (a 10) (a 11) (a 12) (a 13)))), (aI k (a 10) 10 (vv n1 see1 tm1 g1)), (aI k (a 11) 24 ff1), (aI k (a 12) 24 fp1), (aI k (a 13) 4 fl1), ((a 14), .inr (5, (fX5 (a 15) (a 16) (a 17) (a 18)))), (aI k (a 15) 10 (vv n2 see2 tm2 g2)), (aI k (a 16) 24 ff2), (aI k (a 17) 24 fp2), (aI k (a 18) 4 fl2), ((a 20), .inr (0, (fX0 (a 4) (a 21) (a 22) (a 23) (a 24)))), (aI k (a 21) 768 on0), (aI k (a 22) 4 sr0), (aI k (a 23) 4 en0), (aI k (a 24) 8 fo0), ((a 25), .inr (0, (fX0 (a 9) (a 26) (a 27) (a 28) (a 29)))), (aI k (a 26) 768 on1), (aI k (a 27) 4 sr1), (aI k (a 28) 4 en1), (aI k (a 29) 8 fo1), ((a 30), .inr (0, (fX0 (a 14) (a 31) (a 32) (a 33) (a 34)))), (aI k (a 31) 768 on2), (aI k (a 32) 4 sr2), (aI k (a 33) 4 en2), (aI k (a 34) 8 fo2), (aI k (a 39) 4 flq), ((a 35), .inr (5, (fX5 (a 36) (a 37) (a 38) (a 39)))), (aI k (a 36) 10 (vv n__34 see__34 tm__34 g__34)), (aI k (a 37) 24 ff__34), (aI k (a 38) 24 fp__34), ((a 1), .inr (6, (fX6 (a 2) (nI tz) (nI ta__34) na__34 fn__34 fb__34))), (aB k (a 2) 240 fx)] hP hD
        clear hP hD
        obtain ⟨hP, hD⟩ := hQ9
        try dsimp only at hw_34
        rcases hw_34 with ⟨⟨rfl, ms_35, hrf_35, hnn_35⟩ | ⟨e_35, pl_35, rfl, he1_35, he2_35, hp1_35, hp2_35, rfl⟩, hw_34⟩
        · refine lv_aload_n hx hb dX7_street_31 rfl (lv_at hl 0 rfl) ?_
          refine rw_i (D := D) (wr := [((a 3), .inl (k 3, 3, .inr (.inr (.inr (.inr (a3 (a 4) (a 9) (a 14))))))), ((a 19), .inl (k 4, 3, .inr (.inr (.inr (.inr (a3 (a 20) (a 25) (a 30))))))), ((a 4), .inr (5, (fX5 (a 5) (a 6) (a 7) (a 8)))), (aI k (a 5) 10 (vv n0 see0 tm0 g0)), (aI k (a 6) 24 ff0), (aI k (a 7) 24 fp0), (aI k (a 8) 4 fl0), ((a 9), .inr (5, (fX5 (a 10) (a 11) (a 12) (a 13)))), (aI k (a 10) 10 (vv n1 see1 tm1 g1)), (aI k (a 11) 24 ff1), (aI k (a 12) 24 fp1), (aI k (a 13) 4 fl1), ((a 14), .inr (5, (fX5 (a 15) (a 16) (a 17) (a 18)))), (aI k (a 15) 10 (vv n2 see2 tm2 g2)), (aI k (a 16) 24 ff2), (aI k (a 17) 24 fp2), (aI k (a 18) 4 fl2), ((a 20), .inr (0, (fX0 (a 4) (a 21) (a 22) (a 23) (a 24)))), (aI k (a 21) 768 on0), (aI k (a 22) 4 sr0), (aI k (a 23) 4 en0), (aI k (a 24) 8 fo0), ((a 25), .inr (0, (fX0 (a 9) (a 26) (a 27) (a 28) (a 29)))), (aI k (a 26) 768 on1), (aI k (a 27) 4 sr1), (aI k (a 28) 4 en1), (aI k (a 29) 8 fo1), ((a 30), .inr (0, (fX0 (a 14) (a 31) (a 32) (a 33) (a 34)))), (aI k (a 31) 768 on2), (aI k (a 32) 4 sr2), (aI k (a 33) 4 en2), (aI k (a 34) 8 fo2), (aI k (a 39) 4 flq), ((a 35), .inr (5, (fX5 (a 36) (a 37) (a 38) (a 39)))), (aI k (a 36) 10 (vv n__34 see__34 tm__34 g__34)), (aI k (a 37) 24 ff__34), (aI k (a 38) 24 fp__34), (aB k (a 2) 240 fx)]) (va_runV (As := []) (rest := []) ⟨hx, hb, hml, hown, hts⟩ ((y_closeText l D k st lo a rk lfa tz (nI ta__34) na__34 0 fb__34) H.size) (cwV 0 hts (gV tw_496 tw_498 tw_2 tw_79 tw_499) rfl rfl rfl (by decide +kernel) ⟨Nat.le_of_ble_eq_true rfl, Nat.le_of_ble_eq_true rfl⟩) (pV hS hAlo hlo hP hK (va_Dlo hD hAlo) hZ [0, 38] (by decide) rfl (ci := 7) (q := (RX7, TX7, 12)) (q0 := 0) rfl rfl) rfl rfl hl.1 rfl (lv_room (Nat.le_of_ble_eq_true rfl)) dX7_street_32 ⟨Nat.le_of_ble_eq_true rfl, Nat.le_of_ble_eq_true rfl⟩) hS hA hP hD [0, 38] [1, 2, 3, 4, 5, 6, 7, 8, 9, 10, 11, 12, 13, 14, 15, 16, 17, 18, 19, 20, 21, 22, 23, 24, 25, 26, 27, 28, 29, 30, 31, 32, 33, 34, 35, 36, 37, 39] rfl rfl (by decide +kernel) (by decide +kernel) (fun r_36 u H locs hw_36 hP hD hS => ?_)
          obtain ⟨lfa__36, tz__36⟩ := u
          have hQ9 := pd_mk [((a 3), .inl (k 3, 3, .inr (.inr (.inr (.inr (a3 (a 4) (a 9) (a 14))))))), ((a 19), .inl (k 4, 3, .inr (.inr (.inr (.inr (a3 (a 20) (a 25) (a 30))))))), ((a 4), .inr (5, (fX5 (a 5) (a 6) (a 7) (a 8)))), (aI k (a 5) 10 (vv n0 see0 tm0 g0)), (aI k (a 6) 24 ff0), (aI k (a 7) 24 fp0), (aI k (a 8) 4 fl0), ((a 9), .inr (5, (fX5 (a 10) (a 11) (a 12) (a 13)))), (aI k (a 10) 10 (vv n1 see1 tm1 g1)), (aI k (a 11) 24 ff1), (aI k (a 12) 24 fp1), (aI k (a 13) 4 fl1), ((a 14), .inr (5, (fX5 (a 15) (a 16) (a 17) (a 18)))), (aI k (a 15) 10 (vv n2 see2 tm2 g2)), (aI k (a 16) 24 ff2), (aI k (a 17) 24 fp2), (aI k (a 18) 4 fl2), ((a 20), .inr (0, (fX0 (a 4) (a 21) (a 22) (a 23) (a 24)))), (aI k (a 21) 768 on0), (aI k (a 22) 4 sr0), (aI k (a 23) 4 en0), (aI k (a 24) 8 fo0), ((a 25), .inr (0, (fX0 (a 9) (a 26) (a 27) (a 28) (a 29)))), (aI k (a 26) 768 on1), (aI k (a 27) 4 sr1), (aI k (a 28) 4 en1), (aI k (a 29) 8 fo1), ((a 30), .inr (0, (fX0 (a 14) (a 31) (a 32) (a 33) (a 34)))), (aI k (a 31) 768 on2), (aI k (a 32) 4 sr2), (aI k (a 33) 4 en2), (aI k (a 34) 8 fo2), (aI k (a 39) 4 flq), ((a 35), .inr (5, (fX5 (a 36) (a 37) (a 38) (a 39)))), (aI k (a 36) 10 (vv n__34 see__34 tm__34 g__34)), (aI k (a 37) 24 ff__34), (aI k (a 38) 24 fp__34), (aB k (a 2) 240 fx), ((a 0), .inr (7, (fX7 (a 1) (a 3) (a 19) (a 35) (a 40) (nI rk) lfa__36 (a 53) (a 56) (a 63) (a 64) (a 68)))), ((a 1), .inr (6, (fX6 (a 2) (nI tz__36) (nI ta__34) na__34 0 fb__34)))] hP hD
          clear hP hD
          obtain ⟨hP, hD⟩ := hQ9
          try dsimp only at hw_36
          have hcl_37 := hw_36.2.1 rfl
          obtain ⟨hs0_38, hs1_38, hs2_38⟩ := (⟨hw_36.1, hcl_37.1, hcl_37.2⟩ : _ ∧ _ ∧ _)
          replace hs0_38 := hs0_38.symm
          subst hs0_38
          replace hs1_38 := hs1_38.symm
          subst hs1_38
          replace hs2_38 := hs2_38.symm
          subst hs2_38
          refine lv_istore_n (lv' := [(2, .int 0), (0, .ref (a 0)), (1, .int 2)]) hx hb dX7_street_35 rfl hl (by decide) rfl (fun ls hl => ?_)
          refine lv_iload_n hx hb dX7_street_36 rfl (lv_at hl 0 rfl) ?_
          refine lv_if_ge (tgt := 42) hx hb dX7_street_37 (by decide) (fun _ => ?_) (fun h => absurd (by decide) h)
          refine lv_aload_n hx hb dX7_street_42 rfl (lv_at hl 1 rfl) ?_
          refine va_get (D := D) (ci := 7) (v := .ref (a 3)) (C := RX7) (T := TX7) (N := 12) hx hb hts inX7 hown hK hP 38 rfl rfl 1 (by decide) (hts _ tw_306) (fun _ h9 => h9) rfl dX7_street_43 ?_
          refine lv_iload_n hx hb dX7_street_46 rfl (lv_at hl 2 rfl) ?_
          refine va_aldq hx hb hK hP 0 3 rfl rfl (by unfold vp_in; decide) dX7_street_47 ?_
          refine lv_tr (y := .ref (a 14)) rfl ?_
          refine lv_aload_n hx hb dX7_street_48 rfl (lv_at hl 1 rfl) ?_
          refine va_get (D := D) (ci := 7) (v := .ref (a 35)) (C := RX7) (T := TX7) (N := 12) hx hb hts inX7 hown hK hP 38 rfl rfl 3 (by decide) (hts _ tw_308) (fun _ h9 => h9) rfl dX7_street_49 ?_
          refine rw_v (D := D) (wr := [((a 3), .inl (k 3, 3, .inr (.inr (.inr (.inr (a3 (a 4) (a 9) (a 14))))))), ((a 19), .inl (k 4, 3, .inr (.inr (.inr (.inr (a3 (a 20) (a 25) (a 30))))))), ((a 4), .inr (5, (fX5 (a 5) (a 6) (a 7) (a 8)))), (aI k (a 5) 10 (vv n0 see0 tm0 g0)), (aI k (a 6) 24 ff0), (aI k (a 7) 24 fp0), (aI k (a 8) 4 fl0), ((a 9), .inr (5, (fX5 (a 10) (a 11) (a 12) (a 13)))), (aI k (a 10) 10 (vv n1 see1 tm1 g1)), (aI k (a 11) 24 ff1), (aI k (a 12) 24 fp1), (aI k (a 13) 4 fl1), ((a 20), .inr (0, (fX0 (a 4) (a 21) (a 22) (a 23) (a 24)))), (aI k (a 21) 768 on0), (aI k (a 22) 4 sr0), (aI k (a 23) 4 en0), (aI k (a 24) 8 fo0), ((a 25), .inr (0, (fX0 (a 9) (a 26) (a 27) (a 28) (a 29)))), (aI k (a 26) 768 on1), (aI k (a 27) 4 sr1), (aI k (a 28) 4 en1), (aI k (a 29) 8 fo1), ((a 30), .inr (0, (fX0 (a 14) (a 31) (a 32) (a 33) (a 34)))), (aI k (a 31) 768 on2), (aI k (a 32) 4 sr2), (aI k (a 33) 4 en2), (aI k (a 34) 8 fo2), (aB k (a 2) 240 fx), ((a 0), .inr (7, (fX7 (a 1) (a 3) (a 19) (a 35) (a 40) (nI rk) (-1) (a 53) (a 56) (a 63) (a 64) (a 68)))), ((a 1), .inr (6, (fX6 (a 2) 0 (nI ta__34) na__34 0 fb__34)))]) (va_runV (As := [.ref (a 35)]) (rest := []) ⟨hx, hb, hml, hown, hts⟩ ((y_become2 l D k st lo (a 14) (a 15) (a 16) (a 17) (a 18) n2 see2 tm2 g2 ff2 fp2 fl2 (a 35) (a 36) (a 37) (a 38) (a 39) n__34 see__34 tm__34 g__34 ff__34 fp__34 flq (by first | assumption | omega)) H.size) (cwV 1 hts (gV tw_501 tw_502 tw_503 tw_81 tw_504) rfl rfl rfl (by decide +kernel) ⟨Nat.le_of_ble_eq_true rfl, Nat.le_of_ble_eq_true rfl⟩) (pV hS hAlo hlo hP hK (va_Dlo hD hAlo) hZ [12, 13, 14, 15, 16, 33, 34, 35, 36, 32] (by decide +kernel) rfl (ci := 5) (q := (RX5, TX5, 4)) (q0 := 0) rfl rfl) rfl rfl hl.1 rfl (lv_room (Nat.le_of_ble_eq_true rfl)) dX7_street_52 ⟨Nat.le_of_ble_eq_true rfl, Nat.le_of_ble_eq_true rfl⟩) hS hA hP hD [12, 13, 14, 15, 16, 33, 34, 35, 36, 32] [0, 1, 2, 3, 4, 5, 6, 7, 8, 9, 10, 11, 17, 18, 19, 20, 21, 22, 23, 24, 25, 26, 27, 28, 29, 30, 31, 37, 38, 39] rfl rfl (by decide +kernel) (by decide +kernel) (fun u H locs hw_39 hP hD hS => ?_)
          obtain ⟨n__39, see__39, tm__39, g__39, ff__39, fp__39, fl__39⟩ := u
          have hQ9 := pd_mk [((a 3), .inl (k 3, 3, .inr (.inr (.inr (.inr (a3 (a 4) (a 9) (a 14))))))), ((a 19), .inl (k 4, 3, .inr (.inr (.inr (.inr (a3 (a 20) (a 25) (a 30))))))), ((a 4), .inr (5, (fX5 (a 5) (a 6) (a 7) (a 8)))), (aI k (a 5) 10 (vv n0 see0 tm0 g0)), (aI k (a 6) 24 ff0), (aI k (a 7) 24 fp0), (aI k (a 8) 4 fl0), ((a 9), .inr (5, (fX5 (a 10) (a 11) (a 12) (a 13)))), (aI k (a 10) 10 (vv n1 see1 tm1 g1)), (aI k (a 11) 24 ff1), (aI k (a 12) 24 fp1), (aI k (a 13) 4 fl1), ((a 20), .inr (0, (fX0 (a 4) (a 21) (a 22) (a 23) (a 24)))), (aI k (a 21) 768 on0), (aI k (a 22) 4 sr0), (aI k (a 23) 4 en0), (aI k (a 24) 8 fo0), ((a 25), .inr (0, (fX0 (a 9) (a 26) (a 27) (a 28) (a 29)))), (aI k (a 26) 768 on1), (aI k (a 27) 4 sr1), (aI k (a 28) 4 en1), (aI k (a 29) 8 fo1), ((a 30), .inr (0, (fX0 (a 14) (a 31) (a 32) (a 33) (a 34)))), (aI k (a 31) 768 on2), (aI k (a 32) 4 sr2), (aI k (a 33) 4 en2), (aI k (a 34) 8 fo2), (aB k (a 2) 240 fx), ((a 0), .inr (7, (fX7 (a 1) (a 3) (a 19) (a 35) (a 40) (nI rk) (-1) (a 53) (a 56) (a 63) (a 64) (a 68)))), ((a 1), .inr (6, (fX6 (a 2) 0 (nI ta__34) na__34 0 fb__34))), ((a 14), .inr (5, (fX5 (a 15) (a 16) (a 17) (a 18)))), (aI k (a 15) 10 (vv n__39 see__39 tm__39 g__39)), (aI k (a 16) 24 ff__39), (aI k (a 17) 24 fp__39), (aI k (a 18) 4 fl__39), ((a 35), .inr (5, (fX5 (a 36) (a 37) (a 38) (a 39)))), (aI k (a 36) 10 (vv n__34 see__34 tm__34 g__34)), (aI k (a 37) 24 ff__34), (aI k (a 38) 24 fp__34), (aI k (a 39) 4 flq)] hP hD
          clear hP hD
          obtain ⟨hP, hD⟩ := hQ9
          try dsimp only at hw_39
          have hsd_40 := hw_39.2.2.2.1
          have hla_40 := hw_39.2.2.2.2
          obtain ⟨hs0_41, hs1_41, hs2_41⟩ := (⟨hw_39.1, hw_39.2.1, hw_39.2.2.1⟩ : _ ∧ _ ∧ _)
          replace hs0_41 := hs0_41.symm
          subst hs0_41
          replace hs1_41 := hs1_41.symm
          subst hs1_41
          replace hs2_41 := hs2_41.symm
          subst hs2_41
          refine lv_aload_n hx hb dX7_street_55 rfl (lv_at hl 1 rfl) ?_
          refine va_get (D := D) (ci := 7) (v := .ref (a 19)) (C := RX7) (T := TX7) (N := 12) hx hb hts inX7 hown hK hP 28 rfl rfl 2 (by decide) (hts _ tw_307) (fun _ h9 => h9) rfl dX7_street_56 ?_
          refine lv_iload_n hx hb dX7_street_59 rfl (lv_at hl 2 rfl) ?_
          refine va_aldq hx hb hK hP 1 4 rfl rfl (by unfold vp_in; decide) dX7_street_60 ?_
          refine lv_tr (y := .ref (a 30)) rfl ?_
          refine rw_v (D := D) (wr := [((a 3), .inl (k 3, 3, .inr (.inr (.inr (.inr (a3 (a 4) (a 9) (a 14))))))), ((a 19), .inl (k 4, 3, .inr (.inr (.inr (.inr (a3 (a 20) (a 25) (a 30))))))), ((a 4), .inr (5, (fX5 (a 5) (a 6) (a 7) (a 8)))), (aI k (a 5) 10 (vv n0 see0 tm0 g0)), (aI k (a 6) 24 ff0), (aI k (a 7) 24 fp0), (aI k (a 8) 4 fl0), ((a 9), .inr (5, (fX5 (a 10) (a 11) (a 12) (a 13)))), (aI k (a 10) 10 (vv n1 see1 tm1 g1)), (aI k (a 11) 24 ff1), (aI k (a 12) 24 fp1), (aI k (a 13) 4 fl1), ((a 20), .inr (0, (fX0 (a 4) (a 21) (a 22) (a 23) (a 24)))), (aI k (a 21) 768 on0), (aI k (a 22) 4 sr0), (aI k (a 23) 4 en0), (aI k (a 24) 8 fo0), ((a 25), .inr (0, (fX0 (a 9) (a 26) (a 27) (a 28) (a 29)))), (aI k (a 26) 768 on1), (aI k (a 27) 4 sr1), (aI k (a 28) 4 en1), (aI k (a 29) 8 fo1), (aB k (a 2) 240 fx), ((a 0), .inr (7, (fX7 (a 1) (a 3) (a 19) (a 35) (a 40) (nI rk) (-1) (a 53) (a 56) (a 63) (a 64) (a 68)))), ((a 1), .inr (6, (fX6 (a 2) 0 (nI ta__34) na__34 0 fb__34))), ((a 35), .inr (5, (fX5 (a 36) (a 37) (a 38) (a 39)))), (aI k (a 36) 10 (vv n__34 see__34 tm__34 g__34)), (aI k (a 37) 24 ff__34), (aI k (a 38) 24 fp__34), (aI k (a 39) 4 flq)]) (va_runV (As := []) (rest := []) ⟨hx, hb, hml, hown, hts⟩ ((y_reckon l D k st lo (a 14) (a 15) (a 16) (a 17) (a 18) n__34 see__34 tm__34 g__39 ff__39 fp__39 fl__39 (a 30) (a 31) (a 32) (a 33) (a 34) on2 sr2 en2 fo2 (by first | assumption | omega) (by first | assumption | omega) (by first | assumption | omega) (fun r hr => (hla_40 r hr).trans (congrArg (fun z => pLate z r) hsd_40.symm)) (by rw [hsd_40]; exact okS_F hrf_35) (by first | assumption | omega)) H.size) (cwV 0 hts (gV tw_512 tw_513 tw_514 tw_85 tw_515) rfl rfl rfl (by decide +kernel) ⟨Nat.le_of_ble_eq_true rfl, Nat.le_of_ble_eq_true rfl⟩) (pV hS hAlo hlo hP hK (va_Dlo hD hAlo) hZ [30, 31, 32, 33, 34, 22, 23, 24, 25, 26] (by decide +kernel) rfl (ci := 0) (q := (RX0, TX0, 5)) (q0 := 5) rfl rfl) rfl rfl hl.1 rfl (lv_room (Nat.le_of_ble_eq_true rfl)) dX7_street_61 ⟨Nat.le_of_ble_eq_true rfl, Nat.le_of_ble_eq_true rfl⟩) hS hA hP hD [30, 31, 32, 33, 34, 22, 23, 24, 25, 26] [0, 1, 2, 3, 4, 5, 6, 7, 8, 9, 10, 11, 12, 13, 14, 15, 16, 17, 18, 19, 20, 21, 27, 28, 29, 35, 36, 37, 38, 39] rfl rfl (by decide +kernel) (by decide +kernel) (fun u H locs hw_42 hP hD hS => ?_)
          obtain ⟨on__42, sr__42, en__42, fo__42⟩ := u
          have hQ9 := pd_mk [((a 3), .inl (k 3, 3, .inr (.inr (.inr (.inr (a3 (a 4) (a 9) (a 14))))))), ((a 19), .inl (k 4, 3, .inr (.inr (.inr (.inr (a3 (a 20) (a 25) (a 30))))))), ((a 4), .inr (5, (fX5 (a 5) (a 6) (a 7) (a 8)))), (aI k (a 5) 10 (vv n0 see0 tm0 g0)), (aI k (a 6) 24 ff0), (aI k (a 7) 24 fp0), (aI k (a 8) 4 fl0), ((a 9), .inr (5, (fX5 (a 10) (a 11) (a 12) (a 13)))), (aI k (a 10) 10 (vv n1 see1 tm1 g1)), (aI k (a 11) 24 ff1), (aI k (a 12) 24 fp1), (aI k (a 13) 4 fl1), ((a 20), .inr (0, (fX0 (a 4) (a 21) (a 22) (a 23) (a 24)))), (aI k (a 21) 768 on0), (aI k (a 22) 4 sr0), (aI k (a 23) 4 en0), (aI k (a 24) 8 fo0), ((a 25), .inr (0, (fX0 (a 9) (a 26) (a 27) (a 28) (a 29)))), (aI k (a 26) 768 on1), (aI k (a 27) 4 sr1), (aI k (a 28) 4 en1), (aI k (a 29) 8 fo1), (aB k (a 2) 240 fx), ((a 0), .inr (7, (fX7 (a 1) (a 3) (a 19) (a 35) (a 40) (nI rk) (-1) (a 53) (a 56) (a 63) (a 64) (a 68)))), ((a 1), .inr (6, (fX6 (a 2) 0 (nI ta__34) na__34 0 fb__34))), ((a 35), .inr (5, (fX5 (a 36) (a 37) (a 38) (a 39)))), (aI k (a 36) 10 (vv n__34 see__34 tm__34 g__34)), (aI k (a 37) 24 ff__34), (aI k (a 38) 24 fp__34), (aI k (a 39) 4 flq), ((a 14), .inr (5, (fX5 (a 15) (a 16) (a 17) (a 18)))), (aI k (a 15) 10 (vv n__34 see__34 tm__34 g__39)), (aI k (a 16) 24 ff__39), (aI k (a 17) 24 fp__39), (aI k (a 18) 4 fl__39), ((a 30), .inr (0, (fX0 (a 14) (a 31) (a 32) (a 33) (a 34)))), (aI k (a 31) 768 on__42), (aI k (a 32) 4 sr__42), (aI k (a 33) 4 en__42), (aI k (a 34) 8 fo__42)] hP hD
          clear hP hD
          obtain ⟨hP, hD⟩ := hQ9
          try dsimp only at hw_42
          refine lv_aload_n hx hb dX7_street_64 rfl (lv_at hl 1 rfl) ?_
          refine va_get (D := D) (ci := 7) (v := .ref (a 3)) (C := RX7) (T := TX7) (N := 12) hx hb hts inX7 hown hK hP 23 rfl rfl 1 (by decide) (hts _ tw_306) (fun _ h9 => h9) rfl dX7_street_65 ?_
          refine lv_iload_n hx hb dX7_street_68 rfl (lv_at hl 2 rfl) ?_
          refine va_aldq hx hb hK hP 0 3 rfl rfl (by unfold vp_in; decide) dX7_street_69 ?_
          refine lv_tr (y := .ref (a 14)) rfl ?_
          refine ro_i (D := D) (va_runV (As := []) (rest := []) ⟨hx, hb, hml, hown, hts⟩ ((x_doors l D k st lo (a 14) (a 15) (a 16) (a 17) (a 18) n__34 see__34 tm__34 g__39) H.size) (cwV 0 hts (gV tw_580 tw_478 tw_479 tw_81 tw_480) rfl rfl rfl (by decide +kernel) ⟨Nat.le_of_ble_eq_true rfl, Nat.le_of_ble_eq_true rfl⟩) (pV hS hAlo hlo hP hK (va_Dlo hD hAlo) hZ [30, 31] (by decide) rfl (ci := 5) (q := (RX5, TX5, 4)) (q0 := 0) rfl rfl) rfl rfl hl.1 rfl (lv_room (Nat.le_of_ble_eq_true rfl)) dX7_street_70 ⟨Nat.le_of_ble_eq_true rfl, Nat.le_of_ble_eq_true rfl⟩) hS hA hP (fun r_43 H locs hw_43 hP hS => ?_)
          try dsimp only at hw_43
          subst hw_43
          obtain ⟨hP9, hD9⟩ := pd_sub [((a 0), .inr (7, (fX7 (a 1) (a 3) (a 19) (a 35) (a 40) (nI rk) (-1) (a 53) (a 56) (a 63) (a 64) (a 68)))), ((a 1), .inr (6, (fX6 (a 2) 0 (nI ta__34) na__34 0 fb__34))), (aB k (a 2) 240 fx), ((a 3), .inl (k 3, 3, .inr (.inr (.inr (.inr (a3 (a 4) (a 9) (a 14))))))), ((a 19), .inl (k 4, 3, .inr (.inr (.inr (.inr (a3 (a 20) (a 25) (a 30))))))), ((a 4), .inr (5, (fX5 (a 5) (a 6) (a 7) (a 8)))), (aI k (a 5) 10 (vv n0 see0 tm0 g0)), (aI k (a 6) 24 ff0), (aI k (a 7) 24 fp0), (aI k (a 8) 4 fl0), ((a 9), .inr (5, (fX5 (a 10) (a 11) (a 12) (a 13)))), (aI k (a 10) 10 (vv n1 see1 tm1 g1)), (aI k (a 11) 24 ff1), (aI k (a 12) 24 fp1), (aI k (a 13) 4 fl1), ((a 14), .inr (5, (fX5 (a 15) (a 16) (a 17) (a 18)))), (aI k (a 15) 10 (vv n__34 see__34 tm__34 g__39)), (aI k (a 16) 24 ff__39), (aI k (a 17) 24 fp__39), (aI k (a 18) 4 fl__39), ((a 20), .inr (0, (fX0 (a 4) (a 21) (a 22) (a 23) (a 24)))), (aI k (a 21) 768 on0), (aI k (a 22) 4 sr0), (aI k (a 23) 4 en0), (aI k (a 24) 8 fo0), ((a 25), .inr (0, (fX0 (a 9) (a 26) (a 27) (a 28) (a 29)))), (aI k (a 26) 768 on1), (aI k (a 27) 4 sr1), (aI k (a 28) 4 en1), (aI k (a 29) 8 fo1), ((a 30), .inr (0, (fX0 (a 14) (a 31) (a 32) (a 33) (a 34)))), (aI k (a 31) 768 on__42), (aI k (a 32) 4 sr__42), (aI k (a 33) 4 en__42), (aI k (a 34) 8 fo__42), ((a 35), .inr (5, (fX5 (a 36) (a 37) (a 38) (a 39)))), (aI k (a 36) 10 (vv n__34 see__34 tm__34 g__34)), (aI k (a 37) 24 ff__34), (aI k (a 38) 24 fp__34), (aI k (a 39) 4 flq)] [23, 24, 22, 0, 1, 2, 3, 4, 5, 6, 7, 8, 9, 10, 11, 30, 31, 32, 33, 34, 12, 13, 14, 15, 16, 17, 18, 19, 20, 21, 35, 36, 37, 38, 39, 25, 26, 27, 28, 29] hP hD (by decide +kernel) rfl
          exact W.iret (v := (nI n__34)) hx hb hr (fun t ht hW => ⟨⟨(nI n__34), ((-1), 0, (nI ta__34), na__34, 0, fb__34, n__34, see__34, tm__34, g__34, ff__34, fp__34, n0, see0, tm0, g0, ff0, fp0, fl0, on0, sr0, en0, fo0, n1, see1, tm1, g1, ff1, fp1, fl1, on1, sr1, en1, fo1, n__34, see__34, tm__34, g__39, ff__39, fp__39, fl__39, on__42, sr__42, en__42, fo__42), rfl, ⟨⟨(fun h => absurd (by exact ⟨by decide, by decide⟩) h), fun _ => ⟨rfl, .inr ⟨2, _, by omega, rfl, hrf_35, rfl, rfl, hsd_40.trans rfl, (fun q hq hn => by rcases (show q = 0 ∨ q = 1 ∨ q = 2 by omega) with rfl | rfl | rfl <;> first | rfl | exact absurd rfl hn)⟩⟩⟩, fun h i hi r hr => by rcases (show i = 0 ∨ i = 1 ∨ i = 2 by omega) with rfl | rfl | rfl; exact h 0 (by omega) r hr; exact h 1 (by omega) r hr; exact (hla_40 r hr).trans (congrArg (fun z => pLate z r) hsd_40.symm), fun h i hi hn => by rcases (show i = 0 ∨ i = 1 ∨ i = 2 by omega) with rfl | rfl | rfl; exact h 0 (by omega) hn; exact h 1 (by omega) hn; exact wy_of (by omega) (by omega) hw_42, by omega, by omega, by omega, by omega, by omega, by omega, by omega, by omega, by omega, by omega⟩, by rw [ht]; exact hP9, hD9⟩, hS.F ht⟩) hS.2.2 dX7_street_73
        · refine lv_aload_n hx hb dX7_street_31 rfl (lv_at hl 0 rfl) ?_
          refine rw_i (D := D) (wr := [((a 3), .inl (k 3, 3, .inr (.inr (.inr (.inr (a3 (a 4) (a 9) (a 14))))))), ((a 19), .inl (k 4, 3, .inr (.inr (.inr (.inr (a3 (a 20) (a 25) (a 30))))))), ((a 4), .inr (5, (fX5 (a 5) (a 6) (a 7) (a 8)))), (aI k (a 5) 10 (vv n0 see0 tm0 g0)), (aI k (a 6) 24 ff0), (aI k (a 7) 24 fp0), (aI k (a 8) 4 fl0), ((a 9), .inr (5, (fX5 (a 10) (a 11) (a 12) (a 13)))), (aI k (a 10) 10 (vv n1 see1 tm1 g1)), (aI k (a 11) 24 ff1), (aI k (a 12) 24 fp1), (aI k (a 13) 4 fl1), ((a 14), .inr (5, (fX5 (a 15) (a 16) (a 17) (a 18)))), (aI k (a 15) 10 (vv n2 see2 tm2 g2)), (aI k (a 16) 24 ff2), (aI k (a 17) 24 fp2), (aI k (a 18) 4 fl2), ((a 20), .inr (0, (fX0 (a 4) (a 21) (a 22) (a 23) (a 24)))), (aI k (a 21) 768 on0), (aI k (a 22) 4 sr0), (aI k (a 23) 4 en0), (aI k (a 24) 8 fo0), ((a 25), .inr (0, (fX0 (a 9) (a 26) (a 27) (a 28) (a 29)))), (aI k (a 26) 768 on1), (aI k (a 27) 4 sr1), (aI k (a 28) 4 en1), (aI k (a 29) 8 fo1), ((a 30), .inr (0, (fX0 (a 14) (a 31) (a 32) (a 33) (a 34)))), (aI k (a 31) 768 on2), (aI k (a 32) 4 sr2), (aI k (a 33) 4 en2), (aI k (a 34) 8 fo2), (aI k (a 39) 4 flq), ((a 35), .inr (5, (fX5 (a 36) (a 37) (a 38) (a 39)))), (aI k (a 36) 10 (vv n__34 see__34 tm__34 g__34)), (aI k (a 37) 24 ff__34), (aI k (a 38) 24 fp__34), (aB k (a 2) 240 fx)]) (va_runV (As := []) (rest := []) ⟨hx, hb, hml, hown, hts⟩ ((y_closeText l D k st lo a rk lfa tz (nI ta__34) na__34 (nI e_35) (nI pl_35)) H.size) (cwV 0 hts (gV tw_496 tw_498 tw_2 tw_79 tw_499) rfl rfl rfl (by decide +kernel) ⟨Nat.le_of_ble_eq_true rfl, Nat.le_of_ble_eq_true rfl⟩) (pV hS hAlo hlo hP hK (va_Dlo hD hAlo) hZ [0, 38] (by decide) rfl (ci := 7) (q := (RX7, TX7, 12)) (q0 := 0) rfl rfl) rfl rfl hl.1 rfl (lv_room (Nat.le_of_ble_eq_true rfl)) dX7_street_32 ⟨Nat.le_of_ble_eq_true rfl, Nat.le_of_ble_eq_true rfl⟩) hS hA hP hD [0, 38] [1, 2, 3, 4, 5, 6, 7, 8, 9, 10, 11, 12, 13, 14, 15, 16, 17, 18, 19, 20, 21, 22, 23, 24, 25, 26, 27, 28, 29, 30, 31, 32, 33, 34, 35, 36, 37, 39] rfl rfl (by decide +kernel) (by decide +kernel) (fun r_44 u H locs hw_44 hP hD hS => ?_)
          obtain ⟨lfa__44, tz__44⟩ := u
          have hQ9 := pd_mk [((a 3), .inl (k 3, 3, .inr (.inr (.inr (.inr (a3 (a 4) (a 9) (a 14))))))), ((a 19), .inl (k 4, 3, .inr (.inr (.inr (.inr (a3 (a 20) (a 25) (a 30))))))), ((a 4), .inr (5, (fX5 (a 5) (a 6) (a 7) (a 8)))), (aI k (a 5) 10 (vv n0 see0 tm0 g0)), (aI k (a 6) 24 ff0), (aI k (a 7) 24 fp0), (aI k (a 8) 4 fl0), ((a 9), .inr (5, (fX5 (a 10) (a 11) (a 12) (a 13)))), (aI k (a 10) 10 (vv n1 see1 tm1 g1)), (aI k (a 11) 24 ff1), (aI k (a 12) 24 fp1), (aI k (a 13) 4 fl1), ((a 14), .inr (5, (fX5 (a 15) (a 16) (a 17) (a 18)))), (aI k (a 15) 10 (vv n2 see2 tm2 g2)), (aI k (a 16) 24 ff2), (aI k (a 17) 24 fp2), (aI k (a 18) 4 fl2), ((a 20), .inr (0, (fX0 (a 4) (a 21) (a 22) (a 23) (a 24)))), (aI k (a 21) 768 on0), (aI k (a 22) 4 sr0), (aI k (a 23) 4 en0), (aI k (a 24) 8 fo0), ((a 25), .inr (0, (fX0 (a 9) (a 26) (a 27) (a 28) (a 29)))), (aI k (a 26) 768 on1), (aI k (a 27) 4 sr1), (aI k (a 28) 4 en1), (aI k (a 29) 8 fo1), ((a 30), .inr (0, (fX0 (a 14) (a 31) (a 32) (a 33) (a 34)))), (aI k (a 31) 768 on2), (aI k (a 32) 4 sr2), (aI k (a 33) 4 en2), (aI k (a 34) 8 fo2), (aI k (a 39) 4 flq), ((a 35), .inr (5, (fX5 (a 36) (a 37) (a 38) (a 39)))), (aI k (a 36) 10 (vv n__34 see__34 tm__34 g__34)), (aI k (a 37) 24 ff__34), (aI k (a 38) 24 fp__34), (aB k (a 2) 240 fx), ((a 0), .inr (7, (fX7 (a 1) (a 3) (a 19) (a 35) (a 40) (nI rk) lfa__44 (a 53) (a 56) (a 63) (a 64) (a 68)))), ((a 1), .inr (6, (fX6 (a 2) (nI tz__44) (nI ta__34) na__34 (nI e_35) (nI pl_35))))] hP hD
          clear hP hD
          obtain ⟨hP, hD⟩ := hQ9
          try dsimp only at hw_44
          have hcl_45 := hw_44.2.2 (nI_ne0 (show 0 < e_35 by omega) (by omega))
          obtain ⟨hs0_46, hs1_46⟩ := (⟨hw_44.1, hcl_45.2⟩ : _ ∧ _)
          replace hs0_46 := hs0_46.symm
          subst hs0_46
          replace hs1_46 := hs1_46.symm
          subst hs1_46
          refine lv_istore_n (lv' := [(2, .int r_44), (0, .ref (a 0)), (1, .int 2)]) hx hb dX7_street_35 rfl hl (by decide) rfl (fun ls hl => ?_)
          refine lv_iload_n hx hb dX7_street_36 rfl (lv_at hl 0 rfl) ?_
          refine lv_if_ge (tgt := 42) hx hb dX7_street_37 (by decide) (fun c_47 => absurd c_47 (by rw [hcl_45.1]; exact neg10 he1_35 he2_35)) (fun c_47 => ?_)
          refine lv_iload_n hx hb dX7_street_40 rfl (lv_at hl 0 rfl) ?_
          obtain ⟨hP9, hD9⟩ := pd_sub [((a 0), .inr (7, (fX7 (a 1) (a 3) (a 19) (a 35) (a 40) (nI rk) (nI pl_35) (a 53) (a 56) (a 63) (a 64) (a 68)))), ((a 1), .inr (6, (fX6 (a 2) 0 (nI ta__34) na__34 (nI e_35) (nI pl_35)))), (aB k (a 2) 240 fx), ((a 3), .inl (k 3, 3, .inr (.inr (.inr (.inr (a3 (a 4) (a 9) (a 14))))))), ((a 19), .inl (k 4, 3, .inr (.inr (.inr (.inr (a3 (a 20) (a 25) (a 30))))))), ((a 4), .inr (5, (fX5 (a 5) (a 6) (a 7) (a 8)))), (aI k (a 5) 10 (vv n0 see0 tm0 g0)), (aI k (a 6) 24 ff0), (aI k (a 7) 24 fp0), (aI k (a 8) 4 fl0), ((a 9), .inr (5, (fX5 (a 10) (a 11) (a 12) (a 13)))), (aI k (a 10) 10 (vv n1 see1 tm1 g1)), (aI k (a 11) 24 ff1), (aI k (a 12) 24 fp1), (aI k (a 13) 4 fl1), ((a 14), .inr (5, (fX5 (a 15) (a 16) (a 17) (a 18)))), (aI k (a 15) 10 (vv n2 see2 tm2 g2)), (aI k (a 16) 24 ff2), (aI k (a 17) 24 fp2), (aI k (a 18) 4 fl2), ((a 20), .inr (0, (fX0 (a 4) (a 21) (a 22) (a 23) (a 24)))), (aI k (a 21) 768 on0), (aI k (a 22) 4 sr0), (aI k (a 23) 4 en0), (aI k (a 24) 8 fo0), ((a 25), .inr (0, (fX0 (a 9) (a 26) (a 27) (a 28) (a 29)))), (aI k (a 26) 768 on1), (aI k (a 27) 4 sr1), (aI k (a 28) 4 en1), (aI k (a 29) 8 fo1), ((a 30), .inr (0, (fX0 (a 14) (a 31) (a 32) (a 33) (a 34)))), (aI k (a 31) 768 on2), (aI k (a 32) 4 sr2), (aI k (a 33) 4 en2), (aI k (a 34) 8 fo2), ((a 35), .inr (5, (fX5 (a 36) (a 37) (a 38) (a 39)))), (aI k (a 36) 10 (vv n__34 see__34 tm__34 g__34)), (aI k (a 37) 24 ff__34), (aI k (a 38) 24 fp__34), (aI k (a 39) 4 flq)] [38, 39, 37, 0, 1, 2, 3, 4, 5, 6, 7, 8, 9, 10, 11, 12, 13, 14, 15, 16, 17, 18, 19, 20, 21, 22, 23, 24, 25, 26, 27, 28, 29, 30, 31, 33, 34, 35, 36, 32] hP hD (by decide +kernel) rfl
          exact W.iret (v := r_44) hx hb hr (fun t ht hW => ⟨⟨r_44, ((nI pl_35), 0, (nI ta__34), na__34, (nI e_35), (nI pl_35), n__34, see__34, tm__34, g__34, ff__34, fp__34, n0, see0, tm0, g0, ff0, fp0, fl0, on0, sr0, en0, fo0, n1, see1, tm1, g1, ff1, fp1, fl1, on1, sr1, en1, fo1, n2, see2, tm2, g2, ff2, fp2, fl2, on2, sr2, en2, fo2), rfl, ⟨⟨(fun h => absurd (by exact ⟨by decide, by decide⟩) h), fun _ => ⟨rfl, .inl ⟨e_35, pl_35, he1_35, he2_35, hp1_35, hp2_35, hcl_45.1, rfl, fun _ _ => rfl⟩⟩⟩, fun h => h, fun h => h, by omega, by omega, by omega, by omega, by omega, by omega, by omega, by omega, by omega, by omega⟩, by rw [ht]; exact hP9, hD9⟩, hS.F ht⟩) hS.2.2 dX7_street_41
    · refine lv_sipush (v := (-1001)) hx hb dX7_street_9 (by decide) ?_
      obtain ⟨hP9, hD9⟩ := pd_sub [((a 0), .inr (7, (fX7 (a 1) (a 3) (a 19) (a 35) (a 40) (nI rk) lfa (a 53) (a 56) (a 63) (a 64) (a 68)))), ((a 1), .inr (6, (fX6 (a 2) (nI tz) ta na fn fb))), (aB k (a 2) 240 fx), ((a 3), .inl (k 3, 3, .inr (.inr (.inr (.inr (a3 (a 4) (a 9) (a 14))))))), ((a 19), .inl (k 4, 3, .inr (.inr (.inr (.inr (a3 (a 20) (a 25) (a 30))))))), ((a 4), .inr (5, (fX5 (a 5) (a 6) (a 7) (a 8)))), (aI k (a 5) 10 (vv n0 see0 tm0 g0)), (aI k (a 6) 24 ff0), (aI k (a 7) 24 fp0), (aI k (a 8) 4 fl0), ((a 9), .inr (5, (fX5 (a 10) (a 11) (a 12) (a 13)))), (aI k (a 10) 10 (vv n1 see1 tm1 g1)), (aI k (a 11) 24 ff1), (aI k (a 12) 24 fp1), (aI k (a 13) 4 fl1), ((a 14), .inr (5, (fX5 (a 15) (a 16) (a 17) (a 18)))), (aI k (a 15) 10 (vv n2 see2 tm2 g2)), (aI k (a 16) 24 ff2), (aI k (a 17) 24 fp2), (aI k (a 18) 4 fl2), ((a 20), .inr (0, (fX0 (a 4) (a 21) (a 22) (a 23) (a 24)))), (aI k (a 21) 768 on0), (aI k (a 22) 4 sr0), (aI k (a 23) 4 en0), (aI k (a 24) 8 fo0), ((a 25), .inr (0, (fX0 (a 9) (a 26) (a 27) (a 28) (a 29)))), (aI k (a 26) 768 on1), (aI k (a 27) 4 sr1), (aI k (a 28) 4 en1), (aI k (a 29) 8 fo1), ((a 30), .inr (0, (fX0 (a 14) (a 31) (a 32) (a 33) (a 34)))), (aI k (a 31) 768 on2), (aI k (a 32) 4 sr2), (aI k (a 33) 4 en2), (aI k (a 34) 8 fo2), ((a 35), .inr (5, (fX5 (a 36) (a 37) (a 38) (a 39)))), (aI k (a 36) 10 (vv nq seeq tmq gq)), (aI k (a 37) 24 ffq), (aI k (a 38) 24 fpq), (aI k (a 39) 4 flq)] [0, 1, 2, 3, 4, 5, 6, 7, 8, 9, 10, 11, 12, 13, 14, 15, 16, 17, 18, 19, 20, 21, 22, 23, 24, 25, 26, 27, 28, 29, 30, 31, 32, 33, 34, 35, 36, 37, 38, 39] hP hD (by decide +kernel) rfl
      exact W.iret (v := (-1001)) hx hb hr (fun t ht hW => ⟨⟨(-1001), (lfa, tz, ta, na, fn, fb, nq, seeq, tmq, gq, ffq, fpq, n0, see0, tm0, g0, ff0, fp0, fl0, on0, sr0, en0, fo0, n1, see1, tm1, g1, ff1, fp1, fl1, on1, sr1, en1, fo1, n2, see2, tm2, g2, ff2, fp2, fl2, on2, sr2, en2, fo2), rfl, ⟨⟨fun _ => ⟨rfl, rfl, rfl, fun _ _ => rfl⟩, fun h => absurd h (fun h => c_2 (ltx3 h.2))⟩, fun h => h, fun h => h, by omega, by omega, by omega, by omega, by omega, by omega, by omega, by omega, by omega, by omega⟩, by rw [ht]; exact hP9, hD9⟩, hS.F ht⟩) hS.2.2 dX7_street_12


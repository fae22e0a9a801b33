
set_option maxHeartbeats 4000000 in
set_option maxRecDepth 100000 in
theorem n_drive (l : Launch) (D : va_G) (k : Nat → ClassId) (st : Nat → Nat) (lo : Nat) (a : Nat → Nat) (tx : Nat) (t0 : Nat) (we : Nat) (rd : Nat) (ru : Nat) (rw : Nat) (ca : Nat) (fp : Int32) (wd : Int64) (nu : Int32) (na : Int32) (ts : Int32) (df : Int32) (db : Int32) (sd : Nat) (dn : Nat → Nat) (se : Nat → Nat) (tm : Nat → Nat) (gs : Nat → Int32) (ffrees : Nat → Int32) (fprices : Nat → Int32) (bm : Nat → Nat) (fbarSeen : Nat → Int32) (fbarFrom : Nat → Int32) (fruleRounds : Nat → Int32) (sn : Nat) (kr : Nat) (rx : Nat) (hdn : ∀ j, dn j ≤ 24) (hse : ∀ j, se j ≤ 2) (htm : ∀ j, tm j ≤ 3) (hbm : ∀ j, bm j ≤ 12) (hs : sn < 3) (hk : kr < 4) (h0 : 0 < dn sn) (hrx : fruleRounds kr = nI rx) (hr3 : rx ≤ 3) (hsd : sd < 2147483648) : CWi l D k st lo yX8_drive cX8_drive 10 (some .int) ({ frames := 4, cells := 0, slots := 0, locals := 93 }) 0 0 [.ref (a 0), .int (nI sn), .int (nI kr)] [((a 0), .inr (8, (fX8 a (nI tx) fp (nI t0) wd (nI we) nu na (nI rd) ts (nI ru) (nI rw) (nI ca) df db (nI sd)))), (aI k (a 1) 3 (nF dn)), (aI k (a 4) 27 (sg se tm gs)), (aI k (a 2) 72 ffrees), (aI k (a 3) 72 fprices), (aI k (a 25) 4 (nF bm)), (aI k (a 26) 48 fbarSeen), (aI k (a 27) 48 fbarFrom), (aI k (a 28) 4 fruleRounds)] (fun (r : Int32) (sd_ : Nat) => (r, sd_) = evF (sdM dn (sg se tm gs) ffrees fprices sn) (ruM bm fbarSeen fbarFrom fruleRounds kr) (min rx (tm sn)) sd ∧ sd_ < 2147483648) (fun (sd_ : Nat) => [((a 0), .inr (8, (fX8 a (nI tx) fp (nI t0) wd (nI we) nu na (nI rd) ts (nI ru) (nI rw) (nI ca) df db (nI sd_)))), (aI k (a 1) 3 (nF dn)), (aI k (a 4) 27 (sg se tm gs)), (aI k (a 2) 72 ffrees), (aI k (a 3) 72 fprices), (aI k (a 25) 4 (nF bm)), (aI k (a 26) 48 fbarSeen), (aI k (a 27) 48 fbarFrom), (aI k (a 28) 4 fruleRounds)]) := by
  intro sz
  refine Met.ofW (cc := cX8_drive) (maxL := 10) (ret := (some .int)) (by decide) rfl ?_
  intro p e s m args below meth c s₁ B hml hv
  obtain ⟨rfl, hsz, hlo, hP, hK, hDL, hZ⟩ := hv
  have hx := B.exec
  have hb := B.bytes
  have hr := B.returns
  have hts := WS_ts B.pre
  have hown : s.vm.findClass RX8 = some m.cls := findClass_of_methodNamed B.named
  have hlocks := B.notSynchronized
  subst hsz
  have hD := hDL.self (sz := s.heap.size)
  have hAlo := A_lo hDL hlo
  generalize hAe : va_A [((a 0), .inr (8, (fX8 a (nI tx) fp (nI t0) wd (nI we) nu na (nI rd) ts (nI ru) (nI rw) (nI ca) df db (nI sd)))), (aI k (a 1) 3 (nF dn)), (aI k (a 4) 27 (sg se tm gs)), (aI k (a 2) 72 ffrees), (aI k (a 3) 72 fprices), (aI k (a 25) 4 (nF bm)), (aI k (a 26) 48 fbarSeen), (aI k (a 27) 48 fbarFrom), (aI k (a 28) 4 fruleRounds)] s.heap.size = A at hD hAlo ⊢
  have hA : ∀ q : Nat, s.heap.size ≤ q → A q := fun q h => by rw [← hAe]; exact Or.inr h
  have hS : va_S A s.heap s.heap [] := va_S.rf
  have hl := lv_entry ([.ref (a 0), .int (nI sn), .int (nI kr)]) (n := 10) (Nat.le_of_ble_eq_true rfl)
  rw [lg_entry_eq]
  generalize (lg_sl ([.ref (a 0), .int (nI sn), .int (nI kr)]) ++ List.replicate (10 - (lg_sl ([.ref (a 0), .int (nI sn), .int (nI kr)])).length) Slot.unset).toArray = ls at hl ⊢
  have hl : lv_has ls 10 [(0, .ref (a 0)), (1, .int (nI sn)), (2, .int (nI kr))] := hl
  have hd_9 := hdn sn
  have hd_8 := hse sn
  have hd_7 := htm sn
  refine lv_aload_n hx hb dX8_drive_0 rfl (lv_at hl 0 rfl) ?_
  refine va_get (D := D) (ci := 8) (v := .ref (a 1)) (C := RX8) (T := TX8) (N := 44) hx hb hts inX8 hown hK hP 0 rfl rfl 0 (by decide) (hts _ tw_973) (fun _ h9 => h9) rfl dX8_drive_1 ?_
  refine lv_iload_n hx hb dX8_drive_4 rfl (lv_at hl 1 rfl) ?_
  refine va_iald hx hb hK hP 1 1 rfl rfl (vp_in_nI (by omega) (by decide)) dX8_drive_5 ?_
  refine lv_ti (y := (nI (dn sn))) (by rw [nI_clamp (by omega)]; rfl) ?_
  refine lv_istore_n (lv' := [(3, .int (nI (dn sn))), (0, .ref (a 0)), (1, .int (nI sn)), (2, .int (nI kr))]) hx hb dX8_drive_6 rfl hl (by decide) rfl (fun ls hl => ?_)
  refine lv_iconst (v := 0) hx hb dX8_drive_7 (by decide) ?_
  refine lv_istore (lv' := [(4, .int 0), (3, .int (nI (dn sn))), (0, .ref (a 0)), (1, .int (nI sn)), (2, .int (nI kr))]) hx hb dX8_drive_8 hl (by decide) rfl (fun ls hl => ?_)
  refine lv_iconst (v := 0) hx hb dX8_drive_10 (by decide) ?_
  refine lv_istore (lv' := [(5, .int 0), (4, .int 0), (3, .int (nI (dn sn))), (0, .ref (a 0)), (1, .int (nI sn)), (2, .int (nI kr))]) hx hb dX8_drive_11 hl (by decide) rfl (fun ls hl => ?_)
  refine lv_iconst (v := 0) hx hb dX8_drive_13 (by decide) ?_
  refine lv_istore (lv' := [(6, .int 0), (5, .int 0), (4, .int 0), (3, .int (nI (dn sn))), (0, .ref (a 0)), (1, .int (nI sn)), (2, .int (nI kr))]) hx hb dX8_drive_14 hl (by decide) rfl (fun ls hl => ?_)
  refine lv_iconst (v := 0) hx hb dX8_drive_16 (by decide) ?_
  refine lv_istore (lv' := [(7, .int 0), (6, .int 0), (5, .int 0), (4, .int 0), (3, .int (nI (dn sn))), (0, .ref (a 0)), (1, .int (nI sn)), (2, .int (nI kr))]) hx hb dX8_drive_17 hl (by decide) rfl (fun ls hl => ?_)
  refine lv_iconst (v := 0) hx hb dX8_drive_19 (by decide) ?_
  refine lv_istore (lv' := [(8, .int 0), (7, .int 0), (6, .int 0), (5, .int 0), (4, .int 0), (3, .int (nI (dn sn))), (0, .ref (a 0)), (1, .int (nI sn)), (2, .int (nI kr))]) hx hb dX8_drive_20 hl (by decide) rfl (fun ls hl => ?_)
  refine W_loop (σ := Int32 × Nat × Nat × Nat × Int32 × Nat) (fun (n_ : Nat) (x_ : Int32 × Nat × Nat × Nat × Int32 × Nat) (H : Heap) (locs : List Loc) (ls : Array Slot) => match x_ with | (co_1, rr_1, ii_1, pa_1, ah_1, sd2_1) => n_ = (3 - rr_1) * 25 + (dn sn - ii_1) ∧ (rr_1 ≤ (min rx (tm sn)) ∧ ii_1 ≤ dn sn ∧ sd2_1 < 2147483648 ∧ evS (sdM dn (sg se tm gs) ffrees fprices sn) (ruM bm fbarSeen fbarFrom fruleRounds kr) (min rx (tm sn)) rr_1 ii_1 pa_1 ah_1 co_1 sd2_1 = evF (sdM dn (sg se tm gs) ffrees fprices sn) (ruM bm fbarSeen fbarFrom fruleRounds kr) (min rx (tm sn)) sd) ∧ va_P D classes [((a 0), .inr (8, (fX8 a (nI tx) fp (nI t0) wd (nI we) nu na (nI rd) ts (nI ru) (nI rw) (nI ca) df db (nI sd2_1)))), (aI k (a 1) 3 (nF dn)), (aI k (a 4) 27 (sg se tm gs)), (aI k (a 2) 72 ffrees), (aI k (a 3) 72 fprices), (aI k (a 25) 4 (nF bm)), (aI k (a 26) 48 fbarSeen), (aI k (a 27) 48 fbarFrom), (aI k (a 28) 4 fruleRounds)] H ∧ va_D A [((a 0), .inr (8, (fX8 a (nI tx) fp (nI t0) wd (nI we) nu na (nI rd) ts (nI ru) (nI rw) (nI ca) df db (nI sd2_1)))), (aI k (a 1) 3 (nF dn)), (aI k (a 4) 27 (sg se tm gs)), (aI k (a 2) 72 ffrees), (aI k (a 3) 72 fprices), (aI k (a 25) 4 (nF bm)), (aI k (a 26) 48 fbarSeen), (aI k (a 27) 48 fbarFrom), (aI k (a 28) 4 fruleRounds)] ∧ va_S A s.heap H locs ∧ lv_has ls 10 [(8, .int ah_1), (7, .int (nI pa_1)), (6, .int (nI ii_1)), (5, .int (nI rr_1)), (4, .int co_1), (3, .int (nI (dn sn))), (0, .ref (a 0)), (1, .int (nI sn)), (2, .int (nI kr))]) (fun n_1 x_1 H locs ls hI ih_1 => ?_) _ (0, 0, 0, 0, 0, sd) ⟨rfl, ⟨by omega, by omega, hsd, rfl⟩, hP, hD, hS, (lv_sub hl [0, 1, 2, 3, 4, 5, 6, 7, 8] rfl)⟩
  obtain ⟨co_1, rr_1, ii_1, pa_1, ah_1, sd2_1⟩ := x_1
  obtain ⟨hm_1, hv_1, hP, hD, hS, hl⟩ := hI
  subst hm_1
  refine lv_iload hx hb dX8_drive_22 (lv_at hl 2 rfl) ?_
  refine lv_iload_n hx hb dX8_drive_24 rfl (lv_at hl 5 rfl) ?_
  refine lv_icmp_ne (tgt := 82) hx hb dX8_drive_25 (by decide) (fun c_2 => ?_) (fun c_2 => ?_)
  · have c_2 : ¬ (ii_1 = (dn sn)) := fun h => c_2 ((nI_eq (a := ii_1) (b := (dn sn)) (by omega) (by omega)).mpr h)
    refine lv_aload_n hx hb dX8_drive_82 rfl (lv_at hl 6 rfl) ?_
    refine rw_i (D := D) (wr := [(aI k (a 1) 3 (nF dn)), (aI k (a 4) 27 (sg se tm gs)), (aI k (a 2) 72 ffrees), (aI k (a 3) 72 fprices), (aI k (a 25) 4 (nF bm)), (aI k (a 26) 48 fbarSeen), (aI k (a 27) 48 fbarFrom), (aI k (a 28) 4 fruleRounds)]) (va_runV (As := []) (rest := []) ⟨hx, hb, hml, hown, hts⟩ ((n_draw l D k st lo a tx t0 we rd ru rw ca fp wd nu na ts df db sd2_1 (by first | assumption | omega)) H.size) (cwV 0 hts (gV tw_1480 tw_1482 tw_77 tw_87 tw_1483) rfl rfl rfl (by decide +kernel) ⟨Nat.le_of_ble_eq_true rfl, Nat.le_of_ble_eq_true rfl⟩) (pV hS hAlo hlo hP hK (va_Dlo hD hAlo) hZ [0] (by decide) rfl (ci := 8) (q := (RX8, TX8, 44)) (q0 := 0) rfl rfl) rfl rfl hl.1 rfl (lv_room (Nat.le_of_ble_eq_true rfl)) dX8_drive_83 ⟨Nat.le_of_ble_eq_true rfl, Nat.le_of_ble_eq_true rfl⟩) hS hA hP hD [0] [1, 2, 3, 4, 5, 6, 7, 8] rfl rfl (by decide) (by decide) (fun r_3 u H locs hw_3 hP hD hS => ?_)
    obtain ⟨sd__3, rfl⟩ : ∃ z, z = u := ⟨_, rfl⟩
    replace hP : va_P D classes [(aI k (a 1) 3 (nF dn)), (aI k (a 4) 27 (sg se tm gs)), (aI k (a 2) 72 ffrees), (aI k (a 3) 72 fprices), (aI k (a 25) 4 (nF bm)), (aI k (a 26) 48 fbarSeen), (aI k (a 27) 48 fbarFrom), (aI k (a 28) 4 fruleRounds), ((a 0), .inr (8, (fX8 a (nI tx) fp (nI t0) wd (nI we) nu na (nI rd) ts (nI ru) (nI rw) (nI ca) df db (nI sd__3))))] H := hP
    replace hD : va_D A [(aI k (a 1) 3 (nF dn)), (aI k (a 4) 27 (sg se tm gs)), (aI k (a 2) 72 ffrees), (aI k (a 3) 72 fprices), (aI k (a 25) 4 (nF bm)), (aI k (a 26) 48 fbarSeen), (aI k (a 27) 48 fbarFrom), (aI k (a 28) 4 fruleRounds), ((a 0), .inr (8, (fX8 a (nI tx) fp (nI t0) wd (nI we) nu na (nI rd) ts (nI ru) (nI rw) (nI ca) df db (nI sd__3))))] := hD
    try dsimp only at hw_3
    obtain ⟨hrv_4, hsv_4⟩ := hw_3
    have hsl_4 : sd__3 < 2147483648 := by rw [hsv_4]; exact drN_lt
    refine lv_aload_n hx hb dX8_drive_86 rfl (lv_at hl 6 rfl) ?_
    refine lv_iload_n hx hb dX8_drive_87 rfl (lv_at hl 7 rfl) ?_
    refine lv_iload hx hb dX8_drive_88 (lv_at hl 2 rfl) ?_
    refine lv_iload hx hb dX8_drive_90 (lv_at hl 0 rfl) ?_
    refine ro_i (D := D) (va_runV (As := [.int (nI sn), .int (nI ii_1), .int ah_1]) (rest := [.int r_3]) ⟨hx, hb, hml, hown, hts⟩ ((n_chanceOf l D k st lo a tx t0 we rd ru rw ca fp wd nu na ts df db (nI sd__3) ffrees se tm gs sn ii_1 ah_1 (by first | assumption | omega) (by first | assumption | omega)) H.size) (cwV 3 hts (gV tw_1210 tw_1212 tw_41 tw_87 tw_1213) rfl rfl rfl (by decide +kernel) ⟨Nat.le_of_ble_eq_true rfl, Nat.le_of_ble_eq_true rfl⟩) (pV hS hAlo hlo hP hK (va_Dlo hD hAlo) hZ [8, 2, 1] (by decide) rfl (ci := 8) (q := (RX8, TX8, 44)) (q0 := 0) rfl rfl) rfl rfl hl.1 rfl (lv_room (Nat.le_of_ble_eq_true rfl)) dX8_drive_92 ⟨Nat.le_of_ble_eq_true rfl, Nat.le_of_ble_eq_true rfl⟩) hS hA hP (fun r_5 H locs hw_5 hP hS => ?_)
    try dsimp only at hw_5
    refine lv_icmp_ge (tgt := 102) hx hb dX8_drive_95 (by decide) (fun c_6 => ?_) (fun c_6 => ?_)
    · have hdc_7 : ¬ nI (drN sd2_1 / 65536 % 100) < pChance (sdM dn (sg se tm gs) ffrees fprices sn) ii_1 ah_1 := by rw [← hrv_4, ← mChance (dn := dn) (se := se) (tm := tm) (gs := gs) (ffr := ffrees) (fpr := fprices) (show ii_1 < dn sn by omega), ← hw_5]; exact Int32.not_lt.mpr c_6
      refine lv_iconst (v := 0) hx hb dX8_drive_102 (by decide) ?_
      refine lv_istore (lv' := [(9, .int 0), (8, .int ah_1), (7, .int (nI pa_1)), (6, .int (nI ii_1)), (5, .int (nI rr_1)), (4, .int co_1), (3, .int (nI (dn sn))), (0, .ref (a 0)), (1, .int (nI sn)), (2, .int (nI kr))]) hx hb dX8_drive_103 hl (by decide) rfl (fun ls hl => ?_)
      refine lv_iload hx hb dX8_drive_105 (lv_at hl 0 rfl) ?_
      refine lv_if_eq (tgt := 135) hx hb dX8_drive_107 (by decide) (fun _ => ?_) (fun h => absurd (by decide) h)
      refine lv_iload hx hb dX8_drive_135 (lv_at hl 5 rfl) ?_
      refine lv_aload_n hx hb dX8_drive_137 rfl (lv_at hl 7 rfl) ?_
      refine lv_iload_n hx hb dX8_drive_138 rfl (lv_at hl 8 rfl) ?_
      refine lv_iconst (v := 2) hx hb dX8_drive_139 (by decide) ?_
      refine ro_i (D := D) (va_runV (As := [.int (nI sn), .int 2]) (rest := [.int co_1]) ⟨hx, hb, hml, hown, hts⟩ ((m_of l D k st lo a tx t0 we rd ru rw ca fp wd nu na ts df db (nI sd__3) se tm gs sn 2 (by first | assumption | omega) (by first | assumption | omega)) H.size) (cwV 2 hts (gV tw_1194 tw_1196 tw_39 tw_87 tw_1197) rfl rfl rfl (by decide +kernel) ⟨Nat.le_of_ble_eq_true rfl, Nat.le_of_ble_eq_true rfl⟩) (pV hS hAlo hlo hP hK (va_Dlo hD hAlo) hZ [8, 1] (by decide) rfl (ci := 8) (q := (RX8, TX8, 44)) (q0 := 0) rfl rfl) rfl rfl hl.1 rfl (lv_room (Nat.le_of_ble_eq_true rfl)) dX8_drive_140 ⟨Nat.le_of_ble_eq_true rfl, Nat.le_of_ble_eq_true rfl⟩) hS hA hP (fun r_8 H locs hw_8 hP hS => ?_)
      try dsimp only at hw_8
      refine lv_sipush (v := 1000) hx hb dX8_drive_143 (by decide) ?_
      refine lv_imul hx hb dX8_drive_146 ?_
      refine lv_topi (fun x_9 ex_9 => ?_)
      refine lv_iadd hx hb dX8_drive_147 ?_
      refine lv_topi (fun x_10 ex_10 => ?_)
      refine lv_istore (lv' := [(4, .int x_10), (9, .int 0), (8, .int ah_1), (7, .int (nI pa_1)), (6, .int (nI ii_1)), (5, .int (nI rr_1)), (3, .int (nI (dn sn))), (0, .ref (a 0)), (1, .int (nI sn)), (2, .int (nI kr))]) hx hb dX8_drive_148 hl (by decide) rfl (fun ls hl => ?_)
      have hev_11 := evx_n hv_1.2.2.2 (show ii_1 < dn sn by omega) hdc_7 (c2 := x_10) (by rw [ex_10, ex_9, hw_8, mPass (dn := dn) (ffr := ffrees) (fpr := fprices)]) hsv_4
      refine lv_iload hx hb dX8_drive_150 (lv_at hl 3 rfl) ?_
      refine lv_iload hx hb dX8_drive_152 (lv_at hl 1 rfl) ?_
      refine lv_if_eq (tgt := 161) hx hb dX8_drive_154 (by decide) (fun _ => ?_) (fun h => absurd (by decide) h)
      refine lv_iconst (v := 0) hx hb dX8_drive_161 (by decide) ?_
      refine lv_iadd hx hb dX8_drive_162 ?_
      refine lv_ti (y := (nI (pa_1 + 0))) (nI_add pa_1 0) ?_
      refine lv_istore (lv' := [(7, .int (nI (pa_1 + 0))), (4, .int x_10), (9, .int 0), (8, .int ah_1), (6, .int (nI ii_1)), (5, .int (nI rr_1)), (3, .int (nI (dn sn))), (0, .ref (a 0)), (1, .int (nI sn)), (2, .int (nI kr))]) hx hb dX8_drive_163 hl (by decide) rfl (fun ls hl => ?_)
      refine lv_iload hx hb dX8_drive_165 (lv_at hl 2 rfl) ?_
      refine lv_istore (lv' := [(8, .int 0), (7, .int (nI (pa_1 + 0))), (4, .int x_10), (9, .int 0), (6, .int (nI ii_1)), (5, .int (nI rr_1)), (3, .int (nI (dn sn))), (0, .ref (a 0)), (1, .int (nI sn)), (2, .int (nI kr))]) hx hb dX8_drive_167 hl (by decide) rfl (fun ls hl => ?_)
      refine lv_iinc (v := (nI (ii_1 + 1))) (lv' := [(6, .int (nI (ii_1 + 1))), (8, .int 0), (7, .int (nI (pa_1 + 0))), (4, .int x_10), (9, .int 0), (5, .int (nI rr_1)), (3, .int (nI (dn sn))), (0, .ref (a 0)), (1, .int (nI sn)), (2, .int (nI kr))]) hx hb dX8_drive_169 hl (k := 4) rfl (nI_add ii_1 1) (by decide) rfl (fun ls hl => ?_)
      refine lv_goto (tgt := 22) hx hb dX8_drive_172 (by decide) ?_
      exact ih_1 _ (x_10, rr_1, ii_1 + 1, pa_1 + 0, 0, sd__3) _ _ _ (by omega) ⟨rfl, ⟨by omega, by omega, hsl_4, hev_11⟩, (hP.sub [8, 0, 1, 2, 3, 4, 5, 6, 7] rfl), (hD.sub [8, 0, 1, 2, 3, 4, 5, 6, 7] (by decide +kernel) rfl), hS, (lv_sub hl [1, 2, 0, 5, 3, 6, 7, 8, 9] rfl)⟩
    · have hdc_12 : nI (drN sd2_1 / 65536 % 100) < pChance (sdM dn (sg se tm gs) ffrees fprices sn) ii_1 ah_1 := by rw [← hrv_4, ← mChance (dn := dn) (se := se) (tm := tm) (gs := gs) (ffr := ffrees) (fpr := fprices) (show ii_1 < dn sn by omega), ← hw_5]; exact Int32.not_le.mp c_6
      refine lv_iconst (v := 1) hx hb dX8_drive_98 (by decide) ?_
      refine lv_goto (tgt := 103) hx hb dX8_drive_99 (by decide) ?_
      refine lv_istore (lv' := [(9, .int 1), (8, .int ah_1), (7, .int (nI pa_1)), (6, .int (nI ii_1)), (5, .int (nI rr_1)), (4, .int co_1), (3, .int (nI (dn sn))), (0, .ref (a 0)), (1, .int (nI sn)), (2, .int (nI kr))]) hx hb dX8_drive_103 hl (by decide) rfl (fun ls hl => ?_)
      refine lv_iload hx hb dX8_drive_105 (lv_at hl 0 rfl) ?_
      refine lv_if_eq (tgt := 135) hx hb dX8_drive_107 (by decide) (fun h => absurd h (by decide)) (fun _ => ?_)
      refine lv_aload_n hx hb dX8_drive_110 rfl (lv_at hl 7 rfl) ?_
      refine lv_iload_n hx hb dX8_drive_111 rfl (lv_at hl 9 rfl) ?_
      refine lv_iload hx hb dX8_drive_112 (lv_at hl 3 rfl) ?_
      refine lv_iload hx hb dX8_drive_114 (lv_at hl 2 rfl) ?_
      refine ro_i (D := D) (va_runV (As := [.int (nI kr), .int (nI ii_1), .int (nI pa_1)]) (rest := []) ⟨hx, hb, hml, hown, hts⟩ ((n_isFor l D k st lo a tx t0 we rd ru rw ca fp wd nu na ts df db (nI sd__3) bm fbarSeen fbarFrom fruleRounds kr ii_1 pa_1 hbm (by first | assumption | omega)) H.size) (cwV 3 hts (gV tw_1338 tw_1340 tw_61 tw_87 tw_1341) rfl rfl rfl (by decide +kernel) ⟨Nat.le_of_ble_eq_true rfl, Nat.le_of_ble_eq_true rfl⟩) (pV hS hAlo hlo hP hK (va_Dlo hD hAlo) hZ [8, 4, 5, 6, 7] (by decide) rfl (ci := 8) (q := (RX8, TX8, 44)) (q0 := 0) rfl rfl) rfl rfl hl.1 rfl (lv_room (Nat.le_of_ble_eq_true rfl)) dX8_drive_116 ⟨Nat.le_of_ble_eq_true rfl, Nat.le_of_ble_eq_true rfl⟩) hS hA hP (fun r_13 H locs hw_13 hP hS => ?_)
      try dsimp only at hw_13
      rcases hw_13 with ⟨rfl, hw_13⟩ | ⟨rfl, hw_13⟩
      · refine lv_if_eq (tgt := 135) hx hb dX8_drive_119 (by decide) (fun h => absurd h (by decide)) (fun _ => ?_)
        refine lv_iload hx hb dX8_drive_122 (lv_at hl 5 rfl) ?_
        refine lv_aload_n hx hb dX8_drive_124 rfl (lv_at hl 7 rfl) ?_
        refine lv_iload_n hx hb dX8_drive_125 rfl (lv_at hl 8 rfl) ?_
        refine lv_iload hx hb dX8_drive_126 (lv_at hl 4 rfl) ?_
        refine lv_iload hx hb dX8_drive_128 (lv_at hl 3 rfl) ?_
        refine ro_i (D := D) (va_runV (As := [.int (nI sn), .int (nI rr_1), .int (nI ii_1)]) (rest := [.int co_1]) ⟨hx, hb, hml, hown, hts⟩ ((n_takingOf l D k st lo a tx t0 we rd ru rw ca fp wd nu na ts df db (nI sd__3) dn se tm gs fprices sn ii_1 (nI rr_1) (by first | assumption | omega) (by first | assumption | omega)) H.size) (cwV 3 hts (gV tw_1222 tw_1224 tw_43 tw_87 tw_1225) rfl rfl rfl (by decide +kernel) ⟨Nat.le_of_ble_eq_true rfl, Nat.le_of_ble_eq_true rfl⟩) (pV hS hAlo hlo hP hK (va_Dlo hD hAlo) hZ [8, 0, 1, 3] (by decide) rfl (ci := 8) (q := (RX8, TX8, 44)) (q0 := 0) rfl rfl) rfl rfl hl.1 rfl (lv_room (Nat.le_of_ble_eq_true rfl)) dX8_drive_130 ⟨Nat.le_of_ble_eq_true rfl, Nat.le_of_ble_eq_true rfl⟩) hS hA hP (fun r_14 H locs hw_14 hP hS => ?_)
        try dsimp only at hw_14
        refine lv_iadd hx hb dX8_drive_133 ?_
        refine lv_topi (fun x_15 ex_15 => ?_)
        have hP9 := hP.sub (ws' := [((a 0), .inr (8, (fX8 a (nI tx) fp (nI t0) wd (nI we) nu na (nI rd) ts (nI ru) (nI rw) (nI ca) df db (nI sd__3)))), (aI k (a 1) 3 (nF dn)), (aI k (a 4) 27 (sg se tm gs)), (aI k (a 2) 72 ffrees), (aI k (a 3) 72 fprices), (aI k (a 25) 4 (nF bm)), (aI k (a 26) 48 fbarSeen), (aI k (a 27) 48 fbarFrom), (aI k (a 28) 4 fruleRounds)]) [8, 0, 1, 2, 3, 4, 5, 6, 7] rfl
        have hD9 := hD.sub (ws' := [((a 0), .inr (8, (fX8 a (nI tx) fp (nI t0) wd (nI we) nu na (nI rd) ts (nI ru) (nI rw) (nI ca) df db (nI sd__3)))), (aI k (a 1) 3 (nF dn)), (aI k (a 4) 27 (sg se tm gs)), (aI k (a 2) 72 ffrees), (aI k (a 3) 72 fprices), (aI k (a 25) 4 (nF bm)), (aI k (a 26) 48 fbarSeen), (aI k (a 27) 48 fbarFrom), (aI k (a 28) 4 fruleRounds)]) [8, 0, 1, 2, 3, 4, 5, 6, 7] (by decide +kernel) rfl
        exact W.iret (v := x_15) hx hb hr (fun t ht hW => ⟨⟨x_15, sd__3, rfl, ⟨evx_t hv_1.2.2.2 (show ii_1 < dn sn by omega) hdc_12 hw_13 (by rw [ex_15, hw_14]; exact congrArg (fun z => co_1 + z) (mTake (dn := dn) (se := se) (tm := tm) (gs := gs) (ffr := ffrees) (fpr := fprices) (s := sn) (r := rr_1) (i := ii_1) (show ii_1 < dn sn by omega))) hsv_4, hsl_4⟩, by rw [ht]; exact hP9, hD9⟩, hS.F ht⟩) hS.2.2 dX8_drive_134
      · refine lv_if_eq (tgt := 135) hx hb dX8_drive_119 (by decide) (fun _ => ?_) (fun h => absurd (by decide) h)
        refine lv_iload hx hb dX8_drive_135 (lv_at hl 5 rfl) ?_
        refine lv_aload_n hx hb dX8_drive_137 rfl (lv_at hl 7 rfl) ?_
        refine lv_iload_n hx hb dX8_drive_138 rfl (lv_at hl 8 rfl) ?_
        refine lv_iconst (v := 2) hx hb dX8_drive_139 (by decide) ?_
        refine ro_i (D := D) (va_runV (As := [.int (nI sn), .int 2]) (rest := [.int co_1]) ⟨hx, hb, hml, hown, hts⟩ ((m_of l D k st lo a tx t0 we rd ru rw ca fp wd nu na ts df db (nI sd__3) se tm gs sn 2 (by first | assumption | omega) (by first | assumption | omega)) H.size) (cwV 2 hts (gV tw_1194 tw_1196 tw_39 tw_87 tw_1197) rfl rfl rfl (by decide +kernel) ⟨Nat.le_of_ble_eq_true rfl, Nat.le_of_ble_eq_true rfl⟩) (pV hS hAlo hlo hP hK (va_Dlo hD hAlo) hZ [8, 1] (by decide) rfl (ci := 8) (q := (RX8, TX8, 44)) (q0 := 0) rfl rfl) rfl rfl hl.1 rfl (lv_room (Nat.le_of_ble_eq_true rfl)) dX8_drive_140 ⟨Nat.le_of_ble_eq_true rfl, Nat.le_of_ble_eq_true rfl⟩) hS hA hP (fun r_16 H locs hw_16 hP hS => ?_)
        try dsimp only at hw_16
        refine lv_sipush (v := 1000) hx hb dX8_drive_143 (by decide) ?_
        refine lv_imul hx hb dX8_drive_146 ?_
        refine lv_topi (fun x_17 ex_17 => ?_)
        refine lv_iadd hx hb dX8_drive_147 ?_
        refine lv_topi (fun x_18 ex_18 => ?_)
        refine lv_istore (lv' := [(4, .int x_18), (9, .int 1), (8, .int ah_1), (7, .int (nI pa_1)), (6, .int (nI ii_1)), (5, .int (nI rr_1)), (3, .int (nI (dn sn))), (0, .ref (a 0)), (1, .int (nI sn)), (2, .int (nI kr))]) hx hb dX8_drive_148 hl (by decide) rfl (fun ls hl => ?_)
        have hev_19 := evx_p hv_1.2.2.2 (show ii_1 < dn sn by omega) hdc_12 hw_13 (c2 := x_18) (by rw [ex_18, ex_17, hw_16, mPass (dn := dn) (ffr := ffrees) (fpr := fprices)]) hsv_4
        refine lv_iload hx hb dX8_drive_150 (lv_at hl 3 rfl) ?_
        refine lv_iload hx hb dX8_drive_152 (lv_at hl 1 rfl) ?_
        refine lv_if_eq (tgt := 161) hx hb dX8_drive_154 (by decide) (fun h => absurd h (by decide)) (fun _ => ?_)
        refine lv_iconst (v := 1) hx hb dX8_drive_157 (by decide) ?_
        refine lv_goto (tgt := 162) hx hb dX8_drive_158 (by decide) ?_
        refine lv_iadd hx hb dX8_drive_162 ?_
        refine lv_ti (y := (nI (pa_1 + 1))) (nI_add pa_1 1) ?_
        refine lv_istore (lv' := [(7, .int (nI (pa_1 + 1))), (4, .int x_18), (9, .int 1), (8, .int ah_1), (6, .int (nI ii_1)), (5, .int (nI rr_1)), (3, .int (nI (dn sn))), (0, .ref (a 0)), (1, .int (nI sn)), (2, .int (nI kr))]) hx hb dX8_drive_163 hl (by decide) rfl (fun ls hl => ?_)
        refine lv_iload hx hb dX8_drive_165 (lv_at hl 2 rfl) ?_
        refine lv_istore (lv' := [(8, .int 1), (7, .int (nI (pa_1 + 1))), (4, .int x_18), (9, .int 1), (6, .int (nI ii_1)), (5, .int (nI rr_1)), (3, .int (nI (dn sn))), (0, .ref (a 0)), (1, .int (nI sn)), (2, .int (nI kr))]) hx hb dX8_drive_167 hl (by decide) rfl (fun ls hl => ?_)
        refine lv_iinc (v := (nI (ii_1 + 1))) (lv' := [(6, .int (nI (ii_1 + 1))), (8, .int 1), (7, .int (nI (pa_1 + 1))), (4, .int x_18), (9, .int 1), (5, .int (nI rr_1)), (3, .int (nI (dn sn))), (0, .ref (a 0)), (1, .int (nI sn)), (2, .int (nI kr))]) hx hb dX8_drive_169 hl (k := 4) rfl (nI_add ii_1 1) (by decide) rfl (fun ls hl => ?_)
        refine lv_goto (tgt := 22) hx hb dX8_drive_172 (by decide) ?_
        exact ih_1 _ (x_18, rr_1, ii_1 + 1, pa_1 + 1, 1, sd__3) _ _ _ (by omega) ⟨rfl, ⟨by omega, by omega, hsl_4, hev_19⟩, (hP.sub [8, 0, 1, 2, 3, 4, 5, 6, 7] rfl), (hD.sub [8, 0, 1, 2, 3, 4, 5, 6, 7] (by decide +kernel) rfl), hS, (lv_sub hl [1, 2, 0, 5, 3, 6, 7, 8, 9] rfl)⟩
  · have c_2 := (nI_eq (a := ii_1) (b := (dn sn)) (by omega) (by omega)).mp c_2
    refine lv_aload_n hx hb dX8_drive_28 rfl (lv_at hl 6 rfl) ?_
    refine lv_iload_n hx hb dX8_drive_29 rfl (lv_at hl 7 rfl) ?_
    refine lv_iload_n hx hb dX8_drive_30 rfl (lv_at hl 8 rfl) ?_
    refine lv_iload hx hb dX8_drive_31 (lv_at hl 3 rfl) ?_
    refine ro_i (D := D) (va_runV (As := [.int (nI sn), .int (nI kr), .int (nI rr_1)]) (rest := []) ⟨hx, hb, hml, hown, hts⟩ ((n_isRoundBy l D k st lo a tx t0 we rd ru rw ca fp wd nu na ts df db (nI sd2_1) se tm gs fruleRounds sn kr rr_1 rx htm (by first | assumption | omega) (by first | assumption | omega) (by first | assumption | omega) hrx (by first | assumption | omega)) H.size) (cwV 3 hts (gV tw_1329 tw_1331 tw_59 tw_87 tw_1332) rfl rfl rfl (by decide +kernel) ⟨Nat.le_of_ble_eq_true rfl, Nat.le_of_ble_eq_true rfl⟩) (pV hS hAlo hlo hP hK (va_Dlo hD hAlo) hZ [0, 2, 8] (by decide) rfl (ci := 8) (q := (RX8, TX8, 44)) (q0 := 0) rfl rfl) rfl rfl hl.1 rfl (lv_room (Nat.le_of_ble_eq_true rfl)) dX8_drive_33 ⟨Nat.le_of_ble_eq_true rfl, Nat.le_of_ble_eq_true rfl⟩) hS hA hP (fun r_20 H locs hw_20 hP hS => ?_)
    try dsimp only at hw_20
    rcases hw_20 with ⟨rfl, hw_20⟩ | ⟨rfl, hw_20⟩
    · refine lv_if_ne (tgt := 50) hx hb dX8_drive_36 (by decide) (fun _ => ?_) (fun h => absurd h (by decide))
      refine lv_iload hx hb dX8_drive_50 (lv_at hl 4 rfl) ?_
      refine lv_aload_n hx hb dX8_drive_52 rfl (lv_at hl 6 rfl) ?_
      refine lv_iload_n hx hb dX8_drive_53 rfl (lv_at hl 7 rfl) ?_
      refine lv_iconst (v := 2) hx hb dX8_drive_54 (by decide) ?_
      refine ro_i (D := D) (va_runV (As := [.int (nI sn), .int 2]) (rest := [.int co_1]) ⟨hx, hb, hml, hown, hts⟩ ((m_of l D k st lo a tx t0 we rd ru rw ca fp wd nu na ts df db (nI sd2_1) se tm gs sn 2 (by first | assumption | omega) (by first | assumption | omega)) H.size) (cwV 2 hts (gV tw_1194 tw_1196 tw_39 tw_87 tw_1197) rfl rfl rfl (by decide +kernel) ⟨Nat.le_of_ble_eq_true rfl, Nat.le_of_ble_eq_true rfl⟩) (pV hS hAlo hlo hP hK (va_Dlo hD hAlo) hZ [0, 2] (by decide) rfl (ci := 8) (q := (RX8, TX8, 44)) (q0 := 0) rfl rfl) rfl rfl hl.1 rfl (lv_room (Nat.le_of_ble_eq_true rfl)) dX8_drive_55 ⟨Nat.le_of_ble_eq_true rfl, Nat.le_of_ble_eq_true rfl⟩) hS hA hP (fun r_21 H locs hw_21 hP hS => ?_)
      try dsimp only at hw_21
      refine lv_aload_n hx hb dX8_drive_58 rfl (lv_at hl 6 rfl) ?_
      refine lv_iload_n hx hb dX8_drive_59 rfl (lv_at hl 7 rfl) ?_
      refine lv_bipush (v := 6) hx hb dX8_drive_60 (by decide) ?_
      refine ro_i (D := D) (va_runV (As := [.int (nI sn), .int 6]) (rest := [.int r_21, .int co_1]) ⟨hx, hb, hml, hown, hts⟩ ((m_of l D k st lo a tx t0 we rd ru rw ca fp wd nu na ts df db (nI sd2_1) se tm gs sn 6 (by first | assumption | omega) (by first | assumption | omega)) H.size) (cwV 2 hts (gV tw_1194 tw_1196 tw_39 tw_87 tw_1197) rfl rfl rfl (by decide +kernel) ⟨Nat.le_of_ble_eq_true rfl, Nat.le_of_ble_eq_true rfl⟩) (pV hS hAlo hlo hP hK (va_Dlo hD hAlo) hZ [0, 2] (by decide) rfl (ci := 8) (q := (RX8, TX8, 44)) (q0 := 0) rfl rfl) rfl rfl hl.1 rfl (lv_room (Nat.le_of_ble_eq_true rfl)) dX8_drive_62 ⟨Nat.le_of_ble_eq_true rfl, Nat.le_of_ble_eq_true rfl⟩) hS hA hP (fun r_22 H locs hw_22 hP hS => ?_)
      try dsimp only at hw_22
      refine lv_imul hx hb dX8_drive_65 ?_
      refine lv_topi (fun x_23 ex_23 => ?_)
      refine lv_sipush (v := 1000) hx hb dX8_drive_66 (by decide) ?_
      refine lv_imul hx hb dX8_drive_69 ?_
      refine lv_topi (fun x_24 ex_24 => ?_)
      refine lv_iadd hx hb dX8_drive_70 ?_
      refine lv_topi (fun x_25 ex_25 => ?_)
      refine lv_istore (lv' := [(4, .int x_25), (8, .int ah_1), (7, .int (nI pa_1)), (6, .int (nI ii_1)), (5, .int (nI rr_1)), (3, .int (nI (dn sn))), (0, .ref (a 0)), (1, .int (nI sn)), (2, .int (nI kr))]) hx hb dX8_drive_71 hl (by decide) rfl (fun ls hl => ?_)
      refine lv_iinc (v := (nI (rr_1 + 1))) (lv' := [(5, .int (nI (rr_1 + 1))), (4, .int x_25), (8, .int ah_1), (7, .int (nI pa_1)), (6, .int (nI ii_1)), (3, .int (nI (dn sn))), (0, .ref (a 0)), (1, .int (nI sn)), (2, .int (nI kr))]) hx hb dX8_drive_73 hl (k := 4) rfl (nI_add rr_1 1) (by decide) rfl (fun ls hl => ?_)
      refine lv_iconst (v := 0) hx hb dX8_drive_76 (by decide) ?_
      refine lv_istore (lv' := [(6, .int 0), (5, .int (nI (rr_1 + 1))), (4, .int x_25), (8, .int ah_1), (7, .int (nI pa_1)), (3, .int (nI (dn sn))), (0, .ref (a 0)), (1, .int (nI sn)), (2, .int (nI kr))]) hx hb dX8_drive_77 hl (by decide) rfl (fun ls hl => ?_)
      refine lv_iconst (v := 0) hx hb dX8_drive_79 (by decide) ?_
      refine lv_istore (lv' := [(7, .int 0), (6, .int 0), (5, .int (nI (rr_1 + 1))), (4, .int x_25), (8, .int ah_1), (3, .int (nI (dn sn))), (0, .ref (a 0)), (1, .int (nI sn)), (2, .int (nI kr))]) hx hb dX8_drive_80 hl (by decide) rfl (fun ls hl => ?_)
      have hE_26 := evx_0 (a2 := ah_1) (evx_r hv_1.2.2.2 (show ¬ ii_1 < dn sn by omega) (show rr_1 < (min rx (tm sn)) by omega) (c2 := x_25) (by rw [ex_25, ex_24, ex_23, hw_21, hw_22, mRnd (dn := dn) (ffr := ffrees) (fpr := fprices)]))
      refine lv_aload_n hx hb dX8_drive_82 rfl (lv_at hl 6 rfl) ?_
      refine rw_i (D := D) (wr := [(aI k (a 1) 3 (nF dn)), (aI k (a 4) 27 (sg se tm gs)), (aI k (a 2) 72 ffrees), (aI k (a 3) 72 fprices), (aI k (a 25) 4 (nF bm)), (aI k (a 26) 48 fbarSeen), (aI k (a 27) 48 fbarFrom), (aI k (a 28) 4 fruleRounds)]) (va_runV (As := []) (rest := []) ⟨hx, hb, hml, hown, hts⟩ ((n_draw l D k st lo a tx t0 we rd ru rw ca fp wd nu na ts df db sd2_1 (by first | assumption | omega)) H.size) (cwV 0 hts (gV tw_1480 tw_1482 tw_77 tw_87 tw_1483) rfl rfl rfl (by decide +kernel) ⟨Nat.le_of_ble_eq_true rfl, Nat.le_of_ble_eq_true rfl⟩) (pV hS hAlo hlo hP hK (va_Dlo hD hAlo) hZ [0] (by decide) rfl (ci := 8) (q := (RX8, TX8, 44)) (q0 := 0) rfl rfl) rfl rfl hl.1 rfl (lv_room (Nat.le_of_ble_eq_true rfl)) dX8_drive_83 ⟨Nat.le_of_ble_eq_true rfl, Nat.le_of_ble_eq_true rfl⟩) hS hA hP hD [0] [1, 2, 3, 4, 5, 6, 7, 8] rfl rfl (by decide) (by decide) (fun r_27 u H locs hw_27 hP hD hS => ?_)
      obtain ⟨sd__27, rfl⟩ : ∃ z, z = u := ⟨_, rfl⟩
      replace hP : va_P D classes [(aI k (a 1) 3 (nF dn)), (aI k (a 4) 27 (sg se tm gs)), (aI k (a 2) 72 ffrees), (aI k (a 3) 72 fprices), (aI k (a 25) 4 (nF bm)), (aI k (a 26) 48 fbarSeen), (aI k (a 27) 48 fbarFrom), (aI k (a 28) 4 fruleRounds), ((a 0), .inr (8, (fX8 a (nI tx) fp (nI t0) wd (nI we) nu na (nI rd) ts (nI ru) (nI rw) (nI ca) df db (nI sd__27))))] H := hP
      replace hD : va_D A [(aI k (a 1) 3 (nF dn)), (aI k (a 4) 27 (sg se tm gs)), (aI k (a 2) 72 ffrees), (aI k (a 3) 72 fprices), (aI k (a 25) 4 (nF bm)), (aI k (a 26) 48 fbarSeen), (aI k (a 27) 48 fbarFrom), (aI k (a 28) 4 fruleRounds), ((a 0), .inr (8, (fX8 a (nI tx) fp (nI t0) wd (nI we) nu na (nI rd) ts (nI ru) (nI rw) (nI ca) df db (nI sd__27))))] := hD
      try dsimp only at hw_27
      obtain ⟨hrv_28, hsv_28⟩ := hw_27
      have hsl_28 : sd__27 < 2147483648 := by rw [hsv_28]; exact drN_lt
      refine lv_aload_n hx hb dX8_drive_86 rfl (lv_at hl 6 rfl) ?_
      refine lv_iload_n hx hb dX8_drive_87 rfl (lv_at hl 7 rfl) ?_
      refine lv_iload hx hb dX8_drive_88 (lv_at hl 1 rfl) ?_
      refine lv_iload hx hb dX8_drive_90 (lv_at hl 4 rfl) ?_
      refine ro_i (D := D) (va_runV (As := [.int (nI sn), .int 0, .int ah_1]) (rest := [.int r_27]) ⟨hx, hb, hml, hown, hts⟩ ((n_chanceOf l D k st lo a tx t0 we rd ru rw ca fp wd nu na ts df db (nI sd__27) ffrees se tm gs sn 0 ah_1 (by first | assumption | omega) (by first | assumption | omega)) H.size) (cwV 3 hts (gV tw_1210 tw_1212 tw_41 tw_87 tw_1213) rfl rfl rfl (by decide +kernel) ⟨Nat.le_of_ble_eq_true rfl, Nat.le_of_ble_eq_true rfl⟩) (pV hS hAlo hlo hP hK (va_Dlo hD hAlo) hZ [8, 2, 1] (by decide) rfl (ci := 8) (q := (RX8, TX8, 44)) (q0 := 0) rfl rfl) rfl rfl hl.1 rfl (lv_room (Nat.le_of_ble_eq_true rfl)) dX8_drive_92 ⟨Nat.le_of_ble_eq_true rfl, Nat.le_of_ble_eq_true rfl⟩) hS hA hP (fun r_29 H locs hw_29 hP hS => ?_)
      try dsimp only at hw_29
      refine lv_icmp_ge (tgt := 102) hx hb dX8_drive_95 (by decide) (fun c_30 => ?_) (fun c_30 => ?_)
      · have hdc_31 : ¬ nI (drN sd2_1 / 65536 % 100) < pChance (sdM dn (sg se tm gs) ffrees fprices sn) 0 ah_1 := by rw [← hrv_28, ← mChance (dn := dn) (se := se) (tm := tm) (gs := gs) (ffr := ffrees) (fpr := fprices) (show 0 < dn sn by omega), ← hw_29]; exact Int32.not_lt.mpr c_30
        refine lv_iconst (v := 0) hx hb dX8_drive_102 (by decide) ?_
        refine lv_istore (lv' := [(9, .int 0), (7, .int 0), (6, .int 0), (5, .int (nI (rr_1 + 1))), (4, .int x_25), (8, .int ah_1), (3, .int (nI (dn sn))), (0, .ref (a 0)), (1, .int (nI sn)), (2, .int (nI kr))]) hx hb dX8_drive_103 hl (by decide) rfl (fun ls hl => ?_)
        refine lv_iload hx hb dX8_drive_105 (lv_at hl 0 rfl) ?_
        refine lv_if_eq (tgt := 135) hx hb dX8_drive_107 (by decide) (fun _ => ?_) (fun h => absurd (by decide) h)
        refine lv_iload hx hb dX8_drive_135 (lv_at hl 4 rfl) ?_
        refine lv_aload_n hx hb dX8_drive_137 rfl (lv_at hl 7 rfl) ?_
        refine lv_iload_n hx hb dX8_drive_138 rfl (lv_at hl 8 rfl) ?_
        refine lv_iconst (v := 2) hx hb dX8_drive_139 (by decide) ?_
        refine ro_i (D := D) (va_runV (As := [.int (nI sn), .int 2]) (rest := [.int x_25]) ⟨hx, hb, hml, hown, hts⟩ ((m_of l D k st lo a tx t0 we rd ru rw ca fp wd nu na ts df db (nI sd__27) se tm gs sn 2 (by first | assumption | omega) (by first | assumption | omega)) H.size) (cwV 2 hts (gV tw_1194 tw_1196 tw_39 tw_87 tw_1197) rfl rfl rfl (by decide +kernel) ⟨Nat.le_of_ble_eq_true rfl, Nat.le_of_ble_eq_true rfl⟩) (pV hS hAlo hlo hP hK (va_Dlo hD hAlo) hZ [8, 1] (by decide) rfl (ci := 8) (q := (RX8, TX8, 44)) (q0 := 0) rfl rfl) rfl rfl hl.1 rfl (lv_room (Nat.le_of_ble_eq_true rfl)) dX8_drive_140 ⟨Nat.le_of_ble_eq_true rfl, Nat.le_of_ble_eq_true rfl⟩) hS hA hP (fun r_32 H locs hw_32 hP hS => ?_)
        try dsimp only at hw_32
        refine lv_sipush (v := 1000) hx hb dX8_drive_143 (by decide) ?_
        refine lv_imul hx hb dX8_drive_146 ?_
        refine lv_topi (fun x_33 ex_33 => ?_)
        refine lv_iadd hx hb dX8_drive_147 ?_
        refine lv_topi (fun x_34 ex_34 => ?_)
        refine lv_istore (lv' := [(4, .int x_34), (9, .int 0), (7, .int 0), (6, .int 0), (5, .int (nI (rr_1 + 1))), (8, .int ah_1), (3, .int (nI (dn sn))), (0, .ref (a 0)), (1, .int (nI sn)), (2, .int (nI kr))]) hx hb dX8_drive_148 hl (by decide) rfl (fun ls hl => ?_)
        have hev_35 := evx_n hE_26 (show 0 < dn sn by omega) hdc_31 (c2 := x_34) (by rw [ex_34, ex_33, hw_32, mPass (dn := dn) (ffr := ffrees) (fpr := fprices)]) hsv_28
        refine lv_iload hx hb dX8_drive_150 (lv_at hl 2 rfl) ?_
        refine lv_iload hx hb dX8_drive_152 (lv_at hl 1 rfl) ?_
        refine lv_if_eq (tgt := 161) hx hb dX8_drive_154 (by decide) (fun _ => ?_) (fun h => absurd (by decide) h)
        refine lv_iconst (v := 0) hx hb dX8_drive_161 (by decide) ?_
        refine lv_iadd hx hb dX8_drive_162 ?_
        refine lv_ti (y := 0) (by decide) ?_
        refine lv_istore (lv' := [(7, .int 0), (4, .int x_34), (9, .int 0), (6, .int 0), (5, .int (nI (rr_1 + 1))), (8, .int ah_1), (3, .int (nI (dn sn))), (0, .ref (a 0)), (1, .int (nI sn)), (2, .int (nI kr))]) hx hb dX8_drive_163 hl (by decide) rfl (fun ls hl => ?_)
        refine lv_iload hx hb dX8_drive_165 (lv_at hl 2 rfl) ?_
        refine lv_istore (lv' := [(8, .int 0), (7, .int 0), (4, .int x_34), (9, .int 0), (6, .int 0), (5, .int (nI (rr_1 + 1))), (3, .int (nI (dn sn))), (0, .ref (a 0)), (1, .int (nI sn)), (2, .int (nI kr))]) hx hb dX8_drive_167 hl (by decide) rfl (fun ls hl => ?_)
        refine lv_iinc (v := 1) (lv' := [(6, .int 1), (8, .int 0), (7, .int 0), (4, .int x_34), (9, .int 0), (5, .int (nI (rr_1 + 1))), (3, .int (nI (dn sn))), (0, .ref (a 0)), (1, .int (nI sn)), (2, .int (nI kr))]) hx hb dX8_drive_169 hl (k := 4) rfl (by decide) (by decide) rfl (fun ls hl => ?_)
        refine lv_goto (tgt := 22) hx hb dX8_drive_172 (by decide) ?_
        exact ih_1 _ (x_34, rr_1 + 1, 1, 0, 0, sd__27) _ _ _ (by omega) ⟨rfl, ⟨by omega, by omega, hsl_28, hev_35⟩, (hP.sub [8, 0, 1, 2, 3, 4, 5, 6, 7] rfl), (hD.sub [8, 0, 1, 2, 3, 4, 5, 6, 7] (by decide +kernel) rfl), hS, (lv_sub hl [1, 2, 0, 5, 3, 6, 7, 8, 9] rfl)⟩
      · have hdc_36 : nI (drN sd2_1 / 65536 % 100) < pChance (sdM dn (sg se tm gs) ffrees fprices sn) 0 ah_1 := by rw [← hrv_28, ← mChance (dn := dn) (se := se) (tm := tm) (gs := gs) (ffr := ffrees) (fpr := fprices) (show 0 < dn sn by omega), ← hw_29]; exact Int32.not_le.mp c_30
        refine lv_iconst (v := 1) hx hb dX8_drive_98 (by decide) ?_
        refine lv_goto (tgt := 103) hx hb dX8_drive_99 (by decide) ?_
        refine lv_istore (lv' := [(9, .int 1), (7, .int 0), (6, .int 0), (5, .int (nI (rr_1 + 1))), (4, .int x_25), (8, .int ah_1), (3, .int (nI (dn sn))), (0, .ref (a 0)), (1, .int (nI sn)), (2, .int (nI kr))]) hx hb dX8_drive_103 hl (by decide) rfl (fun ls hl => ?_)
        refine lv_iload hx hb dX8_drive_105 (lv_at hl 0 rfl) ?_
        refine lv_if_eq (tgt := 135) hx hb dX8_drive_107 (by decide) (fun h => absurd h (by decide)) (fun _ => ?_)
        refine lv_aload_n hx hb dX8_drive_110 rfl (lv_at hl 7 rfl) ?_
        refine lv_iload_n hx hb dX8_drive_111 rfl (lv_at hl 9 rfl) ?_
        refine lv_iload hx hb dX8_drive_112 (lv_at hl 2 rfl) ?_
        refine lv_iload hx hb dX8_drive_114 (lv_at hl 1 rfl) ?_
        refine ro_i (D := D) (va_runV (As := [.int (nI kr), .int 0, .int 0]) (rest := []) ⟨hx, hb, hml, hown, hts⟩ ((n_isFor l D k st lo a tx t0 we rd ru rw ca fp wd nu na ts df db (nI sd__27) bm fbarSeen fbarFrom fruleRounds kr 0 0 hbm (by first | assumption | omega)) H.size) (cwV 3 hts (gV tw_1338 tw_1340 tw_61 tw_87 tw_1341) rfl rfl rfl (by decide +kernel) ⟨Nat.le_of_ble_eq_true rfl, Nat.le_of_ble_eq_true rfl⟩) (pV hS hAlo hlo hP hK (va_Dlo hD hAlo) hZ [8, 4, 5, 6, 7] (by decide) rfl (ci := 8) (q := (RX8, TX8, 44)) (q0 := 0) rfl rfl) rfl rfl hl.1 rfl (lv_room (Nat.le_of_ble_eq_true rfl)) dX8_drive_116 ⟨Nat.le_of_ble_eq_true rfl, Nat.le_of_ble_eq_true rfl⟩) hS hA hP (fun r_37 H locs hw_37 hP hS => ?_)
        try dsimp only at hw_37
        rcases hw_37 with ⟨rfl, hw_37⟩ | ⟨rfl, hw_37⟩
        · refine lv_if_eq (tgt := 135) hx hb dX8_drive_119 (by decide) (fun h => absurd h (by decide)) (fun _ => ?_)
          refine lv_iload hx hb dX8_drive_122 (lv_at hl 4 rfl) ?_
          refine lv_aload_n hx hb dX8_drive_124 rfl (lv_at hl 7 rfl) ?_
          refine lv_iload_n hx hb dX8_drive_125 rfl (lv_at hl 8 rfl) ?_
          refine lv_iload hx hb dX8_drive_126 (lv_at hl 3 rfl) ?_
          refine lv_iload hx hb dX8_drive_128 (lv_at hl 2 rfl) ?_
          refine ro_i (D := D) (va_runV (As := [.int (nI sn), .int (nI (rr_1 + 1)), .int 0]) (rest := [.int x_25]) ⟨hx, hb, hml, hown, hts⟩ ((n_takingOf l D k st lo a tx t0 we rd ru rw ca fp wd nu na ts df db (nI sd__27) dn se tm gs fprices sn 0 (nI (rr_1 + 1)) (by first | assumption | omega) (by first | assumption | omega)) H.size) (cwV 3 hts (gV tw_1222 tw_1224 tw_43 tw_87 tw_1225) rfl rfl rfl (by decide +kernel) ⟨Nat.le_of_ble_eq_true rfl, Nat.le_of_ble_eq_true rfl⟩) (pV hS hAlo hlo hP hK (va_Dlo hD hAlo) hZ [8, 0, 1, 3] (by decide) rfl (ci := 8) (q := (RX8, TX8, 44)) (q0 := 0) rfl rfl) rfl rfl hl.1 rfl (lv_room (Nat.le_of_ble_eq_true rfl)) dX8_drive_130 ⟨Nat.le_of_ble_eq_true rfl, Nat.le_of_ble_eq_true rfl⟩) hS hA hP (fun r_38 H locs hw_38 hP hS => ?_)
          try dsimp only at hw_38
          refine lv_iadd hx hb dX8_drive_133 ?_
          refine lv_topi (fun x_39 ex_39 => ?_)
          have hP9 := hP.sub (ws' := [((a 0), .inr (8, (fX8 a (nI tx) fp (nI t0) wd (nI we) nu na (nI rd) ts (nI ru) (nI rw) (nI ca) df db (nI sd__27)))), (aI k (a 1) 3 (nF dn)), (aI k (a 4) 27 (sg se tm gs)), (aI k (a 2) 72 ffrees), (aI k (a 3) 72 fprices), (aI k (a 25) 4 (nF bm)), (aI k (a 26) 48 fbarSeen), (aI k (a 27) 48 fbarFrom), (aI k (a 28) 4 fruleRounds)]) [8, 0, 1, 2, 3, 4, 5, 6, 7] rfl
          have hD9 := hD.sub (ws' := [((a 0), .inr (8, (fX8 a (nI tx) fp (nI t0) wd (nI we) nu na (nI rd) ts (nI ru) (nI rw) (nI ca) df db (nI sd__27)))), (aI k (a 1) 3 (nF dn)), (aI k (a 4) 27 (sg se tm gs)), (aI k (a 2) 72 ffrees), (aI k (a 3) 72 fprices), (aI k (a 25) 4 (nF bm)), (aI k (a 26) 48 fbarSeen), (aI k (a 27) 48 fbarFrom), (aI k (a 28) 4 fruleRounds)]) [8, 0, 1, 2, 3, 4, 5, 6, 7] (by decide +kernel) rfl
          exact W.iret (v := x_39) hx hb hr (fun t ht hW => ⟨⟨x_39, sd__27, rfl, ⟨evx_t hE_26 (show 0 < dn sn by omega) hdc_36 hw_37 (by rw [ex_39, hw_38]; exact congrArg (fun z => x_25 + z) (mTake (dn := dn) (se := se) (tm := tm) (gs := gs) (ffr := ffrees) (fpr := fprices) (s := sn) (r := (rr_1 + 1)) (i := 0) (show 0 < dn sn by omega))) hsv_28, hsl_28⟩, by rw [ht]; exact hP9, hD9⟩, hS.F ht⟩) hS.2.2 dX8_drive_134
        · refine lv_if_eq (tgt := 135) hx hb dX8_drive_119 (by decide) (fun _ => ?_) (fun h => absurd (by decide) h)
          refine lv_iload hx hb dX8_drive_135 (lv_at hl 4 rfl) ?_
          refine lv_aload_n hx hb dX8_drive_137 rfl (lv_at hl 7 rfl) ?_
          refine lv_iload_n hx hb dX8_drive_138 rfl (lv_at hl 8 rfl) ?_
          refine lv_iconst (v := 2) hx hb dX8_drive_139 (by decide) ?_
          refine ro_i (D := D) (va_runV (As := [.int (nI sn), .int 2]) (rest := [.int x_25]) ⟨hx, hb, hml, hown, hts⟩ ((m_of l D k st lo a tx t0 we rd ru rw ca fp wd nu na ts df db (nI sd__27) se tm gs sn 2 (by first | assumption | omega) (by first | assumption | omega)) H.size) (cwV 2 hts (gV tw_1194 tw_1196 tw_39 tw_87 tw_1197) rfl rfl rfl (by decide +kernel) ⟨Nat.le_of_ble_eq_true rfl, Nat.le_of_ble_eq_true rfl⟩) (pV hS hAlo hlo hP hK (va_Dlo hD hAlo) hZ [8, 1] (by decide) rfl (ci := 8) (q := (RX8, TX8, 44)) (q0 := 0) rfl rfl) rfl rfl hl.1 rfl (lv_room (Nat.le_of_ble_eq_true rfl)) dX8_drive_140 ⟨Nat.le_of_ble_eq_true rfl, Nat.le_of_ble_eq_true rfl⟩) hS hA hP (fun r_40 H locs hw_40 hP hS => ?_)
          try dsimp only at hw_40
          refine lv_sipush (v := 1000) hx hb dX8_drive_143 (by decide) ?_
          refine lv_imul hx hb dX8_drive_146 ?_
          refine lv_topi (fun x_41 ex_41 => ?_)
          refine lv_iadd hx hb dX8_drive_147 ?_
          refine lv_topi (fun x_42 ex_42 => ?_)
          refine lv_istore (lv' := [(4, .int x_42), (9, .int 1), (7, .int 0), (6, .int 0), (5, .int (nI (rr_1 + 1))), (8, .int ah_1), (3, .int (nI (dn sn))), (0, .ref (a 0)), (1, .int (nI sn)), (2, .int (nI kr))]) hx hb dX8_drive_148 hl (by decide) rfl (fun ls hl => ?_)
          have hev_43 := evx_p hE_26 (show 0 < dn sn by omega) hdc_36 hw_37 (c2 := x_42) (by rw [ex_42, ex_41, hw_40, mPass (dn := dn) (ffr := ffrees) (fpr := fprices)]) hsv_28
          refine lv_iload hx hb dX8_drive_150 (lv_at hl 2 rfl) ?_
          refine lv_iload hx hb dX8_drive_152 (lv_at hl 1 rfl) ?_
          refine lv_if_eq (tgt := 161) hx hb dX8_drive_154 (by decide) (fun h => absurd h (by decide)) (fun _ => ?_)
          refine lv_iconst (v := 1) hx hb dX8_drive_157 (by decide) ?_
          refine lv_goto (tgt := 162) hx hb dX8_drive_158 (by decide) ?_
          refine lv_iadd hx hb dX8_drive_162 ?_
          refine lv_ti (y := 1) (by decide) ?_
          refine lv_istore (lv' := [(7, .int 1), (4, .int x_42), (9, .int 1), (6, .int 0), (5, .int (nI (rr_1 + 1))), (8, .int ah_1), (3, .int (nI (dn sn))), (0, .ref (a 0)), (1, .int (nI sn)), (2, .int (nI kr))]) hx hb dX8_drive_163 hl (by decide) rfl (fun ls hl => ?_)
          refine lv_iload hx hb dX8_drive_165 (lv_at hl 2 rfl) ?_
          refine lv_istore (lv' := [(8, .int 1), (7, .int 1), (4, .int x_42), (9, .int 1), (6, .int 0), (5, .int (nI (rr_1 + 1))), (3, .int (nI (dn sn))), (0, .ref (a 0)), (1, .int (nI sn)), (2, .int (nI kr))]) hx hb dX8_drive_167 hl (by decide) rfl (fun ls hl => ?_)
          refine lv_iinc (v := 1) (lv' := [(6, .int 1), (8, .int 1), (7, .int 1), (4, .int x_42), (9, .int 1), (5, .int (nI (rr_1 + 1))), (3, .int (nI (dn sn))), (0, .ref (a 0)), (1, .int (nI sn)), (2, .int (nI kr))]) hx hb dX8_drive_169 hl (k := 4) rfl (by decide) (by decide) rfl (fun ls hl => ?_)
          refine lv_goto (tgt := 22) hx hb dX8_drive_172 (by decide) ?_
          exact ih_1 _ (x_42, rr_1 + 1, 1, 1, 1, sd__27) _ _ _ (by omega) ⟨rfl, ⟨by omega, by omega, hsl_28, hev_43⟩, (hP.sub [8, 0, 1, 2, 3, 4, 5, 6, 7] rfl), (hD.sub [8, 0, 1, 2, 3, 4, 5, 6, 7] (by decide +kernel) rfl), hS, (lv_sub hl [1, 2, 0, 5, 3, 6, 7, 8, 9] rfl)⟩
    · refine lv_if_ne (tgt := 50) hx hb dX8_drive_36 (by decide) (fun h => absurd (by decide) h) (fun _ => ?_)
      refine lv_iload hx hb dX8_drive_39 (lv_at hl 4 rfl) ?_
      refine lv_aload_n hx hb dX8_drive_41 rfl (lv_at hl 6 rfl) ?_
      refine lv_iload_n hx hb dX8_drive_42 rfl (lv_at hl 7 rfl) ?_
      refine lv_iload hx hb dX8_drive_43 (lv_at hl 3 rfl) ?_
      refine ro_i (D := D) (va_runV (As := [.int (nI sn), .int (nI rr_1)]) (rest := [.int co_1]) ⟨hx, hb, hml, hown, hts⟩ ((n_garageOf l D k st lo a tx t0 we rd ru rw ca fp wd nu na ts df db (nI sd2_1) dn se tm gs sn (nI rr_1) (by first | assumption | omega)) H.size) (cwV 2 hts (gV tw_1258 tw_1260 tw_51 tw_87 tw_1261) rfl rfl rfl (by decide +kernel) ⟨Nat.le_of_ble_eq_true rfl, Nat.le_of_ble_eq_true rfl⟩) (pV hS hAlo hlo hP hK (va_Dlo hD hAlo) hZ [0, 1, 2] (by decide) rfl (ci := 8) (q := (RX8, TX8, 44)) (q0 := 0) rfl rfl) rfl rfl hl.1 rfl (lv_room (Nat.le_of_ble_eq_true rfl)) dX8_drive_45 ⟨Nat.le_of_ble_eq_true rfl, Nat.le_of_ble_eq_true rfl⟩) hS hA hP (fun r_44 H locs hw_44 hP hS => ?_)
      try dsimp only at hw_44
      refine lv_iadd hx hb dX8_drive_48 ?_
      refine lv_topi (fun x_45 ex_45 => ?_)
      have hP9 := hP.sub (ws' := [((a 0), .inr (8, (fX8 a (nI tx) fp (nI t0) wd (nI we) nu na (nI rd) ts (nI ru) (nI rw) (nI ca) df db (nI sd2_1)))), (aI k (a 1) 3 (nF dn)), (aI k (a 4) 27 (sg se tm gs)), (aI k (a 2) 72 ffrees), (aI k (a 3) 72 fprices), (aI k (a 25) 4 (nF bm)), (aI k (a 26) 48 fbarSeen), (aI k (a 27) 48 fbarFrom), (aI k (a 28) 4 fruleRounds)]) [0, 1, 2, 3, 4, 5, 6, 7, 8] rfl
      have hD9 := hD.sub (ws' := [((a 0), .inr (8, (fX8 a (nI tx) fp (nI t0) wd (nI we) nu na (nI rd) ts (nI ru) (nI rw) (nI ca) df db (nI sd2_1)))), (aI k (a 1) 3 (nF dn)), (aI k (a 4) 27 (sg se tm gs)), (aI k (a 2) 72 ffrees), (aI k (a 3) 72 fprices), (aI k (a 25) 4 (nF bm)), (aI k (a 26) 48 fbarSeen), (aI k (a 27) 48 fbarFrom), (aI k (a 28) 4 fruleRounds)]) [0, 1, 2, 3, 4, 5, 6, 7, 8] (by decide +kernel) rfl
      exact W.iret (v := x_45) hx hb hr (fun t ht hW => ⟨⟨x_45, sd2_1, rfl, ⟨evx_e hv_1.2.2.2 (show ¬ ii_1 < dn sn by omega) hw_20 (by rw [ex_45, hw_44]; exact congrArg (fun z => co_1 + z) (mGar (dn := dn) (se := se) (tm := tm) (gs := gs) (ffr := ffrees) (fpr := fprices) (s := sn) (r := rr_1))), hv_1.2.2.1⟩, by rw [ht]; exact hP9, hD9⟩, hS.F ht⟩) hS.2.2 dX8_drive_49


set_option maxHeartbeats 4000000 in
set_option maxRecDepth 100000 in
theorem n_evening (l : Launch) (D : va_G) (k : Nat → ClassId) (st : Nat → Nat) (lo : Nat) (a : Nat → Nat) (tx : Nat) (t0 : Nat) (we : Nat) (rd : Nat) (ru : Nat) (rw : Nat) (ca : Nat) (fp : Int32) (wd : Int64) (nu : Int32) (na : Int32) (ts : Int32) (df : Int32) (db : Int32) (sd : Int32) (dn : Nat → Nat) (se : Nat → Nat) (tm : Nat → Nat) (gs : Nat → Int32) (ffrees : Nat → Int32) (fprices : Nat → Int32) (bm : Nat → Nat) (fbarSeen : Nat → Int32) (fbarFrom : Nat → Int32) (fruleRounds : Nat → Int32) (p0 : Int32) (p1 : Int32) (p2 : Int32) (hdn : ∀ j, dn j ≤ 24) (hse : ∀ j, se j ≤ 2) (htm : ∀ j, tm j ≤ 3) (hbm : ∀ j, bm j ≤ 12) (hru : ru ≤ 4) (hrr : ∀ k, k < ru → ∃ x : Nat, x ≤ 3 ∧ fruleRounds k = nI x) (hsd : ¬ sd < 0) : CWi l D k st lo yX8_evening cX8_evening 7 (some .int) ({ frames := 5, cells := 0, slots := 0, locals := 122 }) 0 0 [.ref (a 0), .int p0, .int p1, .int p2] [((a 0), .inr (8, (fX8 a (nI tx) fp (nI t0) wd (nI we) nu na (nI rd) ts (nI ru) (nI rw) (nI ca) df db sd))), (aI k (a 1) 3 (nF dn)), (aI k (a 4) 27 (sg se tm gs)), (aI k (a 2) 72 ffrees), (aI k (a 3) 72 fprices), (aI k (a 25) 4 (nF bm)), (aI k (a 26) 48 fbarSeen), (aI k (a 27) 48 fbarFrom), (aI k (a 28) 4 fruleRounds)] (fun (r : Int32) (sd_ : Int32) => evP (sdM dn (sg se tm gs) ffrees fprices) ru (ruM bm fbarSeen fbarFrom fruleRounds) p0 p1 p2 sd r sd_) (fun (sd_ : Int32) => [((a 0), .inr (8, (fX8 a (nI tx) fp (nI t0) wd (nI we) nu na (nI rd) ts (nI ru) (nI rw) (nI ca) df db sd_))), (aI k (a 1) 3 (nF dn)), (aI k (a 4) 27 (sg se tm gs)), (aI k (a 2) 72 ffrees), (aI k (a 3) 72 fprices), (aI k (a 25) 4 (nF bm)), (aI k (a 26) 48 fbarSeen), (aI k (a 27) 48 fbarFrom), (aI k (a 28) 4 fruleRounds)]) := by
  intro sz
  refine Met.ofW (cc := cX8_evening) (maxL := 7) (ret := (some .int)) (by decide) rfl ?_
  intro p e s m args below meth c s₁ B hml hv
  obtain ⟨rfl, hsz, hlo, hP, hK, hDL, hZ⟩ := hv
  have hx := B.exec
  have hb := B.bytes
  have hr := B.returns
  have hts := WS_ts B.pre
  have hown : s.vm.findClass RX8 = some m.cls := findClass_of_methodNamed B.named
  have hlocks := B.notSynchronized
  subst hsz
  have hD := hDL.self (sz := s.heap.size)
  have hAlo := A_lo hDL hlo
  generalize hAe : va_A [((a 0), .inr (8, (fX8 a (nI tx) fp (nI t0) wd (nI we) nu na (nI rd) ts (nI ru) (nI rw) (nI ca) df db sd))), (aI k (a 1) 3 (nF dn)), (aI k (a 4) 27 (sg se tm gs)), (aI k (a 2) 72 ffrees), (aI k (a 3) 72 fprices), (aI k (a 25) 4 (nF bm)), (aI k (a 26) 48 fbarSeen), (aI k (a 27) 48 fbarFrom), (aI k (a 28) 4 fruleRounds)] s.heap.size = A at hD hAlo ⊢
  have hA : ∀ q : Nat, s.heap.size ≤ q → A q := fun q h => by rw [← hAe]; exact Or.inr h
  have hS : va_S A s.heap s.heap [] := va_S.rf
  have hl := lv_entry ([.ref (a 0), .int p0, .int p1, .int p2]) (n := 7) (Nat.le_of_ble_eq_true rfl)
  rw [lg_entry_eq]
  generalize (lg_sl ([.ref (a 0), .int p0, .int p1, .int p2]) ++ List.replicate (7 - (lg_sl ([.ref (a 0), .int p0, .int p1, .int p2])).length) Slot.unset).toArray = ls at hl ⊢
  have hl : lv_has ls 7 [(0, .ref (a 0)), (1, .int p0), (2, .int p1), (3, .int p2)] := hl
  obtain ⟨v9, hv9, rfl⟩ := nI_of hsd
  refine lv_aload_n hx hb dX8_evening_0 rfl (lv_at hl 0 rfl) ?_
  refine lv_iload_n hx hb dX8_evening_1 rfl (lv_at hl 1 rfl) ?_
  refine ro_i (D := D) (va_runV (As := [.int p0]) (rest := []) ⟨hx, hb, hml, hown, hts⟩ ((n_isStreet l D k st lo a tx t0 we rd ru rw ca fp wd nu na ts df db (nI v9) dn p0 hdn) s.heap.size) (cwV 1 hts (gV tw_1189 tw_1191 tw_38 tw_87 tw_1192) rfl rfl rfl (by decide +kernel) ⟨Nat.le_of_ble_eq_true rfl, Nat.le_of_ble_eq_true rfl⟩) (pV hS hAlo hlo hP hK (va_Dlo hD hAlo) hZ [0, 1] (by decide) rfl (ci := 8) (q := (RX8, TX8, 44)) (q0 := 0) rfl rfl) rfl rfl hl.1 rfl (lv_room (Nat.le_of_ble_eq_true rfl)) dX8_evening_2 ⟨Nat.le_of_ble_eq_true rfl, Nat.le_of_ble_eq_true rfl⟩) hS hA hP (fun r_1 H locs hw_1 hP hS => ?_)
  try dsimp only at hw_1
  rcases hw_1 with ⟨rfl, j_2, hj_2, rfl, hw_1⟩ | ⟨rfl, hw_1⟩
  · have hdj_2 := hdn j_2
    have htj_2 := htm j_2
    refine lv_if_eq (tgt := 16) hx hb dX8_evening_5 (by decide) (fun h => absurd h (by decide)) (fun _ => ?_)
    refine lv_aload_n hx hb dX8_evening_8 rfl (lv_at hl 0 rfl) ?_
    refine lv_iload_n hx hb dX8_evening_9 rfl (lv_at hl 2 rfl) ?_
    refine ro_i (D := D) (va_runV (As := [.int p1]) (rest := []) ⟨hx, hb, hml, hown, hts⟩ ((n_isRule l D k st lo a tx t0 we rd ru rw ca fp wd nu na ts df db (nI v9) p1 (by first | assumption | omega)) H.size) (cwV 1 hts (gV tw_1321 tw_1323 tw_57 tw_87 tw_1324) rfl rfl rfl (by decide +kernel) ⟨Nat.le_of_ble_eq_true rfl, Nat.le_of_ble_eq_true rfl⟩) (pV hS hAlo hlo hP hK (va_Dlo hD hAlo) hZ [0] (by decide) rfl (ci := 8) (q := (RX8, TX8, 44)) (q0 := 0) rfl rfl) rfl rfl hl.1 rfl (lv_room (Nat.le_of_ble_eq_true rfl)) dX8_evening_10 ⟨Nat.le_of_ble_eq_true rfl, Nat.le_of_ble_eq_true rfl⟩) hS hA hP (fun r_3 H locs hw_3 hP hS => ?_)
    try dsimp only at hw_3
    rcases hw_3 with ⟨rfl, j_4, hj_4, rfl, hw_3⟩ | ⟨rfl, hw_3⟩
    · refine lv_if_ne (tgt := 20) hx hb dX8_evening_13 (by decide) (fun _ => ?_) (fun h => absurd h (by decide))
      refine lv_iload_n hx hb dX8_evening_20 rfl (lv_at hl 3 rfl) ?_
      refine lv_i2l (v := p2.toInt64) hx hb dX8_evening_21 rfl ?_
      refine lv_lconst (v := (1 : Int32).toInt64) hx hb dX8_evening_22 (by decide) ?_
      refine lv_ldc2 hx hb hown (hts _ tw_1475) dX8_evening_23 ?_
      refine lv_tl (y := ((50 : Int32).toInt64)) (by decide) ?_
      refine ro_i (D := D) (va_runS (As := [.long (p2.toInt64), .long ((1 : Int32).toInt64), .long ((50 : Int32).toInt64)]) (rest := []) ⟨hx, hb, hml, hown, hts⟩ ((k_in l D k st lo p2 (1 : Int32) (50 : Int32)) H.size) (va_cwS 3 hts (gS tw_1111 tw_1112 tw_87 tw_1113) rfl rfl rfl (by decide +kernel) ⟨Nat.le_of_ble_eq_true rfl, Nat.le_of_ble_eq_true rfl⟩) (pS hS hAlo hlo hP hK (va_Dlo hD hAlo) hZ [] (by decide) rfl) rfl rfl hl.1 rfl (lv_room (Nat.le_of_ble_eq_true rfl)) dX8_evening_26 ⟨Nat.le_of_ble_eq_true rfl, Nat.le_of_ble_eq_true rfl⟩) hS hA hP (fun r_5 H locs hw_5 hP hS => ?_)
      try dsimp only at hw_5
      rcases hw_5 with ⟨rfl, hw_5⟩ | ⟨rfl, hw_5⟩
      · refine lv_if_ne (tgt := 36) hx hb dX8_evening_29 (by decide) (fun _ => ?_) (fun h => absurd h (by decide))
        have hin_6 := hw_5
        obtain ⟨nn_6, hnl_6, hnh_6, rfl⟩ := inB_ofc (a := 1) (b := 50) (by omega) (by omega) hw_5
        obtain ⟨rx_9, hr3_9, hrx_9⟩ := hrr j_4 (by omega)
        refine lv_lconst (v := (0 : Int32).toInt64) hx hb dX8_evening_36 (by decide) ?_
        refine lv_lstore (lv' := [(4, .long ((0 : Int32).toInt64)), (0, .ref (a 0)), (1, .int (nI j_2)), (2, .int (nI j_4)), (3, .int (nI nn_6))]) hx hb dX8_evening_37 hl (by decide) rfl (fun ls hl => ?_)
        refine lv_iconst (v := 0) hx hb dX8_evening_39 (by decide) ?_
        refine lv_istore (lv' := [(6, .int 0), (4, .long ((0 : Int32).toInt64)), (0, .ref (a 0)), (1, .int (nI j_2)), (2, .int (nI j_4)), (3, .int (nI nn_6))]) hx hb dX8_evening_40 hl (by decide) rfl (fun ls hl => ?_)
        refine W_loop (σ := Nat × Int64 × Nat) (fun (n_ : Nat) (x_ : Nat × Int64 × Nat) (H : Heap) (locs : List Loc) (ls : Array Slot) => match x_ with | (kk_7, al_7, sd2_7) => n_ = 50 - kk_7 ∧ (kk_7 ≤ nn_6 ∧ sd2_7 < 2147483648 ∧ al_7 = (evN (sdM dn (sg se tm gs) ffrees fprices j_2) (ruM bm fbarSeen fbarFrom fruleRounds j_4) (min rx_9 (tm j_2)) v9 kk_7).1 ∧ sd2_7 = (evN (sdM dn (sg se tm gs) ffrees fprices j_2) (ruM bm fbarSeen fbarFrom fruleRounds j_4) (min rx_9 (tm j_2)) v9 kk_7).2) ∧ va_P D classes [((a 0), .inr (8, (fX8 a (nI tx) fp (nI t0) wd (nI we) nu na (nI rd) ts (nI ru) (nI rw) (nI ca) df db (nI sd2_7)))), (aI k (a 1) 3 (nF dn)), (aI k (a 4) 27 (sg se tm gs)), (aI k (a 2) 72 ffrees), (aI k (a 3) 72 fprices), (aI k (a 25) 4 (nF bm)), (aI k (a 26) 48 fbarSeen), (aI k (a 27) 48 fbarFrom), (aI k (a 28) 4 fruleRounds)] H ∧ va_D A [((a 0), .inr (8, (fX8 a (nI tx) fp (nI t0) wd (nI we) nu na (nI rd) ts (nI ru) (nI rw) (nI ca) df db (nI sd2_7)))), (aI k (a 1) 3 (nF dn)), (aI k (a 4) 27 (sg se tm gs)), (aI k (a 2) 72 ffrees), (aI k (a 3) 72 fprices), (aI k (a 25) 4 (nF bm)), (aI k (a 26) 48 fbarSeen), (aI k (a 27) 48 fbarFrom), (aI k (a 28) 4 fruleRounds)] ∧ va_S A s.heap H locs ∧ lv_has ls 7 [(6, .int (nI kk_7)), (4, .long al_7), (0, .ref (a 0)), (1, .int (nI j_2)), (2, .int (nI j_4)), (3, .int (nI nn_6))]) (fun n_7 x_7 H locs ls hI ih_7 => ?_) _ (0, ((0 : Int32).toInt64), v9) ⟨rfl, ⟨by omega, by omega, rfl, rfl⟩, hP, hD, hS, (lv_sub hl [0, 1, 2, 3, 4, 5] rfl)⟩
        obtain ⟨kk_7, al_7, sd2_7⟩ := x_7
        obtain ⟨hm_7, hv_7, hP, hD, hS, hl⟩ := hI
        subst hm_7
        refine lv_iload hx hb dX8_evening_42 (lv_at hl 0 rfl) ?_
        refine lv_iload_n hx hb dX8_evening_44 rfl (lv_at hl 5 rfl) ?_
        refine lv_icmp_ge (tgt := 66) hx hb dX8_evening_45 (by decide) (fun c_8 => ?_) (fun c_8 => ?_)
        · have c_8 := (nI_leI (a := nn_6) (b := kk_7) (by omega) (by omega)).mp c_8
          refine lv_lload hx hb dX8_evening_66 (lv_at hl 1 rfl) ?_
          refine lv_ldc2 hx hb hown (hts _ tw_1488) dX8_evening_68 ?_
          refine lv_tl (y := ((1000 : Int32).toInt64)) (by decide) ?_
          refine lv_ldiv hx hb dX8_evening_71 (by decide) ?_
          refine lv_topl (fun x_9 ex_9 => ?_)
          refine lv_l2i hx hb dX8_evening_72 rfl ?_
          refine lv_topi (fun x_10 ex_10 => ?_)
          have hP9 := hP.sub (ws' := [((a 0), .inr (8, (fX8 a (nI tx) fp (nI t0) wd (nI we) nu na (nI rd) ts (nI ru) (nI rw) (nI ca) df db (nI sd2_7)))), (aI k (a 1) 3 (nF dn)), (aI k (a 4) 27 (sg se tm gs)), (aI k (a 2) 72 ffrees), (aI k (a 3) 72 fprices), (aI k (a 25) 4 (nF bm)), (aI k (a 26) 48 fbarSeen), (aI k (a 27) 48 fbarFrom), (aI k (a 28) 4 fruleRounds)]) [0, 1, 2, 3, 4, 5, 6, 7, 8] rfl
          have hD9 := hD.sub (ws' := [((a 0), .inr (8, (fX8 a (nI tx) fp (nI t0) wd (nI we) nu na (nI rd) ts (nI ru) (nI rw) (nI ca) df db (nI sd2_7)))), (aI k (a 1) 3 (nF dn)), (aI k (a 4) 27 (sg se tm gs)), (aI k (a 2) 72 ffrees), (aI k (a 3) 72 fprices), (aI k (a 25) 4 (nF bm)), (aI k (a 26) 48 fbarSeen), (aI k (a 27) 48 fbarFrom), (aI k (a 28) 4 fruleRounds)]) [0, 1, 2, 3, 4, 5, 6, 7, 8] (by decide +kernel) rfl
          exact W.iret (v := x_10) hx hb hr (fun t ht hW => ⟨⟨x_10, (nI sd2_7), rfl, ev_at (s := j_2) (t := j_4) (by omega) (by omega) (by omega) (show 0 < dn j_2 by omega) (show evA (nI nn_6) (nI v9) (sdM dn (sg se tm gs) ffrees fprices j_2) (ruM bm fbarSeen fbarFrom fruleRounds j_4) _ _ from ev_i (a := al_7) (w := sd2_7) (by omega) hin_6 (by omega) (by rw [(show muD (sdM dn (sg se tm gs) ffrees fprices j_2) (ruM bm fbarSeen fbarFrom fruleRounds j_4) = min rx_9 (tm j_2) by unfold muD; rw [tmM (htm _)]; exact congrArg (fun z => min z (tm j_2)) (show (fruleRounds j_4).toNatClampNeg = rx_9 by rw [hrx_9]; exact nI_clamp (by omega))), show nn_6 = kk_7 by omega]; exact hv_7.2.2.1) (by rw [(show muD (sdM dn (sg se tm gs) ffrees fprices j_2) (ruM bm fbarSeen fbarFrom fruleRounds j_4) = min rx_9 (tm j_2) by unfold muD; rw [tmM (htm _)]; exact congrArg (fun z => min z (tm j_2)) (show (fruleRounds j_4).toNatClampNeg = rx_9 by rw [hrx_9]; exact nI_clamp (by omega))), show nn_6 = kk_7 by omega]; exact hv_7.2.2.2) (by rw [ex_10, ex_9]; rfl)), by rw [ht]; exact hP9, hD9⟩, hS.F ht⟩) hS.2.2 dX8_evening_73
        · have c_8 : ¬ (nn_6 ≤ kk_7) := fun h => c_8 ((nI_leI (a := nn_6) (b := kk_7) (by omega) (by omega)).mpr h)
          refine lv_lload hx hb dX8_evening_48 (lv_at hl 1 rfl) ?_
          refine lv_aload_n hx hb dX8_evening_50 rfl (lv_at hl 2 rfl) ?_
          refine lv_iload_n hx hb dX8_evening_51 rfl (lv_at hl 3 rfl) ?_
          refine lv_iload_n hx hb dX8_evening_52 rfl (lv_at hl 4 rfl) ?_
          refine rw_i (D := D) (wr := []) (va_runV (As := [.int (nI j_2), .int (nI j_4)]) (rest := [.long al_7]) ⟨hx, hb, hml, hown, hts⟩ ((n_drive l D k st lo a tx t0 we rd ru rw ca fp wd nu na ts df db sd2_7 dn se tm gs ffrees fprices bm fbarSeen fbarFrom fruleRounds j_2 j_4 rx_9 hdn hse htm hbm (by first | assumption | omega) (by first | assumption | omega) (by first | assumption | omega) hrx_9 (by first | assumption | omega) (by first | assumption | omega)) H.size) (cwV 2 hts (gV tw_1476 tw_1478 tw_76 tw_87 tw_1479) rfl rfl rfl (by decide +kernel) ⟨Nat.le_of_ble_eq_true rfl, Nat.le_of_ble_eq_true rfl⟩) (pV hS hAlo hlo hP hK (va_Dlo hD hAlo) hZ [0, 1, 2, 3, 4, 5, 6, 7, 8] (by decide +kernel) rfl (ci := 8) (q := (RX8, TX8, 44)) (q0 := 0) rfl rfl) rfl rfl hl.1 rfl (lv_room (Nat.le_of_ble_eq_true rfl)) dX8_evening_53 ⟨Nat.le_of_ble_eq_true rfl, Nat.le_of_ble_eq_true rfl⟩) hS hA hP hD [0, 1, 2, 3, 4, 5, 6, 7, 8] [] rfl rfl (by decide) (by decide) (fun r_11 u H locs hw_11 hP hD hS => ?_)
          obtain ⟨sd__11, rfl⟩ : ∃ z, z = u := ⟨_, rfl⟩
          replace hP : va_P D classes [((a 0), .inr (8, (fX8 a (nI tx) fp (nI t0) wd (nI we) nu na (nI rd) ts (nI ru) (nI rw) (nI ca) df db (nI sd__11)))), (aI k (a 1) 3 (nF dn)), (aI k (a 4) 27 (sg se tm gs)), (aI k (a 2) 72 ffrees), (aI k (a 3) 72 fprices), (aI k (a 25) 4 (nF bm)), (aI k (a 26) 48 fbarSeen), (aI k (a 27) 48 fbarFrom), (aI k (a 28) 4 fruleRounds)] H := hP
          replace hD : va_D A [((a 0), .inr (8, (fX8 a (nI tx) fp (nI t0) wd (nI we) nu na (nI rd) ts (nI ru) (nI rw) (nI ca) df db (nI sd__11)))), (aI k (a 1) 3 (nF dn)), (aI k (a 4) 27 (sg se tm gs)), (aI k (a 2) 72 ffrees), (aI k (a 3) 72 fprices), (aI k (a 25) 4 (nF bm)), (aI k (a 26) 48 fbarSeen), (aI k (a 27) 48 fbarFrom), (aI k (a 28) 4 fruleRounds)] := hD
          try dsimp only at hw_11
          refine lv_i2l (v := r_11.toInt64) hx hb dX8_evening_56 rfl ?_
          refine lv_ladd hx hb dX8_evening_57 ?_
          refine lv_topl (fun x_12 ex_12 => ?_)
          refine lv_lstore (lv' := [(4, .long x_12), (6, .int (nI kk_7)), (0, .ref (a 0)), (1, .int (nI j_2)), (2, .int (nI j_4)), (3, .int (nI nn_6))]) hx hb dX8_evening_58 hl (by decide) rfl (fun ls hl => ?_)
          refine lv_iinc (v := (nI (kk_7 + 1))) (lv' := [(6, .int (nI (kk_7 + 1))), (4, .long x_12), (0, .ref (a 0)), (1, .int (nI j_2)), (2, .int (nI j_4)), (3, .int (nI nn_6))]) hx hb dX8_evening_60 hl (k := 1) rfl (nI_add kk_7 1) (by decide) rfl (fun ls hl => ?_)
          refine lv_goto (tgt := 42) hx hb dX8_evening_63 (by decide) ?_
          have hes_13 := evN_s hv_7.2.2.1 hv_7.2.2.2 hw_11.1 ex_12
          exact ih_7 _ (kk_7 + 1, x_12, sd__11) _ _ _ (by omega) ⟨rfl, ⟨by omega, hw_11.2, hes_13.1, hes_13.2⟩, hP, hD, hS, (lv_sub hl [0, 1, 2, 3, 4, 5] rfl)⟩
      · refine lv_if_ne (tgt := 36) hx hb dX8_evening_29 (by decide) (fun h => absurd (by decide) h) (fun _ => ?_)
        refine lv_sipush (v := (-1002)) hx hb dX8_evening_32 (by decide) ?_
        have hP9 := hP.sub (ws' := [((a 0), .inr (8, (fX8 a (nI tx) fp (nI t0) wd (nI we) nu na (nI rd) ts (nI ru) (nI rw) (nI ca) df db (nI v9)))), (aI k (a 1) 3 (nF dn)), (aI k (a 4) 27 (sg se tm gs)), (aI k (a 2) 72 ffrees), (aI k (a 3) 72 fprices), (aI k (a 25) 4 (nF bm)), (aI k (a 26) 48 fbarSeen), (aI k (a 27) 48 fbarFrom), (aI k (a 28) 4 fruleRounds)]) [0, 1, 2, 3, 4, 5, 6, 7, 8] rfl
        have hD9 := hD.sub (ws' := [((a 0), .inr (8, (fX8 a (nI tx) fp (nI t0) wd (nI we) nu na (nI rd) ts (nI ru) (nI rw) (nI ca) df db (nI v9)))), (aI k (a 1) 3 (nF dn)), (aI k (a 4) 27 (sg se tm gs)), (aI k (a 2) 72 ffrees), (aI k (a 3) 72 fprices), (aI k (a 25) 4 (nF bm)), (aI k (a 26) 48 fbarSeen), (aI k (a 27) 48 fbarFrom), (aI k (a 28) 4 fruleRounds)]) [0, 1, 2, 3, 4, 5, 6, 7, 8] (by decide +kernel) rfl
        exact W.iret (v := (-1002)) hx hb hr (fun t ht hW => ⟨⟨(-1002), (nI v9), rfl, ev_at (s := j_2) (t := j_4) (by omega) (by omega) (by omega) (show 0 < dn j_2 by omega) (show evA p2 (nI v9) (sdM dn (sg se tm gs) ffrees fprices j_2) (ruM bm fbarSeen fbarFrom fruleRounds j_4) _ _ from ev_o hw_5), by rw [ht]; exact hP9, hD9⟩, hS.F ht⟩) hS.2.2 dX8_evening_35
    · refine lv_if_ne (tgt := 20) hx hb dX8_evening_13 (by decide) (fun h => absurd (by decide) h) (fun _ => ?_)
      refine lv_sipush (v := (-1001)) hx hb dX8_evening_16 (by decide) ?_
      have hP9 := hP.sub (ws' := [((a 0), .inr (8, (fX8 a (nI tx) fp (nI t0) wd (nI we) nu na (nI rd) ts (nI ru) (nI rw) (nI ca) df db (nI v9)))), (aI k (a 1) 3 (nF dn)), (aI k (a 4) 27 (sg se tm gs)), (aI k (a 2) 72 ffrees), (aI k (a 3) 72 fprices), (aI k (a 25) 4 (nF bm)), (aI k (a 26) 48 fbarSeen), (aI k (a 27) 48 fbarFrom), (aI k (a 28) 4 fruleRounds)]) [0, 1, 2, 3, 4, 5, 6, 7, 8] rfl
      have hD9 := hD.sub (ws' := [((a 0), .inr (8, (fX8 a (nI tx) fp (nI t0) wd (nI we) nu na (nI rd) ts (nI ru) (nI rw) (nI ca) df db (nI v9)))), (aI k (a 1) 3 (nF dn)), (aI k (a 4) 27 (sg se tm gs)), (aI k (a 2) 72 ffrees), (aI k (a 3) 72 fprices), (aI k (a 25) 4 (nF bm)), (aI k (a 26) 48 fbarSeen), (aI k (a 27) 48 fbarFrom), (aI k (a 28) 4 fruleRounds)]) [0, 1, 2, 3, 4, 5, 6, 7, 8] (by decide +kernel) rfl
      exact W.iret (v := (-1001)) hx hb hr (fun t ht hW => ⟨⟨(-1001), (nI v9), rfl, ev_no1 hw_3, by rw [ht]; exact hP9, hD9⟩, hS.F ht⟩) hS.2.2 dX8_evening_19
  · refine lv_if_eq (tgt := 16) hx hb dX8_evening_5 (by decide) (fun _ => ?_) (fun h => absurd (by decide) h)
    refine lv_sipush (v := (-1001)) hx hb dX8_evening_16 (by decide) ?_
    have hP9 := hP.sub (ws' := [((a 0), .inr (8, (fX8 a (nI tx) fp (nI t0) wd (nI we) nu na (nI rd) ts (nI ru) (nI rw) (nI ca) df db (nI v9)))), (aI k (a 1) 3 (nF dn)), (aI k (a 4) 27 (sg se tm gs)), (aI k (a 2) 72 ffrees), (aI k (a 3) 72 fprices), (aI k (a 25) 4 (nF bm)), (aI k (a 26) 48 fbarSeen), (aI k (a 27) 48 fbarFrom), (aI k (a 28) 4 fruleRounds)]) [0, 1, 2, 3, 4, 5, 6, 7, 8] rfl
    have hD9 := hD.sub (ws' := [((a 0), .inr (8, (fX8 a (nI tx) fp (nI t0) wd (nI we) nu na (nI rd) ts (nI ru) (nI rw) (nI ca) df db (nI v9)))), (aI k (a 1) 3 (nF dn)), (aI k (a 4) 27 (sg se tm gs)), (aI k (a 2) 72 ffrees), (aI k (a 3) 72 fprices), (aI k (a 25) 4 (nF bm)), (aI k (a 26) 48 fbarSeen), (aI k (a 27) 48 fbarFrom), (aI k (a 28) 4 fruleRounds)]) [0, 1, 2, 3, 4, 5, 6, 7, 8] (by decide +kernel) rfl
    exact W.iret (v := (-1001)) hx hb hr (fun t ht hW => ⟨⟨(-1001), (nI v9), rfl, ev_no0 (fun s h1 h2 h3 => hw_1 s h1 h2 h3), by rw [ht]; exact hP9, hD9⟩, hS.F ht⟩) hS.2.2 dX8_evening_19


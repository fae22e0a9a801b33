theorem dX8_mean_0 : decode cX8_mean 0 = .ok (.aload_n 0, 1) := by decide +kernel
theorem dX8_mean_1 : decode cX8_mean 1 = .ok (.iload_n 1, 1) := by decide +kernel
theorem dX8_mean_2 : decode cX8_mean 2 = .ok (.invokevirtual 206, 3) := by decide +kernel
theorem dX8_mean_5 : decode cX8_mean 5 = .ok (.ifCond .eq 11, 3) := by decide +kernel
theorem dX8_mean_8 : decode cX8_mean 8 = .ok (.aload_n 0, 1) := by decide +kernel
theorem dX8_mean_9 : decode cX8_mean 9 = .ok (.iload_n 2, 1) := by decide +kernel
theorem dX8_mean_10 : decode cX8_mean 10 = .ok (.invokevirtual 298, 3) := by decide +kernel
theorem dX8_mean_13 : decode cX8_mean 13 = .ok (.ifCond .ne 7, 3) := by decide +kernel
theorem dX8_mean_16 : decode cX8_mean 16 = .ok (.sipush (-1001), 3) := by decide +kernel
theorem dX8_mean_19 : decode cX8_mean 19 = .ok (.ireturn, 1) := by decide +kernel
theorem dX8_mean_20 : decode cX8_mean 20 = .ok (.iload_n 3, 1) := by decide +kernel
theorem dX8_mean_21 : decode cX8_mean 21 = .ok (.i2l, 1) := by decide +kernel
theorem dX8_mean_22 : decode cX8_mean 22 = .ok (.lconst 0, 1) := by decide +kernel
theorem dX8_mean_23 : decode cX8_mean 23 = .ok (.ldc2_w 105, 3) := by decide +kernel
theorem dX8_mean_26 : decode cX8_mean 26 = .ok (.invokestatic 107, 3) := by decide +kernel
theorem dX8_mean_29 : decode cX8_mean 29 = .ok (.ifCond .eq 13, 3) := by decide +kernel
theorem dX8_mean_32 : decode cX8_mean 32 = .ok (.aload_n 0, 1) := by decide +kernel
theorem dX8_mean_33 : decode cX8_mean 33 = .ok (.iload_n 1, 1) := by decide +kernel
theorem dX8_mean_34 : decode cX8_mean 34 = .ok (.iload_n 2, 1) := by decide +kernel
theorem dX8_mean_35 : decode cX8_mean 35 = .ok (.iload_n 3, 1) := by decide +kernel
theorem dX8_mean_36 : decode cX8_mean 36 = .ok (.invokevirtual 301, 3) := by decide +kernel
theorem dX8_mean_39 : decode cX8_mean 39 = .ok (.goto 6, 3) := by decide +kernel
theorem dX8_mean_42 : decode cX8_mean 42 = .ok (.sipush (-1002), 3) := by decide +kernel
theorem dX8_mean_45 : decode cX8_mean 45 = .ok (.ireturn, 1) := by decide +kernel
set_option maxHeartbeats 4000000 in
set_option maxRecDepth 100000 in
theorem m_mean (l : Launch) (D : va_G) (k : Nat → ClassId) (st : Nat → Nat) (lo : Nat) (a : Nat → Nat) (tx : Nat) (t0 : Nat) (we : Nat) (rd : Nat) (ru : Nat) (rw : Nat) (ca : Nat) (fp : Int32) (wd : Int64) (nu : Int32) (na : Int32) (ts : Int32) (df : Int32) (db : Int32) (sd : Int32) (dn : Nat → Nat) (se : Nat → Nat) (tm : Nat → Nat) (gs : Nat → Int32) (ffrees : Nat → Int32) (fprices : Nat → Int32) (bm : Nat → Nat) (fbarSeen : Nat → Int32) (fbarFrom : Nat → Int32) (fruleRounds : Nat → Int32) (ffollows : Nat → Int32) (fbefore : Nat → Int32) (p0 : Int32) (p1 : Int32) (p2 : Int32) (hdn : ∀ j, dn j ≤ 24) (hse : ∀ j, se j ≤ 2) (htm : ∀ j, tm j ≤ 3) (hbm : ∀ j, bm j ≤ 12) (hru : ru ≤ 4) : CWi l D k st lo yX8_mean cX8_mean 4 (some .int) ({ frames := 6, cells := 0, slots := 0, locals := 151 }) 0 0 [.ref (a 0), .int p0, .int p1, .int p2] [((a 0), .inr (8, (fX8 a (nI tx) fp (nI t0) wd (nI we) nu na (nI rd) ts (nI ru) (nI rw) (nI ca) df db sd))), (aI k (a 1) 3 (nF dn)), (aI k (a 4) 27 (sg se tm gs)), (aI k (a 2) 72 ffrees), (aI k (a 3) 72 fprices), (aI k (a 25) 4 (nF bm)), (aI k (a 26) 48 fbarSeen), (aI k (a 27) 48 fbarFrom), (aI k (a 28) 4 fruleRounds), (aI k (a 29) 52 ffollows), (aI k (a 30) 52 fbefore)] (fun (r : Int32) (u : (Nat → Int32) × (Nat → Int32)) => match u with | (ffollows_, fbefore_) => True) (fun (u : (Nat → Int32) × (Nat → Int32)) => match u with | (ffollows_, fbefore_) => [((a 0), .inr (8, (fX8 a (nI tx) fp (nI t0) wd (nI we) nu na (nI rd) ts (nI ru) (nI rw) (nI ca) df db sd))), (aI k (a 1) 3 (nF dn)), (aI k (a 4) 27 (sg se tm gs)), (aI k (a 2) 72 ffrees), (aI k (a 3) 72 fprices), (aI k (a 25) 4 (nF bm)), (aI k (a 26) 48 fbarSeen), (aI k (a 27) 48 fbarFrom), (aI k (a 28) 4 fruleRounds), (aI k (a 29) 52 ffollows_), (aI k (a 30) 52 fbefore_)]) := by
  intro sz
  refine Met.ofW (cc := cX8_mean) (maxL := 4) (ret := (some .int)) (by decide) rfl ?_
  intro p e s m args below meth c s₁ B hml hv
  obtain ⟨rfl, hsz, hlo, hP, hK, hDL, hZ⟩ := hv
  have hx := B.exec
  have hb := B.bytes
  have hr := B.returns
  have hts := WS_ts B.pre
  have hown : s.vm.findClass RX8 = some m.cls := findClass_of_methodNamed B.named
  have hlocks := B.notSynchronized
  subst hsz
  have hD := hDL.self (sz := s.heap.size)
  have hAlo := A_lo hDL hlo
  generalize hAe : va_A [((a 0), .inr (8, (fX8 a (nI tx) fp (nI t0) wd (nI we) nu na (nI rd) ts (nI ru) (nI rw) (nI ca) df db sd))), (aI k (a 1) 3 (nF dn)), (aI k (a 4) 27 (sg se tm gs)), (aI k (a 2) 72 ffrees), (aI k (a 3) 72 fprices), (aI k (a 25) 4 (nF bm)), (aI k (a 26) 48 fbarSeen), (aI k (a 27) 48 fbarFrom), (aI k (a 28) 4 fruleRounds), (aI k (a 29) 52 ffollows), (aI k (a 30) 52 fbefore)] s.heap.size = A at hD hAlo ⊢
  have hA : ∀ q : Nat, s.heap.size ≤ q → A q := fun q h => by rw [← hAe]; exact Or.inr h
  have hS : va_S A s.heap s.heap [] := va_S.rf
  have hl := lv_entry ([.ref (a 0), .int p0, .int p1, .int p2]) (n := 4) (Nat.le_of_ble_eq_true rfl)
  rw [lg_entry_eq]
  generalize (lg_sl ([.ref (a 0), .int p0, .int p1, .int p2]) ++ List.replicate (4 - (lg_sl ([.ref (a 0), .int p0, .int p1, .int p2])).length) Slot.unset).toArray = ls at hl ⊢
  have hl : lv_has ls 4 [(0, .ref (a 0)), (1, .int p0), (2, .int p1), (3, .int p2)] := hl
  refine lv_aload_n hx hb dX8_mean_0 rfl (lv_at hl 0 rfl) ?_
  refine lv_iload_n hx hb dX8_mean_1 rfl (lv_at hl 1 rfl) ?_
  refine ro_i (D := D) (va_runV (As := [.int p0]) (rest := []) ⟨hx, hb, hml, hown, hts⟩ ((m_isStreet l D k st lo a tx t0 we rd ru rw ca fp wd nu na ts df db sd dn p0 hdn) s.heap.size) (cwV 1 hts (gV tw_1189 tw_1191 tw_38 tw_87 tw_1192) rfl rfl rfl (by decide +kernel) ⟨Nat.le_of_ble_eq_true rfl, Nat.le_of_ble_eq_true rfl⟩) (pV hS hAlo hlo hP hK (va_Dlo hD hAlo) hZ [0, 1] (by decide) rfl (ci := 8) (q := (RX8, TX8, 44)) (q0 := 0) rfl rfl) rfl rfl hl.1 rfl (lv_room (Nat.le_of_ble_eq_true rfl)) dX8_mean_2 ⟨Nat.le_of_ble_eq_true rfl, Nat.le_of_ble_eq_true rfl⟩) hS hA hP (fun r_1 H locs hw_1 hP hS => ?_)
  try dsimp only at hw_1
  rcases hw_1 with ⟨rfl, j_2, hj_2, rfl, hw_1⟩ | rfl
  · have hdj_2 := hdn j_2
    have htj_2 := htm j_2
    refine lv_if_eq (tgt := 16) hx hb dX8_mean_5 (by decide) (fun h => absurd h (by decide)) (fun _ => ?_)
    refine lv_aload_n hx hb dX8_mean_8 rfl (lv_at hl 0 rfl) ?_
    refine lv_iload_n hx hb dX8_mean_9 rfl (lv_at hl 2 rfl) ?_
    refine ro_i (D := D) (va_runV (As := [.int p1]) (rest := []) ⟨hx, hb, hml, hown, hts⟩ ((m_isRule l D k st lo a tx t0 we rd ru rw ca fp wd nu na ts df db sd p1 (by omega)) H.size) (cwV 1 hts (gV tw_1321 tw_1323 tw_57 tw_87 tw_1324) rfl rfl rfl (by decide +kernel) ⟨Nat.le_of_ble_eq_true rfl, Nat.le_of_ble_eq_true rfl⟩) (pV hS hAlo hlo hP hK (va_Dlo hD hAlo) hZ [0] (by decide) rfl (ci := 8) (q := (RX8, TX8, 44)) (q0 := 0) rfl rfl) rfl rfl hl.1 rfl (lv_room (Nat.le_of_ble_eq_true rfl)) dX8_mean_10 ⟨Nat.le_of_ble_eq_true rfl, Nat.le_of_ble_eq_true rfl⟩) hS hA hP (fun r_3 H locs hw_3 hP hS => ?_)
    try dsimp only at hw_3
    rcases hw_3 with ⟨rfl, j_4, hj_4, rfl, hw_3⟩ | rfl
    · refine lv_if_ne (tgt := 20) hx hb dX8_mean_13 (by decide) (fun _ => ?_) (fun h => absurd h (by decide))
      refine lv_iload_n hx hb dX8_mean_20 rfl (lv_at hl 3 rfl) ?_
      refine lv_i2l (v := p2.toInt64) hx hb dX8_mean_21 rfl ?_
      refine lv_lconst (v := (0 : Int32).toInt64) hx hb dX8_mean_22 (by decide) ?_
      refine lv_ldc2 hx hb hown (hts _ tw_1119) dX8_mean_23 ?_
      refine lv_tl (y := ((2 : Int32).toInt64)) (by decide) ?_
      refine ro_i (D := D) (va_runS (As := [.long (p2.toInt64), .long ((0 : Int32).toInt64), .long ((2 : Int32).toInt64)]) (rest := []) ⟨hx, hb, hml, hown, hts⟩ ((k_in l D k st lo p2 (0 : Int32) (2 : Int32)) H.size) (va_cwS 3 hts (gS tw_1111 tw_1112 tw_87 tw_1113) rfl rfl rfl (by decide +kernel) ⟨Nat.le_of_ble_eq_true rfl, Nat.le_of_ble_eq_true rfl⟩) (pS hS hAlo hlo hP hK (va_Dlo hD hAlo) hZ [] (by decide) rfl) rfl rfl hl.1 rfl (lv_room (Nat.le_of_ble_eq_true rfl)) dX8_mean_26 ⟨Nat.le_of_ble_eq_true rfl, Nat.le_of_ble_eq_true rfl⟩) hS hA hP (fun r_5 H locs hw_5 hP hS => ?_)
      try dsimp only at hw_5
      rcases hw_5 with ⟨rfl, hw_5⟩ | ⟨rfl, hw_5⟩
      · refine lv_if_eq (tgt := 42) hx hb dX8_mean_29 (by decide) (fun h => absurd h (by decide)) (fun _ => ?_)
        refine lv_aload_n hx hb dX8_mean_32 rfl (lv_at hl 0 rfl) ?_
        refine lv_iload_n hx hb dX8_mean_33 rfl (lv_at hl 1 rfl) ?_
        refine lv_iload_n hx hb dX8_mean_34 rfl (lv_at hl 2 rfl) ?_
        refine lv_iload_n hx hb dX8_mean_35 rfl (lv_at hl 3 rfl) ?_
        refine rw_i (D := D) (wr := []) (va_runV (As := [.int (nI j_2), .int (nI j_4), .int p2]) (rest := []) ⟨hx, hb, hml, hown, hts⟩ ((m_meanOf l D k st lo a tx t0 we rd ru rw ca fp wd nu na ts df db sd dn se tm gs ffrees fprices bm fbarSeen fbarFrom fruleRounds ffollows fbefore j_2 j_4 p2 hdn hse htm hbm (by omega) (by omega)) H.size) (cwV 3 hts (gV tw_1325 tw_1327 tw_58 tw_87 tw_1328) rfl rfl rfl (by decide +kernel) ⟨Nat.le_of_ble_eq_true rfl, Nat.le_of_ble_eq_true rfl⟩) (pV hS hAlo hlo hP hK (va_Dlo hD hAlo) hZ [0, 1, 2, 3, 4, 5, 6, 7, 8, 9, 10] (by decide +kernel) rfl (ci := 8) (q := (RX8, TX8, 44)) (q0 := 0) rfl rfl) rfl rfl hl.1 rfl (lv_room (Nat.le_of_ble_eq_true rfl)) dX8_mean_36 ⟨Nat.le_of_ble_eq_true rfl, Nat.le_of_ble_eq_true rfl⟩) hS hA hP hD [0, 1, 2, 3, 4, 5, 6, 7, 8, 9, 10] [] rfl rfl (by decide +kernel) (by decide +kernel) (fun r_6 u H locs hw_6 hP hD hS => ?_)
        obtain ⟨ffollows__6, fbefore__6⟩ := u
        replace hP : va_P D classes [((a 0), .inr (8, (fX8 a (nI tx) fp (nI t0) wd (nI we) nu na (nI rd) ts (nI ru) (nI rw) (nI ca) df db sd))), (aI k (a 1) 3 (nF dn)), (aI k (a 4) 27 (sg se tm gs)), (aI k (a 2) 72 ffrees), (aI k (a 3) 72 fprices), (aI k (a 25) 4 (nF bm)), (aI k (a 26) 48 fbarSeen), (aI k (a 27) 48 fbarFrom), (aI k (a 28) 4 fruleRounds), (aI k (a 29) 52 ffollows__6), (aI k (a 30) 52 fbefore__6)] H := hP
        replace hD : va_D A [((a 0), .inr (8, (fX8 a (nI tx) fp (nI t0) wd (nI we) nu na (nI rd) ts (nI ru) (nI rw) (nI ca) df db sd))), (aI k (a 1) 3 (nF dn)), (aI k (a 4) 27 (sg se tm gs)), (aI k (a 2) 72 ffrees), (aI k (a 3) 72 fprices), (aI k (a 25) 4 (nF bm)), (aI k (a 26) 48 fbarSeen), (aI k (a 27) 48 fbarFrom), (aI k (a 28) 4 fruleRounds), (aI k (a 29) 52 ffollows__6), (aI k (a 30) 52 fbefore__6)] := hD
        try dsimp only at hw_6
        refine lv_goto (tgt := 45) hx hb dX8_mean_39 (by decide) ?_
        have hP9 := hP.sub (ws' := [((a 0), .inr (8, (fX8 a (nI tx) fp (nI t0) wd (nI we) nu na (nI rd) ts (nI ru) (nI rw) (nI ca) df db sd))), (aI k (a 1) 3 (nF dn)), (aI k (a 4) 27 (sg se tm gs)), (aI k (a 2) 72 ffrees), (aI k (a 3) 72 fprices), (aI k (a 25) 4 (nF bm)), (aI k (a 26) 48 fbarSeen), (aI k (a 27) 48 fbarFrom), (aI k (a 28) 4 fruleRounds), (aI k (a 29) 52 ffollows__6), (aI k (a 30) 52 fbefore__6)]) [0, 1, 2, 3, 4, 5, 6, 7, 8, 9, 10] rfl
        have hD9 := hD.sub (ws' := [((a 0), .inr (8, (fX8 a (nI tx) fp (nI t0) wd (nI we) nu na (nI rd) ts (nI ru) (nI rw) (nI ca) df db sd))), (aI k (a 1) 3 (nF dn)), (aI k (a 4) 27 (sg se tm gs)), (aI k (a 2) 72 ffrees), (aI k (a 3) 72 fprices), (aI k (a 25) 4 (nF bm)), (aI k (a 26) 48 fbarSeen), (aI k (a 27) 48 fbarFrom), (aI k (a 28) 4 fruleRounds), (aI k (a 29) 52 ffollows__6), (aI k (a 30) 52 fbefore__6)]) [0, 1, 2, 3, 4, 5, 6, 7, 8, 9, 10] (by decide +kernel) rfl
        exact W.iret (v := r_6) hx hb hr (fun t ht hW => ⟨⟨r_6, (ffollows__6, fbefore__6), rfl, trivial, by rw [ht]; exact hP9, hD9⟩, hS.F ht⟩) hS.2.2 dX8_mean_45
      · refine lv_if_eq (tgt := 42) hx hb dX8_mean_29 (by decide) (fun _ => ?_) (fun h => absurd (by decide) h)
        refine lv_sipush (v := (-1002)) hx hb dX8_mean_42 (by decide) ?_
        have hP9 := hP.sub (ws' := [((a 0), .inr (8, (fX8 a (nI tx) fp (nI t0) wd (nI we) nu na (nI rd) ts (nI ru) (nI rw) (nI ca) df db sd))), (aI k (a 1) 3 (nF dn)), (aI k (a 4) 27 (sg se tm gs)), (aI k (a 2) 72 ffrees), (aI k (a 3) 72 fprices), (aI k (a 25) 4 (nF bm)), (aI k (a 26) 48 fbarSeen), (aI k (a 27) 48 fbarFrom), (aI k (a 28) 4 fruleRounds), (aI k (a 29) 52 ffollows), (aI k (a 30) 52 fbefore)]) [0, 1, 2, 3, 4, 5, 6, 7, 8, 9, 10] rfl
        have hD9 := hD.sub (ws' := [((a 0), .inr (8, (fX8 a (nI tx) fp (nI t0) wd (nI we) nu na (nI rd) ts (nI ru) (nI rw) (nI ca) df db sd))), (aI k (a 1) 3 (nF dn)), (aI k (a 4) 27 (sg se tm gs)), (aI k (a 2) 72 ffrees), (aI k (a 3) 72 fprices), (aI k (a 25) 4 (nF bm)), (aI k (a 26) 48 fbarSeen), (aI k (a 27) 48 fbarFrom), (aI k (a 28) 4 fruleRounds), (aI k (a 29) 52 ffollows), (aI k (a 30) 52 fbefore)]) [0, 1, 2, 3, 4, 5, 6, 7, 8, 9, 10] (by decide +kernel) rfl
        exact W.iret (v := (-1002)) hx hb hr (fun t ht hW => ⟨⟨(-1002), (ffollows, fbefore), rfl, trivial, by rw [ht]; exact hP9, hD9⟩, hS.F ht⟩) hS.2.2 dX8_mean_45
    · refine lv_if_ne (tgt := 20) hx hb dX8_mean_13 (by decide) (fun h => absurd (by decide) h) (fun _ => ?_)
      refine lv_sipush (v := (-1001)) hx hb dX8_mean_16 (by decide) ?_
      have hP9 := hP.sub (ws' := [((a 0), .inr (8, (fX8 a (nI tx) fp (nI t0) wd (nI we) nu na (nI rd) ts (nI ru) (nI rw) (nI ca) df db sd))), (aI k (a 1) 3 (nF dn)), (aI k (a 4) 27 (sg se tm gs)), (aI k (a 2) 72 ffrees), (aI k (a 3) 72 fprices), (aI k (a 25) 4 (nF bm)), (aI k (a 26) 48 fbarSeen), (aI k (a 27) 48 fbarFrom), (aI k (a 28) 4 fruleRounds), (aI k (a 29) 52 ffollows), (aI k (a 30) 52 fbefore)]) [0, 1, 2, 3, 4, 5, 6, 7, 8, 9, 10] rfl
      have hD9 := hD.sub (ws' := [((a 0), .inr (8, (fX8 a (nI tx) fp (nI t0) wd (nI we) nu na (nI rd) ts (nI ru) (nI rw) (nI ca) df db sd))), (aI k (a 1) 3 (nF dn)), (aI k (a 4) 27 (sg se tm gs)), (aI k (a 2) 72 ffrees), (aI k (a 3) 72 fprices), (aI k (a 25) 4 (nF bm)), (aI k (a 26) 48 fbarSeen), (aI k (a 27) 48 fbarFrom), (aI k (a 28) 4 fruleRounds), (aI k (a 29) 52 ffollows), (aI k (a 30) 52 fbefore)]) [0, 1, 2, 3, 4, 5, 6, 7, 8, 9, 10] (by decide +kernel) rfl
      exact W.iret (v := (-1001)) hx hb hr (fun t ht hW => ⟨⟨(-1001), (ffollows, fbefore), rfl, trivial, by rw [ht]; exact hP9, hD9⟩, hS.F ht⟩) hS.2.2 dX8_mean_19
  · refine lv_if_eq (tgt := 16) hx hb dX8_mean_5 (by decide) (fun _ => ?_) (fun h => absurd (by decide) h)
    refine lv_sipush (v := (-1001)) hx hb dX8_mean_16 (by decide) ?_
    have hP9 := hP.sub (ws' := [((a 0), .inr (8, (fX8 a (nI tx) fp (nI t0) wd (nI we) nu na (nI rd) ts (nI ru) (nI rw) (nI ca) df db sd))), (aI k (a 1) 3 (nF dn)), (aI k (a 4) 27 (sg se tm gs)), (aI k (a 2) 72 ffrees), (aI k (a 3) 72 fprices), (aI k (a 25) 4 (nF bm)), (aI k (a 26) 48 fbarSeen), (aI k (a 27) 48 fbarFrom), (aI k (a 28) 4 fruleRounds), (aI k (a 29) 52 ffollows), (aI k (a 30) 52 fbefore)]) [0, 1, 2, 3, 4, 5, 6, 7, 8, 9, 10] rfl
    have hD9 := hD.sub (ws' := [((a 0), .inr (8, (fX8 a (nI tx) fp (nI t0) wd (nI we) nu na (nI rd) ts (nI ru) (nI rw) (nI ca) df db sd))), (aI k (a 1) 3 (nF dn)), (aI k (a 4) 27 (sg se tm gs)), (aI k (a 2) 72 ffrees), (aI k (a 3) 72 fprices), (aI k (a 25) 4 (nF bm)), (aI k (a 26) 48 fbarSeen), (aI k (a 27) 48 fbarFrom), (aI k (a 28) 4 fruleRounds), (aI k (a 29) 52 ffollows), (aI k (a 30) 52 fbefore)]) [0, 1, 2, 3, 4, 5, 6, 7, 8, 9, 10] (by decide +kernel) rfl
    exact W.iret (v := (-1001)) hx hb hr (fun t ht hW => ⟨⟨(-1001), (ffollows, fbefore), rfl, trivial, by rw [ht]; exact hP9, hD9⟩, hS.F ht⟩) hS.2.2 dX8_mean_19

theorem dX8_drive_0 : decode cX8_drive 0 = .ok (.aload_n 0, 1) := by decide +kernel
theorem dX8_drive_1 : decode cX8_drive 1 = .ok (.getfield 7, 3) := by decide +kernel
theorem dX8_drive_4 : decode cX8_drive 4 = .ok (.iload_n 1, 1) := by decide +kernel
theorem dX8_drive_5 : decode cX8_drive 5 = .ok (.iaload, 1) := by decide +kernel
theorem dX8_drive_6 : decode cX8_drive 6 = .ok (.istore_n 3, 1) := by decide +kernel
theorem dX8_drive_7 : decode cX8_drive 7 = .ok (.iconst 0, 1) := by decide +kernel
theorem dX8_drive_8 : decode cX8_drive 8 = .ok (.istore 4, 2) := by decide +kernel
theorem dX8_drive_10 : decode cX8_drive 10 = .ok (.iconst 0, 1) := by decide +kernel
theorem dX8_drive_11 : decode cX8_drive 11 = .ok (.istore 5, 2) := by decide +kernel
theorem dX8_drive_13 : decode cX8_drive 13 = .ok (.iconst 0, 1) := by decide +kernel
theorem dX8_drive_14 : decode cX8_drive 14 = .ok (.istore 6, 2) := by decide +kernel
theorem dX8_drive_16 : decode cX8_drive 16 = .ok (.iconst 0, 1) := by decide +kernel
theorem dX8_drive_17 : decode cX8_drive 17 = .ok (.istore 7, 2) := by decide +kernel
theorem dX8_drive_19 : decode cX8_drive 19 = .ok (.iconst 0, 1) := by decide +kernel
theorem dX8_drive_20 : decode cX8_drive 20 = .ok (.istore 8, 2) := by decide +kernel
theorem dX8_drive_22 : decode cX8_drive 22 = .ok (.iload 6, 2) := by decide +kernel
theorem dX8_drive_24 : decode cX8_drive 24 = .ok (.iload_n 3, 1) := by decide +kernel
theorem dX8_drive_25 : decode cX8_drive 25 = .ok (.if_icmp .ne 57, 3) := by decide +kernel
theorem dX8_drive_28 : decode cX8_drive 28 = .ok (.aload_n 0, 1) := by decide +kernel
theorem dX8_drive_29 : decode cX8_drive 29 = .ok (.iload_n 1, 1) := by decide +kernel
theorem dX8_drive_30 : decode cX8_drive 30 = .ok (.iload_n 2, 1) := by decide +kernel
theorem dX8_drive_31 : decode cX8_drive 31 = .ok (.iload 5, 2) := by decide +kernel
theorem dX8_drive_33 : decode cX8_drive 33 = .ok (.invokevirtual 286, 3) := by decide +kernel
theorem dX8_drive_36 : decode cX8_drive 36 = .ok (.ifCond .ne 14, 3) := by decide +kernel
theorem dX8_drive_39 : decode cX8_drive 39 = .ok (.iload 4, 2) := by decide +kernel
theorem dX8_drive_41 : decode cX8_drive 41 = .ok (.aload_n 0, 1) := by decide +kernel
theorem dX8_drive_42 : decode cX8_drive 42 = .ok (.iload_n 1, 1) := by decide +kernel
theorem dX8_drive_43 : decode cX8_drive 43 = .ok (.iload 5, 2) := by decide +kernel
theorem dX8_drive_45 : decode cX8_drive 45 = .ok (.invokevirtual 248, 3) := by decide +kernel
theorem dX8_drive_48 : decode cX8_drive 48 = .ok (.iadd, 1) := by decide +kernel
theorem dX8_drive_49 : decode cX8_drive 49 = .ok (.ireturn, 1) := by decide +kernel
theorem dX8_drive_50 : decode cX8_drive 50 = .ok (.iload 4, 2) := by decide +kernel
theorem dX8_drive_52 : decode cX8_drive 52 = .ok (.aload_n 0, 1) := by decide +kernel
theorem dX8_drive_53 : decode cX8_drive 53 = .ok (.iload_n 1, 1) := by decide +kernel
theorem dX8_drive_54 : decode cX8_drive 54 = .ok (.iconst 2, 1) := by decide +kernel
theorem dX8_drive_55 : decode cX8_drive 55 = .ok (.invokevirtual 212, 3) := by decide +kernel
theorem dX8_drive_58 : decode cX8_drive 58 = .ok (.aload_n 0, 1) := by decide +kernel
theorem dX8_drive_59 : decode cX8_drive 59 = .ok (.iload_n 1, 1) := by decide +kernel
theorem dX8_drive_60 : decode cX8_drive 60 = .ok (.bipush 6, 2) := by decide +kernel
theorem dX8_drive_62 : decode cX8_drive 62 = .ok (.invokevirtual 212, 3) := by decide +kernel
theorem dX8_drive_65 : decode cX8_drive 65 = .ok (.imul, 1) := by decide +kernel
theorem dX8_drive_66 : decode cX8_drive 66 = .ok (.sipush 1000, 3) := by decide +kernel
theorem dX8_drive_69 : decode cX8_drive 69 = .ok (.imul, 1) := by decide +kernel
theorem dX8_drive_70 : decode cX8_drive 70 = .ok (.iadd, 1) := by decide +kernel
theorem dX8_drive_71 : decode cX8_drive 71 = .ok (.istore 4, 2) := by decide +kernel
theorem dX8_drive_73 : decode cX8_drive 73 = .ok (.iinc 5 1, 3) := by decide +kernel
theorem dX8_drive_76 : decode cX8_drive 76 = .ok (.iconst 0, 1) := by decide +kernel
theorem dX8_drive_77 : decode cX8_drive 77 = .ok (.istore 6, 2) := by decide +kernel
theorem dX8_drive_79 : decode cX8_drive 79 = .ok (.iconst 0, 1) := by decide +kernel
theorem dX8_drive_80 : decode cX8_drive 80 = .ok (.istore 7, 2) := by decide +kernel
theorem dX8_drive_82 : decode cX8_drive 82 = .ok (.aload_n 0, 1) := by decide +kernel
theorem dX8_drive_83 : decode cX8_drive 83 = .ok (.invokevirtual 384, 3) := by decide +kernel
theorem dX8_drive_86 : decode cX8_drive 86 = .ok (.aload_n 0, 1) := by decide +kernel
theorem dX8_drive_87 : decode cX8_drive 87 = .ok (.iload_n 1, 1) := by decide +kernel
theorem dX8_drive_88 : decode cX8_drive 88 = .ok (.iload 6, 2) := by decide +kernel
theorem dX8_drive_90 : decode cX8_drive 90 = .ok (.iload 8, 2) := by decide +kernel
theorem dX8_drive_92 : decode cX8_drive 92 = .ok (.invokevirtual 219, 3) := by decide +kernel
theorem dX8_drive_95 : decode cX8_drive 95 = .ok (.if_icmp .ge 7, 3) := by decide +kernel
theorem dX8_drive_98 : decode cX8_drive 98 = .ok (.iconst 1, 1) := by decide +kernel
theorem dX8_drive_99 : decode cX8_drive 99 = .ok (.goto 4, 3) := by decide +kernel
theorem dX8_drive_102 : decode cX8_drive 102 = .ok (.iconst 0, 1) := by decide +kernel
theorem dX8_drive_103 : decode cX8_drive 103 = .ok (.istore 9, 2) := by decide +kernel
theorem dX8_drive_105 : decode cX8_drive 105 = .ok (.iload 9, 2) := by decide +kernel
theorem dX8_drive_107 : decode cX8_drive 107 = .ok (.ifCond .eq 28, 3) := by decide +kernel
theorem dX8_drive_110 : decode cX8_drive 110 = .ok (.aload_n 0, 1) := by decide +kernel
theorem dX8_drive_111 : decode cX8_drive 111 = .ok (.iload_n 2, 1) := by decide +kernel
theorem dX8_drive_112 : decode cX8_drive 112 = .ok (.iload 6, 2) := by decide +kernel
theorem dX8_drive_114 : decode cX8_drive 114 = .ok (.iload 7, 2) := by decide +kernel
theorem dX8_drive_116 : decode cX8_drive 116 = .ok (.invokevirtual 292, 3) := by decide +kernel
theorem dX8_drive_119 : decode cX8_drive 119 = .ok (.ifCond .eq 16, 3) := by decide +kernel
theorem dX8_drive_122 : decode cX8_drive 122 = .ok (.iload 4, 2) := by decide +kernel
theorem dX8_drive_124 : decode cX8_drive 124 = .ok (.aload_n 0, 1) := by decide +kernel
theorem dX8_drive_125 : decode cX8_drive 125 = .ok (.iload_n 1, 1) := by decide +kernel
theorem dX8_drive_126 : decode cX8_drive 126 = .ok (.iload 5, 2) := by decide +kernel
theorem dX8_drive_128 : decode cX8_drive 128 = .ok (.iload 6, 2) := by decide +kernel
theorem dX8_drive_130 : decode cX8_drive 130 = .ok (.invokevirtual 237, 3) := by decide +kernel
theorem dX8_drive_133 : decode cX8_drive 133 = .ok (.iadd, 1) := by decide +kernel
theorem dX8_drive_134 : decode cX8_drive 134 = .ok (.ireturn, 1) := by decide +kernel
theorem dX8_drive_135 : decode cX8_drive 135 = .ok (.iload 4, 2) := by decide +kernel
theorem dX8_drive_137 : decode cX8_drive 137 = .ok (.aload_n 0, 1) := by decide +kernel
theorem dX8_drive_138 : decode cX8_drive 138 = .ok (.iload_n 1, 1) := by decide +kernel
theorem dX8_drive_139 : decode cX8_drive 139 = .ok (.iconst 2, 1) := by decide +kernel
theorem dX8_drive_140 : decode cX8_drive 140 = .ok (.invokevirtual 212, 3) := by decide +kernel
theorem dX8_drive_143 : decode cX8_drive 143 = .ok (.sipush 1000, 3) := by decide +kernel
theorem dX8_drive_146 : decode cX8_drive 146 = .ok (.imul, 1) := by decide +kernel
theorem dX8_drive_147 : decode cX8_drive 147 = .ok (.iadd, 1) := by decide +kernel
theorem dX8_drive_148 : decode cX8_drive 148 = .ok (.istore 4, 2) := by decide +kernel
theorem dX8_drive_150 : decode cX8_drive 150 = .ok (.iload 7, 2) := by decide +kernel
theorem dX8_drive_152 : decode cX8_drive 152 = .ok (.iload 9, 2) := by decide +kernel
theorem dX8_drive_154 : decode cX8_drive 154 = .ok (.ifCond .eq 7, 3) := by decide +kernel
theorem dX8_drive_157 : decode cX8_drive 157 = .ok (.iconst 1, 1) := by decide +kernel
theorem dX8_drive_158 : decode cX8_drive 158 = .ok (.goto 4, 3) := by decide +kernel
theorem dX8_drive_161 : decode cX8_drive 161 = .ok (.iconst 0, 1) := by decide +kernel
theorem dX8_drive_162 : decode cX8_drive 162 = .ok (.iadd, 1) := by decide +kernel
theorem dX8_drive_163 : decode cX8_drive 163 = .ok (.istore 7, 2) := by decide +kernel
theorem dX8_drive_165 : decode cX8_drive 165 = .ok (.iload 9, 2) := by decide +kernel
theorem dX8_drive_167 : decode cX8_drive 167 = .ok (.istore 8, 2) := by decide +kernel
theorem dX8_drive_169 : decode cX8_drive 169 = .ok (.iinc 6 1, 3) := by decide +kernel
theorem dX8_drive_172 : decode cX8_drive 172 = .ok (.goto (-150), 3) := by decide +kernel
set_option maxHeartbeats 4000000 in
set_option maxRecDepth 100000 in
theorem m_drive (l : Launch) (D : va_G) (k : Nat → ClassId) (st : Nat → Nat) (lo : Nat) (a : Nat → Nat) (tx : Nat) (t0 : Nat) (we : Nat) (rd : Nat) (ru : Nat) (rw : Nat) (ca : Nat) (fp : Int32) (wd : Int64) (nu : Int32) (na : Int32) (ts : Int32) (df : Int32) (db : Int32) (sd : Int32) (dn : Nat → Nat) (se : Nat → Nat) (tm : Nat → Nat) (gs : Nat → Int32) (ffrees : Nat → Int32) (fprices : Nat → Int32) (bm : Nat → Nat) (fbarSeen : Nat → Int32) (fbarFrom : Nat → Int32) (fruleRounds : Nat → Int32) (sn : Nat) (kr : Nat) (hdn : ∀ j, dn j ≤ 24) (hse : ∀ j, se j ≤ 2) (htm : ∀ j, tm j ≤ 3) (hbm : ∀ j, bm j ≤ 12) (hs : sn < 3) (hk : kr < 4) (h0 : 0 < dn sn) : CWi l D k st lo yX8_drive cX8_drive 10 (some .int) ({ frames := 4, cells := 0, slots := 0, locals := 93 }) 0 0 [.ref (a 0), .int (nI sn), .int (nI kr)] [((a 0), .inr (8, (fX8 a (nI tx) fp (nI t0) wd (nI we) nu na (nI rd) ts (nI ru) (nI rw) (nI ca) df db sd))), (aI k (a 1) 3 (nF dn)), (aI k (a 4) 27 (sg se tm gs)), (aI k (a 2) 72 ffrees), (aI k (a 3) 72 fprices), (aI k (a 25) 4 (nF bm)), (aI k (a 26) 48 fbarSeen), (aI k (a 27) 48 fbarFrom), (aI k (a 28) 4 fruleRounds)] (fun (r : Int32) (sd_ : Int32) => True) (fun (sd_ : Int32) => [((a 0), .inr (8, (fX8 a (nI tx) fp (nI t0) wd (nI we) nu na (nI rd) ts (nI ru) (nI rw) (nI ca) df db sd_))), (aI k (a 1) 3 (nF dn)), (aI k (a 4) 27 (sg se tm gs)), (aI k (a 2) 72 ffrees), (aI k (a 3) 72 fprices), (aI k (a 25) 4 (nF bm)), (aI k (a 26) 48 fbarSeen), (aI k (a 27) 48 fbarFrom), (aI k (a 28) 4 fruleRounds)]) := by
  intro sz
  refine Met.ofW (cc := cX8_drive) (maxL := 10) (ret := (some .int)) (by decide) rfl ?_
  intro p e s m args below meth c s₁ B hml hv
  obtain ⟨rfl, hsz, hlo, hP, hK, hDL, hZ⟩ := hv
  have hx := B.exec
  have hb := B.bytes
  have hr := B.returns
  have hts := WS_ts B.pre
  have hown : s.vm.findClass RX8 = some m.cls := findClass_of_methodNamed B.named
  have hlocks := B.notSynchronized
  subst hsz
  have hD := hDL.self (sz := s.heap.size)
  have hAlo := A_lo hDL hlo
  generalize hAe : va_A [((a 0), .inr (8, (fX8 a (nI tx) fp (nI t0) wd (nI we) nu na (nI rd) ts (nI ru) (nI rw) (nI ca) df db sd))), (aI k (a 1) 3 (nF dn)), (aI k (a 4) 27 (sg se tm gs)), (aI k (a 2) 72 ffrees), (aI k (a 3) 72 fprices), (aI k (a 25) 4 (nF bm)), (aI k (a 26) 48 fbarSeen), (aI k (a 27) 48 fbarFrom), (aI k (a 28) 4 fruleRounds)] s.heap.size = A at hD hAlo ⊢
  have hA : ∀ q : Nat, s.heap.size ≤ q → A q := fun q h => by rw [← hAe]; exact Or.inr h
  have hS : va_S A s.heap s.heap [] := va_S.rf
  have hl := lv_entry ([.ref (a 0), .int (nI sn), .int (nI kr)]) (n := 10) (Nat.le_of_ble_eq_true rfl)
  rw [lg_entry_eq]
  generalize (lg_sl ([.ref (a 0), .int (nI sn), .int (nI kr)]) ++ List.replicate (10 - (lg_sl ([.ref (a 0), .int (nI sn), .int (nI kr)])).length) Slot.unset).toArray = ls at hl ⊢
  have hl : lv_has ls 10 [(0, .ref (a 0)), (1, .int (nI sn)), (2, .int (nI kr))] := hl
  have hd_9 := hdn sn
  have hd_8 := hse sn
  have hd_7 := htm sn
  refine lv_aload_n hx hb dX8_drive_0 rfl (lv_at hl 0 rfl) ?_
  refine va_get (D := D) (ci := 8) (v := .ref (a 1)) (C := RX8) (T := TX8) (N := 44) hx hb hts inX8 hown hK hP 0 rfl rfl 0 (by decide) (hts _ tw_973) (fun _ h9 => h9) rfl dX8_drive_1 ?_
  refine lv_iload_n hx hb dX8_drive_4 rfl (lv_at hl 1 rfl) ?_
  refine va_iald hx hb hK hP 1 1 rfl rfl (vp_in_nI (by omega) (by decide)) dX8_drive_5 ?_
  refine lv_ti (y := (nI (dn sn))) (by rw [nI_clamp (by omega)]; rfl) ?_
  refine lv_istore_n (lv' := [(3, .int (nI (dn sn))), (0, .ref (a 0)), (1, .int (nI sn)), (2, .int (nI kr))]) hx hb dX8_drive_6 rfl hl (by decide) rfl (fun ls hl => ?_)
  refine lv_iconst (v := 0) hx hb dX8_drive_7 (by decide) ?_
  refine lv_istore (lv' := [(4, .int 0), (3, .int (nI (dn sn))), (0, .ref (a 0)), (1, .int (nI sn)), (2, .int (nI kr))]) hx hb dX8_drive_8 hl (by decide) rfl (fun ls hl => ?_)
  refine lv_iconst (v := 0) hx hb dX8_drive_10 (by decide) ?_
  refine lv_istore (lv' := [(5, .int 0), (4, .int 0), (3, .int (nI (dn sn))), (0, .ref (a 0)), (1, .int (nI sn)), (2, .int (nI kr))]) hx hb dX8_drive_11 hl (by decide) rfl (fun ls hl => ?_)
  refine lv_iconst (v := 0) hx hb dX8_drive_13 (by decide) ?_
  refine lv_istore (lv' := [(6, .int 0), (5, .int 0), (4, .int 0), (3, .int (nI (dn sn))), (0, .ref (a 0)), (1, .int (nI sn)), (2, .int (nI kr))]) hx hb dX8_drive_14 hl (by decide) rfl (fun ls hl => ?_)
  refine lv_iconst (v := 0) hx hb dX8_drive_16 (by decide) ?_
  refine lv_istore (lv' := [(7, .int 0), (6, .int 0), (5, .int 0), (4, .int 0), (3, .int (nI (dn sn))), (0, .ref (a 0)), (1, .int (nI sn)), (2, .int (nI kr))]) hx hb dX8_drive_17 hl (by decide) rfl (fun ls hl => ?_)
  refine lv_iconst (v := 0) hx hb dX8_drive_19 (by decide) ?_
  refine lv_istore (lv' := [(8, .int 0), (7, .int 0), (6, .int 0), (5, .int 0), (4, .int 0), (3, .int (nI (dn sn))), (0, .ref (a 0)), (1, .int (nI sn)), (2, .int (nI kr))]) hx hb dX8_drive_20 hl (by decide) rfl (fun ls hl => ?_)
  refine W_loop (σ := Int32 × Nat × Nat × Int32 × Int32 × Int32) (fun (n_ : Nat) (x_ : Int32 × Nat × Nat × Int32 × Int32 × Int32) (H : Heap) (locs : List Loc) (ls : Array Slot) => match x_ with | (co_1, rr_1, ii_1, pa_1, ah_1, sd2_1) => n_ = (3 - rr_1) * 25 + (dn sn - ii_1) ∧ (rr_1 ≤ 3 ∧ ii_1 ≤ dn sn) ∧ va_P D classes [((a 0), .inr (8, (fX8 a (nI tx) fp (nI t0) wd (nI we) nu na (nI rd) ts (nI ru) (nI rw) (nI ca) df db sd2_1))), (aI k (a 1) 3 (nF dn)), (aI k (a 4) 27 (sg se tm gs)), (aI k (a 2) 72 ffrees), (aI k (a 3) 72 fprices), (aI k (a 25) 4 (nF bm)), (aI k (a 26) 48 fbarSeen), (aI k (a 27) 48 fbarFrom), (aI k (a 28) 4 fruleRounds)] H ∧ va_D A [((a 0), .inr (8, (fX8 a (nI tx) fp (nI t0) wd (nI we) nu na (nI rd) ts (nI ru) (nI rw) (nI ca) df db sd2_1))), (aI k (a 1) 3 (nF dn)), (aI k (a 4) 27 (sg se tm gs)), (aI k (a 2) 72 ffrees), (aI k (a 3) 72 fprices), (aI k (a 25) 4 (nF bm)), (aI k (a 26) 48 fbarSeen), (aI k (a 27) 48 fbarFrom), (aI k (a 28) 4 fruleRounds)] ∧ va_S A s.heap H locs ∧ lv_has ls 10 [(8, .int ah_1), (7, .int pa_1), (6, .int (nI ii_1)), (5, .int (nI rr_1)), (4, .int co_1), (3, .int (nI (dn sn))), (0, .ref (a 0)), (1, .int (nI sn)), (2, .int (nI kr))]) (fun n_1 x_1 H locs ls hI ih_1 => ?_) _ (0, 0, 0, 0, 0, sd) ⟨rfl, ⟨by omega, by omega⟩, hP, hD, hS, (lv_sub hl [0, 1, 2, 3, 4, 5, 6, 7, 8] rfl)⟩
  obtain ⟨co_1, rr_1, ii_1, pa_1, ah_1, sd2_1⟩ := x_1
  obtain ⟨hm_1, hv_1, hP, hD, hS, hl⟩ := hI
  subst hm_1
  refine lv_iload hx hb dX8_drive_22 (lv_at hl 2 rfl) ?_
  refine lv_iload_n hx hb dX8_drive_24 rfl (lv_at hl 5 rfl) ?_
  refine lv_icmp_ne (tgt := 82) hx hb dX8_drive_25 (by decide) (fun c_2 => ?_) (fun c_2 => ?_)
  · have c_2 : ¬ (ii_1 = (dn sn)) := fun h => c_2 ((nI_eq (a := ii_1) (b := (dn sn)) (by omega) (by omega)).mpr h)
    refine lv_aload_n hx hb dX8_drive_82 rfl (lv_at hl 6 rfl) ?_
    refine rw_i (D := D) (wr := [(aI k (a 1) 3 (nF dn)), (aI k (a 4) 27 (sg se tm gs)), (aI k (a 2) 72 ffrees), (aI k (a 3) 72 fprices), (aI k (a 25) 4 (nF bm)), (aI k (a 26) 48 fbarSeen), (aI k (a 27) 48 fbarFrom), (aI k (a 28) 4 fruleRounds)]) (va_runV (As := []) (rest := []) ⟨hx, hb, hml, hown, hts⟩ ((m_draw l D k st lo a tx t0 we rd ru rw ca fp wd nu na ts df db sd2_1) H.size) (cwV 0 hts (gV tw_1480 tw_1482 tw_77 tw_87 tw_1483) rfl rfl rfl (by decide +kernel) ⟨Nat.le_of_ble_eq_true rfl, Nat.le_of_ble_eq_true rfl⟩) (pV hS hAlo hlo hP hK (va_Dlo hD hAlo) hZ [0] (by decide) rfl (ci := 8) (q := (RX8, TX8, 44)) (q0 := 0) rfl rfl) rfl rfl hl.1 rfl (lv_room (Nat.le_of_ble_eq_true rfl)) dX8_drive_83 ⟨Nat.le_of_ble_eq_true rfl, Nat.le_of_ble_eq_true rfl⟩) hS hA hP hD [0] [1, 2, 3, 4, 5, 6, 7, 8] rfl rfl (by decide) (by decide) (fun r_3 u H locs hw_3 hP hD hS => ?_)
    obtain ⟨sd__3, rfl⟩ : ∃ z, z = u := ⟨_, rfl⟩
    replace hP : va_P D classes [(aI k (a 1) 3 (nF dn)), (aI k (a 4) 27 (sg se tm gs)), (aI k (a 2) 72 ffrees), (aI k (a 3) 72 fprices), (aI k (a 25) 4 (nF bm)), (aI k (a 26) 48 fbarSeen), (aI k (a 27) 48 fbarFrom), (aI k (a 28) 4 fruleRounds), ((a 0), .inr (8, (fX8 a (nI tx) fp (nI t0) wd (nI we) nu na (nI rd) ts (nI ru) (nI rw) (nI ca) df db sd__3)))] H := hP
    replace hD : va_D A [(aI k (a 1) 3 (nF dn)), (aI k (a 4) 27 (sg se tm gs)), (aI k (a 2) 72 ffrees), (aI k (a 3) 72 fprices), (aI k (a 25) 4 (nF bm)), (aI k (a 26) 48 fbarSeen), (aI k (a 27) 48 fbarFrom), (aI k (a 28) 4 fruleRounds), ((a 0), .inr (8, (fX8 a (nI tx) fp (nI t0) wd (nI we) nu na (nI rd) ts (nI ru) (nI rw) (nI ca) df db sd__3)))] := hD
    try dsimp only at hw_3
    refine lv_aload_n hx hb dX8_drive_86 rfl (lv_at hl 6 rfl) ?_
    refine lv_iload_n hx hb dX8_drive_87 rfl (lv_at hl 7 rfl) ?_
    refine lv_iload hx hb dX8_drive_88 (lv_at hl 2 rfl) ?_
    refine lv_iload hx hb dX8_drive_90 (lv_at hl 0 rfl) ?_
    refine ro_i (D := D) (va_runV (As := [.int (nI sn), .int (nI ii_1), .int ah_1]) (rest := [.int r_3]) ⟨hx, hb, hml, hown, hts⟩ ((m_chanceOf l D k st lo a tx t0 we rd ru rw ca fp wd nu na ts df db sd__3 ffrees se tm gs sn ii_1 ah_1 (by omega) (by omega)) H.size) (cwV 3 hts (gV tw_1210 tw_1212 tw_41 tw_87 tw_1213) rfl rfl rfl (by decide +kernel) ⟨Nat.le_of_ble_eq_true rfl, Nat.le_of_ble_eq_true rfl⟩) (pV hS hAlo hlo hP hK (va_Dlo hD hAlo) hZ [8, 2, 1] (by decide) rfl (ci := 8) (q := (RX8, TX8, 44)) (q0 := 0) rfl rfl) rfl rfl hl.1 rfl (lv_room (Nat.le_of_ble_eq_true rfl)) dX8_drive_92 ⟨Nat.le_of_ble_eq_true rfl, Nat.le_of_ble_eq_true rfl⟩) hS hA hP (fun r_4 H locs hw_4 hP hS => ?_)
    try dsimp only at hw_4
    refine lv_icmp_ge (tgt := 102) hx hb dX8_drive_95 (by decide) (fun c_5 => ?_) (fun c_5 => ?_)
    · refine lv_iconst (v := 0) hx hb dX8_drive_102 (by decide) ?_
      refine lv_istore (lv' := [(9, .int 0), (8, .int ah_1), (7, .int pa_1), (6, .int (nI ii_1)), (5, .int (nI rr_1)), (4, .int co_1), (3, .int (nI (dn sn))), (0, .ref (a 0)), (1, .int (nI sn)), (2, .int (nI kr))]) hx hb dX8_drive_103 hl (by decide) rfl (fun ls hl => ?_)
      refine lv_iload hx hb dX8_drive_105 (lv_at hl 0 rfl) ?_
      refine lv_if_eq (tgt := 135) hx hb dX8_drive_107 (by decide) (fun _ => ?_) (fun h => absurd (by decide) h)
      refine lv_iload hx hb dX8_drive_135 (lv_at hl 5 rfl) ?_
      refine lv_aload_n hx hb dX8_drive_137 rfl (lv_at hl 7 rfl) ?_
      refine lv_iload_n hx hb dX8_drive_138 rfl (lv_at hl 8 rfl) ?_
      refine lv_iconst (v := 2) hx hb dX8_drive_139 (by decide) ?_
      refine ro_i (D := D) (va_runV (As := [.int (nI sn), .int 2]) (rest := [.int co_1]) ⟨hx, hb, hml, hown, hts⟩ ((m_of l D k st lo a tx t0 we rd ru rw ca fp wd nu na ts df db sd__3 se tm gs sn 2 (by omega) (by omega)) H.size) (cwV 2 hts (gV tw_1194 tw_1196 tw_39 tw_87 tw_1197) rfl rfl rfl (by decide +kernel) ⟨Nat.le_of_ble_eq_true rfl, Nat.le_of_ble_eq_true rfl⟩) (pV hS hAlo hlo hP hK (va_Dlo hD hAlo) hZ [8, 1] (by decide) rfl (ci := 8) (q := (RX8, TX8, 44)) (q0 := 0) rfl rfl) rfl rfl hl.1 rfl (lv_room (Nat.le_of_ble_eq_true rfl)) dX8_drive_140 ⟨Nat.le_of_ble_eq_true rfl, Nat.le_of_ble_eq_true rfl⟩) hS hA hP (fun r_6 H locs hw_6 hP hS => ?_)
      try dsimp only at hw_6
      refine lv_sipush (v := 1000) hx hb dX8_drive_143 (by decide) ?_
      refine lv_imul hx hb dX8_drive_146 ?_
      refine lv_topi (fun x_7 ex_7 => ?_)
      refine lv_iadd hx hb dX8_drive_147 ?_
      refine lv_topi (fun x_8 ex_8 => ?_)
      refine lv_istore (lv' := [(4, .int x_8), (9, .int 0), (8, .int ah_1), (7, .int pa_1), (6, .int (nI ii_1)), (5, .int (nI rr_1)), (3, .int (nI (dn sn))), (0, .ref (a 0)), (1, .int (nI sn)), (2, .int (nI kr))]) hx hb dX8_drive_148 hl (by decide) rfl (fun ls hl => ?_)
      refine lv_iload hx hb dX8_drive_150 (lv_at hl 3 rfl) ?_
      refine lv_iload hx hb dX8_drive_152 (lv_at hl 1 rfl) ?_
      refine lv_if_eq (tgt := 161) hx hb dX8_drive_154 (by decide) (fun _ => ?_) (fun h => absurd (by decide) h)
      refine lv_iconst (v := 0) hx hb dX8_drive_161 (by decide) ?_
      refine lv_iadd hx hb dX8_drive_162 ?_
      refine lv_topi (fun x_9 ex_9 => ?_)
      refine lv_istore (lv' := [(7, .int x_9), (4, .int x_8), (9, .int 0), (8, .int ah_1), (6, .int (nI ii_1)), (5, .int (nI rr_1)), (3, .int (nI (dn sn))), (0, .ref (a 0)), (1, .int (nI sn)), (2, .int (nI kr))]) hx hb dX8_drive_163 hl (by decide) rfl (fun ls hl => ?_)
      refine lv_iload hx hb dX8_drive_165 (lv_at hl 2 rfl) ?_
      refine lv_istore (lv' := [(8, .int 0), (7, .int x_9), (4, .int x_8), (9, .int 0), (6, .int (nI ii_1)), (5, .int (nI rr_1)), (3, .int (nI (dn sn))), (0, .ref (a 0)), (1, .int (nI sn)), (2, .int (nI kr))]) hx hb dX8_drive_167 hl (by decide) rfl (fun ls hl => ?_)
      refine lv_iinc (v := (nI (ii_1 + 1))) (lv' := [(6, .int (nI (ii_1 + 1))), (8, .int 0), (7, .int x_9), (4, .int x_8), (9, .int 0), (5, .int (nI rr_1)), (3, .int (nI (dn sn))), (0, .ref (a 0)), (1, .int (nI sn)), (2, .int (nI kr))]) hx hb dX8_drive_169 hl (k := 4) rfl (nI_add ii_1 1) (by decide) rfl (fun ls hl => ?_)
      refine lv_goto (tgt := 22) hx hb dX8_drive_172 (by decide) ?_
      exact ih_1 _ (x_8, rr_1, ii_1 + 1, x_9, 0, sd__3) _ _ _ (by omega) ⟨rfl, ⟨by omega, by omega⟩, (hP.sub [8, 0, 1, 2, 3, 4, 5, 6, 7] rfl), (hD.sub [8, 0, 1, 2, 3, 4, 5, 6, 7] (by decide +kernel) rfl), hS, (lv_sub hl [1, 2, 0, 5, 3, 6, 7, 8, 9] rfl)⟩
    · refine lv_iconst (v := 1) hx hb dX8_drive_98 (by decide) ?_
      refine lv_goto (tgt := 103) hx hb dX8_drive_99 (by decide) ?_
      refine lv_istore (lv' := [(9, .int 1), (8, .int ah_1), (7, .int pa_1), (6, .int (nI ii_1)), (5, .int (nI rr_1)), (4, .int co_1), (3, .int (nI (dn sn))), (0, .ref (a 0)), (1, .int (nI sn)), (2, .int (nI kr))]) hx hb dX8_drive_103 hl (by decide) rfl (fun ls hl => ?_)
      refine lv_iload hx hb dX8_drive_105 (lv_at hl 0 rfl) ?_
      refine lv_if_eq (tgt := 135) hx hb dX8_drive_107 (by decide) (fun h => absurd h (by decide)) (fun _ => ?_)
      refine lv_aload_n hx hb dX8_drive_110 rfl (lv_at hl 7 rfl) ?_
      refine lv_iload_n hx hb dX8_drive_111 rfl (lv_at hl 9 rfl) ?_
      refine lv_iload hx hb dX8_drive_112 (lv_at hl 3 rfl) ?_
      refine lv_iload hx hb dX8_drive_114 (lv_at hl 2 rfl) ?_
      refine ro_i (D := D) (va_runV (As := [.int (nI kr), .int (nI ii_1), .int pa_1]) (rest := []) ⟨hx, hb, hml, hown, hts⟩ ((m_isFor l D k st lo a tx t0 we rd ru rw ca fp wd nu na ts df db sd__3 bm fbarSeen fbarFrom kr (nI ii_1) pa_1 hbm (by omega)) H.size) (cwV 3 hts (gV tw_1338 tw_1340 tw_61 tw_87 tw_1341) rfl rfl rfl (by decide +kernel) ⟨Nat.le_of_ble_eq_true rfl, Nat.le_of_ble_eq_true rfl⟩) (pV hS hAlo hlo hP hK (va_Dlo hD hAlo) hZ [8, 4, 5, 6] (by decide) rfl (ci := 8) (q := (RX8, TX8, 44)) (q0 := 0) rfl rfl) rfl rfl hl.1 rfl (lv_room (Nat.le_of_ble_eq_true rfl)) dX8_drive_116 ⟨Nat.le_of_ble_eq_true rfl, Nat.le_of_ble_eq_true rfl⟩) hS hA hP (fun r_10 H locs hw_10 hP hS => ?_)
      try dsimp only at hw_10
      refine lv_if_eq (tgt := 135) hx hb dX8_drive_119 (by decide) (fun c_11 => ?_) (fun c_11 => ?_)
      · refine lv_iload hx hb dX8_drive_135 (lv_at hl 5 rfl) ?_
        refine lv_aload_n hx hb dX8_drive_137 rfl (lv_at hl 7 rfl) ?_
        refine lv_iload_n hx hb dX8_drive_138 rfl (lv_at hl 8 rfl) ?_
        refine lv_iconst (v := 2) hx hb dX8_drive_139 (by decide) ?_
        refine ro_i (D := D) (va_runV (As := [.int (nI sn), .int 2]) (rest := [.int co_1]) ⟨hx, hb, hml, hown, hts⟩ ((m_of l D k st lo a tx t0 we rd ru rw ca fp wd nu na ts df db sd__3 se tm gs sn 2 (by omega) (by omega)) H.size) (cwV 2 hts (gV tw_1194 tw_1196 tw_39 tw_87 tw_1197) rfl rfl rfl (by decide +kernel) ⟨Nat.le_of_ble_eq_true rfl, Nat.le_of_ble_eq_true rfl⟩) (pV hS hAlo hlo hP hK (va_Dlo hD hAlo) hZ [8, 1] (by decide) rfl (ci := 8) (q := (RX8, TX8, 44)) (q0 := 0) rfl rfl) rfl rfl hl.1 rfl (lv_room (Nat.le_of_ble_eq_true rfl)) dX8_drive_140 ⟨Nat.le_of_ble_eq_true rfl, Nat.le_of_ble_eq_true rfl⟩) hS hA hP (fun r_12 H locs hw_12 hP hS => ?_)
        try dsimp only at hw_12
        refine lv_sipush (v := 1000) hx hb dX8_drive_143 (by decide) ?_
        refine lv_imul hx hb dX8_drive_146 ?_
        refine lv_topi (fun x_13 ex_13 => ?_)
        refine lv_iadd hx hb dX8_drive_147 ?_
        refine lv_topi (fun x_14 ex_14 => ?_)
        refine lv_istore (lv' := [(4, .int x_14), (9, .int 1), (8, .int ah_1), (7, .int pa_1), (6, .int (nI ii_1)), (5, .int (nI rr_1)), (3, .int (nI (dn sn))), (0, .ref (a 0)), (1, .int (nI sn)), (2, .int (nI kr))]) hx hb dX8_drive_148 hl (by decide) rfl (fun ls hl => ?_)
        refine lv_iload hx hb dX8_drive_150 (lv_at hl 3 rfl) ?_
        refine lv_iload hx hb dX8_drive_152 (lv_at hl 1 rfl) ?_
        refine lv_if_eq (tgt := 161) hx hb dX8_drive_154 (by decide) (fun h => absurd h (by decide)) (fun _ => ?_)
        refine lv_iconst (v := 1) hx hb dX8_drive_157 (by decide) ?_
        refine lv_goto (tgt := 162) hx hb dX8_drive_158 (by decide) ?_
        refine lv_iadd hx hb dX8_drive_162 ?_
        refine lv_topi (fun x_15 ex_15 => ?_)
        refine lv_istore (lv' := [(7, .int x_15), (4, .int x_14), (9, .int 1), (8, .int ah_1), (6, .int (nI ii_1)), (5, .int (nI rr_1)), (3, .int (nI (dn sn))), (0, .ref (a 0)), (1, .int (nI sn)), (2, .int (nI kr))]) hx hb dX8_drive_163 hl (by decide) rfl (fun ls hl => ?_)
        refine lv_iload hx hb dX8_drive_165 (lv_at hl 2 rfl) ?_
        refine lv_istore (lv' := [(8, .int 1), (7, .int x_15), (4, .int x_14), (9, .int 1), (6, .int (nI ii_1)), (5, .int (nI rr_1)), (3, .int (nI (dn sn))), (0, .ref (a 0)), (1, .int (nI sn)), (2, .int (nI kr))]) hx hb dX8_drive_167 hl (by decide) rfl (fun ls hl => ?_)
        refine lv_iinc (v := (nI (ii_1 + 1))) (lv' := [(6, .int (nI (ii_1 + 1))), (8, .int 1), (7, .int x_15), (4, .int x_14), (9, .int 1), (5, .int (nI rr_1)), (3, .int (nI (dn sn))), (0, .ref (a 0)), (1, .int (nI sn)), (2, .int (nI kr))]) hx hb dX8_drive_169 hl (k := 4) rfl (nI_add ii_1 1) (by decide) rfl (fun ls hl => ?_)
        refine lv_goto (tgt := 22) hx hb dX8_drive_172 (by decide) ?_
        exact ih_1 _ (x_14, rr_1, ii_1 + 1, x_15, 1, sd__3) _ _ _ (by omega) ⟨rfl, ⟨by omega, by omega⟩, (hP.sub [8, 0, 1, 2, 3, 4, 5, 6, 7] rfl), (hD.sub [8, 0, 1, 2, 3, 4, 5, 6, 7] (by decide +kernel) rfl), hS, (lv_sub hl [1, 2, 0, 5, 3, 6, 7, 8, 9] rfl)⟩
      · refine lv_iload hx hb dX8_drive_122 (lv_at hl 5 rfl) ?_
        refine lv_aload_n hx hb dX8_drive_124 rfl (lv_at hl 7 rfl) ?_
        refine lv_iload_n hx hb dX8_drive_125 rfl (lv_at hl 8 rfl) ?_
        refine lv_iload hx hb dX8_drive_126 (lv_at hl 4 rfl) ?_
        refine lv_iload hx hb dX8_drive_128 (lv_at hl 3 rfl) ?_
        refine ro_i (D := D) (va_runV (As := [.int (nI sn), .int (nI rr_1), .int (nI ii_1)]) (rest := [.int co_1]) ⟨hx, hb, hml, hown, hts⟩ ((m_takingOf l D k st lo a tx t0 we rd ru rw ca fp wd nu na ts df db sd__3 dn se tm gs fprices sn ii_1 (nI rr_1) (by omega) (by omega)) H.size) (cwV 3 hts (gV tw_1222 tw_1224 tw_43 tw_87 tw_1225) rfl rfl rfl (by decide +kernel) ⟨Nat.le_of_ble_eq_true rfl, Nat.le_of_ble_eq_true rfl⟩) (pV hS hAlo hlo hP hK (va_Dlo hD hAlo) hZ [8, 0, 1, 3] (by decide) rfl (ci := 8) (q := (RX8, TX8, 44)) (q0 := 0) rfl rfl) rfl rfl hl.1 rfl (lv_room (Nat.le_of_ble_eq_true rfl)) dX8_drive_130 ⟨Nat.le_of_ble_eq_true rfl, Nat.le_of_ble_eq_true rfl⟩) hS hA hP (fun r_16 H locs hw_16 hP hS => ?_)
        try dsimp only at hw_16
        refine lv_iadd hx hb dX8_drive_133 ?_
        refine lv_topi (fun x_17 ex_17 => ?_)
        have hP9 := hP.sub (ws' := [((a 0), .inr (8, (fX8 a (nI tx) fp (nI t0) wd (nI we) nu na (nI rd) ts (nI ru) (nI rw) (nI ca) df db sd__3))), (aI k (a 1) 3 (nF dn)), (aI k (a 4) 27 (sg se tm gs)), (aI k (a 2) 72 ffrees), (aI k (a 3) 72 fprices), (aI k (a 25) 4 (nF bm)), (aI k (a 26) 48 fbarSeen), (aI k (a 27) 48 fbarFrom), (aI k (a 28) 4 fruleRounds)]) [8, 0, 1, 2, 3, 4, 5, 6, 7] rfl
        have hD9 := hD.sub (ws' := [((a 0), .inr (8, (fX8 a (nI tx) fp (nI t0) wd (nI we) nu na (nI rd) ts (nI ru) (nI rw) (nI ca) df db sd__3))), (aI k (a 1) 3 (nF dn)), (aI k (a 4) 27 (sg se tm gs)), (aI k (a 2) 72 ffrees), (aI k (a 3) 72 fprices), (aI k (a 25) 4 (nF bm)), (aI k (a 26) 48 fbarSeen), (aI k (a 27) 48 fbarFrom), (aI k (a 28) 4 fruleRounds)]) [8, 0, 1, 2, 3, 4, 5, 6, 7] (by decide +kernel) rfl
        exact W.iret (v := x_17) hx hb hr (fun t ht hW => ⟨⟨x_17, sd__3, rfl, trivial, by rw [ht]; exact hP9, hD9⟩, hS.F ht⟩) hS.2.2 dX8_drive_134
  · have c_2 := (nI_eq (a := ii_1) (b := (dn sn)) (by omega) (by omega)).mp c_2
    refine lv_aload_n hx hb dX8_drive_28 rfl (lv_at hl 6 rfl) ?_
    refine lv_iload_n hx hb dX8_drive_29 rfl (lv_at hl 7 rfl) ?_
    refine lv_iload_n hx hb dX8_drive_30 rfl (lv_at hl 8 rfl) ?_
    refine lv_iload hx hb dX8_drive_31 (lv_at hl 3 rfl) ?_
    refine ro_i (D := D) (va_runV (As := [.int (nI sn), .int (nI kr), .int (nI rr_1)]) (rest := []) ⟨hx, hb, hml, hown, hts⟩ ((m_isRoundBy l D k st lo a tx t0 we rd ru rw ca fp wd nu na ts df db sd2_1 se tm gs fruleRounds sn kr rr_1 htm (by omega) (by omega) (by omega)) H.size) (cwV 3 hts (gV tw_1329 tw_1331 tw_59 tw_87 tw_1332) rfl rfl rfl (by decide +kernel) ⟨Nat.le_of_ble_eq_true rfl, Nat.le_of_ble_eq_true rfl⟩) (pV hS hAlo hlo hP hK (va_Dlo hD hAlo) hZ [0, 2, 8] (by decide) rfl (ci := 8) (q := (RX8, TX8, 44)) (q0 := 0) rfl rfl) rfl rfl hl.1 rfl (lv_room (Nat.le_of_ble_eq_true rfl)) dX8_drive_33 ⟨Nat.le_of_ble_eq_true rfl, Nat.le_of_ble_eq_true rfl⟩) hS hA hP (fun r_18 H locs hw_18 hP hS => ?_)
    try dsimp only at hw_18
    rcases hw_18 with ⟨rfl, hw_18⟩ | rfl
    · refine lv_if_ne (tgt := 50) hx hb dX8_drive_36 (by decide) (fun _ => ?_) (fun h => absurd h (by decide))
      refine lv_iload hx hb dX8_drive_50 (lv_at hl 4 rfl) ?_
      refine lv_aload_n hx hb dX8_drive_52 rfl (lv_at hl 6 rfl) ?_
      refine lv_iload_n hx hb dX8_drive_53 rfl (lv_at hl 7 rfl) ?_
      refine lv_iconst (v := 2) hx hb dX8_drive_54 (by decide) ?_
      refine ro_i (D := D) (va_runV (As := [.int (nI sn), .int 2]) (rest := [.int co_1]) ⟨hx, hb, hml, hown, hts⟩ ((m_of l D k st lo a tx t0 we rd ru rw ca fp wd nu na ts df db sd2_1 se tm gs sn 2 (by omega) (by omega)) H.size) (cwV 2 hts (gV tw_1194 tw_1196 tw_39 tw_87 tw_1197) rfl rfl rfl (by decide +kernel) ⟨Nat.le_of_ble_eq_true rfl, Nat.le_of_ble_eq_true rfl⟩) (pV hS hAlo hlo hP hK (va_Dlo hD hAlo) hZ [0, 2] (by decide) rfl (ci := 8) (q := (RX8, TX8, 44)) (q0 := 0) rfl rfl) rfl rfl hl.1 rfl (lv_room (Nat.le_of_ble_eq_true rfl)) dX8_drive_55 ⟨Nat.le_of_ble_eq_true rfl, Nat.le_of_ble_eq_true rfl⟩) hS hA hP (fun r_19 H locs hw_19 hP hS => ?_)
      try dsimp only at hw_19
      refine lv_aload_n hx hb dX8_drive_58 rfl (lv_at hl 6 rfl) ?_
      refine lv_iload_n hx hb dX8_drive_59 rfl (lv_at hl 7 rfl) ?_
      refine lv_bipush (v := 6) hx hb dX8_drive_60 (by decide) ?_
      refine ro_i (D := D) (va_runV (As := [.int (nI sn), .int 6]) (rest := [.int r_19, .int co_1]) ⟨hx, hb, hml, hown, hts⟩ ((m_of l D k st lo a tx t0 we rd ru rw ca fp wd nu na ts df db sd2_1 se tm gs sn 6 (by omega) (by omega)) H.size) (cwV 2 hts (gV tw_1194 tw_1196 tw_39 tw_87 tw_1197) rfl rfl rfl (by decide +kernel) ⟨Nat.le_of_ble_eq_true rfl, Nat.le_of_ble_eq_true rfl⟩) (pV hS hAlo hlo hP hK (va_Dlo hD hAlo) hZ [0, 2] (by decide) rfl (ci := 8) (q := (RX8, TX8, 44)) (q0 := 0) rfl rfl) rfl rfl hl.1 rfl (lv_room (Nat.le_of_ble_eq_true rfl)) dX8_drive_62 ⟨Nat.le_of_ble_eq_true rfl, Nat.le_of_ble_eq_true rfl⟩) hS hA hP (fun r_20 H locs hw_20 hP hS => ?_)
      try dsimp only at hw_20
      refine lv_imul hx hb dX8_drive_65 ?_
      refine lv_topi (fun x_21 ex_21 => ?_)
      refine lv_sipush (v := 1000) hx hb dX8_drive_66 (by decide) ?_
      refine lv_imul hx hb dX8_drive_69 ?_
      refine lv_topi (fun x_22 ex_22 => ?_)
      refine lv_iadd hx hb dX8_drive_70 ?_
      refine lv_topi (fun x_23 ex_23 => ?_)
      refine lv_istore (lv' := [(4, .int x_23), (8, .int ah_1), (7, .int pa_1), (6, .int (nI ii_1)), (5, .int (nI rr_1)), (3, .int (nI (dn sn))), (0, .ref (a 0)), (1, .int (nI sn)), (2, .int (nI kr))]) hx hb dX8_drive_71 hl (by decide) rfl (fun ls hl => ?_)
      refine lv_iinc (v := (nI (rr_1 + 1))) (lv' := [(5, .int (nI (rr_1 + 1))), (4, .int x_23), (8, .int ah_1), (7, .int pa_1), (6, .int (nI ii_1)), (3, .int (nI (dn sn))), (0, .ref (a 0)), (1, .int (nI sn)), (2, .int (nI kr))]) hx hb dX8_drive_73 hl (k := 4) rfl (nI_add rr_1 1) (by decide) rfl (fun ls hl => ?_)
      refine lv_iconst (v := 0) hx hb dX8_drive_76 (by decide) ?_
      refine lv_istore (lv' := [(6, .int 0), (5, .int (nI (rr_1 + 1))), (4, .int x_23), (8, .int ah_1), (7, .int pa_1), (3, .int (nI (dn sn))), (0, .ref (a 0)), (1, .int (nI sn)), (2, .int (nI kr))]) hx hb dX8_drive_77 hl (by decide) rfl (fun ls hl => ?_)
      refine lv_iconst (v := 0) hx hb dX8_drive_79 (by decide) ?_
      refine lv_istore (lv' := [(7, .int 0), (6, .int 0), (5, .int (nI (rr_1 + 1))), (4, .int x_23), (8, .int ah_1), (3, .int (nI (dn sn))), (0, .ref (a 0)), (1, .int (nI sn)), (2, .int (nI kr))]) hx hb dX8_drive_80 hl (by decide) rfl (fun ls hl => ?_)
      refine lv_aload_n hx hb dX8_drive_82 rfl (lv_at hl 6 rfl) ?_
      refine rw_i (D := D) (wr := [(aI k (a 1) 3 (nF dn)), (aI k (a 4) 27 (sg se tm gs)), (aI k (a 2) 72 ffrees), (aI k (a 3) 72 fprices), (aI k (a 25) 4 (nF bm)), (aI k (a 26) 48 fbarSeen), (aI k (a 27) 48 fbarFrom), (aI k (a 28) 4 fruleRounds)]) (va_runV (As := []) (rest := []) ⟨hx, hb, hml, hown, hts⟩ ((m_draw l D k st lo a tx t0 we rd ru rw ca fp wd nu na ts df db sd2_1) H.size) (cwV 0 hts (gV tw_1480 tw_1482 tw_77 tw_87 tw_1483) rfl rfl rfl (by decide +kernel) ⟨Nat.le_of_ble_eq_true rfl, Nat.le_of_ble_eq_true rfl⟩) (pV hS hAlo hlo hP hK (va_Dlo hD hAlo) hZ [0] (by decide) rfl (ci := 8) (q := (RX8, TX8, 44)) (q0 := 0) rfl rfl) rfl rfl hl.1 rfl (lv_room (Nat.le_of_ble_eq_true rfl)) dX8_drive_83 ⟨Nat.le_of_ble_eq_true rfl, Nat.le_of_ble_eq_true rfl⟩) hS hA hP hD [0] [1, 2, 3, 4, 5, 6, 7, 8] rfl rfl (by decide) (by decide) (fun r_24 u H locs hw_24 hP hD hS => ?_)
      obtain ⟨sd__24, rfl⟩ : ∃ z, z = u := ⟨_, rfl⟩
      replace hP : va_P D classes [(aI k (a 1) 3 (nF dn)), (aI k (a 4) 27 (sg se tm gs)), (aI k (a 2) 72 ffrees), (aI k (a 3) 72 fprices), (aI k (a 25) 4 (nF bm)), (aI k (a 26) 48 fbarSeen), (aI k (a 27) 48 fbarFrom), (aI k (a 28) 4 fruleRounds), ((a 0), .inr (8, (fX8 a (nI tx) fp (nI t0) wd (nI we) nu na (nI rd) ts (nI ru) (nI rw) (nI ca) df db sd__24)))] H := hP
      replace hD : va_D A [(aI k (a 1) 3 (nF dn)), (aI k (a 4) 27 (sg se tm gs)), (aI k (a 2) 72 ffrees), (aI k (a 3) 72 fprices), (aI k (a 25) 4 (nF bm)), (aI k (a 26) 48 fbarSeen), (aI k (a 27) 48 fbarFrom), (aI k (a 28) 4 fruleRounds), ((a 0), .inr (8, (fX8 a (nI tx) fp (nI t0) wd (nI we) nu na (nI rd) ts (nI ru) (nI rw) (nI ca) df db sd__24)))] := hD
      try dsimp only at hw_24
      refine lv_aload_n hx hb dX8_drive_86 rfl (lv_at hl 6 rfl) ?_
      refine lv_iload_n hx hb dX8_drive_87 rfl (lv_at hl 7 rfl) ?_
      refine lv_iload hx hb dX8_drive_88 (lv_at hl 1 rfl) ?_
      refine lv_iload hx hb dX8_drive_90 (lv_at hl 4 rfl) ?_
      refine ro_i (D := D) (va_runV (As := [.int (nI sn), .int 0, .int ah_1]) (rest := [.int r_24]) ⟨hx, hb, hml, hown, hts⟩ ((m_chanceOf l D k st lo a tx t0 we rd ru rw ca fp wd nu na ts df db sd__24 ffrees se tm gs sn 0 ah_1 (by omega) (by omega)) H.size) (cwV 3 hts (gV tw_1210 tw_1212 tw_41 tw_87 tw_1213) rfl rfl rfl (by decide +kernel) ⟨Nat.le_of_ble_eq_true rfl, Nat.le_of_ble_eq_true rfl⟩) (pV hS hAlo hlo hP hK (va_Dlo hD hAlo) hZ [8, 2, 1] (by decide) rfl (ci := 8) (q := (RX8, TX8, 44)) (q0 := 0) rfl rfl) rfl rfl hl.1 rfl (lv_room (Nat.le_of_ble_eq_true rfl)) dX8_drive_92 ⟨Nat.le_of_ble_eq_true rfl, Nat.le_of_ble_eq_true rfl⟩) hS hA hP (fun r_25 H locs hw_25 hP hS => ?_)
      try dsimp only at hw_25
      refine lv_icmp_ge (tgt := 102) hx hb dX8_drive_95 (by decide) (fun c_26 => ?_) (fun c_26 => ?_)
      · refine lv_iconst (v := 0) hx hb dX8_drive_102 (by decide) ?_
        refine lv_istore (lv' := [(9, .int 0), (7, .int 0), (6, .int 0), (5, .int (nI (rr_1 + 1))), (4, .int x_23), (8, .int ah_1), (3, .int (nI (dn sn))), (0, .ref (a 0)), (1, .int (nI sn)), (2, .int (nI kr))]) hx hb dX8_drive_103 hl (by decide) rfl (fun ls hl => ?_)
        refine lv_iload hx hb dX8_drive_105 (lv_at hl 0 rfl) ?_
        refine lv_if_eq (tgt := 135) hx hb dX8_drive_107 (by decide) (fun _ => ?_) (fun h => absurd (by decide) h)
        refine lv_iload hx hb dX8_drive_135 (lv_at hl 4 rfl) ?_
        refine lv_aload_n hx hb dX8_drive_137 rfl (lv_at hl 7 rfl) ?_
        refine lv_iload_n hx hb dX8_drive_138 rfl (lv_at hl 8 rfl) ?_
        refine lv_iconst (v := 2) hx hb dX8_drive_139 (by decide) ?_
        refine ro_i (D := D) (va_runV (As := [.int (nI sn), .int 2]) (rest := [.int x_23]) ⟨hx, hb, hml, hown, hts⟩ ((m_of l D k st lo a tx t0 we rd ru rw ca fp wd nu na ts df db sd__24 se tm gs sn 2 (by omega) (by omega)) H.size) (cwV 2 hts (gV tw_1194 tw_1196 tw_39 tw_87 tw_1197) rfl rfl rfl (by decide +kernel) ⟨Nat.le_of_ble_eq_true rfl, Nat.le_of_ble_eq_true rfl⟩) (pV hS hAlo hlo hP hK (va_Dlo hD hAlo) hZ [8, 1] (by decide) rfl (ci := 8) (q := (RX8, TX8, 44)) (q0 := 0) rfl rfl) rfl rfl hl.1 rfl (lv_room (Nat.le_of_ble_eq_true rfl)) dX8_drive_140 ⟨Nat.le_of_ble_eq_true rfl, Nat.le_of_ble_eq_true rfl⟩) hS hA hP (fun r_27 H locs hw_27 hP hS => ?_)
        try dsimp only at hw_27
        refine lv_sipush (v := 1000) hx hb dX8_drive_143 (by decide) ?_
        refine lv_imul hx hb dX8_drive_146 ?_
        refine lv_topi (fun x_28 ex_28 => ?_)
        refine lv_iadd hx hb dX8_drive_147 ?_
        refine lv_topi (fun x_29 ex_29 => ?_)
        refine lv_istore (lv' := [(4, .int x_29), (9, .int 0), (7, .int 0), (6, .int 0), (5, .int (nI (rr_1 + 1))), (8, .int ah_1), (3, .int (nI (dn sn))), (0, .ref (a 0)), (1, .int (nI sn)), (2, .int (nI kr))]) hx hb dX8_drive_148 hl (by decide) rfl (fun ls hl => ?_)
        refine lv_iload hx hb dX8_drive_150 (lv_at hl 2 rfl) ?_
        refine lv_iload hx hb dX8_drive_152 (lv_at hl 1 rfl) ?_
        refine lv_if_eq (tgt := 161) hx hb dX8_drive_154 (by decide) (fun _ => ?_) (fun h => absurd (by decide) h)
        refine lv_iconst (v := 0) hx hb dX8_drive_161 (by decide) ?_
        refine lv_iadd hx hb dX8_drive_162 ?_
        refine lv_ti (y := 0) (by decide) ?_
        refine lv_istore (lv' := [(7, .int 0), (4, .int x_29), (9, .int 0), (6, .int 0), (5, .int (nI (rr_1 + 1))), (8, .int ah_1), (3, .int (nI (dn sn))), (0, .ref (a 0)), (1, .int (nI sn)), (2, .int (nI kr))]) hx hb dX8_drive_163 hl (by decide) rfl (fun ls hl => ?_)
        refine lv_iload hx hb dX8_drive_165 (lv_at hl 2 rfl) ?_
        refine lv_istore (lv' := [(8, .int 0), (7, .int 0), (4, .int x_29), (9, .int 0), (6, .int 0), (5, .int (nI (rr_1 + 1))), (3, .int (nI (dn sn))), (0, .ref (a 0)), (1, .int (nI sn)), (2, .int (nI kr))]) hx hb dX8_drive_167 hl (by decide) rfl (fun ls hl => ?_)
        refine lv_iinc (v := 1) (lv' := [(6, .int 1), (8, .int 0), (7, .int 0), (4, .int x_29), (9, .int 0), (5, .int (nI (rr_1 + 1))), (3, .int (nI (dn sn))), (0, .ref (a 0)), (1, .int (nI sn)), (2, .int (nI kr))]) hx hb dX8_drive_169 hl (k := 4) rfl (by decide) (by decide) rfl (fun ls hl => ?_)
        refine lv_goto (tgt := 22) hx hb dX8_drive_172 (by decide) ?_
        exact ih_1 _ (x_29, rr_1 + 1, 1, 0, 0, sd__24) _ _ _ (by omega) ⟨rfl, ⟨by omega, by omega⟩, (hP.sub [8, 0, 1, 2, 3, 4, 5, 6, 7] rfl), (hD.sub [8, 0, 1, 2, 3, 4, 5, 6, 7] (by decide +kernel) rfl), hS, (lv_sub hl [1, 2, 0, 5, 3, 6, 7, 8, 9] rfl)⟩
      · refine lv_iconst (v := 1) hx hb dX8_drive_98 (by decide) ?_
        refine lv_goto (tgt := 103) hx hb dX8_drive_99 (by decide) ?_
        refine lv_istore (lv' := [(9, .int 1), (7, .int 0), (6, .int 0), (5, .int (nI (rr_1 + 1))), (4, .int x_23), (8, .int ah_1), (3, .int (nI (dn sn))), (0, .ref (a 0)), (1, .int (nI sn)), (2, .int (nI kr))]) hx hb dX8_drive_103 hl (by decide) rfl (fun ls hl => ?_)
        refine lv_iload hx hb dX8_drive_105 (lv_at hl 0 rfl) ?_
        refine lv_if_eq (tgt := 135) hx hb dX8_drive_107 (by decide) (fun h => absurd h (by decide)) (fun _ => ?_)
        refine lv_aload_n hx hb dX8_drive_110 rfl (lv_at hl 7 rfl) ?_
        refine lv_iload_n hx hb dX8_drive_111 rfl (lv_at hl 9 rfl) ?_
        refine lv_iload hx hb dX8_drive_112 (lv_at hl 2 rfl) ?_
        refine lv_iload hx hb dX8_drive_114 (lv_at hl 1 rfl) ?_
        refine ro_i (D := D) (va_runV (As := [.int (nI kr), .int 0, .int 0]) (rest := []) ⟨hx, hb, hml, hown, hts⟩ ((m_isFor l D k st lo a tx t0 we rd ru rw ca fp wd nu na ts df db sd__24 bm fbarSeen fbarFrom kr 0 0 hbm (by omega)) H.size) (cwV 3 hts (gV tw_1338 tw_1340 tw_61 tw_87 tw_1341) rfl rfl rfl (by decide +kernel) ⟨Nat.le_of_ble_eq_true rfl, Nat.le_of_ble_eq_true rfl⟩) (pV hS hAlo hlo hP hK (va_Dlo hD hAlo) hZ [8, 4, 5, 6] (by decide) rfl (ci := 8) (q := (RX8, TX8, 44)) (q0 := 0) rfl rfl) rfl rfl hl.1 rfl (lv_room (Nat.le_of_ble_eq_true rfl)) dX8_drive_116 ⟨Nat.le_of_ble_eq_true rfl, Nat.le_of_ble_eq_true rfl⟩) hS hA hP (fun r_30 H locs hw_30 hP hS => ?_)
        try dsimp only at hw_30
        refine lv_if_eq (tgt := 135) hx hb dX8_drive_119 (by decide) (fun c_31 => ?_) (fun c_31 => ?_)
        · refine lv_iload hx hb dX8_drive_135 (lv_at hl 4 rfl) ?_
          refine lv_aload_n hx hb dX8_drive_137 rfl (lv_at hl 7 rfl) ?_
          refine lv_iload_n hx hb dX8_drive_138 rfl (lv_at hl 8 rfl) ?_
          refine lv_iconst (v := 2) hx hb dX8_drive_139 (by decide) ?_
          refine ro_i (D := D) (va_runV (As := [.int (nI sn), .int 2]) (rest := [.int x_23]) ⟨hx, hb, hml, hown, hts⟩ ((m_of l D k st lo a tx t0 we rd ru rw ca fp wd nu na ts df db sd__24 se tm gs sn 2 (by omega) (by omega)) H.size) (cwV 2 hts (gV tw_1194 tw_1196 tw_39 tw_87 tw_1197) rfl rfl rfl (by decide +kernel) ⟨Nat.le_of_ble_eq_true rfl, Nat.le_of_ble_eq_true rfl⟩) (pV hS hAlo hlo hP hK (va_Dlo hD hAlo) hZ [8, 1] (by decide) rfl (ci := 8) (q := (RX8, TX8, 44)) (q0 := 0) rfl rfl) rfl rfl hl.1 rfl (lv_room (Nat.le_of_ble_eq_true rfl)) dX8_drive_140 ⟨Nat.le_of_ble_eq_true rfl, Nat.le_of_ble_eq_true rfl⟩) hS hA hP (fun r_32 H locs hw_32 hP hS => ?_)
          try dsimp only at hw_32
          refine lv_sipush (v := 1000) hx hb dX8_drive_143 (by decide) ?_
          refine lv_imul hx hb dX8_drive_146 ?_
          refine lv_topi (fun x_33 ex_33 => ?_)
          refine lv_iadd hx hb dX8_drive_147 ?_
          refine lv_topi (fun x_34 ex_34 => ?_)
          refine lv_istore (lv' := [(4, .int x_34), (9, .int 1), (7, .int 0), (6, .int 0), (5, .int (nI (rr_1 + 1))), (8, .int ah_1), (3, .int (nI (dn sn))), (0, .ref (a 0)), (1, .int (nI sn)), (2, .int (nI kr))]) hx hb dX8_drive_148 hl (by decide) rfl (fun ls hl => ?_)
          refine lv_iload hx hb dX8_drive_150 (lv_at hl 2 rfl) ?_
          refine lv_iload hx hb dX8_drive_152 (lv_at hl 1 rfl) ?_
          refine lv_if_eq (tgt := 161) hx hb dX8_drive_154 (by decide) (fun h => absurd h (by decide)) (fun _ => ?_)
          refine lv_iconst (v := 1) hx hb dX8_drive_157 (by decide) ?_
          refine lv_goto (tgt := 162) hx hb dX8_drive_158 (by decide) ?_
          refine lv_iadd hx hb dX8_drive_162 ?_
          refine lv_ti (y := 1) (by decide) ?_
          refine lv_istore (lv' := [(7, .int 1), (4, .int x_34), (9, .int 1), (6, .int 0), (5, .int (nI (rr_1 + 1))), (8, .int ah_1), (3, .int (nI (dn sn))), (0, .ref (a 0)), (1, .int (nI sn)), (2, .int (nI kr))]) hx hb dX8_drive_163 hl (by decide) rfl (fun ls hl => ?_)
          refine lv_iload hx hb dX8_drive_165 (lv_at hl 2 rfl) ?_
          refine lv_istore (lv' := [(8, .int 1), (7, .int 1), (4, .int x_34), (9, .int 1), (6, .int 0), (5, .int (nI (rr_1 + 1))), (3, .int (nI (dn sn))), (0, .ref (a 0)), (1, .int (nI sn)), (2, .int (nI kr))]) hx hb dX8_drive_167 hl (by decide) rfl (fun ls hl => ?_)
          refine lv_iinc (v := 1) (lv' := [(6, .int 1), (8, .int 1), (7, .int 1), (4, .int x_34), (9, .int 1), (5, .int (nI (rr_1 + 1))), (3, .int (nI (dn sn))), (0, .ref (a 0)), (1, .int (nI sn)), (2, .int (nI kr))]) hx hb dX8_drive_169 hl (k := 4) rfl (by decide) (by decide) rfl (fun ls hl => ?_)
          refine lv_goto (tgt := 22) hx hb dX8_drive_172 (by decide) ?_
          exact ih_1 _ (x_34, rr_1 + 1, 1, 1, 1, sd__24) _ _ _ (by omega) ⟨rfl, ⟨by omega, by omega⟩, (hP.sub [8, 0, 1, 2, 3, 4, 5, 6, 7] rfl), (hD.sub [8, 0, 1, 2, 3, 4, 5, 6, 7] (by decide +kernel) rfl), hS, (lv_sub hl [1, 2, 0, 5, 3, 6, 7, 8, 9] rfl)⟩
        · refine lv_iload hx hb dX8_drive_122 (lv_at hl 4 rfl) ?_
          refine lv_aload_n hx hb dX8_drive_124 rfl (lv_at hl 7 rfl) ?_
          refine lv_iload_n hx hb dX8_drive_125 rfl (lv_at hl 8 rfl) ?_
          refine lv_iload hx hb dX8_drive_126 (lv_at hl 3 rfl) ?_
          refine lv_iload hx hb dX8_drive_128 (lv_at hl 2 rfl) ?_
          refine ro_i (D := D) (va_runV (As := [.int (nI sn), .int (nI (rr_1 + 1)), .int 0]) (rest := [.int x_23]) ⟨hx, hb, hml, hown, hts⟩ ((m_takingOf l D k st lo a tx t0 we rd ru rw ca fp wd nu na ts df db sd__24 dn se tm gs fprices sn 0 (nI (rr_1 + 1)) (by omega) (by omega)) H.size) (cwV 3 hts (gV tw_1222 tw_1224 tw_43 tw_87 tw_1225) rfl rfl rfl (by decide +kernel) ⟨Nat.le_of_ble_eq_true rfl, Nat.le_of_ble_eq_true rfl⟩) (pV hS hAlo hlo hP hK (va_Dlo hD hAlo) hZ [8, 0, 1, 3] (by decide) rfl (ci := 8) (q := (RX8, TX8, 44)) (q0 := 0) rfl rfl) rfl rfl hl.1 rfl (lv_room (Nat.le_of_ble_eq_true rfl)) dX8_drive_130 ⟨Nat.le_of_ble_eq_true rfl, Nat.le_of_ble_eq_true rfl⟩) hS hA hP (fun r_35 H locs hw_35 hP hS => ?_)
          try dsimp only at hw_35
          refine lv_iadd hx hb dX8_drive_133 ?_
          refine lv_topi (fun x_36 ex_36 => ?_)
          have hP9 := hP.sub (ws' := [((a 0), .inr (8, (fX8 a (nI tx) fp (nI t0) wd (nI we) nu na (nI rd) ts (nI ru) (nI rw) (nI ca) df db sd__24))), (aI k (a 1) 3 (nF dn)), (aI k (a 4) 27 (sg se tm gs)), (aI k (a 2) 72 ffrees), (aI k (a 3) 72 fprices), (aI k (a 25) 4 (nF bm)), (aI k (a 26) 48 fbarSeen), (aI k (a 27) 48 fbarFrom), (aI k (a 28) 4 fruleRounds)]) [8, 0, 1, 2, 3, 4, 5, 6, 7] rfl
          have hD9 := hD.sub (ws' := [((a 0), .inr (8, (fX8 a (nI tx) fp (nI t0) wd (nI we) nu na (nI rd) ts (nI ru) (nI rw) (nI ca) df db sd__24))), (aI k (a 1) 3 (nF dn)), (aI k (a 4) 27 (sg se tm gs)), (aI k (a 2) 72 ffrees), (aI k (a 3) 72 fprices), (aI k (a 25) 4 (nF bm)), (aI k (a 26) 48 fbarSeen), (aI k (a 27) 48 fbarFrom), (aI k (a 28) 4 fruleRounds)]) [8, 0, 1, 2, 3, 4, 5, 6, 7] (by decide +kernel) rfl
          exact W.iret (v := x_36) hx hb hr (fun t ht hW => ⟨⟨x_36, sd__24, rfl, trivial, by rw [ht]; exact hP9, hD9⟩, hS.F ht⟩) hS.2.2 dX8_drive_134
    · refine lv_if_ne (tgt := 50) hx hb dX8_drive_36 (by decide) (fun h => absurd (by decide) h) (fun _ => ?_)
      refine lv_iload hx hb dX8_drive_39 (lv_at hl 4 rfl) ?_
      refine lv_aload_n hx hb dX8_drive_41 rfl (lv_at hl 6 rfl) ?_
      refine lv_iload_n hx hb dX8_drive_42 rfl (lv_at hl 7 rfl) ?_
      refine lv_iload hx hb dX8_drive_43 (lv_at hl 3 rfl) ?_
      refine ro_i (D := D) (va_runV (As := [.int (nI sn), .int (nI rr_1)]) (rest := [.int co_1]) ⟨hx, hb, hml, hown, hts⟩ ((m_garageOf l D k st lo a tx t0 we rd ru rw ca fp wd nu na ts df db sd2_1 dn se tm gs sn (nI rr_1) (by omega)) H.size) (cwV 2 hts (gV tw_1258 tw_1260 tw_51 tw_87 tw_1261) rfl rfl rfl (by decide +kernel) ⟨Nat.le_of_ble_eq_true rfl, Nat.le_of_ble_eq_true rfl⟩) (pV hS hAlo hlo hP hK (va_Dlo hD hAlo) hZ [0, 1, 2] (by decide) rfl (ci := 8) (q := (RX8, TX8, 44)) (q0 := 0) rfl rfl) rfl rfl hl.1 rfl (lv_room (Nat.le_of_ble_eq_true rfl)) dX8_drive_45 ⟨Nat.le_of_ble_eq_true rfl, Nat.le_of_ble_eq_true rfl⟩) hS hA hP (fun r_37 H locs hw_37 hP hS => ?_)
      try dsimp only at hw_37
      refine lv_iadd hx hb dX8_drive_48 ?_
      refine lv_topi (fun x_38 ex_38 => ?_)
      have hP9 := hP.sub (ws' := [((a 0), .inr (8, (fX8 a (nI tx) fp (nI t0) wd (nI we) nu na (nI rd) ts (nI ru) (nI rw) (nI ca) df db sd2_1))), (aI k (a 1) 3 (nF dn)), (aI k (a 4) 27 (sg se tm gs)), (aI k (a 2) 72 ffrees), (aI k (a 3) 72 fprices), (aI k (a 25) 4 (nF bm)), (aI k (a 26) 48 fbarSeen), (aI k (a 27) 48 fbarFrom), (aI k (a 28) 4 fruleRounds)]) [0, 1, 2, 3, 4, 5, 6, 7, 8] rfl
      have hD9 := hD.sub (ws' := [((a 0), .inr (8, (fX8 a (nI tx) fp (nI t0) wd (nI we) nu na (nI rd) ts (nI ru) (nI rw) (nI ca) df db sd2_1))), (aI k (a 1) 3 (nF dn)), (aI k (a 4) 27 (sg se tm gs)), (aI k (a 2) 72 ffrees), (aI k (a 3) 72 fprices), (aI k (a 25) 4 (nF bm)), (aI k (a 26) 48 fbarSeen), (aI k (a 27) 48 fbarFrom), (aI k (a 28) 4 fruleRounds)]) [0, 1, 2, 3, 4, 5, 6, 7, 8] (by decide +kernel) rfl
      exact W.iret (v := x_38) hx hb hr (fun t ht hW => ⟨⟨x_38, sd2_1, rfl, trivial, by rw [ht]; exact hP9, hD9⟩, hS.F ht⟩) hS.2.2 dX8_drive_49

theorem dX8_evening_0 : decode cX8_evening 0 = .ok (.aload_n 0, 1) := by decide +kernel
theorem dX8_evening_1 : decode cX8_evening 1 = .ok (.iload_n 1, 1) := by decide +kernel
theorem dX8_evening_2 : decode cX8_evening 2 = .ok (.invokevirtual 206, 3) := by decide +kernel
theorem dX8_evening_5 : decode cX8_evening 5 = .ok (.ifCond .eq 11, 3) := by decide +kernel
theorem dX8_evening_8 : decode cX8_evening 8 = .ok (.aload_n 0, 1) := by decide +kernel
theorem dX8_evening_9 : decode cX8_evening 9 = .ok (.iload_n 2, 1) := by decide +kernel
theorem dX8_evening_10 : decode cX8_evening 10 = .ok (.invokevirtual 298, 3) := by decide +kernel
theorem dX8_evening_13 : decode cX8_evening 13 = .ok (.ifCond .ne 7, 3) := by decide +kernel
theorem dX8_evening_16 : decode cX8_evening 16 = .ok (.sipush (-1001), 3) := by decide +kernel
theorem dX8_evening_19 : decode cX8_evening 19 = .ok (.ireturn, 1) := by decide +kernel
theorem dX8_evening_20 : decode cX8_evening 20 = .ok (.iload_n 3, 1) := by decide +kernel
theorem dX8_evening_21 : decode cX8_evening 21 = .ok (.i2l, 1) := by decide +kernel
theorem dX8_evening_22 : decode cX8_evening 22 = .ok (.lconst 1, 1) := by decide +kernel
theorem dX8_evening_23 : decode cX8_evening 23 = .ok (.ldc2_w 387, 3) := by decide +kernel
theorem dX8_evening_26 : decode cX8_evening 26 = .ok (.invokestatic 107, 3) := by decide +kernel
theorem dX8_evening_29 : decode cX8_evening 29 = .ok (.ifCond .ne 7, 3) := by decide +kernel
theorem dX8_evening_32 : decode cX8_evening 32 = .ok (.sipush (-1002), 3) := by decide +kernel
theorem dX8_evening_35 : decode cX8_evening 35 = .ok (.ireturn, 1) := by decide +kernel
theorem dX8_evening_36 : decode cX8_evening 36 = .ok (.lconst 0, 1) := by decide +kernel
theorem dX8_evening_37 : decode cX8_evening 37 = .ok (.lstore 4, 2) := by decide +kernel
theorem dX8_evening_39 : decode cX8_evening 39 = .ok (.iconst 0, 1) := by decide +kernel
theorem dX8_evening_40 : decode cX8_evening 40 = .ok (.istore 6, 2) := by decide +kernel
theorem dX8_evening_42 : decode cX8_evening 42 = .ok (.iload 6, 2) := by decide +kernel
theorem dX8_evening_44 : decode cX8_evening 44 = .ok (.iload_n 3, 1) := by decide +kernel
theorem dX8_evening_45 : decode cX8_evening 45 = .ok (.if_icmp .ge 21, 3) := by decide +kernel
theorem dX8_evening_48 : decode cX8_evening 48 = .ok (.lload 4, 2) := by decide +kernel
theorem dX8_evening_50 : decode cX8_evening 50 = .ok (.aload_n 0, 1) := by decide +kernel
theorem dX8_evening_51 : decode cX8_evening 51 = .ok (.iload_n 1, 1) := by decide +kernel
theorem dX8_evening_52 : decode cX8_evening 52 = .ok (.iload_n 2, 1) := by decide +kernel
theorem dX8_evening_53 : decode cX8_evening 53 = .ok (.invokevirtual 389, 3) := by decide +kernel
theorem dX8_evening_56 : decode cX8_evening 56 = .ok (.i2l, 1) := by decide +kernel
theorem dX8_evening_57 : decode cX8_evening 57 = .ok (.ladd, 1) := by decide +kernel
theorem dX8_evening_58 : decode cX8_evening 58 = .ok (.lstore 4, 2) := by decide +kernel
theorem dX8_evening_60 : decode cX8_evening 60 = .ok (.iinc 6 1, 3) := by decide +kernel
theorem dX8_evening_63 : decode cX8_evening 63 = .ok (.goto (-21), 3) := by decide +kernel
theorem dX8_evening_66 : decode cX8_evening 66 = .ok (.lload 4, 2) := by decide +kernel
theorem dX8_evening_68 : decode cX8_evening 68 = .ok (.ldc2_w 392, 3) := by decide +kernel
theorem dX8_evening_71 : decode cX8_evening 71 = .ok (.ldiv, 1) := by decide +kernel
theorem dX8_evening_72 : decode cX8_evening 72 = .ok (.l2i, 1) := by decide +kernel
theorem dX8_evening_73 : decode cX8_evening 73 = .ok (.ireturn, 1) := by decide +kernel
set_option maxHeartbeats 4000000 in
set_option maxRecDepth 100000 in
theorem m_evening (l : Launch) (D : va_G) (k : Nat → ClassId) (st : Nat → Nat) (lo : Nat) (a : Nat → Nat) (tx : Nat) (t0 : Nat) (we : Nat) (rd : Nat) (ru : Nat) (rw : Nat) (ca : Nat) (fp : Int32) (wd : Int64) (nu : Int32) (na : Int32) (ts : Int32) (df : Int32) (db : Int32) (sd : Int32) (dn : Nat → Nat) (se : Nat → Nat) (tm : Nat → Nat) (gs : Nat → Int32) (ffrees : Nat → Int32) (fprices : Nat → Int32) (bm : Nat → Nat) (fbarSeen : Nat → Int32) (fbarFrom : Nat → Int32) (fruleRounds : Nat → Int32) (p0 : Int32) (p1 : Int32) (p2 : Int32) (hdn : ∀ j, dn j ≤ 24) (hse : ∀ j, se j ≤ 2) (htm : ∀ j, tm j ≤ 3) (hbm : ∀ j, bm j ≤ 12) (hru : ru ≤ 4) : CWi l D k st lo yX8_evening cX8_evening 7 (some .int) ({ frames := 5, cells := 0, slots := 0, locals := 122 }) 0 0 [.ref (a 0), .int p0, .int p1, .int p2] [((a 0), .inr (8, (fX8 a (nI tx) fp (nI t0) wd (nI we) nu na (nI rd) ts (nI ru) (nI rw) (nI ca) df db sd))), (aI k (a 1) 3 (nF dn)), (aI k (a 4) 27 (sg se tm gs)), (aI k (a 2) 72 ffrees), (aI k (a 3) 72 fprices), (aI k (a 25) 4 (nF bm)), (aI k (a 26) 48 fbarSeen), (aI k (a 27) 48 fbarFrom), (aI k (a 28) 4 fruleRounds)] (fun (r : Int32) (sd_ : Int32) => True) (fun (sd_ : Int32) => [((a 0), .inr (8, (fX8 a (nI tx) fp (nI t0) wd (nI we) nu na (nI rd) ts (nI ru) (nI rw) (nI ca) df db sd_))), (aI k (a 1) 3 (nF dn)), (aI k (a 4) 27 (sg se tm gs)), (aI k (a 2) 72 ffrees), (aI k (a 3) 72 fprices), (aI k (a 25) 4 (nF bm)), (aI k (a 26) 48 fbarSeen), (aI k (a 27) 48 fbarFrom), (aI k (a 28) 4 fruleRounds)]) := by
  intro sz
  refine Met.ofW (cc := cX8_evening) (maxL := 7) (ret := (some .int)) (by decide) rfl ?_
  intro p e s m args below meth c s₁ B hml hv
  obtain ⟨rfl, hsz, hlo, hP, hK, hDL, hZ⟩ := hv
  have hx := B.exec
  have hb := B.bytes
  have hr := B.returns
  have hts := WS_ts B.pre
  have hown : s.vm.findClass RX8 = some m.cls := findClass_of_methodNamed B.named
  have hlocks := B.notSynchronized
  subst hsz
  have hD := hDL.self (sz := s.heap.size)
  have hAlo := A_lo hDL hlo
  generalize hAe : va_A [((a 0), .inr (8, (fX8 a (nI tx) fp (nI t0) wd (nI we) nu na (nI rd) ts (nI ru) (nI rw) (nI ca) df db sd))), (aI k (a 1) 3 (nF dn)), (aI k (a 4) 27 (sg se tm gs)), (aI k (a 2) 72 ffrees), (aI k (a 3) 72 fprices), (aI k (a 25) 4 (nF bm)), (aI k (a 26) 48 fbarSeen), (aI k (a 27) 48 fbarFrom), (aI k (a 28) 4 fruleRounds)] s.heap.size = A at hD hAlo ⊢
  have hA : ∀ q : Nat, s.heap.size ≤ q → A q := fun q h => by rw [← hAe]; exact Or.inr h
  have hS : va_S A s.heap s.heap [] := va_S.rf
  have hl := lv_entry ([.ref (a 0), .int p0, .int p1, .int p2]) (n := 7) (Nat.le_of_ble_eq_true rfl)
  rw [lg_entry_eq]
  generalize (lg_sl ([.ref (a 0), .int p0, .int p1, .int p2]) ++ List.replicate (7 - (lg_sl ([.ref (a 0), .int p0, .int p1, .int p2])).length) Slot.unset).toArray = ls at hl ⊢
  have hl : lv_has ls 7 [(0, .ref (a 0)), (1, .int p0), (2, .int p1), (3, .int p2)] := hl
  refine lv_aload_n hx hb dX8_evening_0 rfl (lv_at hl 0 rfl) ?_
  refine lv_iload_n hx hb dX8_evening_1 rfl (lv_at hl 1 rfl) ?_
  refine ro_i (D := D) (va_runV (As := [.int p0]) (rest := []) ⟨hx, hb, hml, hown, hts⟩ ((m_isStreet l D k st lo a tx t0 we rd ru rw ca fp wd nu na ts df db sd dn p0 hdn) s.heap.size) (cwV 1 hts (gV tw_1189 tw_1191 tw_38 tw_87 tw_1192) rfl rfl rfl (by decide +kernel) ⟨Nat.le_of_ble_eq_true rfl, Nat.le_of_ble_eq_true rfl⟩) (pV hS hAlo hlo hP hK (va_Dlo hD hAlo) hZ [0, 1] (by decide) rfl (ci := 8) (q := (RX8, TX8, 44)) (q0 := 0) rfl rfl) rfl rfl hl.1 rfl (lv_room (Nat.le_of_ble_eq_true rfl)) dX8_evening_2 ⟨Nat.le_of_ble_eq_true rfl, Nat.le_of_ble_eq_true rfl⟩) hS hA hP (fun r_1 H locs hw_1 hP hS => ?_)
  try dsimp only at hw_1
  rcases hw_1 with ⟨rfl, j_2, hj_2, rfl, hw_1⟩ | rfl
  · have hdj_2 := hdn j_2
    have htj_2 := htm j_2
    refine lv_if_eq (tgt := 16) hx hb dX8_evening_5 (by decide) (fun h => absurd h (by decide)) (fun _ => ?_)
    refine lv_aload_n hx hb dX8_evening_8 rfl (lv_at hl 0 rfl) ?_
    refine lv_iload_n hx hb dX8_evening_9 rfl (lv_at hl 2 rfl) ?_
    refine ro_i (D := D) (va_runV (As := [.int p1]) (rest := []) ⟨hx, hb, hml, hown, hts⟩ ((m_isRule l D k st lo a tx t0 we rd ru rw ca fp wd nu na ts df db sd p1 (by omega)) H.size) (cwV 1 hts (gV tw_1321 tw_1323 tw_57 tw_87 tw_1324) rfl rfl rfl (by decide +kernel) ⟨Nat.le_of_ble_eq_true rfl, Nat.le_of_ble_eq_true rfl⟩) (pV hS hAlo hlo hP hK (va_Dlo hD hAlo) hZ [0] (by decide) rfl (ci := 8) (q := (RX8, TX8, 44)) (q0 := 0) rfl rfl) rfl rfl hl.1 rfl (lv_room (Nat.le_of_ble_eq_true rfl)) dX8_evening_10 ⟨Nat.le_of_ble_eq_true rfl, Nat.le_of_ble_eq_true rfl⟩) hS hA hP (fun r_3 H locs hw_3 hP hS => ?_)
    try dsimp only at hw_3
    rcases hw_3 with ⟨rfl, j_4, hj_4, rfl, hw_3⟩ | rfl
    · refine lv_if_ne (tgt := 20) hx hb dX8_evening_13 (by decide) (fun _ => ?_) (fun h => absurd h (by decide))
      refine lv_iload_n hx hb dX8_evening_20 rfl (lv_at hl 3 rfl) ?_
      refine lv_i2l (v := p2.toInt64) hx hb dX8_evening_21 rfl ?_
      refine lv_lconst (v := (1 : Int32).toInt64) hx hb dX8_evening_22 (by decide) ?_
      refine lv_ldc2 hx hb hown (hts _ tw_1475) dX8_evening_23 ?_
      refine lv_tl (y := ((50 : Int32).toInt64)) (by decide) ?_
      refine ro_i (D := D) (va_runS (As := [.long (p2.toInt64), .long ((1 : Int32).toInt64), .long ((50 : Int32).toInt64)]) (rest := []) ⟨hx, hb, hml, hown, hts⟩ ((k_in l D k st lo p2 (1 : Int32) (50 : Int32)) H.size) (va_cwS 3 hts (gS tw_1111 tw_1112 tw_87 tw_1113) rfl rfl rfl (by decide +kernel) ⟨Nat.le_of_ble_eq_true rfl, Nat.le_of_ble_eq_true rfl⟩) (pS hS hAlo hlo hP hK (va_Dlo hD hAlo) hZ [] (by decide) rfl) rfl rfl hl.1 rfl (lv_room (Nat.le_of_ble_eq_true rfl)) dX8_evening_26 ⟨Nat.le_of_ble_eq_true rfl, Nat.le_of_ble_eq_true rfl⟩) hS hA hP (fun r_5 H locs hw_5 hP hS => ?_)
      try dsimp only at hw_5
      rcases hw_5 with ⟨rfl, hw_5⟩ | ⟨rfl, hw_5⟩
      · refine lv_if_ne (tgt := 36) hx hb dX8_evening_29 (by decide) (fun _ => ?_) (fun h => absurd h (by decide))
        obtain ⟨nn_9, hna_9, hnb_9, rfl⟩ := inB_ofc (a := 1) (b := 50) (by omega) (by omega) hw_5
        refine lv_lconst (v := (0 : Int32).toInt64) hx hb dX8_evening_36 (by decide) ?_
        refine lv_lstore (lv' := [(4, .long ((0 : Int32).toInt64)), (0, .ref (a 0)), (1, .int (nI j_2)), (2, .int (nI j_4)), (3, .int (nI nn_9))]) hx hb dX8_evening_37 hl (by decide) rfl (fun ls hl => ?_)
        refine lv_iconst (v := 0) hx hb dX8_evening_39 (by decide) ?_
        refine lv_istore (lv' := [(6, .int 0), (4, .long ((0 : Int32).toInt64)), (0, .ref (a 0)), (1, .int (nI j_2)), (2, .int (nI j_4)), (3, .int (nI nn_9))]) hx hb dX8_evening_40 hl (by decide) rfl (fun ls hl => ?_)
        refine W_loop (σ := Nat × Int64 × Int32) (fun (n_ : Nat) (x_ : Nat × Int64 × Int32) (H : Heap) (locs : List Loc) (ls : Array Slot) => match x_ with | (kk_6, al_6, sd2_6) => n_ = 50 - kk_6 ∧ (kk_6 ≤ 50) ∧ va_P D classes [((a 0), .inr (8, (fX8 a (nI tx) fp (nI t0) wd (nI we) nu na (nI rd) ts (nI ru) (nI rw) (nI ca) df db sd2_6))), (aI k (a 1) 3 (nF dn)), (aI k (a 4) 27 (sg se tm gs)), (aI k (a 2) 72 ffrees), (aI k (a 3) 72 fprices), (aI k (a 25) 4 (nF bm)), (aI k (a 26) 48 fbarSeen), (aI k (a 27) 48 fbarFrom), (aI k (a 28) 4 fruleRounds)] H ∧ va_D A [((a 0), .inr (8, (fX8 a (nI tx) fp (nI t0) wd (nI we) nu na (nI rd) ts (nI ru) (nI rw) (nI ca) df db sd2_6))), (aI k (a 1) 3 (nF dn)), (aI k (a 4) 27 (sg se tm gs)), (aI k (a 2) 72 ffrees), (aI k (a 3) 72 fprices), (aI k (a 25) 4 (nF bm)), (aI k (a 26) 48 fbarSeen), (aI k (a 27) 48 fbarFrom), (aI k (a 28) 4 fruleRounds)] ∧ va_S A s.heap H locs ∧ lv_has ls 7 [(6, .int (nI kk_6)), (4, .long al_6), (0, .ref (a 0)), (1, .int (nI j_2)), (2, .int (nI j_4)), (3, .int (nI nn_9))]) (fun n_6 x_6 H locs ls hI ih_6 => ?_) _ (0, ((0 : Int32).toInt64), sd) ⟨rfl, (by omega), hP, hD, hS, (lv_sub hl [0, 1, 2, 3, 4, 5] rfl)⟩
        obtain ⟨kk_6, al_6, sd2_6⟩ := x_6
        obtain ⟨hm_6, hv_6, hP, hD, hS, hl⟩ := hI
        subst hm_6
        refine lv_iload hx hb dX8_evening_42 (lv_at hl 0 rfl) ?_
        refine lv_iload_n hx hb dX8_evening_44 rfl (lv_at hl 5 rfl) ?_
        refine lv_icmp_ge (tgt := 66) hx hb dX8_evening_45 (by decide) (fun c_7 => ?_) (fun c_7 => ?_)
        · have c_7 := (nI_leI (a := nn_9) (b := kk_6) (by omega) (by omega)).mp c_7
          refine lv_lload hx hb dX8_evening_66 (lv_at hl 1 rfl) ?_
          refine lv_ldc2 hx hb hown (hts _ tw_1488) dX8_evening_68 ?_
          refine lv_tl (y := ((1000 : Int32).toInt64)) (by decide) ?_
          refine lv_ldiv hx hb dX8_evening_71 (by decide) ?_
          refine lv_topl (fun x_8 ex_8 => ?_)
          refine lv_l2i hx hb dX8_evening_72 rfl ?_
          refine lv_topi (fun x_9 ex_9 => ?_)
          have hP9 := hP.sub (ws' := [((a 0), .inr (8, (fX8 a (nI tx) fp (nI t0) wd (nI we) nu na (nI rd) ts (nI ru) (nI rw) (nI ca) df db sd2_6))), (aI k (a 1) 3 (nF dn)), (aI k (a 4) 27 (sg se tm gs)), (aI k (a 2) 72 ffrees), (aI k (a 3) 72 fprices), (aI k (a 25) 4 (nF bm)), (aI k (a 26) 48 fbarSeen), (aI k (a 27) 48 fbarFrom), (aI k (a 28) 4 fruleRounds)]) [0, 1, 2, 3, 4, 5, 6, 7, 8] rfl
          have hD9 := hD.sub (ws' := [((a 0), .inr (8, (fX8 a (nI tx) fp (nI t0) wd (nI we) nu na (nI rd) ts (nI ru) (nI rw) (nI ca) df db sd2_6))), (aI k (a 1) 3 (nF dn)), (aI k (a 4) 27 (sg se tm gs)), (aI k (a 2) 72 ffrees), (aI k (a 3) 72 fprices), (aI k (a 25) 4 (nF bm)), (aI k (a 26) 48 fbarSeen), (aI k (a 27) 48 fbarFrom), (aI k (a 28) 4 fruleRounds)]) [0, 1, 2, 3, 4, 5, 6, 7, 8] (by decide +kernel) rfl
          exact W.iret (v := x_9) hx hb hr (fun t ht hW => ⟨⟨x_9, sd2_6, rfl, trivial, by rw [ht]; exact hP9, hD9⟩, hS.F ht⟩) hS.2.2 dX8_evening_73
        · have c_7 : ¬ (nn_9 ≤ kk_6) := fun h => c_7 ((nI_leI (a := nn_9) (b := kk_6) (by omega) (by omega)).mpr h)
          refine lv_lload hx hb dX8_evening_48 (lv_at hl 1 rfl) ?_
          refine lv_aload_n hx hb dX8_evening_50 rfl (lv_at hl 2 rfl) ?_
          refine lv_iload_n hx hb dX8_evening_51 rfl (lv_at hl 3 rfl) ?_
          refine lv_iload_n hx hb dX8_evening_52 rfl (lv_at hl 4 rfl) ?_
          refine rw_i (D := D) (wr := []) (va_runV (As := [.int (nI j_2), .int (nI j_4)]) (rest := [.long al_6]) ⟨hx, hb, hml, hown, hts⟩ ((m_drive l D k st lo a tx t0 we rd ru rw ca fp wd nu na ts df db sd2_6 dn se tm gs ffrees fprices bm fbarSeen fbarFrom fruleRounds j_2 j_4 hdn hse htm hbm (by omega) (by omega) (by omega)) H.size) (cwV 2 hts (gV tw_1476 tw_1478 tw_76 tw_87 tw_1479) rfl rfl rfl (by decide +kernel) ⟨Nat.le_of_ble_eq_true rfl, Nat.le_of_ble_eq_true rfl⟩) (pV hS hAlo hlo hP hK (va_Dlo hD hAlo) hZ [0, 1, 2, 3, 4, 5, 6, 7, 8] (by decide +kernel) rfl (ci := 8) (q := (RX8, TX8, 44)) (q0 := 0) rfl rfl) rfl rfl hl.1 rfl (lv_room (Nat.le_of_ble_eq_true rfl)) dX8_evening_53 ⟨Nat.le_of_ble_eq_true rfl, Nat.le_of_ble_eq_true rfl⟩) hS hA hP hD [0, 1, 2, 3, 4, 5, 6, 7, 8] [] rfl rfl (by decide) (by decide) (fun r_10 u H locs hw_10 hP hD hS => ?_)
          obtain ⟨sd__10, rfl⟩ : ∃ z, z = u := ⟨_, rfl⟩
          replace hP : va_P D classes [((a 0), .inr (8, (fX8 a (nI tx) fp (nI t0) wd (nI we) nu na (nI rd) ts (nI ru) (nI rw) (nI ca) df db sd__10))), (aI k (a 1) 3 (nF dn)), (aI k (a 4) 27 (sg se tm gs)), (aI k (a 2) 72 ffrees), (aI k (a 3) 72 fprices), (aI k (a 25) 4 (nF bm)), (aI k (a 26) 48 fbarSeen), (aI k (a 27) 48 fbarFrom), (aI k (a 28) 4 fruleRounds)] H := hP
          replace hD : va_D A [((a 0), .inr (8, (fX8 a (nI tx) fp (nI t0) wd (nI we) nu na (nI rd) ts (nI ru) (nI rw) (nI ca) df db sd__10))), (aI k (a 1) 3 (nF dn)), (aI k (a 4) 27 (sg se tm gs)), (aI k (a 2) 72 ffrees), (aI k (a 3) 72 fprices), (aI k (a 25) 4 (nF bm)), (aI k (a 26) 48 fbarSeen), (aI k (a 27) 48 fbarFrom), (aI k (a 28) 4 fruleRounds)] := hD
          try dsimp only at hw_10
          refine lv_i2l (v := r_10.toInt64) hx hb dX8_evening_56 rfl ?_
          refine lv_ladd hx hb dX8_evening_57 ?_
          refine lv_topl (fun x_11 ex_11 => ?_)
          refine lv_lstore (lv' := [(4, .long x_11), (6, .int (nI kk_6)), (0, .ref (a 0)), (1, .int (nI j_2)), (2, .int (nI j_4)), (3, .int (nI nn_9))]) hx hb dX8_evening_58 hl (by decide) rfl (fun ls hl => ?_)
          refine lv_iinc (v := (nI (kk_6 + 1))) (lv' := [(6, .int (nI (kk_6 + 1))), (4, .long x_11), (0, .ref (a 0)), (1, .int (nI j_2)), (2, .int (nI j_4)), (3, .int (nI nn_9))]) hx hb dX8_evening_60 hl (k := 1) rfl (nI_add kk_6 1) (by decide) rfl (fun ls hl => ?_)
          refine lv_goto (tgt := 42) hx hb dX8_evening_63 (by decide) ?_
          exact ih_6 _ (kk_6 + 1, x_11, sd__10) _ _ _ (by omega) ⟨rfl, (by omega), hP, hD, hS, (lv_sub hl [0, 1, 2, 3, 4, 5] rfl)⟩
      · refine lv_if_ne (tgt := 36) hx hb dX8_evening_29 (by decide) (fun h => absurd (by decide) h) (fun _ => ?_)
        refine lv_sipush (v := (-1002)) hx hb dX8_evening_32 (by decide) ?_
        have hP9 := hP.sub (ws' := [((a 0), .inr (8, (fX8 a (nI tx) fp (nI t0) wd (nI we) nu na (nI rd) ts (nI ru) (nI rw) (nI ca) df db sd))), (aI k (a 1) 3 (nF dn)), (aI k (a 4) 27 (sg se tm gs)), (aI k (a 2) 72 ffrees), (aI k (a 3) 72 fprices), (aI k (a 25) 4 (nF bm)), (aI k (a 26) 48 fbarSeen), (aI k (a 27) 48 fbarFrom), (aI k (a 28) 4 fruleRounds)]) [0, 1, 2, 3, 4, 5, 6, 7, 8] rfl
        have hD9 := hD.sub (ws' := [((a 0), .inr (8, (fX8 a (nI tx) fp (nI t0) wd (nI we) nu na (nI rd) ts (nI ru) (nI rw) (nI ca) df db sd))), (aI k (a 1) 3 (nF dn)), (aI k (a 4) 27 (sg se tm gs)), (aI k (a 2) 72 ffrees), (aI k (a 3) 72 fprices), (aI k (a 25) 4 (nF bm)), (aI k (a 26) 48 fbarSeen), (aI k (a 27) 48 fbarFrom), (aI k (a 28) 4 fruleRounds)]) [0, 1, 2, 3, 4, 5, 6, 7, 8] (by decide +kernel) rfl
        exact W.iret (v := (-1002)) hx hb hr (fun t ht hW => ⟨⟨(-1002), sd, rfl, trivial, by rw [ht]; exact hP9, hD9⟩, hS.F ht⟩) hS.2.2 dX8_evening_35
    · refine lv_if_ne (tgt := 20) hx hb dX8_evening_13 (by decide) (fun h => absurd (by decide) h) (fun _ => ?_)
      refine lv_sipush (v := (-1001)) hx hb dX8_evening_16 (by decide) ?_
      have hP9 := hP.sub (ws' := [((a 0), .inr (8, (fX8 a (nI tx) fp (nI t0) wd (nI we) nu na (nI rd) ts (nI ru) (nI rw) (nI ca) df db sd))), (aI k (a 1) 3 (nF dn)), (aI k (a 4) 27 (sg se tm gs)), (aI k (a 2) 72 ffrees), (aI k (a 3) 72 fprices), (aI k (a 25) 4 (nF bm)), (aI k (a 26) 48 fbarSeen), (aI k (a 27) 48 fbarFrom), (aI k (a 28) 4 fruleRounds)]) [0, 1, 2, 3, 4, 5, 6, 7, 8] rfl
      have hD9 := hD.sub (ws' := [((a 0), .inr (8, (fX8 a (nI tx) fp (nI t0) wd (nI we) nu na (nI rd) ts (nI ru) (nI rw) (nI ca) df db sd))), (aI k (a 1) 3 (nF dn)), (aI k (a 4) 27 (sg se tm gs)), (aI k (a 2) 72 ffrees), (aI k (a 3) 72 fprices), (aI k (a 25) 4 (nF bm)), (aI k (a 26) 48 fbarSeen), (aI k (a 27) 48 fbarFrom), (aI k (a 28) 4 fruleRounds)]) [0, 1, 2, 3, 4, 5, 6, 7, 8] (by decide +kernel) rfl
      exact W.iret (v := (-1001)) hx hb hr (fun t ht hW => ⟨⟨(-1001), sd, rfl, trivial, by rw [ht]; exact hP9, hD9⟩, hS.F ht⟩) hS.2.2 dX8_evening_19
  · refine lv_if_eq (tgt := 16) hx hb dX8_evening_5 (by decide) (fun _ => ?_) (fun h => absurd (by decide) h)
    refine lv_sipush (v := (-1001)) hx hb dX8_evening_16 (by decide) ?_
    have hP9 := hP.sub (ws' := [((a 0), .inr (8, (fX8 a (nI tx) fp (nI t0) wd (nI we) nu na (nI rd) ts (nI ru) (nI rw) (nI ca) df db sd))), (aI k (a 1) 3 (nF dn)), (aI k (a 4) 27 (sg se tm gs)), (aI k (a 2) 72 ffrees), (aI k (a 3) 72 fprices), (aI k (a 25) 4 (nF bm)), (aI k (a 26) 48 fbarSeen), (aI k (a 27) 48 fbarFrom), (aI k (a 28) 4 fruleRounds)]) [0, 1, 2, 3, 4, 5, 6, 7, 8] rfl
    have hD9 := hD.sub (ws' := [((a 0), .inr (8, (fX8 a (nI tx) fp (nI t0) wd (nI we) nu na (nI rd) ts (nI ru) (nI rw) (nI ca) df db sd))), (aI k (a 1) 3 (nF dn)), (aI k (a 4) 27 (sg se tm gs)), (aI k (a 2) 72 ffrees), (aI k (a 3) 72 fprices), (aI k (a 25) 4 (nF bm)), (aI k (a 26) 48 fbarSeen), (aI k (a 27) 48 fbarFrom), (aI k (a 28) 4 fruleRounds)]) [0, 1, 2, 3, 4, 5, 6, 7, 8] (by decide +kernel) rfl
    exact W.iret (v := (-1001)) hx hb hr (fun t ht hW => ⟨⟨(-1001), sd, rfl, trivial, by rw [ht]; exact hP9, hD9⟩, hS.F ht⟩) hS.2.2 dX8_evening_19


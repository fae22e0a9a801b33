
set_option maxHeartbeats 4000000 in
set_option maxRecDepth 100000 in
theorem n_meanOf (l : Launch) (D : va_G) (k : Nat → ClassId) (st : Nat → Nat) (lo : Nat) (a : Nat → Nat) (tx : Nat) (t0 : Nat) (we : Nat) (rd : Nat) (ru : Nat) (rw : Nat) (ca : Nat) (fp : Int32) (wd : Int64) (nu : Int32) (na : Int32) (ts : Int32) (df : Int32) (db : Int32) (sd : Int32) (dn : Nat → Nat) (se : Nat → Nat) (tm : Nat → Nat) (gs : Nat → Int32) (ffrees : Nat → Int32) (fprices : Nat → Int32) (bm : Nat → Nat) (fbarSeen : Nat → Int32) (fbarFrom : Nat → Int32) (fruleRounds : Nat → Int32) (ffollows : Nat → Int32) (fbefore : Nat → Int32) (sn : Nat) (kr : Nat) (wh : Nat) (rx : Nat) (hdn : ∀ j, dn j ≤ 24) (hse : ∀ j, se j ≤ 2) (htm : ∀ j, tm j ≤ 3) (hbm : ∀ j, bm j ≤ 12) (hs : sn < 3) (hk : kr < 4) (hwh : wh ≤ 2) (hrx : fruleRounds kr = nI rx) (hr3 : rx ≤ 3) (hg9 : okG (sdM dn (sg se tm gs) ffrees fprices sn).2.1) : CWi l D k st lo yX8_meanOf cX8_meanOf 14 (some .int) ({ frames := 5, cells := 0, slots := 0, locals := 118 }) 0 0 [.ref (a 0), .int (nI sn), .int (nI kr), .int (nI wh)] [((a 0), .inr (8, (fX8 a (nI tx) fp (nI t0) wd (nI we) nu na (nI rd) ts (nI ru) (nI rw) (nI ca) df db sd))), (aI k (a 1) 3 (nF dn)), (aI k (a 4) 27 (sg se tm gs)), (aI k (a 2) 72 ffrees), (aI k (a 3) 72 fprices), (aI k (a 25) 4 (nF bm)), (aI k (a 26) 48 fbarSeen), (aI k (a 27) 48 fbarFrom), (aI k (a 28) 4 fruleRounds), (aI k (a 29) 52 ffollows), (aI k (a 30) 52 fbefore)] (fun (r : Int32) (u : (Nat → Int32) × (Nat → Int32)) => match u with | (ffollows_, fbefore_) => r = mR (sdM dn (sg se tm gs) ffrees fprices sn) (ruM bm fbarSeen fbarFrom fruleRounds kr) wh (min rx (tm sn)) ((min rx (tm sn)))) (fun (u : (Nat → Int32) × (Nat → Int32)) => match u with | (ffollows_, fbefore_) => [((a 0), .inr (8, (fX8 a (nI tx) fp (nI t0) wd (nI we) nu na (nI rd) ts (nI ru) (nI rw) (nI ca) df db sd))), (aI k (a 1) 3 (nF dn)), (aI k (a 4) 27 (sg se tm gs)), (aI k (a 2) 72 ffrees), (aI k (a 3) 72 fprices), (aI k (a 25) 4 (nF bm)), (aI k (a 26) 48 fbarSeen), (aI k (a 27) 48 fbarFrom), (aI k (a 28) 4 fruleRounds), (aI k (a 29) 52 ffollows_), (aI k (a 30) 52 fbefore_)]) := by
  intro sz
  refine Met.ofW (cc := cX8_meanOf) (maxL := 14) (ret := (some .int)) (by decide) rfl ?_
  intro p e s m args below meth c s₁ B hml hv
  obtain ⟨rfl, hsz, hlo, hP, hK, hDL, hZ⟩ := hv
  have hx := B.exec
  have hb := B.bytes
  have hr := B.returns
  have hts := WS_ts B.pre
  have hown : s.vm.findClass RX8 = some m.cls := findClass_of_methodNamed B.named
  have hlocks := B.notSynchronized
  subst hsz
  have hD := hDL.self (sz := s.heap.size)
  have hAlo := A_lo hDL hlo
  generalize hAe : va_A [((a 0), .inr (8, (fX8 a (nI tx) fp (nI t0) wd (nI we) nu na (nI rd) ts (nI ru) (nI rw) (nI ca) df db sd))), (aI k (a 1) 3 (nF dn)), (aI k (a 4) 27 (sg se tm gs)), (aI k (a 2) 72 ffrees), (aI k (a 3) 72 fprices), (aI k (a 25) 4 (nF bm)), (aI k (a 26) 48 fbarSeen), (aI k (a 27) 48 fbarFrom), (aI k (a 28) 4 fruleRounds), (aI k (a 29) 52 ffollows), (aI k (a 30) 52 fbefore)] s.heap.size = A at hD hAlo ⊢
  have hA : ∀ q : Nat, s.heap.size ≤ q → A q := fun q h => by rw [← hAe]; exact Or.inr h
  have hS : va_S A s.heap s.heap [] := va_S.rf
  have hl := lv_entry ([.ref (a 0), .int (nI sn), .int (nI kr), .int (nI wh)]) (n := 14) (Nat.le_of_ble_eq_true rfl)
  rw [lg_entry_eq]
  generalize (lg_sl ([.ref (a 0), .int (nI sn), .int (nI kr), .int (nI wh)]) ++ List.replicate (14 - (lg_sl ([.ref (a 0), .int (nI sn), .int (nI kr), .int (nI wh)])).length) Slot.unset).toArray = ls at hl ⊢
  have hl : lv_has ls 14 [(0, .ref (a 0)), (1, .int (nI sn)), (2, .int (nI kr)), (3, .int (nI wh))] := hl
  have hd_9 := hdn sn
  have hd_8 := hse sn
  have hd_7 := htm sn
  refine lv_aload_n hx hb dX8_meanOf_0 rfl (lv_at hl 0 rfl) ?_
  refine va_get (D := D) (ci := 8) (v := .ref (a 1)) (C := RX8) (T := TX8) (N := 44) hx hb hts inX8 hown hK hP 0 rfl rfl 0 (by decide) (hts _ tw_973) (fun _ h9 => h9) rfl dX8_meanOf_1 ?_
  refine lv_iload_n hx hb dX8_meanOf_4 rfl (lv_at hl 1 rfl) ?_
  refine va_iald hx hb hK hP 1 1 rfl rfl (vp_in_nI (by omega) (by decide)) dX8_meanOf_5 ?_
  refine lv_ti (y := (nI (dn sn))) (by rw [nI_clamp (by omega)]; rfl) ?_
  refine lv_istore (lv' := [(4, .int (nI (dn sn))), (0, .ref (a 0)), (1, .int (nI sn)), (2, .int (nI kr)), (3, .int (nI wh))]) hx hb dX8_meanOf_6 hl (by decide) rfl (fun ls hl => ?_)
  refine lv_iload_n hx hb dX8_meanOf_8 rfl (lv_at hl 4 rfl) ?_
  refine lv_if_ne (tgt := 25) hx hb dX8_meanOf_9 (by decide) (fun c_1 => ?_) (fun c_1 => ?_)
  · have c_1 : ¬ (wh = 0) := fun h => c_1 ((nI_eq (a := wh) (b := 0) (by omega) (by omega)).mpr h)
    refine lv_iconst (v := 0) hx hb dX8_meanOf_25 (by decide) ?_
    have hps_2 : (0 : Int32) = pPs (sdM dn (sg se tm gs) ffrees fprices sn) wh := by unfold pPs; rw [if_neg (by omega)]
    refine lv_istore (lv' := [(5, .int 0), (4, .int (nI (dn sn))), (0, .ref (a 0)), (1, .int (nI sn)), (2, .int (nI kr)), (3, .int (nI wh))]) hx hb dX8_meanOf_26 hl (by decide) rfl (fun ls hl => ?_)
    refine lv_iconst (v := 0) hx hb dX8_meanOf_28 (by decide) ?_
    refine lv_istore (lv' := [(6, .int 0), (5, .int 0), (4, .int (nI (dn sn))), (0, .ref (a 0)), (1, .int (nI sn)), (2, .int (nI kr)), (3, .int (nI wh))]) hx hb dX8_meanOf_29 hl (by decide) rfl (fun ls hl => ?_)
    refine lv_iconst (v := 3) hx hb dX8_meanOf_31 (by decide) ?_
    refine lv_istore (lv' := [(7, .int 3), (6, .int 0), (5, .int 0), (4, .int (nI (dn sn))), (0, .ref (a 0)), (1, .int (nI sn)), (2, .int (nI kr)), (3, .int (nI wh))]) hx hb dX8_meanOf_32 hl (by decide) rfl (fun ls hl => ?_)
    refine W_loop (σ := Nat × Int32 × (Nat → Int32) × (Nat → Int32)) (fun (n_ : Nat) (x_ : Nat × Int32 × (Nat → Int32) × (Nat → Int32)) (H : Heap) (locs : List Loc) (ls : Array Slot) => match x_ with | (q_3, bg_3, ff_3, fb_3) => n_ = 2 * q_3 ∧ (q_3 ≤ 4 ∧ (q_3 ≤ (min rx (tm sn)) → bg_3 = mR (sdM dn (sg se tm gs) ffrees fprices sn) (ruM bm fbarSeen fbarFrom fruleRounds kr) wh (min rx (tm sn)) ((min rx (tm sn)) - q_3))) ∧ va_P D classes [((a 0), .inr (8, (fX8 a (nI tx) fp (nI t0) wd (nI we) nu na (nI rd) ts (nI ru) (nI rw) (nI ca) df db sd))), (aI k (a 1) 3 (nF dn)), (aI k (a 4) 27 (sg se tm gs)), (aI k (a 2) 72 ffrees), (aI k (a 3) 72 fprices), (aI k (a 25) 4 (nF bm)), (aI k (a 26) 48 fbarSeen), (aI k (a 27) 48 fbarFrom), (aI k (a 28) 4 fruleRounds), (aI k (a 29) 52 ff_3), (aI k (a 30) 52 fb_3)] H ∧ va_D A [((a 0), .inr (8, (fX8 a (nI tx) fp (nI t0) wd (nI we) nu na (nI rd) ts (nI ru) (nI rw) (nI ca) df db sd))), (aI k (a 1) 3 (nF dn)), (aI k (a 4) 27 (sg se tm gs)), (aI k (a 2) 72 ffrees), (aI k (a 3) 72 fprices), (aI k (a 25) 4 (nF bm)), (aI k (a 26) 48 fbarSeen), (aI k (a 27) 48 fbarFrom), (aI k (a 28) 4 fruleRounds), (aI k (a 29) 52 ff_3), (aI k (a 30) 52 fb_3)] ∧ va_S A s.heap H locs ∧ lv_has ls 14 [(7, .int (nI q_3 - 1)), (6, .int bg_3), (5, .int 0), (4, .int (nI (dn sn))), (0, .ref (a 0)), (1, .int (nI sn)), (2, .int (nI kr)), (3, .int (nI wh))]) (fun n_3 x_3 H locs ls hI ih_3 => ?_) _ (4, 0, ffollows, fbefore) ⟨rfl, ⟨by omega, fun h => absurd h (by omega)⟩, hP, hD, hS, (by rw [nI_pred]; exact lv_sub hl [0, 1, 2, 3, 4, 5, 6, 7] rfl)⟩
    obtain ⟨q_3, bg_3, ff_3, fb_3⟩ := x_3
    obtain ⟨hm_3, hv_3, hP, hD, hS, hl⟩ := hI
    subst hm_3
    rcases q_3 with _ | q_3
    · rw [dn0] at hl
      refine lv_iload hx hb dX8_meanOf_34 (lv_at hl 0 rfl) ?_
      refine lv_if_lt (tgt := 289) hx hb dX8_meanOf_36 (by decide) (fun _ => ?_) (fun h => absurd (by decide) h)
      refine lv_iload hx hb dX8_meanOf_289 (lv_at hl 1 rfl) ?_
      obtain ⟨hP9, hD9⟩ := pd_sub [((a 0), .inr (8, (fX8 a (nI tx) fp (nI t0) wd (nI we) nu na (nI rd) ts (nI ru) (nI rw) (nI ca) df db sd))), (aI k (a 1) 3 (nF dn)), (aI k (a 4) 27 (sg se tm gs)), (aI k (a 2) 72 ffrees), (aI k (a 3) 72 fprices), (aI k (a 25) 4 (nF bm)), (aI k (a 26) 48 fbarSeen), (aI k (a 27) 48 fbarFrom), (aI k (a 28) 4 fruleRounds), (aI k (a 29) 52 ff_3), (aI k (a 30) 52 fb_3)] [0, 1, 2, 3, 4, 5, 6, 7, 8, 9, 10] hP hD (by decide +kernel) rfl
      exact W.iret (v := bg_3) hx hb hr (fun t ht hW => ⟨⟨bg_3, (ff_3, fb_3), rfl, hv_3.2 (Nat.zero_le _), by rw [ht]; exact hP9, hD9⟩, hS.F ht⟩) hS.2.2 dX8_meanOf_291
    · rw [nI_pred] at hl
      refine lv_iload hx hb dX8_meanOf_34 (lv_at hl 0 rfl) ?_
      refine lv_if_lt (tgt := 289) hx hb dX8_meanOf_36 (by decide) (fun h => absurd h (nI_pos0 (by omega))) (fun _ => ?_)
      refine lv_iload_n hx hb dX8_meanOf_39 rfl (lv_at hl 7 rfl) ?_
      refine lv_if_ne (tgt := 64) hx hb dX8_meanOf_40 (by decide) (fun _ => ?_) (fun h => absurd ((nI_eq (a := wh) (b := 0) (by omega) (by omega)).mp h) (by omega))
      refine lv_iconst (v := 0) hx hb dX8_meanOf_64 (by decide) ?_
      have hgo_5 : (0 : Int32) = pRs (sdM dn (sg se tm gs) ffrees fprices sn) wh := by unfold pRs; rw [if_neg (by omega)]
      refine lv_istore (lv' := [(8, .int 0), (7, .int (nI q_3)), (6, .int bg_3), (5, .int 0), (4, .int (nI (dn sn))), (0, .ref (a 0)), (1, .int (nI sn)), (2, .int (nI kr)), (3, .int (nI wh))]) hx hb dX8_meanOf_65 hl (by decide) rfl (fun ls hl => ?_)
      refine lv_aload_n hx hb dX8_meanOf_67 rfl (lv_at hl 5 rfl) ?_
      refine lv_iload_n hx hb dX8_meanOf_68 rfl (lv_at hl 6 rfl) ?_
      refine lv_iload_n hx hb dX8_meanOf_69 rfl (lv_at hl 7 rfl) ?_
      refine lv_iload hx hb dX8_meanOf_70 (lv_at hl 1 rfl) ?_
      refine ro_i (D := D) (va_runV (As := [.int (nI sn), .int (nI kr), .int (nI q_3)]) (rest := []) ⟨hx, hb, hml, hown, hts⟩ ((n_isRoundBy l D k st lo a tx t0 we rd ru rw ca fp wd nu na ts df db sd se tm gs fruleRounds sn kr q_3 rx htm (by first | assumption | omega) (by first | assumption | omega) (by first | assumption | omega) hrx (by first | assumption | omega)) H.size) (cwV 3 hts (gV tw_1329 tw_1331 tw_59 tw_87 tw_1332) rfl rfl rfl (by decide +kernel) ⟨Nat.le_of_ble_eq_true rfl, Nat.le_of_ble_eq_true rfl⟩) (pV hS hAlo hlo hP hK (va_Dlo hD hAlo) hZ [0, 2, 8] (by decide) rfl (ci := 8) (q := (RX8, TX8, 44)) (q0 := 0) rfl rfl) rfl rfl hl.1 rfl (lv_room (Nat.le_of_ble_eq_true rfl)) dX8_meanOf_72 ⟨Nat.le_of_ble_eq_true rfl, Nat.le_of_ble_eq_true rfl⟩) hS hA hP (fun r_6 H locs hw_6 hP hS => ?_)
      try dsimp only at hw_6
      rcases hw_6 with ⟨rfl, hw_6⟩ | ⟨rfl, hw_6⟩
      · refine lv_if_eq (tgt := 86) hx hb dX8_meanOf_75 (by decide) (fun h => absurd h (by decide)) (fun _ => ?_)
        refine lv_iload hx hb dX8_meanOf_78 (lv_at hl 0 rfl) ?_
        refine lv_iload hx hb dX8_meanOf_80 (lv_at hl 2 rfl) ?_
        refine lv_iadd hx hb dX8_meanOf_82 ?_
        refine lv_topi (fun x_7 ex_7 => ?_)
        refine lv_goto (tgt := 94) hx hb dX8_meanOf_83 (by decide) ?_
        have he_8 : x_7 = pRs (sdM dn (sg se tm gs) ffrees fprices sn) wh + mR (sdM dn (sg se tm gs) ffrees fprices sn) (ruM bm fbarSeen fbarFrom fruleRounds kr) wh (min rx (tm sn)) ((min rx (tm sn)) - (q_3 + 1)) := by rw [ex_7, ← hgo_5]; exact congrArg (fun z => 0 + z) (hv_3.2 (by omega))
        refine lv_istore (lv' := [(9, .int x_7), (8, .int 0), (7, .int (nI q_3)), (6, .int bg_3), (5, .int 0), (4, .int (nI (dn sn))), (0, .ref (a 0)), (1, .int (nI sn)), (2, .int (nI kr)), (3, .int (nI wh))]) hx hb dX8_meanOf_94 hl (by decide) rfl (fun ls hl => ?_)
        refine lv_iconst (v := 0) hx hb dX8_meanOf_96 (by decide) ?_
        refine lv_istore (lv' := [(10, .int 0), (9, .int x_7), (8, .int 0), (7, .int (nI q_3)), (6, .int bg_3), (5, .int 0), (4, .int (nI (dn sn))), (0, .ref (a 0)), (1, .int (nI sn)), (2, .int (nI kr)), (3, .int (nI wh))]) hx hb dX8_meanOf_97 hl (by decide) rfl (fun ls hl => ?_)
        refine W_loop (σ := Nat × (Nat → Int32)) (fun (n_ : Nat) (x_ : Nat × (Nat → Int32)) (H : Heap) (locs : List Loc) (ls : Array Slot) => match x_ with | (kk_9, ff2_9) => n_ = 52 - kk_9 ∧ (kk_9 ≤ 52 ∧ ∀ k, k < kk_9 → ff2_9 k = x_7) ∧ va_P D classes [((a 0), .inr (8, (fX8 a (nI tx) fp (nI t0) wd (nI we) nu na (nI rd) ts (nI ru) (nI rw) (nI ca) df db sd))), (aI k (a 1) 3 (nF dn)), (aI k (a 4) 27 (sg se tm gs)), (aI k (a 2) 72 ffrees), (aI k (a 3) 72 fprices), (aI k (a 25) 4 (nF bm)), (aI k (a 26) 48 fbarSeen), (aI k (a 27) 48 fbarFrom), (aI k (a 28) 4 fruleRounds), (aI k (a 29) 52 ff2_9), (aI k (a 30) 52 fb_3)] H ∧ va_D A [((a 0), .inr (8, (fX8 a (nI tx) fp (nI t0) wd (nI we) nu na (nI rd) ts (nI ru) (nI rw) (nI ca) df db sd))), (aI k (a 1) 3 (nF dn)), (aI k (a 4) 27 (sg se tm gs)), (aI k (a 2) 72 ffrees), (aI k (a 3) 72 fprices), (aI k (a 25) 4 (nF bm)), (aI k (a 26) 48 fbarSeen), (aI k (a 27) 48 fbarFrom), (aI k (a 28) 4 fruleRounds), (aI k (a 29) 52 ff2_9), (aI k (a 30) 52 fb_3)] ∧ va_S A s.heap H locs ∧ lv_has ls 14 [(10, .int (nI kk_9)), (9, .int x_7), (8, .int 0), (7, .int (nI q_3)), (6, .int bg_3), (5, .int 0), (4, .int (nI (dn sn))), (0, .ref (a 0)), (1, .int (nI sn)), (2, .int (nI kr)), (3, .int (nI wh))]) (fun n_9 x_9 H locs ls hI ih_9 => ?_) _ (0, ff_3) ⟨rfl, ⟨by omega, fun k h => absurd h (Nat.not_lt_zero k)⟩, hP, hD, hS, (lv_sub hl [0, 1, 2, 3, 4, 5, 6, 7, 8, 9, 10] rfl)⟩
        obtain ⟨kk_9, ff2_9⟩ := x_9
        obtain ⟨hm_9, hv_9, hP, hD, hS, hl⟩ := hI
        subst hm_9
        refine lv_iload hx hb dX8_meanOf_99 (lv_at hl 0 rfl) ?_
        refine lv_bipush (v := 52) hx hb dX8_meanOf_101 (by decide) ?_
        refine lv_icmp_ge (tgt := 121) hx hb dX8_meanOf_103 (by decide) (fun c_10 => ?_) (fun c_10 => ?_)
        · have c_10 := (nI_leI (a := 52) (b := kk_9) (by omega) (by omega)).mp c_10
          refine lv_iload hx hb dX8_meanOf_121 (lv_at hl 6 rfl) ?_
          refine lv_iconst (v := 1) hx hb dX8_meanOf_123 (by decide) ?_
          refine lv_isub hx hb dX8_meanOf_124 ?_
          refine lv_ti (y := (nI (dn sn) - 1)) rfl ?_
          refine lv_istore (lv' := [(10, .int (nI (dn sn) - 1)), (9, .int x_7), (8, .int 0), (7, .int (nI q_3)), (6, .int bg_3), (5, .int 0), (4, .int (nI (dn sn))), (0, .ref (a 0)), (1, .int (nI sn)), (2, .int (nI kr)), (3, .int (nI wh))]) hx hb dX8_meanOf_125 hl (by decide) rfl (fun ls hl => ?_)
          refine W_loop (σ := Nat × (Nat → Int32) × (Nat → Int32)) (fun (n_ : Nat) (x_ : Nat × (Nat → Int32) × (Nat → Int32)) (H : Heap) (locs : List Loc) (ls : Array Slot) => match x_ with | (qi_11, ff3_11, fb3_11) => n_ = 2 * qi_11 ∧ (qi_11 ≤ dn sn ∧ ∀ k, k < 52 → k / 2 + (dn sn - qi_11) ≤ 25 → ff3_11 k = mV (sdM dn (sg se tm gs) ffrees fprices sn) (ruM bm fbarSeen fbarFrom fruleRounds kr) wh q_3 x_7 (dn sn - qi_11) (k / 2) (k % 2)) ∧ va_P D classes [((a 0), .inr (8, (fX8 a (nI tx) fp (nI t0) wd (nI we) nu na (nI rd) ts (nI ru) (nI rw) (nI ca) df db sd))), (aI k (a 1) 3 (nF dn)), (aI k (a 4) 27 (sg se tm gs)), (aI k (a 2) 72 ffrees), (aI k (a 3) 72 fprices), (aI k (a 25) 4 (nF bm)), (aI k (a 26) 48 fbarSeen), (aI k (a 27) 48 fbarFrom), (aI k (a 28) 4 fruleRounds), (aI k (a 29) 52 ff3_11), (aI k (a 30) 52 fb3_11)] H ∧ va_D A [((a 0), .inr (8, (fX8 a (nI tx) fp (nI t0) wd (nI we) nu na (nI rd) ts (nI ru) (nI rw) (nI ca) df db sd))), (aI k (a 1) 3 (nF dn)), (aI k (a 4) 27 (sg se tm gs)), (aI k (a 2) 72 ffrees), (aI k (a 3) 72 fprices), (aI k (a 25) 4 (nF bm)), (aI k (a 26) 48 fbarSeen), (aI k (a 27) 48 fbarFrom), (aI k (a 28) 4 fruleRounds), (aI k (a 29) 52 ff3_11), (aI k (a 30) 52 fb3_11)] ∧ va_S A s.heap H locs ∧ lv_has ls 14 [(10, .int (nI qi_11 - 1)), (9, .int x_7), (8, .int 0), (7, .int (nI q_3)), (6, .int bg_3), (5, .int 0), (4, .int (nI (dn sn))), (0, .ref (a 0)), (1, .int (nI sn)), (2, .int (nI kr)), (3, .int (nI wh))]) (fun n_11 x_11 H locs ls hI ih_11 => ?_) _ (dn sn, ff2_9, fb_3) ⟨rfl, ⟨by omega, fun k hk _ => by rw [Nat.sub_self]; exact hv_9.2 k (by omega)⟩, hP, hD, hS, (lv_sub hl [0, 1, 2, 3, 4, 5, 6, 7, 8, 9, 10] rfl)⟩
          obtain ⟨qi_11, ff3_11, fb3_11⟩ := x_11
          obtain ⟨hm_11, hv_11, hP, hD, hS, hl⟩ := hI
          subst hm_11
          rcases qi_11 with _ | qi_11
          · rw [dn0] at hl
            refine lv_iload hx hb dX8_meanOf_127 (lv_at hl 0 rfl) ?_
            refine lv_if_lt (tgt := 275) hx hb dX8_meanOf_129 (by decide) (fun _ => ?_) (fun h => absurd (by decide) h)
            refine lv_aload_n hx hb dX8_meanOf_275 rfl (lv_at hl 7 rfl) ?_
            refine va_get (D := D) (ci := 8) (v := .ref (a 29)) (C := RX8) (T := TX8) (N := 44) hx hb hts inX8 hown hK hP 0 rfl rfl 28 (by decide) (hts _ tw_1001) (fun _ h9 => h9) rfl dX8_meanOf_276 ?_
            refine lv_iconst (v := 0) hx hb dX8_meanOf_279 (by decide) ?_
            refine va_iald hx hb hK hP 9 1 rfl rfl (by unfold vp_in; decide) dX8_meanOf_280 ?_
            refine lv_ti (y := (ff3_11 0)) (by rfl) ?_
            refine lv_istore (lv' := [(6, .int (ff3_11 0)), (10, .int (-1)), (9, .int x_7), (8, .int 0), (7, .int (nI q_3)), (5, .int 0), (4, .int (nI (dn sn))), (0, .ref (a 0)), (1, .int (nI sn)), (2, .int (nI kr)), (3, .int (nI wh))]) hx hb dX8_meanOf_281 hl (by decide) rfl (fun ls hl => ?_)
            refine lv_iinc (v := (nI q_3 - 1)) (lv' := [(7, .int (nI q_3 - 1)), (6, .int (ff3_11 0)), (10, .int (-1)), (9, .int x_7), (8, .int 0), (5, .int 0), (4, .int (nI (dn sn))), (0, .ref (a 0)), (1, .int (nI sn)), (2, .int (nI kr)), (3, .int (nI wh))]) hx hb dX8_meanOf_283 hl (k := 4) rfl (dn1 _) (by decide) rfl (fun ls hl => ?_)
            refine lv_goto (tgt := 34) hx hb dX8_meanOf_286 (by decide) ?_
            exact ih_3 _ (q_3, (ff3_11 0), ff3_11, fb3_11) _ _ _ (by omega) ⟨rfl, ⟨by omega, fun h => (show ff3_11 0 = mV (sdM dn (sg se tm gs) ffrees fprices sn) (ruM bm fbarSeen fbarFrom fruleRounds kr) wh q_3 x_7 (dn sn) 0 0 from hv_11.2 0 (by omega) (by omega)).trans (mr_of h (fun _ => he_8) (fun h => absurd h (by omega)))⟩, hP, hD, hS, (lv_sub hl [0, 1, 5, 6, 7, 8, 9, 10] rfl)⟩
          · rw [nI_pred] at hl
            refine lv_iload hx hb dX8_meanOf_127 (lv_at hl 0 rfl) ?_
            refine lv_if_lt (tgt := 275) hx hb dX8_meanOf_129 (by decide) (fun h => absurd h (nI_pos0 (by omega))) (fun _ => ?_)
            refine lv_iconst (v := 0) hx hb dX8_meanOf_132 (by decide) ?_
            refine lv_istore (lv' := [(11, .int 0), (10, .int (nI qi_11)), (9, .int x_7), (8, .int 0), (7, .int (nI q_3)), (6, .int bg_3), (5, .int 0), (4, .int (nI (dn sn))), (0, .ref (a 0)), (1, .int (nI sn)), (2, .int (nI kr)), (3, .int (nI wh))]) hx hb dX8_meanOf_133 hl (by decide) rfl (fun ls hl => ?_)
            refine W_loop (σ := Nat × (Nat → Int32)) (fun (n_ : Nat) (x_ : Nat × (Nat → Int32)) (H : Heap) (locs : List Loc) (ls : Array Slot) => match x_ with | (k2_12, fb4_12) => n_ = 50 - k2_12 ∧ (k2_12 ≤ 50 ∧ ∀ k, k < k2_12 → k / 2 + (dn sn - qi_11) ≤ 25 → fb4_12 k = mV (sdM dn (sg se tm gs) ffrees fprices sn) (ruM bm fbarSeen fbarFrom fruleRounds kr) wh q_3 x_7 (dn sn - qi_11) (k / 2) (k % 2)) ∧ va_P D classes [((a 0), .inr (8, (fX8 a (nI tx) fp (nI t0) wd (nI we) nu na (nI rd) ts (nI ru) (nI rw) (nI ca) df db sd))), (aI k (a 1) 3 (nF dn)), (aI k (a 4) 27 (sg se tm gs)), (aI k (a 2) 72 ffrees), (aI k (a 3) 72 fprices), (aI k (a 25) 4 (nF bm)), (aI k (a 26) 48 fbarSeen), (aI k (a 27) 48 fbarFrom), (aI k (a 28) 4 fruleRounds), (aI k (a 29) 52 ff3_11), (aI k (a 30) 52 fb4_12)] H ∧ va_D A [((a 0), .inr (8, (fX8 a (nI tx) fp (nI t0) wd (nI we) nu na (nI rd) ts (nI ru) (nI rw) (nI ca) df db sd))), (aI k (a 1) 3 (nF dn)), (aI k (a 4) 27 (sg se tm gs)), (aI k (a 2) 72 ffrees), (aI k (a 3) 72 fprices), (aI k (a 25) 4 (nF bm)), (aI k (a 26) 48 fbarSeen), (aI k (a 27) 48 fbarFrom), (aI k (a 28) 4 fruleRounds), (aI k (a 29) 52 ff3_11), (aI k (a 30) 52 fb4_12)] ∧ va_S A s.heap H locs ∧ lv_has ls 14 [(11, .int (nI k2_12)), (10, .int (nI qi_11)), (9, .int x_7), (8, .int 0), (7, .int (nI q_3)), (6, .int bg_3), (5, .int 0), (4, .int (nI (dn sn))), (0, .ref (a 0)), (1, .int (nI sn)), (2, .int (nI kr)), (3, .int (nI wh))]) (fun n_12 x_12 H locs ls hI ih_12 => ?_) _ (0, fb3_11) ⟨rfl, ⟨by omega, fun k h => absurd h (Nat.not_lt_zero k)⟩, hP, hD, hS, (lv_sub hl [0, 1, 2, 3, 4, 5, 6, 7, 8, 9, 10, 11] rfl)⟩
            obtain ⟨k2_12, fb4_12⟩ := x_12
            obtain ⟨hm_12, hv_12, hP, hD, hS, hl⟩ := hI
            subst hm_12
            refine lv_iload hx hb dX8_meanOf_135 (lv_at hl 0 rfl) ?_
            refine lv_bipush (v := 50) hx hb dX8_meanOf_137 (by decide) ?_
            refine lv_icmp_ge (tgt := 239) hx hb dX8_meanOf_139 (by decide) (fun c_13 => ?_) (fun c_13 => ?_)
            · have c_13 := (nI_leI (a := 50) (b := k2_12) (by omega) (by omega)).mp c_13
              refine lv_iconst (v := 0) hx hb dX8_meanOf_239 (by decide) ?_
              refine lv_istore (lv' := [(11, .int 0), (10, .int (nI qi_11)), (9, .int x_7), (8, .int 0), (7, .int (nI q_3)), (6, .int bg_3), (5, .int 0), (4, .int (nI (dn sn))), (0, .ref (a 0)), (1, .int (nI sn)), (2, .int (nI kr)), (3, .int (nI wh))]) hx hb dX8_meanOf_240 hl (by decide) rfl (fun ls hl => ?_)
              refine W_loop (σ := Nat × (Nat → Int32)) (fun (n_ : Nat) (x_ : Nat × (Nat → Int32)) (H : Heap) (locs : List Loc) (ls : Array Slot) => match x_ with | (k3_14, ff5_14) => n_ = 50 - k3_14 ∧ (k3_14 ≤ 50 ∧ (∀ k, k < k3_14 → k / 2 + (dn sn - qi_11) ≤ 25 → ff5_14 k = mV (sdM dn (sg se tm gs) ffrees fprices sn) (ruM bm fbarSeen fbarFrom fruleRounds kr) wh q_3 x_7 (dn sn - qi_11) (k / 2) (k % 2)) ∧ True) ∧ va_P D classes [((a 0), .inr (8, (fX8 a (nI tx) fp (nI t0) wd (nI we) nu na (nI rd) ts (nI ru) (nI rw) (nI ca) df db sd))), (aI k (a 1) 3 (nF dn)), (aI k (a 4) 27 (sg se tm gs)), (aI k (a 2) 72 ffrees), (aI k (a 3) 72 fprices), (aI k (a 25) 4 (nF bm)), (aI k (a 26) 48 fbarSeen), (aI k (a 27) 48 fbarFrom), (aI k (a 28) 4 fruleRounds), (aI k (a 29) 52 ff5_14), (aI k (a 30) 52 fb4_12)] H ∧ va_D A [((a 0), .inr (8, (fX8 a (nI tx) fp (nI t0) wd (nI we) nu na (nI rd) ts (nI ru) (nI rw) (nI ca) df db sd))), (aI k (a 1) 3 (nF dn)), (aI k (a 4) 27 (sg se tm gs)), (aI k (a 2) 72 ffrees), (aI k (a 3) 72 fprices), (aI k (a 25) 4 (nF bm)), (aI k (a 26) 48 fbarSeen), (aI k (a 27) 48 fbarFrom), (aI k (a 28) 4 fruleRounds), (aI k (a 29) 52 ff5_14), (aI k (a 30) 52 fb4_12)] ∧ va_S A s.heap H locs ∧ lv_has ls 14 [(11, .int (nI k3_14)), (10, .int (nI qi_11)), (9, .int x_7), (8, .int 0), (7, .int (nI q_3)), (6, .int bg_3), (5, .int 0), (4, .int (nI (dn sn))), (0, .ref (a 0)), (1, .int (nI sn)), (2, .int (nI kr)), (3, .int (nI wh))]) (fun n_14 x_14 H locs ls hI ih_14 => ?_) _ (0, ff3_11) ⟨rfl, ⟨by omega, fun k h => absurd h (Nat.not_lt_zero k), trivial⟩, hP, hD, hS, (lv_sub hl [0, 1, 2, 3, 4, 5, 6, 7, 8, 9, 10, 11] rfl)⟩
              obtain ⟨k3_14, ff5_14⟩ := x_14
              obtain ⟨hm_14, hv_14, hP, hD, hS, hl⟩ := hI
              subst hm_14
              refine lv_iload hx hb dX8_meanOf_242 (lv_at hl 0 rfl) ?_
              refine lv_bipush (v := 50) hx hb dX8_meanOf_244 (by decide) ?_
              refine lv_icmp_ge (tgt := 269) hx hb dX8_meanOf_246 (by decide) (fun c_15 => ?_) (fun c_15 => ?_)
              · have c_15 := (nI_leI (a := 50) (b := k3_14) (by omega) (by omega)).mp c_15
                refine lv_iinc (v := (nI qi_11 - 1)) (lv' := [(10, .int (nI qi_11 - 1)), (11, .int (nI k3_14)), (9, .int x_7), (8, .int 0), (7, .int (nI q_3)), (6, .int bg_3), (5, .int 0), (4, .int (nI (dn sn))), (0, .ref (a 0)), (1, .int (nI sn)), (2, .int (nI kr)), (3, .int (nI wh))]) hx hb dX8_meanOf_269 hl (k := 1) rfl (dn1 _) (by decide) rfl (fun ls hl => ?_)
                refine lv_goto (tgt := 127) hx hb dX8_meanOf_272 (by decide) ?_
                exact ih_11 _ (qi_11, ff5_14, fb4_12) _ _ _ (by omega) ⟨rfl, ⟨by omega, fun k hk hp => hv_14.2.1 k (by omega) hp⟩, hP, hD, hS, (lv_sub hl [0, 2, 3, 4, 5, 6, 7, 8, 9, 10, 11] rfl)⟩
              · have c_15 : ¬ (50 ≤ k3_14) := fun h => c_15 ((nI_leI (a := 50) (b := k3_14) (by omega) (by omega)).mpr h)
                refine lv_aload_n hx hb dX8_meanOf_249 rfl (lv_at hl 8 rfl) ?_
                refine va_get (D := D) (ci := 8) (v := .ref (a 29)) (C := RX8) (T := TX8) (N := 44) hx hb hts inX8 hown hK hP 0 rfl rfl 28 (by decide) (hts _ tw_1001) (fun _ h9 => h9) rfl dX8_meanOf_250 ?_
                refine lv_iload hx hb dX8_meanOf_253 (lv_at hl 0 rfl) ?_
                refine lv_aload_n hx hb dX8_meanOf_255 rfl (lv_at hl 8 rfl) ?_
                refine va_get (D := D) (ci := 8) (v := .ref (a 30)) (C := RX8) (T := TX8) (N := 44) hx hb hts inX8 hown hK hP 0 rfl rfl 29 (by decide) (hts _ tw_1002) (fun _ h9 => h9) rfl dX8_meanOf_256 ?_
                refine lv_iload hx hb dX8_meanOf_259 (lv_at hl 0 rfl) ?_
                refine va_iald hx hb hK hP 10 1 rfl rfl (vp_in_nI (by omega) (by decide)) dX8_meanOf_261 ?_
                refine lv_ti (y := (fb4_12 k3_14)) (by rw [nI_clamp (by omega)]) ?_
                refine va_iast hx hb hK hP hD hS 9 1 rfl rfl (vp_in_nI (by omega) (by decide)) dX8_meanOf_262 (fun H locs hP hD hS => ?_)
                have hQ9 := pd_mk [((a 0), .inr (8, (fX8 a (nI tx) fp (nI t0) wd (nI we) nu na (nI rd) ts (nI ru) (nI rw) (nI ca) df db sd))), (aI k (a 1) 3 (nF dn)), (aI k (a 4) 27 (sg se tm gs)), (aI k (a 2) 72 ffrees), (aI k (a 3) 72 fprices), (aI k (a 25) 4 (nF bm)), (aI k (a 26) 48 fbarSeen), (aI k (a 27) 48 fbarFrom), (aI k (a 28) 4 fruleRounds), (aI k (a 29) 52 (upd ff5_14 (Int32.toNatClampNeg (nI k3_14)) (fb4_12 k3_14))), (aI k (a 30) 52 fb4_12)] hP hD
                clear hP hD
                obtain ⟨hP, hD⟩ := hQ9
                rw [nI_clamp (n := k3_14) (by omega)] at hP hD
                have hQ9 := pd_mk [((a 0), .inr (8, (fX8 a (nI tx) fp (nI t0) wd (nI we) nu na (nI rd) ts (nI ru) (nI rw) (nI ca) df db sd))), (aI k (a 1) 3 (nF dn)), (aI k (a 4) 27 (sg se tm gs)), (aI k (a 2) 72 ffrees), (aI k (a 3) 72 fprices), (aI k (a 25) 4 (nF bm)), (aI k (a 26) 48 fbarSeen), (aI k (a 27) 48 fbarFrom), (aI k (a 28) 4 fruleRounds), (aI k (a 29) 52 (upd ff5_14 k3_14 (fb4_12 k3_14))), (aI k (a 30) 52 fb4_12)] hP hD
                clear hP hD
                obtain ⟨hP, hD⟩ := hQ9
                refine lv_iinc (v := (nI (k3_14 + 1))) (lv' := [(11, .int (nI (k3_14 + 1))), (10, .int (nI qi_11)), (9, .int x_7), (8, .int 0), (7, .int (nI q_3)), (6, .int bg_3), (5, .int 0), (4, .int (nI (dn sn))), (0, .ref (a 0)), (1, .int (nI sn)), (2, .int (nI kr)), (3, .int (nI wh))]) hx hb dX8_meanOf_263 hl (k := 0) rfl (nI_add k3_14 1) (by decide) rfl (fun ls hl => ?_)
                refine lv_goto (tgt := 242) hx hb dX8_meanOf_266 (by decide) ?_
                exact ih_14 _ (k3_14 + 1, (upd ff5_14 k3_14 (fb4_12 k3_14))) _ _ _ (by omega) ⟨rfl, ⟨by omega, la_updc (F := fun k => mV (sdM dn (sg se tm gs) ffrees fprices sn) (ruM bm fbarSeen fbarFrom fruleRounds kr) wh q_3 x_7 (dn sn - qi_11) (k / 2) (k % 2)) (P := fun k => k / 2 + (dn sn - qi_11) ≤ 25) hv_14.2.1 (hv_12.2 k3_14 (by omega)), trivial⟩, hP, hD, hS, (lv_sub hl [0, 1, 2, 3, 4, 5, 6, 7, 8, 9, 10, 11] rfl)⟩
            · have c_13 : ¬ (50 ≤ k2_12) := fun h => c_13 ((nI_leI (a := 50) (b := k2_12) (by omega) (by omega)).mpr h)
              refine lv_iload hx hb dX8_meanOf_142 (lv_at hl 0 rfl) ?_
              refine lv_iconst (v := 2) hx hb dX8_meanOf_144 (by decide) ?_
              refine lv_idiv hx hb dX8_meanOf_145 (by decide) ?_
              refine lv_ti (y := (nI (k2_12 / 2))) (pk_div (by omega) (by decide) (by decide)) ?_
              refine lv_istore (lv' := [(12, .int (nI (k2_12 / 2))), (11, .int (nI k2_12)), (10, .int (nI qi_11)), (9, .int x_7), (8, .int 0), (7, .int (nI q_3)), (6, .int bg_3), (5, .int 0), (4, .int (nI (dn sn))), (0, .ref (a 0)), (1, .int (nI sn)), (2, .int (nI kr)), (3, .int (nI wh))]) hx hb dX8_meanOf_146 hl (by decide) rfl (fun ls hl => ?_)
              refine lv_aload_n hx hb dX8_meanOf_148 rfl (lv_at hl 9 rfl) ?_
              refine lv_iload_n hx hb dX8_meanOf_149 rfl (lv_at hl 11 rfl) ?_
              refine lv_iload hx hb dX8_meanOf_150 (lv_at hl 2 rfl) ?_
              refine lv_iload hx hb dX8_meanOf_152 (lv_at hl 0 rfl) ?_
              refine ro_i (D := D) (va_runV (As := [.int (nI kr), .int (nI qi_11), .int (nI (k2_12 / 2))]) (rest := []) ⟨hx, hb, hml, hown, hts⟩ ((n_isFor l D k st lo a tx t0 we rd ru rw ca fp wd nu na ts df db sd bm fbarSeen fbarFrom fruleRounds kr qi_11 (k2_12 / 2) hbm (by first | assumption | omega)) H.size) (cwV 3 hts (gV tw_1338 tw_1340 tw_61 tw_87 tw_1341) rfl rfl rfl (by decide +kernel) ⟨Nat.le_of_ble_eq_true rfl, Nat.le_of_ble_eq_true rfl⟩) (pV hS hAlo hlo hP hK (va_Dlo hD hAlo) hZ [0, 5, 6, 7, 8] (by decide) rfl (ci := 8) (q := (RX8, TX8, 44)) (q0 := 0) rfl rfl) rfl rfl hl.1 rfl (lv_room (Nat.le_of_ble_eq_true rfl)) dX8_meanOf_154 ⟨Nat.le_of_ble_eq_true rfl, Nat.le_of_ble_eq_true rfl⟩) hS hA hP (fun r_17 H locs hw_17 hP hS => ?_)
              try dsimp only at hw_17
              rcases hw_17 with ⟨rfl, hw_17⟩ | ⟨rfl, hw_17⟩
              · refine lv_if_eq (tgt := 173) hx hb dX8_meanOf_157 (by decide) (fun h => absurd h (by decide)) (fun _ => ?_)
                refine lv_aload_n hx hb dX8_meanOf_160 rfl (lv_at hl 9 rfl) ?_
                refine lv_iload_n hx hb dX8_meanOf_161 rfl (lv_at hl 10 rfl) ?_
                refine lv_iload hx hb dX8_meanOf_162 (lv_at hl 5 rfl) ?_
                refine lv_iload hx hb dX8_meanOf_164 (lv_at hl 2 rfl) ?_
                refine lv_iload_n hx hb dX8_meanOf_166 rfl (lv_at hl 12 rfl) ?_
                refine ro_i (D := D) (va_runV (As := [.int (nI sn), .int (nI q_3), .int (nI qi_11), .int (nI wh)]) (rest := []) ⟨hx, hb, hml, hown, hts⟩ ((n_byTaking l D k st lo a tx t0 we rd ru rw ca fp wd nu na ts df db sd dn se tm gs fprices sn qi_11 (nI q_3) (nI wh) (by first | assumption | omega) (by first | assumption | omega)) H.size) (cwV 4 hts (gV tw_1342 tw_1344 tw_62 tw_87 tw_1345) rfl rfl rfl (by decide +kernel) ⟨Nat.le_of_ble_eq_true rfl, Nat.le_of_ble_eq_true rfl⟩) (pV hS hAlo hlo hP hK (va_Dlo hD hAlo) hZ [0, 1, 2, 4] (by decide) rfl (ci := 8) (q := (RX8, TX8, 44)) (q0 := 0) rfl rfl) rfl rfl hl.1 rfl (lv_room (Nat.le_of_ble_eq_true rfl)) dX8_meanOf_167 ⟨Nat.le_of_ble_eq_true rfl, Nat.le_of_ble_eq_true rfl⟩) hS hA hP (fun r_18 H locs hw_18 hP hS => ?_)
                try dsimp only at hw_18
                refine lv_goto (tgt := 187) hx hb dX8_meanOf_170 (by decide) ?_
                refine lv_istore (lv' := [(13, .int r_18), (12, .int (nI (k2_12 / 2))), (11, .int (nI k2_12)), (10, .int (nI qi_11)), (9, .int x_7), (8, .int 0), (7, .int (nI q_3)), (6, .int bg_3), (5, .int 0), (4, .int (nI (dn sn))), (0, .ref (a 0)), (1, .int (nI sn)), (2, .int (nI kr)), (3, .int (nI wh))]) hx hb dX8_meanOf_187 hl (by decide) rfl (fun ls hl => ?_)
                refine lv_aload_n hx hb dX8_meanOf_189 rfl (lv_at hl 10 rfl) ?_
                refine va_get (D := D) (ci := 8) (v := .ref (a 30)) (C := RX8) (T := TX8) (N := 44) hx hb hts inX8 hown hK hP 0 rfl rfl 29 (by decide) (hts _ tw_1002) (fun _ h9 => h9) rfl dX8_meanOf_190 ?_
                refine lv_iload hx hb dX8_meanOf_193 (lv_at hl 2 rfl) ?_
                refine lv_aload_n hx hb dX8_meanOf_195 rfl (lv_at hl 10 rfl) ?_
                refine lv_iload_n hx hb dX8_meanOf_196 rfl (lv_at hl 11 rfl) ?_
                refine lv_iload hx hb dX8_meanOf_197 (lv_at hl 3 rfl) ?_
                refine lv_iload hx hb dX8_meanOf_199 (lv_at hl 2 rfl) ?_
                refine lv_iconst (v := 2) hx hb dX8_meanOf_201 (by decide) ?_
                refine lv_irem hx hb dX8_meanOf_202 (by decide) ?_
                refine lv_ti (y := (nI (k2_12 % 2))) (pk_rem (by omega) (by decide) (by decide)) ?_
                refine lv_iconst (v := 1) hx hb dX8_meanOf_203 (by decide) ?_
                refine lv_icmp_ne (tgt := 211) hx hb dX8_meanOf_204 (by decide) (fun c_19 => ?_) (fun c_19 => ?_)
                · have c_19 : ¬ ((k2_12 % 2) = 1) := fun h => c_19 ((nI_eq (a := (k2_12 % 2)) (b := 1) (by omega) (by omega)).mpr h)
                  refine lv_iconst (v := 0) hx hb dX8_meanOf_211 (by decide) ?_
                  refine ro_i (D := D) (va_runV (As := [.int (nI sn), .int (nI qi_11), .int 0]) (rest := [.int (nI k2_12), .ref (a 30)]) ⟨hx, hb, hml, hown, hts⟩ ((n_chanceOf l D k st lo a tx t0 we rd ru rw ca fp wd nu na ts df db sd ffrees se tm gs sn qi_11 0 (by first | assumption | omega) (by first | assumption | omega)) H.size) (cwV 3 hts (gV tw_1210 tw_1212 tw_41 tw_87 tw_1213) rfl rfl rfl (by decide +kernel) ⟨Nat.le_of_ble_eq_true rfl, Nat.le_of_ble_eq_true rfl⟩) (pV hS hAlo hlo hP hK (va_Dlo hD hAlo) hZ [0, 3, 2] (by decide) rfl (ci := 8) (q := (RX8, TX8, 44)) (q0 := 0) rfl rfl) rfl rfl hl.1 rfl (lv_room (Nat.le_of_ble_eq_true rfl)) dX8_meanOf_212 ⟨Nat.le_of_ble_eq_true rfl, Nat.le_of_ble_eq_true rfl⟩) hS hA hP (fun r_20 H locs hw_20 hP hS => ?_)
                  try dsimp only at hw_20
                  refine lv_iload hx hb dX8_meanOf_215 (lv_at hl 0 rfl) ?_
                  refine lv_iload hx hb dX8_meanOf_217 (lv_at hl 8 rfl) ?_
                  refine lv_aload_n hx hb dX8_meanOf_219 rfl (lv_at hl 10 rfl) ?_
                  refine va_get (D := D) (ci := 8) (v := .ref (a 29)) (C := RX8) (T := TX8) (N := 44) hx hb hts inX8 hown hK hP 0 rfl rfl 28 (by decide) (hts _ tw_1001) (fun _ h9 => h9) rfl dX8_meanOf_220 ?_
                  refine lv_iconst (v := 2) hx hb dX8_meanOf_223 (by decide) ?_
                  refine lv_iload hx hb dX8_meanOf_224 (lv_at hl 1 rfl) ?_
                  refine lv_imul hx hb dX8_meanOf_226 ?_
                  refine lv_ti (y := (nI (2 * (k2_12 / 2)))) (pk_mul 2 (k2_12 / 2)) ?_
                  refine va_iald hx hb hK hP 9 1 rfl rfl (vp_in_nI (by omega) (by decide)) dX8_meanOf_227 ?_
                  refine lv_ti (y := (ff3_11 (2 * (k2_12 / 2)))) (by rw [nI_clamp (by omega)]) ?_
                  refine lv_iadd hx hb dX8_meanOf_228 ?_
                  refine lv_topi (fun x_21 ex_21 => ?_)
                  refine ro_i (D := D) (va_runS (As := [.int r_20, .int r_18, .int x_21]) (rest := [.int (nI k2_12), .ref (a 30)]) ⟨hx, hb, hml, hown, hts⟩ ((n_mixed l D k st lo r_20 r_18 x_21) H.size) (va_cwS 3 hts (gS tw_1269 tw_1270 tw_87 tw_1271) rfl rfl rfl (by decide +kernel) ⟨Nat.le_of_ble_eq_true rfl, Nat.le_of_ble_eq_true rfl⟩) (pS hS hAlo hlo hP hK (va_Dlo hD hAlo) hZ [] (by decide) rfl) rfl rfl hl.1 rfl (lv_room (Nat.le_of_ble_eq_true rfl)) dX8_meanOf_229 ⟨Nat.le_of_ble_eq_true rfl, Nat.le_of_ble_eq_true rfl⟩) hS hA hP (fun r_22 H locs hw_22 hP hS => ?_)
                  try dsimp only at hw_22
                  refine va_iast hx hb hK hP hD hS 10 1 rfl rfl (vp_in_nI (by omega) (by decide)) dX8_meanOf_232 (fun H locs hP hD hS => ?_)
                  have hQ9 := pd_mk [((a 0), .inr (8, (fX8 a (nI tx) fp (nI t0) wd (nI we) nu na (nI rd) ts (nI ru) (nI rw) (nI ca) df db sd))), (aI k (a 1) 3 (nF dn)), (aI k (a 4) 27 (sg se tm gs)), (aI k (a 2) 72 ffrees), (aI k (a 3) 72 fprices), (aI k (a 25) 4 (nF bm)), (aI k (a 26) 48 fbarSeen), (aI k (a 27) 48 fbarFrom), (aI k (a 28) 4 fruleRounds), (aI k (a 29) 52 ff3_11), (aI k (a 30) 52 (upd fb4_12 (Int32.toNatClampNeg (nI k2_12)) r_22))] hP hD
                  clear hP hD
                  obtain ⟨hP, hD⟩ := hQ9
                  rw [nI_clamp (n := k2_12) (by omega)] at hP hD
                  have hQ9 := pd_mk [((a 0), .inr (8, (fX8 a (nI tx) fp (nI t0) wd (nI we) nu na (nI rd) ts (nI ru) (nI rw) (nI ca) df db sd))), (aI k (a 1) 3 (nF dn)), (aI k (a 4) 27 (sg se tm gs)), (aI k (a 2) 72 ffrees), (aI k (a 3) 72 fprices), (aI k (a 25) 4 (nF bm)), (aI k (a 26) 48 fbarSeen), (aI k (a 27) 48 fbarFrom), (aI k (a 28) 4 fruleRounds), (aI k (a 29) 52 ff3_11), (aI k (a 30) 52 (upd fb4_12 k2_12 r_22))] hP hD
                  clear hP hD
                  obtain ⟨hP, hD⟩ := hQ9
                  refine lv_iinc (v := (nI (k2_12 + 1))) (lv' := [(11, .int (nI (k2_12 + 1))), (13, .int r_18), (12, .int (nI (k2_12 / 2))), (10, .int (nI qi_11)), (9, .int x_7), (8, .int 0), (7, .int (nI q_3)), (6, .int bg_3), (5, .int 0), (4, .int (nI (dn sn))), (0, .ref (a 0)), (1, .int (nI sn)), (2, .int (nI kr)), (3, .int (nI wh))]) hx hb dX8_meanOf_233 hl (k := 2) rfl (nI_add k2_12 1) (by decide) rfl (fun ls hl => ?_)
                  refine lv_goto (tgt := 135) hx hb dX8_meanOf_236 (by decide) ?_
                  have hx_12 : (k2_12 / 2) + (dn sn - qi_11) ≤ 25 → r_22 = mV (sdM dn (sg se tm gs) ffrees fprices sn) (ruM bm fbarSeen fbarFrom fruleRounds kr) wh q_3 x_7 (dn sn - qi_11) (k2_12 / 2) (k2_12 % 2) := fun hk => mv_v (d := (sdM dn (sg se tm gs) ffrees fprices sn)) (u := (ruM bm fbarSeen fbarFrom fruleRounds kr)) (wh := wh) (r := q_3) (E := x_7) (p := (k2_12 / 2)) (a := k2_12 % 2) (show qi_11 < dn sn by omega) (show _ = pChance (sdM dn (sg se tm gs) ffrees fprices sn) qi_11 (nI (k2_12 % 2)) from by rw [show k2_12 % 2 = 0 by omega]; exact hw_20.trans (mChance (fpr := fprices) (show qi_11 < dn sn by omega))) (by rw [if_pos hw_17]; exact hw_18.trans (mByT hg9 (by omega) (by omega) (by omega) (by omega))) (by rw [← hps_2, ex_21]; exact congrArg (fun z => 0 + z) (by have h9 := hv_11.2 (2 * (k2_12 / 2)) (by omega) (by omega); rw [show (2 * (k2_12 / 2)) / 2 = (k2_12 / 2) by omega, show (2 * (k2_12 / 2)) % 2 = 0 by omega] at h9; exact h9)) hw_22
                  exact ih_12 _ (k2_12 + 1, (upd fb4_12 k2_12 r_22)) _ _ _ (by omega) ⟨rfl, ⟨by omega, la_updc (F := fun k => mV (sdM dn (sg se tm gs) ffrees fprices sn) (ruM bm fbarSeen fbarFrom fruleRounds kr) wh q_3 x_7 (dn sn - qi_11) (k / 2) (k % 2)) (P := fun k => k / 2 + (dn sn - qi_11) ≤ 25) hv_12.2 hx_12⟩, hP, hD, hS, (lv_sub hl [0, 3, 4, 5, 6, 7, 8, 9, 10, 11, 12, 13] rfl)⟩
                · have c_19 := (nI_eq (a := (k2_12 % 2)) (b := 1) (by omega) (by omega)).mp c_19
                  refine lv_iconst (v := 1) hx hb dX8_meanOf_207 (by decide) ?_
                  refine lv_goto (tgt := 212) hx hb dX8_meanOf_208 (by decide) ?_
                  refine ro_i (D := D) (va_runV (As := [.int (nI sn), .int (nI qi_11), .int 1]) (rest := [.int (nI k2_12), .ref (a 30)]) ⟨hx, hb, hml, hown, hts⟩ ((n_chanceOf l D k st lo a tx t0 we rd ru rw ca fp wd nu na ts df db sd ffrees se tm gs sn qi_11 1 (by first | assumption | omega) (by first | assumption | omega)) H.size) (cwV 3 hts (gV tw_1210 tw_1212 tw_41 tw_87 tw_1213) rfl rfl rfl (by decide +kernel) ⟨Nat.le_of_ble_eq_true rfl, Nat.le_of_ble_eq_true rfl⟩) (pV hS hAlo hlo hP hK (va_Dlo hD hAlo) hZ [0, 3, 2] (by decide) rfl (ci := 8) (q := (RX8, TX8, 44)) (q0 := 0) rfl rfl) rfl rfl hl.1 rfl (lv_room (Nat.le_of_ble_eq_true rfl)) dX8_meanOf_212 ⟨Nat.le_of_ble_eq_true rfl, Nat.le_of_ble_eq_true rfl⟩) hS hA hP (fun r_24 H locs hw_24 hP hS => ?_)
                  try dsimp only at hw_24
                  refine lv_iload hx hb dX8_meanOf_215 (lv_at hl 0 rfl) ?_
                  refine lv_iload hx hb dX8_meanOf_217 (lv_at hl 8 rfl) ?_
                  refine lv_aload_n hx hb dX8_meanOf_219 rfl (lv_at hl 10 rfl) ?_
                  refine va_get (D := D) (ci := 8) (v := .ref (a 29)) (C := RX8) (T := TX8) (N := 44) hx hb hts inX8 hown hK hP 0 rfl rfl 28 (by decide) (hts _ tw_1001) (fun _ h9 => h9) rfl dX8_meanOf_220 ?_
                  refine lv_iconst (v := 2) hx hb dX8_meanOf_223 (by decide) ?_
                  refine lv_iload hx hb dX8_meanOf_224 (lv_at hl 1 rfl) ?_
                  refine lv_imul hx hb dX8_meanOf_226 ?_
                  refine lv_ti (y := (nI (2 * (k2_12 / 2)))) (pk_mul 2 (k2_12 / 2)) ?_
                  refine va_iald hx hb hK hP 9 1 rfl rfl (vp_in_nI (by omega) (by decide)) dX8_meanOf_227 ?_
                  refine lv_ti (y := (ff3_11 (2 * (k2_12 / 2)))) (by rw [nI_clamp (by omega)]) ?_
                  refine lv_iadd hx hb dX8_meanOf_228 ?_
                  refine lv_topi (fun x_25 ex_25 => ?_)
                  refine ro_i (D := D) (va_runS (As := [.int r_24, .int r_18, .int x_25]) (rest := [.int (nI k2_12), .ref (a 30)]) ⟨hx, hb, hml, hown, hts⟩ ((n_mixed l D k st lo r_24 r_18 x_25) H.size) (va_cwS 3 hts (gS tw_1269 tw_1270 tw_87 tw_1271) rfl rfl rfl (by decide +kernel) ⟨Nat.le_of_ble_eq_true rfl, Nat.le_of_ble_eq_true rfl⟩) (pS hS hAlo hlo hP hK (va_Dlo hD hAlo) hZ [] (by decide) rfl) rfl rfl hl.1 rfl (lv_room (Nat.le_of_ble_eq_true rfl)) dX8_meanOf_229 ⟨Nat.le_of_ble_eq_true rfl, Nat.le_of_ble_eq_true rfl⟩) hS hA hP (fun r_26 H locs hw_26 hP hS => ?_)
                  try dsimp only at hw_26
                  refine va_iast hx hb hK hP hD hS 10 1 rfl rfl (vp_in_nI (by omega) (by decide)) dX8_meanOf_232 (fun H locs hP hD hS => ?_)
                  have hQ9 := pd_mk [((a 0), .inr (8, (fX8 a (nI tx) fp (nI t0) wd (nI we) nu na (nI rd) ts (nI ru) (nI rw) (nI ca) df db sd))), (aI k (a 1) 3 (nF dn)), (aI k (a 4) 27 (sg se tm gs)), (aI k (a 2) 72 ffrees), (aI k (a 3) 72 fprices), (aI k (a 25) 4 (nF bm)), (aI k (a 26) 48 fbarSeen), (aI k (a 27) 48 fbarFrom), (aI k (a 28) 4 fruleRounds), (aI k (a 29) 52 ff3_11), (aI k (a 30) 52 (upd fb4_12 (Int32.toNatClampNeg (nI k2_12)) r_26))] hP hD
                  clear hP hD
                  obtain ⟨hP, hD⟩ := hQ9
                  rw [nI_clamp (n := k2_12) (by omega)] at hP hD
                  have hQ9 := pd_mk [((a 0), .inr (8, (fX8 a (nI tx) fp (nI t0) wd (nI we) nu na (nI rd) ts (nI ru) (nI rw) (nI ca) df db sd))), (aI k (a 1) 3 (nF dn)), (aI k (a 4) 27 (sg se tm gs)), (aI k (a 2) 72 ffrees), (aI k (a 3) 72 fprices), (aI k (a 25) 4 (nF bm)), (aI k (a 26) 48 fbarSeen), (aI k (a 27) 48 fbarFrom), (aI k (a 28) 4 fruleRounds), (aI k (a 29) 52 ff3_11), (aI k (a 30) 52 (upd fb4_12 k2_12 r_26))] hP hD
                  clear hP hD
                  obtain ⟨hP, hD⟩ := hQ9
                  refine lv_iinc (v := (nI (k2_12 + 1))) (lv' := [(11, .int (nI (k2_12 + 1))), (13, .int r_18), (12, .int (nI (k2_12 / 2))), (10, .int (nI qi_11)), (9, .int x_7), (8, .int 0), (7, .int (nI q_3)), (6, .int bg_3), (5, .int 0), (4, .int (nI (dn sn))), (0, .ref (a 0)), (1, .int (nI sn)), (2, .int (nI kr)), (3, .int (nI wh))]) hx hb dX8_meanOf_233 hl (k := 2) rfl (nI_add k2_12 1) (by decide) rfl (fun ls hl => ?_)
                  refine lv_goto (tgt := 135) hx hb dX8_meanOf_236 (by decide) ?_
                  have hx_12 : (k2_12 / 2) + (dn sn - qi_11) ≤ 25 → r_26 = mV (sdM dn (sg se tm gs) ffrees fprices sn) (ruM bm fbarSeen fbarFrom fruleRounds kr) wh q_3 x_7 (dn sn - qi_11) (k2_12 / 2) (k2_12 % 2) := fun hk => mv_v (d := (sdM dn (sg se tm gs) ffrees fprices sn)) (u := (ruM bm fbarSeen fbarFrom fruleRounds kr)) (wh := wh) (r := q_3) (E := x_7) (p := (k2_12 / 2)) (a := k2_12 % 2) (show qi_11 < dn sn by omega) (show _ = pChance (sdM dn (sg se tm gs) ffrees fprices sn) qi_11 (nI (k2_12 % 2)) from by rw [show k2_12 % 2 = 1 by omega]; exact hw_24.trans (mChance (fpr := fprices) (show qi_11 < dn sn by omega))) (by rw [if_pos hw_17]; exact hw_18.trans (mByT hg9 (by omega) (by omega) (by omega) (by omega))) (by rw [← hps_2, ex_25]; exact congrArg (fun z => 0 + z) (by have h9 := hv_11.2 (2 * (k2_12 / 2)) (by omega) (by omega); rw [show (2 * (k2_12 / 2)) / 2 = (k2_12 / 2) by omega, show (2 * (k2_12 / 2)) % 2 = 0 by omega] at h9; exact h9)) hw_26
                  exact ih_12 _ (k2_12 + 1, (upd fb4_12 k2_12 r_26)) _ _ _ (by omega) ⟨rfl, ⟨by omega, la_updc (F := fun k => mV (sdM dn (sg se tm gs) ffrees fprices sn) (ruM bm fbarSeen fbarFrom fruleRounds kr) wh q_3 x_7 (dn sn - qi_11) (k / 2) (k % 2)) (P := fun k => k / 2 + (dn sn - qi_11) ≤ 25) hv_12.2 hx_12⟩, hP, hD, hS, (lv_sub hl [0, 3, 4, 5, 6, 7, 8, 9, 10, 11, 12, 13] rfl)⟩
              · refine lv_if_eq (tgt := 173) hx hb dX8_meanOf_157 (by decide) (fun _ => ?_) (fun h => absurd (by decide) h)
                refine lv_iload hx hb dX8_meanOf_173 (lv_at hl 7 rfl) ?_
                refine lv_aload_n hx hb dX8_meanOf_175 rfl (lv_at hl 9 rfl) ?_
                refine va_get (D := D) (ci := 8) (v := .ref (a 29)) (C := RX8) (T := TX8) (N := 44) hx hb hts inX8 hown hK hP 0 rfl rfl 28 (by decide) (hts _ tw_1001) (fun _ h9 => h9) rfl dX8_meanOf_176 ?_
                refine lv_iconst (v := 2) hx hb dX8_meanOf_179 (by decide) ?_
                refine lv_iload hx hb dX8_meanOf_180 (lv_at hl 0 rfl) ?_
                refine lv_imul hx hb dX8_meanOf_182 ?_
                refine lv_ti (y := (nI (2 * (k2_12 / 2)))) (pk_mul 2 (k2_12 / 2)) ?_
                refine lv_iconst (v := 3) hx hb dX8_meanOf_183 (by decide) ?_
                refine lv_iadd hx hb dX8_meanOf_184 ?_
                refine lv_ti (y := (nI (2 * (k2_12 / 2) + 3))) (nI_add (2 * (k2_12 / 2)) 3) ?_
                refine va_iald hx hb hK hP 9 1 rfl rfl (vp_in_nI (by omega) (by decide)) dX8_meanOf_185 ?_
                refine lv_ti (y := (ff3_11 (2 * (k2_12 / 2) + 3))) (by rw [nI_clamp (by omega)]) ?_
                refine lv_iadd hx hb dX8_meanOf_186 ?_
                refine lv_topi (fun x_28 ex_28 => ?_)
                refine lv_istore (lv' := [(13, .int x_28), (12, .int (nI (k2_12 / 2))), (11, .int (nI k2_12)), (10, .int (nI qi_11)), (9, .int x_7), (8, .int 0), (7, .int (nI q_3)), (6, .int bg_3), (5, .int 0), (4, .int (nI (dn sn))), (0, .ref (a 0)), (1, .int (nI sn)), (2, .int (nI kr)), (3, .int (nI wh))]) hx hb dX8_meanOf_187 hl (by decide) rfl (fun ls hl => ?_)
                refine lv_aload_n hx hb dX8_meanOf_189 rfl (lv_at hl 10 rfl) ?_
                refine va_get (D := D) (ci := 8) (v := .ref (a 30)) (C := RX8) (T := TX8) (N := 44) hx hb hts inX8 hown hK hP 0 rfl rfl 29 (by decide) (hts _ tw_1002) (fun _ h9 => h9) rfl dX8_meanOf_190 ?_
                refine lv_iload hx hb dX8_meanOf_193 (lv_at hl 2 rfl) ?_
                refine lv_aload_n hx hb dX8_meanOf_195 rfl (lv_at hl 10 rfl) ?_
                refine lv_iload_n hx hb dX8_meanOf_196 rfl (lv_at hl 11 rfl) ?_
                refine lv_iload hx hb dX8_meanOf_197 (lv_at hl 3 rfl) ?_
                refine lv_iload hx hb dX8_meanOf_199 (lv_at hl 2 rfl) ?_
                refine lv_iconst (v := 2) hx hb dX8_meanOf_201 (by decide) ?_
                refine lv_irem hx hb dX8_meanOf_202 (by decide) ?_
                refine lv_ti (y := (nI (k2_12 % 2))) (pk_rem (by omega) (by decide) (by decide)) ?_
                refine lv_iconst (v := 1) hx hb dX8_meanOf_203 (by decide) ?_
                refine lv_icmp_ne (tgt := 211) hx hb dX8_meanOf_204 (by decide) (fun c_29 => ?_) (fun c_29 => ?_)
                · have c_29 : ¬ ((k2_12 % 2) = 1) := fun h => c_29 ((nI_eq (a := (k2_12 % 2)) (b := 1) (by omega) (by omega)).mpr h)
                  refine lv_iconst (v := 0) hx hb dX8_meanOf_211 (by decide) ?_
                  refine ro_i (D := D) (va_runV (As := [.int (nI sn), .int (nI qi_11), .int 0]) (rest := [.int (nI k2_12), .ref (a 30)]) ⟨hx, hb, hml, hown, hts⟩ ((n_chanceOf l D k st lo a tx t0 we rd ru rw ca fp wd nu na ts df db sd ffrees se tm gs sn qi_11 0 (by first | assumption | omega) (by first | assumption | omega)) H.size) (cwV 3 hts (gV tw_1210 tw_1212 tw_41 tw_87 tw_1213) rfl rfl rfl (by decide +kernel) ⟨Nat.le_of_ble_eq_true rfl, Nat.le_of_ble_eq_true rfl⟩) (pV hS hAlo hlo hP hK (va_Dlo hD hAlo) hZ [0, 3, 2] (by decide) rfl (ci := 8) (q := (RX8, TX8, 44)) (q0 := 0) rfl rfl) rfl rfl hl.1 rfl (lv_room (Nat.le_of_ble_eq_true rfl)) dX8_meanOf_212 ⟨Nat.le_of_ble_eq_true rfl, Nat.le_of_ble_eq_true rfl⟩) hS hA hP (fun r_30 H locs hw_30 hP hS => ?_)
                  try dsimp only at hw_30
                  refine lv_iload hx hb dX8_meanOf_215 (lv_at hl 0 rfl) ?_
                  refine lv_iload hx hb dX8_meanOf_217 (lv_at hl 8 rfl) ?_
                  refine lv_aload_n hx hb dX8_meanOf_219 rfl (lv_at hl 10 rfl) ?_
                  refine va_get (D := D) (ci := 8) (v := .ref (a 29)) (C := RX8) (T := TX8) (N := 44) hx hb hts inX8 hown hK hP 0 rfl rfl 28 (by decide) (hts _ tw_1001) (fun _ h9 => h9) rfl dX8_meanOf_220 ?_
                  refine lv_iconst (v := 2) hx hb dX8_meanOf_223 (by decide) ?_
                  refine lv_iload hx hb dX8_meanOf_224 (lv_at hl 1 rfl) ?_
                  refine lv_imul hx hb dX8_meanOf_226 ?_
                  refine lv_ti (y := (nI (2 * (k2_12 / 2)))) (pk_mul 2 (k2_12 / 2)) ?_
                  refine va_iald hx hb hK hP 9 1 rfl rfl (vp_in_nI (by omega) (by decide)) dX8_meanOf_227 ?_
                  refine lv_ti (y := (ff3_11 (2 * (k2_12 / 2)))) (by rw [nI_clamp (by omega)]) ?_
                  refine lv_iadd hx hb dX8_meanOf_228 ?_
                  refine lv_topi (fun x_31 ex_31 => ?_)
                  refine ro_i (D := D) (va_runS (As := [.int r_30, .int x_28, .int x_31]) (rest := [.int (nI k2_12), .ref (a 30)]) ⟨hx, hb, hml, hown, hts⟩ ((n_mixed l D k st lo r_30 x_28 x_31) H.size) (va_cwS 3 hts (gS tw_1269 tw_1270 tw_87 tw_1271) rfl rfl rfl (by decide +kernel) ⟨Nat.le_of_ble_eq_true rfl, Nat.le_of_ble_eq_true rfl⟩) (pS hS hAlo hlo hP hK (va_Dlo hD hAlo) hZ [] (by decide) rfl) rfl rfl hl.1 rfl (lv_room (Nat.le_of_ble_eq_true rfl)) dX8_meanOf_229 ⟨Nat.le_of_ble_eq_true rfl, Nat.le_of_ble_eq_true rfl⟩) hS hA hP (fun r_32 H locs hw_32 hP hS => ?_)
                  try dsimp only at hw_32
                  refine va_iast hx hb hK hP hD hS 10 1 rfl rfl (vp_in_nI (by omega) (by decide)) dX8_meanOf_232 (fun H locs hP hD hS => ?_)
                  have hQ9 := pd_mk [((a 0), .inr (8, (fX8 a (nI tx) fp (nI t0) wd (nI we) nu na (nI rd) ts (nI ru) (nI rw) (nI ca) df db sd))), (aI k (a 1) 3 (nF dn)), (aI k (a 4) 27 (sg se tm gs)), (aI k (a 2) 72 ffrees), (aI k (a 3) 72 fprices), (aI k (a 25) 4 (nF bm)), (aI k (a 26) 48 fbarSeen), (aI k (a 27) 48 fbarFrom), (aI k (a 28) 4 fruleRounds), (aI k (a 29) 52 ff3_11), (aI k (a 30) 52 (upd fb4_12 (Int32.toNatClampNeg (nI k2_12)) r_32))] hP hD
                  clear hP hD
                  obtain ⟨hP, hD⟩ := hQ9
                  rw [nI_clamp (n := k2_12) (by omega)] at hP hD
                  have hQ9 := pd_mk [((a 0), .inr (8, (fX8 a (nI tx) fp (nI t0) wd (nI we) nu na (nI rd) ts (nI ru) (nI rw) (nI ca) df db sd))), (aI k (a 1) 3 (nF dn)), (aI k (a 4) 27 (sg se tm gs)), (aI k (a 2) 72 ffrees), (aI k (a 3) 72 fprices), (aI k (a 25) 4 (nF bm)), (aI k (a 26) 48 fbarSeen), (aI k (a 27) 48 fbarFrom), (aI k (a 28) 4 fruleRounds), (aI k (a 29) 52 ff3_11), (aI k (a 30) 52 (upd fb4_12 k2_12 r_32))] hP hD
                  clear hP hD
                  obtain ⟨hP, hD⟩ := hQ9
                  refine lv_iinc (v := (nI (k2_12 + 1))) (lv' := [(11, .int (nI (k2_12 + 1))), (13, .int x_28), (12, .int (nI (k2_12 / 2))), (10, .int (nI qi_11)), (9, .int x_7), (8, .int 0), (7, .int (nI q_3)), (6, .int bg_3), (5, .int 0), (4, .int (nI (dn sn))), (0, .ref (a 0)), (1, .int (nI sn)), (2, .int (nI kr)), (3, .int (nI wh))]) hx hb dX8_meanOf_233 hl (k := 2) rfl (nI_add k2_12 1) (by decide) rfl (fun ls hl => ?_)
                  refine lv_goto (tgt := 135) hx hb dX8_meanOf_236 (by decide) ?_
                  have hx_12 : (k2_12 / 2) + (dn sn - qi_11) ≤ 25 → r_32 = mV (sdM dn (sg se tm gs) ffrees fprices sn) (ruM bm fbarSeen fbarFrom fruleRounds kr) wh q_3 x_7 (dn sn - qi_11) (k2_12 / 2) (k2_12 % 2) := fun hk => mv_v (d := (sdM dn (sg se tm gs) ffrees fprices sn)) (u := (ruM bm fbarSeen fbarFrom fruleRounds kr)) (wh := wh) (r := q_3) (E := x_7) (p := (k2_12 / 2)) (a := k2_12 % 2) (show qi_11 < dn sn by omega) (show _ = pChance (sdM dn (sg se tm gs) ffrees fprices sn) qi_11 (nI (k2_12 % 2)) from by rw [show k2_12 % 2 = 0 by omega]; exact hw_30.trans (mChance (fpr := fprices) (show qi_11 < dn sn by omega))) (by rw [if_neg hw_17, ← hps_2, ex_28]; exact congrArg (fun z => 0 + z) (by have h9 := hv_11.2 (2 * (k2_12 / 2) + 3) (by omega) (by omega); rw [show (2 * (k2_12 / 2) + 3) / 2 = (k2_12 / 2) + 1 by omega, show (2 * (k2_12 / 2) + 3) % 2 = 1 by omega] at h9; exact h9)) (by rw [← hps_2, ex_31]; exact congrArg (fun z => 0 + z) (by have h9 := hv_11.2 (2 * (k2_12 / 2)) (by omega) (by omega); rw [show (2 * (k2_12 / 2)) / 2 = (k2_12 / 2) by omega, show (2 * (k2_12 / 2)) % 2 = 0 by omega] at h9; exact h9)) hw_32
                  exact ih_12 _ (k2_12 + 1, (upd fb4_12 k2_12 r_32)) _ _ _ (by omega) ⟨rfl, ⟨by omega, la_updc (F := fun k => mV (sdM dn (sg se tm gs) ffrees fprices sn) (ruM bm fbarSeen fbarFrom fruleRounds kr) wh q_3 x_7 (dn sn - qi_11) (k / 2) (k % 2)) (P := fun k => k / 2 + (dn sn - qi_11) ≤ 25) hv_12.2 hx_12⟩, hP, hD, hS, (lv_sub hl [0, 3, 4, 5, 6, 7, 8, 9, 10, 11, 12, 13] rfl)⟩
                · have c_29 := (nI_eq (a := (k2_12 % 2)) (b := 1) (by omega) (by omega)).mp c_29
                  refine lv_iconst (v := 1) hx hb dX8_meanOf_207 (by decide) ?_
                  refine lv_goto (tgt := 212) hx hb dX8_meanOf_208 (by decide) ?_
                  refine ro_i (D := D) (va_runV (As := [.int (nI sn), .int (nI qi_11), .int 1]) (rest := [.int (nI k2_12), .ref (a 30)]) ⟨hx, hb, hml, hown, hts⟩ ((n_chanceOf l D k st lo a tx t0 we rd ru rw ca fp wd nu na ts df db sd ffrees se tm gs sn qi_11 1 (by first | assumption | omega) (by first | assumption | omega)) H.size) (cwV 3 hts (gV tw_1210 tw_1212 tw_41 tw_87 tw_1213) rfl rfl rfl (by decide +kernel) ⟨Nat.le_of_ble_eq_true rfl, Nat.le_of_ble_eq_true rfl⟩) (pV hS hAlo hlo hP hK (va_Dlo hD hAlo) hZ [0, 3, 2] (by decide) rfl (ci := 8) (q := (RX8, TX8, 44)) (q0 := 0) rfl rfl) rfl rfl hl.1 rfl (lv_room (Nat.le_of_ble_eq_true rfl)) dX8_meanOf_212 ⟨Nat.le_of_ble_eq_true rfl, Nat.le_of_ble_eq_true rfl⟩) hS hA hP (fun r_34 H locs hw_34 hP hS => ?_)
                  try dsimp only at hw_34
                  refine lv_iload hx hb dX8_meanOf_215 (lv_at hl 0 rfl) ?_
                  refine lv_iload hx hb dX8_meanOf_217 (lv_at hl 8 rfl) ?_
                  refine lv_aload_n hx hb dX8_meanOf_219 rfl (lv_at hl 10 rfl) ?_
                  refine va_get (D := D) (ci := 8) (v := .ref (a 29)) (C := RX8) (T := TX8) (N := 44) hx hb hts inX8 hown hK hP 0 rfl rfl 28 (by decide) (hts _ tw_1001) (fun _ h9 => h9) rfl dX8_meanOf_220 ?_
                  refine lv_iconst (v := 2) hx hb dX8_meanOf_223 (by decide) ?_
                  refine lv_iload hx hb dX8_meanOf_224 (lv_at hl 1 rfl) ?_
                  refine lv_imul hx hb dX8_meanOf_226 ?_
                  refine lv_ti (y := (nI (2 * (k2_12 / 2)))) (pk_mul 2 (k2_12 / 2)) ?_
                  refine va_iald hx hb hK hP 9 1 rfl rfl (vp_in_nI (by omega) (by decide)) dX8_meanOf_227 ?_
                  refine lv_ti (y := (ff3_11 (2 * (k2_12 / 2)))) (by rw [nI_clamp (by omega)]) ?_
                  refine lv_iadd hx hb dX8_meanOf_228 ?_
                  refine lv_topi (fun x_35 ex_35 => ?_)
                  refine ro_i (D := D) (va_runS (As := [.int r_34, .int x_28, .int x_35]) (rest := [.int (nI k2_12), .ref (a 30)]) ⟨hx, hb, hml, hown, hts⟩ ((n_mixed l D k st lo r_34 x_28 x_35) H.size) (va_cwS 3 hts (gS tw_1269 tw_1270 tw_87 tw_1271) rfl rfl rfl (by decide +kernel) ⟨Nat.le_of_ble_eq_true rfl, Nat.le_of_ble_eq_true rfl⟩) (pS hS hAlo hlo hP hK (va_Dlo hD hAlo) hZ [] (by decide) rfl) rfl rfl hl.1 rfl (lv_room (Nat.le_of_ble_eq_true rfl)) dX8_meanOf_229 ⟨Nat.le_of_ble_eq_true rfl, Nat.le_of_ble_eq_true rfl⟩) hS hA hP (fun r_36 H locs hw_36 hP hS => ?_)
                  try dsimp only at hw_36
                  refine va_iast hx hb hK hP hD hS 10 1 rfl rfl (vp_in_nI (by omega) (by decide)) dX8_meanOf_232 (fun H locs hP hD hS => ?_)
                  have hQ9 := pd_mk [((a 0), .inr (8, (fX8 a (nI tx) fp (nI t0) wd (nI we) nu na (nI rd) ts (nI ru) (nI rw) (nI ca) df db sd))), (aI k (a 1) 3 (nF dn)), (aI k (a 4) 27 (sg se tm gs)), (aI k (a 2) 72 ffrees), (aI k (a 3) 72 fprices), (aI k (a 25) 4 (nF bm)), (aI k (a 26) 48 fbarSeen), (aI k (a 27) 48 fbarFrom), (aI k (a 28) 4 fruleRounds), (aI k (a 29) 52 ff3_11), (aI k (a 30) 52 (upd fb4_12 (Int32.toNatClampNeg (nI k2_12)) r_36))] hP hD
                  clear hP hD
                  obtain ⟨hP, hD⟩ := hQ9
                  rw [nI_clamp (n := k2_12) (by omega)] at hP hD
                  have hQ9 := pd_mk [((a 0), .inr (8, (fX8 a (nI tx) fp (nI t0) wd (nI we) nu na (nI rd) ts (nI ru) (nI rw) (nI ca) df db sd))), (aI k (a 1) 3 (nF dn)), (aI k (a 4) 27 (sg se tm gs)), (aI k (a 2) 72 ffrees), (aI k (a 3) 72 fprices), (aI k (a 25) 4 (nF bm)), (aI k (a 26) 48 fbarSeen), (aI k (a 27) 48 fbarFrom), (aI k (a 28) 4 fruleRounds), (aI k (a 29) 52 ff3_11), (aI k (a 30) 52 (upd fb4_12 k2_12 r_36))] hP hD
                  clear hP hD
                  obtain ⟨hP, hD⟩ := hQ9
                  refine lv_iinc (v := (nI (k2_12 + 1))) (lv' := [(11, .int (nI (k2_12 + 1))), (13, .int x_28), (12, .int (nI (k2_12 / 2))), (10, .int (nI qi_11)), (9, .int x_7), (8, .int 0), (7, .int (nI q_3)), (6, .int bg_3), (5, .int 0), (4, .int (nI (dn sn))), (0, .ref (a 0)), (1, .int (nI sn)), (2, .int (nI kr)), (3, .int (nI wh))]) hx hb dX8_meanOf_233 hl (k := 2) rfl (nI_add k2_12 1) (by decide) rfl (fun ls hl => ?_)
                  refine lv_goto (tgt := 135) hx hb dX8_meanOf_236 (by decide) ?_
                  have hx_12 : (k2_12 / 2) + (dn sn - qi_11) ≤ 25 → r_36 = mV (sdM dn (sg se tm gs) ffrees fprices sn) (ruM bm fbarSeen fbarFrom fruleRounds kr) wh q_3 x_7 (dn sn - qi_11) (k2_12 / 2) (k2_12 % 2) := fun hk => mv_v (d := (sdM dn (sg se tm gs) ffrees fprices sn)) (u := (ruM bm fbarSeen fbarFrom fruleRounds kr)) (wh := wh) (r := q_3) (E := x_7) (p := (k2_12 / 2)) (a := k2_12 % 2) (show qi_11 < dn sn by omega) (show _ = pChance (sdM dn (sg se tm gs) ffrees fprices sn) qi_11 (nI (k2_12 % 2)) from by rw [show k2_12 % 2 = 1 by omega]; exact hw_34.trans (mChance (fpr := fprices) (show qi_11 < dn sn by omega))) (by rw [if_neg hw_17, ← hps_2, ex_28]; exact congrArg (fun z => 0 + z) (by have h9 := hv_11.2 (2 * (k2_12 / 2) + 3) (by omega) (by omega); rw [show (2 * (k2_12 / 2) + 3) / 2 = (k2_12 / 2) + 1 by omega, show (2 * (k2_12 / 2) + 3) % 2 = 1 by omega] at h9; exact h9)) (by rw [← hps_2, ex_35]; exact congrArg (fun z => 0 + z) (by have h9 := hv_11.2 (2 * (k2_12 / 2)) (by omega) (by omega); rw [show (2 * (k2_12 / 2)) / 2 = (k2_12 / 2) by omega, show (2 * (k2_12 / 2)) % 2 = 0 by omega] at h9; exact h9)) hw_36
                  exact ih_12 _ (k2_12 + 1, (upd fb4_12 k2_12 r_36)) _ _ _ (by omega) ⟨rfl, ⟨by omega, la_updc (F := fun k => mV (sdM dn (sg se tm gs) ffrees fprices sn) (ruM bm fbarSeen fbarFrom fruleRounds kr) wh q_3 x_7 (dn sn - qi_11) (k / 2) (k % 2)) (P := fun k => k / 2 + (dn sn - qi_11) ≤ 25) hv_12.2 hx_12⟩, hP, hD, hS, (lv_sub hl [0, 3, 4, 5, 6, 7, 8, 9, 10, 11, 12, 13] rfl)⟩
        · have c_10 : ¬ (52 ≤ kk_9) := fun h => c_10 ((nI_leI (a := 52) (b := kk_9) (by omega) (by omega)).mpr h)
          refine lv_aload_n hx hb dX8_meanOf_106 rfl (lv_at hl 7 rfl) ?_
          refine va_get (D := D) (ci := 8) (v := .ref (a 29)) (C := RX8) (T := TX8) (N := 44) hx hb hts inX8 hown hK hP 0 rfl rfl 28 (by decide) (hts _ tw_1001) (fun _ h9 => h9) rfl dX8_meanOf_107 ?_
          refine lv_iload hx hb dX8_meanOf_110 (lv_at hl 0 rfl) ?_
          refine lv_iload hx hb dX8_meanOf_112 (lv_at hl 1 rfl) ?_
          refine va_iast hx hb hK hP hD hS 9 1 rfl rfl (vp_in_nI (by omega) (by decide)) dX8_meanOf_114 (fun H locs hP hD hS => ?_)
          have hQ9 := pd_mk [((a 0), .inr (8, (fX8 a (nI tx) fp (nI t0) wd (nI we) nu na (nI rd) ts (nI ru) (nI rw) (nI ca) df db sd))), (aI k (a 1) 3 (nF dn)), (aI k (a 4) 27 (sg se tm gs)), (aI k (a 2) 72 ffrees), (aI k (a 3) 72 fprices), (aI k (a 25) 4 (nF bm)), (aI k (a 26) 48 fbarSeen), (aI k (a 27) 48 fbarFrom), (aI k (a 28) 4 fruleRounds), (aI k (a 29) 52 (upd ff2_9 (Int32.toNatClampNeg (nI kk_9)) x_7)), (aI k (a 30) 52 fb_3)] hP hD
          clear hP hD
          obtain ⟨hP, hD⟩ := hQ9
          rw [nI_clamp (n := kk_9) (by omega)] at hP hD
          have hQ9 := pd_mk [((a 0), .inr (8, (fX8 a (nI tx) fp (nI t0) wd (nI we) nu na (nI rd) ts (nI ru) (nI rw) (nI ca) df db sd))), (aI k (a 1) 3 (nF dn)), (aI k (a 4) 27 (sg se tm gs)), (aI k (a 2) 72 ffrees), (aI k (a 3) 72 fprices), (aI k (a 25) 4 (nF bm)), (aI k (a 26) 48 fbarSeen), (aI k (a 27) 48 fbarFrom), (aI k (a 28) 4 fruleRounds), (aI k (a 29) 52 (upd ff2_9 kk_9 x_7)), (aI k (a 30) 52 fb_3)] hP hD
          clear hP hD
          obtain ⟨hP, hD⟩ := hQ9
          refine lv_iinc (v := (nI (kk_9 + 1))) (lv' := [(10, .int (nI (kk_9 + 1))), (9, .int x_7), (8, .int 0), (7, .int (nI q_3)), (6, .int bg_3), (5, .int 0), (4, .int (nI (dn sn))), (0, .ref (a 0)), (1, .int (nI sn)), (2, .int (nI kr)), (3, .int (nI wh))]) hx hb dX8_meanOf_115 hl (k := 0) rfl (nI_add kk_9 1) (by decide) rfl (fun ls hl => ?_)
          refine lv_goto (tgt := 99) hx hb dX8_meanOf_118 (by decide) ?_
          exact ih_9 _ (kk_9 + 1, (upd ff2_9 kk_9 x_7)) _ _ _ (by omega) ⟨rfl, ⟨by omega, la_upd (F := fun _ => x_7) hv_9.2 rfl⟩, hP, hD, hS, (lv_sub hl [0, 1, 2, 3, 4, 5, 6, 7, 8, 9, 10] rfl)⟩
      · refine lv_if_eq (tgt := 86) hx hb dX8_meanOf_75 (by decide) (fun _ => ?_) (fun h => absurd (by decide) h)
        refine lv_aload_n hx hb dX8_meanOf_86 rfl (lv_at hl 5 rfl) ?_
        refine lv_iload_n hx hb dX8_meanOf_87 rfl (lv_at hl 6 rfl) ?_
        refine lv_iload hx hb dX8_meanOf_88 (lv_at hl 1 rfl) ?_
        refine lv_iload_n hx hb dX8_meanOf_90 rfl (lv_at hl 8 rfl) ?_
        refine ro_i (D := D) (va_runV (As := [.int (nI sn), .int (nI q_3), .int (nI wh)]) (rest := []) ⟨hx, hb, hml, hown, hts⟩ ((n_byGarage l D k st lo a tx t0 we rd ru rw ca fp wd nu na ts df db sd dn se tm gs sn (nI q_3) (nI wh) (by first | assumption | omega)) H.size) (cwV 3 hts (gV tw_1333 tw_1335 tw_60 tw_87 tw_1336) rfl rfl rfl (by decide +kernel) ⟨Nat.le_of_ble_eq_true rfl, Nat.le_of_ble_eq_true rfl⟩) (pV hS hAlo hlo hP hK (va_Dlo hD hAlo) hZ [0, 1, 2] (by decide) rfl (ci := 8) (q := (RX8, TX8, 44)) (q0 := 0) rfl rfl) rfl rfl hl.1 rfl (lv_room (Nat.le_of_ble_eq_true rfl)) dX8_meanOf_91 ⟨Nat.le_of_ble_eq_true rfl, Nat.le_of_ble_eq_true rfl⟩) hS hA hP (fun r_39 H locs hw_39 hP hS => ?_)
        try dsimp only at hw_39
        have he_40 : r_39 = pGs (sdM dn (sg se tm gs) ffrees fprices sn) wh q_3 := hw_39.trans (mByG hg9 (by omega) (by omega) (by omega))
        refine lv_istore (lv' := [(9, .int r_39), (8, .int 0), (7, .int (nI q_3)), (6, .int bg_3), (5, .int 0), (4, .int (nI (dn sn))), (0, .ref (a 0)), (1, .int (nI sn)), (2, .int (nI kr)), (3, .int (nI wh))]) hx hb dX8_meanOf_94 hl (by decide) rfl (fun ls hl => ?_)
        refine lv_iconst (v := 0) hx hb dX8_meanOf_96 (by decide) ?_
        refine lv_istore (lv' := [(10, .int 0), (9, .int r_39), (8, .int 0), (7, .int (nI q_3)), (6, .int bg_3), (5, .int 0), (4, .int (nI (dn sn))), (0, .ref (a 0)), (1, .int (nI sn)), (2, .int (nI kr)), (3, .int (nI wh))]) hx hb dX8_meanOf_97 hl (by decide) rfl (fun ls hl => ?_)
        refine W_loop (σ := Nat × (Nat → Int32)) (fun (n_ : Nat) (x_ : Nat × (Nat → Int32)) (H : Heap) (locs : List Loc) (ls : Array Slot) => match x_ with | (kk_41, ff2_41) => n_ = 52 - kk_41 ∧ (kk_41 ≤ 52 ∧ ∀ k, k < kk_41 → ff2_41 k = r_39) ∧ va_P D classes [((a 0), .inr (8, (fX8 a (nI tx) fp (nI t0) wd (nI we) nu na (nI rd) ts (nI ru) (nI rw) (nI ca) df db sd))), (aI k (a 1) 3 (nF dn)), (aI k (a 4) 27 (sg se tm gs)), (aI k (a 2) 72 ffrees), (aI k (a 3) 72 fprices), (aI k (a 25) 4 (nF bm)), (aI k (a 26) 48 fbarSeen), (aI k (a 27) 48 fbarFrom), (aI k (a 28) 4 fruleRounds), (aI k (a 29) 52 ff2_41), (aI k (a 30) 52 fb_3)] H ∧ va_D A [((a 0), .inr (8, (fX8 a (nI tx) fp (nI t0) wd (nI we) nu na (nI rd) ts (nI ru) (nI rw) (nI ca) df db sd))), (aI k (a 1) 3 (nF dn)), (aI k (a 4) 27 (sg se tm gs)), (aI k (a 2) 72 ffrees), (aI k (a 3) 72 fprices), (aI k (a 25) 4 (nF bm)), (aI k (a 26) 48 fbarSeen), (aI k (a 27) 48 fbarFrom), (aI k (a 28) 4 fruleRounds), (aI k (a 29) 52 ff2_41), (aI k (a 30) 52 fb_3)] ∧ va_S A s.heap H locs ∧ lv_has ls 14 [(10, .int (nI kk_41)), (9, .int r_39), (8, .int 0), (7, .int (nI q_3)), (6, .int bg_3), (5, .int 0), (4, .int (nI (dn sn))), (0, .ref (a 0)), (1, .int (nI sn)), (2, .int (nI kr)), (3, .int (nI wh))]) (fun n_41 x_41 H locs ls hI ih_41 => ?_) _ (0, ff_3) ⟨rfl, ⟨by omega, fun k h => absurd h (Nat.not_lt_zero k)⟩, hP, hD, hS, (lv_sub hl [0, 1, 2, 3, 4, 5, 6, 7, 8, 9, 10] rfl)⟩
        obtain ⟨kk_41, ff2_41⟩ := x_41
        obtain ⟨hm_41, hv_41, hP, hD, hS, hl⟩ := hI
        subst hm_41
        refine lv_iload hx hb dX8_meanOf_99 (lv_at hl 0 rfl) ?_
        refine lv_bipush (v := 52) hx hb dX8_meanOf_101 (by decide) ?_
        refine lv_icmp_ge (tgt := 121) hx hb dX8_meanOf_103 (by decide) (fun c_42 => ?_) (fun c_42 => ?_)
        · have c_42 := (nI_leI (a := 52) (b := kk_41) (by omega) (by omega)).mp c_42
          refine lv_iload hx hb dX8_meanOf_121 (lv_at hl 6 rfl) ?_
          refine lv_iconst (v := 1) hx hb dX8_meanOf_123 (by decide) ?_
          refine lv_isub hx hb dX8_meanOf_124 ?_
          refine lv_ti (y := (nI (dn sn) - 1)) rfl ?_
          refine lv_istore (lv' := [(10, .int (nI (dn sn) - 1)), (9, .int r_39), (8, .int 0), (7, .int (nI q_3)), (6, .int bg_3), (5, .int 0), (4, .int (nI (dn sn))), (0, .ref (a 0)), (1, .int (nI sn)), (2, .int (nI kr)), (3, .int (nI wh))]) hx hb dX8_meanOf_125 hl (by decide) rfl (fun ls hl => ?_)
          refine W_loop (σ := Nat × (Nat → Int32) × (Nat → Int32)) (fun (n_ : Nat) (x_ : Nat × (Nat → Int32) × (Nat → Int32)) (H : Heap) (locs : List Loc) (ls : Array Slot) => match x_ with | (qi_43, ff3_43, fb3_43) => n_ = 2 * qi_43 ∧ (qi_43 ≤ dn sn ∧ ∀ k, k < 52 → k / 2 + (dn sn - qi_43) ≤ 25 → ff3_43 k = mV (sdM dn (sg se tm gs) ffrees fprices sn) (ruM bm fbarSeen fbarFrom fruleRounds kr) wh q_3 r_39 (dn sn - qi_43) (k / 2) (k % 2)) ∧ va_P D classes [((a 0), .inr (8, (fX8 a (nI tx) fp (nI t0) wd (nI we) nu na (nI rd) ts (nI ru) (nI rw) (nI ca) df db sd))), (aI k (a 1) 3 (nF dn)), (aI k (a 4) 27 (sg se tm gs)), (aI k (a 2) 72 ffrees), (aI k (a 3) 72 fprices), (aI k (a 25) 4 (nF bm)), (aI k (a 26) 48 fbarSeen), (aI k (a 27) 48 fbarFrom), (aI k (a 28) 4 fruleRounds), (aI k (a 29) 52 ff3_43), (aI k (a 30) 52 fb3_43)] H ∧ va_D A [((a 0), .inr (8, (fX8 a (nI tx) fp (nI t0) wd (nI we) nu na (nI rd) ts (nI ru) (nI rw) (nI ca) df db sd))), (aI k (a 1) 3 (nF dn)), (aI k (a 4) 27 (sg se tm gs)), (aI k (a 2) 72 ffrees), (aI k (a 3) 72 fprices), (aI k (a 25) 4 (nF bm)), (aI k (a 26) 48 fbarSeen), (aI k (a 27) 48 fbarFrom), (aI k (a 28) 4 fruleRounds), (aI k (a 29) 52 ff3_43), (aI k (a 30) 52 fb3_43)] ∧ va_S A s.heap H locs ∧ lv_has ls 14 [(10, .int (nI qi_43 - 1)), (9, .int r_39), (8, .int 0), (7, .int (nI q_3)), (6, .int bg_3), (5, .int 0), (4, .int (nI (dn sn))), (0, .ref (a 0)), (1, .int (nI sn)), (2, .int (nI kr)), (3, .int (nI wh))]) (fun n_43 x_43 H locs ls hI ih_43 => ?_) _ (dn sn, ff2_41, fb_3) ⟨rfl, ⟨by omega, fun k hk _ => by rw [Nat.sub_self]; exact hv_41.2 k (by omega)⟩, hP, hD, hS, (lv_sub hl [0, 1, 2, 3, 4, 5, 6, 7, 8, 9, 10] rfl)⟩
          obtain ⟨qi_43, ff3_43, fb3_43⟩ := x_43
          obtain ⟨hm_43, hv_43, hP, hD, hS, hl⟩ := hI
          subst hm_43
          rcases qi_43 with _ | qi_43
          · rw [dn0] at hl
            refine lv_iload hx hb dX8_meanOf_127 (lv_at hl 0 rfl) ?_
            refine lv_if_lt (tgt := 275) hx hb dX8_meanOf_129 (by decide) (fun _ => ?_) (fun h => absurd (by decide) h)
            refine lv_aload_n hx hb dX8_meanOf_275 rfl (lv_at hl 7 rfl) ?_
            refine va_get (D := D) (ci := 8) (v := .ref (a 29)) (C := RX8) (T := TX8) (N := 44) hx hb hts inX8 hown hK hP 0 rfl rfl 28 (by decide) (hts _ tw_1001) (fun _ h9 => h9) rfl dX8_meanOf_276 ?_
            refine lv_iconst (v := 0) hx hb dX8_meanOf_279 (by decide) ?_
            refine va_iald hx hb hK hP 9 1 rfl rfl (by unfold vp_in; decide) dX8_meanOf_280 ?_
            refine lv_ti (y := (ff3_43 0)) (by rfl) ?_
            refine lv_istore (lv' := [(6, .int (ff3_43 0)), (10, .int (-1)), (9, .int r_39), (8, .int 0), (7, .int (nI q_3)), (5, .int 0), (4, .int (nI (dn sn))), (0, .ref (a 0)), (1, .int (nI sn)), (2, .int (nI kr)), (3, .int (nI wh))]) hx hb dX8_meanOf_281 hl (by decide) rfl (fun ls hl => ?_)
            refine lv_iinc (v := (nI q_3 - 1)) (lv' := [(7, .int (nI q_3 - 1)), (6, .int (ff3_43 0)), (10, .int (-1)), (9, .int r_39), (8, .int 0), (5, .int 0), (4, .int (nI (dn sn))), (0, .ref (a 0)), (1, .int (nI sn)), (2, .int (nI kr)), (3, .int (nI wh))]) hx hb dX8_meanOf_283 hl (k := 4) rfl (dn1 _) (by decide) rfl (fun ls hl => ?_)
            refine lv_goto (tgt := 34) hx hb dX8_meanOf_286 (by decide) ?_
            exact ih_3 _ (q_3, (ff3_43 0), ff3_43, fb3_43) _ _ _ (by omega) ⟨rfl, ⟨by omega, fun h => (show ff3_43 0 = mV (sdM dn (sg se tm gs) ffrees fprices sn) (ruM bm fbarSeen fbarFrom fruleRounds kr) wh q_3 r_39 (dn sn) 0 0 from hv_43.2 0 (by omega) (by omega)).trans (mr_of h (fun h => absurd h (by omega)) (fun _ => he_40))⟩, hP, hD, hS, (lv_sub hl [0, 1, 5, 6, 7, 8, 9, 10] rfl)⟩
          · rw [nI_pred] at hl
            refine lv_iload hx hb dX8_meanOf_127 (lv_at hl 0 rfl) ?_
            refine lv_if_lt (tgt := 275) hx hb dX8_meanOf_129 (by decide) (fun h => absurd h (nI_pos0 (by omega))) (fun _ => ?_)
            refine lv_iconst (v := 0) hx hb dX8_meanOf_132 (by decide) ?_
            refine lv_istore (lv' := [(11, .int 0), (10, .int (nI qi_43)), (9, .int r_39), (8, .int 0), (7, .int (nI q_3)), (6, .int bg_3), (5, .int 0), (4, .int (nI (dn sn))), (0, .ref (a 0)), (1, .int (nI sn)), (2, .int (nI kr)), (3, .int (nI wh))]) hx hb dX8_meanOf_133 hl (by decide) rfl (fun ls hl => ?_)
            refine W_loop (σ := Nat × (Nat → Int32)) (fun (n_ : Nat) (x_ : Nat × (Nat → Int32)) (H : Heap) (locs : List Loc) (ls : Array Slot) => match x_ with | (k2_44, fb4_44) => n_ = 50 - k2_44 ∧ (k2_44 ≤ 50 ∧ ∀ k, k < k2_44 → k / 2 + (dn sn - qi_43) ≤ 25 → fb4_44 k = mV (sdM dn (sg se tm gs) ffrees fprices sn) (ruM bm fbarSeen fbarFrom fruleRounds kr) wh q_3 r_39 (dn sn - qi_43) (k / 2) (k % 2)) ∧ va_P D classes [((a 0), .inr (8, (fX8 a (nI tx) fp (nI t0) wd (nI we) nu na (nI rd) ts (nI ru) (nI rw) (nI ca) df db sd))), (aI k (a 1) 3 (nF dn)), (aI k (a 4) 27 (sg se tm gs)), (aI k (a 2) 72 ffrees), (aI k (a 3) 72 fprices), (aI k (a 25) 4 (nF bm)), (aI k (a 26) 48 fbarSeen), (aI k (a 27) 48 fbarFrom), (aI k (a 28) 4 fruleRounds), (aI k (a 29) 52 ff3_43), (aI k (a 30) 52 fb4_44)] H ∧ va_D A [((a 0), .inr (8, (fX8 a (nI tx) fp (nI t0) wd (nI we) nu na (nI rd) ts (nI ru) (nI rw) (nI ca) df db sd))), (aI k (a 1) 3 (nF dn)), (aI k (a 4) 27 (sg se tm gs)), (aI k (a 2) 72 ffrees), (aI k (a 3) 72 fprices), (aI k (a 25) 4 (nF bm)), (aI k (a 26) 48 fbarSeen), (aI k (a 27) 48 fbarFrom), (aI k (a 28) 4 fruleRounds), (aI k (a 29) 52 ff3_43), (aI k (a 30) 52 fb4_44)] ∧ va_S A s.heap H locs ∧ lv_has ls 14 [(11, .int (nI k2_44)), (10, .int (nI qi_43)), (9, .int r_39), (8, .int 0), (7, .int (nI q_3)), (6, .int bg_3), (5, .int 0), (4, .int (nI (dn sn))), (0, .ref (a 0)), (1, .int (nI sn)), (2, .int (nI kr)), (3, .int (nI wh))]) (fun n_44 x_44 H locs ls hI ih_44 => ?_) _ (0, fb3_43) ⟨rfl, ⟨by omega, fun k h => absurd h (Nat.not_lt_zero k)⟩, hP, hD, hS, (lv_sub hl [0, 1, 2, 3, 4, 5, 6, 7, 8, 9, 10, 11] rfl)⟩
            obtain ⟨k2_44, fb4_44⟩ := x_44
            obtain ⟨hm_44, hv_44, hP, hD, hS, hl⟩ := hI
            subst hm_44
            refine lv_iload hx hb dX8_meanOf_135 (lv_at hl 0 rfl) ?_
            refine lv_bipush (v := 50) hx hb dX8_meanOf_137 (by decide) ?_
            refine lv_icmp_ge (tgt := 239) hx hb dX8_meanOf_139 (by decide) (fun c_45 => ?_) (fun c_45 => ?_)
            · have c_45 := (nI_leI (a := 50) (b := k2_44) (by omega) (by omega)).mp c_45
              refine lv_iconst (v := 0) hx hb dX8_meanOf_239 (by decide) ?_
              refine lv_istore (lv' := [(11, .int 0), (10, .int (nI qi_43)), (9, .int r_39), (8, .int 0), (7, .int (nI q_3)), (6, .int bg_3), (5, .int 0), (4, .int (nI (dn sn))), (0, .ref (a 0)), (1, .int (nI sn)), (2, .int (nI kr)), (3, .int (nI wh))]) hx hb dX8_meanOf_240 hl (by decide) rfl (fun ls hl => ?_)
              refine W_loop (σ := Nat × (Nat → Int32)) (fun (n_ : Nat) (x_ : Nat × (Nat → Int32)) (H : Heap) (locs : List Loc) (ls : Array Slot) => match x_ with | (k3_46, ff5_46) => n_ = 50 - k3_46 ∧ (k3_46 ≤ 50 ∧ (∀ k, k < k3_46 → k / 2 + (dn sn - qi_43) ≤ 25 → ff5_46 k = mV (sdM dn (sg se tm gs) ffrees fprices sn) (ruM bm fbarSeen fbarFrom fruleRounds kr) wh q_3 r_39 (dn sn - qi_43) (k / 2) (k % 2)) ∧ True) ∧ va_P D classes [((a 0), .inr (8, (fX8 a (nI tx) fp (nI t0) wd (nI we) nu na (nI rd) ts (nI ru) (nI rw) (nI ca) df db sd))), (aI k (a 1) 3 (nF dn)), (aI k (a 4) 27 (sg se tm gs)), (aI k (a 2) 72 ffrees), (aI k (a 3) 72 fprices), (aI k (a 25) 4 (nF bm)), (aI k (a 26) 48 fbarSeen), (aI k (a 27) 48 fbarFrom), (aI k (a 28) 4 fruleRounds), (aI k (a 29) 52 ff5_46), (aI k (a 30) 52 fb4_44)] H ∧ va_D A [((a 0), .inr (8, (fX8 a (nI tx) fp (nI t0) wd (nI we) nu na (nI rd) ts (nI ru) (nI rw) (nI ca) df db sd))), (aI k (a 1) 3 (nF dn)), (aI k (a 4) 27 (sg se tm gs)), (aI k (a 2) 72 ffrees), (aI k (a 3) 72 fprices), (aI k (a 25) 4 (nF bm)), (aI k (a 26) 48 fbarSeen), (aI k (a 27) 48 fbarFrom), (aI k (a 28) 4 fruleRounds), (aI k (a 29) 52 ff5_46), (aI k (a 30) 52 fb4_44)] ∧ va_S A s.heap H locs ∧ lv_has ls 14 [(11, .int (nI k3_46)), (10, .int (nI qi_43)), (9, .int r_39), (8, .int 0), (7, .int (nI q_3)), (6, .int bg_3), (5, .int 0), (4, .int (nI (dn sn))), (0, .ref (a 0)), (1, .int (nI sn)), (2, .int (nI kr)), (3, .int (nI wh))]) (fun n_46 x_46 H locs ls hI ih_46 => ?_) _ (0, ff3_43) ⟨rfl, ⟨by omega, fun k h => absurd h (Nat.not_lt_zero k), trivial⟩, hP, hD, hS, (lv_sub hl [0, 1, 2, 3, 4, 5, 6, 7, 8, 9, 10, 11] rfl)⟩
              obtain ⟨k3_46, ff5_46⟩ := x_46
              obtain ⟨hm_46, hv_46, hP, hD, hS, hl⟩ := hI
              subst hm_46
              refine lv_iload hx hb dX8_meanOf_242 (lv_at hl 0 rfl) ?_
              refine lv_bipush (v := 50) hx hb dX8_meanOf_244 (by decide) ?_
              refine lv_icmp_ge (tgt := 269) hx hb dX8_meanOf_246 (by decide) (fun c_47 => ?_) (fun c_47 => ?_)
              · have c_47 := (nI_leI (a := 50) (b := k3_46) (by omega) (by omega)).mp c_47
                refine lv_iinc (v := (nI qi_43 - 1)) (lv' := [(10, .int (nI qi_43 - 1)), (11, .int (nI k3_46)), (9, .int r_39), (8, .int 0), (7, .int (nI q_3)), (6, .int bg_3), (5, .int 0), (4, .int (nI (dn sn))), (0, .ref (a 0)), (1, .int (nI sn)), (2, .int (nI kr)), (3, .int (nI wh))]) hx hb dX8_meanOf_269 hl (k := 1) rfl (dn1 _) (by decide) rfl (fun ls hl => ?_)
                refine lv_goto (tgt := 127) hx hb dX8_meanOf_272 (by decide) ?_
                exact ih_43 _ (qi_43, ff5_46, fb4_44) _ _ _ (by omega) ⟨rfl, ⟨by omega, fun k hk hp => hv_46.2.1 k (by omega) hp⟩, hP, hD, hS, (lv_sub hl [0, 2, 3, 4, 5, 6, 7, 8, 9, 10, 11] rfl)⟩
              · have c_47 : ¬ (50 ≤ k3_46) := fun h => c_47 ((nI_leI (a := 50) (b := k3_46) (by omega) (by omega)).mpr h)
                refine lv_aload_n hx hb dX8_meanOf_249 rfl (lv_at hl 8 rfl) ?_
                refine va_get (D := D) (ci := 8) (v := .ref (a 29)) (C := RX8) (T := TX8) (N := 44) hx hb hts inX8 hown hK hP 0 rfl rfl 28 (by decide) (hts _ tw_1001) (fun _ h9 => h9) rfl dX8_meanOf_250 ?_
                refine lv_iload hx hb dX8_meanOf_253 (lv_at hl 0 rfl) ?_
                refine lv_aload_n hx hb dX8_meanOf_255 rfl (lv_at hl 8 rfl) ?_
                refine va_get (D := D) (ci := 8) (v := .ref (a 30)) (C := RX8) (T := TX8) (N := 44) hx hb hts inX8 hown hK hP 0 rfl rfl 29 (by decide) (hts _ tw_1002) (fun _ h9 => h9) rfl dX8_meanOf_256 ?_
                refine lv_iload hx hb dX8_meanOf_259 (lv_at hl 0 rfl) ?_
                refine va_iald hx hb hK hP 10 1 rfl rfl (vp_in_nI (by omega) (by decide)) dX8_meanOf_261 ?_
                refine lv_ti (y := (fb4_44 k3_46)) (by rw [nI_clamp (by omega)]) ?_
                refine va_iast hx hb hK hP hD hS 9 1 rfl rfl (vp_in_nI (by omega) (by decide)) dX8_meanOf_262 (fun H locs hP hD hS => ?_)
                have hQ9 := pd_mk [((a 0), .inr (8, (fX8 a (nI tx) fp (nI t0) wd (nI we) nu na (nI rd) ts (nI ru) (nI rw) (nI ca) df db sd))), (aI k (a 1) 3 (nF dn)), (aI k (a 4) 27 (sg se tm gs)), (aI k (a 2) 72 ffrees), (aI k (a 3) 72 fprices), (aI k (a 25) 4 (nF bm)), (aI k (a 26) 48 fbarSeen), (aI k (a 27) 48 fbarFrom), (aI k (a 28) 4 fruleRounds), (aI k (a 29) 52 (upd ff5_46 (Int32.toNatClampNeg (nI k3_46)) (fb4_44 k3_46))), (aI k (a 30) 52 fb4_44)] hP hD
                clear hP hD
                obtain ⟨hP, hD⟩ := hQ9
                rw [nI_clamp (n := k3_46) (by omega)] at hP hD
                have hQ9 := pd_mk [((a 0), .inr (8, (fX8 a (nI tx) fp (nI t0) wd (nI we) nu na (nI rd) ts (nI ru) (nI rw) (nI ca) df db sd))), (aI k (a 1) 3 (nF dn)), (aI k (a 4) 27 (sg se tm gs)), (aI k (a 2) 72 ffrees), (aI k (a 3) 72 fprices), (aI k (a 25) 4 (nF bm)), (aI k (a 26) 48 fbarSeen), (aI k (a 27) 48 fbarFrom), (aI k (a 28) 4 fruleRounds), (aI k (a 29) 52 (upd ff5_46 k3_46 (fb4_44 k3_46))), (aI k (a 30) 52 fb4_44)] hP hD
                clear hP hD
                obtain ⟨hP, hD⟩ := hQ9
                refine lv_iinc (v := (nI (k3_46 + 1))) (lv' := [(11, .int (nI (k3_46 + 1))), (10, .int (nI qi_43)), (9, .int r_39), (8, .int 0), (7, .int (nI q_3)), (6, .int bg_3), (5, .int 0), (4, .int (nI (dn sn))), (0, .ref (a 0)), (1, .int (nI sn)), (2, .int (nI kr)), (3, .int (nI wh))]) hx hb dX8_meanOf_263 hl (k := 0) rfl (nI_add k3_46 1) (by decide) rfl (fun ls hl => ?_)
                refine lv_goto (tgt := 242) hx hb dX8_meanOf_266 (by decide) ?_
                exact ih_46 _ (k3_46 + 1, (upd ff5_46 k3_46 (fb4_44 k3_46))) _ _ _ (by omega) ⟨rfl, ⟨by omega, la_updc (F := fun k => mV (sdM dn (sg se tm gs) ffrees fprices sn) (ruM bm fbarSeen fbarFrom fruleRounds kr) wh q_3 r_39 (dn sn - qi_43) (k / 2) (k % 2)) (P := fun k => k / 2 + (dn sn - qi_43) ≤ 25) hv_46.2.1 (hv_44.2 k3_46 (by omega)), trivial⟩, hP, hD, hS, (lv_sub hl [0, 1, 2, 3, 4, 5, 6, 7, 8, 9, 10, 11] rfl)⟩
            · have c_45 : ¬ (50 ≤ k2_44) := fun h => c_45 ((nI_leI (a := 50) (b := k2_44) (by omega) (by omega)).mpr h)
              refine lv_iload hx hb dX8_meanOf_142 (lv_at hl 0 rfl) ?_
              refine lv_iconst (v := 2) hx hb dX8_meanOf_144 (by decide) ?_
              refine lv_idiv hx hb dX8_meanOf_145 (by decide) ?_
              refine lv_ti (y := (nI (k2_44 / 2))) (pk_div (by omega) (by decide) (by decide)) ?_
              refine lv_istore (lv' := [(12, .int (nI (k2_44 / 2))), (11, .int (nI k2_44)), (10, .int (nI qi_43)), (9, .int r_39), (8, .int 0), (7, .int (nI q_3)), (6, .int bg_3), (5, .int 0), (4, .int (nI (dn sn))), (0, .ref (a 0)), (1, .int (nI sn)), (2, .int (nI kr)), (3, .int (nI wh))]) hx hb dX8_meanOf_146 hl (by decide) rfl (fun ls hl => ?_)
              refine lv_aload_n hx hb dX8_meanOf_148 rfl (lv_at hl 9 rfl) ?_
              refine lv_iload_n hx hb dX8_meanOf_149 rfl (lv_at hl 11 rfl) ?_
              refine lv_iload hx hb dX8_meanOf_150 (lv_at hl 2 rfl) ?_
              refine lv_iload hx hb dX8_meanOf_152 (lv_at hl 0 rfl) ?_
              refine ro_i (D := D) (va_runV (As := [.int (nI kr), .int (nI qi_43), .int (nI (k2_44 / 2))]) (rest := []) ⟨hx, hb, hml, hown, hts⟩ ((n_isFor l D k st lo a tx t0 we rd ru rw ca fp wd nu na ts df db sd bm fbarSeen fbarFrom fruleRounds kr qi_43 (k2_44 / 2) hbm (by first | assumption | omega)) H.size) (cwV 3 hts (gV tw_1338 tw_1340 tw_61 tw_87 tw_1341) rfl rfl rfl (by decide +kernel) ⟨Nat.le_of_ble_eq_true rfl, Nat.le_of_ble_eq_true rfl⟩) (pV hS hAlo hlo hP hK (va_Dlo hD hAlo) hZ [0, 5, 6, 7, 8] (by decide) rfl (ci := 8) (q := (RX8, TX8, 44)) (q0 := 0) rfl rfl) rfl rfl hl.1 rfl (lv_room (Nat.le_of_ble_eq_true rfl)) dX8_meanOf_154 ⟨Nat.le_of_ble_eq_true rfl, Nat.le_of_ble_eq_true rfl⟩) hS hA hP (fun r_49 H locs hw_49 hP hS => ?_)
              try dsimp only at hw_49
              rcases hw_49 with ⟨rfl, hw_49⟩ | ⟨rfl, hw_49⟩
              · refine lv_if_eq (tgt := 173) hx hb dX8_meanOf_157 (by decide) (fun h => absurd h (by decide)) (fun _ => ?_)
                refine lv_aload_n hx hb dX8_meanOf_160 rfl (lv_at hl 9 rfl) ?_
                refine lv_iload_n hx hb dX8_meanOf_161 rfl (lv_at hl 10 rfl) ?_
                refine lv_iload hx hb dX8_meanOf_162 (lv_at hl 5 rfl) ?_
                refine lv_iload hx hb dX8_meanOf_164 (lv_at hl 2 rfl) ?_
                refine lv_iload_n hx hb dX8_meanOf_166 rfl (lv_at hl 12 rfl) ?_
                refine ro_i (D := D) (va_runV (As := [.int (nI sn), .int (nI q_3), .int (nI qi_43), .int (nI wh)]) (rest := []) ⟨hx, hb, hml, hown, hts⟩ ((n_byTaking l D k st lo a tx t0 we rd ru rw ca fp wd nu na ts df db sd dn se tm gs fprices sn qi_43 (nI q_3) (nI wh) (by first | assumption | omega) (by first | assumption | omega)) H.size) (cwV 4 hts (gV tw_1342 tw_1344 tw_62 tw_87 tw_1345) rfl rfl rfl (by decide +kernel) ⟨Nat.le_of_ble_eq_true rfl, Nat.le_of_ble_eq_true rfl⟩) (pV hS hAlo hlo hP hK (va_Dlo hD hAlo) hZ [0, 1, 2, 4] (by decide) rfl (ci := 8) (q := (RX8, TX8, 44)) (q0 := 0) rfl rfl) rfl rfl hl.1 rfl (lv_room (Nat.le_of_ble_eq_true rfl)) dX8_meanOf_167 ⟨Nat.le_of_ble_eq_true rfl, Nat.le_of_ble_eq_true rfl⟩) hS hA hP (fun r_50 H locs hw_50 hP hS => ?_)
                try dsimp only at hw_50
                refine lv_goto (tgt := 187) hx hb dX8_meanOf_170 (by decide) ?_
                refine lv_istore (lv' := [(13, .int r_50), (12, .int (nI (k2_44 / 2))), (11, .int (nI k2_44)), (10, .int (nI qi_43)), (9, .int r_39), (8, .int 0), (7, .int (nI q_3)), (6, .int bg_3), (5, .int 0), (4, .int (nI (dn sn))), (0, .ref (a 0)), (1, .int (nI sn)), (2, .int (nI kr)), (3, .int (nI wh))]) hx hb dX8_meanOf_187 hl (by decide) rfl (fun ls hl => ?_)
                refine lv_aload_n hx hb dX8_meanOf_189 rfl (lv_at hl 10 rfl) ?_
                refine va_get (D := D) (ci := 8) (v := .ref (a 30)) (C := RX8) (T := TX8) (N := 44) hx hb hts inX8 hown hK hP 0 rfl rfl 29 (by decide) (hts _ tw_1002) (fun _ h9 => h9) rfl dX8_meanOf_190 ?_
                refine lv_iload hx hb dX8_meanOf_193 (lv_at hl 2 rfl) ?_
                refine lv_aload_n hx hb dX8_meanOf_195 rfl (lv_at hl 10 rfl) ?_
                refine lv_iload_n hx hb dX8_meanOf_196 rfl (lv_at hl 11 rfl) ?_
                refine lv_iload hx hb dX8_meanOf_197 (lv_at hl 3 rfl) ?_
                refine lv_iload hx hb dX8_meanOf_199 (lv_at hl 2 rfl) ?_
                refine lv_iconst (v := 2) hx hb dX8_meanOf_201 (by decide) ?_
                refine lv_irem hx hb dX8_meanOf_202 (by decide) ?_
                refine lv_ti (y := (nI (k2_44 % 2))) (pk_rem (by omega) (by decide) (by decide)) ?_
                refine lv_iconst (v := 1) hx hb dX8_meanOf_203 (by decide) ?_
                refine lv_icmp_ne (tgt := 211) hx hb dX8_meanOf_204 (by decide) (fun c_51 => ?_) (fun c_51 => ?_)
                · have c_51 : ¬ ((k2_44 % 2) = 1) := fun h => c_51 ((nI_eq (a := (k2_44 % 2)) (b := 1) (by omega) (by omega)).mpr h)
                  refine lv_iconst (v := 0) hx hb dX8_meanOf_211 (by decide) ?_
                  refine ro_i (D := D) (va_runV (As := [.int (nI sn), .int (nI qi_43), .int 0]) (rest := [.int (nI k2_44), .ref (a 30)]) ⟨hx, hb, hml, hown, hts⟩ ((n_chanceOf l D k st lo a tx t0 we rd ru rw ca fp wd nu na ts df db sd ffrees se tm gs sn qi_43 0 (by first | assumption | omega) (by first | assumption | omega)) H.size) (cwV 3 hts (gV tw_1210 tw_1212 tw_41 tw_87 tw_1213) rfl rfl rfl (by decide +kernel) ⟨Nat.le_of_ble_eq_true rfl, Nat.le_of_ble_eq_true rfl⟩) (pV hS hAlo hlo hP hK (va_Dlo hD hAlo) hZ [0, 3, 2] (by decide) rfl (ci := 8) (q := (RX8, TX8, 44)) (q0 := 0) rfl rfl) rfl rfl hl.1 rfl (lv_room (Nat.le_of_ble_eq_true rfl)) dX8_meanOf_212 ⟨Nat.le_of_ble_eq_true rfl, Nat.le_of_ble_eq_true rfl⟩) hS hA hP (fun r_52 H locs hw_52 hP hS => ?_)
                  try dsimp only at hw_52
                  refine lv_iload hx hb dX8_meanOf_215 (lv_at hl 0 rfl) ?_
                  refine lv_iload hx hb dX8_meanOf_217 (lv_at hl 8 rfl) ?_
                  refine lv_aload_n hx hb dX8_meanOf_219 rfl (lv_at hl 10 rfl) ?_
                  refine va_get (D := D) (ci := 8) (v := .ref (a 29)) (C := RX8) (T := TX8) (N := 44) hx hb hts inX8 hown hK hP 0 rfl rfl 28 (by decide) (hts _ tw_1001) (fun _ h9 => h9) rfl dX8_meanOf_220 ?_
                  refine lv_iconst (v := 2) hx hb dX8_meanOf_223 (by decide) ?_
                  refine lv_iload hx hb dX8_meanOf_224 (lv_at hl 1 rfl) ?_
                  refine lv_imul hx hb dX8_meanOf_226 ?_
                  refine lv_ti (y := (nI (2 * (k2_44 / 2)))) (pk_mul 2 (k2_44 / 2)) ?_
                  refine va_iald hx hb hK hP 9 1 rfl rfl (vp_in_nI (by omega) (by decide)) dX8_meanOf_227 ?_
                  refine lv_ti (y := (ff3_43 (2 * (k2_44 / 2)))) (by rw [nI_clamp (by omega)]) ?_
                  refine lv_iadd hx hb dX8_meanOf_228 ?_
                  refine lv_topi (fun x_53 ex_53 => ?_)
                  refine ro_i (D := D) (va_runS (As := [.int r_52, .int r_50, .int x_53]) (rest := [.int (nI k2_44), .ref (a 30)]) ⟨hx, hb, hml, hown, hts⟩ ((n_mixed l D k st lo r_52 r_50 x_53) H.size) (va_cwS 3 hts (gS tw_1269 tw_1270 tw_87 tw_1271) rfl rfl rfl (by decide +kernel) ⟨Nat.le_of_ble_eq_true rfl, Nat.le_of_ble_eq_true rfl⟩) (pS hS hAlo hlo hP hK (va_Dlo hD hAlo) hZ [] (by decide) rfl) rfl rfl hl.1 rfl (lv_room (Nat.le_of_ble_eq_true rfl)) dX8_meanOf_229 ⟨Nat.le_of_ble_eq_true rfl, Nat.le_of_ble_eq_true rfl⟩) hS hA hP (fun r_54 H locs hw_54 hP hS => ?_)
                  try dsimp only at hw_54
                  refine va_iast hx hb hK hP hD hS 10 1 rfl rfl (vp_in_nI (by omega) (by decide)) dX8_meanOf_232 (fun H locs hP hD hS => ?_)
                  have hQ9 := pd_mk [((a 0), .inr (8, (fX8 a (nI tx) fp (nI t0) wd (nI we) nu na (nI rd) ts (nI ru) (nI rw) (nI ca) df db sd))), (aI k (a 1) 3 (nF dn)), (aI k (a 4) 27 (sg se tm gs)), (aI k (a 2) 72 ffrees), (aI k (a 3) 72 fprices), (aI k (a 25) 4 (nF bm)), (aI k (a 26) 48 fbarSeen), (aI k (a 27) 48 fbarFrom), (aI k (a 28) 4 fruleRounds), (aI k (a 29) 52 ff3_43), (aI k (a 30) 52 (upd fb4_44 (Int32.toNatClampNeg (nI k2_44)) r_54))] hP hD
                  clear hP hD
                  obtain ⟨hP, hD⟩ := hQ9
                  rw [nI_clamp (n := k2_44) (by omega)] at hP hD
                  have hQ9 := pd_mk [((a 0), .inr (8, (fX8 a (nI tx) fp (nI t0) wd (nI we) nu na (nI rd) ts (nI ru) (nI rw) (nI ca) df db sd))), (aI k (a 1) 3 (nF dn)), (aI k (a 4) 27 (sg se tm gs)), (aI k (a 2) 72 ffrees), (aI k (a 3) 72 fprices), (aI k (a 25) 4 (nF bm)), (aI k (a 26) 48 fbarSeen), (aI k (a 27) 48 fbarFrom), (aI k (a 28) 4 fruleRounds), (aI k (a 29) 52 ff3_43), (aI k (a 30) 52 (upd fb4_44 k2_44 r_54))] hP hD
                  clear hP hD
                  obtain ⟨hP, hD⟩ := hQ9
                  refine lv_iinc (v := (nI (k2_44 + 1))) (lv' := [(11, .int (nI (k2_44 + 1))), (13, .int r_50), (12, .int (nI (k2_44 / 2))), (10, .int (nI qi_43)), (9, .int r_39), (8, .int 0), (7, .int (nI q_3)), (6, .int bg_3), (5, .int 0), (4, .int (nI (dn sn))), (0, .ref (a 0)), (1, .int (nI sn)), (2, .int (nI kr)), (3, .int (nI wh))]) hx hb dX8_meanOf_233 hl (k := 2) rfl (nI_add k2_44 1) (by decide) rfl (fun ls hl => ?_)
                  refine lv_goto (tgt := 135) hx hb dX8_meanOf_236 (by decide) ?_
                  have hx_44 : (k2_44 / 2) + (dn sn - qi_43) ≤ 25 → r_54 = mV (sdM dn (sg se tm gs) ffrees fprices sn) (ruM bm fbarSeen fbarFrom fruleRounds kr) wh q_3 r_39 (dn sn - qi_43) (k2_44 / 2) (k2_44 % 2) := fun hk => mv_v (d := (sdM dn (sg se tm gs) ffrees fprices sn)) (u := (ruM bm fbarSeen fbarFrom fruleRounds kr)) (wh := wh) (r := q_3) (E := r_39) (p := (k2_44 / 2)) (a := k2_44 % 2) (show qi_43 < dn sn by omega) (show _ = pChance (sdM dn (sg se tm gs) ffrees fprices sn) qi_43 (nI (k2_44 % 2)) from by rw [show k2_44 % 2 = 0 by omega]; exact hw_52.trans (mChance (fpr := fprices) (show qi_43 < dn sn by omega))) (by rw [if_pos hw_49]; exact hw_50.trans (mByT hg9 (by omega) (by omega) (by omega) (by omega))) (by rw [← hps_2, ex_53]; exact congrArg (fun z => 0 + z) (by have h9 := hv_43.2 (2 * (k2_44 / 2)) (by omega) (by omega); rw [show (2 * (k2_44 / 2)) / 2 = (k2_44 / 2) by omega, show (2 * (k2_44 / 2)) % 2 = 0 by omega] at h9; exact h9)) hw_54
                  exact ih_44 _ (k2_44 + 1, (upd fb4_44 k2_44 r_54)) _ _ _ (by omega) ⟨rfl, ⟨by omega, la_updc (F := fun k => mV (sdM dn (sg se tm gs) ffrees fprices sn) (ruM bm fbarSeen fbarFrom fruleRounds kr) wh q_3 r_39 (dn sn - qi_43) (k / 2) (k % 2)) (P := fun k => k / 2 + (dn sn - qi_43) ≤ 25) hv_44.2 hx_44⟩, hP, hD, hS, (lv_sub hl [0, 3, 4, 5, 6, 7, 8, 9, 10, 11, 12, 13] rfl)⟩
                · have c_51 := (nI_eq (a := (k2_44 % 2)) (b := 1) (by omega) (by omega)).mp c_51
                  refine lv_iconst (v := 1) hx hb dX8_meanOf_207 (by decide) ?_
                  refine lv_goto (tgt := 212) hx hb dX8_meanOf_208 (by decide) ?_
                  refine ro_i (D := D) (va_runV (As := [.int (nI sn), .int (nI qi_43), .int 1]) (rest := [.int (nI k2_44), .ref (a 30)]) ⟨hx, hb, hml, hown, hts⟩ ((n_chanceOf l D k st lo a tx t0 we rd ru rw ca fp wd nu na ts df db sd ffrees se tm gs sn qi_43 1 (by first | assumption | omega) (by first | assumption | omega)) H.size) (cwV 3 hts (gV tw_1210 tw_1212 tw_41 tw_87 tw_1213) rfl rfl rfl (by decide +kernel) ⟨Nat.le_of_ble_eq_true rfl, Nat.le_of_ble_eq_true rfl⟩) (pV hS hAlo hlo hP hK (va_Dlo hD hAlo) hZ [0, 3, 2] (by decide) rfl (ci := 8) (q := (RX8, TX8, 44)) (q0 := 0) rfl rfl) rfl rfl hl.1 rfl (lv_room (Nat.le_of_ble_eq_true rfl)) dX8_meanOf_212 ⟨Nat.le_of_ble_eq_true rfl, Nat.le_of_ble_eq_true rfl⟩) hS hA hP (fun r_56 H locs hw_56 hP hS => ?_)
                  try dsimp only at hw_56
                  refine lv_iload hx hb dX8_meanOf_215 (lv_at hl 0 rfl) ?_
                  refine lv_iload hx hb dX8_meanOf_217 (lv_at hl 8 rfl) ?_
                  refine lv_aload_n hx hb dX8_meanOf_219 rfl (lv_at hl 10 rfl) ?_
                  refine va_get (D := D) (ci := 8) (v := .ref (a 29)) (C := RX8) (T := TX8) (N := 44) hx hb hts inX8 hown hK hP 0 rfl rfl 28 (by decide) (hts _ tw_1001) (fun _ h9 => h9) rfl dX8_meanOf_220 ?_
                  refine lv_iconst (v := 2) hx hb dX8_meanOf_223 (by decide) ?_
                  refine lv_iload hx hb dX8_meanOf_224 (lv_at hl 1 rfl) ?_
                  refine lv_imul hx hb dX8_meanOf_226 ?_
                  refine lv_ti (y := (nI (2 * (k2_44 / 2)))) (pk_mul 2 (k2_44 / 2)) ?_
                  refine va_iald hx hb hK hP 9 1 rfl rfl (vp_in_nI (by omega) (by decide)) dX8_meanOf_227 ?_
                  refine lv_ti (y := (ff3_43 (2 * (k2_44 / 2)))) (by rw [nI_clamp (by omega)]) ?_
                  refine lv_iadd hx hb dX8_meanOf_228 ?_
                  refine lv_topi (fun x_57 ex_57 => ?_)
                  refine ro_i (D := D) (va_runS (As := [.int r_56, .int r_50, .int x_57]) (rest := [.int (nI k2_44), .ref (a 30)]) ⟨hx, hb, hml, hown, hts⟩ ((n_mixed l D k st lo r_56 r_50 x_57) H.size) (va_cwS 3 hts (gS tw_1269 tw_1270 tw_87 tw_1271) rfl rfl rfl (by decide +kernel) ⟨Nat.le_of_ble_eq_true rfl, Nat.le_of_ble_eq_true rfl⟩) (pS hS hAlo hlo hP hK (va_Dlo hD hAlo) hZ [] (by decide) rfl) rfl rfl hl.1 rfl (lv_room (Nat.le_of_ble_eq_true rfl)) dX8_meanOf_229 ⟨Nat.le_of_ble_eq_true rfl, Nat.le_of_ble_eq_true rfl⟩) hS hA hP (fun r_58 H locs hw_58 hP hS => ?_)
                  try dsimp only at hw_58
                  refine va_iast hx hb hK hP hD hS 10 1 rfl rfl (vp_in_nI (by omega) (by decide)) dX8_meanOf_232 (fun H locs hP hD hS => ?_)
                  have hQ9 := pd_mk [((a 0), .inr (8, (fX8 a (nI tx) fp (nI t0) wd (nI we) nu na (nI rd) ts (nI ru) (nI rw) (nI ca) df db sd))), (aI k (a 1) 3 (nF dn)), (aI k (a 4) 27 (sg se tm gs)), (aI k (a 2) 72 ffrees), (aI k (a 3) 72 fprices), (aI k (a 25) 4 (nF bm)), (aI k (a 26) 48 fbarSeen), (aI k (a 27) 48 fbarFrom), (aI k (a 28) 4 fruleRounds), (aI k (a 29) 52 ff3_43), (aI k (a 30) 52 (upd fb4_44 (Int32.toNatClampNeg (nI k2_44)) r_58))] hP hD
                  clear hP hD
                  obtain ⟨hP, hD⟩ := hQ9
                  rw [nI_clamp (n := k2_44) (by omega)] at hP hD
                  have hQ9 := pd_mk [((a 0), .inr (8, (fX8 a (nI tx) fp (nI t0) wd (nI we) nu na (nI rd) ts (nI ru) (nI rw) (nI ca) df db sd))), (aI k (a 1) 3 (nF dn)), (aI k (a 4) 27 (sg se tm gs)), (aI k (a 2) 72 ffrees), (aI k (a 3) 72 fprices), (aI k (a 25) 4 (nF bm)), (aI k (a 26) 48 fbarSeen), (aI k (a 27) 48 fbarFrom), (aI k (a 28) 4 fruleRounds), (aI k (a 29) 52 ff3_43), (aI k (a 30) 52 (upd fb4_44 k2_44 r_58))] hP hD
                  clear hP hD
                  obtain ⟨hP, hD⟩ := hQ9
                  refine lv_iinc (v := (nI (k2_44 + 1))) (lv' := [(11, .int (nI (k2_44 + 1))), (13, .int r_50), (12, .int (nI (k2_44 / 2))), (10, .int (nI qi_43)), (9, .int r_39), (8, .int 0), (7, .int (nI q_3)), (6, .int bg_3), (5, .int 0), (4, .int (nI (dn sn))), (0, .ref (a 0)), (1, .int (nI sn)), (2, .int (nI kr)), (3, .int (nI wh))]) hx hb dX8_meanOf_233 hl (k := 2) rfl (nI_add k2_44 1) (by decide) rfl (fun ls hl => ?_)
                  refine lv_goto (tgt := 135) hx hb dX8_meanOf_236 (by decide) ?_
                  have hx_44 : (k2_44 / 2) + (dn sn - qi_43) ≤ 25 → r_58 = mV (sdM dn (sg se tm gs) ffrees fprices sn) (ruM bm fbarSeen fbarFrom fruleRounds kr) wh q_3 r_39 (dn sn - qi_43) (k2_44 / 2) (k2_44 % 2) := fun hk => mv_v (d := (sdM dn (sg se tm gs) ffrees fprices sn)) (u := (ruM bm fbarSeen fbarFrom fruleRounds kr)) (wh := wh) (r := q_3) (E := r_39) (p := (k2_44 / 2)) (a := k2_44 % 2) (show qi_43 < dn sn by omega) (show _ = pChance (sdM dn (sg se tm gs) ffrees fprices sn) qi_43 (nI (k2_44 % 2)) from by rw [show k2_44 % 2 = 1 by omega]; exact hw_56.trans (mChance (fpr := fprices) (show qi_43 < dn sn by omega))) (by rw [if_pos hw_49]; exact hw_50.trans (mByT hg9 (by omega) (by omega) (by omega) (by omega))) (by rw [← hps_2, ex_57]; exact congrArg (fun z => 0 + z) (by have h9 := hv_43.2 (2 * (k2_44 / 2)) (by omega) (by omega); rw [show (2 * (k2_44 / 2)) / 2 = (k2_44 / 2) by omega, show (2 * (k2_44 / 2)) % 2 = 0 by omega] at h9; exact h9)) hw_58
                  exact ih_44 _ (k2_44 + 1, (upd fb4_44 k2_44 r_58)) _ _ _ (by omega) ⟨rfl, ⟨by omega, la_updc (F := fun k => mV (sdM dn (sg se tm gs) ffrees fprices sn) (ruM bm fbarSeen fbarFrom fruleRounds kr) wh q_3 r_39 (dn sn - qi_43) (k / 2) (k % 2)) (P := fun k => k / 2 + (dn sn - qi_43) ≤ 25) hv_44.2 hx_44⟩, hP, hD, hS, (lv_sub hl [0, 3, 4, 5, 6, 7, 8, 9, 10, 11, 12, 13] rfl)⟩
              · refine lv_if_eq (tgt := 173) hx hb dX8_meanOf_157 (by decide) (fun _ => ?_) (fun h => absurd (by decide) h)
                refine lv_iload hx hb dX8_meanOf_173 (lv_at hl 7 rfl) ?_
                refine lv_aload_n hx hb dX8_meanOf_175 rfl (lv_at hl 9 rfl) ?_
                refine va_get (D := D) (ci := 8) (v := .ref (a 29)) (C := RX8) (T := TX8) (N := 44) hx hb hts inX8 hown hK hP 0 rfl rfl 28 (by decide) (hts _ tw_1001) (fun _ h9 => h9) rfl dX8_meanOf_176 ?_
                refine lv_iconst (v := 2) hx hb dX8_meanOf_179 (by decide) ?_
                refine lv_iload hx hb dX8_meanOf_180 (lv_at hl 0 rfl) ?_
                refine lv_imul hx hb dX8_meanOf_182 ?_
                refine lv_ti (y := (nI (2 * (k2_44 / 2)))) (pk_mul 2 (k2_44 / 2)) ?_
                refine lv_iconst (v := 3) hx hb dX8_meanOf_183 (by decide) ?_
                refine lv_iadd hx hb dX8_meanOf_184 ?_
                refine lv_ti (y := (nI (2 * (k2_44 / 2) + 3))) (nI_add (2 * (k2_44 / 2)) 3) ?_
                refine va_iald hx hb hK hP 9 1 rfl rfl (vp_in_nI (by omega) (by decide)) dX8_meanOf_185 ?_
                refine lv_ti (y := (ff3_43 (2 * (k2_44 / 2) + 3))) (by rw [nI_clamp (by omega)]) ?_
                refine lv_iadd hx hb dX8_meanOf_186 ?_
                refine lv_topi (fun x_60 ex_60 => ?_)
                refine lv_istore (lv' := [(13, .int x_60), (12, .int (nI (k2_44 / 2))), (11, .int (nI k2_44)), (10, .int (nI qi_43)), (9, .int r_39), (8, .int 0), (7, .int (nI q_3)), (6, .int bg_3), (5, .int 0), (4, .int (nI (dn sn))), (0, .ref (a 0)), (1, .int (nI sn)), (2, .int (nI kr)), (3, .int (nI wh))]) hx hb dX8_meanOf_187 hl (by decide) rfl (fun ls hl => ?_)
                refine lv_aload_n hx hb dX8_meanOf_189 rfl (lv_at hl 10 rfl) ?_
                refine va_get (D := D) (ci := 8) (v := .ref (a 30)) (C := RX8) (T := TX8) (N := 44) hx hb hts inX8 hown hK hP 0 rfl rfl 29 (by decide) (hts _ tw_1002) (fun _ h9 => h9) rfl dX8_meanOf_190 ?_
                refine lv_iload hx hb dX8_meanOf_193 (lv_at hl 2 rfl) ?_
                refine lv_aload_n hx hb dX8_meanOf_195 rfl (lv_at hl 10 rfl) ?_
                refine lv_iload_n hx hb dX8_meanOf_196 rfl (lv_at hl 11 rfl) ?_
                refine lv_iload hx hb dX8_meanOf_197 (lv_at hl 3 rfl) ?_
                refine lv_iload hx hb dX8_meanOf_199 (lv_at hl 2 rfl) ?_
                refine lv_iconst (v := 2) hx hb dX8_meanOf_201 (by decide) ?_
                refine lv_irem hx hb dX8_meanOf_202 (by decide) ?_
                refine lv_ti (y := (nI (k2_44 % 2))) (pk_rem (by omega) (by decide) (by decide)) ?_
                refine lv_iconst (v := 1) hx hb dX8_meanOf_203 (by decide) ?_
                refine lv_icmp_ne (tgt := 211) hx hb dX8_meanOf_204 (by decide) (fun c_61 => ?_) (fun c_61 => ?_)
                · have c_61 : ¬ ((k2_44 % 2) = 1) := fun h => c_61 ((nI_eq (a := (k2_44 % 2)) (b := 1) (by omega) (by omega)).mpr h)
                  refine lv_iconst (v := 0) hx hb dX8_meanOf_211 (by decide) ?_
                  refine ro_i (D := D) (va_runV (As := [.int (nI sn), .int (nI qi_43), .int 0]) (rest := [.int (nI k2_44), .ref (a 30)]) ⟨hx, hb, hml, hown, hts⟩ ((n_chanceOf l D k st lo a tx t0 we rd ru rw ca fp wd nu na ts df db sd ffrees se tm gs sn qi_43 0 (by first | assumption | omega) (by first | assumption | omega)) H.size) (cwV 3 hts (gV tw_1210 tw_1212 tw_41 tw_87 tw_1213) rfl rfl rfl (by decide +kernel) ⟨Nat.le_of_ble_eq_true rfl, Nat.le_of_ble_eq_true rfl⟩) (pV hS hAlo hlo hP hK (va_Dlo hD hAlo) hZ [0, 3, 2] (by decide) rfl (ci := 8) (q := (RX8, TX8, 44)) (q0 := 0) rfl rfl) rfl rfl hl.1 rfl (lv_room (Nat.le_of_ble_eq_true rfl)) dX8_meanOf_212 ⟨Nat.le_of_ble_eq_true rfl, Nat.le_of_ble_eq_true rfl⟩) hS hA hP (fun r_62 H locs hw_62 hP hS => ?_)
                  try dsimp only at hw_62
                  refine lv_iload hx hb dX8_meanOf_215 (lv_at hl 0 rfl) ?_
                  refine lv_iload hx hb dX8_meanOf_217 (lv_at hl 8 rfl) ?_
                  refine lv_aload_n hx hb dX8_meanOf_219 rfl (lv_at hl 10 rfl) ?_
                  refine va_get (D := D) (ci := 8) (v := .ref (a 29)) (C := RX8) (T := TX8) (N := 44) hx hb hts inX8 hown hK hP 0 rfl rfl 28 (by decide) (hts _ tw_1001) (fun _ h9 => h9) rfl dX8_meanOf_220 ?_
                  refine lv_iconst (v := 2) hx hb dX8_meanOf_223 (by decide) ?_
                  refine lv_iload hx hb dX8_meanOf_224 (lv_at hl 1 rfl) ?_
                  refine lv_imul hx hb dX8_meanOf_226 ?_
                  refine lv_ti (y := (nI (2 * (k2_44 / 2)))) (pk_mul 2 (k2_44 / 2)) ?_
                  refine va_iald hx hb hK hP 9 1 rfl rfl (vp_in_nI (by omega) (by decide)) dX8_meanOf_227 ?_
                  refine lv_ti (y := (ff3_43 (2 * (k2_44 / 2)))) (by rw [nI_clamp (by omega)]) ?_
                  refine lv_iadd hx hb dX8_meanOf_228 ?_
                  refine lv_topi (fun x_63 ex_63 => ?_)
                  refine ro_i (D := D) (va_runS (As := [.int r_62, .int x_60, .int x_63]) (rest := [.int (nI k2_44), .ref (a 30)]) ⟨hx, hb, hml, hown, hts⟩ ((n_mixed l D k st lo r_62 x_60 x_63) H.size) (va_cwS 3 hts (gS tw_1269 tw_1270 tw_87 tw_1271) rfl rfl rfl (by decide +kernel) ⟨Nat.le_of_ble_eq_true rfl, Nat.le_of_ble_eq_true rfl⟩) (pS hS hAlo hlo hP hK (va_Dlo hD hAlo) hZ [] (by decide) rfl) rfl rfl hl.1 rfl (lv_room (Nat.le_of_ble_eq_true rfl)) dX8_meanOf_229 ⟨Nat.le_of_ble_eq_true rfl, Nat.le_of_ble_eq_true rfl⟩) hS hA hP (fun r_64 H locs hw_64 hP hS => ?_)
                  try dsimp only at hw_64
                  refine va_iast hx hb hK hP hD hS 10 1 rfl rfl (vp_in_nI (by omega) (by decide)) dX8_meanOf_232 (fun H locs hP hD hS => ?_)
                  have hQ9 := pd_mk [((a 0), .inr (8, (fX8 a (nI tx) fp (nI t0) wd (nI we) nu na (nI rd) ts (nI ru) (nI rw) (nI ca) df db sd))), (aI k (a 1) 3 (nF dn)), (aI k (a 4) 27 (sg se tm gs)), (aI k (a 2) 72 ffrees), (aI k (a 3) 72 fprices), (aI k (a 25) 4 (nF bm)), (aI k (a 26) 48 fbarSeen), (aI k (a 27) 48 fbarFrom), (aI k (a 28) 4 fruleRounds), (aI k (a 29) 52 ff3_43), (aI k (a 30) 52 (upd fb4_44 (Int32.toNatClampNeg (nI k2_44)) r_64))] hP hD
                  clear hP hD
                  obtain ⟨hP, hD⟩ := hQ9
                  rw [nI_clamp (n := k2_44) (by omega)] at hP hD
                  have hQ9 := pd_mk [((a 0), .inr (8, (fX8 a (nI tx) fp (nI t0) wd (nI we) nu na (nI rd) ts (nI ru) (nI rw) (nI ca) df db sd))), (aI k (a 1) 3 (nF dn)), (aI k (a 4) 27 (sg se tm gs)), (aI k (a 2) 72 ffrees), (aI k (a 3) 72 fprices), (aI k (a 25) 4 (nF bm)), (aI k (a 26) 48 fbarSeen), (aI k (a 27) 48 fbarFrom), (aI k (a 28) 4 fruleRounds), (aI k (a 29) 52 ff3_43), (aI k (a 30) 52 (upd fb4_44 k2_44 r_64))] hP hD
                  clear hP hD
                  obtain ⟨hP, hD⟩ := hQ9
                  refine lv_iinc (v := (nI (k2_44 + 1))) (lv' := [(11, .int (nI (k2_44 + 1))), (13, .int x_60), (12, .int (nI (k2_44 / 2))), (10, .int (nI qi_43)), (9, .int r_39), (8, .int 0), (7, .int (nI q_3)), (6, .int bg_3), (5, .int 0), (4, .int (nI (dn sn))), (0, .ref (a 0)), (1, .int (nI sn)), (2, .int (nI kr)), (3, .int (nI wh))]) hx hb dX8_meanOf_233 hl (k := 2) rfl (nI_add k2_44 1) (by decide) rfl (fun ls hl => ?_)
                  refine lv_goto (tgt := 135) hx hb dX8_meanOf_236 (by decide) ?_
                  have hx_44 : (k2_44 / 2) + (dn sn - qi_43) ≤ 25 → r_64 = mV (sdM dn (sg se tm gs) ffrees fprices sn) (ruM bm fbarSeen fbarFrom fruleRounds kr) wh q_3 r_39 (dn sn - qi_43) (k2_44 / 2) (k2_44 % 2) := fun hk => mv_v (d := (sdM dn (sg se tm gs) ffrees fprices sn)) (u := (ruM bm fbarSeen fbarFrom fruleRounds kr)) (wh := wh) (r := q_3) (E := r_39) (p := (k2_44 / 2)) (a := k2_44 % 2) (show qi_43 < dn sn by omega) (show _ = pChance (sdM dn (sg se tm gs) ffrees fprices sn) qi_43 (nI (k2_44 % 2)) from by rw [show k2_44 % 2 = 0 by omega]; exact hw_62.trans (mChance (fpr := fprices) (show qi_43 < dn sn by omega))) (by rw [if_neg hw_49, ← hps_2, ex_60]; exact congrArg (fun z => 0 + z) (by have h9 := hv_43.2 (2 * (k2_44 / 2) + 3) (by omega) (by omega); rw [show (2 * (k2_44 / 2) + 3) / 2 = (k2_44 / 2) + 1 by omega, show (2 * (k2_44 / 2) + 3) % 2 = 1 by omega] at h9; exact h9)) (by rw [← hps_2, ex_63]; exact congrArg (fun z => 0 + z) (by have h9 := hv_43.2 (2 * (k2_44 / 2)) (by omega) (by omega); rw [show (2 * (k2_44 / 2)) / 2 = (k2_44 / 2) by omega, show (2 * (k2_44 / 2)) % 2 = 0 by omega] at h9; exact h9)) hw_64
                  exact ih_44 _ (k2_44 + 1, (upd fb4_44 k2_44 r_64)) _ _ _ (by omega) ⟨rfl, ⟨by omega, la_updc (F := fun k => mV (sdM dn (sg se tm gs) ffrees fprices sn) (ruM bm fbarSeen fbarFrom fruleRounds kr) wh q_3 r_39 (dn sn - qi_43) (k / 2) (k % 2)) (P := fun k => k / 2 + (dn sn - qi_43) ≤ 25) hv_44.2 hx_44⟩, hP, hD, hS, (lv_sub hl [0, 3, 4, 5, 6, 7, 8, 9, 10, 11, 12, 13] rfl)⟩
                · have c_61 := (nI_eq (a := (k2_44 % 2)) (b := 1) (by omega) (by omega)).mp c_61
                  refine lv_iconst (v := 1) hx hb dX8_meanOf_207 (by decide) ?_
                  refine lv_goto (tgt := 212) hx hb dX8_meanOf_208 (by decide) ?_
                  refine ro_i (D := D) (va_runV (As := [.int (nI sn), .int (nI qi_43), .int 1]) (rest := [.int (nI k2_44), .ref (a 30)]) ⟨hx, hb, hml, hown, hts⟩ ((n_chanceOf l D k st lo a tx t0 we rd ru rw ca fp wd nu na ts df db sd ffrees se tm gs sn qi_43 1 (by first | assumption | omega) (by first | assumption | omega)) H.size) (cwV 3 hts (gV tw_1210 tw_1212 tw_41 tw_87 tw_1213) rfl rfl rfl (by decide +kernel) ⟨Nat.le_of_ble_eq_true rfl, Nat.le_of_ble_eq_true rfl⟩) (pV hS hAlo hlo hP hK (va_Dlo hD hAlo) hZ [0, 3, 2] (by decide) rfl (ci := 8) (q := (RX8, TX8, 44)) (q0 := 0) rfl rfl) rfl rfl hl.1 rfl (lv_room (Nat.le_of_ble_eq_true rfl)) dX8_meanOf_212 ⟨Nat.le_of_ble_eq_true rfl, Nat.le_of_ble_eq_true rfl⟩) hS hA hP (fun r_66 H locs hw_66 hP hS => ?_)
                  try dsimp only at hw_66
                  refine lv_iload hx hb dX8_meanOf_215 (lv_at hl 0 rfl) ?_
                  refine lv_iload hx hb dX8_meanOf_217 (lv_at hl 8 rfl) ?_
                  refine lv_aload_n hx hb dX8_meanOf_219 rfl (lv_at hl 10 rfl) ?_
                  refine va_get (D := D) (ci := 8) (v := .ref (a 29)) (C := RX8) (T := TX8) (N := 44) hx hb hts inX8 hown hK hP 0 rfl rfl 28 (by decide) (hts _ tw_1001) (fun _ h9 => h9) rfl dX8_meanOf_220 ?_
                  refine lv_iconst (v := 2) hx hb dX8_meanOf_223 (by decide) ?_
                  refine lv_iload hx hb dX8_meanOf_224 (lv_at hl 1 rfl) ?_
                  refine lv_imul hx hb dX8_meanOf_226 ?_
                  refine lv_ti (y := (nI (2 * (k2_44 / 2)))) (pk_mul 2 (k2_44 / 2)) ?_
                  refine va_iald hx hb hK hP 9 1 rfl rfl (vp_in_nI (by omega) (by decide)) dX8_meanOf_227 ?_
                  refine lv_ti (y := (ff3_43 (2 * (k2_44 / 2)))) (by rw [nI_clamp (by omega)]) ?_
                  refine lv_iadd hx hb dX8_meanOf_228 ?_
                  refine lv_topi (fun x_67 ex_67 => ?_)
                  refine ro_i (D := D) (va_runS (As := [.int r_66, .int x_60, .int x_67]) (rest := [.int (nI k2_44), .ref (a 30)]) ⟨hx, hb, hml, hown, hts⟩ ((n_mixed l D k st lo r_66 x_60 x_67) H.size) (va_cwS 3 hts (gS tw_1269 tw_1270 tw_87 tw_1271) rfl rfl rfl (by decide +kernel) ⟨Nat.le_of_ble_eq_true rfl, Nat.le_of_ble_eq_true rfl⟩) (pS hS hAlo hlo hP hK (va_Dlo hD hAlo) hZ [] (by decide) rfl) rfl rfl hl.1 rfl (lv_room (Nat.le_of_ble_eq_true rfl)) dX8_meanOf_229 ⟨Nat.le_of_ble_eq_true rfl, Nat.le_of_ble_eq_true rfl⟩) hS hA hP (fun r_68 H locs hw_68 hP hS => ?_)
                  try dsimp only at hw_68
                  refine va_iast hx hb hK hP hD hS 10 1 rfl rfl (vp_in_nI (by omega) (by decide)) dX8_meanOf_232 (fun H locs hP hD hS => ?_)
                  have hQ9 := pd_mk [((a 0), .inr (8, (fX8 a (nI tx) fp (nI t0) wd (nI we) nu na (nI rd) ts (nI ru) (nI rw) (nI ca) df db sd))), (aI k (a 1) 3 (nF dn)), (aI k (a 4) 27 (sg se tm gs)), (aI k (a 2) 72 ffrees), (aI k (a 3) 72 fprices), (aI k (a 25) 4 (nF bm)), (aI k (a 26) 48 fbarSeen), (aI k (a 27) 48 fbarFrom), (aI k (a 28) 4 fruleRounds), (aI k (a 29) 52 ff3_43), (aI k (a 30) 52 (upd fb4_44 (Int32.toNatClampNeg (nI k2_44)) r_68))] hP hD
                  clear hP hD
                  obtain ⟨hP, hD⟩ := hQ9
                  rw [nI_clamp (n := k2_44) (by omega)] at hP hD
                  have hQ9 := pd_mk [((a 0), .inr (8, (fX8 a (nI tx) fp (nI t0) wd (nI we) nu na (nI rd) ts (nI ru) (nI rw) (nI ca) df db sd))), (aI k (a 1) 3 (nF dn)), (aI k (a 4) 27 (sg se tm gs)), (aI k (a 2) 72 ffrees), (aI k (a 3) 72 fprices), (aI k (a 25) 4 (nF bm)), (aI k (a 26) 48 fbarSeen), (aI k (a 27) 48 fbarFrom), (aI k (a 28) 4 fruleRounds), (aI k (a 29) 52 ff3_43), (aI k (a 30) 52 (upd fb4_44 k2_44 r_68))] hP hD
                  clear hP hD
                  obtain ⟨hP, hD⟩ := hQ9
                  refine lv_iinc (v := (nI (k2_44 + 1))) (lv' := [(11, .int (nI (k2_44 + 1))), (13, .int x_60), (12, .int (nI (k2_44 / 2))), (10, .int (nI qi_43)), (9, .int r_39), (8, .int 0), (7, .int (nI q_3)), (6, .int bg_3), (5, .int 0), (4, .int (nI (dn sn))), (0, .ref (a 0)), (1, .int (nI sn)), (2, .int (nI kr)), (3, .int (nI wh))]) hx hb dX8_meanOf_233 hl (k := 2) rfl (nI_add k2_44 1) (by decide) rfl (fun ls hl => ?_)
                  refine lv_goto (tgt := 135) hx hb dX8_meanOf_236 (by decide) ?_
                  have hx_44 : (k2_44 / 2) + (dn sn - qi_43) ≤ 25 → r_68 = mV (sdM dn (sg se tm gs) ffrees fprices sn) (ruM bm fbarSeen fbarFrom fruleRounds kr) wh q_3 r_39 (dn sn - qi_43) (k2_44 / 2) (k2_44 % 2) := fun hk => mv_v (d := (sdM dn (sg se tm gs) ffrees fprices sn)) (u := (ruM bm fbarSeen fbarFrom fruleRounds kr)) (wh := wh) (r := q_3) (E := r_39) (p := (k2_44 / 2)) (a := k2_44 % 2) (show qi_43 < dn sn by omega) (show _ = pChance (sdM dn (sg se tm gs) ffrees fprices sn) qi_43 (nI (k2_44 % 2)) from by rw [show k2_44 % 2 = 1 by omega]; exact hw_66.trans (mChance (fpr := fprices) (show qi_43 < dn sn by omega))) (by rw [if_neg hw_49, ← hps_2, ex_60]; exact congrArg (fun z => 0 + z) (by have h9 := hv_43.2 (2 * (k2_44 / 2) + 3) (by omega) (by omega); rw [show (2 * (k2_44 / 2) + 3) / 2 = (k2_44 / 2) + 1 by omega, show (2 * (k2_44 / 2) + 3) % 2 = 1 by omega] at h9; exact h9)) (by rw [← hps_2, ex_67]; exact congrArg (fun z => 0 + z) (by have h9 := hv_43.2 (2 * (k2_44 / 2)) (by omega) (by omega); rw [show (2 * (k2_44 / 2)) / 2 = (k2_44 / 2) by omega, show (2 * (k2_44 / 2)) % 2 = 0 by omega] at h9; exact h9)) hw_68
                  exact ih_44 _ (k2_44 + 1, (upd fb4_44 k2_44 r_68)) _ _ _ (by omega) ⟨rfl, ⟨by omega, la_updc (F := fun k => mV (sdM dn (sg se tm gs) ffrees fprices sn) (ruM bm fbarSeen fbarFrom fruleRounds kr) wh q_3 r_39 (dn sn - qi_43) (k / 2) (k % 2)) (P := fun k => k / 2 + (dn sn - qi_43) ≤ 25) hv_44.2 hx_44⟩, hP, hD, hS, (lv_sub hl [0, 3, 4, 5, 6, 7, 8, 9, 10, 11, 12, 13] rfl)⟩
        · have c_42 : ¬ (52 ≤ kk_41) := fun h => c_42 ((nI_leI (a := 52) (b := kk_41) (by omega) (by omega)).mpr h)
          refine lv_aload_n hx hb dX8_meanOf_106 rfl (lv_at hl 7 rfl) ?_
          refine va_get (D := D) (ci := 8) (v := .ref (a 29)) (C := RX8) (T := TX8) (N := 44) hx hb hts inX8 hown hK hP 0 rfl rfl 28 (by decide) (hts _ tw_1001) (fun _ h9 => h9) rfl dX8_meanOf_107 ?_
          refine lv_iload hx hb dX8_meanOf_110 (lv_at hl 0 rfl) ?_
          refine lv_iload hx hb dX8_meanOf_112 (lv_at hl 1 rfl) ?_
          refine va_iast hx hb hK hP hD hS 9 1 rfl rfl (vp_in_nI (by omega) (by decide)) dX8_meanOf_114 (fun H locs hP hD hS => ?_)
          have hQ9 := pd_mk [((a 0), .inr (8, (fX8 a (nI tx) fp (nI t0) wd (nI we) nu na (nI rd) ts (nI ru) (nI rw) (nI ca) df db sd))), (aI k (a 1) 3 (nF dn)), (aI k (a 4) 27 (sg se tm gs)), (aI k (a 2) 72 ffrees), (aI k (a 3) 72 fprices), (aI k (a 25) 4 (nF bm)), (aI k (a 26) 48 fbarSeen), (aI k (a 27) 48 fbarFrom), (aI k (a 28) 4 fruleRounds), (aI k (a 29) 52 (upd ff2_41 (Int32.toNatClampNeg (nI kk_41)) r_39)), (aI k (a 30) 52 fb_3)] hP hD
          clear hP hD
          obtain ⟨hP, hD⟩ := hQ9
          rw [nI_clamp (n := kk_41) (by omega)] at hP hD
          have hQ9 := pd_mk [((a 0), .inr (8, (fX8 a (nI tx) fp (nI t0) wd (nI we) nu na (nI rd) ts (nI ru) (nI rw) (nI ca) df db sd))), (aI k (a 1) 3 (nF dn)), (aI k (a 4) 27 (sg se tm gs)), (aI k (a 2) 72 ffrees), (aI k (a 3) 72 fprices), (aI k (a 25) 4 (nF bm)), (aI k (a 26) 48 fbarSeen), (aI k (a 27) 48 fbarFrom), (aI k (a 28) 4 fruleRounds), (aI k (a 29) 52 (upd ff2_41 kk_41 r_39)), (aI k (a 30) 52 fb_3)] hP hD
          clear hP hD
          obtain ⟨hP, hD⟩ := hQ9
          refine lv_iinc (v := (nI (kk_41 + 1))) (lv' := [(10, .int (nI (kk_41 + 1))), (9, .int r_39), (8, .int 0), (7, .int (nI q_3)), (6, .int bg_3), (5, .int 0), (4, .int (nI (dn sn))), (0, .ref (a 0)), (1, .int (nI sn)), (2, .int (nI kr)), (3, .int (nI wh))]) hx hb dX8_meanOf_115 hl (k := 0) rfl (nI_add kk_41 1) (by decide) rfl (fun ls hl => ?_)
          refine lv_goto (tgt := 99) hx hb dX8_meanOf_118 (by decide) ?_
          exact ih_41 _ (kk_41 + 1, (upd ff2_41 kk_41 r_39)) _ _ _ (by omega) ⟨rfl, ⟨by omega, la_upd (F := fun _ => r_39) hv_41.2 rfl⟩, hP, hD, hS, (lv_sub hl [0, 1, 2, 3, 4, 5, 6, 7, 8, 9, 10] rfl)⟩
  · have c_1 := (nI_eq (a := wh) (b := 0) (by omega) (by omega)).mp c_1
    refine lv_aload_n hx hb dX8_meanOf_12 rfl (lv_at hl 1 rfl) ?_
    refine lv_iload_n hx hb dX8_meanOf_13 rfl (lv_at hl 2 rfl) ?_
    refine lv_iconst (v := 2) hx hb dX8_meanOf_14 (by decide) ?_
    refine ro_i (D := D) (va_runV (As := [.int (nI sn), .int 2]) (rest := []) ⟨hx, hb, hml, hown, hts⟩ ((m_of l D k st lo a tx t0 we rd ru rw ca fp wd nu na ts df db sd se tm gs sn 2 (by first | assumption | omega) (by first | assumption | omega)) s.heap.size) (cwV 2 hts (gV tw_1194 tw_1196 tw_39 tw_87 tw_1197) rfl rfl rfl (by decide +kernel) ⟨Nat.le_of_ble_eq_true rfl, Nat.le_of_ble_eq_true rfl⟩) (pV hS hAlo hlo hP hK (va_Dlo hD hAlo) hZ [0, 2] (by decide) rfl (ci := 8) (q := (RX8, TX8, 44)) (q0 := 0) rfl rfl) rfl rfl hl.1 rfl (lv_room (Nat.le_of_ble_eq_true rfl)) dX8_meanOf_15 ⟨Nat.le_of_ble_eq_true rfl, Nat.le_of_ble_eq_true rfl⟩) hS hA hP (fun r_71 H locs hw_71 hP hS => ?_)
    try dsimp only at hw_71
    refine lv_sipush (v := 1000) hx hb dX8_meanOf_18 (by decide) ?_
    refine lv_imul hx hb dX8_meanOf_21 ?_
    refine lv_topi (fun x_72 ex_72 => ?_)
    refine lv_goto (tgt := 26) hx hb dX8_meanOf_22 (by decide) ?_
    have hps_73 : x_72 = pPs (sdM dn (sg se tm gs) ffrees fprices sn) wh := by unfold pPs; rw [if_pos (by omega), ex_72, hw_71]; exact mPass
    refine lv_istore (lv' := [(5, .int x_72), (4, .int (nI (dn sn))), (0, .ref (a 0)), (1, .int (nI sn)), (2, .int (nI kr)), (3, .int (nI wh))]) hx hb dX8_meanOf_26 hl (by decide) rfl (fun ls hl => ?_)
    refine lv_iconst (v := 0) hx hb dX8_meanOf_28 (by decide) ?_
    refine lv_istore (lv' := [(6, .int 0), (5, .int x_72), (4, .int (nI (dn sn))), (0, .ref (a 0)), (1, .int (nI sn)), (2, .int (nI kr)), (3, .int (nI wh))]) hx hb dX8_meanOf_29 hl (by decide) rfl (fun ls hl => ?_)
    refine lv_iconst (v := 3) hx hb dX8_meanOf_31 (by decide) ?_
    refine lv_istore (lv' := [(7, .int 3), (6, .int 0), (5, .int x_72), (4, .int (nI (dn sn))), (0, .ref (a 0)), (1, .int (nI sn)), (2, .int (nI kr)), (3, .int (nI wh))]) hx hb dX8_meanOf_32 hl (by decide) rfl (fun ls hl => ?_)
    refine W_loop (σ := Nat × Int32 × (Nat → Int32) × (Nat → Int32)) (fun (n_ : Nat) (x_ : Nat × Int32 × (Nat → Int32) × (Nat → Int32)) (H : Heap) (locs : List Loc) (ls : Array Slot) => match x_ with | (q_74, bg_74, ff_74, fb_74) => n_ = 2 * q_74 ∧ (q_74 ≤ 4 ∧ (q_74 ≤ (min rx (tm sn)) → bg_74 = mR (sdM dn (sg se tm gs) ffrees fprices sn) (ruM bm fbarSeen fbarFrom fruleRounds kr) wh (min rx (tm sn)) ((min rx (tm sn)) - q_74))) ∧ va_P D classes [((a 0), .inr (8, (fX8 a (nI tx) fp (nI t0) wd (nI we) nu na (nI rd) ts (nI ru) (nI rw) (nI ca) df db sd))), (aI k (a 1) 3 (nF dn)), (aI k (a 4) 27 (sg se tm gs)), (aI k (a 2) 72 ffrees), (aI k (a 3) 72 fprices), (aI k (a 25) 4 (nF bm)), (aI k (a 26) 48 fbarSeen), (aI k (a 27) 48 fbarFrom), (aI k (a 28) 4 fruleRounds), (aI k (a 29) 52 ff_74), (aI k (a 30) 52 fb_74)] H ∧ va_D A [((a 0), .inr (8, (fX8 a (nI tx) fp (nI t0) wd (nI we) nu na (nI rd) ts (nI ru) (nI rw) (nI ca) df db sd))), (aI k (a 1) 3 (nF dn)), (aI k (a 4) 27 (sg se tm gs)), (aI k (a 2) 72 ffrees), (aI k (a 3) 72 fprices), (aI k (a 25) 4 (nF bm)), (aI k (a 26) 48 fbarSeen), (aI k (a 27) 48 fbarFrom), (aI k (a 28) 4 fruleRounds), (aI k (a 29) 52 ff_74), (aI k (a 30) 52 fb_74)] ∧ va_S A s.heap H locs ∧ lv_has ls 14 [(7, .int (nI q_74 - 1)), (6, .int bg_74), (5, .int x_72), (4, .int (nI (dn sn))), (0, .ref (a 0)), (1, .int (nI sn)), (2, .int (nI kr)), (3, .int (nI wh))]) (fun n_74 x_74 H locs ls hI ih_74 => ?_) _ (4, 0, ffollows, fbefore) ⟨rfl, ⟨by omega, fun h => absurd h (by omega)⟩, hP, hD, hS, (by rw [nI_pred]; exact lv_sub hl [0, 1, 2, 3, 4, 5, 6, 7] rfl)⟩
    obtain ⟨q_74, bg_74, ff_74, fb_74⟩ := x_74
    obtain ⟨hm_74, hv_74, hP, hD, hS, hl⟩ := hI
    subst hm_74
    rcases q_74 with _ | q_74
    · rw [dn0] at hl
      refine lv_iload hx hb dX8_meanOf_34 (lv_at hl 0 rfl) ?_
      refine lv_if_lt (tgt := 289) hx hb dX8_meanOf_36 (by decide) (fun _ => ?_) (fun h => absurd (by decide) h)
      refine lv_iload hx hb dX8_meanOf_289 (lv_at hl 1 rfl) ?_
      obtain ⟨hP9, hD9⟩ := pd_sub [((a 0), .inr (8, (fX8 a (nI tx) fp (nI t0) wd (nI we) nu na (nI rd) ts (nI ru) (nI rw) (nI ca) df db sd))), (aI k (a 1) 3 (nF dn)), (aI k (a 4) 27 (sg se tm gs)), (aI k (a 2) 72 ffrees), (aI k (a 3) 72 fprices), (aI k (a 25) 4 (nF bm)), (aI k (a 26) 48 fbarSeen), (aI k (a 27) 48 fbarFrom), (aI k (a 28) 4 fruleRounds), (aI k (a 29) 52 ff_74), (aI k (a 30) 52 fb_74)] [0, 1, 2, 3, 4, 5, 6, 7, 8, 9, 10] hP hD (by decide +kernel) rfl
      exact W.iret (v := bg_74) hx hb hr (fun t ht hW => ⟨⟨bg_74, (ff_74, fb_74), rfl, hv_74.2 (Nat.zero_le _), by rw [ht]; exact hP9, hD9⟩, hS.F ht⟩) hS.2.2 dX8_meanOf_291
    · rw [nI_pred] at hl
      refine lv_iload hx hb dX8_meanOf_34 (lv_at hl 0 rfl) ?_
      refine lv_if_lt (tgt := 289) hx hb dX8_meanOf_36 (by decide) (fun h => absurd h (nI_pos0 (by omega))) (fun _ => ?_)
      refine lv_iload_n hx hb dX8_meanOf_39 rfl (lv_at hl 7 rfl) ?_
      refine lv_if_ne (tgt := 64) hx hb dX8_meanOf_40 (by decide) (fun h => absurd ((nI_eq (a := wh) (b := 0) (by omega) (by omega)).mpr (by omega)) h) (fun _ => ?_)
      refine lv_aload_n hx hb dX8_meanOf_43 rfl (lv_at hl 4 rfl) ?_
      refine lv_iload_n hx hb dX8_meanOf_44 rfl (lv_at hl 5 rfl) ?_
      refine lv_iconst (v := 2) hx hb dX8_meanOf_45 (by decide) ?_
      refine ro_i (D := D) (va_runV (As := [.int (nI sn), .int 2]) (rest := []) ⟨hx, hb, hml, hown, hts⟩ ((m_of l D k st lo a tx t0 we rd ru rw ca fp wd nu na ts df db sd se tm gs sn 2 (by first | assumption | omega) (by first | assumption | omega)) H.size) (cwV 2 hts (gV tw_1194 tw_1196 tw_39 tw_87 tw_1197) rfl rfl rfl (by decide +kernel) ⟨Nat.le_of_ble_eq_true rfl, Nat.le_of_ble_eq_true rfl⟩) (pV hS hAlo hlo hP hK (va_Dlo hD hAlo) hZ [0, 2] (by decide) rfl (ci := 8) (q := (RX8, TX8, 44)) (q0 := 0) rfl rfl) rfl rfl hl.1 rfl (lv_room (Nat.le_of_ble_eq_true rfl)) dX8_meanOf_46 ⟨Nat.le_of_ble_eq_true rfl, Nat.le_of_ble_eq_true rfl⟩) hS hA hP (fun r_76 H locs hw_76 hP hS => ?_)
      try dsimp only at hw_76
      refine lv_aload_n hx hb dX8_meanOf_49 rfl (lv_at hl 4 rfl) ?_
      refine lv_iload_n hx hb dX8_meanOf_50 rfl (lv_at hl 5 rfl) ?_
      refine lv_bipush (v := 6) hx hb dX8_meanOf_51 (by decide) ?_
      refine ro_i (D := D) (va_runV (As := [.int (nI sn), .int 6]) (rest := [.int r_76]) ⟨hx, hb, hml, hown, hts⟩ ((m_of l D k st lo a tx t0 we rd ru rw ca fp wd nu na ts df db sd se tm gs sn 6 (by first | assumption | omega) (by first | assumption | omega)) H.size) (cwV 2 hts (gV tw_1194 tw_1196 tw_39 tw_87 tw_1197) rfl rfl rfl (by decide +kernel) ⟨Nat.le_of_ble_eq_true rfl, Nat.le_of_ble_eq_true rfl⟩) (pV hS hAlo hlo hP hK (va_Dlo hD hAlo) hZ [0, 2] (by decide) rfl (ci := 8) (q := (RX8, TX8, 44)) (q0 := 0) rfl rfl) rfl rfl hl.1 rfl (lv_room (Nat.le_of_ble_eq_true rfl)) dX8_meanOf_53 ⟨Nat.le_of_ble_eq_true rfl, Nat.le_of_ble_eq_true rfl⟩) hS hA hP (fun r_77 H locs hw_77 hP hS => ?_)
      try dsimp only at hw_77
      refine lv_imul hx hb dX8_meanOf_56 ?_
      refine lv_topi (fun x_78 ex_78 => ?_)
      refine lv_sipush (v := 1000) hx hb dX8_meanOf_57 (by decide) ?_
      refine lv_imul hx hb dX8_meanOf_60 ?_
      refine lv_topi (fun x_79 ex_79 => ?_)
      refine lv_goto (tgt := 65) hx hb dX8_meanOf_61 (by decide) ?_
      have hgo_80 : x_79 = pRs (sdM dn (sg se tm gs) ffrees fprices sn) wh := by unfold pRs; rw [if_pos (by omega), ex_79, ex_78, hw_76, hw_77]; exact mRnd
      refine lv_istore (lv' := [(8, .int x_79), (7, .int (nI q_74)), (6, .int bg_74), (5, .int x_72), (4, .int (nI (dn sn))), (0, .ref (a 0)), (1, .int (nI sn)), (2, .int (nI kr)), (3, .int (nI wh))]) hx hb dX8_meanOf_65 hl (by decide) rfl (fun ls hl => ?_)
      refine lv_aload_n hx hb dX8_meanOf_67 rfl (lv_at hl 5 rfl) ?_
      refine lv_iload_n hx hb dX8_meanOf_68 rfl (lv_at hl 6 rfl) ?_
      refine lv_iload_n hx hb dX8_meanOf_69 rfl (lv_at hl 7 rfl) ?_
      refine lv_iload hx hb dX8_meanOf_70 (lv_at hl 1 rfl) ?_
      refine ro_i (D := D) (va_runV (As := [.int (nI sn), .int (nI kr), .int (nI q_74)]) (rest := []) ⟨hx, hb, hml, hown, hts⟩ ((n_isRoundBy l D k st lo a tx t0 we rd ru rw ca fp wd nu na ts df db sd se tm gs fruleRounds sn kr q_74 rx htm (by first | assumption | omega) (by first | assumption | omega) (by first | assumption | omega) hrx (by first | assumption | omega)) H.size) (cwV 3 hts (gV tw_1329 tw_1331 tw_59 tw_87 tw_1332) rfl rfl rfl (by decide +kernel) ⟨Nat.le_of_ble_eq_true rfl, Nat.le_of_ble_eq_true rfl⟩) (pV hS hAlo hlo hP hK (va_Dlo hD hAlo) hZ [0, 2, 8] (by decide) rfl (ci := 8) (q := (RX8, TX8, 44)) (q0 := 0) rfl rfl) rfl rfl hl.1 rfl (lv_room (Nat.le_of_ble_eq_true rfl)) dX8_meanOf_72 ⟨Nat.le_of_ble_eq_true rfl, Nat.le_of_ble_eq_true rfl⟩) hS hA hP (fun r_81 H locs hw_81 hP hS => ?_)
      try dsimp only at hw_81
      rcases hw_81 with ⟨rfl, hw_81⟩ | ⟨rfl, hw_81⟩
      · refine lv_if_eq (tgt := 86) hx hb dX8_meanOf_75 (by decide) (fun h => absurd h (by decide)) (fun _ => ?_)
        refine lv_iload hx hb dX8_meanOf_78 (lv_at hl 0 rfl) ?_
        refine lv_iload hx hb dX8_meanOf_80 (lv_at hl 2 rfl) ?_
        refine lv_iadd hx hb dX8_meanOf_82 ?_
        refine lv_topi (fun x_82 ex_82 => ?_)
        refine lv_goto (tgt := 94) hx hb dX8_meanOf_83 (by decide) ?_
        have he_83 : x_82 = pRs (sdM dn (sg se tm gs) ffrees fprices sn) wh + mR (sdM dn (sg se tm gs) ffrees fprices sn) (ruM bm fbarSeen fbarFrom fruleRounds kr) wh (min rx (tm sn)) ((min rx (tm sn)) - (q_74 + 1)) := by rw [ex_82, ← hgo_80]; exact congrArg (fun z => x_79 + z) (hv_74.2 (by omega))
        refine lv_istore (lv' := [(9, .int x_82), (8, .int x_79), (7, .int (nI q_74)), (6, .int bg_74), (5, .int x_72), (4, .int (nI (dn sn))), (0, .ref (a 0)), (1, .int (nI sn)), (2, .int (nI kr)), (3, .int (nI wh))]) hx hb dX8_meanOf_94 hl (by decide) rfl (fun ls hl => ?_)
        refine lv_iconst (v := 0) hx hb dX8_meanOf_96 (by decide) ?_
        refine lv_istore (lv' := [(10, .int 0), (9, .int x_82), (8, .int x_79), (7, .int (nI q_74)), (6, .int bg_74), (5, .int x_72), (4, .int (nI (dn sn))), (0, .ref (a 0)), (1, .int (nI sn)), (2, .int (nI kr)), (3, .int (nI wh))]) hx hb dX8_meanOf_97 hl (by decide) rfl (fun ls hl => ?_)
        refine W_loop (σ := Nat × (Nat → Int32)) (fun (n_ : Nat) (x_ : Nat × (Nat → Int32)) (H : Heap) (locs : List Loc) (ls : Array Slot) => match x_ with | (kk_84, ff2_84) => n_ = 52 - kk_84 ∧ (kk_84 ≤ 52 ∧ ∀ k, k < kk_84 → ff2_84 k = x_82) ∧ va_P D classes [((a 0), .inr (8, (fX8 a (nI tx) fp (nI t0) wd (nI we) nu na (nI rd) ts (nI ru) (nI rw) (nI ca) df db sd))), (aI k (a 1) 3 (nF dn)), (aI k (a 4) 27 (sg se tm gs)), (aI k (a 2) 72 ffrees), (aI k (a 3) 72 fprices), (aI k (a 25) 4 (nF bm)), (aI k (a 26) 48 fbarSeen), (aI k (a 27) 48 fbarFrom), (aI k (a 28) 4 fruleRounds), (aI k (a 29) 52 ff2_84), (aI k (a 30) 52 fb_74)] H ∧ va_D A [((a 0), .inr (8, (fX8 a (nI tx) fp (nI t0) wd (nI we) nu na (nI rd) ts (nI ru) (nI rw) (nI ca) df db sd))), (aI k (a 1) 3 (nF dn)), (aI k (a 4) 27 (sg se tm gs)), (aI k (a 2) 72 ffrees), (aI k (a 3) 72 fprices), (aI k (a 25) 4 (nF bm)), (aI k (a 26) 48 fbarSeen), (aI k (a 27) 48 fbarFrom), (aI k (a 28) 4 fruleRounds), (aI k (a 29) 52 ff2_84), (aI k (a 30) 52 fb_74)] ∧ va_S A s.heap H locs ∧ lv_has ls 14 [(10, .int (nI kk_84)), (9, .int x_82), (8, .int x_79), (7, .int (nI q_74)), (6, .int bg_74), (5, .int x_72), (4, .int (nI (dn sn))), (0, .ref (a 0)), (1, .int (nI sn)), (2, .int (nI kr)), (3, .int (nI wh))]) (fun n_84 x_84 H locs ls hI ih_84 => ?_) _ (0, ff_74) ⟨rfl, ⟨by omega, fun k h => absurd h (Nat.not_lt_zero k)⟩, hP, hD, hS, (lv_sub hl [0, 1, 2, 3, 4, 5, 6, 7, 8, 9, 10] rfl)⟩
        obtain ⟨kk_84, ff2_84⟩ := x_84
        obtain ⟨hm_84, hv_84, hP, hD, hS, hl⟩ := hI
        subst hm_84
        refine lv_iload hx hb dX8_meanOf_99 (lv_at hl 0 rfl) ?_
        refine lv_bipush (v := 52) hx hb dX8_meanOf_101 (by decide) ?_
        refine lv_icmp_ge (tgt := 121) hx hb dX8_meanOf_103 (by decide) (fun c_85 => ?_) (fun c_85 => ?_)
        · have c_85 := (nI_leI (a := 52) (b := kk_84) (by omega) (by omega)).mp c_85
          refine lv_iload hx hb dX8_meanOf_121 (lv_at hl 6 rfl) ?_
          refine lv_iconst (v := 1) hx hb dX8_meanOf_123 (by decide) ?_
          refine lv_isub hx hb dX8_meanOf_124 ?_
          refine lv_ti (y := (nI (dn sn) - 1)) rfl ?_
          refine lv_istore (lv' := [(10, .int (nI (dn sn) - 1)), (9, .int x_82), (8, .int x_79), (7, .int (nI q_74)), (6, .int bg_74), (5, .int x_72), (4, .int (nI (dn sn))), (0, .ref (a 0)), (1, .int (nI sn)), (2, .int (nI kr)), (3, .int (nI wh))]) hx hb dX8_meanOf_125 hl (by decide) rfl (fun ls hl => ?_)
          refine W_loop (σ := Nat × (Nat → Int32) × (Nat → Int32)) (fun (n_ : Nat) (x_ : Nat × (Nat → Int32) × (Nat → Int32)) (H : Heap) (locs : List Loc) (ls : Array Slot) => match x_ with | (qi_86, ff3_86, fb3_86) => n_ = 2 * qi_86 ∧ (qi_86 ≤ dn sn ∧ ∀ k, k < 52 → k / 2 + (dn sn - qi_86) ≤ 25 → ff3_86 k = mV (sdM dn (sg se tm gs) ffrees fprices sn) (ruM bm fbarSeen fbarFrom fruleRounds kr) wh q_74 x_82 (dn sn - qi_86) (k / 2) (k % 2)) ∧ va_P D classes [((a 0), .inr (8, (fX8 a (nI tx) fp (nI t0) wd (nI we) nu na (nI rd) ts (nI ru) (nI rw) (nI ca) df db sd))), (aI k (a 1) 3 (nF dn)), (aI k (a 4) 27 (sg se tm gs)), (aI k (a 2) 72 ffrees), (aI k (a 3) 72 fprices), (aI k (a 25) 4 (nF bm)), (aI k (a 26) 48 fbarSeen), (aI k (a 27) 48 fbarFrom), (aI k (a 28) 4 fruleRounds), (aI k (a 29) 52 ff3_86), (aI k (a 30) 52 fb3_86)] H ∧ va_D A [((a 0), .inr (8, (fX8 a (nI tx) fp (nI t0) wd (nI we) nu na (nI rd) ts (nI ru) (nI rw) (nI ca) df db sd))), (aI k (a 1) 3 (nF dn)), (aI k (a 4) 27 (sg se tm gs)), (aI k (a 2) 72 ffrees), (aI k (a 3) 72 fprices), (aI k (a 25) 4 (nF bm)), (aI k (a 26) 48 fbarSeen), (aI k (a 27) 48 fbarFrom), (aI k (a 28) 4 fruleRounds), (aI k (a 29) 52 ff3_86), (aI k (a 30) 52 fb3_86)] ∧ va_S A s.heap H locs ∧ lv_has ls 14 [(10, .int (nI qi_86 - 1)), (9, .int x_82), (8, .int x_79), (7, .int (nI q_74)), (6, .int bg_74), (5, .int x_72), (4, .int (nI (dn sn))), (0, .ref (a 0)), (1, .int (nI sn)), (2, .int (nI kr)), (3, .int (nI wh))]) (fun n_86 x_86 H locs ls hI ih_86 => ?_) _ (dn sn, ff2_84, fb_74) ⟨rfl, ⟨by omega, fun k hk _ => by rw [Nat.sub_self]; exact hv_84.2 k (by omega)⟩, hP, hD, hS, (lv_sub hl [0, 1, 2, 3, 4, 5, 6, 7, 8, 9, 10] rfl)⟩
          obtain ⟨qi_86, ff3_86, fb3_86⟩ := x_86
          obtain ⟨hm_86, hv_86, hP, hD, hS, hl⟩ := hI
          subst hm_86
          rcases qi_86 with _ | qi_86
          · rw [dn0] at hl
            refine lv_iload hx hb dX8_meanOf_127 (lv_at hl 0 rfl) ?_
            refine lv_if_lt (tgt := 275) hx hb dX8_meanOf_129 (by decide) (fun _ => ?_) (fun h => absurd (by decide) h)
            refine lv_aload_n hx hb dX8_meanOf_275 rfl (lv_at hl 7 rfl) ?_
            refine va_get (D := D) (ci := 8) (v := .ref (a 29)) (C := RX8) (T := TX8) (N := 44) hx hb hts inX8 hown hK hP 0 rfl rfl 28 (by decide) (hts _ tw_1001) (fun _ h9 => h9) rfl dX8_meanOf_276 ?_
            refine lv_iconst (v := 0) hx hb dX8_meanOf_279 (by decide) ?_
            refine va_iald hx hb hK hP 9 1 rfl rfl (by unfold vp_in; decide) dX8_meanOf_280 ?_
            refine lv_ti (y := (ff3_86 0)) (by rfl) ?_
            refine lv_istore (lv' := [(6, .int (ff3_86 0)), (10, .int (-1)), (9, .int x_82), (8, .int x_79), (7, .int (nI q_74)), (5, .int x_72), (4, .int (nI (dn sn))), (0, .ref (a 0)), (1, .int (nI sn)), (2, .int (nI kr)), (3, .int (nI wh))]) hx hb dX8_meanOf_281 hl (by decide) rfl (fun ls hl => ?_)
            refine lv_iinc (v := (nI q_74 - 1)) (lv' := [(7, .int (nI q_74 - 1)), (6, .int (ff3_86 0)), (10, .int (-1)), (9, .int x_82), (8, .int x_79), (5, .int x_72), (4, .int (nI (dn sn))), (0, .ref (a 0)), (1, .int (nI sn)), (2, .int (nI kr)), (3, .int (nI wh))]) hx hb dX8_meanOf_283 hl (k := 4) rfl (dn1 _) (by decide) rfl (fun ls hl => ?_)
            refine lv_goto (tgt := 34) hx hb dX8_meanOf_286 (by decide) ?_
            exact ih_74 _ (q_74, (ff3_86 0), ff3_86, fb3_86) _ _ _ (by omega) ⟨rfl, ⟨by omega, fun h => (show ff3_86 0 = mV (sdM dn (sg se tm gs) ffrees fprices sn) (ruM bm fbarSeen fbarFrom fruleRounds kr) wh q_74 x_82 (dn sn) 0 0 from hv_86.2 0 (by omega) (by omega)).trans (mr_of h (fun _ => he_83) (fun h => absurd h (by omega)))⟩, hP, hD, hS, (lv_sub hl [0, 1, 5, 6, 7, 8, 9, 10] rfl)⟩
          · rw [nI_pred] at hl
            refine lv_iload hx hb dX8_meanOf_127 (lv_at hl 0 rfl) ?_
            refine lv_if_lt (tgt := 275) hx hb dX8_meanOf_129 (by decide) (fun h => absurd h (nI_pos0 (by omega))) (fun _ => ?_)
            refine lv_iconst (v := 0) hx hb dX8_meanOf_132 (by decide) ?_
            refine lv_istore (lv' := [(11, .int 0), (10, .int (nI qi_86)), (9, .int x_82), (8, .int x_79), (7, .int (nI q_74)), (6, .int bg_74), (5, .int x_72), (4, .int (nI (dn sn))), (0, .ref (a 0)), (1, .int (nI sn)), (2, .int (nI kr)), (3, .int (nI wh))]) hx hb dX8_meanOf_133 hl (by decide) rfl (fun ls hl => ?_)
            refine W_loop (σ := Nat × (Nat → Int32)) (fun (n_ : Nat) (x_ : Nat × (Nat → Int32)) (H : Heap) (locs : List Loc) (ls : Array Slot) => match x_ with | (k2_87, fb4_87) => n_ = 50 - k2_87 ∧ (k2_87 ≤ 50 ∧ ∀ k, k < k2_87 → k / 2 + (dn sn - qi_86) ≤ 25 → fb4_87 k = mV (sdM dn (sg se tm gs) ffrees fprices sn) (ruM bm fbarSeen fbarFrom fruleRounds kr) wh q_74 x_82 (dn sn - qi_86) (k / 2) (k % 2)) ∧ va_P D classes [((a 0), .inr (8, (fX8 a (nI tx) fp (nI t0) wd (nI we) nu na (nI rd) ts (nI ru) (nI rw) (nI ca) df db sd))), (aI k (a 1) 3 (nF dn)), (aI k (a 4) 27 (sg se tm gs)), (aI k (a 2) 72 ffrees), (aI k (a 3) 72 fprices), (aI k (a 25) 4 (nF bm)), (aI k (a 26) 48 fbarSeen), (aI k (a 27) 48 fbarFrom), (aI k (a 28) 4 fruleRounds), (aI k (a 29) 52 ff3_86), (aI k (a 30) 52 fb4_87)] H ∧ va_D A [((a 0), .inr (8, (fX8 a (nI tx) fp (nI t0) wd (nI we) nu na (nI rd) ts (nI ru) (nI rw) (nI ca) df db sd))), (aI k (a 1) 3 (nF dn)), (aI k (a 4) 27 (sg se tm gs)), (aI k (a 2) 72 ffrees), (aI k (a 3) 72 fprices), (aI k (a 25) 4 (nF bm)), (aI k (a 26) 48 fbarSeen), (aI k (a 27) 48 fbarFrom), (aI k (a 28) 4 fruleRounds), (aI k (a 29) 52 ff3_86), (aI k (a 30) 52 fb4_87)] ∧ va_S A s.heap H locs ∧ lv_has ls 14 [(11, .int (nI k2_87)), (10, .int (nI qi_86)), (9, .int x_82), (8, .int x_79), (7, .int (nI q_74)), (6, .int bg_74), (5, .int x_72), (4, .int (nI (dn sn))), (0, .ref (a 0)), (1, .int (nI sn)), (2, .int (nI kr)), (3, .int (nI wh))]) (fun n_87 x_87 H locs ls hI ih_87 => ?_) _ (0, fb3_86) ⟨rfl, ⟨by omega, fun k h => absurd h (Nat.not_lt_zero k)⟩, hP, hD, hS, (lv_sub hl [0, 1, 2, 3, 4, 5, 6, 7, 8, 9, 10, 11] rfl)⟩
            obtain ⟨k2_87, fb4_87⟩ := x_87
            obtain ⟨hm_87, hv_87, hP, hD, hS, hl⟩ := hI
            subst hm_87
            refine lv_iload hx hb dX8_meanOf_135 (lv_at hl 0 rfl) ?_
            refine lv_bipush (v := 50) hx hb dX8_meanOf_137 (by decide) ?_
            refine lv_icmp_ge (tgt := 239) hx hb dX8_meanOf_139 (by decide) (fun c_88 => ?_) (fun c_88 => ?_)
            · have c_88 := (nI_leI (a := 50) (b := k2_87) (by omega) (by omega)).mp c_88
              refine lv_iconst (v := 0) hx hb dX8_meanOf_239 (by decide) ?_
              refine lv_istore (lv' := [(11, .int 0), (10, .int (nI qi_86)), (9, .int x_82), (8, .int x_79), (7, .int (nI q_74)), (6, .int bg_74), (5, .int x_72), (4, .int (nI (dn sn))), (0, .ref (a 0)), (1, .int (nI sn)), (2, .int (nI kr)), (3, .int (nI wh))]) hx hb dX8_meanOf_240 hl (by decide) rfl (fun ls hl => ?_)
              refine W_loop (σ := Nat × (Nat → Int32)) (fun (n_ : Nat) (x_ : Nat × (Nat → Int32)) (H : Heap) (locs : List Loc) (ls : Array Slot) => match x_ with | (k3_89, ff5_89) => n_ = 50 - k3_89 ∧ (k3_89 ≤ 50 ∧ (∀ k, k < k3_89 → k / 2 + (dn sn - qi_86) ≤ 25 → ff5_89 k = mV (sdM dn (sg se tm gs) ffrees fprices sn) (ruM bm fbarSeen fbarFrom fruleRounds kr) wh q_74 x_82 (dn sn - qi_86) (k / 2) (k % 2)) ∧ True) ∧ va_P D classes [((a 0), .inr (8, (fX8 a (nI tx) fp (nI t0) wd (nI we) nu na (nI rd) ts (nI ru) (nI rw) (nI ca) df db sd))), (aI k (a 1) 3 (nF dn)), (aI k (a 4) 27 (sg se tm gs)), (aI k (a 2) 72 ffrees), (aI k (a 3) 72 fprices), (aI k (a 25) 4 (nF bm)), (aI k (a 26) 48 fbarSeen), (aI k (a 27) 48 fbarFrom), (aI k (a 28) 4 fruleRounds), (aI k (a 29) 52 ff5_89), (aI k (a 30) 52 fb4_87)] H ∧ va_D A [((a 0), .inr (8, (fX8 a (nI tx) fp (nI t0) wd (nI we) nu na (nI rd) ts (nI ru) (nI rw) (nI ca) df db sd))), (aI k (a 1) 3 (nF dn)), (aI k (a 4) 27 (sg se tm gs)), (aI k (a 2) 72 ffrees), (aI k (a 3) 72 fprices), (aI k (a 25) 4 (nF bm)), (aI k (a 26) 48 fbarSeen), (aI k (a 27) 48 fbarFrom), (aI k (a 28) 4 fruleRounds), (aI k (a 29) 52 ff5_89), (aI k (a 30) 52 fb4_87)] ∧ va_S A s.heap H locs ∧ lv_has ls 14 [(11, .int (nI k3_89)), (10, .int (nI qi_86)), (9, .int x_82), (8, .int x_79), (7, .int (nI q_74)), (6, .int bg_74), (5, .int x_72), (4, .int (nI (dn sn))), (0, .ref (a 0)), (1, .int (nI sn)), (2, .int (nI kr)), (3, .int (nI wh))]) (fun n_89 x_89 H locs ls hI ih_89 => ?_) _ (0, ff3_86) ⟨rfl, ⟨by omega, fun k h => absurd h (Nat.not_lt_zero k), trivial⟩, hP, hD, hS, (lv_sub hl [0, 1, 2, 3, 4, 5, 6, 7, 8, 9, 10, 11] rfl)⟩
              obtain ⟨k3_89, ff5_89⟩ := x_89
              obtain ⟨hm_89, hv_89, hP, hD, hS, hl⟩ := hI
              subst hm_89
              refine lv_iload hx hb dX8_meanOf_242 (lv_at hl 0 rfl) ?_
              refine lv_bipush (v := 50) hx hb dX8_meanOf_244 (by decide) ?_
              refine lv_icmp_ge (tgt := 269) hx hb dX8_meanOf_246 (by decide) (fun c_90 => ?_) (fun c_90 => ?_)
              · have c_90 := (nI_leI (a := 50) (b := k3_89) (by omega) (by omega)).mp c_90
                refine lv_iinc (v := (nI qi_86 - 1)) (lv' := [(10, .int (nI qi_86 - 1)), (11, .int (nI k3_89)), (9, .int x_82), (8, .int x_79), (7, .int (nI q_74)), (6, .int bg_74), (5, .int x_72), (4, .int (nI (dn sn))), (0, .ref (a 0)), (1, .int (nI sn)), (2, .int (nI kr)), (3, .int (nI wh))]) hx hb dX8_meanOf_269 hl (k := 1) rfl (dn1 _) (by decide) rfl (fun ls hl => ?_)
                refine lv_goto (tgt := 127) hx hb dX8_meanOf_272 (by decide) ?_
                exact ih_86 _ (qi_86, ff5_89, fb4_87) _ _ _ (by omega) ⟨rfl, ⟨by omega, fun k hk hp => hv_89.2.1 k (by omega) hp⟩, hP, hD, hS, (lv_sub hl [0, 2, 3, 4, 5, 6, 7, 8, 9, 10, 11] rfl)⟩
              · have c_90 : ¬ (50 ≤ k3_89) := fun h => c_90 ((nI_leI (a := 50) (b := k3_89) (by omega) (by omega)).mpr h)
                refine lv_aload_n hx hb dX8_meanOf_249 rfl (lv_at hl 8 rfl) ?_
                refine va_get (D := D) (ci := 8) (v := .ref (a 29)) (C := RX8) (T := TX8) (N := 44) hx hb hts inX8 hown hK hP 0 rfl rfl 28 (by decide) (hts _ tw_1001) (fun _ h9 => h9) rfl dX8_meanOf_250 ?_
                refine lv_iload hx hb dX8_meanOf_253 (lv_at hl 0 rfl) ?_
                refine lv_aload_n hx hb dX8_meanOf_255 rfl (lv_at hl 8 rfl) ?_
                refine va_get (D := D) (ci := 8) (v := .ref (a 30)) (C := RX8) (T := TX8) (N := 44) hx hb hts inX8 hown hK hP 0 rfl rfl 29 (by decide) (hts _ tw_1002) (fun _ h9 => h9) rfl dX8_meanOf_256 ?_
                refine lv_iload hx hb dX8_meanOf_259 (lv_at hl 0 rfl) ?_
                refine va_iald hx hb hK hP 10 1 rfl rfl (vp_in_nI (by omega) (by decide)) dX8_meanOf_261 ?_
                refine lv_ti (y := (fb4_87 k3_89)) (by rw [nI_clamp (by omega)]) ?_
                refine va_iast hx hb hK hP hD hS 9 1 rfl rfl (vp_in_nI (by omega) (by decide)) dX8_meanOf_262 (fun H locs hP hD hS => ?_)
                have hQ9 := pd_mk [((a 0), .inr (8, (fX8 a (nI tx) fp (nI t0) wd (nI we) nu na (nI rd) ts (nI ru) (nI rw) (nI ca) df db sd))), (aI k (a 1) 3 (nF dn)), (aI k (a 4) 27 (sg se tm gs)), (aI k (a 2) 72 ffrees), (aI k (a 3) 72 fprices), (aI k (a 25) 4 (nF bm)), (aI k (a 26) 48 fbarSeen), (aI k (a 27) 48 fbarFrom), (aI k (a 28) 4 fruleRounds), (aI k (a 29) 52 (upd ff5_89 (Int32.toNatClampNeg (nI k3_89)) (fb4_87 k3_89))), (aI k (a 30) 52 fb4_87)] hP hD
                clear hP hD
                obtain ⟨hP, hD⟩ := hQ9
                rw [nI_clamp (n := k3_89) (by omega)] at hP hD
                have hQ9 := pd_mk [((a 0), .inr (8, (fX8 a (nI tx) fp (nI t0) wd (nI we) nu na (nI rd) ts (nI ru) (nI rw) (nI ca) df db sd))), (aI k (a 1) 3 (nF dn)), (aI k (a 4) 27 (sg se tm gs)), (aI k (a 2) 72 ffrees), (aI k (a 3) 72 fprices), (aI k (a 25) 4 (nF bm)), (aI k (a 26) 48 fbarSeen), (aI k (a 27) 48 fbarFrom), (aI k (a 28) 4 fruleRounds), (aI k (a 29) 52 (upd ff5_89 k3_89 (fb4_87 k3_89))), (aI k (a 30) 52 fb4_87)] hP hD
                clear hP hD
                obtain ⟨hP, hD⟩ := hQ9
                refine lv_iinc (v := (nI (k3_89 + 1))) (lv' := [(11, .int (nI (k3_89 + 1))), (10, .int (nI qi_86)), (9, .int x_82), (8, .int x_79), (7, .int (nI q_74)), (6, .int bg_74), (5, .int x_72), (4, .int (nI (dn sn))), (0, .ref (a 0)), (1, .int (nI sn)), (2, .int (nI kr)), (3, .int (nI wh))]) hx hb dX8_meanOf_263 hl (k := 0) rfl (nI_add k3_89 1) (by decide) rfl (fun ls hl => ?_)
                refine lv_goto (tgt := 242) hx hb dX8_meanOf_266 (by decide) ?_
                exact ih_89 _ (k3_89 + 1, (upd ff5_89 k3_89 (fb4_87 k3_89))) _ _ _ (by omega) ⟨rfl, ⟨by omega, la_updc (F := fun k => mV (sdM dn (sg se tm gs) ffrees fprices sn) (ruM bm fbarSeen fbarFrom fruleRounds kr) wh q_74 x_82 (dn sn - qi_86) (k / 2) (k % 2)) (P := fun k => k / 2 + (dn sn - qi_86) ≤ 25) hv_89.2.1 (hv_87.2 k3_89 (by omega)), trivial⟩, hP, hD, hS, (lv_sub hl [0, 1, 2, 3, 4, 5, 6, 7, 8, 9, 10, 11] rfl)⟩
            · have c_88 : ¬ (50 ≤ k2_87) := fun h => c_88 ((nI_leI (a := 50) (b := k2_87) (by omega) (by omega)).mpr h)
              refine lv_iload hx hb dX8_meanOf_142 (lv_at hl 0 rfl) ?_
              refine lv_iconst (v := 2) hx hb dX8_meanOf_144 (by decide) ?_
              refine lv_idiv hx hb dX8_meanOf_145 (by decide) ?_
              refine lv_ti (y := (nI (k2_87 / 2))) (pk_div (by omega) (by decide) (by decide)) ?_
              refine lv_istore (lv' := [(12, .int (nI (k2_87 / 2))), (11, .int (nI k2_87)), (10, .int (nI qi_86)), (9, .int x_82), (8, .int x_79), (7, .int (nI q_74)), (6, .int bg_74), (5, .int x_72), (4, .int (nI (dn sn))), (0, .ref (a 0)), (1, .int (nI sn)), (2, .int (nI kr)), (3, .int (nI wh))]) hx hb dX8_meanOf_146 hl (by decide) rfl (fun ls hl => ?_)
              refine lv_aload_n hx hb dX8_meanOf_148 rfl (lv_at hl 9 rfl) ?_
              refine lv_iload_n hx hb dX8_meanOf_149 rfl (lv_at hl 11 rfl) ?_
              refine lv_iload hx hb dX8_meanOf_150 (lv_at hl 2 rfl) ?_
              refine lv_iload hx hb dX8_meanOf_152 (lv_at hl 0 rfl) ?_
              refine ro_i (D := D) (va_runV (As := [.int (nI kr), .int (nI qi_86), .int (nI (k2_87 / 2))]) (rest := []) ⟨hx, hb, hml, hown, hts⟩ ((n_isFor l D k st lo a tx t0 we rd ru rw ca fp wd nu na ts df db sd bm fbarSeen fbarFrom fruleRounds kr qi_86 (k2_87 / 2) hbm (by first | assumption | omega)) H.size) (cwV 3 hts (gV tw_1338 tw_1340 tw_61 tw_87 tw_1341) rfl rfl rfl (by decide +kernel) ⟨Nat.le_of_ble_eq_true rfl, Nat.le_of_ble_eq_true rfl⟩) (pV hS hAlo hlo hP hK (va_Dlo hD hAlo) hZ [0, 5, 6, 7, 8] (by decide) rfl (ci := 8) (q := (RX8, TX8, 44)) (q0 := 0) rfl rfl) rfl rfl hl.1 rfl (lv_room (Nat.le_of_ble_eq_true rfl)) dX8_meanOf_154 ⟨Nat.le_of_ble_eq_true rfl, Nat.le_of_ble_eq_true rfl⟩) hS hA hP (fun r_92 H locs hw_92 hP hS => ?_)
              try dsimp only at hw_92
              rcases hw_92 with ⟨rfl, hw_92⟩ | ⟨rfl, hw_92⟩
              · refine lv_if_eq (tgt := 173) hx hb dX8_meanOf_157 (by decide) (fun h => absurd h (by decide)) (fun _ => ?_)
                refine lv_aload_n hx hb dX8_meanOf_160 rfl (lv_at hl 9 rfl) ?_
                refine lv_iload_n hx hb dX8_meanOf_161 rfl (lv_at hl 10 rfl) ?_
                refine lv_iload hx hb dX8_meanOf_162 (lv_at hl 5 rfl) ?_
                refine lv_iload hx hb dX8_meanOf_164 (lv_at hl 2 rfl) ?_
                refine lv_iload_n hx hb dX8_meanOf_166 rfl (lv_at hl 12 rfl) ?_
                refine ro_i (D := D) (va_runV (As := [.int (nI sn), .int (nI q_74), .int (nI qi_86), .int (nI wh)]) (rest := []) ⟨hx, hb, hml, hown, hts⟩ ((n_byTaking l D k st lo a tx t0 we rd ru rw ca fp wd nu na ts df db sd dn se tm gs fprices sn qi_86 (nI q_74) (nI wh) (by first | assumption | omega) (by first | assumption | omega)) H.size) (cwV 4 hts (gV tw_1342 tw_1344 tw_62 tw_87 tw_1345) rfl rfl rfl (by decide +kernel) ⟨Nat.le_of_ble_eq_true rfl, Nat.le_of_ble_eq_true rfl⟩) (pV hS hAlo hlo hP hK (va_Dlo hD hAlo) hZ [0, 1, 2, 4] (by decide) rfl (ci := 8) (q := (RX8, TX8, 44)) (q0 := 0) rfl rfl) rfl rfl hl.1 rfl (lv_room (Nat.le_of_ble_eq_true rfl)) dX8_meanOf_167 ⟨Nat.le_of_ble_eq_true rfl, Nat.le_of_ble_eq_true rfl⟩) hS hA hP (fun r_93 H locs hw_93 hP hS => ?_)
                try dsimp only at hw_93
                refine lv_goto (tgt := 187) hx hb dX8_meanOf_170 (by decide) ?_
                refine lv_istore (lv' := [(13, .int r_93), (12, .int (nI (k2_87 / 2))), (11, .int (nI k2_87)), (10, .int (nI qi_86)), (9, .int x_82), (8, .int x_79), (7, .int (nI q_74)), (6, .int bg_74), (5, .int x_72), (4, .int (nI (dn sn))), (0, .ref (a 0)), (1, .int (nI sn)), (2, .int (nI kr)), (3, .int (nI wh))]) hx hb dX8_meanOf_187 hl (by decide) rfl (fun ls hl => ?_)
                refine lv_aload_n hx hb dX8_meanOf_189 rfl (lv_at hl 10 rfl) ?_
                refine va_get (D := D) (ci := 8) (v := .ref (a 30)) (C := RX8) (T := TX8) (N := 44) hx hb hts inX8 hown hK hP 0 rfl rfl 29 (by decide) (hts _ tw_1002) (fun _ h9 => h9) rfl dX8_meanOf_190 ?_
                refine lv_iload hx hb dX8_meanOf_193 (lv_at hl 2 rfl) ?_
                refine lv_aload_n hx hb dX8_meanOf_195 rfl (lv_at hl 10 rfl) ?_
                refine lv_iload_n hx hb dX8_meanOf_196 rfl (lv_at hl 11 rfl) ?_
                refine lv_iload hx hb dX8_meanOf_197 (lv_at hl 3 rfl) ?_
                refine lv_iload hx hb dX8_meanOf_199 (lv_at hl 2 rfl) ?_
                refine lv_iconst (v := 2) hx hb dX8_meanOf_201 (by decide) ?_
                refine lv_irem hx hb dX8_meanOf_202 (by decide) ?_
                refine lv_ti (y := (nI (k2_87 % 2))) (pk_rem (by omega) (by decide) (by decide)) ?_
                refine lv_iconst (v := 1) hx hb dX8_meanOf_203 (by decide) ?_
                refine lv_icmp_ne (tgt := 211) hx hb dX8_meanOf_204 (by decide) (fun c_94 => ?_) (fun c_94 => ?_)
                · have c_94 : ¬ ((k2_87 % 2) = 1) := fun h => c_94 ((nI_eq (a := (k2_87 % 2)) (b := 1) (by omega) (by omega)).mpr h)
                  refine lv_iconst (v := 0) hx hb dX8_meanOf_211 (by decide) ?_
                  refine ro_i (D := D) (va_runV (As := [.int (nI sn), .int (nI qi_86), .int 0]) (rest := [.int (nI k2_87), .ref (a 30)]) ⟨hx, hb, hml, hown, hts⟩ ((n_chanceOf l D k st lo a tx t0 we rd ru rw ca fp wd nu na ts df db sd ffrees se tm gs sn qi_86 0 (by first | assumption | omega) (by first | assumption | omega)) H.size) (cwV 3 hts (gV tw_1210 tw_1212 tw_41 tw_87 tw_1213) rfl rfl rfl (by decide +kernel) ⟨Nat.le_of_ble_eq_true rfl, Nat.le_of_ble_eq_true rfl⟩) (pV hS hAlo hlo hP hK (va_Dlo hD hAlo) hZ [0, 3, 2] (by decide) rfl (ci := 8) (q := (RX8, TX8, 44)) (q0 := 0) rfl rfl) rfl rfl hl.1 rfl (lv_room (Nat.le_of_ble_eq_true rfl)) dX8_meanOf_212 ⟨Nat.le_of_ble_eq_true rfl, Nat.le_of_ble_eq_true rfl⟩) hS hA hP (fun r_95 H locs hw_95 hP hS => ?_)
                  try dsimp only at hw_95
                  refine lv_iload hx hb dX8_meanOf_215 (lv_at hl 0 rfl) ?_
                  refine lv_iload hx hb dX8_meanOf_217 (lv_at hl 8 rfl) ?_
                  refine lv_aload_n hx hb dX8_meanOf_219 rfl (lv_at hl 10 rfl) ?_
                  refine va_get (D := D) (ci := 8) (v := .ref (a 29)) (C := RX8) (T := TX8) (N := 44) hx hb hts inX8 hown hK hP 0 rfl rfl 28 (by decide) (hts _ tw_1001) (fun _ h9 => h9) rfl dX8_meanOf_220 ?_
                  refine lv_iconst (v := 2) hx hb dX8_meanOf_223 (by decide) ?_
                  refine lv_iload hx hb dX8_meanOf_224 (lv_at hl 1 rfl) ?_
                  refine lv_imul hx hb dX8_meanOf_226 ?_
                  refine lv_ti (y := (nI (2 * (k2_87 / 2)))) (pk_mul 2 (k2_87 / 2)) ?_
                  refine va_iald hx hb hK hP 9 1 rfl rfl (vp_in_nI (by omega) (by decide)) dX8_meanOf_227 ?_
                  refine lv_ti (y := (ff3_86 (2 * (k2_87 / 2)))) (by rw [nI_clamp (by omega)]) ?_
                  refine lv_iadd hx hb dX8_meanOf_228 ?_
                  refine lv_topi (fun x_96 ex_96 => ?_)
                  refine ro_i (D := D) (va_runS (As := [.int r_95, .int r_93, .int x_96]) (rest := [.int (nI k2_87), .ref (a 30)]) ⟨hx, hb, hml, hown, hts⟩ ((n_mixed l D k st lo r_95 r_93 x_96) H.size) (va_cwS 3 hts (gS tw_1269 tw_1270 tw_87 tw_1271) rfl rfl rfl (by decide +kernel) ⟨Nat.le_of_ble_eq_true rfl, Nat.le_of_ble_eq_true rfl⟩) (pS hS hAlo hlo hP hK (va_Dlo hD hAlo) hZ [] (by decide) rfl) rfl rfl hl.1 rfl (lv_room (Nat.le_of_ble_eq_true rfl)) dX8_meanOf_229 ⟨Nat.le_of_ble_eq_true rfl, Nat.le_of_ble_eq_true rfl⟩) hS hA hP (fun r_97 H locs hw_97 hP hS => ?_)
                  try dsimp only at hw_97
                  refine va_iast hx hb hK hP hD hS 10 1 rfl rfl (vp_in_nI (by omega) (by decide)) dX8_meanOf_232 (fun H locs hP hD hS => ?_)
                  have hQ9 := pd_mk [((a 0), .inr (8, (fX8 a (nI tx) fp (nI t0) wd (nI we) nu na (nI rd) ts (nI ru) (nI rw) (nI ca) df db sd))), (aI k (a 1) 3 (nF dn)), (aI k (a 4) 27 (sg se tm gs)), (aI k (a 2) 72 ffrees), (aI k (a 3) 72 fprices), (aI k (a 25) 4 (nF bm)), (aI k (a 26) 48 fbarSeen), (aI k (a 27) 48 fbarFrom), (aI k (a 28) 4 fruleRounds), (aI k (a 29) 52 ff3_86), (aI k (a 30) 52 (upd fb4_87 (Int32.toNatClampNeg (nI k2_87)) r_97))] hP hD
                  clear hP hD
                  obtain ⟨hP, hD⟩ := hQ9
                  rw [nI_clamp (n := k2_87) (by omega)] at hP hD
                  have hQ9 := pd_mk [((a 0), .inr (8, (fX8 a (nI tx) fp (nI t0) wd (nI we) nu na (nI rd) ts (nI ru) (nI rw) (nI ca) df db sd))), (aI k (a 1) 3 (nF dn)), (aI k (a 4) 27 (sg se tm gs)), (aI k (a 2) 72 ffrees), (aI k (a 3) 72 fprices), (aI k (a 25) 4 (nF bm)), (aI k (a 26) 48 fbarSeen), (aI k (a 27) 48 fbarFrom), (aI k (a 28) 4 fruleRounds), (aI k (a 29) 52 ff3_86), (aI k (a 30) 52 (upd fb4_87 k2_87 r_97))] hP hD
                  clear hP hD
                  obtain ⟨hP, hD⟩ := hQ9
                  refine lv_iinc (v := (nI (k2_87 + 1))) (lv' := [(11, .int (nI (k2_87 + 1))), (13, .int r_93), (12, .int (nI (k2_87 / 2))), (10, .int (nI qi_86)), (9, .int x_82), (8, .int x_79), (7, .int (nI q_74)), (6, .int bg_74), (5, .int x_72), (4, .int (nI (dn sn))), (0, .ref (a 0)), (1, .int (nI sn)), (2, .int (nI kr)), (3, .int (nI wh))]) hx hb dX8_meanOf_233 hl (k := 2) rfl (nI_add k2_87 1) (by decide) rfl (fun ls hl => ?_)
                  refine lv_goto (tgt := 135) hx hb dX8_meanOf_236 (by decide) ?_
                  have hx_87 : (k2_87 / 2) + (dn sn - qi_86) ≤ 25 → r_97 = mV (sdM dn (sg se tm gs) ffrees fprices sn) (ruM bm fbarSeen fbarFrom fruleRounds kr) wh q_74 x_82 (dn sn - qi_86) (k2_87 / 2) (k2_87 % 2) := fun hk => mv_v (d := (sdM dn (sg se tm gs) ffrees fprices sn)) (u := (ruM bm fbarSeen fbarFrom fruleRounds kr)) (wh := wh) (r := q_74) (E := x_82) (p := (k2_87 / 2)) (a := k2_87 % 2) (show qi_86 < dn sn by omega) (show _ = pChance (sdM dn (sg se tm gs) ffrees fprices sn) qi_86 (nI (k2_87 % 2)) from by rw [show k2_87 % 2 = 0 by omega]; exact hw_95.trans (mChance (fpr := fprices) (show qi_86 < dn sn by omega))) (by rw [if_pos hw_92]; exact hw_93.trans (mByT hg9 (by omega) (by omega) (by omega) (by omega))) (by rw [← hps_73, ex_96]; exact congrArg (fun z => x_72 + z) (by have h9 := hv_86.2 (2 * (k2_87 / 2)) (by omega) (by omega); rw [show (2 * (k2_87 / 2)) / 2 = (k2_87 / 2) by omega, show (2 * (k2_87 / 2)) % 2 = 0 by omega] at h9; exact h9)) hw_97
                  exact ih_87 _ (k2_87 + 1, (upd fb4_87 k2_87 r_97)) _ _ _ (by omega) ⟨rfl, ⟨by omega, la_updc (F := fun k => mV (sdM dn (sg se tm gs) ffrees fprices sn) (ruM bm fbarSeen fbarFrom fruleRounds kr) wh q_74 x_82 (dn sn - qi_86) (k / 2) (k % 2)) (P := fun k => k / 2 + (dn sn - qi_86) ≤ 25) hv_87.2 hx_87⟩, hP, hD, hS, (lv_sub hl [0, 3, 4, 5, 6, 7, 8, 9, 10, 11, 12, 13] rfl)⟩
                · have c_94 := (nI_eq (a := (k2_87 % 2)) (b := 1) (by omega) (by omega)).mp c_94
                  refine lv_iconst (v := 1) hx hb dX8_meanOf_207 (by decide) ?_
                  refine lv_goto (tgt := 212) hx hb dX8_meanOf_208 (by decide) ?_
                  refine ro_i (D := D) (va_runV (As := [.int (nI sn), .int (nI qi_86), .int 1]) (rest := [.int (nI k2_87), .ref (a 30)]) ⟨hx, hb, hml, hown, hts⟩ ((n_chanceOf l D k st lo a tx t0 we rd ru rw ca fp wd nu na ts df db sd ffrees se tm gs sn qi_86 1 (by first | assumption | omega) (by first | assumption | omega)) H.size) (cwV 3 hts (gV tw_1210 tw_1212 tw_41 tw_87 tw_1213) rfl rfl rfl (by decide +kernel) ⟨Nat.le_of_ble_eq_true rfl, Nat.le_of_ble_eq_true rfl⟩) (pV hS hAlo hlo hP hK (va_Dlo hD hAlo) hZ [0, 3, 2] (by decide) rfl (ci := 8) (q := (RX8, TX8, 44)) (q0 := 0) rfl rfl) rfl rfl hl.1 rfl (lv_room (Nat.le_of_ble_eq_true rfl)) dX8_meanOf_212 ⟨Nat.le_of_ble_eq_true rfl, Nat.le_of_ble_eq_true rfl⟩) hS hA hP (fun r_99 H locs hw_99 hP hS => ?_)
                  try dsimp only at hw_99
                  refine lv_iload hx hb dX8_meanOf_215 (lv_at hl 0 rfl) ?_
                  refine lv_iload hx hb dX8_meanOf_217 (lv_at hl 8 rfl) ?_
                  refine lv_aload_n hx hb dX8_meanOf_219 rfl (lv_at hl 10 rfl) ?_
                  refine va_get (D := D) (ci := 8) (v := .ref (a 29)) (C := RX8) (T := TX8) (N := 44) hx hb hts inX8 hown hK hP 0 rfl rfl 28 (by decide) (hts _ tw_1001) (fun _ h9 => h9) rfl dX8_meanOf_220 ?_
                  refine lv_iconst (v := 2) hx hb dX8_meanOf_223 (by decide) ?_
                  refine lv_iload hx hb dX8_meanOf_224 (lv_at hl 1 rfl) ?_
                  refine lv_imul hx hb dX8_meanOf_226 ?_
                  refine lv_ti (y := (nI (2 * (k2_87 / 2)))) (pk_mul 2 (k2_87 / 2)) ?_
                  refine va_iald hx hb hK hP 9 1 rfl rfl (vp_in_nI (by omega) (by decide)) dX8_meanOf_227 ?_
                  refine lv_ti (y := (ff3_86 (2 * (k2_87 / 2)))) (by rw [nI_clamp (by omega)]) ?_
                  refine lv_iadd hx hb dX8_meanOf_228 ?_
                  refine lv_topi (fun x_100 ex_100 => ?_)
                  refine ro_i (D := D) (va_runS (As := [.int r_99, .int r_93, .int x_100]) (rest := [.int (nI k2_87), .ref (a 30)]) ⟨hx, hb, hml, hown, hts⟩ ((n_mixed l D k st lo r_99 r_93 x_100) H.size) (va_cwS 3 hts (gS tw_1269 tw_1270 tw_87 tw_1271) rfl rfl rfl (by decide +kernel) ⟨Nat.le_of_ble_eq_true rfl, Nat.le_of_ble_eq_true rfl⟩) (pS hS hAlo hlo hP hK (va_Dlo hD hAlo) hZ [] (by decide) rfl) rfl rfl hl.1 rfl (lv_room (Nat.le_of_ble_eq_true rfl)) dX8_meanOf_229 ⟨Nat.le_of_ble_eq_true rfl, Nat.le_of_ble_eq_true rfl⟩) hS hA hP (fun r_101 H locs hw_101 hP hS => ?_)
                  try dsimp only at hw_101
                  refine va_iast hx hb hK hP hD hS 10 1 rfl rfl (vp_in_nI (by omega) (by decide)) dX8_meanOf_232 (fun H locs hP hD hS => ?_)
                  have hQ9 := pd_mk [((a 0), .inr (8, (fX8 a (nI tx) fp (nI t0) wd (nI we) nu na (nI rd) ts (nI ru) (nI rw) (nI ca) df db sd))), (aI k (a 1) 3 (nF dn)), (aI k (a 4) 27 (sg se tm gs)), (aI k (a 2) 72 ffrees), (aI k (a 3) 72 fprices), (aI k (a 25) 4 (nF bm)), (aI k (a 26) 48 fbarSeen), (aI k (a 27) 48 fbarFrom), (aI k (a 28) 4 fruleRounds), (aI k (a 29) 52 ff3_86), (aI k (a 30) 52 (upd fb4_87 (Int32.toNatClampNeg (nI k2_87)) r_101))] hP hD
                  clear hP hD
                  obtain ⟨hP, hD⟩ := hQ9
                  rw [nI_clamp (n := k2_87) (by omega)] at hP hD
                  have hQ9 := pd_mk [((a 0), .inr (8, (fX8 a (nI tx) fp (nI t0) wd (nI we) nu na (nI rd) ts (nI ru) (nI rw) (nI ca) df db sd))), (aI k (a 1) 3 (nF dn)), (aI k (a 4) 27 (sg se tm gs)), (aI k (a 2) 72 ffrees), (aI k (a 3) 72 fprices), (aI k (a 25) 4 (nF bm)), (aI k (a 26) 48 fbarSeen), (aI k (a 27) 48 fbarFrom), (aI k (a 28) 4 fruleRounds), (aI k (a 29) 52 ff3_86), (aI k (a 30) 52 (upd fb4_87 k2_87 r_101))] hP hD
                  clear hP hD
                  obtain ⟨hP, hD⟩ := hQ9
                  refine lv_iinc (v := (nI (k2_87 + 1))) (lv' := [(11, .int (nI (k2_87 + 1))), (13, .int r_93), (12, .int (nI (k2_87 / 2))), (10, .int (nI qi_86)), (9, .int x_82), (8, .int x_79), (7, .int (nI q_74)), (6, .int bg_74), (5, .int x_72), (4, .int (nI (dn sn))), (0, .ref (a 0)), (1, .int (nI sn)), (2, .int (nI kr)), (3, .int (nI wh))]) hx hb dX8_meanOf_233 hl (k := 2) rfl (nI_add k2_87 1) (by decide) rfl (fun ls hl => ?_)
                  refine lv_goto (tgt := 135) hx hb dX8_meanOf_236 (by decide) ?_
                  have hx_87 : (k2_87 / 2) + (dn sn - qi_86) ≤ 25 → r_101 = mV (sdM dn (sg se tm gs) ffrees fprices sn) (ruM bm fbarSeen fbarFrom fruleRounds kr) wh q_74 x_82 (dn sn - qi_86) (k2_87 / 2) (k2_87 % 2) := fun hk => mv_v (d := (sdM dn (sg se tm gs) ffrees fprices sn)) (u := (ruM bm fbarSeen fbarFrom fruleRounds kr)) (wh := wh) (r := q_74) (E := x_82) (p := (k2_87 / 2)) (a := k2_87 % 2) (show qi_86 < dn sn by omega) (show _ = pChance (sdM dn (sg se tm gs) ffrees fprices sn) qi_86 (nI (k2_87 % 2)) from by rw [show k2_87 % 2 = 1 by omega]; exact hw_99.trans (mChance (fpr := fprices) (show qi_86 < dn sn by omega))) (by rw [if_pos hw_92]; exact hw_93.trans (mByT hg9 (by omega) (by omega) (by omega) (by omega))) (by rw [← hps_73, ex_100]; exact congrArg (fun z => x_72 + z) (by have h9 := hv_86.2 (2 * (k2_87 / 2)) (by omega) (by omega); rw [show (2 * (k2_87 / 2)) / 2 = (k2_87 / 2) by omega, show (2 * (k2_87 / 2)) % 2 = 0 by omega] at h9; exact h9)) hw_101
                  exact ih_87 _ (k2_87 + 1, (upd fb4_87 k2_87 r_101)) _ _ _ (by omega) ⟨rfl, ⟨by omega, la_updc (F := fun k => mV (sdM dn (sg se tm gs) ffrees fprices sn) (ruM bm fbarSeen fbarFrom fruleRounds kr) wh q_74 x_82 (dn sn - qi_86) (k / 2) (k % 2)) (P := fun k => k / 2 + (dn sn - qi_86) ≤ 25) hv_87.2 hx_87⟩, hP, hD, hS, (lv_sub hl [0, 3, 4, 5, 6, 7, 8, 9, 10, 11, 12, 13] rfl)⟩
              · refine lv_if_eq (tgt := 173) hx hb dX8_meanOf_157 (by decide) (fun _ => ?_) (fun h => absurd (by decide) h)
                refine lv_iload hx hb dX8_meanOf_173 (lv_at hl 7 rfl) ?_
                refine lv_aload_n hx hb dX8_meanOf_175 rfl (lv_at hl 9 rfl) ?_
                refine va_get (D := D) (ci := 8) (v := .ref (a 29)) (C := RX8) (T := TX8) (N := 44) hx hb hts inX8 hown hK hP 0 rfl rfl 28 (by decide) (hts _ tw_1001) (fun _ h9 => h9) rfl dX8_meanOf_176 ?_
                refine lv_iconst (v := 2) hx hb dX8_meanOf_179 (by decide) ?_
                refine lv_iload hx hb dX8_meanOf_180 (lv_at hl 0 rfl) ?_
                refine lv_imul hx hb dX8_meanOf_182 ?_
                refine lv_ti (y := (nI (2 * (k2_87 / 2)))) (pk_mul 2 (k2_87 / 2)) ?_
                refine lv_iconst (v := 3) hx hb dX8_meanOf_183 (by decide) ?_
                refine lv_iadd hx hb dX8_meanOf_184 ?_
                refine lv_ti (y := (nI (2 * (k2_87 / 2) + 3))) (nI_add (2 * (k2_87 / 2)) 3) ?_
                refine va_iald hx hb hK hP 9 1 rfl rfl (vp_in_nI (by omega) (by decide)) dX8_meanOf_185 ?_
                refine lv_ti (y := (ff3_86 (2 * (k2_87 / 2) + 3))) (by rw [nI_clamp (by omega)]) ?_
                refine lv_iadd hx hb dX8_meanOf_186 ?_
                refine lv_topi (fun x_103 ex_103 => ?_)
                refine lv_istore (lv' := [(13, .int x_103), (12, .int (nI (k2_87 / 2))), (11, .int (nI k2_87)), (10, .int (nI qi_86)), (9, .int x_82), (8, .int x_79), (7, .int (nI q_74)), (6, .int bg_74), (5, .int x_72), (4, .int (nI (dn sn))), (0, .ref (a 0)), (1, .int (nI sn)), (2, .int (nI kr)), (3, .int (nI wh))]) hx hb dX8_meanOf_187 hl (by decide) rfl (fun ls hl => ?_)
                refine lv_aload_n hx hb dX8_meanOf_189 rfl (lv_at hl 10 rfl) ?_
                refine va_get (D := D) (ci := 8) (v := .ref (a 30)) (C := RX8) (T := TX8) (N := 44) hx hb hts inX8 hown hK hP 0 rfl rfl 29 (by decide) (hts _ tw_1002) (fun _ h9 => h9) rfl dX8_meanOf_190 ?_
                refine lv_iload hx hb dX8_meanOf_193 (lv_at hl 2 rfl) ?_
                refine lv_aload_n hx hb dX8_meanOf_195 rfl (lv_at hl 10 rfl) ?_
                refine lv_iload_n hx hb dX8_meanOf_196 rfl (lv_at hl 11 rfl) ?_
                refine lv_iload hx hb dX8_meanOf_197 (lv_at hl 3 rfl) ?_
                refine lv_iload hx hb dX8_meanOf_199 (lv_at hl 2 rfl) ?_
                refine lv_iconst (v := 2) hx hb dX8_meanOf_201 (by decide) ?_
                refine lv_irem hx hb dX8_meanOf_202 (by decide) ?_
                refine lv_ti (y := (nI (k2_87 % 2))) (pk_rem (by omega) (by decide) (by decide)) ?_
                refine lv_iconst (v := 1) hx hb dX8_meanOf_203 (by decide) ?_
                refine lv_icmp_ne (tgt := 211) hx hb dX8_meanOf_204 (by decide) (fun c_104 => ?_) (fun c_104 => ?_)
                · have c_104 : ¬ ((k2_87 % 2) = 1) := fun h => c_104 ((nI_eq (a := (k2_87 % 2)) (b := 1) (by omega) (by omega)).mpr h)
                  refine lv_iconst (v := 0) hx hb dX8_meanOf_211 (by decide) ?_
                  refine ro_i (D := D) (va_runV (As := [.int (nI sn), .int (nI qi_86), .int 0]) (rest := [.int (nI k2_87), .ref (a 30)]) ⟨hx, hb, hml, hown, hts⟩ ((n_chanceOf l D k st lo a tx t0 we rd ru rw ca fp wd nu na ts df db sd ffrees se tm gs sn qi_86 0 (by first | assumption | omega) (by first | assumption | omega)) H.size) (cwV 3 hts (gV tw_1210 tw_1212 tw_41 tw_87 tw_1213) rfl rfl rfl (by decide +kernel) ⟨Nat.le_of_ble_eq_true rfl, Nat.le_of_ble_eq_true rfl⟩) (pV hS hAlo hlo hP hK (va_Dlo hD hAlo) hZ [0, 3, 2] (by decide) rfl (ci := 8) (q := (RX8, TX8, 44)) (q0 := 0) rfl rfl) rfl rfl hl.1 rfl (lv_room (Nat.le_of_ble_eq_true rfl)) dX8_meanOf_212 ⟨Nat.le_of_ble_eq_true rfl, Nat.le_of_ble_eq_true rfl⟩) hS hA hP (fun r_105 H locs hw_105 hP hS => ?_)
                  try dsimp only at hw_105
                  refine lv_iload hx hb dX8_meanOf_215 (lv_at hl 0 rfl) ?_
                  refine lv_iload hx hb dX8_meanOf_217 (lv_at hl 8 rfl) ?_
                  refine lv_aload_n hx hb dX8_meanOf_219 rfl (lv_at hl 10 rfl) ?_
                  refine va_get (D := D) (ci := 8) (v := .ref (a 29)) (C := RX8) (T := TX8) (N := 44) hx hb hts inX8 hown hK hP 0 rfl rfl 28 (by decide) (hts _ tw_1001) (fun _ h9 => h9) rfl dX8_meanOf_220 ?_
                  refine lv_iconst (v := 2) hx hb dX8_meanOf_223 (by decide) ?_
                  refine lv_iload hx hb dX8_meanOf_224 (lv_at hl 1 rfl) ?_
                  refine lv_imul hx hb dX8_meanOf_226 ?_
                  refine lv_ti (y := (nI (2 * (k2_87 / 2)))) (pk_mul 2 (k2_87 / 2)) ?_
                  refine va_iald hx hb hK hP 9 1 rfl rfl (vp_in_nI (by omega) (by decide)) dX8_meanOf_227 ?_
                  refine lv_ti (y := (ff3_86 (2 * (k2_87 / 2)))) (by rw [nI_clamp (by omega)]) ?_
                  refine lv_iadd hx hb dX8_meanOf_228 ?_
                  refine lv_topi (fun x_106 ex_106 => ?_)
                  refine ro_i (D := D) (va_runS (As := [.int r_105, .int x_103, .int x_106]) (rest := [.int (nI k2_87), .ref (a 30)]) ⟨hx, hb, hml, hown, hts⟩ ((n_mixed l D k st lo r_105 x_103 x_106) H.size) (va_cwS 3 hts (gS tw_1269 tw_1270 tw_87 tw_1271) rfl rfl rfl (by decide +kernel) ⟨Nat.le_of_ble_eq_true rfl, Nat.le_of_ble_eq_true rfl⟩) (pS hS hAlo hlo hP hK (va_Dlo hD hAlo) hZ [] (by decide) rfl) rfl rfl hl.1 rfl (lv_room (Nat.le_of_ble_eq_true rfl)) dX8_meanOf_229 ⟨Nat.le_of_ble_eq_true rfl, Nat.le_of_ble_eq_true rfl⟩) hS hA hP (fun r_107 H locs hw_107 hP hS => ?_)
                  try dsimp only at hw_107
                  refine va_iast hx hb hK hP hD hS 10 1 rfl rfl (vp_in_nI (by omega) (by decide)) dX8_meanOf_232 (fun H locs hP hD hS => ?_)
                  have hQ9 := pd_mk [((a 0), .inr (8, (fX8 a (nI tx) fp (nI t0) wd (nI we) nu na (nI rd) ts (nI ru) (nI rw) (nI ca) df db sd))), (aI k (a 1) 3 (nF dn)), (aI k (a 4) 27 (sg se tm gs)), (aI k (a 2) 72 ffrees), (aI k (a 3) 72 fprices), (aI k (a 25) 4 (nF bm)), (aI k (a 26) 48 fbarSeen), (aI k (a 27) 48 fbarFrom), (aI k (a 28) 4 fruleRounds), (aI k (a 29) 52 ff3_86), (aI k (a 30) 52 (upd fb4_87 (Int32.toNatClampNeg (nI k2_87)) r_107))] hP hD
                  clear hP hD
                  obtain ⟨hP, hD⟩ := hQ9
                  rw [nI_clamp (n := k2_87) (by omega)] at hP hD
                  have hQ9 := pd_mk [((a 0), .inr (8, (fX8 a (nI tx) fp (nI t0) wd (nI we) nu na (nI rd) ts (nI ru) (nI rw) (nI ca) df db sd))), (aI k (a 1) 3 (nF dn)), (aI k (a 4) 27 (sg se tm gs)), (aI k (a 2) 72 ffrees), (aI k (a 3) 72 fprices), (aI k (a 25) 4 (nF bm)), (aI k (a 26) 48 fbarSeen), (aI k (a 27) 48 fbarFrom), (aI k (a 28) 4 fruleRounds), (aI k (a 29) 52 ff3_86), (aI k (a 30) 52 (upd fb4_87 k2_87 r_107))] hP hD
                  clear hP hD
                  obtain ⟨hP, hD⟩ := hQ9
                  refine lv_iinc (v := (nI (k2_87 + 1))) (lv' := [(11, .int (nI (k2_87 + 1))), (13, .int x_103), (12, .int (nI (k2_87 / 2))), (10, .int (nI qi_86)), (9, .int x_82), (8, .int x_79), (7, .int (nI q_74)), (6, .int bg_74), (5, .int x_72), (4, .int (nI (dn sn))), (0, .ref (a 0)), (1, .int (nI sn)), (2, .int (nI kr)), (3, .int (nI wh))]) hx hb dX8_meanOf_233 hl (k := 2) rfl (nI_add k2_87 1) (by decide) rfl (fun ls hl => ?_)
                  refine lv_goto (tgt := 135) hx hb dX8_meanOf_236 (by decide) ?_
                  have hx_87 : (k2_87 / 2) + (dn sn - qi_86) ≤ 25 → r_107 = mV (sdM dn (sg se tm gs) ffrees fprices sn) (ruM bm fbarSeen fbarFrom fruleRounds kr) wh q_74 x_82 (dn sn - qi_86) (k2_87 / 2) (k2_87 % 2) := fun hk => mv_v (d := (sdM dn (sg se tm gs) ffrees fprices sn)) (u := (ruM bm fbarSeen fbarFrom fruleRounds kr)) (wh := wh) (r := q_74) (E := x_82) (p := (k2_87 / 2)) (a := k2_87 % 2) (show qi_86 < dn sn by omega) (show _ = pChance (sdM dn (sg se tm gs) ffrees fprices sn) qi_86 (nI (k2_87 % 2)) from by rw [show k2_87 % 2 = 0 by omega]; exact hw_105.trans (mChance (fpr := fprices) (show qi_86 < dn sn by omega))) (by rw [if_neg hw_92, ← hps_73, ex_103]; exact congrArg (fun z => x_72 + z) (by have h9 := hv_86.2 (2 * (k2_87 / 2) + 3) (by omega) (by omega); rw [show (2 * (k2_87 / 2) + 3) / 2 = (k2_87 / 2) + 1 by omega, show (2 * (k2_87 / 2) + 3) % 2 = 1 by omega] at h9; exact h9)) (by rw [← hps_73, ex_106]; exact congrArg (fun z => x_72 + z) (by have h9 := hv_86.2 (2 * (k2_87 / 2)) (by omega) (by omega); rw [show (2 * (k2_87 / 2)) / 2 = (k2_87 / 2) by omega, show (2 * (k2_87 / 2)) % 2 = 0 by omega] at h9; exact h9)) hw_107
                  exact ih_87 _ (k2_87 + 1, (upd fb4_87 k2_87 r_107)) _ _ _ (by omega) ⟨rfl, ⟨by omega, la_updc (F := fun k => mV (sdM dn (sg se tm gs) ffrees fprices sn) (ruM bm fbarSeen fbarFrom fruleRounds kr) wh q_74 x_82 (dn sn - qi_86) (k / 2) (k % 2)) (P := fun k => k / 2 + (dn sn - qi_86) ≤ 25) hv_87.2 hx_87⟩, hP, hD, hS, (lv_sub hl [0, 3, 4, 5, 6, 7, 8, 9, 10, 11, 12, 13] rfl)⟩
                · have c_104 := (nI_eq (a := (k2_87 % 2)) (b := 1) (by omega) (by omega)).mp c_104
                  refine lv_iconst (v := 1) hx hb dX8_meanOf_207 (by decide) ?_
                  refine lv_goto (tgt := 212) hx hb dX8_meanOf_208 (by decide) ?_
                  refine ro_i (D := D) (va_runV (As := [.int (nI sn), .int (nI qi_86), .int 1]) (rest := [.int (nI k2_87), .ref (a 30)]) ⟨hx, hb, hml, hown, hts⟩ ((n_chanceOf l D k st lo a tx t0 we rd ru rw ca fp wd nu na ts df db sd ffrees se tm gs sn qi_86 1 (by first | assumption | omega) (by first | assumption | omega)) H.size) (cwV 3 hts (gV tw_1210 tw_1212 tw_41 tw_87 tw_1213) rfl rfl rfl (by decide +kernel) ⟨Nat.le_of_ble_eq_true rfl, Nat.le_of_ble_eq_true rfl⟩) (pV hS hAlo hlo hP hK (va_Dlo hD hAlo) hZ [0, 3, 2] (by decide) rfl (ci := 8) (q := (RX8, TX8, 44)) (q0 := 0) rfl rfl) rfl rfl hl.1 rfl (lv_room (Nat.le_of_ble_eq_true rfl)) dX8_meanOf_212 ⟨Nat.le_of_ble_eq_true rfl, Nat.le_of_ble_eq_true rfl⟩) hS hA hP (fun r_109 H locs hw_109 hP hS => ?_)
                  try dsimp only at hw_109
                  refine lv_iload hx hb dX8_meanOf_215 (lv_at hl 0 rfl) ?_
                  refine lv_iload hx hb dX8_meanOf_217 (lv_at hl 8 rfl) ?_
                  refine lv_aload_n hx hb dX8_meanOf_219 rfl (lv_at hl 10 rfl) ?_
                  refine va_get (D := D) (ci := 8) (v := .ref (a 29)) (C := RX8) (T := TX8) (N := 44) hx hb hts inX8 hown hK hP 0 rfl rfl 28 (by decide) (hts _ tw_1001) (fun _ h9 => h9) rfl dX8_meanOf_220 ?_
                  refine lv_iconst (v := 2) hx hb dX8_meanOf_223 (by decide) ?_
                  refine lv_iload hx hb dX8_meanOf_224 (lv_at hl 1 rfl) ?_
                  refine lv_imul hx hb dX8_meanOf_226 ?_
                  refine lv_ti (y := (nI (2 * (k2_87 / 2)))) (pk_mul 2 (k2_87 / 2)) ?_
                  refine va_iald hx hb hK hP 9 1 rfl rfl (vp_in_nI (by omega) (by decide)) dX8_meanOf_227 ?_
                  refine lv_ti (y := (ff3_86 (2 * (k2_87 / 2)))) (by rw [nI_clamp (by omega)]) ?_
                  refine lv_iadd hx hb dX8_meanOf_228 ?_
                  refine lv_topi (fun x_110 ex_110 => ?_)
                  refine ro_i (D := D) (va_runS (As := [.int r_109, .int x_103, .int x_110]) (rest := [.int (nI k2_87), .ref (a 30)]) ⟨hx, hb, hml, hown, hts⟩ ((n_mixed l D k st lo r_109 x_103 x_110) H.size) (va_cwS 3 hts (gS tw_1269 tw_1270 tw_87 tw_1271) rfl rfl rfl (by decide +kernel) ⟨Nat.le_of_ble_eq_true rfl, Nat.le_of_ble_eq_true rfl⟩) (pS hS hAlo hlo hP hK (va_Dlo hD hAlo) hZ [] (by decide) rfl) rfl rfl hl.1 rfl (lv_room (Nat.le_of_ble_eq_true rfl)) dX8_meanOf_229 ⟨Nat.le_of_ble_eq_true rfl, Nat.le_of_ble_eq_true rfl⟩) hS hA hP (fun r_111 H locs hw_111 hP hS => ?_)
                  try dsimp only at hw_111
                  refine va_iast hx hb hK hP hD hS 10 1 rfl rfl (vp_in_nI (by omega) (by decide)) dX8_meanOf_232 (fun H locs hP hD hS => ?_)
                  have hQ9 := pd_mk [((a 0), .inr (8, (fX8 a (nI tx) fp (nI t0) wd (nI we) nu na (nI rd) ts (nI ru) (nI rw) (nI ca) df db sd))), (aI k (a 1) 3 (nF dn)), (aI k (a 4) 27 (sg se tm gs)), (aI k (a 2) 72 ffrees), (aI k (a 3) 72 fprices), (aI k (a 25) 4 (nF bm)), (aI k (a 26) 48 fbarSeen), (aI k (a 27) 48 fbarFrom), (aI k (a 28) 4 fruleRounds), (aI k (a 29) 52 ff3_86), (aI k (a 30) 52 (upd fb4_87 (Int32.toNatClampNeg (nI k2_87)) r_111))] hP hD
                  clear hP hD
                  obtain ⟨hP, hD⟩ := hQ9
                  rw [nI_clamp (n := k2_87) (by omega)] at hP hD
                  have hQ9 := pd_mk [((a 0), .inr (8, (fX8 a (nI tx) fp (nI t0) wd (nI we) nu na (nI rd) ts (nI ru) (nI rw) (nI ca) df db sd))), (aI k (a 1) 3 (nF dn)), (aI k (a 4) 27 (sg se tm gs)), (aI k (a 2) 72 ffrees), (aI k (a 3) 72 fprices), (aI k (a 25) 4 (nF bm)), (aI k (a 26) 48 fbarSeen), (aI k (a 27) 48 fbarFrom), (aI k (a 28) 4 fruleRounds), (aI k (a 29) 52 ff3_86), (aI k (a 30) 52 (upd fb4_87 k2_87 r_111))] hP hD
                  clear hP hD
                  obtain ⟨hP, hD⟩ := hQ9
                  refine lv_iinc (v := (nI (k2_87 + 1))) (lv' := [(11, .int (nI (k2_87 + 1))), (13, .int x_103), (12, .int (nI (k2_87 / 2))), (10, .int (nI qi_86)), (9, .int x_82), (8, .int x_79), (7, .int (nI q_74)), (6, .int bg_74), (5, .int x_72), (4, .int (nI (dn sn))), (0, .ref (a 0)), (1, .int (nI sn)), (2, .int (nI kr)), (3, .int (nI wh))]) hx hb dX8_meanOf_233 hl (k := 2) rfl (nI_add k2_87 1) (by decide) rfl (fun ls hl => ?_)
                  refine lv_goto (tgt := 135) hx hb dX8_meanOf_236 (by decide) ?_
                  have hx_87 : (k2_87 / 2) + (dn sn - qi_86) ≤ 25 → r_111 = mV (sdM dn (sg se tm gs) ffrees fprices sn) (ruM bm fbarSeen fbarFrom fruleRounds kr) wh q_74 x_82 (dn sn - qi_86) (k2_87 / 2) (k2_87 % 2) := fun hk => mv_v (d := (sdM dn (sg se tm gs) ffrees fprices sn)) (u := (ruM bm fbarSeen fbarFrom fruleRounds kr)) (wh := wh) (r := q_74) (E := x_82) (p := (k2_87 / 2)) (a := k2_87 % 2) (show qi_86 < dn sn by omega) (show _ = pChance (sdM dn (sg se tm gs) ffrees fprices sn) qi_86 (nI (k2_87 % 2)) from by rw [show k2_87 % 2 = 1 by omega]; exact hw_109.trans (mChance (fpr := fprices) (show qi_86 < dn sn by omega))) (by rw [if_neg hw_92, ← hps_73, ex_103]; exact congrArg (fun z => x_72 + z) (by have h9 := hv_86.2 (2 * (k2_87 / 2) + 3) (by omega) (by omega); rw [show (2 * (k2_87 / 2) + 3) / 2 = (k2_87 / 2) + 1 by omega, show (2 * (k2_87 / 2) + 3) % 2 = 1 by omega] at h9; exact h9)) (by rw [← hps_73, ex_110]; exact congrArg (fun z => x_72 + z) (by have h9 := hv_86.2 (2 * (k2_87 / 2)) (by omega) (by omega); rw [show (2 * (k2_87 / 2)) / 2 = (k2_87 / 2) by omega, show (2 * (k2_87 / 2)) % 2 = 0 by omega] at h9; exact h9)) hw_111
                  exact ih_87 _ (k2_87 + 1, (upd fb4_87 k2_87 r_111)) _ _ _ (by omega) ⟨rfl, ⟨by omega, la_updc (F := fun k => mV (sdM dn (sg se tm gs) ffrees fprices sn) (ruM bm fbarSeen fbarFrom fruleRounds kr) wh q_74 x_82 (dn sn - qi_86) (k / 2) (k % 2)) (P := fun k => k / 2 + (dn sn - qi_86) ≤ 25) hv_87.2 hx_87⟩, hP, hD, hS, (lv_sub hl [0, 3, 4, 5, 6, 7, 8, 9, 10, 11, 12, 13] rfl)⟩
        · have c_85 : ¬ (52 ≤ kk_84) := fun h => c_85 ((nI_leI (a := 52) (b := kk_84) (by omega) (by omega)).mpr h)
          refine lv_aload_n hx hb dX8_meanOf_106 rfl (lv_at hl 7 rfl) ?_
          refine va_get (D := D) (ci := 8) (v := .ref (a 29)) (C := RX8) (T := TX8) (N := 44) hx hb hts inX8 hown hK hP 0 rfl rfl 28 (by decide) (hts _ tw_1001) (fun _ h9 => h9) rfl dX8_meanOf_107 ?_
          refine lv_iload hx hb dX8_meanOf_110 (lv_at hl 0 rfl) ?_
          refine lv_iload hx hb dX8_meanOf_112 (lv_at hl 1 rfl) ?_
          refine va_iast hx hb hK hP hD hS 9 1 rfl rfl (vp_in_nI (by omega) (by decide)) dX8_meanOf_114 (fun H locs hP hD hS => ?_)
          have hQ9 := pd_mk [((a 0), .inr (8, (fX8 a (nI tx) fp (nI t0) wd (nI we) nu na (nI rd) ts (nI ru) (nI rw) (nI ca) df db sd))), (aI k (a 1) 3 (nF dn)), (aI k (a 4) 27 (sg se tm gs)), (aI k (a 2) 72 ffrees), (aI k (a 3) 72 fprices), (aI k (a 25) 4 (nF bm)), (aI k (a 26) 48 fbarSeen), (aI k (a 27) 48 fbarFrom), (aI k (a 28) 4 fruleRounds), (aI k (a 29) 52 (upd ff2_84 (Int32.toNatClampNeg (nI kk_84)) x_82)), (aI k (a 30) 52 fb_74)] hP hD
          clear hP hD
          obtain ⟨hP, hD⟩ := hQ9
          rw [nI_clamp (n := kk_84) (by omega)] at hP hD
          have hQ9 := pd_mk [((a 0), .inr (8, (fX8 a (nI tx) fp (nI t0) wd (nI we) nu na (nI rd) ts (nI ru) (nI rw) (nI ca) df db sd))), (aI k (a 1) 3 (nF dn)), (aI k (a 4) 27 (sg se tm gs)), (aI k (a 2) 72 ffrees), (aI k (a 3) 72 fprices), (aI k (a 25) 4 (nF bm)), (aI k (a 26) 48 fbarSeen), (aI k (a 27) 48 fbarFrom), (aI k (a 28) 4 fruleRounds), (aI k (a 29) 52 (upd ff2_84 kk_84 x_82)), (aI k (a 30) 52 fb_74)] hP hD
          clear hP hD
          obtain ⟨hP, hD⟩ := hQ9
          refine lv_iinc (v := (nI (kk_84 + 1))) (lv' := [(10, .int (nI (kk_84 + 1))), (9, .int x_82), (8, .int x_79), (7, .int (nI q_74)), (6, .int bg_74), (5, .int x_72), (4, .int (nI (dn sn))), (0, .ref (a 0)), (1, .int (nI sn)), (2, .int (nI kr)), (3, .int (nI wh))]) hx hb dX8_meanOf_115 hl (k := 0) rfl (nI_add kk_84 1) (by decide) rfl (fun ls hl => ?_)
          refine lv_goto (tgt := 99) hx hb dX8_meanOf_118 (by decide) ?_
          exact ih_84 _ (kk_84 + 1, (upd ff2_84 kk_84 x_82)) _ _ _ (by omega) ⟨rfl, ⟨by omega, la_upd (F := fun _ => x_82) hv_84.2 rfl⟩, hP, hD, hS, (lv_sub hl [0, 1, 2, 3, 4, 5, 6, 7, 8, 9, 10] rfl)⟩
      · refine lv_if_eq (tgt := 86) hx hb dX8_meanOf_75 (by decide) (fun _ => ?_) (fun h => absurd (by decide) h)
        refine lv_aload_n hx hb dX8_meanOf_86 rfl (lv_at hl 5 rfl) ?_
        refine lv_iload_n hx hb dX8_meanOf_87 rfl (lv_at hl 6 rfl) ?_
        refine lv_iload hx hb dX8_meanOf_88 (lv_at hl 1 rfl) ?_
        refine lv_iload_n hx hb dX8_meanOf_90 rfl (lv_at hl 8 rfl) ?_
        refine ro_i (D := D) (va_runV (As := [.int (nI sn), .int (nI q_74), .int (nI wh)]) (rest := []) ⟨hx, hb, hml, hown, hts⟩ ((n_byGarage l D k st lo a tx t0 we rd ru rw ca fp wd nu na ts df db sd dn se tm gs sn (nI q_74) (nI wh) (by first | assumption | omega)) H.size) (cwV 3 hts (gV tw_1333 tw_1335 tw_60 tw_87 tw_1336) rfl rfl rfl (by decide +kernel) ⟨Nat.le_of_ble_eq_true rfl, Nat.le_of_ble_eq_true rfl⟩) (pV hS hAlo hlo hP hK (va_Dlo hD hAlo) hZ [0, 1, 2] (by decide) rfl (ci := 8) (q := (RX8, TX8, 44)) (q0 := 0) rfl rfl) rfl rfl hl.1 rfl (lv_room (Nat.le_of_ble_eq_true rfl)) dX8_meanOf_91 ⟨Nat.le_of_ble_eq_true rfl, Nat.le_of_ble_eq_true rfl⟩) hS hA hP (fun r_114 H locs hw_114 hP hS => ?_)
        try dsimp only at hw_114
        have he_115 : r_114 = pGs (sdM dn (sg se tm gs) ffrees fprices sn) wh q_74 := hw_114.trans (mByG hg9 (by omega) (by omega) (by omega))
        refine lv_istore (lv' := [(9, .int r_114), (8, .int x_79), (7, .int (nI q_74)), (6, .int bg_74), (5, .int x_72), (4, .int (nI (dn sn))), (0, .ref (a 0)), (1, .int (nI sn)), (2, .int (nI kr)), (3, .int (nI wh))]) hx hb dX8_meanOf_94 hl (by decide) rfl (fun ls hl => ?_)
        refine lv_iconst (v := 0) hx hb dX8_meanOf_96 (by decide) ?_
        refine lv_istore (lv' := [(10, .int 0), (9, .int r_114), (8, .int x_79), (7, .int (nI q_74)), (6, .int bg_74), (5, .int x_72), (4, .int (nI (dn sn))), (0, .ref (a 0)), (1, .int (nI sn)), (2, .int (nI kr)), (3, .int (nI wh))]) hx hb dX8_meanOf_97 hl (by decide) rfl (fun ls hl => ?_)
        refine W_loop (σ := Nat × (Nat → Int32)) (fun (n_ : Nat) (x_ : Nat × (Nat → Int32)) (H : Heap) (locs : List Loc) (ls : Array Slot) => match x_ with | (kk_116, ff2_116) => n_ = 52 - kk_116 ∧ (kk_116 ≤ 52 ∧ ∀ k, k < kk_116 → ff2_116 k = r_114) ∧ va_P D classes [((a 0), .inr (8, (fX8 a (nI tx) fp (nI t0) wd (nI we) nu na (nI rd) ts (nI ru) (nI rw) (nI ca) df db sd))), (aI k (a 1) 3 (nF dn)), (aI k (a 4) 27 (sg se tm gs)), (aI k (a 2) 72 ffrees), (aI k (a 3) 72 fprices), (aI k (a 25) 4 (nF bm)), (aI k (a 26) 48 fbarSeen), (aI k (a 27) 48 fbarFrom), (aI k (a 28) 4 fruleRounds), (aI k (a 29) 52 ff2_116), (aI k (a 30) 52 fb_74)] H ∧ va_D A [((a 0), .inr (8, (fX8 a (nI tx) fp (nI t0) wd (nI we) nu na (nI rd) ts (nI ru) (nI rw) (nI ca) df db sd))), (aI k (a 1) 3 (nF dn)), (aI k (a 4) 27 (sg se tm gs)), (aI k (a 2) 72 ffrees), (aI k (a 3) 72 fprices), (aI k (a 25) 4 (nF bm)), (aI k (a 26) 48 fbarSeen), (aI k (a 27) 48 fbarFrom), (aI k (a 28) 4 fruleRounds), (aI k (a 29) 52 ff2_116), (aI k (a 30) 52 fb_74)] ∧ va_S A s.heap H locs ∧ lv_has ls 14 [(10, .int (nI kk_116)), (9, .int r_114), (8, .int x_79), (7, .int (nI q_74)), (6, .int bg_74), (5, .int x_72), (4, .int (nI (dn sn))), (0, .ref (a 0)), (1, .int (nI sn)), (2, .int (nI kr)), (3, .int (nI wh))]) (fun n_116 x_116 H locs ls hI ih_116 => ?_) _ (0, ff_74) ⟨rfl, ⟨by omega, fun k h => absurd h (Nat.not_lt_zero k)⟩, hP, hD, hS, (lv_sub hl [0, 1, 2, 3, 4, 5, 6, 7, 8, 9, 10] rfl)⟩
        obtain ⟨kk_116, ff2_116⟩ := x_116
        obtain ⟨hm_116, hv_116, hP, hD, hS, hl⟩ := hI
        subst hm_116
        refine lv_iload hx hb dX8_meanOf_99 (lv_at hl 0 rfl) ?_
        refine lv_bipush (v := 52) hx hb dX8_meanOf_101 (by decide) ?_
        refine lv_icmp_ge (tgt := 121) hx hb dX8_meanOf_103 (by decide) (fun c_117 => ?_) (fun c_117 => ?_)
        · have c_117 := (nI_leI (a := 52) (b := kk_116) (by omega) (by omega)).mp c_117
          refine lv_iload hx hb dX8_meanOf_121 (lv_at hl 6 rfl) ?_
          refine lv_iconst (v := 1) hx hb dX8_meanOf_123 (by decide) ?_
          refine lv_isub hx hb dX8_meanOf_124 ?_
          refine lv_ti (y := (nI (dn sn) - 1)) rfl ?_
          refine lv_istore (lv' := [(10, .int (nI (dn sn) - 1)), (9, .int r_114), (8, .int x_79), (7, .int (nI q_74)), (6, .int bg_74), (5, .int x_72), (4, .int (nI (dn sn))), (0, .ref (a 0)), (1, .int (nI sn)), (2, .int (nI kr)), (3, .int (nI wh))]) hx hb dX8_meanOf_125 hl (by decide) rfl (fun ls hl => ?_)
          refine W_loop (σ := Nat × (Nat → Int32) × (Nat → Int32)) (fun (n_ : Nat) (x_ : Nat × (Nat → Int32) × (Nat → Int32)) (H : Heap) (locs : List Loc) (ls : Array Slot) => match x_ with | (qi_118, ff3_118, fb3_118) => n_ = 2 * qi_118 ∧ (qi_118 ≤ dn sn ∧ ∀ k, k < 52 → k / 2 + (dn sn - qi_118) ≤ 25 → ff3_118 k = mV (sdM dn (sg se tm gs) ffrees fprices sn) (ruM bm fbarSeen fbarFrom fruleRounds kr) wh q_74 r_114 (dn sn - qi_118) (k / 2) (k % 2)) ∧ va_P D classes [((a 0), .inr (8, (fX8 a (nI tx) fp (nI t0) wd (nI we) nu na (nI rd) ts (nI ru) (nI rw) (nI ca) df db sd))), (aI k (a 1) 3 (nF dn)), (aI k (a 4) 27 (sg se tm gs)), (aI k (a 2) 72 ffrees), (aI k (a 3) 72 fprices), (aI k (a 25) 4 (nF bm)), (aI k (a 26) 48 fbarSeen), (aI k (a 27) 48 fbarFrom), (aI k (a 28) 4 fruleRounds), (aI k (a 29) 52 ff3_118), (aI k (a 30) 52 fb3_118)] H ∧ va_D A [((a 0), .inr (8, (fX8 a (nI tx) fp (nI t0) wd (nI we) nu na (nI rd) ts (nI ru) (nI rw) (nI ca) df db sd))), (aI k (a 1) 3 (nF dn)), (aI k (a 4) 27 (sg se tm gs)), (aI k (a 2) 72 ffrees), (aI k (a 3) 72 fprices), (aI k (a 25) 4 (nF bm)), (aI k (a 26) 48 fbarSeen), (aI k (a 27) 48 fbarFrom), (aI k (a 28) 4 fruleRounds), (aI k (a 29) 52 ff3_118), (aI k (a 30) 52 fb3_118)] ∧ va_S A s.heap H locs ∧ lv_has ls 14 [(10, .int (nI qi_118 - 1)), (9, .int r_114), (8, .int x_79), (7, .int (nI q_74)), (6, .int bg_74), (5, .int x_72), (4, .int (nI (dn sn))), (0, .ref (a 0)), (1, .int (nI sn)), (2, .int (nI kr)), (3, .int (nI wh))]) (fun n_118 x_118 H locs ls hI ih_118 => ?_) _ (dn sn, ff2_116, fb_74) ⟨rfl, ⟨by omega, fun k hk _ => by rw [Nat.sub_self]; exact hv_116.2 k (by omega)⟩, hP, hD, hS, (lv_sub hl [0, 1, 2, 3, 4, 5, 6, 7, 8, 9, 10] rfl)⟩
          obtain ⟨qi_118, ff3_118, fb3_118⟩ := x_118
          obtain ⟨hm_118, hv_118, hP, hD, hS, hl⟩ := hI
          subst hm_118
          rcases qi_118 with _ | qi_118
          · rw [dn0] at hl
            refine lv_iload hx hb dX8_meanOf_127 (lv_at hl 0 rfl) ?_
            refine lv_if_lt (tgt := 275) hx hb dX8_meanOf_129 (by decide) (fun _ => ?_) (fun h => absurd (by decide) h)
            refine lv_aload_n hx hb dX8_meanOf_275 rfl (lv_at hl 7 rfl) ?_
            refine va_get (D := D) (ci := 8) (v := .ref (a 29)) (C := RX8) (T := TX8) (N := 44) hx hb hts inX8 hown hK hP 0 rfl rfl 28 (by decide) (hts _ tw_1001) (fun _ h9 => h9) rfl dX8_meanOf_276 ?_
            refine lv_iconst (v := 0) hx hb dX8_meanOf_279 (by decide) ?_
            refine va_iald hx hb hK hP 9 1 rfl rfl (by unfold vp_in; decide) dX8_meanOf_280 ?_
            refine lv_ti (y := (ff3_118 0)) (by rfl) ?_
            refine lv_istore (lv' := [(6, .int (ff3_118 0)), (10, .int (-1)), (9, .int r_114), (8, .int x_79), (7, .int (nI q_74)), (5, .int x_72), (4, .int (nI (dn sn))), (0, .ref (a 0)), (1, .int (nI sn)), (2, .int (nI kr)), (3, .int (nI wh))]) hx hb dX8_meanOf_281 hl (by decide) rfl (fun ls hl => ?_)
            refine lv_iinc (v := (nI q_74 - 1)) (lv' := [(7, .int (nI q_74 - 1)), (6, .int (ff3_118 0)), (10, .int (-1)), (9, .int r_114), (8, .int x_79), (5, .int x_72), (4, .int (nI (dn sn))), (0, .ref (a 0)), (1, .int (nI sn)), (2, .int (nI kr)), (3, .int (nI wh))]) hx hb dX8_meanOf_283 hl (k := 4) rfl (dn1 _) (by decide) rfl (fun ls hl => ?_)
            refine lv_goto (tgt := 34) hx hb dX8_meanOf_286 (by decide) ?_
            exact ih_74 _ (q_74, (ff3_118 0), ff3_118, fb3_118) _ _ _ (by omega) ⟨rfl, ⟨by omega, fun h => (show ff3_118 0 = mV (sdM dn (sg se tm gs) ffrees fprices sn) (ruM bm fbarSeen fbarFrom fruleRounds kr) wh q_74 r_114 (dn sn) 0 0 from hv_118.2 0 (by omega) (by omega)).trans (mr_of h (fun h => absurd h (by omega)) (fun _ => he_115))⟩, hP, hD, hS, (lv_sub hl [0, 1, 5, 6, 7, 8, 9, 10] rfl)⟩
          · rw [nI_pred] at hl
            refine lv_iload hx hb dX8_meanOf_127 (lv_at hl 0 rfl) ?_
            refine lv_if_lt (tgt := 275) hx hb dX8_meanOf_129 (by decide) (fun h => absurd h (nI_pos0 (by omega))) (fun _ => ?_)
            refine lv_iconst (v := 0) hx hb dX8_meanOf_132 (by decide) ?_
            refine lv_istore (lv' := [(11, .int 0), (10, .int (nI qi_118)), (9, .int r_114), (8, .int x_79), (7, .int (nI q_74)), (6, .int bg_74), (5, .int x_72), (4, .int (nI (dn sn))), (0, .ref (a 0)), (1, .int (nI sn)), (2, .int (nI kr)), (3, .int (nI wh))]) hx hb dX8_meanOf_133 hl (by decide) rfl (fun ls hl => ?_)
            refine W_loop (σ := Nat × (Nat → Int32)) (fun (n_ : Nat) (x_ : Nat × (Nat → Int32)) (H : Heap) (locs : List Loc) (ls : Array Slot) => match x_ with | (k2_119, fb4_119) => n_ = 50 - k2_119 ∧ (k2_119 ≤ 50 ∧ ∀ k, k < k2_119 → k / 2 + (dn sn - qi_118) ≤ 25 → fb4_119 k = mV (sdM dn (sg se tm gs) ffrees fprices sn) (ruM bm fbarSeen fbarFrom fruleRounds kr) wh q_74 r_114 (dn sn - qi_118) (k / 2) (k % 2)) ∧ va_P D classes [((a 0), .inr (8, (fX8 a (nI tx) fp (nI t0) wd (nI we) nu na (nI rd) ts (nI ru) (nI rw) (nI ca) df db sd))), (aI k (a 1) 3 (nF dn)), (aI k (a 4) 27 (sg se tm gs)), (aI k (a 2) 72 ffrees), (aI k (a 3) 72 fprices), (aI k (a 25) 4 (nF bm)), (aI k (a 26) 48 fbarSeen), (aI k (a 27) 48 fbarFrom), (aI k (a 28) 4 fruleRounds), (aI k (a 29) 52 ff3_118), (aI k (a 30) 52 fb4_119)] H ∧ va_D A [((a 0), .inr (8, (fX8 a (nI tx) fp (nI t0) wd (nI we) nu na (nI rd) ts (nI ru) (nI rw) (nI ca) df db sd))), (aI k (a 1) 3 (nF dn)), (aI k (a 4) 27 (sg se tm gs)), (aI k (a 2) 72 ffrees), (aI k (a 3) 72 fprices), (aI k (a 25) 4 (nF bm)), (aI k (a 26) 48 fbarSeen), (aI k (a 27) 48 fbarFrom), (aI k (a 28) 4 fruleRounds), (aI k (a 29) 52 ff3_118), (aI k (a 30) 52 fb4_119)] ∧ va_S A s.heap H locs ∧ lv_has ls 14 [(11, .int (nI k2_119)), (10, .int (nI qi_118)), (9, .int r_114), (8, .int x_79), (7, .int (nI q_74)), (6, .int bg_74), (5, .int x_72), (4, .int (nI (dn sn))), (0, .ref (a 0)), (1, .int (nI sn)), (2, .int (nI kr)), (3, .int (nI wh))]) (fun n_119 x_119 H locs ls hI ih_119 => ?_) _ (0, fb3_118) ⟨rfl, ⟨by omega, fun k h => absurd h (Nat.not_lt_zero k)⟩, hP, hD, hS, (lv_sub hl [0, 1, 2, 3, 4, 5, 6, 7, 8, 9, 10, 11] rfl)⟩
            obtain ⟨k2_119, fb4_119⟩ := x_119
            obtain ⟨hm_119, hv_119, hP, hD, hS, hl⟩ := hI
            subst hm_119
            refine lv_iload hx hb dX8_meanOf_135 (lv_at hl 0 rfl) ?_
            refine lv_bipush (v := 50) hx hb dX8_meanOf_137 (by decide) ?_
            refine lv_icmp_ge (tgt := 239) hx hb dX8_meanOf_139 (by decide) (fun c_120 => ?_) (fun c_120 => ?_)
            · have c_120 := (nI_leI (a := 50) (b := k2_119) (by omega) (by omega)).mp c_120
              refine lv_iconst (v := 0) hx hb dX8_meanOf_239 (by decide) ?_
              refine lv_istore (lv' := [(11, .int 0), (10, .int (nI qi_118)), (9, .int r_114), (8, .int x_79), (7, .int (nI q_74)), (6, .int bg_74), (5, .int x_72), (4, .int (nI (dn sn))), (0, .ref (a 0)), (1, .int (nI sn)), (2, .int (nI kr)), (3, .int (nI wh))]) hx hb dX8_meanOf_240 hl (by decide) rfl (fun ls hl => ?_)
              refine W_loop (σ := Nat × (Nat → Int32)) (fun (n_ : Nat) (x_ : Nat × (Nat → Int32)) (H : Heap) (locs : List Loc) (ls : Array Slot) => match x_ with | (k3_121, ff5_121) => n_ = 50 - k3_121 ∧ (k3_121 ≤ 50 ∧ (∀ k, k < k3_121 → k / 2 + (dn sn - qi_118) ≤ 25 → ff5_121 k = mV (sdM dn (sg se tm gs) ffrees fprices sn) (ruM bm fbarSeen fbarFrom fruleRounds kr) wh q_74 r_114 (dn sn - qi_118) (k / 2) (k % 2)) ∧ True) ∧ va_P D classes [((a 0), .inr (8, (fX8 a (nI tx) fp (nI t0) wd (nI we) nu na (nI rd) ts (nI ru) (nI rw) (nI ca) df db sd))), (aI k (a 1) 3 (nF dn)), (aI k (a 4) 27 (sg se tm gs)), (aI k (a 2) 72 ffrees), (aI k (a 3) 72 fprices), (aI k (a 25) 4 (nF bm)), (aI k (a 26) 48 fbarSeen), (aI k (a 27) 48 fbarFrom), (aI k (a 28) 4 fruleRounds), (aI k (a 29) 52 ff5_121), (aI k (a 30) 52 fb4_119)] H ∧ va_D A [((a 0), .inr (8, (fX8 a (nI tx) fp (nI t0) wd (nI we) nu na (nI rd) ts (nI ru) (nI rw) (nI ca) df db sd))), (aI k (a 1) 3 (nF dn)), (aI k (a 4) 27 (sg se tm gs)), (aI k (a 2) 72 ffrees), (aI k (a 3) 72 fprices), (aI k (a 25) 4 (nF bm)), (aI k (a 26) 48 fbarSeen), (aI k (a 27) 48 fbarFrom), (aI k (a 28) 4 fruleRounds), (aI k (a 29) 52 ff5_121), (aI k (a 30) 52 fb4_119)] ∧ va_S A s.heap H locs ∧ lv_has ls 14 [(11, .int (nI k3_121)), (10, .int (nI qi_118)), (9, .int r_114), (8, .int x_79), (7, .int (nI q_74)), (6, .int bg_74), (5, .int x_72), (4, .int (nI (dn sn))), (0, .ref (a 0)), (1, .int (nI sn)), (2, .int (nI kr)), (3, .int (nI wh))]) (fun n_121 x_121 H locs ls hI ih_121 => ?_) _ (0, ff3_118) ⟨rfl, ⟨by omega, fun k h => absurd h (Nat.not_lt_zero k), trivial⟩, hP, hD, hS, (lv_sub hl [0, 1, 2, 3, 4, 5, 6, 7, 8, 9, 10, 11] rfl)⟩
              obtain ⟨k3_121, ff5_121⟩ := x_121
              obtain ⟨hm_121, hv_121, hP, hD, hS, hl⟩ := hI
              subst hm_121
              refine lv_iload hx hb dX8_meanOf_242 (lv_at hl 0 rfl) ?_
              refine lv_bipush (v := 50) hx hb dX8_meanOf_244 (by decide) ?_
              refine lv_icmp_ge (tgt := 269) hx hb dX8_meanOf_246 (by decide) (fun c_122 => ?_) (fun c_122 => ?_)
              · have c_122 := (nI_leI (a := 50) (b := k3_121) (by omega) (by omega)).mp c_122
                refine lv_iinc (v := (nI qi_118 - 1)) (lv' := [(10, .int (nI qi_118 - 1)), (11, .int (nI k3_121)), (9, .int r_114), (8, .int x_79), (7, .int (nI q_74)), (6, .int bg_74), (5, .int x_72), (4, .int (nI (dn sn))), (0, .ref (a 0)), (1, .int (nI sn)), (2, .int (nI kr)), (3, .int (nI wh))]) hx hb dX8_meanOf_269 hl (k := 1) rfl (dn1 _) (by decide) rfl (fun ls hl => ?_)
                refine lv_goto (tgt := 127) hx hb dX8_meanOf_272 (by decide) ?_
                exact ih_118 _ (qi_118, ff5_121, fb4_119) _ _ _ (by omega) ⟨rfl, ⟨by omega, fun k hk hp => hv_121.2.1 k (by omega) hp⟩, hP, hD, hS, (lv_sub hl [0, 2, 3, 4, 5, 6, 7, 8, 9, 10, 11] rfl)⟩
              · have c_122 : ¬ (50 ≤ k3_121) := fun h => c_122 ((nI_leI (a := 50) (b := k3_121) (by omega) (by omega)).mpr h)
                refine lv_aload_n hx hb dX8_meanOf_249 rfl (lv_at hl 8 rfl) ?_
                refine va_get (D := D) (ci := 8) (v := .ref (a 29)) (C := RX8) (T := TX8) (N := 44) hx hb hts inX8 hown hK hP 0 rfl rfl 28 (by decide) (hts _ tw_1001) (fun _ h9 => h9) rfl dX8_meanOf_250 ?_
                refine lv_iload hx hb dX8_meanOf_253 (lv_at hl 0 rfl) ?_
                refine lv_aload_n hx hb dX8_meanOf_255 rfl (lv_at hl 8 rfl) ?_
                refine va_get (D := D) (ci := 8) (v := .ref (a 30)) (C := RX8) (T := TX8) (N := 44) hx hb hts inX8 hown hK hP 0 rfl rfl 29 (by decide) (hts _ tw_1002) (fun _ h9 => h9) rfl dX8_meanOf_256 ?_
                refine lv_iload hx hb dX8_meanOf_259 (lv_at hl 0 rfl) ?_
                refine va_iald hx hb hK hP 10 1 rfl rfl (vp_in_nI (by omega) (by decide)) dX8_meanOf_261 ?_
                refine lv_ti (y := (fb4_119 k3_121)) (by rw [nI_clamp (by omega)]) ?_
                refine va_iast hx hb hK hP hD hS 9 1 rfl rfl (vp_in_nI (by omega) (by decide)) dX8_meanOf_262 (fun H locs hP hD hS => ?_)
                have hQ9 := pd_mk [((a 0), .inr (8, (fX8 a (nI tx) fp (nI t0) wd (nI we) nu na (nI rd) ts (nI ru) (nI rw) (nI ca) df db sd))), (aI k (a 1) 3 (nF dn)), (aI k (a 4) 27 (sg se tm gs)), (aI k (a 2) 72 ffrees), (aI k (a 3) 72 fprices), (aI k (a 25) 4 (nF bm)), (aI k (a 26) 48 fbarSeen), (aI k (a 27) 48 fbarFrom), (aI k (a 28) 4 fruleRounds), (aI k (a 29) 52 (upd ff5_121 (Int32.toNatClampNeg (nI k3_121)) (fb4_119 k3_121))), (aI k (a 30) 52 fb4_119)] hP hD
                clear hP hD
                obtain ⟨hP, hD⟩ := hQ9
                rw [nI_clamp (n := k3_121) (by omega)] at hP hD
                have hQ9 := pd_mk [((a 0), .inr (8, (fX8 a (nI tx) fp (nI t0) wd (nI we) nu na (nI rd) ts (nI ru) (nI rw) (nI ca) df db sd))), (aI k (a 1) 3 (nF dn)), (aI k (a 4) 27 (sg se tm gs)), (aI k (a 2) 72 ffrees), (aI k (a 3) 72 fprices), (aI k (a 25) 4 (nF bm)), (aI k (a 26) 48 fbarSeen), (aI k (a 27) 48 fbarFrom), (aI k (a 28) 4 fruleRounds), (aI k (a 29) 52 (upd ff5_121 k3_121 (fb4_119 k3_121))), (aI k (a 30) 52 fb4_119)] hP hD
                clear hP hD
                obtain ⟨hP, hD⟩ := hQ9
                refine lv_iinc (v := (nI (k3_121 + 1))) (lv' := [(11, .int (nI (k3_121 + 1))), (10, .int (nI qi_118)), (9, .int r_114), (8, .int x_79), (7, .int (nI q_74)), (6, .int bg_74), (5, .int x_72), (4, .int (nI (dn sn))), (0, .ref (a 0)), (1, .int (nI sn)), (2, .int (nI kr)), (3, .int (nI wh))]) hx hb dX8_meanOf_263 hl (k := 0) rfl (nI_add k3_121 1) (by decide) rfl (fun ls hl => ?_)
                refine lv_goto (tgt := 242) hx hb dX8_meanOf_266 (by decide) ?_
                exact ih_121 _ (k3_121 + 1, (upd ff5_121 k3_121 (fb4_119 k3_121))) _ _ _ (by omega) ⟨rfl, ⟨by omega, la_updc (F := fun k => mV (sdM dn (sg se tm gs) ffrees fprices sn) (ruM bm fbarSeen fbarFrom fruleRounds kr) wh q_74 r_114 (dn sn - qi_118) (k / 2) (k % 2)) (P := fun k => k / 2 + (dn sn - qi_118) ≤ 25) hv_121.2.1 (hv_119.2 k3_121 (by omega)), trivial⟩, hP, hD, hS, (lv_sub hl [0, 1, 2, 3, 4, 5, 6, 7, 8, 9, 10, 11] rfl)⟩
            · have c_120 : ¬ (50 ≤ k2_119) := fun h => c_120 ((nI_leI (a := 50) (b := k2_119) (by omega) (by omega)).mpr h)
              refine lv_iload hx hb dX8_meanOf_142 (lv_at hl 0 rfl) ?_
              refine lv_iconst (v := 2) hx hb dX8_meanOf_144 (by decide) ?_
              refine lv_idiv hx hb dX8_meanOf_145 (by decide) ?_
              refine lv_ti (y := (nI (k2_119 / 2))) (pk_div (by omega) (by decide) (by decide)) ?_
              refine lv_istore (lv' := [(12, .int (nI (k2_119 / 2))), (11, .int (nI k2_119)), (10, .int (nI qi_118)), (9, .int r_114), (8, .int x_79), (7, .int (nI q_74)), (6, .int bg_74), (5, .int x_72), (4, .int (nI (dn sn))), (0, .ref (a 0)), (1, .int (nI sn)), (2, .int (nI kr)), (3, .int (nI wh))]) hx hb dX8_meanOf_146 hl (by decide) rfl (fun ls hl => ?_)
              refine lv_aload_n hx hb dX8_meanOf_148 rfl (lv_at hl 9 rfl) ?_
              refine lv_iload_n hx hb dX8_meanOf_149 rfl (lv_at hl 11 rfl) ?_
              refine lv_iload hx hb dX8_meanOf_150 (lv_at hl 2 rfl) ?_
              refine lv_iload hx hb dX8_meanOf_152 (lv_at hl 0 rfl) ?_
              refine ro_i (D := D) (va_runV (As := [.int (nI kr), .int (nI qi_118), .int (nI (k2_119 / 2))]) (rest := []) ⟨hx, hb, hml, hown, hts⟩ ((n_isFor l D k st lo a tx t0 we rd ru rw ca fp wd nu na ts df db sd bm fbarSeen fbarFrom fruleRounds kr qi_118 (k2_119 / 2) hbm (by first | assumption | omega)) H.size) (cwV 3 hts (gV tw_1338 tw_1340 tw_61 tw_87 tw_1341) rfl rfl rfl (by decide +kernel) ⟨Nat.le_of_ble_eq_true rfl, Nat.le_of_ble_eq_true rfl⟩) (pV hS hAlo hlo hP hK (va_Dlo hD hAlo) hZ [0, 5, 6, 7, 8] (by decide) rfl (ci := 8) (q := (RX8, TX8, 44)) (q0 := 0) rfl rfl) rfl rfl hl.1 rfl (lv_room (Nat.le_of_ble_eq_true rfl)) dX8_meanOf_154 ⟨Nat.le_of_ble_eq_true rfl, Nat.le_of_ble_eq_true rfl⟩) hS hA hP (fun r_124 H locs hw_124 hP hS => ?_)
              try dsimp only at hw_124
              rcases hw_124 with ⟨rfl, hw_124⟩ | ⟨rfl, hw_124⟩
              · refine lv_if_eq (tgt := 173) hx hb dX8_meanOf_157 (by decide) (fun h => absurd h (by decide)) (fun _ => ?_)
                refine lv_aload_n hx hb dX8_meanOf_160 rfl (lv_at hl 9 rfl) ?_
                refine lv_iload_n hx hb dX8_meanOf_161 rfl (lv_at hl 10 rfl) ?_
                refine lv_iload hx hb dX8_meanOf_162 (lv_at hl 5 rfl) ?_
                refine lv_iload hx hb dX8_meanOf_164 (lv_at hl 2 rfl) ?_
                refine lv_iload_n hx hb dX8_meanOf_166 rfl (lv_at hl 12 rfl) ?_
                refine ro_i (D := D) (va_runV (As := [.int (nI sn), .int (nI q_74), .int (nI qi_118), .int (nI wh)]) (rest := []) ⟨hx, hb, hml, hown, hts⟩ ((n_byTaking l D k st lo a tx t0 we rd ru rw ca fp wd nu na ts df db sd dn se tm gs fprices sn qi_118 (nI q_74) (nI wh) (by first | assumption | omega) (by first | assumption | omega)) H.size) (cwV 4 hts (gV tw_1342 tw_1344 tw_62 tw_87 tw_1345) rfl rfl rfl (by decide +kernel) ⟨Nat.le_of_ble_eq_true rfl, Nat.le_of_ble_eq_true rfl⟩) (pV hS hAlo hlo hP hK (va_Dlo hD hAlo) hZ [0, 1, 2, 4] (by decide) rfl (ci := 8) (q := (RX8, TX8, 44)) (q0 := 0) rfl rfl) rfl rfl hl.1 rfl (lv_room (Nat.le_of_ble_eq_true rfl)) dX8_meanOf_167 ⟨Nat.le_of_ble_eq_true rfl, Nat.le_of_ble_eq_true rfl⟩) hS hA hP (fun r_125 H locs hw_125 hP hS => ?_)
                try dsimp only at hw_125
                refine lv_goto (tgt := 187) hx hb dX8_meanOf_170 (by decide) ?_
                refine lv_istore (lv' := [(13, .int r_125), (12, .int (nI (k2_119 / 2))), (11, .int (nI k2_119)), (10, .int (nI qi_118)), (9, .int r_114), (8, .int x_79), (7, .int (nI q_74)), (6, .int bg_74), (5, .int x_72), (4, .int (nI (dn sn))), (0, .ref (a 0)), (1, .int (nI sn)), (2, .int (nI kr)), (3, .int (nI wh))]) hx hb dX8_meanOf_187 hl (by decide) rfl (fun ls hl => ?_)
                refine lv_aload_n hx hb dX8_meanOf_189 rfl (lv_at hl 10 rfl) ?_
                refine va_get (D := D) (ci := 8) (v := .ref (a 30)) (C := RX8) (T := TX8) (N := 44) hx hb hts inX8 hown hK hP 0 rfl rfl 29 (by decide) (hts _ tw_1002) (fun _ h9 => h9) rfl dX8_meanOf_190 ?_
                refine lv_iload hx hb dX8_meanOf_193 (lv_at hl 2 rfl) ?_
                refine lv_aload_n hx hb dX8_meanOf_195 rfl (lv_at hl 10 rfl) ?_
                refine lv_iload_n hx hb dX8_meanOf_196 rfl (lv_at hl 11 rfl) ?_
                refine lv_iload hx hb dX8_meanOf_197 (lv_at hl 3 rfl) ?_
                refine lv_iload hx hb dX8_meanOf_199 (lv_at hl 2 rfl) ?_
                refine lv_iconst (v := 2) hx hb dX8_meanOf_201 (by decide) ?_
                refine lv_irem hx hb dX8_meanOf_202 (by decide) ?_
                refine lv_ti (y := (nI (k2_119 % 2))) (pk_rem (by omega) (by decide) (by decide)) ?_
                refine lv_iconst (v := 1) hx hb dX8_meanOf_203 (by decide) ?_
                refine lv_icmp_ne (tgt := 211) hx hb dX8_meanOf_204 (by decide) (fun c_126 => ?_) (fun c_126 => ?_)
                · have c_126 : ¬ ((k2_119 % 2) = 1) := fun h => c_126 ((nI_eq (a := (k2_119 % 2)) (b := 1) (by omega) (by omega)).mpr h)
                  refine lv_iconst (v := 0) hx hb dX8_meanOf_211 (by decide) ?_
                  refine ro_i (D := D) (va_runV (As := [.int (nI sn), .int (nI qi_118), .int 0]) (rest := [.int (nI k2_119), .ref (a 30)]) ⟨hx, hb, hml, hown, hts⟩ ((n_chanceOf l D k st lo a tx t0 we rd ru rw ca fp wd nu na ts df db sd ffrees se tm gs sn qi_118 0 (by first | assumption | omega) (by first | assumption | omega)) H.size) (cwV 3 hts (gV tw_1210 tw_1212 tw_41 tw_87 tw_1213) rfl rfl rfl (by decide +kernel) ⟨Nat.le_of_ble_eq_true rfl, Nat.le_of_ble_eq_true rfl⟩) (pV hS hAlo hlo hP hK (va_Dlo hD hAlo) hZ [0, 3, 2] (by decide) rfl (ci := 8) (q := (RX8, TX8, 44)) (q0 := 0) rfl rfl) rfl rfl hl.1 rfl (lv_room (Nat.le_of_ble_eq_true rfl)) dX8_meanOf_212 ⟨Nat.le_of_ble_eq_true rfl, Nat.le_of_ble_eq_true rfl⟩) hS hA hP (fun r_127 H locs hw_127 hP hS => ?_)
                  try dsimp only at hw_127
                  refine lv_iload hx hb dX8_meanOf_215 (lv_at hl 0 rfl) ?_
                  refine lv_iload hx hb dX8_meanOf_217 (lv_at hl 8 rfl) ?_
                  refine lv_aload_n hx hb dX8_meanOf_219 rfl (lv_at hl 10 rfl) ?_
                  refine va_get (D := D) (ci := 8) (v := .ref (a 29)) (C := RX8) (T := TX8) (N := 44) hx hb hts inX8 hown hK hP 0 rfl rfl 28 (by decide) (hts _ tw_1001) (fun _ h9 => h9) rfl dX8_meanOf_220 ?_
                  refine lv_iconst (v := 2) hx hb dX8_meanOf_223 (by decide) ?_
                  refine lv_iload hx hb dX8_meanOf_224 (lv_at hl 1 rfl) ?_
                  refine lv_imul hx hb dX8_meanOf_226 ?_
                  refine lv_ti (y := (nI (2 * (k2_119 / 2)))) (pk_mul 2 (k2_119 / 2)) ?_
                  refine va_iald hx hb hK hP 9 1 rfl rfl (vp_in_nI (by omega) (by decide)) dX8_meanOf_227 ?_
                  refine lv_ti (y := (ff3_118 (2 * (k2_119 / 2)))) (by rw [nI_clamp (by omega)]) ?_
                  refine lv_iadd hx hb dX8_meanOf_228 ?_
                  refine lv_topi (fun x_128 ex_128 => ?_)
                  refine ro_i (D := D) (va_runS (As := [.int r_127, .int r_125, .int x_128]) (rest := [.int (nI k2_119), .ref (a 30)]) ⟨hx, hb, hml, hown, hts⟩ ((n_mixed l D k st lo r_127 r_125 x_128) H.size) (va_cwS 3 hts (gS tw_1269 tw_1270 tw_87 tw_1271) rfl rfl rfl (by decide +kernel) ⟨Nat.le_of_ble_eq_true rfl, Nat.le_of_ble_eq_true rfl⟩) (pS hS hAlo hlo hP hK (va_Dlo hD hAlo) hZ [] (by decide) rfl) rfl rfl hl.1 rfl (lv_room (Nat.le_of_ble_eq_true rfl)) dX8_meanOf_229 ⟨Nat.le_of_ble_eq_true rfl, Nat.le_of_ble_eq_true rfl⟩) hS hA hP (fun r_129 H locs hw_129 hP hS => ?_)
                  try dsimp only at hw_129
                  refine va_iast hx hb hK hP hD hS 10 1 rfl rfl (vp_in_nI (by omega) (by decide)) dX8_meanOf_232 (fun H locs hP hD hS => ?_)
                  have hQ9 := pd_mk [((a 0), .inr (8, (fX8 a (nI tx) fp (nI t0) wd (nI we) nu na (nI rd) ts (nI ru) (nI rw) (nI ca) df db sd))), (aI k (a 1) 3 (nF dn)), (aI k (a 4) 27 (sg se tm gs)), (aI k (a 2) 72 ffrees), (aI k (a 3) 72 fprices), (aI k (a 25) 4 (nF bm)), (aI k (a 26) 48 fbarSeen), (aI k (a 27) 48 fbarFrom), (aI k (a 28) 4 fruleRounds), (aI k (a 29) 52 ff3_118), (aI k (a 30) 52 (upd fb4_119 (Int32.toNatClampNeg (nI k2_119)) r_129))] hP hD
                  clear hP hD
                  obtain ⟨hP, hD⟩ := hQ9
                  rw [nI_clamp (n := k2_119) (by omega)] at hP hD
                  have hQ9 := pd_mk [((a 0), .inr (8, (fX8 a (nI tx) fp (nI t0) wd (nI we) nu na (nI rd) ts (nI ru) (nI rw) (nI ca) df db sd))), (aI k (a 1) 3 (nF dn)), (aI k (a 4) 27 (sg se tm gs)), (aI k (a 2) 72 ffrees), (aI k (a 3) 72 fprices), (aI k (a 25) 4 (nF bm)), (aI k (a 26) 48 fbarSeen), (aI k (a 27) 48 fbarFrom), (aI k (a 28) 4 fruleRounds), (aI k (a 29) 52 ff3_118), (aI k (a 30) 52 (upd fb4_119 k2_119 r_129))] hP hD
                  clear hP hD
                  obtain ⟨hP, hD⟩ := hQ9
                  refine lv_iinc (v := (nI (k2_119 + 1))) (lv' := [(11, .int (nI (k2_119 + 1))), (13, .int r_125), (12, .int (nI (k2_119 / 2))), (10, .int (nI qi_118)), (9, .int r_114), (8, .int x_79), (7, .int (nI q_74)), (6, .int bg_74), (5, .int x_72), (4, .int (nI (dn sn))), (0, .ref (a 0)), (1, .int (nI sn)), (2, .int (nI kr)), (3, .int (nI wh))]) hx hb dX8_meanOf_233 hl (k := 2) rfl (nI_add k2_119 1) (by decide) rfl (fun ls hl => ?_)
                  refine lv_goto (tgt := 135) hx hb dX8_meanOf_236 (by decide) ?_
                  have hx_119 : (k2_119 / 2) + (dn sn - qi_118) ≤ 25 → r_129 = mV (sdM dn (sg se tm gs) ffrees fprices sn) (ruM bm fbarSeen fbarFrom fruleRounds kr) wh q_74 r_114 (dn sn - qi_118) (k2_119 / 2) (k2_119 % 2) := fun hk => mv_v (d := (sdM dn (sg se tm gs) ffrees fprices sn)) (u := (ruM bm fbarSeen fbarFrom fruleRounds kr)) (wh := wh) (r := q_74) (E := r_114) (p := (k2_119 / 2)) (a := k2_119 % 2) (show qi_118 < dn sn by omega) (show _ = pChance (sdM dn (sg se tm gs) ffrees fprices sn) qi_118 (nI (k2_119 % 2)) from by rw [show k2_119 % 2 = 0 by omega]; exact hw_127.trans (mChance (fpr := fprices) (show qi_118 < dn sn by omega))) (by rw [if_pos hw_124]; exact hw_125.trans (mByT hg9 (by omega) (by omega) (by omega) (by omega))) (by rw [← hps_73, ex_128]; exact congrArg (fun z => x_72 + z) (by have h9 := hv_118.2 (2 * (k2_119 / 2)) (by omega) (by omega); rw [show (2 * (k2_119 / 2)) / 2 = (k2_119 / 2) by omega, show (2 * (k2_119 / 2)) % 2 = 0 by omega] at h9; exact h9)) hw_129
                  exact ih_119 _ (k2_119 + 1, (upd fb4_119 k2_119 r_129)) _ _ _ (by omega) ⟨rfl, ⟨by omega, la_updc (F := fun k => mV (sdM dn (sg se tm gs) ffrees fprices sn) (ruM bm fbarSeen fbarFrom fruleRounds kr) wh q_74 r_114 (dn sn - qi_118) (k / 2) (k % 2)) (P := fun k => k / 2 + (dn sn - qi_118) ≤ 25) hv_119.2 hx_119⟩, hP, hD, hS, (lv_sub hl [0, 3, 4, 5, 6, 7, 8, 9, 10, 11, 12, 13] rfl)⟩
                · have c_126 := (nI_eq (a := (k2_119 % 2)) (b := 1) (by omega) (by omega)).mp c_126
                  refine lv_iconst (v := 1) hx hb dX8_meanOf_207 (by decide) ?_
                  refine lv_goto (tgt := 212) hx hb dX8_meanOf_208 (by decide) ?_
                  refine ro_i (D := D) (va_runV (As := [.int (nI sn), .int (nI qi_118), .int 1]) (rest := [.int (nI k2_119), .ref (a 30)]) ⟨hx, hb, hml, hown, hts⟩ ((n_chanceOf l D k st lo a tx t0 we rd ru rw ca fp wd nu na ts df db sd ffrees se tm gs sn qi_118 1 (by first | assumption | omega) (by first | assumption | omega)) H.size) (cwV 3 hts (gV tw_1210 tw_1212 tw_41 tw_87 tw_1213) rfl rfl rfl (by decide +kernel) ⟨Nat.le_of_ble_eq_true rfl, Nat.le_of_ble_eq_true rfl⟩) (pV hS hAlo hlo hP hK (va_Dlo hD hAlo) hZ [0, 3, 2] (by decide) rfl (ci := 8) (q := (RX8, TX8, 44)) (q0 := 0) rfl rfl) rfl rfl hl.1 rfl (lv_room (Nat.le_of_ble_eq_true rfl)) dX8_meanOf_212 ⟨Nat.le_of_ble_eq_true rfl, Nat.le_of_ble_eq_true rfl⟩) hS hA hP (fun r_131 H locs hw_131 hP hS => ?_)
                  try dsimp only at hw_131
                  refine lv_iload hx hb dX8_meanOf_215 (lv_at hl 0 rfl) ?_
                  refine lv_iload hx hb dX8_meanOf_217 (lv_at hl 8 rfl) ?_
                  refine lv_aload_n hx hb dX8_meanOf_219 rfl (lv_at hl 10 rfl) ?_
                  refine va_get (D := D) (ci := 8) (v := .ref (a 29)) (C := RX8) (T := TX8) (N := 44) hx hb hts inX8 hown hK hP 0 rfl rfl 28 (by decide) (hts _ tw_1001) (fun _ h9 => h9) rfl dX8_meanOf_220 ?_
                  refine lv_iconst (v := 2) hx hb dX8_meanOf_223 (by decide) ?_
                  refine lv_iload hx hb dX8_meanOf_224 (lv_at hl 1 rfl) ?_
                  refine lv_imul hx hb dX8_meanOf_226 ?_
                  refine lv_ti (y := (nI (2 * (k2_119 / 2)))) (pk_mul 2 (k2_119 / 2)) ?_
                  refine va_iald hx hb hK hP 9 1 rfl rfl (vp_in_nI (by omega) (by decide)) dX8_meanOf_227 ?_
                  refine lv_ti (y := (ff3_118 (2 * (k2_119 / 2)))) (by rw [nI_clamp (by omega)]) ?_
                  refine lv_iadd hx hb dX8_meanOf_228 ?_
                  refine lv_topi (fun x_132 ex_132 => ?_)
                  refine ro_i (D := D) (va_runS (As := [.int r_131, .int r_125, .int x_132]) (rest := [.int (nI k2_119), .ref (a 30)]) ⟨hx, hb, hml, hown, hts⟩ ((n_mixed l D k st lo r_131 r_125 x_132) H.size) (va_cwS 3 hts (gS tw_1269 tw_1270 tw_87 tw_1271) rfl rfl rfl (by decide +kernel) ⟨Nat.le_of_ble_eq_true rfl, Nat.le_of_ble_eq_true rfl⟩) (pS hS hAlo hlo hP hK (va_Dlo hD hAlo) hZ [] (by decide) rfl) rfl rfl hl.1 rfl (lv_room (Nat.le_of_ble_eq_true rfl)) dX8_meanOf_229 ⟨Nat.le_of_ble_eq_true rfl, Nat.le_of_ble_eq_true rfl⟩) hS hA hP (fun r_133 H locs hw_133 hP hS => ?_)
                  try dsimp only at hw_133
                  refine va_iast hx hb hK hP hD hS 10 1 rfl rfl (vp_in_nI (by omega) (by decide)) dX8_meanOf_232 (fun H locs hP hD hS => ?_)
                  have hQ9 := pd_mk [((a 0), .inr (8, (fX8 a (nI tx) fp (nI t0) wd (nI we) nu na (nI rd) ts (nI ru) (nI rw) (nI ca) df db sd))), (aI k (a 1) 3 (nF dn)), (aI k (a 4) 27 (sg se tm gs)), (aI k (a 2) 72 ffrees), (aI k (a 3) 72 fprices), (aI k (a 25) 4 (nF bm)), (aI k (a 26) 48 fbarSeen), (aI k (a 27) 48 fbarFrom), (aI k (a 28) 4 fruleRounds), (aI k (a 29) 52 ff3_118), (aI k (a 30) 52 (upd fb4_119 (Int32.toNatClampNeg (nI k2_119)) r_133))] hP hD
                  clear hP hD
                  obtain ⟨hP, hD⟩ := hQ9
                  rw [nI_clamp (n := k2_119) (by omega)] at hP hD
                  have hQ9 := pd_mk [((a 0), .inr (8, (fX8 a (nI tx) fp (nI t0) wd (nI we) nu na (nI rd) ts (nI ru) (nI rw) (nI ca) df db sd))), (aI k (a 1) 3 (nF dn)), (aI k (a 4) 27 (sg se tm gs)), (aI k (a 2) 72 ffrees), (aI k (a 3) 72 fprices), (aI k (a 25) 4 (nF bm)), (aI k (a 26) 48 fbarSeen), (aI k (a 27) 48 fbarFrom), (aI k (a 28) 4 fruleRounds), (aI k (a 29) 52 ff3_118), (aI k (a 30) 52 (upd fb4_119 k2_119 r_133))] hP hD
                  clear hP hD
                  obtain ⟨hP, hD⟩ := hQ9
                  refine lv_iinc (v := (nI (k2_119 + 1))) (lv' := [(11, .int (nI (k2_119 + 1))), (13, .int r_125), (12, .int (nI (k2_119 / 2))), (10, .int (nI qi_118)), (9, .int r_114), (8, .int x_79), (7, .int (nI q_74)), (6, .int bg_74), (5, .int x_72), (4, .int (nI (dn sn))), (0, .ref (a 0)), (1, .int (nI sn)), (2, .int (nI kr)), (3, .int (nI wh))]) hx hb dX8_meanOf_233 hl (k := 2) rfl (nI_add k2_119 1) (by decide) rfl (fun ls hl => ?_)
                  refine lv_goto (tgt := 135) hx hb dX8_meanOf_236 (by decide) ?_
                  have hx_119 : (k2_119 / 2) + (dn sn - qi_118) ≤ 25 → r_133 = mV (sdM dn (sg se tm gs) ffrees fprices sn) (ruM bm fbarSeen fbarFrom fruleRounds kr) wh q_74 r_114 (dn sn - qi_118) (k2_119 / 2) (k2_119 % 2) := fun hk => mv_v (d := (sdM dn (sg se tm gs) ffrees fprices sn)) (u := (ruM bm fbarSeen fbarFrom fruleRounds kr)) (wh := wh) (r := q_74) (E := r_114) (p := (k2_119 / 2)) (a := k2_119 % 2) (show qi_118 < dn sn by omega) (show _ = pChance (sdM dn (sg se tm gs) ffrees fprices sn) qi_118 (nI (k2_119 % 2)) from by rw [show k2_119 % 2 = 1 by omega]; exact hw_131.trans (mChance (fpr := fprices) (show qi_118 < dn sn by omega))) (by rw [if_pos hw_124]; exact hw_125.trans (mByT hg9 (by omega) (by omega) (by omega) (by omega))) (by rw [← hps_73, ex_132]; exact congrArg (fun z => x_72 + z) (by have h9 := hv_118.2 (2 * (k2_119 / 2)) (by omega) (by omega); rw [show (2 * (k2_119 / 2)) / 2 = (k2_119 / 2) by omega, show (2 * (k2_119 / 2)) % 2 = 0 by omega] at h9; exact h9)) hw_133
                  exact ih_119 _ (k2_119 + 1, (upd fb4_119 k2_119 r_133)) _ _ _ (by omega) ⟨rfl, ⟨by omega, la_updc (F := fun k => mV (sdM dn (sg se tm gs) ffrees fprices sn) (ruM bm fbarSeen fbarFrom fruleRounds kr) wh q_74 r_114 (dn sn - qi_118) (k / 2) (k % 2)) (P := fun k => k / 2 + (dn sn - qi_118) ≤ 25) hv_119.2 hx_119⟩, hP, hD, hS, (lv_sub hl [0, 3, 4, 5, 6, 7, 8, 9, 10, 11, 12, 13] rfl)⟩
              · refine lv_if_eq (tgt := 173) hx hb dX8_meanOf_157 (by decide) (fun _ => ?_) (fun h => absurd (by decide) h)
                refine lv_iload hx hb dX8_meanOf_173 (lv_at hl 7 rfl) ?_
                refine lv_aload_n hx hb dX8_meanOf_175 rfl (lv_at hl 9 rfl) ?_
                refine va_get (D := D) (ci := 8) (v := .ref (a 29)) (C := RX8) (T := TX8) (N := 44) hx hb hts inX8 hown hK hP 0 rfl rfl 28 (by decide) (hts _ tw_1001) (fun _ h9 => h9) rfl dX8_meanOf_176 ?_
                refine lv_iconst (v := 2) hx hb dX8_meanOf_179 (by decide) ?_
                refine lv_iload hx hb dX8_meanOf_180 (lv_at hl 0 rfl) ?_
                refine lv_imul hx hb dX8_meanOf_182 ?_
                refine lv_ti (y := (nI (2 * (k2_119 / 2)))) (pk_mul 2 (k2_119 / 2)) ?_
                refine lv_iconst (v := 3) hx hb dX8_meanOf_183 (by decide) ?_
                refine lv_iadd hx hb dX8_meanOf_184 ?_
                refine lv_ti (y := (nI (2 * (k2_119 / 2) + 3))) (nI_add (2 * (k2_119 / 2)) 3) ?_
                refine va_iald hx hb hK hP 9 1 rfl rfl (vp_in_nI (by omega) (by decide)) dX8_meanOf_185 ?_
                refine lv_ti (y := (ff3_118 (2 * (k2_119 / 2) + 3))) (by rw [nI_clamp (by omega)]) ?_
                refine lv_iadd hx hb dX8_meanOf_186 ?_
                refine lv_topi (fun x_135 ex_135 => ?_)
                refine lv_istore (lv' := [(13, .int x_135), (12, .int (nI (k2_119 / 2))), (11, .int (nI k2_119)), (10, .int (nI qi_118)), (9, .int r_114), (8, .int x_79), (7, .int (nI q_74)), (6, .int bg_74), (5, .int x_72), (4, .int (nI (dn sn))), (0, .ref (a 0)), (1, .int (nI sn)), (2, .int (nI kr)), (3, .int (nI wh))]) hx hb dX8_meanOf_187 hl (by decide) rfl (fun ls hl => ?_)
                refine lv_aload_n hx hb dX8_meanOf_189 rfl (lv_at hl 10 rfl) ?_
                refine va_get (D := D) (ci := 8) (v := .ref (a 30)) (C := RX8) (T := TX8) (N := 44) hx hb hts inX8 hown hK hP 0 rfl rfl 29 (by decide) (hts _ tw_1002) (fun _ h9 => h9) rfl dX8_meanOf_190 ?_
                refine lv_iload hx hb dX8_meanOf_193 (lv_at hl 2 rfl) ?_
                refine lv_aload_n hx hb dX8_meanOf_195 rfl (lv_at hl 10 rfl) ?_
                refine lv_iload_n hx hb dX8_meanOf_196 rfl (lv_at hl 11 rfl) ?_
                refine lv_iload hx hb dX8_meanOf_197 (lv_at hl 3 rfl) ?_
                refine lv_iload hx hb dX8_meanOf_199 (lv_at hl 2 rfl) ?_
                refine lv_iconst (v := 2) hx hb dX8_meanOf_201 (by decide) ?_
                refine lv_irem hx hb dX8_meanOf_202 (by decide) ?_
                refine lv_ti (y := (nI (k2_119 % 2))) (pk_rem (by omega) (by decide) (by decide)) ?_
                refine lv_iconst (v := 1) hx hb dX8_meanOf_203 (by decide) ?_
                refine lv_icmp_ne (tgt := 211) hx hb dX8_meanOf_204 (by decide) (fun c_136 => ?_) (fun c_136 => ?_)
                · have c_136 : ¬ ((k2_119 % 2) = 1) := fun h => c_136 ((nI_eq (a := (k2_119 % 2)) (b := 1) (by omega) (by omega)).mpr h)
                  refine lv_iconst (v := 0) hx hb dX8_meanOf_211 (by decide) ?_
                  refine ro_i (D := D) (va_runV (As := [.int (nI sn), .int (nI qi_118), .int 0]) (rest := [.int (nI k2_119), .ref (a 30)]) ⟨hx, hb, hml, hown, hts⟩ ((n_chanceOf l D k st lo a tx t0 we rd ru rw ca fp wd nu na ts df db sd ffrees se tm gs sn qi_118 0 (by first | assumption | omega) (by first | assumption | omega)) H.size) (cwV 3 hts (gV tw_1210 tw_1212 tw_41 tw_87 tw_1213) rfl rfl rfl (by decide +kernel) ⟨Nat.le_of_ble_eq_true rfl, Nat.le_of_ble_eq_true rfl⟩) (pV hS hAlo hlo hP hK (va_Dlo hD hAlo) hZ [0, 3, 2] (by decide) rfl (ci := 8) (q := (RX8, TX8, 44)) (q0 := 0) rfl rfl) rfl rfl hl.1 rfl (lv_room (Nat.le_of_ble_eq_true rfl)) dX8_meanOf_212 ⟨Nat.le_of_ble_eq_true rfl, Nat.le_of_ble_eq_true rfl⟩) hS hA hP (fun r_137 H locs hw_137 hP hS => ?_)
                  try dsimp only at hw_137
                  refine lv_iload hx hb dX8_meanOf_215 (lv_at hl 0 rfl) ?_
                  refine lv_iload hx hb dX8_meanOf_217 (lv_at hl 8 rfl) ?_
                  refine lv_aload_n hx hb dX8_meanOf_219 rfl (lv_at hl 10 rfl) ?_
                  refine va_get (D := D) (ci := 8) (v := .ref (a 29)) (C := RX8) (T := TX8) (N := 44) hx hb hts inX8 hown hK hP 0 rfl rfl 28 (by decide) (hts _ tw_1001) (fun _ h9 => h9) rfl dX8_meanOf_220 ?_
                  refine lv_iconst (v := 2) hx hb dX8_meanOf_223 (by decide) ?_
                  refine lv_iload hx hb dX8_meanOf_224 (lv_at hl 1 rfl) ?_
                  refine lv_imul hx hb dX8_meanOf_226 ?_
                  refine lv_ti (y := (nI (2 * (k2_119 / 2)))) (pk_mul 2 (k2_119 / 2)) ?_
                  refine va_iald hx hb hK hP 9 1 rfl rfl (vp_in_nI (by omega) (by decide)) dX8_meanOf_227 ?_
                  refine lv_ti (y := (ff3_118 (2 * (k2_119 / 2)))) (by rw [nI_clamp (by omega)]) ?_
                  refine lv_iadd hx hb dX8_meanOf_228 ?_
                  refine lv_topi (fun x_138 ex_138 => ?_)
                  refine ro_i (D := D) (va_runS (As := [.int r_137, .int x_135, .int x_138]) (rest := [.int (nI k2_119), .ref (a 30)]) ⟨hx, hb, hml, hown, hts⟩ ((n_mixed l D k st lo r_137 x_135 x_138) H.size) (va_cwS 3 hts (gS tw_1269 tw_1270 tw_87 tw_1271) rfl rfl rfl (by decide +kernel) ⟨Nat.le_of_ble_eq_true rfl, Nat.le_of_ble_eq_true rfl⟩) (pS hS hAlo hlo hP hK (va_Dlo hD hAlo) hZ [] (by decide) rfl) rfl rfl hl.1 rfl (lv_room (Nat.le_of_ble_eq_true rfl)) dX8_meanOf_229 ⟨Nat.le_of_ble_eq_true rfl, Nat.le_of_ble_eq_true rfl⟩) hS hA hP (fun r_139 H locs hw_139 hP hS => ?_)
                  try dsimp only at hw_139
                  refine va_iast hx hb hK hP hD hS 10 1 rfl rfl (vp_in_nI (by omega) (by decide)) dX8_meanOf_232 (fun H locs hP hD hS => ?_)
                  have hQ9 := pd_mk [((a 0), .inr (8, (fX8 a (nI tx) fp (nI t0) wd (nI we) nu na (nI rd) ts (nI ru) (nI rw) (nI ca) df db sd))), (aI k (a 1) 3 (nF dn)), (aI k (a 4) 27 (sg se tm gs)), (aI k (a 2) 72 ffrees), (aI k (a 3) 72 fprices), (aI k (a 25) 4 (nF bm)), (aI k (a 26) 48 fbarSeen), (aI k (a 27) 48 fbarFrom), (aI k (a 28) 4 fruleRounds), (aI k (a 29) 52 ff3_118), (aI k (a 30) 52 (upd fb4_119 (Int32.toNatClampNeg (nI k2_119)) r_139))] hP hD
                  clear hP hD
                  obtain ⟨hP, hD⟩ := hQ9
                  rw [nI_clamp (n := k2_119) (by omega)] at hP hD
                  have hQ9 := pd_mk [((a 0), .inr (8, (fX8 a (nI tx) fp (nI t0) wd (nI we) nu na (nI rd) ts (nI ru) (nI rw) (nI ca) df db sd))), (aI k (a 1) 3 (nF dn)), (aI k (a 4) 27 (sg se tm gs)), (aI k (a 2) 72 ffrees), (aI k (a 3) 72 fprices), (aI k (a 25) 4 (nF bm)), (aI k (a 26) 48 fbarSeen), (aI k (a 27) 48 fbarFrom), (aI k (a 28) 4 fruleRounds), (aI k (a 29) 52 ff3_118), (aI k (a 30) 52 (upd fb4_119 k2_119 r_139))] hP hD
                  clear hP hD
                  obtain ⟨hP, hD⟩ := hQ9
                  refine lv_iinc (v := (nI (k2_119 + 1))) (lv' := [(11, .int (nI (k2_119 + 1))), (13, .int x_135), (12, .int (nI (k2_119 / 2))), (10, .int (nI qi_118)), (9, .int r_114), (8, .int x_79), (7, .int (nI q_74)), (6, .int bg_74), (5, .int x_72), (4, .int (nI (dn sn))), (0, .ref (a 0)), (1, .int (nI sn)), (2, .int (nI kr)), (3, .int (nI wh))]) hx hb dX8_meanOf_233 hl (k := 2) rfl (nI_add k2_119 1) (by decide) rfl (fun ls hl => ?_)
                  refine lv_goto (tgt := 135) hx hb dX8_meanOf_236 (by decide) ?_
                  have hx_119 : (k2_119 / 2) + (dn sn - qi_118) ≤ 25 → r_139 = mV (sdM dn (sg se tm gs) ffrees fprices sn) (ruM bm fbarSeen fbarFrom fruleRounds kr) wh q_74 r_114 (dn sn - qi_118) (k2_119 / 2) (k2_119 % 2) := fun hk => mv_v (d := (sdM dn (sg se tm gs) ffrees fprices sn)) (u := (ruM bm fbarSeen fbarFrom fruleRounds kr)) (wh := wh) (r := q_74) (E := r_114) (p := (k2_119 / 2)) (a := k2_119 % 2) (show qi_118 < dn sn by omega) (show _ = pChance (sdM dn (sg se tm gs) ffrees fprices sn) qi_118 (nI (k2_119 % 2)) from by rw [show k2_119 % 2 = 0 by omega]; exact hw_137.trans (mChance (fpr := fprices) (show qi_118 < dn sn by omega))) (by rw [if_neg hw_124, ← hps_73, ex_135]; exact congrArg (fun z => x_72 + z) (by have h9 := hv_118.2 (2 * (k2_119 / 2) + 3) (by omega) (by omega); rw [show (2 * (k2_119 / 2) + 3) / 2 = (k2_119 / 2) + 1 by omega, show (2 * (k2_119 / 2) + 3) % 2 = 1 by omega] at h9; exact h9)) (by rw [← hps_73, ex_138]; exact congrArg (fun z => x_72 + z) (by have h9 := hv_118.2 (2 * (k2_119 / 2)) (by omega) (by omega); rw [show (2 * (k2_119 / 2)) / 2 = (k2_119 / 2) by omega, show (2 * (k2_119 / 2)) % 2 = 0 by omega] at h9; exact h9)) hw_139
                  exact ih_119 _ (k2_119 + 1, (upd fb4_119 k2_119 r_139)) _ _ _ (by omega) ⟨rfl, ⟨by omega, la_updc (F := fun k => mV (sdM dn (sg se tm gs) ffrees fprices sn) (ruM bm fbarSeen fbarFrom fruleRounds kr) wh q_74 r_114 (dn sn - qi_118) (k / 2) (k % 2)) (P := fun k => k / 2 + (dn sn - qi_118) ≤ 25) hv_119.2 hx_119⟩, hP, hD, hS, (lv_sub hl [0, 3, 4, 5, 6, 7, 8, 9, 10, 11, 12, 13] rfl)⟩
                · have c_136 := (nI_eq (a := (k2_119 % 2)) (b := 1) (by omega) (by omega)).mp c_136
                  refine lv_iconst (v := 1) hx hb dX8_meanOf_207 (by decide) ?_
                  refine lv_goto (tgt := 212) hx hb dX8_meanOf_208 (by decide) ?_
                  refine ro_i (D := D) (va_runV (As := [.int (nI sn), .int (nI qi_118), .int 1]) (rest := [.int (nI k2_119), .ref (a 30)]) ⟨hx, hb, hml, hown, hts⟩ ((n_chanceOf l D k st lo a tx t0 we rd ru rw ca fp wd nu na ts df db sd ffrees se tm gs sn qi_118 1 (by first | assumption | omega) (by first | assumption | omega)) H.size) (cwV 3 hts (gV tw_1210 tw_1212 tw_41 tw_87 tw_1213) rfl rfl rfl (by decide +kernel) ⟨Nat.le_of_ble_eq_true rfl, Nat.le_of_ble_eq_true rfl⟩) (pV hS hAlo hlo hP hK (va_Dlo hD hAlo) hZ [0, 3, 2] (by decide) rfl (ci := 8) (q := (RX8, TX8, 44)) (q0 := 0) rfl rfl) rfl rfl hl.1 rfl (lv_room (Nat.le_of_ble_eq_true rfl)) dX8_meanOf_212 ⟨Nat.le_of_ble_eq_true rfl, Nat.le_of_ble_eq_true rfl⟩) hS hA hP (fun r_141 H locs hw_141 hP hS => ?_)
                  try dsimp only at hw_141
                  refine lv_iload hx hb dX8_meanOf_215 (lv_at hl 0 rfl) ?_
                  refine lv_iload hx hb dX8_meanOf_217 (lv_at hl 8 rfl) ?_
                  refine lv_aload_n hx hb dX8_meanOf_219 rfl (lv_at hl 10 rfl) ?_
                  refine va_get (D := D) (ci := 8) (v := .ref (a 29)) (C := RX8) (T := TX8) (N := 44) hx hb hts inX8 hown hK hP 0 rfl rfl 28 (by decide) (hts _ tw_1001) (fun _ h9 => h9) rfl dX8_meanOf_220 ?_
                  refine lv_iconst (v := 2) hx hb dX8_meanOf_223 (by decide) ?_
                  refine lv_iload hx hb dX8_meanOf_224 (lv_at hl 1 rfl) ?_
                  refine lv_imul hx hb dX8_meanOf_226 ?_
                  refine lv_ti (y := (nI (2 * (k2_119 / 2)))) (pk_mul 2 (k2_119 / 2)) ?_
                  refine va_iald hx hb hK hP 9 1 rfl rfl (vp_in_nI (by omega) (by decide)) dX8_meanOf_227 ?_
                  refine lv_ti (y := (ff3_118 (2 * (k2_119 / 2)))) (by rw [nI_clamp (by omega)]) ?_
                  refine lv_iadd hx hb dX8_meanOf_228 ?_
                  refine lv_topi (fun x_142 ex_142 => ?_)
                  refine ro_i (D := D) (va_runS (As := [.int r_141, .int x_135, .int x_142]) (rest := [.int (nI k2_119), .ref (a 30)]) ⟨hx, hb, hml, hown, hts⟩ ((n_mixed l D k st lo r_141 x_135 x_142) H.size) (va_cwS 3 hts (gS tw_1269 tw_1270 tw_87 tw_1271) rfl rfl rfl (by decide +kernel) ⟨Nat.le_of_ble_eq_true rfl, Nat.le_of_ble_eq_true rfl⟩) (pS hS hAlo hlo hP hK (va_Dlo hD hAlo) hZ [] (by decide) rfl) rfl rfl hl.1 rfl (lv_room (Nat.le_of_ble_eq_true rfl)) dX8_meanOf_229 ⟨Nat.le_of_ble_eq_true rfl, Nat.le_of_ble_eq_true rfl⟩) hS hA hP (fun r_143 H locs hw_143 hP hS => ?_)
                  try dsimp only at hw_143
                  refine va_iast hx hb hK hP hD hS 10 1 rfl rfl (vp_in_nI (by omega) (by decide)) dX8_meanOf_232 (fun H locs hP hD hS => ?_)
                  have hQ9 := pd_mk [((a 0), .inr (8, (fX8 a (nI tx) fp (nI t0) wd (nI we) nu na (nI rd) ts (nI ru) (nI rw) (nI ca) df db sd))), (aI k (a 1) 3 (nF dn)), (aI k (a 4) 27 (sg se tm gs)), (aI k (a 2) 72 ffrees), (aI k (a 3) 72 fprices), (aI k (a 25) 4 (nF bm)), (aI k (a 26) 48 fbarSeen), (aI k (a 27) 48 fbarFrom), (aI k (a 28) 4 fruleRounds), (aI k (a 29) 52 ff3_118), (aI k (a 30) 52 (upd fb4_119 (Int32.toNatClampNeg (nI k2_119)) r_143))] hP hD
                  clear hP hD
                  obtain ⟨hP, hD⟩ := hQ9
                  rw [nI_clamp (n := k2_119) (by omega)] at hP hD
                  have hQ9 := pd_mk [((a 0), .inr (8, (fX8 a (nI tx) fp (nI t0) wd (nI we) nu na (nI rd) ts (nI ru) (nI rw) (nI ca) df db sd))), (aI k (a 1) 3 (nF dn)), (aI k (a 4) 27 (sg se tm gs)), (aI k (a 2) 72 ffrees), (aI k (a 3) 72 fprices), (aI k (a 25) 4 (nF bm)), (aI k (a 26) 48 fbarSeen), (aI k (a 27) 48 fbarFrom), (aI k (a 28) 4 fruleRounds), (aI k (a 29) 52 ff3_118), (aI k (a 30) 52 (upd fb4_119 k2_119 r_143))] hP hD
                  clear hP hD
                  obtain ⟨hP, hD⟩ := hQ9
                  refine lv_iinc (v := (nI (k2_119 + 1))) (lv' := [(11, .int (nI (k2_119 + 1))), (13, .int x_135), (12, .int (nI (k2_119 / 2))), (10, .int (nI qi_118)), (9, .int r_114), (8, .int x_79), (7, .int (nI q_74)), (6, .int bg_74), (5, .int x_72), (4, .int (nI (dn sn))), (0, .ref (a 0)), (1, .int (nI sn)), (2, .int (nI kr)), (3, .int (nI wh))]) hx hb dX8_meanOf_233 hl (k := 2) rfl (nI_add k2_119 1) (by decide) rfl (fun ls hl => ?_)
                  refine lv_goto (tgt := 135) hx hb dX8_meanOf_236 (by decide) ?_
                  have hx_119 : (k2_119 / 2) + (dn sn - qi_118) ≤ 25 → r_143 = mV (sdM dn (sg se tm gs) ffrees fprices sn) (ruM bm fbarSeen fbarFrom fruleRounds kr) wh q_74 r_114 (dn sn - qi_118) (k2_119 / 2) (k2_119 % 2) := fun hk => mv_v (d := (sdM dn (sg se tm gs) ffrees fprices sn)) (u := (ruM bm fbarSeen fbarFrom fruleRounds kr)) (wh := wh) (r := q_74) (E := r_114) (p := (k2_119 / 2)) (a := k2_119 % 2) (show qi_118 < dn sn by omega) (show _ = pChance (sdM dn (sg se tm gs) ffrees fprices sn) qi_118 (nI (k2_119 % 2)) from by rw [show k2_119 % 2 = 1 by omega]; exact hw_141.trans (mChance (fpr := fprices) (show qi_118 < dn sn by omega))) (by rw [if_neg hw_124, ← hps_73, ex_135]; exact congrArg (fun z => x_72 + z) (by have h9 := hv_118.2 (2 * (k2_119 / 2) + 3) (by omega) (by omega); rw [show (2 * (k2_119 / 2) + 3) / 2 = (k2_119 / 2) + 1 by omega, show (2 * (k2_119 / 2) + 3) % 2 = 1 by omega] at h9; exact h9)) (by rw [← hps_73, ex_142]; exact congrArg (fun z => x_72 + z) (by have h9 := hv_118.2 (2 * (k2_119 / 2)) (by omega) (by omega); rw [show (2 * (k2_119 / 2)) / 2 = (k2_119 / 2) by omega, show (2 * (k2_119 / 2)) % 2 = 0 by omega] at h9; exact h9)) hw_143
                  exact ih_119 _ (k2_119 + 1, (upd fb4_119 k2_119 r_143)) _ _ _ (by omega) ⟨rfl, ⟨by omega, la_updc (F := fun k => mV (sdM dn (sg se tm gs) ffrees fprices sn) (ruM bm fbarSeen fbarFrom fruleRounds kr) wh q_74 r_114 (dn sn - qi_118) (k / 2) (k % 2)) (P := fun k => k / 2 + (dn sn - qi_118) ≤ 25) hv_119.2 hx_119⟩, hP, hD, hS, (lv_sub hl [0, 3, 4, 5, 6, 7, 8, 9, 10, 11, 12, 13] rfl)⟩
        · have c_117 : ¬ (52 ≤ kk_116) := fun h => c_117 ((nI_leI (a := 52) (b := kk_116) (by omega) (by omega)).mpr h)
          refine lv_aload_n hx hb dX8_meanOf_106 rfl (lv_at hl 7 rfl) ?_
          refine va_get (D := D) (ci := 8) (v := .ref (a 29)) (C := RX8) (T := TX8) (N := 44) hx hb hts inX8 hown hK hP 0 rfl rfl 28 (by decide) (hts _ tw_1001) (fun _ h9 => h9) rfl dX8_meanOf_107 ?_
          refine lv_iload hx hb dX8_meanOf_110 (lv_at hl 0 rfl) ?_
          refine lv_iload hx hb dX8_meanOf_112 (lv_at hl 1 rfl) ?_
          refine va_iast hx hb hK hP hD hS 9 1 rfl rfl (vp_in_nI (by omega) (by decide)) dX8_meanOf_114 (fun H locs hP hD hS => ?_)
          have hQ9 := pd_mk [((a 0), .inr (8, (fX8 a (nI tx) fp (nI t0) wd (nI we) nu na (nI rd) ts (nI ru) (nI rw) (nI ca) df db sd))), (aI k (a 1) 3 (nF dn)), (aI k (a 4) 27 (sg se tm gs)), (aI k (a 2) 72 ffrees), (aI k (a 3) 72 fprices), (aI k (a 25) 4 (nF bm)), (aI k (a 26) 48 fbarSeen), (aI k (a 27) 48 fbarFrom), (aI k (a 28) 4 fruleRounds), (aI k (a 29) 52 (upd ff2_116 (Int32.toNatClampNeg (nI kk_116)) r_114)), (aI k (a 30) 52 fb_74)] hP hD
          clear hP hD
          obtain ⟨hP, hD⟩ := hQ9
          rw [nI_clamp (n := kk_116) (by omega)] at hP hD
          have hQ9 := pd_mk [((a 0), .inr (8, (fX8 a (nI tx) fp (nI t0) wd (nI we) nu na (nI rd) ts (nI ru) (nI rw) (nI ca) df db sd))), (aI k (a 1) 3 (nF dn)), (aI k (a 4) 27 (sg se tm gs)), (aI k (a 2) 72 ffrees), (aI k (a 3) 72 fprices), (aI k (a 25) 4 (nF bm)), (aI k (a 26) 48 fbarSeen), (aI k (a 27) 48 fbarFrom), (aI k (a 28) 4 fruleRounds), (aI k (a 29) 52 (upd ff2_116 kk_116 r_114)), (aI k (a 30) 52 fb_74)] hP hD
          clear hP hD
          obtain ⟨hP, hD⟩ := hQ9
          refine lv_iinc (v := (nI (kk_116 + 1))) (lv' := [(10, .int (nI (kk_116 + 1))), (9, .int r_114), (8, .int x_79), (7, .int (nI q_74)), (6, .int bg_74), (5, .int x_72), (4, .int (nI (dn sn))), (0, .ref (a 0)), (1, .int (nI sn)), (2, .int (nI kr)), (3, .int (nI wh))]) hx hb dX8_meanOf_115 hl (k := 0) rfl (nI_add kk_116 1) (by decide) rfl (fun ls hl => ?_)
          refine lv_goto (tgt := 99) hx hb dX8_meanOf_118 (by decide) ?_
          exact ih_116 _ (kk_116 + 1, (upd ff2_116 kk_116 r_114)) _ _ _ (by omega) ⟨rfl, ⟨by omega, la_upd (F := fun _ => r_114) hv_116.2 rfl⟩, hP, hD, hS, (lv_sub hl [0, 1, 2, 3, 4, 5, 6, 7, 8, 9, 10] rfl)⟩


set_option maxHeartbeats 4000000 in
set_option maxRecDepth 100000 in
theorem n_isRule (l : Launch) (D : va_G) (k : Nat → ClassId) (st : Nat → Nat) (lo : Nat) (a : Nat → Nat) (tx : Nat) (t0 : Nat) (we : Nat) (rd : Nat) (ru : Nat) (rw : Nat) (ca : Nat) (fp : Int32) (wd : Int64) (nu : Int32) (na : Int32) (ts : Int32) (df : Int32) (db : Int32) (sd : Int32) (pz : Int32) (hru : ru ≤ 4) : CRi l D k st lo yX8_isRule cX8_isRule 2 (some .boolean) ({ frames := 1, cells := 0, slots := 0, locals := 25 }) [.ref (a 0), .int pz] [((a 0), .inr (8, (fX8 a (nI tx) fp (nI t0) wd (nI we) nu na (nI rd) ts (nI ru) (nI rw) (nI ca) df db sd)))] (fun r => (r = 1 ∧ ∃ j : Nat, j < ru ∧ pz = nI j ∧ True) ∨ (r = 0 ∧ ∀ t, t < ru → ¬ pz = nI t)) := by
  intro sz
  refine Met.ofW (cc := cX8_isRule) (maxL := 2) (ret := (some .boolean)) (by decide) rfl ?_
  intro p e s m args below meth c s₁ B hml hv
  obtain ⟨rfl, hsz, hlo, hP, hK, hDL, hZ⟩ := hv
  have hx := B.exec
  have hb := B.bytes
  have hr := B.returns
  have hts := WS_ts B.pre
  have hown : s.vm.findClass RX8 = some m.cls := findClass_of_methodNamed B.named
  have hlocks := B.notSynchronized
  subst hsz
  have hA : ∀ q : Nat, s.heap.size ≤ q → (fun q : Nat => s.heap.size ≤ q) q := fun _ h => h
  have hAlo : ∀ q : Nat, (fun q : Nat => s.heap.size ≤ q) q → lo ≤ q := fun q h => Nat.le_trans hlo h
  have hS : va_S (fun q : Nat => s.heap.size ≤ q) s.heap s.heap [] := va_S.rf
  have hl := lv_entry ([.ref (a 0), .int pz]) (n := 2) (Nat.le_of_ble_eq_true rfl)
  rw [lg_entry_eq]
  generalize (lg_sl ([.ref (a 0), .int pz]) ++ List.replicate (2 - (lg_sl ([.ref (a 0), .int pz])).length) Slot.unset).toArray = ls at hl ⊢
  have hl : lv_has ls 2 [(0, .ref (a 0)), (1, .int pz)] := hl
  refine lv_iload_n hx hb dX8_isRule_0 rfl (lv_at hl 1 rfl) ?_
  refine lv_i2l (v := pz.toInt64) hx hb dX8_isRule_1 rfl ?_
  refine lv_lconst (v := (0 : Int32).toInt64) hx hb dX8_isRule_2 (by decide) ?_
  refine lv_aload_n hx hb dX8_isRule_3 rfl (lv_at hl 0 rfl) ?_
  refine va_get (D := D) (ci := 8) (v := .int (nI ru)) (C := RX8) (T := TX8) (N := 44) hx hb hts inX8 hown hK hP 0 rfl rfl 23 (by decide) (hts _ tw_996) (fun _ h9 => h9) rfl dX8_isRule_4 ?_
  refine lv_iconst (v := 1) hx hb dX8_isRule_7 (by decide) ?_
  refine lv_isub hx hb dX8_isRule_8 ?_
  refine lv_topi (fun x_1 ex_1 => ?_)
  refine lv_i2l (v := x_1.toInt64) hx hb dX8_isRule_9 rfl ?_
  refine ro_i (D := D) (va_runS (As := [.long (pz.toInt64), .long ((0 : Int32).toInt64), .long (x_1.toInt64)]) (rest := []) ⟨hx, hb, hml, hown, hts⟩ ((k_in l D k st lo pz (0 : Int32) x_1) s.heap.size) (va_cwS 3 hts (gS tw_1111 tw_1112 tw_87 tw_1113) rfl rfl rfl (by decide +kernel) ⟨Nat.le_of_ble_eq_true rfl, Nat.le_of_ble_eq_true rfl⟩) (pS hS hAlo hlo hP hK hDL hZ [] (by decide) rfl) rfl rfl hl.1 rfl (lv_room (Nat.le_of_ble_eq_true rfl)) dX8_isRule_10 ⟨Nat.le_of_ble_eq_true rfl, Nat.le_of_ble_eq_true rfl⟩) hS hA hP (fun r_2 H locs hw_2 hP hS => ?_)
  try dsimp only at hw_2
  rcases hw_2 with ⟨rfl, hw_2⟩ | ⟨rfl, hw_2⟩
  · exact W.zret (v := 1) (ty := .boolean) hx hb hr rfl (fun t ht hW => ⟨⟨1, (), rfl, .inl ⟨rfl, (by rw [ex_1] at hw_2; obtain ⟨j, hj, e⟩ := inB_of1 (by omega) hw_2; exact ⟨j, hj, e, trivial⟩)⟩, trivial⟩, hS.F ht⟩) hS.2.2 dX8_isRule_13
  · exact W.zret (v := 0) (ty := .boolean) hx hb hr rfl (fun t ht hW => ⟨⟨0, (), rfl, .inr ⟨rfl, fun t h1 h2 => hw_2 (by rw [h2, ex_1]; exact in0n h1 (by omega))⟩, trivial⟩, hS.F ht⟩) hS.2.2 dX8_isRule_13


set_option maxHeartbeats 4000000 in
set_option maxRecDepth 100000 in
theorem n_mean (l : Launch) (D : va_G) (k : Nat → ClassId) (st : Nat → Nat) (lo : Nat) (a : Nat → Nat) (tx : Nat) (t0 : Nat) (we : Nat) (rd : Nat) (ru : Nat) (rw : Nat) (ca : Nat) (fp : Int32) (wd : Int64) (nu : Int32) (na : Int32) (ts : Int32) (df : Int32) (db : Int32) (sd : Int32) (dn : Nat → Nat) (se : Nat → Nat) (tm : Nat → Nat) (gs : Nat → Int32) (ffrees : Nat → Int32) (fprices : Nat → Int32) (bm : Nat → Nat) (fbarSeen : Nat → Int32) (fbarFrom : Nat → Int32) (fruleRounds : Nat → Int32) (ffollows : Nat → Int32) (fbefore : Nat → Int32) (p0 : Int32) (p1 : Int32) (p2 : Int32) (hdn : ∀ j, dn j ≤ 24) (hse : ∀ j, se j ≤ 2) (htm : ∀ j, tm j ≤ 3) (hbm : ∀ j, bm j ≤ 12) (hru : ru ≤ 4) (hgk : ∀ i, i < 3 → 0 < dn i → okG ((sdM dn (sg se tm gs) ffrees fprices) i).2.1) (hrr : ∀ k, k < ru → ∃ x : Nat, x ≤ 3 ∧ fruleRounds k = nI x) : CWi l D k st lo yX8_mean cX8_mean 4 (some .int) ({ frames := 6, cells := 0, slots := 0, locals := 151 }) 0 0 [.ref (a 0), .int p0, .int p1, .int p2] [((a 0), .inr (8, (fX8 a (nI tx) fp (nI t0) wd (nI we) nu na (nI rd) ts (nI ru) (nI rw) (nI ca) df db sd))), (aI k (a 1) 3 (nF dn)), (aI k (a 4) 27 (sg se tm gs)), (aI k (a 2) 72 ffrees), (aI k (a 3) 72 fprices), (aI k (a 25) 4 (nF bm)), (aI k (a 26) 48 fbarSeen), (aI k (a 27) 48 fbarFrom), (aI k (a 28) 4 fruleRounds), (aI k (a 29) 52 ffollows), (aI k (a 30) 52 fbefore)] (fun (r : Int32) (u : (Nat → Int32) × (Nat → Int32)) => match u with | (ffollows_, fbefore_) => mnP (sdM dn (sg se tm gs) ffrees fprices) ru (ruM bm fbarSeen fbarFrom fruleRounds) p0 p1 p2 r) (fun (u : (Nat → Int32) × (Nat → Int32)) => match u with | (ffollows_, fbefore_) => [((a 0), .inr (8, (fX8 a (nI tx) fp (nI t0) wd (nI we) nu na (nI rd) ts (nI ru) (nI rw) (nI ca) df db sd))), (aI k (a 1) 3 (nF dn)), (aI k (a 4) 27 (sg se tm gs)), (aI k (a 2) 72 ffrees), (aI k (a 3) 72 fprices), (aI k (a 25) 4 (nF bm)), (aI k (a 26) 48 fbarSeen), (aI k (a 27) 48 fbarFrom), (aI k (a 28) 4 fruleRounds), (aI k (a 29) 52 ffollows_), (aI k (a 30) 52 fbefore_)]) := by
  intro sz
  refine Met.ofW (cc := cX8_mean) (maxL := 4) (ret := (some .int)) (by decide) rfl ?_
  intro p e s m args below meth c s₁ B hml hv
  obtain ⟨rfl, hsz, hlo, hP, hK, hDL, hZ⟩ := hv
  have hx := B.exec
  have hb := B.bytes
  have hr := B.returns
  have hts := WS_ts B.pre
  have hown : s.vm.findClass RX8 = some m.cls := findClass_of_methodNamed B.named
  have hlocks := B.notSynchronized
  subst hsz
  have hD := hDL.self (sz := s.heap.size)
  have hAlo := A_lo hDL hlo
  generalize hAe : va_A [((a 0), .inr (8, (fX8 a (nI tx) fp (nI t0) wd (nI we) nu na (nI rd) ts (nI ru) (nI rw) (nI ca) df db sd))), (aI k (a 1) 3 (nF dn)), (aI k (a 4) 27 (sg se tm gs)), (aI k (a 2) 72 ffrees), (aI k (a 3) 72 fprices), (aI k (a 25) 4 (nF bm)), (aI k (a 26) 48 fbarSeen), (aI k (a 27) 48 fbarFrom), (aI k (a 28) 4 fruleRounds), (aI k (a 29) 52 ffollows), (aI k (a 30) 52 fbefore)] s.heap.size = A at hD hAlo ⊢
  have hA : ∀ q : Nat, s.heap.size ≤ q → A q := fun q h => by rw [← hAe]; exact Or.inr h
  have hS : va_S A s.heap s.heap [] := va_S.rf
  have hl := lv_entry ([.ref (a 0), .int p0, .int p1, .int p2]) (n := 4) (Nat.le_of_ble_eq_true rfl)
  rw [lg_entry_eq]
  generalize (lg_sl ([.ref (a 0), .int p0, .int p1, .int p2]) ++ List.replicate (4 - (lg_sl ([.ref (a 0), .int p0, .int p1, .int p2])).length) Slot.unset).toArray = ls at hl ⊢
  have hl : lv_has ls 4 [(0, .ref (a 0)), (1, .int p0), (2, .int p1), (3, .int p2)] := hl
  refine lv_aload_n hx hb dX8_mean_0 rfl (lv_at hl 0 rfl) ?_
  refine lv_iload_n hx hb dX8_mean_1 rfl (lv_at hl 1 rfl) ?_
  refine ro_i (D := D) (va_runV (As := [.int p0]) (rest := []) ⟨hx, hb, hml, hown, hts⟩ ((n_isStreet l D k st lo a tx t0 we rd ru rw ca fp wd nu na ts df db sd dn p0 hdn) s.heap.size) (cwV 1 hts (gV tw_1189 tw_1191 tw_38 tw_87 tw_1192) rfl rfl rfl (by decide +kernel) ⟨Nat.le_of_ble_eq_true rfl, Nat.le_of_ble_eq_true rfl⟩) (pV hS hAlo hlo hP hK (va_Dlo hD hAlo) hZ [0, 1] (by decide) rfl (ci := 8) (q := (RX8, TX8, 44)) (q0 := 0) rfl rfl) rfl rfl hl.1 rfl (lv_room (Nat.le_of_ble_eq_true rfl)) dX8_mean_2 ⟨Nat.le_of_ble_eq_true rfl, Nat.le_of_ble_eq_true rfl⟩) hS hA hP (fun r_1 H locs hw_1 hP hS => ?_)
  try dsimp only at hw_1
  rcases hw_1 with ⟨rfl, j_2, hj_2, rfl, hw_1⟩ | ⟨rfl, hw_1⟩
  · have hdj_2 := hdn j_2
    have htj_2 := htm j_2
    refine lv_if_eq (tgt := 16) hx hb dX8_mean_5 (by decide) (fun h => absurd h (by decide)) (fun _ => ?_)
    refine lv_aload_n hx hb dX8_mean_8 rfl (lv_at hl 0 rfl) ?_
    refine lv_iload_n hx hb dX8_mean_9 rfl (lv_at hl 2 rfl) ?_
    refine ro_i (D := D) (va_runV (As := [.int p1]) (rest := []) ⟨hx, hb, hml, hown, hts⟩ ((n_isRule l D k st lo a tx t0 we rd ru rw ca fp wd nu na ts df db sd p1 (by first | assumption | omega)) H.size) (cwV 1 hts (gV tw_1321 tw_1323 tw_57 tw_87 tw_1324) rfl rfl rfl (by decide +kernel) ⟨Nat.le_of_ble_eq_true rfl, Nat.le_of_ble_eq_true rfl⟩) (pV hS hAlo hlo hP hK (va_Dlo hD hAlo) hZ [0] (by decide) rfl (ci := 8) (q := (RX8, TX8, 44)) (q0 := 0) rfl rfl) rfl rfl hl.1 rfl (lv_room (Nat.le_of_ble_eq_true rfl)) dX8_mean_10 ⟨Nat.le_of_ble_eq_true rfl, Nat.le_of_ble_eq_true rfl⟩) hS hA hP (fun r_3 H locs hw_3 hP hS => ?_)
    try dsimp only at hw_3
    rcases hw_3 with ⟨rfl, j_4, hj_4, rfl, hw_3⟩ | ⟨rfl, hw_3⟩
    · refine lv_if_ne (tgt := 20) hx hb dX8_mean_13 (by decide) (fun _ => ?_) (fun h => absurd h (by decide))
      refine lv_iload_n hx hb dX8_mean_20 rfl (lv_at hl 3 rfl) ?_
      refine lv_i2l (v := p2.toInt64) hx hb dX8_mean_21 rfl ?_
      refine lv_lconst (v := (0 : Int32).toInt64) hx hb dX8_mean_22 (by decide) ?_
      refine lv_ldc2 hx hb hown (hts _ tw_1119) dX8_mean_23 ?_
      refine lv_tl (y := ((2 : Int32).toInt64)) (by decide) ?_
      refine ro_i (D := D) (va_runS (As := [.long (p2.toInt64), .long ((0 : Int32).toInt64), .long ((2 : Int32).toInt64)]) (rest := []) ⟨hx, hb, hml, hown, hts⟩ ((k_in l D k st lo p2 (0 : Int32) (2 : Int32)) H.size) (va_cwS 3 hts (gS tw_1111 tw_1112 tw_87 tw_1113) rfl rfl rfl (by decide +kernel) ⟨Nat.le_of_ble_eq_true rfl, Nat.le_of_ble_eq_true rfl⟩) (pS hS hAlo hlo hP hK (va_Dlo hD hAlo) hZ [] (by decide) rfl) rfl rfl hl.1 rfl (lv_room (Nat.le_of_ble_eq_true rfl)) dX8_mean_26 ⟨Nat.le_of_ble_eq_true rfl, Nat.le_of_ble_eq_true rfl⟩) hS hA hP (fun r_5 H locs hw_5 hP hS => ?_)
      try dsimp only at hw_5
      rcases hw_5 with ⟨rfl, hw_5⟩ | ⟨rfl, hw_5⟩
      · refine lv_if_eq (tgt := 42) hx hb dX8_mean_29 (by decide) (fun h => absurd h (by decide)) (fun _ => ?_)
        obtain ⟨wh_6, hwl_6, hwh_6, rfl⟩ := inB_ofc (a := 0) (b := 2) (by omega) (by omega) hw_5
        obtain ⟨rx_9, hr3_9, hrx_9⟩ := hrr j_4 (by omega)
        refine lv_aload_n hx hb dX8_mean_32 rfl (lv_at hl 0 rfl) ?_
        refine lv_iload_n hx hb dX8_mean_33 rfl (lv_at hl 1 rfl) ?_
        refine lv_iload_n hx hb dX8_mean_34 rfl (lv_at hl 2 rfl) ?_
        refine lv_iload_n hx hb dX8_mean_35 rfl (lv_at hl 3 rfl) ?_
        refine rw_i (D := D) (wr := []) (va_runV (As := [.int (nI j_2), .int (nI j_4), .int (nI wh_6)]) (rest := []) ⟨hx, hb, hml, hown, hts⟩ ((n_meanOf l D k st lo a tx t0 we rd ru rw ca fp wd nu na ts df db sd dn se tm gs ffrees fprices bm fbarSeen fbarFrom fruleRounds ffollows fbefore j_2 j_4 wh_6 rx_9 hdn hse htm hbm (by first | assumption | omega) (by first | assumption | omega) (by first | assumption | omega) hrx_9 (by first | assumption | omega) (hgk j_2 (by omega) (show 0 < dn j_2 by omega))) H.size) (cwV 3 hts (gV tw_1325 tw_1327 tw_58 tw_87 tw_1328) rfl rfl rfl (by decide +kernel) ⟨Nat.le_of_ble_eq_true rfl, Nat.le_of_ble_eq_true rfl⟩) (pV hS hAlo hlo hP hK (va_Dlo hD hAlo) hZ [0, 1, 2, 3, 4, 5, 6, 7, 8, 9, 10] (by decide +kernel) rfl (ci := 8) (q := (RX8, TX8, 44)) (q0 := 0) rfl rfl) rfl rfl hl.1 rfl (lv_room (Nat.le_of_ble_eq_true rfl)) dX8_mean_36 ⟨Nat.le_of_ble_eq_true rfl, Nat.le_of_ble_eq_true rfl⟩) hS hA hP hD [0, 1, 2, 3, 4, 5, 6, 7, 8, 9, 10] [] rfl rfl (by decide +kernel) (by decide +kernel) (fun r_7 u H locs hw_7 hP hD hS => ?_)
        obtain ⟨ffollows__7, fbefore__7⟩ := u
        have hQ9 := pd_mk [((a 0), .inr (8, (fX8 a (nI tx) fp (nI t0) wd (nI we) nu na (nI rd) ts (nI ru) (nI rw) (nI ca) df db sd))), (aI k (a 1) 3 (nF dn)), (aI k (a 4) 27 (sg se tm gs)), (aI k (a 2) 72 ffrees), (aI k (a 3) 72 fprices), (aI k (a 25) 4 (nF bm)), (aI k (a 26) 48 fbarSeen), (aI k (a 27) 48 fbarFrom), (aI k (a 28) 4 fruleRounds), (aI k (a 29) 52 ffollows__7), (aI k (a 30) 52 fbefore__7)] hP hD
        clear hP hD
        obtain ⟨hP, hD⟩ := hQ9
        try dsimp only at hw_7
        refine lv_goto (tgt := 45) hx hb dX8_mean_39 (by decide) ?_
        obtain ⟨hP9, hD9⟩ := pd_sub [((a 0), .inr (8, (fX8 a (nI tx) fp (nI t0) wd (nI we) nu na (nI rd) ts (nI ru) (nI rw) (nI ca) df db sd))), (aI k (a 1) 3 (nF dn)), (aI k (a 4) 27 (sg se tm gs)), (aI k (a 2) 72 ffrees), (aI k (a 3) 72 fprices), (aI k (a 25) 4 (nF bm)), (aI k (a 26) 48 fbarSeen), (aI k (a 27) 48 fbarFrom), (aI k (a 28) 4 fruleRounds), (aI k (a 29) 52 ffollows__7), (aI k (a 30) 52 fbefore__7)] [0, 1, 2, 3, 4, 5, 6, 7, 8, 9, 10] hP hD (by decide +kernel) rfl
        exact W.iret (v := r_7) hx hb hr (fun t ht hW => ⟨⟨r_7, (ffollows__7, fbefore__7), rfl, mn_at (s := j_2) (t := j_4) (by omega) (by omega) (by omega) (show 0 < dn j_2 by omega) (show meA (nI wh_6) (sdM dn (sg se tm gs) ffrees fprices j_2) (ruM bm fbarSeen fbarFrom fruleRounds j_4) _ from me_i (by omega) (by rw [(show muD (sdM dn (sg se tm gs) ffrees fprices j_2) (ruM bm fbarSeen fbarFrom fruleRounds j_4) = min rx_9 (tm j_2) by unfold muD; rw [tmM (htm _)]; exact congrArg (fun z => min z (tm j_2)) (show (fruleRounds j_4).toNatClampNeg = rx_9 by rw [hrx_9]; exact nI_clamp (by omega)))]; exact hw_7)), by rw [ht]; exact hP9, hD9⟩, hS.F ht⟩) hS.2.2 dX8_mean_45
      · refine lv_if_eq (tgt := 42) hx hb dX8_mean_29 (by decide) (fun _ => ?_) (fun h => absurd (by decide) h)
        refine lv_sipush (v := (-1002)) hx hb dX8_mean_42 (by decide) ?_
        obtain ⟨hP9, hD9⟩ := pd_sub [((a 0), .inr (8, (fX8 a (nI tx) fp (nI t0) wd (nI we) nu na (nI rd) ts (nI ru) (nI rw) (nI ca) df db sd))), (aI k (a 1) 3 (nF dn)), (aI k (a 4) 27 (sg se tm gs)), (aI k (a 2) 72 ffrees), (aI k (a 3) 72 fprices), (aI k (a 25) 4 (nF bm)), (aI k (a 26) 48 fbarSeen), (aI k (a 27) 48 fbarFrom), (aI k (a 28) 4 fruleRounds), (aI k (a 29) 52 ffollows), (aI k (a 30) 52 fbefore)] [0, 1, 2, 3, 4, 5, 6, 7, 8, 9, 10] hP hD (by decide +kernel) rfl
        exact W.iret (v := (-1002)) hx hb hr (fun t ht hW => ⟨⟨(-1002), (ffollows, fbefore), rfl, mn_at (s := j_2) (t := j_4) (by omega) (by omega) (by omega) (show 0 < dn j_2 by omega) (show meA p2 (sdM dn (sg se tm gs) ffrees fprices j_2) (ruM bm fbarSeen fbarFrom fruleRounds j_4) _ from me_o hw_5), by rw [ht]; exact hP9, hD9⟩, hS.F ht⟩) hS.2.2 dX8_mean_45
    · refine lv_if_ne (tgt := 20) hx hb dX8_mean_13 (by decide) (fun h => absurd (by decide) h) (fun _ => ?_)
      refine lv_sipush (v := (-1001)) hx hb dX8_mean_16 (by decide) ?_
      obtain ⟨hP9, hD9⟩ := pd_sub [((a 0), .inr (8, (fX8 a (nI tx) fp (nI t0) wd (nI we) nu na (nI rd) ts (nI ru) (nI rw) (nI ca) df db sd))), (aI k (a 1) 3 (nF dn)), (aI k (a 4) 27 (sg se tm gs)), (aI k (a 2) 72 ffrees), (aI k (a 3) 72 fprices), (aI k (a 25) 4 (nF bm)), (aI k (a 26) 48 fbarSeen), (aI k (a 27) 48 fbarFrom), (aI k (a 28) 4 fruleRounds), (aI k (a 29) 52 ffollows), (aI k (a 30) 52 fbefore)] [0, 1, 2, 3, 4, 5, 6, 7, 8, 9, 10] hP hD (by decide +kernel) rfl
      exact W.iret (v := (-1001)) hx hb hr (fun t ht hW => ⟨⟨(-1001), (ffollows, fbefore), rfl, mn_no1 hw_3, by rw [ht]; exact hP9, hD9⟩, hS.F ht⟩) hS.2.2 dX8_mean_19
  · refine lv_if_eq (tgt := 16) hx hb dX8_mean_5 (by decide) (fun _ => ?_) (fun h => absurd (by decide) h)
    refine lv_sipush (v := (-1001)) hx hb dX8_mean_16 (by decide) ?_
    obtain ⟨hP9, hD9⟩ := pd_sub [((a 0), .inr (8, (fX8 a (nI tx) fp (nI t0) wd (nI we) nu na (nI rd) ts (nI ru) (nI rw) (nI ca) df db sd))), (aI k (a 1) 3 (nF dn)), (aI k (a 4) 27 (sg se tm gs)), (aI k (a 2) 72 ffrees), (aI k (a 3) 72 fprices), (aI k (a 25) 4 (nF bm)), (aI k (a 26) 48 fbarSeen), (aI k (a 27) 48 fbarFrom), (aI k (a 28) 4 fruleRounds), (aI k (a 29) 52 ffollows), (aI k (a 30) 52 fbefore)] [0, 1, 2, 3, 4, 5, 6, 7, 8, 9, 10] hP hD (by decide +kernel) rfl
    exact W.iret (v := (-1001)) hx hb hr (fun t ht hW => ⟨⟨(-1001), (ffollows, fbefore), rfl, mn_no0 (fun s h1 h2 h3 => hw_1 s h1 h2 h3), by rw [ht]; exact hP9, hD9⟩, hS.F ht⟩) hS.2.2 dX8_mean_19

theorem f_glueP25 : True := trivial
/-! the row: bits in an int, a row of yes and no -/
def sawO (v : Int32) (n : Nat) (p : Int32) : Int32 := if p = 0 then v else v ||| ((1 : Int32) <<< (nI n &&& 31))
def rowN (f : Nat → Int32) : Nat → Nat
  | 0 => 0
  | n + 1 => rowN f n + (if f n = 1 then 2 ^ n else 0)
theorem rowN_lt (f : Nat → Int32) : ∀ n, rowN f n < 2 ^ n := by
  intro n
  induction n with
  | zero => exact (by decide : (0 : Nat) < 2 ^ 0)
  | succ n ih =>
    show rowN f n + (if f n = 1 then 2 ^ n else 0) < 2 ^ (n + 1)
    rw [Nat.pow_succ]
    by_cases h : f n = 1
    · rw [if_pos h]
      omega
    · rw [if_neg h]
      omega
theorem rowN_congr {f g : Nat → Int32} : ∀ n, (∀ i, i < n → (f i = 1 ↔ g i = 1)) → rowN f n = rowN g n := by
  intro n
  induction n with
  | zero => intro _; rfl
  | succ n ih =>
    intro h
    show rowN f n + (if f n = 1 then 2 ^ n else 0) = rowN g n + (if g n = 1 then 2 ^ n else 0)
    rw [ih (fun i hi => h i (by omega))]
    by_cases c : f n = 1
    · rw [if_pos c, if_pos ((h n (by omega)).mp c)]
    · rw [if_neg c, if_neg (fun q => c ((h n (by omega)).mpr q))]
theorem shl24 : ∀ k, k < 24 → (1 : Int32) <<< (nI k &&& 31) = nI (2 ^ k) := by decide
theorem nI_or {a b : Nat} : nI a ||| nI b = nI (a ||| b) := by
  apply Int32.toBitVec_inj.mp
  rw [Int32.toBitVec_or]
  show BitVec.ofNat 32 a ||| BitVec.ofNat 32 b = BitVec.ofNat 32 (a ||| b)
  exact (BitVec.ofNat_or).symm
theorem nI_and {a b : Nat} : nI a &&& nI b = nI (a &&& b) := by
  apply Int32.toBitVec_inj.mp
  rw [Int32.toBitVec_and]
  show BitVec.ofNat 32 a &&& BitVec.ofNat 32 b = BitVec.ofNat 32 (a &&& b)
  exact (BitVec.ofNat_and).symm
theorem or24 {g k : Nat} (hk : k < 24) (hg : g < 2 ^ k) : nI g ||| ((1 : Int32) <<< (nI k &&& 31)) = nI (g + 2 ^ k) := by
  rw [shl24 k hk, nI_or]
  have h := Nat.two_pow_add_eq_or_of_lt hg 1
  rw [Nat.mul_one] at h
  rw [Nat.or_comm, ← h, Nat.add_comm]
theorem rowN_saw {f : Nat → Int32} {n : Nat} {p v : Int32} (hn : n < 24) (hp : p = 0 ∨ p = 1) (hv : v = nI (rowN f n)) : sawO v n p = nI (rowN (upd f n p) (n + 1)) := by
  have e : rowN (upd f n p) n = rowN f n := rowN_congr n (fun i hi => by rw [pk_un (show ¬ i = n by omega)])
  show _ = nI (rowN (upd f n p) n + (if upd f n p n = 1 then 2 ^ n else 0))
  rw [e, pk_us]
  unfold sawO
  rcases hp with h | h
  · rw [if_pos h, h, if_neg (by decide), hv]
    rfl
  · rw [h, if_neg (by decide), if_pos rfl, hv, or24 hn (rowN_lt f n)]
def b01 (v : Int32) : Int32 := if v = 0 then 0 else 1
def b11 (v : Int32) : Int32 := if v = 1 then 1 else 0
theorem b01_1 {v : Int32} (h : v = 0 ∨ v = 1) : (b01 v = 1 ↔ v = 1) := by
  unfold b01
  rcases h with e | e
  · rw [e, if_pos rfl]
  · rw [e, if_neg (by decide)]
theorem b11_1 {v : Int32} : (b11 v = 1 ↔ v = 1) := by
  unfold b11
  by_cases e : v = 1
  · rw [if_pos e]
    exact ⟨fun _ => e, fun _ => rfl⟩
  · rw [if_neg e]
    exact ⟨fun q => absurd q (by decide), fun q => absurd q e⟩
theorem b11_01 {v : Int32} : b11 v = 0 ∨ b11 v = 1 := by
  unfold b11
  by_cases e : v = 1
  · rw [if_pos e]
    exact .inr rfl
  · rw [if_neg e]
    exact .inl rfl
theorem nar01 {p : Int32} (h : p = 0 ∨ p = 1) : vp_nar .boolean p = p := by
  rcases h with e | e
  · rw [e]
    rfl
  · rw [e]
    rfl
/-- the row, both sides -/
def rwR (rz : Nat) (ro : Int32) (fr : Nat → Int32) : Prop := ro = nI (rowN fr rz) ∧ ∀ i, i < 24 → fr i = 0 ∨ fr i = 1
/-- an image's row, both sides -/
def imR (rz : Nat) (ro : Int32) (f : Nat → Int32) : Prop := ro = nI (rowN f rz)
theorem rwR_saw {n n' : Nat} {v v' p r : Int32} {f f' : Nat → Int32} (hp : p = 0 ∨ p = 1) (h : rwR n v f) (hs : sawP n r n') (h1 : n < 24 → v' = sawO v n p) (h2 : ¬ n < 24 → v' = v) (g1 : n < 24 → f' = upd f n (vp_nar .boolean p)) (g2 : ¬ n < 24 → f' = f) : rwR n' v' f' := by
  by_cases c : n < 24
  · rw [(hs.1 c).2, h1 c, g1 c, nar01 hp]
    refine ⟨rowN_saw c hp h.1, fun i hi => ?_⟩
    by_cases e : i = n
    · rw [e, pk_us]
      exact hp
    · rw [pk_un e]
      exact h.2 i hi
  · rw [(hs.2 c).2, h2 c, g2 c]
    exact h
theorem rwR_0 {v : Int32} {f : Nat → Int32} {n m : Nat} {w : Int32} (h : rwR n w f) (e : m = 0) (hv : v = 0) : rwR m v f := by
  rw [e, hv]
  exact ⟨rfl, h.2⟩
/-! images -/
def kpX (pz k a s : Int32) (w : Nat → Int32) (a' s' : Int32) (w' : Nat → Int32) (a2 s2 : Int32) (w2 : Nat → Int32) : Prop := (pz = k → a' = a2 ∧ s' = s2 ∧ ∀ c, c < 4 → w' c = w2 c) ∧ (¬ pz = k → a' = a ∧ s' = s ∧ ∀ c, c < 4 → w' c = w c)
def kpM (pz k : Int32) (B : Nat) (f f' : Nat → Int32) (sd : Int32) (fr fw : Nat → Int32) : Prop := (pz = k → f' (B + 2) = sd ∧ (∀ i, i < 24 → f' (B + 3 + i) = b01 (fr i)) ∧ ∀ c, c < 4 → f' (B + 27 + c) = fw c) ∧ (¬ pz = k → ∀ x, B ≤ x → x < B + 35 → f' x = f x)
theorem kp_row {pz k a s a' s' a2 s2 : Int32} {w w' w2 : Nat → Int32} {B n n' n2 m m' m2 : Nat} {f f' fr fw : Nat → Int32} {sd q q' : Int32} (hn : n ≤ 24) (h : kpX pz k a s w a' s' w' a2 s2 w2) (g : kpM pz k B f f' sd fr fw) (hk : kpN pz k q q' n m n' m' n2 m2) (hn2 : n2 ≤ 24) (e : rwR n2 a2 fr) (es : s2 = sd) (ew : ∀ c, c < 4 → w2 c = fw c) (i1 : imR n a (fun i => f (B + 3 + i))) (i2 : s = f (B + 2)) (i3 : ∀ c, c < 4 → w c = f (B + 27 + c)) : imR n' a' (fun i => f' (B + 3 + i)) ∧ s' = f' (B + 2) ∧ ∀ c, c < 4 → w' c = f' (B + 27 + c) := by
  rcases Classical.em (pz = k) with c | c
  · obtain ⟨h1, h2, h3⟩ := h.1 c
    obtain ⟨g1, g2, g3⟩ := g.1 c
    rw [(hk.1 c).2.1, h1, h2, g1]
    refine ⟨?_, es, fun c hc => (h3 c hc).trans ((ew c hc).trans (g3 c hc).symm)⟩
    unfold imR
    rw [e.1]
    exact congrArg nI (rowN_congr n2 (fun i hi => by
      show fr i = 1 ↔ f' (B + 3 + i) = 1
      rw [g2 i (by omega), b01_1 (e.2 i (by omega))]))
  · obtain ⟨h1, h2, h3⟩ := h.2 c
    have g2 := g.2 c
    rw [(hk.2 c).2.1, h1, h2, g2 (B + 2) (by omega) (by omega)]
    refine ⟨?_, i2, fun c hc => (h3 c hc).trans ((i3 c hc).trans (g2 (B + 27 + c) (by omega) (by omega)).symm)⟩
    unfold imR
    rw [i1]
    exact congrArg nI (rowN_congr n (fun i hi => by
      show f (B + 3 + i) = 1 ↔ f' (B + 3 + i) = 1
      rw [g2 (B + 3 + i) (by omega) (by omega)]))
abbrev SNt : Type := Int32 × Int32 × (Nat → Int32)
def eqT (a b : SNt) : Prop := a.1 = b.1 ∧ a.2.1 = b.2.1 ∧ ∀ c, c < 4 → a.2.2 c = b.2.2 c
theorem eqT_r (a : SNt) : eqT a a := ⟨rfl, rfl, fun _ _ => rfl⟩
def gbX (pz f0 f1 : Int32) (t0 t1 t t' : SNt) : Prop := (pz = 0 → ¬ f0 = 0 → eqT t' t0) ∧ (pz = 1 → ¬ f1 = 0 → eqT t' t1) ∧ (¬ (pz = 0 ∧ ¬ f0 = 0) → ¬ (pz = 1 ∧ ¬ f1 = 0) → eqT t' t)
def gbR (pz f0 f1 : Int32) (im fr : Nat → Int32) (sd : Int32) (fw fr' : Nat → Int32) (sd' : Int32) (fw' : Nat → Int32) : Prop := (pz = 0 → ¬ f0 = 0 → sd' = im 2 ∧ (∀ i, i < 24 → fr' i = b11 (im (3 + i))) ∧ ∀ c, c < 4 → fw' c = im (27 + c)) ∧ (pz = 1 → ¬ f1 = 0 → sd' = im 37 ∧ (∀ i, i < 24 → fr' i = b11 (im (38 + i))) ∧ ∀ c, c < 4 → fw' c = im (62 + c)) ∧ (¬ (pz = 0 ∧ ¬ f0 = 0) → ¬ (pz = 1 ∧ ¬ f1 = 0) → sd' = sd ∧ fr' = fr ∧ fw' = fw)
theorem gb_row {pz f0 f1 a0 s0 a1 s1 a s a' s' sd sd' r : Int32} {w0 w1 w w' im fr fw fr' fw' : Nat → Int32} {n0 n1 n n' : Nat} (h : gbX pz f0 f1 (a0, s0, w0) (a1, s1, w1) (a, s, w) (a', s', w')) (g : gbR pz f0 f1 im fr sd fw fr' sd' fw') (hg : gbP pz f0 f1 n0 n1 n r n') (hn0 : n0 ≤ 24) (hn1 : n1 ≤ 24) (e : rwR n a fr) (es : s = sd) (ew : ∀ c, c < 4 → w c = fw c) (i1 : imR n0 a0 (fun i => im (3 + i))) (i2 : s0 = im 2) (i3 : ∀ c, c < 4 → w0 c = im (27 + c)) (j1 : imR n1 a1 (fun i => im (38 + i))) (j2 : s1 = im 37) (j3 : ∀ c, c < 4 → w1 c = im (62 + c)) : rwR n' a' fr' ∧ s' = sd' ∧ ∀ c, c < 4 → w' c = fw' c := by
  rcases Classical.em (pz = 0 ∧ ¬ f0 = 0) with c | c
  · obtain ⟨h1, h2, h3⟩ := h.1 c.1 c.2
    obtain ⟨g1, g2, g3⟩ := g.1 c.1 c.2
    rw [((hg.1 c.1).2 c.2).2]
    refine ⟨⟨?_, fun i hi => by rw [g2 i hi]; exact b11_01⟩, (show s' = s0 from h2).trans (i2.trans g1.symm), fun c hc => (h3 c hc).trans ((i3 c hc).trans (g3 c hc).symm)⟩
    rw [show a' = a0 from h1, i1]
    exact congrArg nI (rowN_congr n0 (fun i hi => by
      show im (3 + i) = 1 ↔ fr' i = 1
      rw [g2 i (by omega), b11_1]))
  · rcases Classical.em (pz = 1 ∧ ¬ f1 = 0) with d | d
    · obtain ⟨h1, h2, h3⟩ := h.2.1 d.1 d.2
      obtain ⟨g1, g2, g3⟩ := g.2.1 d.1 d.2
      rw [((hg.2.1 d.1).2 d.2).2]
      refine ⟨⟨?_, fun i hi => by rw [g2 i hi]; exact b11_01⟩, (show s' = s1 from h2).trans (j2.trans g1.symm), fun c hc => (h3 c hc).trans ((j3 c hc).trans (g3 c hc).symm)⟩
      rw [show a' = a1 from h1, j1]
      exact congrArg nI (rowN_congr n1 (fun i hi => by
        show im (38 + i) = 1 ↔ fr' i = 1
        rw [g2 i (by omega), b11_1]))
    · obtain ⟨h1, h2, h3⟩ := h.2.2 c d
      obtain ⟨g1, g2, g3⟩ := g.2.2 c d
      have en : n' = n := by
        rcases Classical.em (pz = 0) with z | z
        · exact ((hg.1 z).1 (Classical.not_not.mp (fun q => c ⟨z, q⟩))).2
        · rcases Classical.em (pz = 1) with y | y
          · exact ((hg.2.1 y).1 (Classical.not_not.mp (fun q => d ⟨y, q⟩))).2
          · exact (hg.2.2 z y).2
      rw [en, show a' = a from h1, show s' = s from h2, g1, g2, g3]
      exact ⟨e, es, fun c hc => (h3 c hc).trans (ew c hc)⟩
theorem gx_out {pz f0 f1 : Int32} {t0 t1 t : SNt} (h : ¬ inB pz 0 1) : gbX pz f0 f1 t0 t1 t t := ⟨fun e _ => absurd e (no_in h).1, fun e _ => absurd e (no_in h).2, fun _ _ => eqT_r t⟩
theorem gx_n0 {f0 f1 : Int32} {t0 t1 t : SNt} (h : f0 = 0) : gbX 0 f0 f1 t0 t1 t t := ⟨fun _ q => absurd h q, fun e => absurd e (by decide), fun _ _ => eqT_r t⟩
theorem gx_n1 {f0 f1 : Int32} {t0 t1 t : SNt} (h : f1 = 0) : gbX 1 f0 f1 t0 t1 t t := ⟨fun e => absurd e (by decide), fun _ q => absurd h q, fun _ _ => eqT_r t⟩
theorem gx_k0 {f0 f1 : Int32} {t0 t1 t t' : SNt} (h : ¬ f0 = 0) (g : eqT t' t0) : gbX 0 f0 f1 t0 t1 t t' := ⟨fun _ _ => g, fun e => absurd e (by decide), fun q => absurd ⟨rfl, h⟩ q⟩
theorem gx_k1 {f0 f1 : Int32} {t0 t1 t t' : SNt} (h : ¬ f1 = 0) (g : eqT t' t1) : gbX 1 f0 f1 t0 t1 t t' := ⟨fun e => absurd e (by decide), fun _ _ => g, fun _ q => absurd ⟨rfl, h⟩ q⟩
theorem gr_out {pz f0 f1 sd : Int32} {im fr fw : Nat → Int32} (h : ¬ inB pz 0 1) : gbR pz f0 f1 im fr sd fw fr sd fw := ⟨fun e _ => absurd e (no_in h).1, fun e _ => absurd e (no_in h).2, fun _ _ => ⟨rfl, rfl, rfl⟩⟩
theorem gr_n0 {f0 f1 sd : Int32} {im fr fw : Nat → Int32} (h : f0 = 0) : gbR 0 f0 f1 im fr sd fw fr sd fw := ⟨fun _ q => absurd h q, fun e => absurd e (by decide), fun _ _ => ⟨rfl, rfl, rfl⟩⟩
theorem gr_n1 {f0 f1 sd : Int32} {im fr fw : Nat → Int32} (h : f1 = 0) : gbR 1 f0 f1 im fr sd fw fr sd fw := ⟨fun e => absurd e (by decide), fun _ q => absurd h q, fun _ _ => ⟨rfl, rfl, rfl⟩⟩
theorem gr_k0 {f0 f1 sd sd' : Int32} {im fr fw fr' fw' : Nat → Int32} (h : ¬ f0 = 0) (g : sd' = im 2 ∧ (∀ i, i < 24 → fr' i = b11 (im (3 + i))) ∧ ∀ c, c < 4 → fw' c = im (27 + c)) : gbR 0 f0 f1 im fr sd fw fr' sd' fw' := ⟨fun _ _ => g, fun e => absurd e (by decide), fun q => absurd ⟨rfl, h⟩ q⟩
theorem gr_k1 {f0 f1 sd sd' : Int32} {im fr fw fr' fw' : Nat → Int32} (h : ¬ f1 = 0) (g : sd' = im 37 ∧ (∀ i, i < 24 → fr' i = b11 (im (38 + i))) ∧ ∀ c, c < 4 → fw' c = im (62 + c)) : gbR 1 f0 f1 im fr sd fw fr' sd' fw' := ⟨fun e => absurd e (by decide), fun _ _ => g, fun _ q => absurd ⟨rfl, h⟩ q⟩
/-! cars' walks, the seed -/
def carW (p0 p1 : Int32) (n : Nat) (w w' : Nat → Int32) : Prop := ((inB p0 0 99 ∧ inB p1 0 24) ∧ n < 4 → ∀ c, c < 4 → w' c = upd w n p0 c) ∧ (¬ ((inB p0 0 99 ∧ inB p1 0 24) ∧ n < 4) → ∀ c, c < 4 → w' c = w c)
theorem carW_rel {p0 p1 : Int32} {n : Nat} {w w' v v' : Nat → Int32} (h : carW p0 p1 n w w') (g : carW p0 p1 n v v') (e : ∀ c, c < 4 → w c = v c) : ∀ c, c < 4 → w' c = v' c := by
  intro c hc
  rcases Classical.em ((inB p0 0 99 ∧ inB p1 0 24) ∧ n < 4) with q | q
  · rw [h.1 q c hc, g.1 q c hc]
    by_cases d : c = n
    · rw [d, pk_us, pk_us]
    · rw [pk_un d, pk_un d]
      exact e c hc
  · rw [h.2 q c hc, g.2 q c hc]
    exact e c hc
def sedP (p s r s' : Int32) : Prop := (p < 0 → r = -1002 ∧ s' = s) ∧ (¬ p < 0 → r = s ∧ s' = p)
theorem sedP_fun {p s r s' q t : Int32} (h : sedP p s r s') (g : sedP p s q t) : r = q ∧ s' = t := by
  rcases Classical.em (p < 0) with c | c
  · exact ⟨(h.1 c).1.trans (g.1 c).1.symm, (h.1 c).2.trans (g.1 c).2.symm⟩
  · exact ⟨(h.2 c).1.trans (g.2 c).1.symm, (h.2 c).2.trans (g.2 c).2.symm⟩
theorem cpy4 {f g : Nat → Int32} {c : Nat} (h : c < 4) : va_cpy f g 0 0 4 c = f c := by
  rw [pk_cpy_in (by omega) (by omega), show 0 + (c - 0) = c by omega]
theorem im_st {f F : Nat → Int32} {B k : Nat} {x : Int32} (h : ∀ i, i < k → f (B + i) = F i) (hx : x = F k) : ∀ i, i < k + 1 → upd f (B + k) x (B + i) = F i := by
  intro i hi
  by_cases e : i = k
  · rw [e, pk_us]
    exact hx
  · rw [pk_un (by omega)]
    exact h i (by omega)


set_option maxHeartbeats 4000000 in
set_option maxRecDepth 100000 in
theorem x_see3 (l : Launch) (D : va_G) (k : Nat → ClassId) (st : Nat → Nat) (lo : Nat) (c0 : Nat) (c1 : Nat) (c2 : Nat) (cc : Nat) (rz : Nat) (ro : Int32) (sd : Int32) (p0 : Int32) (hrz : rz < 24) : CWi l D k st lo yX4_see cX4_see 2 (some .int) ({ frames := 0, cells := 0, slots := 0, locals := 0 }) 0 0 [.ref c0, .int p0] [(c0, .inr (4, (fX4 c1 c2 (nI cc) (nI rz) ro sd)))] (fun (r : Int32) (u : Nat × Int32) => match u with | (rz_, ro_) => r = nI (rz + 1) ∧ rz_ = rz + 1 ∧ ro_ = sawO ro rz p0) (fun (u : Nat × Int32) => match u with | (rz_, ro_) => [(c0, .inr (4, (fX4 c1 c2 (nI cc) (nI rz_) ro_ sd)))]) := by
  intro sz
  refine Met.ofW (cc := cX4_see) (maxL := 2) (ret := (some .int)) (by decide) rfl ?_
  intro p e s m args below meth c s₁ B hml hv
  obtain ⟨rfl, hsz, hlo, hP, hK, hDL, hZ⟩ := hv
  have hx := B.exec
  have hb := B.bytes
  have hr := B.returns
  have hts := WS_ts B.pre
  have hown : s.vm.findClass RX4 = some m.cls := findClass_of_methodNamed B.named
  have hlocks := B.notSynchronized
  subst hsz
  have hD := hDL.self (sz := s.heap.size)
  have hAlo := A_lo hDL hlo
  generalize hAe : va_A [(c0, .inr (4, (fX4 c1 c2 (nI cc) (nI rz) ro sd)))] s.heap.size = A at hD hAlo ⊢
  have hA : ∀ q : Nat, s.heap.size ≤ q → A q := fun q h => by rw [← hAe]; exact Or.inr h
  have hS : va_S A s.heap s.heap [] := va_S.rf
  have hl := lv_entry ([.ref c0, .int p0]) (n := 2) (Nat.le_of_ble_eq_true rfl)
  rw [lg_entry_eq]
  generalize (lg_sl ([.ref c0, .int p0]) ++ List.replicate (2 - (lg_sl ([.ref c0, .int p0])).length) Slot.unset).toArray = ls at hl ⊢
  have hl : lv_has ls 2 [(0, .ref c0), (1, .int p0)] := hl
  refine lv_iload_n hx hb dX4_see_0 rfl (lv_at hl 1 rfl) ?_
  refine lv_if_eq (tgt := 19) hx hb dX4_see_1 (by decide) (fun c_1 => ?_) (fun c_1 => ?_)
  · refine lv_aload_n hx hb dX4_see_19 rfl (lv_at hl 0 rfl) ?_
    refine lv_dup hx hb dX4_see_20 rfl ?_
    refine va_get (D := D) (ci := 4) (v := .int (nI rz)) (C := RX4) (T := TX4) (N := 6) hx hb hts inX4 hown hK hP 0 rfl rfl 3 (by decide) (hts _ tw_181) (fun _ h9 => h9) rfl dX4_see_21 ?_
    refine lv_iconst (v := 1) hx hb dX4_see_24 (by decide) ?_
    refine lv_iadd hx hb dX4_see_25 ?_
    refine lv_ti (y := (nI (rz + 1))) (nI_add rz 1) ?_
    refine va_put (D := D) (ci := 4) (v := .int (nI (rz + 1))) (ty := .int) (C := RX4) (T := TX4) (N := 6) hx hb hts inX4 tyX4 tyX4_ok nmX4 hown hK hP hD hS 0 rfl rfl 3 (by decide) (hts _ tw_181) (fun _ h9 => h9) rfl (by decide +kernel) rfl rfl (Nat.le_of_ble_eq_true rfl) dX4_see_26 (fun H locs hP hD hS => ?_)
    have hQ9 := pd_mk [(c0, .inr (4, (fX4 c1 c2 (nI cc) (nI (rz + 1)) ro sd)))] hP hD
    clear hP hD
    obtain ⟨hP, hD⟩ := hQ9
    refine lv_aload_n hx hb dX4_see_29 rfl (lv_at hl 0 rfl) ?_
    refine va_get (D := D) (ci := 4) (v := .int (nI (rz + 1))) (C := RX4) (T := TX4) (N := 6) hx hb hts inX4 hown hK hP 0 rfl rfl 3 (by decide) (hts _ tw_181) (fun _ h9 => h9) rfl dX4_see_30 ?_
    obtain ⟨hP9, hD9⟩ := pd_sub [(c0, .inr (4, (fX4 c1 c2 (nI cc) (nI (rz + 1)) ro sd)))] [0] hP hD (by decide) rfl
    exact W.iret (v := (nI (rz + 1))) hx hb hr (fun t ht hW => ⟨⟨(nI (rz + 1)), ((rz + 1), ro), rfl, ⟨rfl, rfl, (if_pos c_1).symm⟩, by rw [ht]; exact hP9, hD9⟩, hS.F ht⟩) hS.2.2 dX4_see_33
  · refine lv_aload_n hx hb dX4_see_4 rfl (lv_at hl 0 rfl) ?_
    refine lv_dup hx hb dX4_see_5 rfl ?_
    refine va_get (D := D) (ci := 4) (v := .int ro) (C := RX4) (T := TX4) (N := 6) hx hb hts inX4 hown hK hP 0 rfl rfl 4 (by decide) (hts _ tw_185) (fun _ h9 => h9) rfl dX4_see_6 ?_
    refine lv_iconst (v := 1) hx hb dX4_see_9 (by decide) ?_
    refine lv_aload_n hx hb dX4_see_10 rfl (lv_at hl 0 rfl) ?_
    refine va_get (D := D) (ci := 4) (v := .int (nI rz)) (C := RX4) (T := TX4) (N := 6) hx hb hts inX4 hown hK hP 0 rfl rfl 3 (by decide) (hts _ tw_181) (fun _ h9 => h9) rfl dX4_see_11 ?_
    refine lv_ishl hx hb dX4_see_14 ?_
    refine lv_topi (fun x_2 ex_2 => ?_)
    refine lv_ior hx hb dX4_see_15 ?_
    refine lv_topi (fun x_3 ex_3 => ?_)
    refine va_put (D := D) (ci := 4) (v := .int x_3) (ty := .int) (C := RX4) (T := TX4) (N := 6) hx hb hts inX4 tyX4 tyX4_ok nmX4 hown hK hP hD hS 0 rfl rfl 4 (by decide) (hts _ tw_185) (fun _ h9 => h9) rfl (by decide +kernel) rfl rfl (Nat.le_of_ble_eq_true rfl) dX4_see_16 (fun H locs hP hD hS => ?_)
    have hQ9 := pd_mk [(c0, .inr (4, (fX4 c1 c2 (nI cc) (nI rz) x_3 sd)))] hP hD
    clear hP hD
    obtain ⟨hP, hD⟩ := hQ9
    refine lv_aload_n hx hb dX4_see_19 rfl (lv_at hl 0 rfl) ?_
    refine lv_dup hx hb dX4_see_20 rfl ?_
    refine va_get (D := D) (ci := 4) (v := .int (nI rz)) (C := RX4) (T := TX4) (N := 6) hx hb hts inX4 hown hK hP 0 rfl rfl 3 (by decide) (hts _ tw_181) (fun _ h9 => h9) rfl dX4_see_21 ?_
    refine lv_iconst (v := 1) hx hb dX4_see_24 (by decide) ?_
    refine lv_iadd hx hb dX4_see_25 ?_
    refine lv_ti (y := (nI (rz + 1))) (nI_add rz 1) ?_
    refine va_put (D := D) (ci := 4) (v := .int (nI (rz + 1))) (ty := .int) (C := RX4) (T := TX4) (N := 6) hx hb hts inX4 tyX4 tyX4_ok nmX4 hown hK hP hD hS 0 rfl rfl 3 (by decide) (hts _ tw_181) (fun _ h9 => h9) rfl (by decide +kernel) rfl rfl (Nat.le_of_ble_eq_true rfl) dX4_see_26 (fun H locs hP hD hS => ?_)
    have hQ9 := pd_mk [(c0, .inr (4, (fX4 c1 c2 (nI cc) (nI (rz + 1)) x_3 sd)))] hP hD
    clear hP hD
    obtain ⟨hP, hD⟩ := hQ9
    refine lv_aload_n hx hb dX4_see_29 rfl (lv_at hl 0 rfl) ?_
    refine va_get (D := D) (ci := 4) (v := .int (nI (rz + 1))) (C := RX4) (T := TX4) (N := 6) hx hb hts inX4 hown hK hP 0 rfl rfl 3 (by decide) (hts _ tw_181) (fun _ h9 => h9) rfl dX4_see_30 ?_
    obtain ⟨hP9, hD9⟩ := pd_sub [(c0, .inr (4, (fX4 c1 c2 (nI cc) (nI (rz + 1)) x_3 sd)))] [0] hP hD (by decide) rfl
    exact W.iret (v := (nI (rz + 1))) hx hb hr (fun t ht hW => ⟨⟨(nI (rz + 1)), ((rz + 1), x_3), rfl, ⟨rfl, rfl, by rw [ex_3, ex_2]; exact (if_neg c_1).symm⟩, by rw [ht]; exact hP9, hD9⟩, hS.F ht⟩) hS.2.2 dX4_see_33


set_option maxHeartbeats 4000000 in
set_option maxRecDepth 100000 in
theorem x_saw3 (l : Launch) (D : va_G) (k : Nat → ClassId) (st : Nat → Nat) (lo : Nat) (a : Nat → Nat) (rk : Nat) (lfa : Int32) (cc : Nat) (rz : Nat) (ro : Int32) (sd : Int32) (p0 : Int32) (hrz : rz ≤ 24) : CWi l D k st lo yX7_saw cX7_saw 2 (some .int) ({ frames := 1, cells := 0, slots := 0, locals := 21 }) 0 0 [.ref (a 0), .int p0] [((a 0), .inr (7, (fX7 (a 1) (a 3) (a 19) (a 35) (a 40) (nI rk) lfa (a 53) (a 56) (a 63) (a 64) (a 68)))), ((a 53), .inr (4, (fX4 (a 54) (a 55) (nI cc) (nI rz) ro sd)))] (fun (r : Int32) (u : Nat × Int32) => match u with | (rz_, ro_) => sawP rz r rz_ ∧ rz_ ≤ 24 ∧ (rz < 24 → ro_ = sawO ro rz p0) ∧ (¬ rz < 24 → ro_ = ro)) (fun (u : Nat × Int32) => match u with | (rz_, ro_) => [((a 0), .inr (7, (fX7 (a 1) (a 3) (a 19) (a 35) (a 40) (nI rk) lfa (a 53) (a 56) (a 63) (a 64) (a 68)))), ((a 53), .inr (4, (fX4 (a 54) (a 55) (nI cc) (nI rz_) ro_ sd)))]) := by
  intro sz
  refine Met.ofW (cc := cX7_saw) (maxL := 2) (ret := (some .int)) (by decide) rfl ?_
  intro p e s m args below meth c s₁ B hml hv
  obtain ⟨rfl, hsz, hlo, hP, hK, hDL, hZ⟩ := hv
  have hx := B.exec
  have hb := B.bytes
  have hr := B.returns
  have hts := WS_ts B.pre
  have hown : s.vm.findClass RX7 = some m.cls := findClass_of_methodNamed B.named
  have hlocks := B.notSynchronized
  subst hsz
  have hD := hDL.self (sz := s.heap.size)
  have hAlo := A_lo hDL hlo
  generalize hAe : va_A [((a 0), .inr (7, (fX7 (a 1) (a 3) (a 19) (a 35) (a 40) (nI rk) lfa (a 53) (a 56) (a 63) (a 64) (a 68)))), ((a 53), .inr (4, (fX4 (a 54) (a 55) (nI cc) (nI rz) ro sd)))] s.heap.size = A at hD hAlo ⊢
  have hA : ∀ q : Nat, s.heap.size ≤ q → A q := fun q h => by rw [← hAe]; exact Or.inr h
  have hS : va_S A s.heap s.heap [] := va_S.rf
  have hl := lv_entry ([.ref (a 0), .int p0]) (n := 2) (Nat.le_of_ble_eq_true rfl)
  rw [lg_entry_eq]
  generalize (lg_sl ([.ref (a 0), .int p0]) ++ List.replicate (2 - (lg_sl ([.ref (a 0), .int p0])).length) Slot.unset).toArray = ls at hl ⊢
  have hl : lv_has ls 2 [(0, .ref (a 0)), (1, .int p0)] := hl
  refine lv_aload_n hx hb dX7_saw_0 rfl (lv_at hl 0 rfl) ?_
  refine va_get (D := D) (ci := 7) (v := .ref (a 53)) (C := RX7) (T := TX7) (N := 12) hx hb hts inX7 hown hK hP 0 rfl rfl 7 (by decide) (hts _ tw_312) (fun _ h9 => h9) rfl dX7_saw_1 ?_
  refine va_get (D := D) (ci := 4) (v := .int (nI rz)) (C := RX4) (T := TX4) (N := 6) hx hb hts inX4 hown hK hP 1 rfl rfl 3 (by decide) (hts _ tw_184) (fun _ h9 => h9) rfl dX7_saw_4 ?_
  refine lv_bipush (v := 24) hx hb dX7_saw_7 (by decide) ?_
  refine lv_icmp_ge (tgt := 23) hx hb dX7_saw_9 (by decide) (fun c_1 => ?_) (fun c_1 => ?_)
  · have c_1 := (nI_leI (a := 24) (b := rz) (by omega) (by omega)).mp c_1
    refine lv_sipush (v := (-1004)) hx hb dX7_saw_23 (by decide) ?_
    obtain ⟨hP9, hD9⟩ := pd_sub [((a 0), .inr (7, (fX7 (a 1) (a 3) (a 19) (a 35) (a 40) (nI rk) lfa (a 53) (a 56) (a 63) (a 64) (a 68)))), ((a 53), .inr (4, (fX4 (a 54) (a 55) (nI cc) (nI rz) ro sd)))] [0, 1] hP hD (by decide) rfl
    exact W.iret (v := (-1004)) hx hb hr (fun t ht hW => ⟨⟨(-1004), (rz, ro), rfl, ⟨⟨fun h => absurd h (by omega), fun _ => ⟨rfl, rfl⟩⟩, by omega, fun h => absurd h (by omega), fun _ => rfl⟩, by rw [ht]; exact hP9, hD9⟩, hS.F ht⟩) hS.2.2 dX7_saw_26
  · have c_1 : ¬ (24 ≤ rz) := fun h => c_1 ((nI_leI (a := 24) (b := rz) (by omega) (by omega)).mpr h)
    refine lv_aload_n hx hb dX7_saw_12 rfl (lv_at hl 0 rfl) ?_
    refine va_get (D := D) (ci := 7) (v := .ref (a 53)) (C := RX7) (T := TX7) (N := 12) hx hb hts inX7 hown hK hP 0 rfl rfl 7 (by decide) (hts _ tw_312) (fun _ h9 => h9) rfl dX7_saw_13 ?_
    refine lv_iload_n hx hb dX7_saw_16 rfl (lv_at hl 1 rfl) ?_
    refine rw_i (D := D) (wr := [((a 0), .inr (7, (fX7 (a 1) (a 3) (a 19) (a 35) (a 40) (nI rk) lfa (a 53) (a 56) (a 63) (a 64) (a 68))))]) (va_runV (As := [.int p0]) (rest := []) ⟨hx, hb, hml, hown, hts⟩ ((x_see3 l D k st lo (a 53) (a 54) (a 55) cc rz ro sd p0 (by first | assumption | omega)) s.heap.size) (cwV 1 hts (gV tw_740 tw_741 tw_742 tw_82 tw_743) rfl rfl rfl (by decide +kernel) ⟨Nat.le_of_ble_eq_true rfl, Nat.le_of_ble_eq_true rfl⟩) (pV hS hAlo hlo hP hK (va_Dlo hD hAlo) hZ [1] (by decide) rfl (ci := 4) (q := (RX4, TX4, 6)) (q0 := 0) rfl rfl) rfl rfl hl.1 rfl (lv_room (Nat.le_of_ble_eq_true rfl)) dX7_saw_17 ⟨Nat.le_of_ble_eq_true rfl, Nat.le_of_ble_eq_true rfl⟩) hS hA hP hD [1] [0] rfl rfl (by decide) (by decide) (fun r_2 u H locs hw_2 hP hD hS => ?_)
    obtain ⟨rz__2, ro__2⟩ := u
    have hQ9 := pd_mk [((a 0), .inr (7, (fX7 (a 1) (a 3) (a 19) (a 35) (a 40) (nI rk) lfa (a 53) (a 56) (a 63) (a 64) (a 68)))), ((a 53), .inr (4, (fX4 (a 54) (a 55) (nI cc) (nI rz__2) ro__2 sd)))] hP hD
    clear hP hD
    obtain ⟨hP, hD⟩ := hQ9
    try dsimp only at hw_2
    refine lv_goto (tgt := 26) hx hb dX7_saw_20 (by decide) ?_
    obtain ⟨hP9, hD9⟩ := pd_sub [((a 0), .inr (7, (fX7 (a 1) (a 3) (a 19) (a 35) (a 40) (nI rk) lfa (a 53) (a 56) (a 63) (a 64) (a 68)))), ((a 53), .inr (4, (fX4 (a 54) (a 55) (nI cc) (nI rz__2) ro__2 sd)))] [0, 1] hP hD (by decide) rfl
    exact W.iret (v := r_2) hx hb hr (fun t ht hW => ⟨⟨r_2, (rz__2, ro__2), rfl, ⟨⟨fun _ => ⟨hw_2.1, hw_2.2.1⟩, fun h => absurd (by omega) h⟩, by omega, fun _ => hw_2.2.2, fun h => absurd (by omega) h⟩, by rw [ht]; exact hP9, hD9⟩, hS.F ht⟩) hS.2.2 dX7_saw_26


set_option maxHeartbeats 4000000 in
set_option maxRecDepth 100000 in
theorem x_clear3 (l : Launch) (D : va_G) (k : Nat → ClassId) (st : Nat → Nat) (lo : Nat) (a : Nat → Nat) (rk : Nat) (lfa : Int32) (cc : Nat) (rz : Nat) (ro : Int32) (sd : Int32) (hrz : rz ≤ 24) : CWi l D k st lo yX7_clear cX7_clear 2 (some .int) ({ frames := 0, cells := 0, slots := 0, locals := 0 }) 0 0 [.ref (a 0)] [((a 0), .inr (7, (fX7 (a 1) (a 3) (a 19) (a 35) (a 40) (nI rk) lfa (a 53) (a 56) (a 63) (a 64) (a 68)))), ((a 53), .inr (4, (fX4 (a 54) (a 55) (nI cc) (nI rz) ro sd)))] (fun (r : Int32) (u : Nat × Int32) => match u with | (rz_, ro_) => r = nI rz ∧ rz_ = 0 ∧ ro_ = 0) (fun (u : Nat × Int32) => match u with | (rz_, ro_) => [((a 0), .inr (7, (fX7 (a 1) (a 3) (a 19) (a 35) (a 40) (nI rk) lfa (a 53) (a 56) (a 63) (a 64) (a 68)))), ((a 53), .inr (4, (fX4 (a 54) (a 55) (nI cc) (nI rz_) ro_ sd)))]) := by
  intro sz
  refine Met.ofW (cc := cX7_clear) (maxL := 2) (ret := (some .int)) (by decide) rfl ?_
  intro p e s m args below meth c s₁ B hml hv
  obtain ⟨rfl, hsz, hlo, hP, hK, hDL, hZ⟩ := hv
  have hx := B.exec
  have hb := B.bytes
  have hr := B.returns
  have hts := WS_ts B.pre
  have hown : s.vm.findClass RX7 = some m.cls := findClass_of_methodNamed B.named
  have hlocks := B.notSynchronized
  subst hsz
  have hD := hDL.self (sz := s.heap.size)
  have hAlo := A_lo hDL hlo
  generalize hAe : va_A [((a 0), .inr (7, (fX7 (a 1) (a 3) (a 19) (a 35) (a 40) (nI rk) lfa (a 53) (a 56) (a 63) (a 64) (a 68)))), ((a 53), .inr (4, (fX4 (a 54) (a 55) (nI cc) (nI rz) ro sd)))] s.heap.size = A at hD hAlo ⊢
  have hA : ∀ q : Nat, s.heap.size ≤ q → A q := fun q h => by rw [← hAe]; exact Or.inr h
  have hS : va_S A s.heap s.heap [] := va_S.rf
  have hl := lv_entry ([.ref (a 0)]) (n := 2) (Nat.le_of_ble_eq_true rfl)
  rw [lg_entry_eq]
  generalize (lg_sl ([.ref (a 0)]) ++ List.replicate (2 - (lg_sl ([.ref (a 0)])).length) Slot.unset).toArray = ls at hl ⊢
  have hl : lv_has ls 2 [(0, .ref (a 0))] := hl
  refine lv_aload_n hx hb dX7_clear_0 rfl (lv_at hl 0 rfl) ?_
  refine va_get (D := D) (ci := 7) (v := .ref (a 53)) (C := RX7) (T := TX7) (N := 12) hx hb hts inX7 hown hK hP 0 rfl rfl 7 (by decide) (hts _ tw_312) (fun _ h9 => h9) rfl dX7_clear_1 ?_
  refine va_get (D := D) (ci := 4) (v := .int (nI rz)) (C := RX4) (T := TX4) (N := 6) hx hb hts inX4 hown hK hP 1 rfl rfl 3 (by decide) (hts _ tw_184) (fun _ h9 => h9) rfl dX7_clear_4 ?_
  refine lv_istore_n (lv' := [(1, .int (nI rz)), (0, .ref (a 0))]) hx hb dX7_clear_7 rfl hl (by decide) rfl (fun ls hl => ?_)
  refine lv_aload_n hx hb dX7_clear_8 rfl (lv_at hl 1 rfl) ?_
  refine va_get (D := D) (ci := 7) (v := .ref (a 53)) (C := RX7) (T := TX7) (N := 12) hx hb hts inX7 hown hK hP 0 rfl rfl 7 (by decide) (hts _ tw_312) (fun _ h9 => h9) rfl dX7_clear_9 ?_
  refine lv_iconst (v := 0) hx hb dX7_clear_12 (by decide) ?_
  refine va_put (D := D) (ci := 4) (v := .int 0) (ty := .int) (C := RX4) (T := TX4) (N := 6) hx hb hts inX4 tyX4 tyX4_ok nmX4 hown hK hP hD hS 1 rfl rfl 3 (by decide) (hts _ tw_184) (fun _ h9 => h9) rfl (by decide +kernel) rfl rfl (Nat.le_of_ble_eq_true rfl) dX7_clear_13 (fun H locs hP hD hS => ?_)
  have hQ9 := pd_mk [((a 0), .inr (7, (fX7 (a 1) (a 3) (a 19) (a 35) (a 40) (nI rk) lfa (a 53) (a 56) (a 63) (a 64) (a 68)))), ((a 53), .inr (4, (fX4 (a 54) (a 55) (nI cc) 0 ro sd)))] hP hD
  clear hP hD
  obtain ⟨hP, hD⟩ := hQ9
  refine lv_aload_n hx hb dX7_clear_16 rfl (lv_at hl 1 rfl) ?_
  refine va_get (D := D) (ci := 7) (v := .ref (a 53)) (C := RX7) (T := TX7) (N := 12) hx hb hts inX7 hown hK hP 0 rfl rfl 7 (by decide) (hts _ tw_312) (fun _ h9 => h9) rfl dX7_clear_17 ?_
  refine lv_iconst (v := 0) hx hb dX7_clear_20 (by decide) ?_
  refine va_put (D := D) (ci := 4) (v := .int 0) (ty := .int) (C := RX4) (T := TX4) (N := 6) hx hb hts inX4 tyX4 tyX4_ok nmX4 hown hK hP hD hS 1 rfl rfl 4 (by decide) (hts _ tw_187) (fun _ h9 => h9) rfl (by decide +kernel) rfl rfl (Nat.le_of_ble_eq_true rfl) dX7_clear_21 (fun H locs hP hD hS => ?_)
  have hQ9 := pd_mk [((a 0), .inr (7, (fX7 (a 1) (a 3) (a 19) (a 35) (a 40) (nI rk) lfa (a 53) (a 56) (a 63) (a 64) (a 68)))), ((a 53), .inr (4, (fX4 (a 54) (a 55) (nI cc) 0 0 sd)))] hP hD
  clear hP hD
  obtain ⟨hP, hD⟩ := hQ9
  refine lv_iload_n hx hb dX7_clear_24 rfl (lv_at hl 0 rfl) ?_
  obtain ⟨hP9, hD9⟩ := pd_sub [((a 0), .inr (7, (fX7 (a 1) (a 3) (a 19) (a 35) (a 40) (nI rk) lfa (a 53) (a 56) (a 63) (a 64) (a 68)))), ((a 53), .inr (4, (fX4 (a 54) (a 55) (nI cc) 0 0 sd)))] [0, 1] hP hD (by decide) rfl
  exact W.iret (v := (nI rz)) hx hb hr (fun t ht hW => ⟨⟨(nI rz), (0, 0), rfl, ⟨rfl, rfl, rfl⟩, by rw [ht]; exact hP9, hD9⟩, hS.F ht⟩) hS.2.2 dX7_clear_25


set_option maxHeartbeats 4000000 in
set_option maxRecDepth 100000 in
theorem x_addCar3 (l : Launch) (D : va_G) (k : Nat → ClassId) (st : Nat → Nat) (lo : Nat) (c0 : Nat) (c1 : Nat) (c2 : Nat) (cc : Nat) (rz : Nat) (ro : Int32) (sd : Int32) (wk : Nat → Int32) (br : Nat → Nat) (p0 : Int32) (bb : Nat) (hcc : cc < 4) (hbb : bb ≤ 24) (hbr : ∀ j, br j ≤ 24) : CWi l D k st lo yX4_addCar cX4_addCar 4 (some .int) ({ frames := 0, cells := 0, slots := 0, locals := 0 }) 0 0 [.ref c0, .int p0, .int (nI bb)] [(c0, .inr (4, (fX4 c1 c2 (nI cc) (nI rz) ro sd))), (aI k c1 4 wk), (aI k c2 4 (nF br))] (fun (r : Int32) (u : Nat × (Nat → Int32) × (Nat → Nat)) => match u with | (cc_, wk_, br_) => (r = nI cc ∧ cc_ = cc + 1) ∧ (∀ j, br_ j ≤ 24) ∧ (∀ c, wk_ c = upd wk cc p0 c)) (fun (u : Nat × (Nat → Int32) × (Nat → Nat)) => match u with | (cc_, wk_, br_) => [(c0, .inr (4, (fX4 c1 c2 (nI cc_) (nI rz) ro sd))), (aI k c1 4 wk_), (aI k c2 4 (nF br_))]) := by
  intro sz
  refine Met.ofW (cc := cX4_addCar) (maxL := 4) (ret := (some .int)) (by decide) rfl ?_
  intro p e s m args below meth c s₁ B hml hv
  obtain ⟨rfl, hsz, hlo, hP, hK, hDL, hZ⟩ := hv
  have hx := B.exec
  have hb := B.bytes
  have hr := B.returns
  have hts := WS_ts B.pre
  have hown : s.vm.findClass RX4 = some m.cls := findClass_of_methodNamed B.named
  have hlocks := B.notSynchronized
  subst hsz
  have hD := hDL.self (sz := s.heap.size)
  have hAlo := A_lo hDL hlo
  generalize hAe : va_A [(c0, .inr (4, (fX4 c1 c2 (nI cc) (nI rz) ro sd))), (aI k c1 4 wk), (aI k c2 4 (nF br))] s.heap.size = A at hD hAlo ⊢
  have hA : ∀ q : Nat, s.heap.size ≤ q → A q := fun q h => by rw [← hAe]; exact Or.inr h
  have hS : va_S A s.heap s.heap [] := va_S.rf
  have hl := lv_entry ([.ref c0, .int p0, .int (nI bb)]) (n := 4) (Nat.le_of_ble_eq_true rfl)
  rw [lg_entry_eq]
  generalize (lg_sl ([.ref c0, .int p0, .int (nI bb)]) ++ List.replicate (4 - (lg_sl ([.ref c0, .int p0, .int (nI bb)])).length) Slot.unset).toArray = ls at hl ⊢
  have hl : lv_has ls 4 [(0, .ref c0), (1, .int p0), (2, .int (nI bb))] := hl
  refine lv_aload_n hx hb dX4_addCar_0 rfl (lv_at hl 0 rfl) ?_
  refine va_get (D := D) (ci := 4) (v := .int (nI cc)) (C := RX4) (T := TX4) (N := 6) hx hb hts inX4 hown hK hP 0 rfl rfl 2 (by decide) (hts _ tw_178) (fun _ h9 => h9) rfl dX4_addCar_1 ?_
  refine lv_istore_n (lv' := [(3, .int (nI cc)), (0, .ref c0), (1, .int p0), (2, .int (nI bb))]) hx hb dX4_addCar_4 rfl hl (by decide) rfl (fun ls hl => ?_)
  refine lv_iload_n hx hb dX4_addCar_5 rfl (lv_at hl 0 rfl) ?_
  refine lv_iconst (v := 4) hx hb dX4_addCar_6 (by decide) ?_
  refine lv_icmp_ge (tgt := 34) hx hb dX4_addCar_7 (by decide) (fun h => absurd ((nI_leI (a := 4) (b := cc) (by omega) (by omega)).mp h) (by omega)) (fun _ => ?_)
  refine lv_aload_n hx hb dX4_addCar_10 rfl (lv_at hl 1 rfl) ?_
  refine va_get (D := D) (ci := 4) (v := .ref c1) (C := RX4) (T := TX4) (N := 6) hx hb hts inX4 hown hK hP 0 rfl rfl 0 (by decide) (hts _ tw_173) (fun _ h9 => h9) rfl dX4_addCar_11 ?_
  refine lv_iload_n hx hb dX4_addCar_14 rfl (lv_at hl 0 rfl) ?_
  refine lv_iload_n hx hb dX4_addCar_15 rfl (lv_at hl 2 rfl) ?_
  refine va_iast hx hb hK hP hD hS 1 1 rfl rfl (vp_in_nI (by omega) (by decide)) dX4_addCar_16 (fun H locs hP hD hS => ?_)
  have hQ9 := pd_mk [(c0, .inr (4, (fX4 c1 c2 (nI cc) (nI rz) ro sd))), (aI k c1 4 (upd wk (Int32.toNatClampNeg (nI cc)) p0)), (aI k c2 4 (nF br))] hP hD
  clear hP hD
  obtain ⟨hP, hD⟩ := hQ9
  rw [nI_clamp (n := cc) (by omega)] at hP hD
  have hQ9 := pd_mk [(c0, .inr (4, (fX4 c1 c2 (nI cc) (nI rz) ro sd))), (aI k c1 4 (upd wk cc p0)), (aI k c2 4 (nF br))] hP hD
  clear hP hD
  obtain ⟨hP, hD⟩ := hQ9
  refine lv_aload_n hx hb dX4_addCar_17 rfl (lv_at hl 1 rfl) ?_
  refine va_get (D := D) (ci := 4) (v := .ref c2) (C := RX4) (T := TX4) (N := 6) hx hb hts inX4 hown hK hP 0 rfl rfl 1 (by decide) (hts _ tw_175) (fun _ h9 => h9) rfl dX4_addCar_18 ?_
  refine lv_iload_n hx hb dX4_addCar_21 rfl (lv_at hl 0 rfl) ?_
  refine lv_iload_n hx hb dX4_addCar_22 rfl (lv_at hl 3 rfl) ?_
  refine va_iast hx hb hK hP hD hS 2 1 rfl rfl (vp_in_nI (by omega) (by decide)) dX4_addCar_23 (fun H locs hP hD hS => ?_)
  have hQ9 := pd_mk [(c0, .inr (4, (fX4 c1 c2 (nI cc) (nI rz) ro sd))), (aI k c1 4 (upd wk cc p0)), (aI k c2 4 (upd (nF br) (Int32.toNatClampNeg (nI cc)) (nI bb)))] hP hD
  clear hP hD
  obtain ⟨hP, hD⟩ := hQ9
  rw [nI_clamp (n := cc) (by omega)] at hP hD
  rw [show upd (nF br) cc (nI bb) = nF (fun j => if j = cc then bb else br j) from nF_upd _ _ _] at hP hD
  obtain ⟨d_4, hd_4⟩ : ∃ z : Nat → Nat, z = (fun j => if j = cc then bb else br j) := ⟨_, rfl⟩
  rw [← hd_4] at hP hD
  have hbb_4 : ∀ j, d_4 j ≤ 24 := by rw [hd_4]; exact up_le hbr (by omega)
  refine lv_aload_n hx hb dX4_addCar_24 rfl (lv_at hl 1 rfl) ?_
  refine lv_dup hx hb dX4_addCar_25 rfl ?_
  refine va_get (D := D) (ci := 4) (v := .int (nI cc)) (C := RX4) (T := TX4) (N := 6) hx hb hts inX4 hown hK hP 0 rfl rfl 2 (by decide) (hts _ tw_178) (fun _ h9 => h9) rfl dX4_addCar_26 ?_
  refine lv_iconst (v := 1) hx hb dX4_addCar_29 (by decide) ?_
  refine lv_iadd hx hb dX4_addCar_30 ?_
  refine lv_ti (y := (nI (cc + 1))) (nI_add cc 1) ?_
  refine va_put (D := D) (ci := 4) (v := .int (nI (cc + 1))) (ty := .int) (C := RX4) (T := TX4) (N := 6) hx hb hts inX4 tyX4 tyX4_ok nmX4 hown hK hP hD hS 0 rfl rfl 2 (by decide) (hts _ tw_178) (fun _ h9 => h9) rfl (by decide +kernel) rfl rfl (Nat.le_of_ble_eq_true rfl) dX4_addCar_31 (fun H locs hP hD hS => ?_)
  have hQ9 := pd_mk [(c0, .inr (4, (fX4 c1 c2 (nI (cc + 1)) (nI rz) ro sd))), (aI k c1 4 (upd wk cc p0)), (aI k c2 4 (nF d_4))] hP hD
  clear hP hD
  obtain ⟨hP, hD⟩ := hQ9
  refine lv_iload_n hx hb dX4_addCar_34 rfl (lv_at hl 0 rfl) ?_
  obtain ⟨hP9, hD9⟩ := pd_sub [(c0, .inr (4, (fX4 c1 c2 (nI (cc + 1)) (nI rz) ro sd))), (aI k c1 4 (upd wk cc p0)), (aI k c2 4 (nF d_4))] [0, 1, 2] hP hD (by decide) rfl
  exact W.iret (v := (nI cc)) hx hb hr (fun t ht hW => ⟨⟨(nI cc), ((cc + 1), (upd wk cc p0), d_4), rfl, ⟨⟨rfl, rfl⟩, hbb_4, fun _ => rfl⟩, by rw [ht]; exact hP9, hD9⟩, hS.F ht⟩) hS.2.2 dX4_addCar_35


set_option maxHeartbeats 4000000 in
set_option maxRecDepth 100000 in
theorem x_car3 (l : Launch) (D : va_G) (k : Nat → ClassId) (st : Nat → Nat) (lo : Nat) (a : Nat → Nat) (rk : Nat) (lfa : Int32) (cc : Nat) (rz : Nat) (ro : Int32) (sd : Int32) (wk : Nat → Int32) (br : Nat → Nat) (p0 : Int32) (p1 : Int32) (hcc : cc ≤ 4) (hbr : ∀ j, br j ≤ 24) : CWi l D k st lo yX7_car cX7_car 3 (some .int) ({ frames := 1, cells := 0, slots := 0, locals := 23 }) 0 0 [.ref (a 0), .int p0, .int p1] [((a 0), .inr (7, (fX7 (a 1) (a 3) (a 19) (a 35) (a 40) (nI rk) lfa (a 53) (a 56) (a 63) (a 64) (a 68)))), ((a 53), .inr (4, (fX4 (a 54) (a 55) (nI cc) (nI rz) ro sd))), (aI k (a 54) 4 wk), (aI k (a 55) 4 (nF br))] (fun (r : Int32) (u : Nat × (Nat → Int32) × (Nat → Nat)) => match u with | (cc_, wk_, br_) => carP p0 p1 cc r cc_ ∧ cc_ ≤ 4 ∧ (∀ j, br_ j ≤ 24) ∧ carW p0 p1 cc wk wk_) (fun (u : Nat × (Nat → Int32) × (Nat → Nat)) => match u with | (cc_, wk_, br_) => [((a 0), .inr (7, (fX7 (a 1) (a 3) (a 19) (a 35) (a 40) (nI rk) lfa (a 53) (a 56) (a 63) (a 64) (a 68)))), ((a 53), .inr (4, (fX4 (a 54) (a 55) (nI cc_) (nI rz) ro sd))), (aI k (a 54) 4 wk_), (aI k (a 55) 4 (nF br_))]) := by
  intro sz
  refine Met.ofW (cc := cX7_car) (maxL := 3) (ret := (some .int)) (by decide) rfl ?_
  intro p e s m args below meth c s₁ B hml hv
  obtain ⟨rfl, hsz, hlo, hP, hK, hDL, hZ⟩ := hv
  have hx := B.exec
  have hb := B.bytes
  have hr := B.returns
  have hts := WS_ts B.pre
  have hown : s.vm.findClass RX7 = some m.cls := findClass_of_methodNamed B.named
  have hlocks := B.notSynchronized
  subst hsz
  have hD := hDL.self (sz := s.heap.size)
  have hAlo := A_lo hDL hlo
  generalize hAe : va_A [((a 0), .inr (7, (fX7 (a 1) (a 3) (a 19) (a 35) (a 40) (nI rk) lfa (a 53) (a 56) (a 63) (a 64) (a 68)))), ((a 53), .inr (4, (fX4 (a 54) (a 55) (nI cc) (nI rz) ro sd))), (aI k (a 54) 4 wk), (aI k (a 55) 4 (nF br))] s.heap.size = A at hD hAlo ⊢
  have hA : ∀ q : Nat, s.heap.size ≤ q → A q := fun q h => by rw [← hAe]; exact Or.inr h
  have hS : va_S A s.heap s.heap [] := va_S.rf
  have hl := lv_entry ([.ref (a 0), .int p0, .int p1]) (n := 3) (Nat.le_of_ble_eq_true rfl)
  rw [lg_entry_eq]
  generalize (lg_sl ([.ref (a 0), .int p0, .int p1]) ++ List.replicate (3 - (lg_sl ([.ref (a 0), .int p0, .int p1])).length) Slot.unset).toArray = ls at hl ⊢
  have hl : lv_has ls 3 [(0, .ref (a 0)), (1, .int p0), (2, .int p1)] := hl
  refine lv_iload_n hx hb dX7_car_0 rfl (lv_at hl 1 rfl) ?_
  refine lv_iconst (v := 0) hx hb dX7_car_1 (by decide) ?_
  refine va_gets (A := A) hx hb (hZ.2.2.1.narrow hAlo) hS hown (hts _ tw_800) (fun _ h9 => h9) dX7_car_2 ?_
  refine lv_iconst (v := 2) hx hb dX7_car_5 (by decide) ?_
  refine va_ti (A := A) hx hb (hZ.2.2.2.1.narrow hAlo) hS (i := 2) (by unfold vp_in; decide) (v := .int 99) rfl dX7_car_6 ?_
  refine ro_i (D := D) (va_runS (As := [.int p0, .int 0, .int 99]) (rest := []) ⟨hx, hb, hml, hown, hts⟩ ((k_isIn l D k st lo p0 0 99) s.heap.size) (va_cwS 3 hts (gS tw_593 tw_594 tw_79 tw_595) rfl rfl rfl (by decide +kernel) ⟨Nat.le_of_ble_eq_true rfl, Nat.le_of_ble_eq_true rfl⟩) (pS hS hAlo hlo hP hK (va_Dlo hD hAlo) hZ [] (by decide) rfl) rfl rfl hl.1 rfl (lv_room (Nat.le_of_ble_eq_true rfl)) dX7_car_7 ⟨Nat.le_of_ble_eq_true rfl, Nat.le_of_ble_eq_true rfl⟩) hS hA hP (fun r_1 H locs hw_1 hP hS => ?_)
  try dsimp only at hw_1
  rcases hw_1 with ⟨rfl, hw_1⟩ | ⟨rfl, hw_1⟩
  · refine lv_if_eq (tgt := 23) hx hb dX7_car_10 (by decide) (fun h => absurd h (by decide)) (fun _ => ?_)
    refine lv_iload_n hx hb dX7_car_13 rfl (lv_at hl 2 rfl) ?_
    refine lv_iconst (v := 0) hx hb dX7_car_14 (by decide) ?_
    refine lv_bipush (v := 24) hx hb dX7_car_15 (by decide) ?_
    refine ro_i (D := D) (va_runS (As := [.int p1, .int 0, .int 24]) (rest := []) ⟨hx, hb, hml, hown, hts⟩ ((k_isIn l D k st lo p1 0 24) H.size) (va_cwS 3 hts (gS tw_593 tw_594 tw_79 tw_595) rfl rfl rfl (by decide +kernel) ⟨Nat.le_of_ble_eq_true rfl, Nat.le_of_ble_eq_true rfl⟩) (pS hS hAlo hlo hP hK (va_Dlo hD hAlo) hZ [] (by decide) rfl) rfl rfl hl.1 rfl (lv_room (Nat.le_of_ble_eq_true rfl)) dX7_car_17 ⟨Nat.le_of_ble_eq_true rfl, Nat.le_of_ble_eq_true rfl⟩) hS hA hP (fun r_2 H locs hw_2 hP hS => ?_)
    try dsimp only at hw_2
    rcases hw_2 with ⟨rfl, hw_2⟩ | ⟨rfl, hw_2⟩
    · refine lv_if_ne (tgt := 27) hx hb dX7_car_20 (by decide) (fun _ => ?_) (fun h => absurd h (by decide))
      refine lv_aload_n hx hb dX7_car_27 rfl (lv_at hl 0 rfl) ?_
      refine va_get (D := D) (ci := 7) (v := .ref (a 53)) (C := RX7) (T := TX7) (N := 12) hx hb hts inX7 hown hK hP 0 rfl rfl 7 (by decide) (hts _ tw_312) (fun _ h9 => h9) rfl dX7_car_28 ?_
      refine va_get (D := D) (ci := 4) (v := .int (nI cc)) (C := RX4) (T := TX4) (N := 6) hx hb hts inX4 hown hK hP 1 rfl rfl 2 (by decide) (hts _ tw_180) (fun _ h9 => h9) rfl dX7_car_31 ?_
      refine lv_iconst (v := 4) hx hb dX7_car_34 (by decide) ?_
      refine lv_icmp_ge (tgt := 50) hx hb dX7_car_35 (by decide) (fun c_3 => ?_) (fun c_3 => ?_)
      · have c_3 := (nI_leI (a := 4) (b := cc) (by omega) (by omega)).mp c_3
        refine lv_sipush (v := (-1004)) hx hb dX7_car_50 (by decide) ?_
        obtain ⟨hP9, hD9⟩ := pd_sub [((a 0), .inr (7, (fX7 (a 1) (a 3) (a 19) (a 35) (a 40) (nI rk) lfa (a 53) (a 56) (a 63) (a 64) (a 68)))), ((a 53), .inr (4, (fX4 (a 54) (a 55) (nI cc) (nI rz) ro sd))), (aI k (a 54) 4 wk), (aI k (a 55) 4 (nF br))] [0, 1, 2, 3] hP hD (by decide) rfl
        exact W.iret (v := (-1004)) hx hb hr (fun t ht hW => ⟨⟨(-1004), (cc, wk, br), rfl, ⟨⟨fun _ => ⟨fun h => absurd h (by omega), fun _ => ⟨rfl, rfl⟩⟩, fun h => absurd ⟨hw_1, hw_2⟩ h⟩, by omega, hbr, ⟨fun h => absurd h.2 (by omega), fun _ _ _ => rfl⟩⟩, by rw [ht]; exact hP9, hD9⟩, hS.F ht⟩) hS.2.2 dX7_car_53
      · have c_3 : ¬ (4 ≤ cc) := fun h => c_3 ((nI_leI (a := 4) (b := cc) (by omega) (by omega)).mpr h)
        obtain ⟨nb_4, hnl_4, hnh_4, rfl⟩ := inB_ofc (a := 0) (b := 24) (by omega) (by omega) hw_2
        refine lv_aload_n hx hb dX7_car_38 rfl (lv_at hl 0 rfl) ?_
        refine va_get (D := D) (ci := 7) (v := .ref (a 53)) (C := RX7) (T := TX7) (N := 12) hx hb hts inX7 hown hK hP 0 rfl rfl 7 (by decide) (hts _ tw_312) (fun _ h9 => h9) rfl dX7_car_39 ?_
        refine lv_iload_n hx hb dX7_car_42 rfl (lv_at hl 1 rfl) ?_
        refine lv_iload_n hx hb dX7_car_43 rfl (lv_at hl 2 rfl) ?_
        refine rw_i (D := D) (wr := [((a 0), .inr (7, (fX7 (a 1) (a 3) (a 19) (a 35) (a 40) (nI rk) lfa (a 53) (a 56) (a 63) (a 64) (a 68))))]) (va_runV (As := [.int p0, .int (nI nb_4)]) (rest := []) ⟨hx, hb, hml, hown, hts⟩ ((x_addCar3 l D k st lo (a 53) (a 54) (a 55) cc rz ro sd wk br p0 nb_4 (by first | assumption | omega) (by first | assumption | omega) hbr) H.size) (cwV 2 hts (gV tw_801 tw_802 tw_803 tw_82 tw_804) rfl rfl rfl (by decide +kernel) ⟨Nat.le_of_ble_eq_true rfl, Nat.le_of_ble_eq_true rfl⟩) (pV hS hAlo hlo hP hK (va_Dlo hD hAlo) hZ [1, 2, 3] (by decide) rfl (ci := 4) (q := (RX4, TX4, 6)) (q0 := 0) rfl rfl) rfl rfl hl.1 rfl (lv_room (Nat.le_of_ble_eq_true rfl)) dX7_car_44 ⟨Nat.le_of_ble_eq_true rfl, Nat.le_of_ble_eq_true rfl⟩) hS hA hP hD [1, 2, 3] [0] rfl rfl (by decide) (by decide) (fun r_5 u H locs hw_5 hP hD hS => ?_)
        obtain ⟨cc__5, wk__5, br__5⟩ := u
        have hQ9 := pd_mk [((a 0), .inr (7, (fX7 (a 1) (a 3) (a 19) (a 35) (a 40) (nI rk) lfa (a 53) (a 56) (a 63) (a 64) (a 68)))), ((a 53), .inr (4, (fX4 (a 54) (a 55) (nI cc__5) (nI rz) ro sd))), (aI k (a 54) 4 wk__5), (aI k (a 55) 4 (nF br__5))] hP hD
        clear hP hD
        obtain ⟨hP, hD⟩ := hQ9
        try dsimp only at hw_5
        refine lv_goto (tgt := 53) hx hb dX7_car_47 (by decide) ?_
        obtain ⟨hP9, hD9⟩ := pd_sub [((a 0), .inr (7, (fX7 (a 1) (a 3) (a 19) (a 35) (a 40) (nI rk) lfa (a 53) (a 56) (a 63) (a 64) (a 68)))), ((a 53), .inr (4, (fX4 (a 54) (a 55) (nI cc__5) (nI rz) ro sd))), (aI k (a 54) 4 wk__5), (aI k (a 55) 4 (nF br__5))] [0, 1, 2, 3] hP hD (by decide) rfl
        exact W.iret (v := r_5) hx hb hr (fun t ht hW => ⟨⟨r_5, (cc__5, wk__5, br__5), rfl, ⟨⟨fun _ => ⟨fun _ => hw_5.1, fun h => absurd (by omega) h⟩, fun h => absurd ⟨hw_1, hw_2⟩ h⟩, by omega, hw_5.2.1, ⟨fun _ c _ => hw_5.2.2 c, fun h => absurd ⟨⟨hw_1, hw_2⟩, by omega⟩ h⟩⟩, by rw [ht]; exact hP9, hD9⟩, hS.F ht⟩) hS.2.2 dX7_car_53
    · refine lv_if_ne (tgt := 27) hx hb dX7_car_20 (by decide) (fun h => absurd (by decide) h) (fun _ => ?_)
      refine lv_sipush (v := (-1002)) hx hb dX7_car_23 (by decide) ?_
      obtain ⟨hP9, hD9⟩ := pd_sub [((a 0), .inr (7, (fX7 (a 1) (a 3) (a 19) (a 35) (a 40) (nI rk) lfa (a 53) (a 56) (a 63) (a 64) (a 68)))), ((a 53), .inr (4, (fX4 (a 54) (a 55) (nI cc) (nI rz) ro sd))), (aI k (a 54) 4 wk), (aI k (a 55) 4 (nF br))] [0, 1, 2, 3] hP hD (by decide) rfl
      exact W.iret (v := (-1002)) hx hb hr (fun t ht hW => ⟨⟨(-1002), (cc, wk, br), rfl, ⟨⟨fun h => absurd h.2 hw_2, fun _ => ⟨rfl, rfl⟩⟩, by omega, hbr, ⟨fun h => absurd h.1.2 hw_2, fun _ _ _ => rfl⟩⟩, by rw [ht]; exact hP9, hD9⟩, hS.F ht⟩) hS.2.2 dX7_car_26
  · refine lv_if_eq (tgt := 23) hx hb dX7_car_10 (by decide) (fun _ => ?_) (fun h => absurd (by decide) h)
    refine lv_sipush (v := (-1002)) hx hb dX7_car_23 (by decide) ?_
    obtain ⟨hP9, hD9⟩ := pd_sub [((a 0), .inr (7, (fX7 (a 1) (a 3) (a 19) (a 35) (a 40) (nI rk) lfa (a 53) (a 56) (a 63) (a 64) (a 68)))), ((a 53), .inr (4, (fX4 (a 54) (a 55) (nI cc) (nI rz) ro sd))), (aI k (a 54) 4 wk), (aI k (a 55) 4 (nF br))] [0, 1, 2, 3] hP hD (by decide) rfl
    exact W.iret (v := (-1002)) hx hb hr (fun t ht hW => ⟨⟨(-1002), (cc, wk, br), rfl, ⟨⟨fun h => absurd h.1 hw_1, fun _ => ⟨rfl, rfl⟩⟩, by omega, hbr, ⟨fun h => absurd h.1.1 hw_1, fun _ _ _ => rfl⟩⟩, by rw [ht]; exact hP9, hD9⟩, hS.F ht⟩) hS.2.2 dX7_car_26


set_option maxHeartbeats 4000000 in
set_option maxRecDepth 100000 in
theorem x_copyFrom3 (l : Launch) (D : va_G) (k : Nat → ClassId) (st : Nat → Nat) (lo : Nat) (c0 : Nat) (c1 : Nat) (c2 : Nat) (cc : Nat) (rz : Nat) (ro : Int32) (sd : Int32) (wk : Nat → Int32) (br : Nat → Nat) (o0 : Nat) (o1 : Nat) (o2 : Nat) (cco : Nat) (rzo : Nat) (roo : Int32) (sdo : Int32) (wko : Nat → Int32) (bro : Nat → Nat) (hcc : cco ≤ 4) (hrz : rzo ≤ 24) (hbr : ∀ j, br j ≤ 24) (hbo : ∀ j, bro j ≤ 24) : CWv l D k st lo yX4_copyFrom cX4_copyFrom 2 none ({ frames := 1, cells := 0, slots := 0, locals := 60 }) 0 0 [.ref c0, .ref o0] [(c0, .inr (4, (fX4 c1 c2 (nI cc) (nI rz) ro sd))), (aI k c1 4 wk), (aI k c2 4 (nF br)), (o0, .inr (4, (fX4 o1 o2 (nI cco) (nI rzo) roo sdo))), (aI k o1 4 wko), (aI k o2 4 (nF bro))] (fun (u : Nat × Nat × Int32 × Int32 × (Nat → Int32) × (Nat → Nat)) => match u with | (cc_, rz_, ro_, sd_, wk_, br_) => cco = cc_ ∧ rzo = rz_ ∧ (∀ j, br_ j ≤ 24) ∧ roo = ro_ ∧ sdo = sd_ ∧ ∀ c, c < 4 → wk_ c = wko c) (fun (u : Nat × Nat × Int32 × Int32 × (Nat → Int32) × (Nat → Nat)) => match u with | (cc_, rz_, ro_, sd_, wk_, br_) => [(c0, .inr (4, (fX4 c1 c2 (nI cc_) (nI rz_) ro_ sd_))), (aI k c1 4 wk_), (aI k c2 4 (nF br_)), (o0, .inr (4, (fX4 o1 o2 (nI cco) (nI rzo) roo sdo))), (aI k o1 4 wko), (aI k o2 4 (nF bro))]) := by
  intro sz
  refine Met.ofW (cc := cX4_copyFrom) (maxL := 2) (ret := none) (by decide) rfl ?_
  intro p e s m args below meth c s₁ B hml hv
  obtain ⟨rfl, hsz, hlo, hP, hK, hDL, hZ⟩ := hv
  have hx := B.exec
  have hb := B.bytes
  have hr := B.returns
  have hts := WS_ts B.pre
  have hown : s.vm.findClass RX4 = some m.cls := findClass_of_methodNamed B.named
  have hlocks := B.notSynchronized
  subst hsz
  have hD := hDL.self (sz := s.heap.size)
  have hAlo := A_lo hDL hlo
  generalize hAe : va_A [(c0, .inr (4, (fX4 c1 c2 (nI cc) (nI rz) ro sd))), (aI k c1 4 wk), (aI k c2 4 (nF br)), (o0, .inr (4, (fX4 o1 o2 (nI cco) (nI rzo) roo sdo))), (aI k o1 4 wko), (aI k o2 4 (nF bro))] s.heap.size = A at hD hAlo ⊢
  have hA : ∀ q : Nat, s.heap.size ≤ q → A q := fun q h => by rw [← hAe]; exact Or.inr h
  have hS : va_S A s.heap s.heap [] := va_S.rf
  have hl := lv_entry ([.ref c0, .ref o0]) (n := 2) (Nat.le_of_ble_eq_true rfl)
  rw [lg_entry_eq]
  generalize (lg_sl ([.ref c0, .ref o0]) ++ List.replicate (2 - (lg_sl ([.ref c0, .ref o0])).length) Slot.unset).toArray = ls at hl ⊢
  have hl : lv_has ls 2 [(0, .ref c0), (1, .ref o0)] := hl
  refine lv_aload_n hx hb dX4_copyFrom_0 rfl (lv_at hl 1 rfl) ?_
  refine va_get (D := D) (ci := 4) (v := .ref o1) (C := RX4) (T := TX4) (N := 6) hx hb hts inX4 hown hK hP 3 rfl rfl 0 (by decide) (hts _ tw_173) (fun _ h9 => h9) rfl dX4_copyFrom_1 ?_
  refine lv_iconst (v := 0) hx hb dX4_copyFrom_4 (by decide) ?_
  refine lv_aload_n hx hb dX4_copyFrom_5 rfl (lv_at hl 0 rfl) ?_
  refine va_get (D := D) (ci := 4) (v := .ref c1) (C := RX4) (T := TX4) (N := 6) hx hb hts inX4 hown hK hP 0 rfl rfl 0 (by decide) (hts _ tw_173) (fun _ h9 => h9) rfl dX4_copyFrom_6 ?_
  refine lv_iconst (v := 0) hx hb dX4_copyFrom_9 (by decide) ?_
  refine lv_iconst (v := 4) hx hb dX4_copyFrom_10 (by decide) ?_
  refine va_copyi hx hb (by rw [hml]; exact hl.1.symm) hown (hts _ tw_883) (hts _ tw_366) (hts _ tw_365) (hts _ tw_88) hK hP hD hS 4 1 1 1 rfl rfl rfl rfl rfl (by decide) (by decide) (by decide) (by decide) (by decide) (fun _ _ => rfl) (Nat.le_of_ble_eq_true rfl) (Nat.le_of_ble_eq_true rfl) dX4_copyFrom_11 (fun H locs hP hD hS => ?_)
  have hQ9 := pd_mk [(c0, .inr (4, (fX4 c1 c2 (nI cc) (nI rz) ro sd))), (aI k c1 4 (va_cpy wko wk 0 0 4)), (aI k c2 4 (nF br)), (o0, .inr (4, (fX4 o1 o2 (nI cco) (nI rzo) roo sdo))), (aI k o1 4 wko), (aI k o2 4 (nF bro))] hP hD
  clear hP hD
  obtain ⟨hP, hD⟩ := hQ9
  refine lv_aload_n hx hb dX4_copyFrom_14 rfl (lv_at hl 1 rfl) ?_
  refine va_get (D := D) (ci := 4) (v := .ref o2) (C := RX4) (T := TX4) (N := 6) hx hb hts inX4 hown hK hP 3 rfl rfl 1 (by decide) (hts _ tw_175) (fun _ h9 => h9) rfl dX4_copyFrom_15 ?_
  refine lv_iconst (v := 0) hx hb dX4_copyFrom_18 (by decide) ?_
  refine lv_aload_n hx hb dX4_copyFrom_19 rfl (lv_at hl 0 rfl) ?_
  refine va_get (D := D) (ci := 4) (v := .ref c2) (C := RX4) (T := TX4) (N := 6) hx hb hts inX4 hown hK hP 0 rfl rfl 1 (by decide) (hts _ tw_175) (fun _ h9 => h9) rfl dX4_copyFrom_20 ?_
  refine lv_iconst (v := 0) hx hb dX4_copyFrom_23 (by decide) ?_
  refine lv_iconst (v := 4) hx hb dX4_copyFrom_24 (by decide) ?_
  refine va_copyi hx hb (by rw [hml]; exact hl.1.symm) hown (hts _ tw_883) (hts _ tw_366) (hts _ tw_365) (hts _ tw_88) hK hP hD hS 5 2 1 1 rfl rfl rfl rfl rfl (by decide) (by decide) (by decide) (by decide) (by decide) (fun _ _ => rfl) (Nat.le_of_ble_eq_true rfl) (Nat.le_of_ble_eq_true rfl) dX4_copyFrom_25 (fun H locs hP hD hS => ?_)
  have hQ9 := pd_mk [(c0, .inr (4, (fX4 c1 c2 (nI cc) (nI rz) ro sd))), (aI k c1 4 (va_cpy wko wk 0 0 4)), (aI k c2 4 (va_cpy (nF bro) (nF br) 0 0 4)), (o0, .inr (4, (fX4 o1 o2 (nI cco) (nI rzo) roo sdo))), (aI k o1 4 wko), (aI k o2 4 (nF bro))] hP hD
  clear hP hD
  obtain ⟨hP, hD⟩ := hQ9
  obtain ⟨d_3, hd_3, hbb_3⟩ := nF_cpy hbo hbr
  rw [show va_cpy (nF bro) (nF br) 0 0 4 = nF d_3 from hd_3] at hP hD
  have hQ9 := pd_mk [(c0, .inr (4, (fX4 c1 c2 (nI cc) (nI rz) ro sd))), (aI k c1 4 (va_cpy wko wk 0 0 4)), (aI k c2 4 (nF d_3)), (o0, .inr (4, (fX4 o1 o2 (nI cco) (nI rzo) roo sdo))), (aI k o1 4 wko), (aI k o2 4 (nF bro))] hP hD
  clear hP hD
  obtain ⟨hP, hD⟩ := hQ9
  refine lv_aload_n hx hb dX4_copyFrom_28 rfl (lv_at hl 0 rfl) ?_
  refine lv_aload_n hx hb dX4_copyFrom_29 rfl (lv_at hl 1 rfl) ?_
  refine va_get (D := D) (ci := 4) (v := .int (nI cco)) (C := RX4) (T := TX4) (N := 6) hx hb hts inX4 hown hK hP 3 rfl rfl 2 (by decide) (hts _ tw_178) (fun _ h9 => h9) rfl dX4_copyFrom_30 ?_
  refine va_put (D := D) (ci := 4) (v := .int (nI cco)) (ty := .int) (C := RX4) (T := TX4) (N := 6) hx hb hts inX4 tyX4 tyX4_ok nmX4 hown hK hP hD hS 0 rfl rfl 2 (by decide) (hts _ tw_178) (fun _ h9 => h9) rfl (by decide +kernel) rfl rfl (Nat.le_of_ble_eq_true rfl) dX4_copyFrom_33 (fun H locs hP hD hS => ?_)
  have hQ9 := pd_mk [(c0, .inr (4, (fX4 c1 c2 (nI cco) (nI rz) ro sd))), (aI k c1 4 (va_cpy wko wk 0 0 4)), (aI k c2 4 (nF d_3)), (o0, .inr (4, (fX4 o1 o2 (nI cco) (nI rzo) roo sdo))), (aI k o1 4 wko), (aI k o2 4 (nF bro))] hP hD
  clear hP hD
  obtain ⟨hP, hD⟩ := hQ9
  refine lv_aload_n hx hb dX4_copyFrom_36 rfl (lv_at hl 0 rfl) ?_
  refine lv_aload_n hx hb dX4_copyFrom_37 rfl (lv_at hl 1 rfl) ?_
  refine va_get (D := D) (ci := 4) (v := .int (nI rzo)) (C := RX4) (T := TX4) (N := 6) hx hb hts inX4 hown hK hP 3 rfl rfl 3 (by decide) (hts _ tw_181) (fun _ h9 => h9) rfl dX4_copyFrom_38 ?_
  refine va_put (D := D) (ci := 4) (v := .int (nI rzo)) (ty := .int) (C := RX4) (T := TX4) (N := 6) hx hb hts inX4 tyX4 tyX4_ok nmX4 hown hK hP hD hS 0 rfl rfl 3 (by decide) (hts _ tw_181) (fun _ h9 => h9) rfl (by decide +kernel) rfl rfl (Nat.le_of_ble_eq_true rfl) dX4_copyFrom_41 (fun H locs hP hD hS => ?_)
  have hQ9 := pd_mk [(c0, .inr (4, (fX4 c1 c2 (nI cco) (nI rzo) ro sd))), (aI k c1 4 (va_cpy wko wk 0 0 4)), (aI k c2 4 (nF d_3)), (o0, .inr (4, (fX4 o1 o2 (nI cco) (nI rzo) roo sdo))), (aI k o1 4 wko), (aI k o2 4 (nF bro))] hP hD
  clear hP hD
  obtain ⟨hP, hD⟩ := hQ9
  refine lv_aload_n hx hb dX4_copyFrom_44 rfl (lv_at hl 0 rfl) ?_
  refine lv_aload_n hx hb dX4_copyFrom_45 rfl (lv_at hl 1 rfl) ?_
  refine va_get (D := D) (ci := 4) (v := .int roo) (C := RX4) (T := TX4) (N := 6) hx hb hts inX4 hown hK hP 3 rfl rfl 4 (by decide) (hts _ tw_185) (fun _ h9 => h9) rfl dX4_copyFrom_46 ?_
  refine va_put (D := D) (ci := 4) (v := .int roo) (ty := .int) (C := RX4) (T := TX4) (N := 6) hx hb hts inX4 tyX4 tyX4_ok nmX4 hown hK hP hD hS 0 rfl rfl 4 (by decide) (hts _ tw_185) (fun _ h9 => h9) rfl (by decide +kernel) rfl rfl (Nat.le_of_ble_eq_true rfl) dX4_copyFrom_49 (fun H locs hP hD hS => ?_)
  have hQ9 := pd_mk [(c0, .inr (4, (fX4 c1 c2 (nI cco) (nI rzo) roo sd))), (aI k c1 4 (va_cpy wko wk 0 0 4)), (aI k c2 4 (nF d_3)), (o0, .inr (4, (fX4 o1 o2 (nI cco) (nI rzo) roo sdo))), (aI k o1 4 wko), (aI k o2 4 (nF bro))] hP hD
  clear hP hD
  obtain ⟨hP, hD⟩ := hQ9
  refine lv_aload_n hx hb dX4_copyFrom_52 rfl (lv_at hl 0 rfl) ?_
  refine lv_aload_n hx hb dX4_copyFrom_53 rfl (lv_at hl 1 rfl) ?_
  refine va_get (D := D) (ci := 4) (v := .int sdo) (C := RX4) (T := TX4) (N := 6) hx hb hts inX4 hown hK hP 3 rfl rfl 5 (by decide) (hts _ tw_188) (fun _ h9 => h9) rfl dX4_copyFrom_54 ?_
  refine va_put (D := D) (ci := 4) (v := .int sdo) (ty := .int) (C := RX4) (T := TX4) (N := 6) hx hb hts inX4 tyX4 tyX4_ok nmX4 hown hK hP hD hS 0 rfl rfl 5 (by decide) (hts _ tw_188) (fun _ h9 => h9) rfl (by decide +kernel) rfl rfl (Nat.le_of_ble_eq_true rfl) dX4_copyFrom_57 (fun H locs hP hD hS => ?_)
  have hQ9 := pd_mk [(c0, .inr (4, (fX4 c1 c2 (nI cco) (nI rzo) roo sdo))), (aI k c1 4 (va_cpy wko wk 0 0 4)), (aI k c2 4 (nF d_3)), (o0, .inr (4, (fX4 o1 o2 (nI cco) (nI rzo) roo sdo))), (aI k o1 4 wko), (aI k o2 4 (nF bro))] hP hD
  clear hP hD
  obtain ⟨hP, hD⟩ := hQ9
  obtain ⟨hP9, hD9⟩ := pd_sub [(c0, .inr (4, (fX4 c1 c2 (nI cco) (nI rzo) roo sdo))), (aI k c1 4 (va_cpy wko wk 0 0 4)), (aI k c2 4 (nF d_3)), (o0, .inr (4, (fX4 o1 o2 (nI cco) (nI rzo) roo sdo))), (aI k o1 4 wko), (aI k o2 4 (nF bro))] [0, 1, 2, 3, 4, 5] hP hD (by decide) rfl
  exact W.vret hx hb hr (fun t ht hW => ⟨⟨(cco, rzo, roo, sdo, (va_cpy wko wk 0 0 4), d_3), rfl, ⟨rfl, rfl, hbb_3, rfl, rfl, fun c hc => cpy4 hc⟩, by rw [ht]; exact hP9, hD9⟩, hS.F ht⟩) hS.2.2 dX4_copyFrom_60


set_option maxHeartbeats 4000000 in
set_option maxRecDepth 100000 in
theorem x_keep3 (l : Launch) (D : va_G) (k : Nat → ClassId) (st : Nat → Nat) (lo : Nat) (a : Nat → Nat) (rk : Nat) (lfa : Int32) (cc : Nat) (rz : Nat) (ro : Int32) (sd : Int32) (wk : Nat → Int32) (br : Nat → Nat) (cci0 : Nat) (rzi0 : Nat) (roi0 : Int32) (sdi0 : Int32) (wki0 : Nat → Int32) (bri0 : Nat → Nat) (cci1 : Nat) (rzi1 : Nat) (roi1 : Int32) (sdi1 : Int32) (wki1 : Nat → Int32) (bri1 : Nat → Nat) (fk : Nat → Int32) (pz : Int32) (hcc : cc ≤ 4) (hrz : rz ≤ 24) (hbr : ∀ j, br j ≤ 24) (hcci0 : cci0 ≤ 4) (hrzi0 : rzi0 ≤ 24) (hbi0 : ∀ j, bri0 j ≤ 24) (hcci1 : cci1 ≤ 4) (hrzi1 : rzi1 ≤ 24) (hbi1 : ∀ j, bri1 j ≤ 24) : CWi l D k st lo yX7_keep cX7_keep 2 (some .int) ({ frames := 2, cells := 0, slots := 0, locals := 81 }) 0 0 [.ref (a 0), .int pz] [((a 0), .inr (7, (fX7 (a 1) (a 3) (a 19) (a 35) (a 40) (nI rk) lfa (a 53) (a 56) (a 63) (a 64) (a 68)))), ((a 53), .inr (4, (fX4 (a 54) (a 55) (nI cc) (nI rz) ro sd))), (aI k (a 54) 4 wk), (aI k (a 55) 4 (nF br)), ((a 56), .inl (k 6, 2, .inr (.inr (.inr (.inr (a2 (a 57) (a 60))))))), ((a 57), .inr (4, (fX4 (a 58) (a 59) (nI cci0) (nI rzi0) roi0 sdi0))), (aI k (a 58) 4 wki0), (aI k (a 59) 4 (nF bri0)), ((a 60), .inr (4, (fX4 (a 61) (a 62) (nI cci1) (nI rzi1) roi1 sdi1))), (aI k (a 61) 4 wki1), (aI k (a 62) 4 (nF bri1)), (aZ k (a 63) 2 fk)] (fun (r : Int32) (u : Nat × Nat × Int32 × Int32 × (Nat → Int32) × (Nat → Nat) × Nat × Nat × Int32 × Int32 × (Nat → Int32) × (Nat → Nat) × (Nat → Int32)) => match u with | (cci0_, rzi0_, roi0_, sdi0_, wki0_, bri0_, cci1_, rzi1_, roi1_, sdi1_, wki1_, bri1_, fk_) => cci0_ ≤ 4 ∧ rzi0_ ≤ 24 ∧ (∀ j, bri0_ j ≤ 24) ∧ cci1_ ≤ 4 ∧ rzi1_ ≤ 24 ∧ (∀ j, bri1_ j ≤ 24) ∧ kpN pz 0 (fk 0) (fk_ 0) rzi0 cci0 rzi0_ cci0_ rz cc ∧ kpN pz 1 (fk 1) (fk_ 1) rzi1 cci1 rzi1_ cci1_ rz cc ∧ (inB pz 0 1 → r = 1) ∧ (¬ inB pz 0 1 → r = -1001) ∧ kpX pz 0 roi0 sdi0 wki0 roi0_ sdi0_ wki0_ ro sd wk ∧ kpX pz 1 roi1 sdi1 wki1 roi1_ sdi1_ wki1_ ro sd wk) (fun (u : Nat × Nat × Int32 × Int32 × (Nat → Int32) × (Nat → Nat) × Nat × Nat × Int32 × Int32 × (Nat → Int32) × (Nat → Nat) × (Nat → Int32)) => match u with | (cci0_, rzi0_, roi0_, sdi0_, wki0_, bri0_, cci1_, rzi1_, roi1_, sdi1_, wki1_, bri1_, fk_) => [((a 0), .inr (7, (fX7 (a 1) (a 3) (a 19) (a 35) (a 40) (nI rk) lfa (a 53) (a 56) (a 63) (a 64) (a 68)))), ((a 53), .inr (4, (fX4 (a 54) (a 55) (nI cc) (nI rz) ro sd))), (aI k (a 54) 4 wk), (aI k (a 55) 4 (nF br)), ((a 56), .inl (k 6, 2, .inr (.inr (.inr (.inr (a2 (a 57) (a 60))))))), ((a 57), .inr (4, (fX4 (a 58) (a 59) (nI cci0_) (nI rzi0_) roi0_ sdi0_))), (aI k (a 58) 4 wki0_), (aI k (a 59) 4 (nF bri0_)), ((a 60), .inr (4, (fX4 (a 61) (a 62) (nI cci1_) (nI rzi1_) roi1_ sdi1_))), (aI k (a 61) 4 wki1_), (aI k (a 62) 4 (nF bri1_)), (aZ k (a 63) 2 fk_)]) := by
  intro sz
  refine Met.ofW (cc := cX7_keep) (maxL := 2) (ret := (some .int)) (by decide) rfl ?_
  intro p e s m args below meth c s₁ B hml hv
  obtain ⟨rfl, hsz, hlo, hP, hK, hDL, hZ⟩ := hv
  have hx := B.exec
  have hb := B.bytes
  have hr := B.returns
  have hts := WS_ts B.pre
  have hown : s.vm.findClass RX7 = some m.cls := findClass_of_methodNamed B.named
  have hlocks := B.notSynchronized
  subst hsz
  have hD := hDL.self (sz := s.heap.size)
  have hAlo := A_lo hDL hlo
  generalize hAe : va_A [((a 0), .inr (7, (fX7 (a 1) (a 3) (a 19) (a 35) (a 40) (nI rk) lfa (a 53) (a 56) (a 63) (a 64) (a 68)))), ((a 53), .inr (4, (fX4 (a 54) (a 55) (nI cc) (nI rz) ro sd))), (aI k (a 54) 4 wk), (aI k (a 55) 4 (nF br)), ((a 56), .inl (k 6, 2, .inr (.inr (.inr (.inr (a2 (a 57) (a 60))))))), ((a 57), .inr (4, (fX4 (a 58) (a 59) (nI cci0) (nI rzi0) roi0 sdi0))), (aI k (a 58) 4 wki0), (aI k (a 59) 4 (nF bri0)), ((a 60), .inr (4, (fX4 (a 61) (a 62) (nI cci1) (nI rzi1) roi1 sdi1))), (aI k (a 61) 4 wki1), (aI k (a 62) 4 (nF bri1)), (aZ k (a 63) 2 fk)] s.heap.size = A at hD hAlo ⊢
  have hA : ∀ q : Nat, s.heap.size ≤ q → A q := fun q h => by rw [← hAe]; exact Or.inr h
  have hS : va_S A s.heap s.heap [] := va_S.rf
  have hl := lv_entry ([.ref (a 0), .int pz]) (n := 2) (Nat.le_of_ble_eq_true rfl)
  rw [lg_entry_eq]
  generalize (lg_sl ([.ref (a 0), .int pz]) ++ List.replicate (2 - (lg_sl ([.ref (a 0), .int pz])).length) Slot.unset).toArray = ls at hl ⊢
  have hl : lv_has ls 2 [(0, .ref (a 0)), (1, .int pz)] := hl
  refine lv_iload_n hx hb dX7_keep_0 rfl (lv_at hl 1 rfl) ?_
  refine lv_iconst (v := 0) hx hb dX7_keep_1 (by decide) ?_
  refine lv_iconst (v := 1) hx hb dX7_keep_2 (by decide) ?_
  refine ro_i (D := D) (va_runS (As := [.int pz, .int 0, .int 1]) (rest := []) ⟨hx, hb, hml, hown, hts⟩ ((k_isIn l D k st lo pz 0 1) s.heap.size) (va_cwS 3 hts (gS tw_593 tw_594 tw_79 tw_595) rfl rfl rfl (by decide +kernel) ⟨Nat.le_of_ble_eq_true rfl, Nat.le_of_ble_eq_true rfl⟩) (pS hS hAlo hlo hP hK (va_Dlo hD hAlo) hZ [] (by decide) rfl) rfl rfl hl.1 rfl (lv_room (Nat.le_of_ble_eq_true rfl)) dX7_keep_3 ⟨Nat.le_of_ble_eq_true rfl, Nat.le_of_ble_eq_true rfl⟩) hS hA hP (fun r_1 H locs hw_1 hP hS => ?_)
  try dsimp only at hw_1
  rcases hw_1 with ⟨rfl, hw_1⟩ | ⟨rfl, hw_1⟩
  · refine lv_if_ne (tgt := 13) hx hb dX7_keep_6 (by decide) (fun _ => ?_) (fun h => absurd h (by decide))
    rcases spl2 hw_1 with rfl | rfl
    · refine lv_aload_n hx hb dX7_keep_13 rfl (lv_at hl 0 rfl) ?_
      refine va_get (D := D) (ci := 7) (v := .ref (a 56)) (C := RX7) (T := TX7) (N := 12) hx hb hts inX7 hown hK hP 0 rfl rfl 8 (by decide) (hts _ tw_313) (fun _ h9 => h9) rfl dX7_keep_14 ?_
      refine lv_iload_n hx hb dX7_keep_17 rfl (lv_at hl 1 rfl) ?_
      refine va_aldq hx hb hK hP 4 6 rfl rfl (by unfold vp_in; decide) dX7_keep_18 ?_
      refine lv_tr (y := .ref (a 57)) rfl ?_
      refine lv_aload_n hx hb dX7_keep_19 rfl (lv_at hl 0 rfl) ?_
      refine va_get (D := D) (ci := 7) (v := .ref (a 53)) (C := RX7) (T := TX7) (N := 12) hx hb hts inX7 hown hK hP 0 rfl rfl 7 (by decide) (hts _ tw_312) (fun _ h9 => h9) rfl dX7_keep_20 ?_
      refine rw_v (D := D) (wr := [((a 0), .inr (7, (fX7 (a 1) (a 3) (a 19) (a 35) (a 40) (nI rk) lfa (a 53) (a 56) (a 63) (a 64) (a 68)))), ((a 56), .inl (k 6, 2, .inr (.inr (.inr (.inr (a2 (a 57) (a 60))))))), ((a 60), .inr (4, (fX4 (a 61) (a 62) (nI cci1) (nI rzi1) roi1 sdi1))), (aI k (a 61) 4 wki1), (aI k (a 62) 4 (nF bri1)), (aZ k (a 63) 2 fk)]) (va_runV (As := [.ref (a 53)]) (rest := []) ⟨hx, hb, hml, hown, hts⟩ ((x_copyFrom3 l D k st lo (a 57) (a 58) (a 59) cci0 rzi0 roi0 sdi0 wki0 bri0 (a 53) (a 54) (a 55) cc rz ro sd wk br (by first | assumption | omega) (by first | assumption | omega) hbi0 hbr) H.size) (cwV 1 hts (gV tw_955 tw_956 tw_957 tw_82 tw_958) rfl rfl rfl (by decide +kernel) ⟨Nat.le_of_ble_eq_true rfl, Nat.le_of_ble_eq_true rfl⟩) (pV hS hAlo hlo hP hK (va_Dlo hD hAlo) hZ [5, 6, 7, 1, 2, 3] (by decide) rfl (ci := 4) (q := (RX4, TX4, 6)) (q0 := 0) rfl rfl) rfl rfl hl.1 rfl (lv_room (Nat.le_of_ble_eq_true rfl)) dX7_keep_23 ⟨Nat.le_of_ble_eq_true rfl, Nat.le_of_ble_eq_true rfl⟩) hS hA hP hD [5, 6, 7, 1, 2, 3] [0, 4, 8, 9, 10, 11] rfl rfl (by decide +kernel) (by decide +kernel) (fun u H locs hw_2 hP hD hS => ?_)
      obtain ⟨cc__2, rz__2, ro__2, sd__2, wk__2, br__2⟩ := u
      have hQ9 := pd_mk [((a 0), .inr (7, (fX7 (a 1) (a 3) (a 19) (a 35) (a 40) (nI rk) lfa (a 53) (a 56) (a 63) (a 64) (a 68)))), ((a 56), .inl (k 6, 2, .inr (.inr (.inr (.inr (a2 (a 57) (a 60))))))), ((a 60), .inr (4, (fX4 (a 61) (a 62) (nI cci1) (nI rzi1) roi1 sdi1))), (aI k (a 61) 4 wki1), (aI k (a 62) 4 (nF bri1)), (aZ k (a 63) 2 fk), ((a 57), .inr (4, (fX4 (a 58) (a 59) (nI cc__2) (nI rz__2) ro__2 sd__2))), (aI k (a 58) 4 wk__2), (aI k (a 59) 4 (nF br__2)), ((a 53), .inr (4, (fX4 (a 54) (a 55) (nI cc) (nI rz) ro sd))), (aI k (a 54) 4 wk), (aI k (a 55) 4 (nF br))] hP hD
      clear hP hD
      obtain ⟨hP, hD⟩ := hQ9
      try dsimp only at hw_2
      obtain ⟨rfl, rfl, hbq_3, rfl, rfl, hw_2⟩ := hw_2
      refine lv_aload_n hx hb dX7_keep_26 rfl (lv_at hl 0 rfl) ?_
      refine va_get (D := D) (ci := 7) (v := .ref (a 63)) (C := RX7) (T := TX7) (N := 12) hx hb hts inX7 hown hK hP 0 rfl rfl 9 (by decide) (hts _ tw_314) (fun _ h9 => h9) rfl dX7_keep_27 ?_
      refine lv_iload_n hx hb dX7_keep_30 rfl (lv_at hl 1 rfl) ?_
      refine lv_iconst (v := 1) hx hb dX7_keep_31 (by decide) ?_
      refine va_zast hx hb hK hP hD hS 5 2 rfl rfl (by unfold vp_in; decide) dX7_keep_32 (fun H locs hP hD hS => ?_)
      have hQ9 := pd_mk [((a 0), .inr (7, (fX7 (a 1) (a 3) (a 19) (a 35) (a 40) (nI rk) lfa (a 53) (a 56) (a 63) (a 64) (a 68)))), ((a 56), .inl (k 6, 2, .inr (.inr (.inr (.inr (a2 (a 57) (a 60))))))), ((a 60), .inr (4, (fX4 (a 61) (a 62) (nI cci1) (nI rzi1) roi1 sdi1))), (aI k (a 61) 4 wki1), (aI k (a 62) 4 (nF bri1)), (aZ k (a 63) 2 (upd fk (Int32.toNatClampNeg 0) (vp_nar .boolean 1))), ((a 57), .inr (4, (fX4 (a 58) (a 59) (nI cc) (nI rz) ro sd))), (aI k (a 58) 4 wk__2), (aI k (a 59) 4 (nF br__2)), ((a 53), .inr (4, (fX4 (a 54) (a 55) (nI cc) (nI rz) ro sd))), (aI k (a 54) 4 wk), (aI k (a 55) 4 (nF br))] hP hD
      clear hP hD
      obtain ⟨hP, hD⟩ := hQ9
      have hQ9 := pd_mk [((a 0), .inr (7, (fX7 (a 1) (a 3) (a 19) (a 35) (a 40) (nI rk) lfa (a 53) (a 56) (a 63) (a 64) (a 68)))), ((a 56), .inl (k 6, 2, .inr (.inr (.inr (.inr (a2 (a 57) (a 60))))))), ((a 60), .inr (4, (fX4 (a 61) (a 62) (nI cci1) (nI rzi1) roi1 sdi1))), (aI k (a 61) 4 wki1), (aI k (a 62) 4 (nF bri1)), (aZ k (a 63) 2 (upd fk 0 1)), ((a 57), .inr (4, (fX4 (a 58) (a 59) (nI cc) (nI rz) ro sd))), (aI k (a 58) 4 wk__2), (aI k (a 59) 4 (nF br__2)), ((a 53), .inr (4, (fX4 (a 54) (a 55) (nI cc) (nI rz) ro sd))), (aI k (a 54) 4 wk), (aI k (a 55) 4 (nF br))] hP hD
      clear hP hD
      obtain ⟨hP, hD⟩ := hQ9
      refine lv_iconst (v := 1) hx hb dX7_keep_33 (by decide) ?_
      obtain ⟨hP9, hD9⟩ := pd_sub [((a 0), .inr (7, (fX7 (a 1) (a 3) (a 19) (a 35) (a 40) (nI rk) lfa (a 53) (a 56) (a 63) (a 64) (a 68)))), ((a 53), .inr (4, (fX4 (a 54) (a 55) (nI cc) (nI rz) ro sd))), (aI k (a 54) 4 wk), (aI k (a 55) 4 (nF br)), ((a 56), .inl (k 6, 2, .inr (.inr (.inr (.inr (a2 (a 57) (a 60))))))), ((a 57), .inr (4, (fX4 (a 58) (a 59) (nI cc) (nI rz) ro sd))), (aI k (a 58) 4 wk__2), (aI k (a 59) 4 (nF br__2)), ((a 60), .inr (4, (fX4 (a 61) (a 62) (nI cci1) (nI rzi1) roi1 sdi1))), (aI k (a 61) 4 wki1), (aI k (a 62) 4 (nF bri1)), (aZ k (a 63) 2 (upd fk 0 1))] [0, 9, 10, 11, 1, 6, 7, 8, 2, 3, 4, 5] hP hD (by decide +kernel) rfl
      exact W.iret (v := 1) hx hb hr (fun t ht hW => ⟨⟨1, (cc, rz, ro, sd, wk__2, br__2, cci1, rzi1, roi1, sdi1, wki1, bri1, (upd fk 0 1)), rfl, ⟨by omega, by omega, hbq_3, by omega, by omega, hbi1, ⟨fun _ => ⟨by rfl, rfl, rfl⟩, fun h => absurd rfl h⟩, ⟨fun h => absurd h (by decide), fun _ => ⟨by rfl, rfl, rfl⟩⟩, fun _ => rfl, fun h => absurd hw_1 h, ⟨fun _ => ⟨rfl, rfl, hw_2⟩, fun h => absurd rfl h⟩, ⟨fun h => absurd h (by decide), fun _ => ⟨rfl, rfl, fun _ _ => rfl⟩⟩⟩, by rw [ht]; exact hP9, hD9⟩, hS.F ht⟩) hS.2.2 dX7_keep_34
    · refine lv_aload_n hx hb dX7_keep_13 rfl (lv_at hl 0 rfl) ?_
      refine va_get (D := D) (ci := 7) (v := .ref (a 56)) (C := RX7) (T := TX7) (N := 12) hx hb hts inX7 hown hK hP 0 rfl rfl 8 (by decide) (hts _ tw_313) (fun _ h9 => h9) rfl dX7_keep_14 ?_
      refine lv_iload_n hx hb dX7_keep_17 rfl (lv_at hl 1 rfl) ?_
      refine va_aldq hx hb hK hP 4 6 rfl rfl (by unfold vp_in; decide) dX7_keep_18 ?_
      refine lv_tr (y := .ref (a 60)) rfl ?_
      refine lv_aload_n hx hb dX7_keep_19 rfl (lv_at hl 0 rfl) ?_
      refine va_get (D := D) (ci := 7) (v := .ref (a 53)) (C := RX7) (T := TX7) (N := 12) hx hb hts inX7 hown hK hP 0 rfl rfl 7 (by decide) (hts _ tw_312) (fun _ h9 => h9) rfl dX7_keep_20 ?_
      refine rw_v (D := D) (wr := [((a 0), .inr (7, (fX7 (a 1) (a 3) (a 19) (a 35) (a 40) (nI rk) lfa (a 53) (a 56) (a 63) (a 64) (a 68)))), ((a 56), .inl (k 6, 2, .inr (.inr (.inr (.inr (a2 (a 57) (a 60))))))), ((a 57), .inr (4, (fX4 (a 58) (a 59) (nI cci0) (nI rzi0) roi0 sdi0))), (aI k (a 58) 4 wki0), (aI k (a 59) 4 (nF bri0)), (aZ k (a 63) 2 fk)]) (va_runV (As := [.ref (a 53)]) (rest := []) ⟨hx, hb, hml, hown, hts⟩ ((x_copyFrom3 l D k st lo (a 60) (a 61) (a 62) cci1 rzi1 roi1 sdi1 wki1 bri1 (a 53) (a 54) (a 55) cc rz ro sd wk br (by first | assumption | omega) (by first | assumption | omega) hbi1 hbr) H.size) (cwV 1 hts (gV tw_955 tw_956 tw_957 tw_82 tw_958) rfl rfl rfl (by decide +kernel) ⟨Nat.le_of_ble_eq_true rfl, Nat.le_of_ble_eq_true rfl⟩) (pV hS hAlo hlo hP hK (va_Dlo hD hAlo) hZ [8, 9, 10, 1, 2, 3] (by decide) rfl (ci := 4) (q := (RX4, TX4, 6)) (q0 := 0) rfl rfl) rfl rfl hl.1 rfl (lv_room (Nat.le_of_ble_eq_true rfl)) dX7_keep_23 ⟨Nat.le_of_ble_eq_true rfl, Nat.le_of_ble_eq_true rfl⟩) hS hA hP hD [8, 9, 10, 1, 2, 3] [0, 4, 5, 6, 7, 11] rfl rfl (by decide +kernel) (by decide +kernel) (fun u H locs hw_5 hP hD hS => ?_)
      obtain ⟨cc__5, rz__5, ro__5, sd__5, wk__5, br__5⟩ := u
      have hQ9 := pd_mk [((a 0), .inr (7, (fX7 (a 1) (a 3) (a 19) (a 35) (a 40) (nI rk) lfa (a 53) (a 56) (a 63) (a 64) (a 68)))), ((a 56), .inl (k 6, 2, .inr (.inr (.inr (.inr (a2 (a 57) (a 60))))))), ((a 57), .inr (4, (fX4 (a 58) (a 59) (nI cci0) (nI rzi0) roi0 sdi0))), (aI k (a 58) 4 wki0), (aI k (a 59) 4 (nF bri0)), (aZ k (a 63) 2 fk), ((a 60), .inr (4, (fX4 (a 61) (a 62) (nI cc__5) (nI rz__5) ro__5 sd__5))), (aI k (a 61) 4 wk__5), (aI k (a 62) 4 (nF br__5)), ((a 53), .inr (4, (fX4 (a 54) (a 55) (nI cc) (nI rz) ro sd))), (aI k (a 54) 4 wk), (aI k (a 55) 4 (nF br))] hP hD
      clear hP hD
      obtain ⟨hP, hD⟩ := hQ9
      try dsimp only at hw_5
      obtain ⟨rfl, rfl, hbq_6, rfl, rfl, hw_5⟩ := hw_5
      refine lv_aload_n hx hb dX7_keep_26 rfl (lv_at hl 0 rfl) ?_
      refine va_get (D := D) (ci := 7) (v := .ref (a 63)) (C := RX7) (T := TX7) (N := 12) hx hb hts inX7 hown hK hP 0 rfl rfl 9 (by decide) (hts _ tw_314) (fun _ h9 => h9) rfl dX7_keep_27 ?_
      refine lv_iload_n hx hb dX7_keep_30 rfl (lv_at hl 1 rfl) ?_
      refine lv_iconst (v := 1) hx hb dX7_keep_31 (by decide) ?_
      refine va_zast hx hb hK hP hD hS 5 2 rfl rfl (by unfold vp_in; decide) dX7_keep_32 (fun H locs hP hD hS => ?_)
      have hQ9 := pd_mk [((a 0), .inr (7, (fX7 (a 1) (a 3) (a 19) (a 35) (a 40) (nI rk) lfa (a 53) (a 56) (a 63) (a 64) (a 68)))), ((a 56), .inl (k 6, 2, .inr (.inr (.inr (.inr (a2 (a 57) (a 60))))))), ((a 57), .inr (4, (fX4 (a 58) (a 59) (nI cci0) (nI rzi0) roi0 sdi0))), (aI k (a 58) 4 wki0), (aI k (a 59) 4 (nF bri0)), (aZ k (a 63) 2 (upd fk (Int32.toNatClampNeg 1) (vp_nar .boolean 1))), ((a 60), .inr (4, (fX4 (a 61) (a 62) (nI cc) (nI rz) ro sd))), (aI k (a 61) 4 wk__5), (aI k (a 62) 4 (nF br__5)), ((a 53), .inr (4, (fX4 (a 54) (a 55) (nI cc) (nI rz) ro sd))), (aI k (a 54) 4 wk), (aI k (a 55) 4 (nF br))] hP hD
      clear hP hD
      obtain ⟨hP, hD⟩ := hQ9
      have hQ9 := pd_mk [((a 0), .inr (7, (fX7 (a 1) (a 3) (a 19) (a 35) (a 40) (nI rk) lfa (a 53) (a 56) (a 63) (a 64) (a 68)))), ((a 56), .inl (k 6, 2, .inr (.inr (.inr (.inr (a2 (a 57) (a 60))))))), ((a 57), .inr (4, (fX4 (a 58) (a 59) (nI cci0) (nI rzi0) roi0 sdi0))), (aI k (a 58) 4 wki0), (aI k (a 59) 4 (nF bri0)), (aZ k (a 63) 2 (upd fk 1 1)), ((a 60), .inr (4, (fX4 (a 61) (a 62) (nI cc) (nI rz) ro sd))), (aI k (a 61) 4 wk__5), (aI k (a 62) 4 (nF br__5)), ((a 53), .inr (4, (fX4 (a 54) (a 55) (nI cc) (nI rz) ro sd))), (aI k (a 54) 4 wk), (aI k (a 55) 4 (nF br))] hP hD
      clear hP hD
      obtain ⟨hP, hD⟩ := hQ9
      refine lv_iconst (v := 1) hx hb dX7_keep_33 (by decide) ?_
      obtain ⟨hP9, hD9⟩ := pd_sub [((a 0), .inr (7, (fX7 (a 1) (a 3) (a 19) (a 35) (a 40) (nI rk) lfa (a 53) (a 56) (a 63) (a 64) (a 68)))), ((a 53), .inr (4, (fX4 (a 54) (a 55) (nI cc) (nI rz) ro sd))), (aI k (a 54) 4 wk), (aI k (a 55) 4 (nF br)), ((a 56), .inl (k 6, 2, .inr (.inr (.inr (.inr (a2 (a 57) (a 60))))))), ((a 57), .inr (4, (fX4 (a 58) (a 59) (nI cci0) (nI rzi0) roi0 sdi0))), (aI k (a 58) 4 wki0), (aI k (a 59) 4 (nF bri0)), ((a 60), .inr (4, (fX4 (a 61) (a 62) (nI cc) (nI rz) ro sd))), (aI k (a 61) 4 wk__5), (aI k (a 62) 4 (nF br__5)), (aZ k (a 63) 2 (upd fk 1 1))] [0, 9, 10, 11, 1, 2, 3, 4, 6, 7, 8, 5] hP hD (by decide +kernel) rfl
      exact W.iret (v := 1) hx hb hr (fun t ht hW => ⟨⟨1, (cci0, rzi0, roi0, sdi0, wki0, bri0, cc, rz, ro, sd, wk__5, br__5, (upd fk 1 1)), rfl, ⟨by omega, by omega, hbi0, by omega, by omega, hbq_6, ⟨fun h => absurd h (by decide), fun _ => ⟨by rfl, rfl, rfl⟩⟩, ⟨fun _ => ⟨by rfl, rfl, rfl⟩, fun h => absurd rfl h⟩, fun _ => rfl, fun h => absurd hw_1 h, ⟨fun h => absurd h (by decide), fun _ => ⟨rfl, rfl, fun _ _ => rfl⟩⟩, ⟨fun _ => ⟨rfl, rfl, hw_5⟩, fun h => absurd rfl h⟩⟩, by rw [ht]; exact hP9, hD9⟩, hS.F ht⟩) hS.2.2 dX7_keep_34
  · refine lv_if_ne (tgt := 13) hx hb dX7_keep_6 (by decide) (fun h => absurd (by decide) h) (fun _ => ?_)
    refine lv_sipush (v := (-1001)) hx hb dX7_keep_9 (by decide) ?_
    obtain ⟨hP9, hD9⟩ := pd_sub [((a 0), .inr (7, (fX7 (a 1) (a 3) (a 19) (a 35) (a 40) (nI rk) lfa (a 53) (a 56) (a 63) (a 64) (a 68)))), ((a 53), .inr (4, (fX4 (a 54) (a 55) (nI cc) (nI rz) ro sd))), (aI k (a 54) 4 wk), (aI k (a 55) 4 (nF br)), ((a 56), .inl (k 6, 2, .inr (.inr (.inr (.inr (a2 (a 57) (a 60))))))), ((a 57), .inr (4, (fX4 (a 58) (a 59) (nI cci0) (nI rzi0) roi0 sdi0))), (aI k (a 58) 4 wki0), (aI k (a 59) 4 (nF bri0)), ((a 60), .inr (4, (fX4 (a 61) (a 62) (nI cci1) (nI rzi1) roi1 sdi1))), (aI k (a 61) 4 wki1), (aI k (a 62) 4 (nF bri1)), (aZ k (a 63) 2 fk)] [0, 1, 2, 3, 4, 5, 6, 7, 8, 9, 10, 11] hP hD (by decide +kernel) rfl
    exact W.iret (v := (-1001)) hx hb hr (fun t ht hW => ⟨⟨(-1001), (cci0, rzi0, roi0, sdi0, wki0, bri0, cci1, rzi1, roi1, sdi1, wki1, bri1, fk), rfl, ⟨by omega, by omega, hbi0, by omega, by omega, hbi1, ⟨fun h => absurd h (no_in hw_1).1, fun _ => ⟨rfl, rfl, rfl⟩⟩, ⟨fun h => absurd h (no_in hw_1).2, fun _ => ⟨rfl, rfl, rfl⟩⟩, fun h => absurd h hw_1, fun _ => rfl, ⟨fun h => absurd h (no_in hw_1).1, fun _ => ⟨rfl, rfl, fun _ _ => rfl⟩⟩, ⟨fun h => absurd h (no_in hw_1).2, fun _ => ⟨rfl, rfl, fun _ _ => rfl⟩⟩⟩, by rw [ht]; exact hP9, hD9⟩, hS.F ht⟩) hS.2.2 dX7_keep_12


set_option maxHeartbeats 4000000 in
set_option maxRecDepth 100000 in
theorem x_goBack3 (l : Launch) (D : va_G) (k : Nat → ClassId) (st : Nat → Nat) (lo : Nat) (a : Nat → Nat) (rk : Nat) (lfa : Int32) (cc : Nat) (rz : Nat) (ro : Int32) (sd : Int32) (wk : Nat → Int32) (br : Nat → Nat) (cci0 : Nat) (rzi0 : Nat) (roi0 : Int32) (sdi0 : Int32) (wki0 : Nat → Int32) (bri0 : Nat → Nat) (cci1 : Nat) (rzi1 : Nat) (roi1 : Int32) (sdi1 : Int32) (wki1 : Nat → Int32) (bri1 : Nat → Nat) (fk : Nat → Int32) (pz : Int32) (hcc : cc ≤ 4) (hrz : rz ≤ 24) (hbr : ∀ j, br j ≤ 24) (hcci0 : cci0 ≤ 4) (hrzi0 : rzi0 ≤ 24) (hbi0 : ∀ j, bri0 j ≤ 24) (hcci1 : cci1 ≤ 4) (hrzi1 : rzi1 ≤ 24) (hbi1 : ∀ j, bri1 j ≤ 24) : CWi l D k st lo yX7_goBack cX7_goBack 2 (some .int) ({ frames := 2, cells := 0, slots := 0, locals := 81 }) 0 0 [.ref (a 0), .int pz] [((a 0), .inr (7, (fX7 (a 1) (a 3) (a 19) (a 35) (a 40) (nI rk) lfa (a 53) (a 56) (a 63) (a 64) (a 68)))), ((a 53), .inr (4, (fX4 (a 54) (a 55) (nI cc) (nI rz) ro sd))), (aI k (a 54) 4 wk), (aI k (a 55) 4 (nF br)), ((a 56), .inl (k 6, 2, .inr (.inr (.inr (.inr (a2 (a 57) (a 60))))))), ((a 57), .inr (4, (fX4 (a 58) (a 59) (nI cci0) (nI rzi0) roi0 sdi0))), (aI k (a 58) 4 wki0), (aI k (a 59) 4 (nF bri0)), ((a 60), .inr (4, (fX4 (a 61) (a 62) (nI cci1) (nI rzi1) roi1 sdi1))), (aI k (a 61) 4 wki1), (aI k (a 62) 4 (nF bri1)), (aZ k (a 63) 2 fk)] (fun (r : Int32) (u : Nat × Nat × Int32 × Int32 × (Nat → Int32) × (Nat → Nat)) => match u with | (cc_, rz_, ro_, sd_, wk_, br_) => gbP pz (fk 0) (fk 1) rzi0 rzi1 rz r rz_ ∧ gbP pz (fk 0) (fk 1) cci0 cci1 cc r cc_ ∧ cc_ ≤ 4 ∧ rz_ ≤ 24 ∧ (∀ j, br_ j ≤ 24) ∧ gbX pz (fk 0) (fk 1) (roi0, sdi0, wki0) (roi1, sdi1, wki1) (ro, sd, wk) (ro_, sd_, wk_)) (fun (u : Nat × Nat × Int32 × Int32 × (Nat → Int32) × (Nat → Nat)) => match u with | (cc_, rz_, ro_, sd_, wk_, br_) => [((a 0), .inr (7, (fX7 (a 1) (a 3) (a 19) (a 35) (a 40) (nI rk) lfa (a 53) (a 56) (a 63) (a 64) (a 68)))), ((a 53), .inr (4, (fX4 (a 54) (a 55) (nI cc_) (nI rz_) ro_ sd_))), (aI k (a 54) 4 wk_), (aI k (a 55) 4 (nF br_)), ((a 56), .inl (k 6, 2, .inr (.inr (.inr (.inr (a2 (a 57) (a 60))))))), ((a 57), .inr (4, (fX4 (a 58) (a 59) (nI cci0) (nI rzi0) roi0 sdi0))), (aI k (a 58) 4 wki0), (aI k (a 59) 4 (nF bri0)), ((a 60), .inr (4, (fX4 (a 61) (a 62) (nI cci1) (nI rzi1) roi1 sdi1))), (aI k (a 61) 4 wki1), (aI k (a 62) 4 (nF bri1)), (aZ k (a 63) 2 fk)]) := by
  intro sz
  refine Met.ofW (cc := cX7_goBack) (maxL := 2) (ret := (some .int)) (by decide) rfl ?_
  intro p e s m args below meth c s₁ B hml hv
  obtain ⟨rfl, hsz, hlo, hP, hK, hDL, hZ⟩ := hv
  have hx := B.exec
  have hb := B.bytes
  have hr := B.returns
  have hts := WS_ts B.pre
  have hown : s.vm.findClass RX7 = some m.cls := findClass_of_methodNamed B.named
  have hlocks := B.notSynchronized
  subst hsz
  have hD := hDL.self (sz := s.heap.size)
  have hAlo := A_lo hDL hlo
  generalize hAe : va_A [((a 0), .inr (7, (fX7 (a 1) (a 3) (a 19) (a 35) (a 40) (nI rk) lfa (a 53) (a 56) (a 63) (a 64) (a 68)))), ((a 53), .inr (4, (fX4 (a 54) (a 55) (nI cc) (nI rz) ro sd))), (aI k (a 54) 4 wk), (aI k (a 55) 4 (nF br)), ((a 56), .inl (k 6, 2, .inr (.inr (.inr (.inr (a2 (a 57) (a 60))))))), ((a 57), .inr (4, (fX4 (a 58) (a 59) (nI cci0) (nI rzi0) roi0 sdi0))), (aI k (a 58) 4 wki0), (aI k (a 59) 4 (nF bri0)), ((a 60), .inr (4, (fX4 (a 61) (a 62) (nI cci1) (nI rzi1) roi1 sdi1))), (aI k (a 61) 4 wki1), (aI k (a 62) 4 (nF bri1)), (aZ k (a 63) 2 fk)] s.heap.size = A at hD hAlo ⊢
  have hA : ∀ q : Nat, s.heap.size ≤ q → A q := fun q h => by rw [← hAe]; exact Or.inr h
  have hS : va_S A s.heap s.heap [] := va_S.rf
  have hl := lv_entry ([.ref (a 0), .int pz]) (n := 2) (Nat.le_of_ble_eq_true rfl)
  rw [lg_entry_eq]
  generalize (lg_sl ([.ref (a 0), .int pz]) ++ List.replicate (2 - (lg_sl ([.ref (a 0), .int pz])).length) Slot.unset).toArray = ls at hl ⊢
  have hl : lv_has ls 2 [(0, .ref (a 0)), (1, .int pz)] := hl
  refine lv_iload_n hx hb dX7_goBack_0 rfl (lv_at hl 1 rfl) ?_
  refine lv_iconst (v := 0) hx hb dX7_goBack_1 (by decide) ?_
  refine lv_iconst (v := 1) hx hb dX7_goBack_2 (by decide) ?_
  refine ro_i (D := D) (va_runS (As := [.int pz, .int 0, .int 1]) (rest := []) ⟨hx, hb, hml, hown, hts⟩ ((k_isIn l D k st lo pz 0 1) s.heap.size) (va_cwS 3 hts (gS tw_593 tw_594 tw_79 tw_595) rfl rfl rfl (by decide +kernel) ⟨Nat.le_of_ble_eq_true rfl, Nat.le_of_ble_eq_true rfl⟩) (pS hS hAlo hlo hP hK (va_Dlo hD hAlo) hZ [] (by decide) rfl) rfl rfl hl.1 rfl (lv_room (Nat.le_of_ble_eq_true rfl)) dX7_goBack_3 ⟨Nat.le_of_ble_eq_true rfl, Nat.le_of_ble_eq_true rfl⟩) hS hA hP (fun r_1 H locs hw_1 hP hS => ?_)
  try dsimp only at hw_1
  rcases hw_1 with ⟨rfl, hw_1⟩ | ⟨rfl, hw_1⟩
  · refine lv_if_ne (tgt := 13) hx hb dX7_goBack_6 (by decide) (fun _ => ?_) (fun h => absurd h (by decide))
    rcases spl2 hw_1 with rfl | rfl
    · refine lv_aload_n hx hb dX7_goBack_13 rfl (lv_at hl 0 rfl) ?_
      refine va_get (D := D) (ci := 7) (v := .ref (a 63)) (C := RX7) (T := TX7) (N := 12) hx hb hts inX7 hown hK hP 0 rfl rfl 9 (by decide) (hts _ tw_314) (fun _ h9 => h9) rfl dX7_goBack_14 ?_
      refine lv_iload_n hx hb dX7_goBack_17 rfl (lv_at hl 1 rfl) ?_
      refine va_zald hx hb hK hP 11 2 rfl rfl (by unfold vp_in; decide) dX7_goBack_18 ?_
      refine lv_ti (y := (fk 0)) (by rfl) ?_
      refine lv_if_ne (tgt := 26) hx hb dX7_goBack_19 (by decide) (fun c_2 => ?_) (fun c_2 => ?_)
      · refine lv_aload_n hx hb dX7_goBack_26 rfl (lv_at hl 0 rfl) ?_
        refine va_get (D := D) (ci := 7) (v := .ref (a 53)) (C := RX7) (T := TX7) (N := 12) hx hb hts inX7 hown hK hP 0 rfl rfl 7 (by decide) (hts _ tw_312) (fun _ h9 => h9) rfl dX7_goBack_27 ?_
        refine lv_aload_n hx hb dX7_goBack_30 rfl (lv_at hl 0 rfl) ?_
        refine va_get (D := D) (ci := 7) (v := .ref (a 56)) (C := RX7) (T := TX7) (N := 12) hx hb hts inX7 hown hK hP 0 rfl rfl 8 (by decide) (hts _ tw_313) (fun _ h9 => h9) rfl dX7_goBack_31 ?_
        refine lv_iload_n hx hb dX7_goBack_34 rfl (lv_at hl 1 rfl) ?_
        refine va_aldq hx hb hK hP 4 6 rfl rfl (by unfold vp_in; decide) dX7_goBack_35 ?_
        refine lv_tr (y := .ref (a 57)) rfl ?_
        refine rw_v (D := D) (wr := [((a 0), .inr (7, (fX7 (a 1) (a 3) (a 19) (a 35) (a 40) (nI rk) lfa (a 53) (a 56) (a 63) (a 64) (a 68)))), ((a 56), .inl (k 6, 2, .inr (.inr (.inr (.inr (a2 (a 57) (a 60))))))), ((a 60), .inr (4, (fX4 (a 61) (a 62) (nI cci1) (nI rzi1) roi1 sdi1))), (aI k (a 61) 4 wki1), (aI k (a 62) 4 (nF bri1)), (aZ k (a 63) 2 fk)]) (va_runV (As := [.ref (a 57)]) (rest := []) ⟨hx, hb, hml, hown, hts⟩ ((x_copyFrom3 l D k st lo (a 53) (a 54) (a 55) cc rz ro sd wk br (a 57) (a 58) (a 59) cci0 rzi0 roi0 sdi0 wki0 bri0 (by first | assumption | omega) (by first | assumption | omega) hbr hbi0) H.size) (cwV 1 hts (gV tw_955 tw_956 tw_957 tw_82 tw_958) rfl rfl rfl (by decide +kernel) ⟨Nat.le_of_ble_eq_true rfl, Nat.le_of_ble_eq_true rfl⟩) (pV hS hAlo hlo hP hK (va_Dlo hD hAlo) hZ [1, 2, 3, 5, 6, 7] (by decide) rfl (ci := 4) (q := (RX4, TX4, 6)) (q0 := 0) rfl rfl) rfl rfl hl.1 rfl (lv_room (Nat.le_of_ble_eq_true rfl)) dX7_goBack_36 ⟨Nat.le_of_ble_eq_true rfl, Nat.le_of_ble_eq_true rfl⟩) hS hA hP hD [1, 2, 3, 5, 6, 7] [0, 4, 8, 9, 10, 11] rfl rfl (by decide +kernel) (by decide +kernel) (fun u H locs hw_3 hP hD hS => ?_)
        obtain ⟨cc__3, rz__3, ro__3, sd__3, wk__3, br__3⟩ := u
        have hQ9 := pd_mk [((a 0), .inr (7, (fX7 (a 1) (a 3) (a 19) (a 35) (a 40) (nI rk) lfa (a 53) (a 56) (a 63) (a 64) (a 68)))), ((a 56), .inl (k 6, 2, .inr (.inr (.inr (.inr (a2 (a 57) (a 60))))))), ((a 60), .inr (4, (fX4 (a 61) (a 62) (nI cci1) (nI rzi1) roi1 sdi1))), (aI k (a 61) 4 wki1), (aI k (a 62) 4 (nF bri1)), (aZ k (a 63) 2 fk), ((a 53), .inr (4, (fX4 (a 54) (a 55) (nI cc__3) (nI rz__3) ro__3 sd__3))), (aI k (a 54) 4 wk__3), (aI k (a 55) 4 (nF br__3)), ((a 57), .inr (4, (fX4 (a 58) (a 59) (nI cci0) (nI rzi0) roi0 sdi0))), (aI k (a 58) 4 wki0), (aI k (a 59) 4 (nF bri0))] hP hD
        clear hP hD
        obtain ⟨hP, hD⟩ := hQ9
        try dsimp only at hw_3
        obtain ⟨rfl, rfl, hbq_4, rfl, rfl, hw_3⟩ := hw_3
        refine lv_iconst (v := 1) hx hb dX7_goBack_39 (by decide) ?_
        obtain ⟨hP9, hD9⟩ := pd_sub [((a 0), .inr (7, (fX7 (a 1) (a 3) (a 19) (a 35) (a 40) (nI rk) lfa (a 53) (a 56) (a 63) (a 64) (a 68)))), ((a 53), .inr (4, (fX4 (a 54) (a 55) (nI cci0) (nI rzi0) roi0 sdi0))), (aI k (a 54) 4 wk__3), (aI k (a 55) 4 (nF br__3)), ((a 56), .inl (k 6, 2, .inr (.inr (.inr (.inr (a2 (a 57) (a 60))))))), ((a 57), .inr (4, (fX4 (a 58) (a 59) (nI cci0) (nI rzi0) roi0 sdi0))), (aI k (a 58) 4 wki0), (aI k (a 59) 4 (nF bri0)), ((a 60), .inr (4, (fX4 (a 61) (a 62) (nI cci1) (nI rzi1) roi1 sdi1))), (aI k (a 61) 4 wki1), (aI k (a 62) 4 (nF bri1)), (aZ k (a 63) 2 fk)] [0, 6, 7, 8, 1, 9, 10, 11, 2, 3, 4, 5] hP hD (by decide +kernel) rfl
        exact W.iret (v := 1) hx hb hr (fun t ht hW => ⟨⟨1, (cci0, rzi0, roi0, sdi0, wk__3, br__3), rfl, ⟨gb_k0 c_2 rfl, gb_k0 c_2 rfl, by omega, by omega, hbq_4, gx_k0 c_2 ⟨rfl, rfl, hw_3⟩⟩, by rw [ht]; exact hP9, hD9⟩, hS.F ht⟩) hS.2.2 dX7_goBack_40
      · refine lv_sipush (v := (-1003)) hx hb dX7_goBack_22 (by decide) ?_
        obtain ⟨hP9, hD9⟩ := pd_sub [((a 0), .inr (7, (fX7 (a 1) (a 3) (a 19) (a 35) (a 40) (nI rk) lfa (a 53) (a 56) (a 63) (a 64) (a 68)))), ((a 53), .inr (4, (fX4 (a 54) (a 55) (nI cc) (nI rz) ro sd))), (aI k (a 54) 4 wk), (aI k (a 55) 4 (nF br)), ((a 56), .inl (k 6, 2, .inr (.inr (.inr (.inr (a2 (a 57) (a 60))))))), ((a 57), .inr (4, (fX4 (a 58) (a 59) (nI cci0) (nI rzi0) roi0 sdi0))), (aI k (a 58) 4 wki0), (aI k (a 59) 4 (nF bri0)), ((a 60), .inr (4, (fX4 (a 61) (a 62) (nI cci1) (nI rzi1) roi1 sdi1))), (aI k (a 61) 4 wki1), (aI k (a 62) 4 (nF bri1)), (aZ k (a 63) 2 fk)] [0, 1, 2, 3, 4, 5, 6, 7, 8, 9, 10, 11] hP hD (by decide +kernel) rfl
        exact W.iret (v := (-1003)) hx hb hr (fun t ht hW => ⟨⟨(-1003), (cc, rz, ro, sd, wk, br), rfl, ⟨gb_n0 c_2, gb_n0 c_2, by omega, by omega, hbr, gx_n0 c_2⟩, by rw [ht]; exact hP9, hD9⟩, hS.F ht⟩) hS.2.2 dX7_goBack_25
    · refine lv_aload_n hx hb dX7_goBack_13 rfl (lv_at hl 0 rfl) ?_
      refine va_get (D := D) (ci := 7) (v := .ref (a 63)) (C := RX7) (T := TX7) (N := 12) hx hb hts inX7 hown hK hP 0 rfl rfl 9 (by decide) (hts _ tw_314) (fun _ h9 => h9) rfl dX7_goBack_14 ?_
      refine lv_iload_n hx hb dX7_goBack_17 rfl (lv_at hl 1 rfl) ?_
      refine va_zald hx hb hK hP 11 2 rfl rfl (by unfold vp_in; decide) dX7_goBack_18 ?_
      refine lv_ti (y := (fk 1)) (by rfl) ?_
      refine lv_if_ne (tgt := 26) hx hb dX7_goBack_19 (by decide) (fun c_5 => ?_) (fun c_5 => ?_)
      · refine lv_aload_n hx hb dX7_goBack_26 rfl (lv_at hl 0 rfl) ?_
        refine va_get (D := D) (ci := 7) (v := .ref (a 53)) (C := RX7) (T := TX7) (N := 12) hx hb hts inX7 hown hK hP 0 rfl rfl 7 (by decide) (hts _ tw_312) (fun _ h9 => h9) rfl dX7_goBack_27 ?_
        refine lv_aload_n hx hb dX7_goBack_30 rfl (lv_at hl 0 rfl) ?_
        refine va_get (D := D) (ci := 7) (v := .ref (a 56)) (C := RX7) (T := TX7) (N := 12) hx hb hts inX7 hown hK hP 0 rfl rfl 8 (by decide) (hts _ tw_313) (fun _ h9 => h9) rfl dX7_goBack_31 ?_
        refine lv_iload_n hx hb dX7_goBack_34 rfl (lv_at hl 1 rfl) ?_
        refine va_aldq hx hb hK hP 4 6 rfl rfl (by unfold vp_in; decide) dX7_goBack_35 ?_
        refine lv_tr (y := .ref (a 60)) rfl ?_
        refine rw_v (D := D) (wr := [((a 0), .inr (7, (fX7 (a 1) (a 3) (a 19) (a 35) (a 40) (nI rk) lfa (a 53) (a 56) (a 63) (a 64) (a 68)))), ((a 56), .inl (k 6, 2, .inr (.inr (.inr (.inr (a2 (a 57) (a 60))))))), ((a 57), .inr (4, (fX4 (a 58) (a 59) (nI cci0) (nI rzi0) roi0 sdi0))), (aI k (a 58) 4 wki0), (aI k (a 59) 4 (nF bri0)), (aZ k (a 63) 2 fk)]) (va_runV (As := [.ref (a 60)]) (rest := []) ⟨hx, hb, hml, hown, hts⟩ ((x_copyFrom3 l D k st lo (a 53) (a 54) (a 55) cc rz ro sd wk br (a 60) (a 61) (a 62) cci1 rzi1 roi1 sdi1 wki1 bri1 (by first | assumption | omega) (by first | assumption | omega) hbr hbi1) H.size) (cwV 1 hts (gV tw_955 tw_956 tw_957 tw_82 tw_958) rfl rfl rfl (by decide +kernel) ⟨Nat.le_of_ble_eq_true rfl, Nat.le_of_ble_eq_true rfl⟩) (pV hS hAlo hlo hP hK (va_Dlo hD hAlo) hZ [1, 2, 3, 8, 9, 10] (by decide) rfl (ci := 4) (q := (RX4, TX4, 6)) (q0 := 0) rfl rfl) rfl rfl hl.1 rfl (lv_room (Nat.le_of_ble_eq_true rfl)) dX7_goBack_36 ⟨Nat.le_of_ble_eq_true rfl, Nat.le_of_ble_eq_true rfl⟩) hS hA hP hD [1, 2, 3, 8, 9, 10] [0, 4, 5, 6, 7, 11] rfl rfl (by decide +kernel) (by decide +kernel) (fun u H locs hw_6 hP hD hS => ?_)
        obtain ⟨cc__6, rz__6, ro__6, sd__6, wk__6, br__6⟩ := u
        have hQ9 := pd_mk [((a 0), .inr (7, (fX7 (a 1) (a 3) (a 19) (a 35) (a 40) (nI rk) lfa (a 53) (a 56) (a 63) (a 64) (a 68)))), ((a 56), .inl (k 6, 2, .inr (.inr (.inr (.inr (a2 (a 57) (a 60))))))), ((a 57), .inr (4, (fX4 (a 58) (a 59) (nI cci0) (nI rzi0) roi0 sdi0))), (aI k (a 58) 4 wki0), (aI k (a 59) 4 (nF bri0)), (aZ k (a 63) 2 fk), ((a 53), .inr (4, (fX4 (a 54) (a 55) (nI cc__6) (nI rz__6) ro__6 sd__6))), (aI k (a 54) 4 wk__6), (aI k (a 55) 4 (nF br__6)), ((a 60), .inr (4, (fX4 (a 61) (a 62) (nI cci1) (nI rzi1) roi1 sdi1))), (aI k (a 61) 4 wki1), (aI k (a 62) 4 (nF bri1))] hP hD
        clear hP hD
        obtain ⟨hP, hD⟩ := hQ9
        try dsimp only at hw_6
        obtain ⟨rfl, rfl, hbq_7, rfl, rfl, hw_6⟩ := hw_6
        refine lv_iconst (v := 1) hx hb dX7_goBack_39 (by decide) ?_
        obtain ⟨hP9, hD9⟩ := pd_sub [((a 0), .inr (7, (fX7 (a 1) (a 3) (a 19) (a 35) (a 40) (nI rk) lfa (a 53) (a 56) (a 63) (a 64) (a 68)))), ((a 53), .inr (4, (fX4 (a 54) (a 55) (nI cci1) (nI rzi1) roi1 sdi1))), (aI k (a 54) 4 wk__6), (aI k (a 55) 4 (nF br__6)), ((a 56), .inl (k 6, 2, .inr (.inr (.inr (.inr (a2 (a 57) (a 60))))))), ((a 57), .inr (4, (fX4 (a 58) (a 59) (nI cci0) (nI rzi0) roi0 sdi0))), (aI k (a 58) 4 wki0), (aI k (a 59) 4 (nF bri0)), ((a 60), .inr (4, (fX4 (a 61) (a 62) (nI cci1) (nI rzi1) roi1 sdi1))), (aI k (a 61) 4 wki1), (aI k (a 62) 4 (nF bri1)), (aZ k (a 63) 2 fk)] [0, 6, 7, 8, 1, 2, 3, 4, 9, 10, 11, 5] hP hD (by decide +kernel) rfl
        exact W.iret (v := 1) hx hb hr (fun t ht hW => ⟨⟨1, (cci1, rzi1, roi1, sdi1, wk__6, br__6), rfl, ⟨gb_k1 c_5 rfl, gb_k1 c_5 rfl, by omega, by omega, hbq_7, gx_k1 c_5 ⟨rfl, rfl, hw_6⟩⟩, by rw [ht]; exact hP9, hD9⟩, hS.F ht⟩) hS.2.2 dX7_goBack_40
      · refine lv_sipush (v := (-1003)) hx hb dX7_goBack_22 (by decide) ?_
        obtain ⟨hP9, hD9⟩ := pd_sub [((a 0), .inr (7, (fX7 (a 1) (a 3) (a 19) (a 35) (a 40) (nI rk) lfa (a 53) (a 56) (a 63) (a 64) (a 68)))), ((a 53), .inr (4, (fX4 (a 54) (a 55) (nI cc) (nI rz) ro sd))), (aI k (a 54) 4 wk), (aI k (a 55) 4 (nF br)), ((a 56), .inl (k 6, 2, .inr (.inr (.inr (.inr (a2 (a 57) (a 60))))))), ((a 57), .inr (4, (fX4 (a 58) (a 59) (nI cci0) (nI rzi0) roi0 sdi0))), (aI k (a 58) 4 wki0), (aI k (a 59) 4 (nF bri0)), ((a 60), .inr (4, (fX4 (a 61) (a 62) (nI cci1) (nI rzi1) roi1 sdi1))), (aI k (a 61) 4 wki1), (aI k (a 62) 4 (nF bri1)), (aZ k (a 63) 2 fk)] [0, 1, 2, 3, 4, 5, 6, 7, 8, 9, 10, 11] hP hD (by decide +kernel) rfl
        exact W.iret (v := (-1003)) hx hb hr (fun t ht hW => ⟨⟨(-1003), (cc, rz, ro, sd, wk, br), rfl, ⟨gb_n1 c_5, gb_n1 c_5, by omega, by omega, hbr, gx_n1 c_5⟩, by rw [ht]; exact hP9, hD9⟩, hS.F ht⟩) hS.2.2 dX7_goBack_25
  · refine lv_if_ne (tgt := 13) hx hb dX7_goBack_6 (by decide) (fun h => absurd (by decide) h) (fun _ => ?_)
    refine lv_sipush (v := (-1001)) hx hb dX7_goBack_9 (by decide) ?_
    obtain ⟨hP9, hD9⟩ := pd_sub [((a 0), .inr (7, (fX7 (a 1) (a 3) (a 19) (a 35) (a 40) (nI rk) lfa (a 53) (a 56) (a 63) (a 64) (a 68)))), ((a 53), .inr (4, (fX4 (a 54) (a 55) (nI cc) (nI rz) ro sd))), (aI k (a 54) 4 wk), (aI k (a 55) 4 (nF br)), ((a 56), .inl (k 6, 2, .inr (.inr (.inr (.inr (a2 (a 57) (a 60))))))), ((a 57), .inr (4, (fX4 (a 58) (a 59) (nI cci0) (nI rzi0) roi0 sdi0))), (aI k (a 58) 4 wki0), (aI k (a 59) 4 (nF bri0)), ((a 60), .inr (4, (fX4 (a 61) (a 62) (nI cci1) (nI rzi1) roi1 sdi1))), (aI k (a 61) 4 wki1), (aI k (a 62) 4 (nF bri1)), (aZ k (a 63) 2 fk)] [0, 1, 2, 3, 4, 5, 6, 7, 8, 9, 10, 11] hP hD (by decide +kernel) rfl
    exact W.iret (v := (-1001)) hx hb hr (fun t ht hW => ⟨⟨(-1001), (cc, rz, ro, sd, wk, br), rfl, ⟨gb_out hw_1, gb_out hw_1, by omega, by omega, hbr, gx_out hw_1⟩, by rw [ht]; exact hP9, hD9⟩, hS.F ht⟩) hS.2.2 dX7_goBack_12


set_option maxHeartbeats 4000000 in
set_option maxRecDepth 100000 in
theorem y_seed (l : Launch) (D : va_G) (k : Nat → ClassId) (st : Nat → Nat) (lo : Nat) (a : Nat → Nat) (rk : Nat) (lfa : Int32) (cc : Nat) (rz : Nat) (ro : Int32) (sd : Int32) (p0 : Int32)  : CWi l D k st lo yX7_seed cX7_seed 3 (some .int) ({ frames := 0, cells := 0, slots := 0, locals := 0 }) 0 0 [.ref (a 0), .int p0] [((a 0), .inr (7, (fX7 (a 1) (a 3) (a 19) (a 35) (a 40) (nI rk) lfa (a 53) (a 56) (a 63) (a 64) (a 68)))), ((a 53), .inr (4, (fX4 (a 54) (a 55) (nI cc) (nI rz) ro sd)))] (fun (r : Int32) (sd_ : Int32) => sedP p0 sd r sd_) (fun (sd_ : Int32) => [((a 0), .inr (7, (fX7 (a 1) (a 3) (a 19) (a 35) (a 40) (nI rk) lfa (a 53) (a 56) (a 63) (a 64) (a 68)))), ((a 53), .inr (4, (fX4 (a 54) (a 55) (nI cc) (nI rz) ro sd_)))]) := by
  intro sz
  refine Met.ofW (cc := cX7_seed) (maxL := 3) (ret := (some .int)) (by decide) rfl ?_
  intro p e s m args below meth c s₁ B hml hv
  obtain ⟨rfl, hsz, hlo, hP, hK, hDL, hZ⟩ := hv
  have hx := B.exec
  have hb := B.bytes
  have hr := B.returns
  have hts := WS_ts B.pre
  have hown : s.vm.findClass RX7 = some m.cls := findClass_of_methodNamed B.named
  have hlocks := B.notSynchronized
  subst hsz
  have hD := hDL.self (sz := s.heap.size)
  have hAlo := A_lo hDL hlo
  generalize hAe : va_A [((a 0), .inr (7, (fX7 (a 1) (a 3) (a 19) (a 35) (a 40) (nI rk) lfa (a 53) (a 56) (a 63) (a 64) (a 68)))), ((a 53), .inr (4, (fX4 (a 54) (a 55) (nI cc) (nI rz) ro sd)))] s.heap.size = A at hD hAlo ⊢
  have hA : ∀ q : Nat, s.heap.size ≤ q → A q := fun q h => by rw [← hAe]; exact Or.inr h
  have hS : va_S A s.heap s.heap [] := va_S.rf
  have hl := lv_entry ([.ref (a 0), .int p0]) (n := 3) (Nat.le_of_ble_eq_true rfl)
  rw [lg_entry_eq]
  generalize (lg_sl ([.ref (a 0), .int p0]) ++ List.replicate (3 - (lg_sl ([.ref (a 0), .int p0])).length) Slot.unset).toArray = ls at hl ⊢
  have hl : lv_has ls 3 [(0, .ref (a 0)), (1, .int p0)] := hl
  refine lv_iload_n hx hb dX7_seed_0 rfl (lv_at hl 1 rfl) ?_
  refine lv_if_ge (tgt := 8) hx hb dX7_seed_1 (by decide) (fun c_1 => ?_) (fun c_1 => ?_)
  · refine lv_aload_n hx hb dX7_seed_8 rfl (lv_at hl 0 rfl) ?_
    refine va_get (D := D) (ci := 7) (v := .ref (a 53)) (C := RX7) (T := TX7) (N := 12) hx hb hts inX7 hown hK hP 0 rfl rfl 7 (by decide) (hts _ tw_312) (fun _ h9 => h9) rfl dX7_seed_9 ?_
    refine va_get (D := D) (ci := 4) (v := .int sd) (C := RX4) (T := TX4) (N := 6) hx hb hts inX4 hown hK hP 1 rfl rfl 5 (by decide) (hts _ tw_189) (fun _ h9 => h9) rfl dX7_seed_12 ?_
    refine lv_istore_n (lv' := [(2, .int sd), (0, .ref (a 0)), (1, .int p0)]) hx hb dX7_seed_15 rfl hl (by decide) rfl (fun ls hl => ?_)
    refine lv_aload_n hx hb dX7_seed_16 rfl (lv_at hl 1 rfl) ?_
    refine va_get (D := D) (ci := 7) (v := .ref (a 53)) (C := RX7) (T := TX7) (N := 12) hx hb hts inX7 hown hK hP 0 rfl rfl 7 (by decide) (hts _ tw_312) (fun _ h9 => h9) rfl dX7_seed_17 ?_
    refine lv_iload_n hx hb dX7_seed_20 rfl (lv_at hl 2 rfl) ?_
    refine va_put (D := D) (ci := 4) (v := .int p0) (ty := .int) (C := RX4) (T := TX4) (N := 6) hx hb hts inX4 tyX4 tyX4_ok nmX4 hown hK hP hD hS 1 rfl rfl 5 (by decide) (hts _ tw_189) (fun _ h9 => h9) rfl (by decide +kernel) rfl rfl (Nat.le_of_ble_eq_true rfl) dX7_seed_21 (fun H locs hP hD hS => ?_)
    have hQ9 := pd_mk [((a 0), .inr (7, (fX7 (a 1) (a 3) (a 19) (a 35) (a 40) (nI rk) lfa (a 53) (a 56) (a 63) (a 64) (a 68)))), ((a 53), .inr (4, (fX4 (a 54) (a 55) (nI cc) (nI rz) ro p0)))] hP hD
    clear hP hD
    obtain ⟨hP, hD⟩ := hQ9
    refine lv_iload_n hx hb dX7_seed_24 rfl (lv_at hl 0 rfl) ?_
    obtain ⟨hP9, hD9⟩ := pd_sub [((a 0), .inr (7, (fX7 (a 1) (a 3) (a 19) (a 35) (a 40) (nI rk) lfa (a 53) (a 56) (a 63) (a 64) (a 68)))), ((a 53), .inr (4, (fX4 (a 54) (a 55) (nI cc) (nI rz) ro p0)))] [0, 1] hP hD (by decide) rfl
    exact W.iret (v := sd) hx hb hr (fun t ht hW => ⟨⟨sd, p0, rfl, ⟨fun h => absurd h (Int32.not_lt.mpr c_1), fun _ => ⟨rfl, rfl⟩⟩, by rw [ht]; exact hP9, hD9⟩, hS.F ht⟩) hS.2.2 dX7_seed_25
  · refine lv_sipush (v := (-1002)) hx hb dX7_seed_4 (by decide) ?_
    obtain ⟨hP9, hD9⟩ := pd_sub [((a 0), .inr (7, (fX7 (a 1) (a 3) (a 19) (a 35) (a 40) (nI rk) lfa (a 53) (a 56) (a 63) (a 64) (a 68)))), ((a 53), .inr (4, (fX4 (a 54) (a 55) (nI cc) (nI rz) ro sd)))] [0, 1] hP hD (by decide) rfl
    exact W.iret (v := (-1002)) hx hb hr (fun t ht hW => ⟨⟨(-1002), sd, rfl, ⟨fun _ => ⟨rfl, rfl⟩, fun h => absurd (Int32.not_le.mp c_1) h⟩, by rw [ht]; exact hP9, hD9⟩, hS.F ht⟩) hS.2.2 dX7_seed_7


set_option maxHeartbeats 4000000 in
set_option maxRecDepth 100000 in
theorem m_saw3 (l : Launch) (D : va_G) (k : Nat → ClassId) (st : Nat → Nat) (lo : Nat) (a : Nat → Nat) (tx : Nat) (t0 : Nat) (we : Nat) (rd : Nat) (ru : Nat) (rw : Nat) (ca : Nat) (fp : Int32) (wd : Int64) (nu : Int32) (na : Int32) (ts : Int32) (df : Int32) (db : Int32) (sd : Int32) (frow : Nat → Int32) (p0 : Int32) (hrw : rw ≤ 24) : CWi l D k st lo yX8_saw cX8_saw 2 (some .int) ({ frames := 0, cells := 0, slots := 0, locals := 0 }) 0 0 [.ref (a 0), .int p0] [((a 0), .inr (8, (fX8 a (nI tx) fp (nI t0) wd (nI we) nu na (nI rd) ts (nI ru) (nI rw) (nI ca) df db sd))), (aZ k (a 32) 24 frow)] (fun (r : Int32) (u : Nat × (Nat → Int32)) => match u with | (rw_, frow_) => sawP rw r rw_ ∧ rw_ ≤ 24 ∧ (rw < 24 → frow_ = upd frow rw (vp_nar .boolean p0)) ∧ (¬ rw < 24 → frow_ = frow)) (fun (u : Nat × (Nat → Int32)) => match u with | (rw_, frow_) => [((a 0), .inr (8, (fX8 a (nI tx) fp (nI t0) wd (nI we) nu na (nI rd) ts (nI ru) (nI rw_) (nI ca) df db sd))), (aZ k (a 32) 24 frow_)]) := by
  intro sz
  refine Met.ofW (cc := cX8_saw) (maxL := 2) (ret := (some .int)) (by decide) rfl ?_
  intro p e s m args below meth c s₁ B hml hv
  obtain ⟨rfl, hsz, hlo, hP, hK, hDL, hZ⟩ := hv
  have hx := B.exec
  have hb := B.bytes
  have hr := B.returns
  have hts := WS_ts B.pre
  have hown : s.vm.findClass RX8 = some m.cls := findClass_of_methodNamed B.named
  have hlocks := B.notSynchronized
  subst hsz
  have hD := hDL.self (sz := s.heap.size)
  have hAlo := A_lo hDL hlo
  generalize hAe : va_A [((a 0), .inr (8, (fX8 a (nI tx) fp (nI t0) wd (nI we) nu na (nI rd) ts (nI ru) (nI rw) (nI ca) df db sd))), (aZ k (a 32) 24 frow)] s.heap.size = A at hD hAlo ⊢
  have hA : ∀ q : Nat, s.heap.size ≤ q → A q := fun q h => by rw [← hAe]; exact Or.inr h
  have hS : va_S A s.heap s.heap [] := va_S.rf
  have hl := lv_entry ([.ref (a 0), .int p0]) (n := 2) (Nat.le_of_ble_eq_true rfl)
  rw [lg_entry_eq]
  generalize (lg_sl ([.ref (a 0), .int p0]) ++ List.replicate (2 - (lg_sl ([.ref (a 0), .int p0])).length) Slot.unset).toArray = ls at hl ⊢
  have hl : lv_has ls 2 [(0, .ref (a 0)), (1, .int p0)] := hl
  refine lv_aload_n hx hb dX8_saw_0 rfl (lv_at hl 0 rfl) ?_
  refine va_get (D := D) (ci := 8) (v := .int (nI rw)) (C := RX8) (T := TX8) (N := 44) hx hb hts inX8 hown hK hP 0 rfl rfl 30 (by decide) (hts _ tw_1003) (fun _ h9 => h9) rfl dX8_saw_1 ?_
  refine lv_bipush (v := 24) hx hb dX8_saw_4 (by decide) ?_
  refine lv_icmp_ne (tgt := 13) hx hb dX8_saw_6 (by decide) (fun c_1 => ?_) (fun c_1 => ?_)
  · have c_1 : ¬ (rw = 24) := fun h => c_1 ((nI_eq (a := rw) (b := 24) (by omega) (by omega)).mpr h)
    refine lv_aload_n hx hb dX8_saw_13 rfl (lv_at hl 0 rfl) ?_
    refine va_get (D := D) (ci := 8) (v := .ref (a 32)) (C := RX8) (T := TX8) (N := 44) hx hb hts inX8 hown hK hP 0 rfl rfl 31 (by decide) (hts _ tw_1004) (fun _ h9 => h9) rfl dX8_saw_14 ?_
    refine lv_aload_n hx hb dX8_saw_17 rfl (lv_at hl 0 rfl) ?_
    refine va_get (D := D) (ci := 8) (v := .int (nI rw)) (C := RX8) (T := TX8) (N := 44) hx hb hts inX8 hown hK hP 0 rfl rfl 30 (by decide) (hts _ tw_1003) (fun _ h9 => h9) rfl dX8_saw_18 ?_
    refine lv_iload_n hx hb dX8_saw_21 rfl (lv_at hl 1 rfl) ?_
    refine va_zast hx hb hK hP hD hS 1 2 rfl rfl (vp_in_nI (by omega) (by decide)) dX8_saw_22 (fun H locs hP hD hS => ?_)
    have hQ9 := pd_mk [((a 0), .inr (8, (fX8 a (nI tx) fp (nI t0) wd (nI we) nu na (nI rd) ts (nI ru) (nI rw) (nI ca) df db sd))), (aZ k (a 32) 24 (upd frow (Int32.toNatClampNeg (nI rw)) (vp_nar .boolean p0)))] hP hD
    clear hP hD
    obtain ⟨hP, hD⟩ := hQ9
    rw [nI_clamp (n := rw) (by omega)] at hP hD
    have hQ9 := pd_mk [((a 0), .inr (8, (fX8 a (nI tx) fp (nI t0) wd (nI we) nu na (nI rd) ts (nI ru) (nI rw) (nI ca) df db sd))), (aZ k (a 32) 24 (upd frow rw (vp_nar .boolean p0)))] hP hD
    clear hP hD
    obtain ⟨hP, hD⟩ := hQ9
    refine lv_aload_n hx hb dX8_saw_23 rfl (lv_at hl 0 rfl) ?_
    refine lv_dup hx hb dX8_saw_24 rfl ?_
    refine va_get (D := D) (ci := 8) (v := .int (nI rw)) (C := RX8) (T := TX8) (N := 44) hx hb hts inX8 hown hK hP 0 rfl rfl 30 (by decide) (hts _ tw_1003) (fun _ h9 => h9) rfl dX8_saw_25 ?_
    refine lv_iconst (v := 1) hx hb dX8_saw_28 (by decide) ?_
    refine lv_iadd hx hb dX8_saw_29 ?_
    refine lv_ti (y := (nI (rw + 1))) (nI_add rw 1) ?_
    refine va_put (D := D) (ci := 8) (v := .int (nI (rw + 1))) (ty := .int) (C := RX8) (T := TX8) (N := 44) hx hb hts inX8 tyX8 tyX8_ok nmX8 hown hK hP hD hS 0 rfl rfl 30 (by decide) (hts _ tw_1003) (fun _ h9 => h9) rfl (by decide +kernel) rfl rfl (Nat.le_of_ble_eq_true rfl) dX8_saw_30 (fun H locs hP hD hS => ?_)
    have hQ9 := pd_mk [((a 0), .inr (8, (fX8 a (nI tx) fp (nI t0) wd (nI we) nu na (nI rd) ts (nI ru) (nI (rw + 1)) (nI ca) df db sd))), (aZ k (a 32) 24 (upd frow rw (vp_nar .boolean p0)))] hP hD
    clear hP hD
    obtain ⟨hP, hD⟩ := hQ9
    refine lv_aload_n hx hb dX8_saw_33 rfl (lv_at hl 0 rfl) ?_
    refine va_get (D := D) (ci := 8) (v := .int (nI (rw + 1))) (C := RX8) (T := TX8) (N := 44) hx hb hts inX8 hown hK hP 0 rfl rfl 30 (by decide) (hts _ tw_1003) (fun _ h9 => h9) rfl dX8_saw_34 ?_
    obtain ⟨hP9, hD9⟩ := pd_sub [((a 0), .inr (8, (fX8 a (nI tx) fp (nI t0) wd (nI we) nu na (nI rd) ts (nI ru) (nI (rw + 1)) (nI ca) df db sd))), (aZ k (a 32) 24 (upd frow rw (vp_nar .boolean p0)))] [0, 1] hP hD (by decide) rfl
    exact W.iret (v := (nI (rw + 1))) hx hb hr (fun t ht hW => ⟨⟨(nI (rw + 1)), ((rw + 1), (upd frow rw (vp_nar .boolean p0))), rfl, ⟨⟨fun _ => ⟨rfl, rfl⟩, fun h => absurd (by omega) h⟩, by omega, fun _ => rfl, fun h => absurd (by omega) h⟩, by rw [ht]; exact hP9, hD9⟩, hS.F ht⟩) hS.2.2 dX8_saw_37
  · have c_1 := (nI_eq (a := rw) (b := 24) (by omega) (by omega)).mp c_1
    refine lv_sipush (v := (-1004)) hx hb dX8_saw_9 (by decide) ?_
    obtain ⟨hP9, hD9⟩ := pd_sub [((a 0), .inr (8, (fX8 a (nI tx) fp (nI t0) wd (nI we) nu na (nI rd) ts (nI ru) (nI rw) (nI ca) df db sd))), (aZ k (a 32) 24 frow)] [0, 1] hP hD (by decide) rfl
    exact W.iret (v := (-1004)) hx hb hr (fun t ht hW => ⟨⟨(-1004), (rw, frow), rfl, ⟨⟨fun h => absurd h (by omega), fun _ => ⟨rfl, rfl⟩⟩, by omega, fun h => absurd h (by omega), fun _ => rfl⟩, by rw [ht]; exact hP9, hD9⟩, hS.F ht⟩) hS.2.2 dX8_saw_12


set_option maxHeartbeats 4000000 in
set_option maxRecDepth 100000 in
theorem m_car3 (l : Launch) (D : va_G) (k : Nat → ClassId) (st : Nat → Nat) (lo : Nat) (a : Nat → Nat) (tx : Nat) (t0 : Nat) (we : Nat) (rd : Nat) (ru : Nat) (rw : Nat) (ca : Nat) (fp : Int32) (wd : Int64) (nu : Int32) (na : Int32) (ts : Int32) (df : Int32) (db : Int32) (sd : Int32) (fwalks : Nat → Int32) (br : Nat → Nat) (p0 : Int32) (p1 : Int32) (hca : ca ≤ 4) (hbr : ∀ j, br j ≤ 24) : CWi l D k st lo yX8_car cX8_car 3 (some .int) ({ frames := 1, cells := 0, slots := 0, locals := 25 }) 0 0 [.ref (a 0), .int p0, .int p1] [((a 0), .inr (8, (fX8 a (nI tx) fp (nI t0) wd (nI we) nu na (nI rd) ts (nI ru) (nI rw) (nI ca) df db sd))), (aI k (a 36) 4 fwalks), (aI k (a 37) 4 (nF br))] (fun (r : Int32) (u : Nat × (Nat → Int32) × (Nat → Nat)) => match u with | (ca_, fwalks_, br_) => carP p0 p1 ca r ca_ ∧ ca_ ≤ 4 ∧ (∀ j, br_ j ≤ 24) ∧ carW p0 p1 ca fwalks fwalks_) (fun (u : Nat × (Nat → Int32) × (Nat → Nat)) => match u with | (ca_, fwalks_, br_) => [((a 0), .inr (8, (fX8 a (nI tx) fp (nI t0) wd (nI we) nu na (nI rd) ts (nI ru) (nI rw) (nI ca_) df db sd))), (aI k (a 36) 4 fwalks_), (aI k (a 37) 4 (nF br_))]) := by
  intro sz
  refine Met.ofW (cc := cX8_car) (maxL := 3) (ret := (some .int)) (by decide) rfl ?_
  intro p e s m args below meth c s₁ B hml hv
  obtain ⟨rfl, hsz, hlo, hP, hK, hDL, hZ⟩ := hv
  have hx := B.exec
  have hb := B.bytes
  have hr := B.returns
  have hts := WS_ts B.pre
  have hown : s.vm.findClass RX8 = some m.cls := findClass_of_methodNamed B.named
  have hlocks := B.notSynchronized
  subst hsz
  have hD := hDL.self (sz := s.heap.size)
  have hAlo := A_lo hDL hlo
  generalize hAe : va_A [((a 0), .inr (8, (fX8 a (nI tx) fp (nI t0) wd (nI we) nu na (nI rd) ts (nI ru) (nI rw) (nI ca) df db sd))), (aI k (a 36) 4 fwalks), (aI k (a 37) 4 (nF br))] s.heap.size = A at hD hAlo ⊢
  have hA : ∀ q : Nat, s.heap.size ≤ q → A q := fun q h => by rw [← hAe]; exact Or.inr h
  have hS : va_S A s.heap s.heap [] := va_S.rf
  have hl := lv_entry ([.ref (a 0), .int p0, .int p1]) (n := 3) (Nat.le_of_ble_eq_true rfl)
  rw [lg_entry_eq]
  generalize (lg_sl ([.ref (a 0), .int p0, .int p1]) ++ List.replicate (3 - (lg_sl ([.ref (a 0), .int p0, .int p1])).length) Slot.unset).toArray = ls at hl ⊢
  have hl : lv_has ls 3 [(0, .ref (a 0)), (1, .int p0), (2, .int p1)] := hl
  refine lv_iload_n hx hb dX8_car_0 rfl (lv_at hl 1 rfl) ?_
  refine lv_i2l (v := p0.toInt64) hx hb dX8_car_1 rfl ?_
  refine lv_lconst (v := (0 : Int32).toInt64) hx hb dX8_car_2 (by decide) ?_
  refine lv_ldc2 hx hb hown (hts _ tw_1368) dX8_car_3 ?_
  refine lv_tl (y := ((99 : Int32).toInt64)) (by decide) ?_
  refine ro_i (D := D) (va_runS (As := [.long (p0.toInt64), .long ((0 : Int32).toInt64), .long ((99 : Int32).toInt64)]) (rest := []) ⟨hx, hb, hml, hown, hts⟩ ((k_in l D k st lo p0 (0 : Int32) (99 : Int32)) s.heap.size) (va_cwS 3 hts (gS tw_1111 tw_1112 tw_87 tw_1113) rfl rfl rfl (by decide +kernel) ⟨Nat.le_of_ble_eq_true rfl, Nat.le_of_ble_eq_true rfl⟩) (pS hS hAlo hlo hP hK (va_Dlo hD hAlo) hZ [] (by decide) rfl) rfl rfl hl.1 rfl (lv_room (Nat.le_of_ble_eq_true rfl)) dX8_car_6 ⟨Nat.le_of_ble_eq_true rfl, Nat.le_of_ble_eq_true rfl⟩) hS hA hP (fun r_1 H locs hw_1 hP hS => ?_)
  try dsimp only at hw_1
  rcases hw_1 with ⟨rfl, hw_1⟩ | ⟨rfl, hw_1⟩
  · refine lv_if_eq (tgt := 24) hx hb dX8_car_9 (by decide) (fun h => absurd h (by decide)) (fun _ => ?_)
    refine lv_iload_n hx hb dX8_car_12 rfl (lv_at hl 2 rfl) ?_
    refine lv_i2l (v := p1.toInt64) hx hb dX8_car_13 rfl ?_
    refine lv_lconst (v := (0 : Int32).toInt64) hx hb dX8_car_14 (by decide) ?_
    refine lv_ldc2 hx hb hown (hts _ tw_1377) dX8_car_15 ?_
    refine lv_tl (y := ((24 : Int32).toInt64)) (by decide) ?_
    refine ro_i (D := D) (va_runS (As := [.long (p1.toInt64), .long ((0 : Int32).toInt64), .long ((24 : Int32).toInt64)]) (rest := []) ⟨hx, hb, hml, hown, hts⟩ ((k_in l D k st lo p1 (0 : Int32) (24 : Int32)) H.size) (va_cwS 3 hts (gS tw_1111 tw_1112 tw_87 tw_1113) rfl rfl rfl (by decide +kernel) ⟨Nat.le_of_ble_eq_true rfl, Nat.le_of_ble_eq_true rfl⟩) (pS hS hAlo hlo hP hK (va_Dlo hD hAlo) hZ [] (by decide) rfl) rfl rfl hl.1 rfl (lv_room (Nat.le_of_ble_eq_true rfl)) dX8_car_18 ⟨Nat.le_of_ble_eq_true rfl, Nat.le_of_ble_eq_true rfl⟩) hS hA hP (fun r_2 H locs hw_2 hP hS => ?_)
    try dsimp only at hw_2
    rcases hw_2 with ⟨rfl, hw_2⟩ | ⟨rfl, hw_2⟩
    · refine lv_if_ne (tgt := 28) hx hb dX8_car_21 (by decide) (fun _ => ?_) (fun h => absurd h (by decide))
      obtain ⟨nb_3, hnl_3, hnh_3, rfl⟩ := inB_ofc (a := 0) (b := 24) (by omega) (by omega) hw_2
      refine lv_aload_n hx hb dX8_car_28 rfl (lv_at hl 0 rfl) ?_
      refine va_get (D := D) (ci := 8) (v := .int (nI ca)) (C := RX8) (T := TX8) (N := 44) hx hb hts inX8 hown hK hP 0 rfl rfl 34 (by decide) (hts _ tw_1007) (fun _ h9 => h9) rfl dX8_car_29 ?_
      refine lv_iconst (v := 4) hx hb dX8_car_32 (by decide) ?_
      refine lv_icmp_ne (tgt := 40) hx hb dX8_car_33 (by decide) (fun c_4 => ?_) (fun c_4 => ?_)
      · have c_4 : ¬ (ca = 4) := fun h => c_4 ((nI_eq (a := ca) (b := 4) (by omega) (by omega)).mpr h)
        refine lv_aload_n hx hb dX8_car_40 rfl (lv_at hl 0 rfl) ?_
        refine va_get (D := D) (ci := 8) (v := .ref (a 36)) (C := RX8) (T := TX8) (N := 44) hx hb hts inX8 hown hK hP 0 rfl rfl 35 (by decide) (hts _ tw_1008) (fun _ h9 => h9) rfl dX8_car_41 ?_
        refine lv_aload_n hx hb dX8_car_44 rfl (lv_at hl 0 rfl) ?_
        refine va_get (D := D) (ci := 8) (v := .int (nI ca)) (C := RX8) (T := TX8) (N := 44) hx hb hts inX8 hown hK hP 0 rfl rfl 34 (by decide) (hts _ tw_1007) (fun _ h9 => h9) rfl dX8_car_45 ?_
        refine lv_iload_n hx hb dX8_car_48 rfl (lv_at hl 1 rfl) ?_
        refine va_iast hx hb hK hP hD hS 1 1 rfl rfl (vp_in_nI (by omega) (by decide)) dX8_car_49 (fun H locs hP hD hS => ?_)
        have hQ9 := pd_mk [((a 0), .inr (8, (fX8 a (nI tx) fp (nI t0) wd (nI we) nu na (nI rd) ts (nI ru) (nI rw) (nI ca) df db sd))), (aI k (a 36) 4 (upd fwalks (Int32.toNatClampNeg (nI ca)) p0)), (aI k (a 37) 4 (nF br))] hP hD
        clear hP hD
        obtain ⟨hP, hD⟩ := hQ9
        rw [nI_clamp (n := ca) (by omega)] at hP hD
        have hQ9 := pd_mk [((a 0), .inr (8, (fX8 a (nI tx) fp (nI t0) wd (nI we) nu na (nI rd) ts (nI ru) (nI rw) (nI ca) df db sd))), (aI k (a 36) 4 (upd fwalks ca p0)), (aI k (a 37) 4 (nF br))] hP hD
        clear hP hD
        obtain ⟨hP, hD⟩ := hQ9
        refine lv_aload_n hx hb dX8_car_50 rfl (lv_at hl 0 rfl) ?_
        refine va_get (D := D) (ci := 8) (v := .ref (a 37)) (C := RX8) (T := TX8) (N := 44) hx hb hts inX8 hown hK hP 0 rfl rfl 36 (by decide) (hts _ tw_1009) (fun _ h9 => h9) rfl dX8_car_51 ?_
        refine lv_aload_n hx hb dX8_car_54 rfl (lv_at hl 0 rfl) ?_
        refine va_get (D := D) (ci := 8) (v := .int (nI ca)) (C := RX8) (T := TX8) (N := 44) hx hb hts inX8 hown hK hP 0 rfl rfl 34 (by decide) (hts _ tw_1007) (fun _ h9 => h9) rfl dX8_car_55 ?_
        refine lv_iload_n hx hb dX8_car_58 rfl (lv_at hl 2 rfl) ?_
        refine va_iast hx hb hK hP hD hS 2 1 rfl rfl (vp_in_nI (by omega) (by decide)) dX8_car_59 (fun H locs hP hD hS => ?_)
        have hQ9 := pd_mk [((a 0), .inr (8, (fX8 a (nI tx) fp (nI t0) wd (nI we) nu na (nI rd) ts (nI ru) (nI rw) (nI ca) df db sd))), (aI k (a 36) 4 (upd fwalks ca p0)), (aI k (a 37) 4 (upd (nF br) (Int32.toNatClampNeg (nI ca)) (nI nb_3)))] hP hD
        clear hP hD
        obtain ⟨hP, hD⟩ := hQ9
        rw [nI_clamp (n := ca) (by omega)] at hP hD
        rw [show upd (nF br) ca (nI nb_3) = nF (fun j => if j = ca then nb_3 else br j) from nF_upd _ _ _] at hP hD
        obtain ⟨d_6, hd_6⟩ : ∃ z : Nat → Nat, z = (fun j => if j = ca then nb_3 else br j) := ⟨_, rfl⟩
        rw [← hd_6] at hP hD
        refine lv_aload_n hx hb dX8_car_60 rfl (lv_at hl 0 rfl) ?_
        refine lv_dup hx hb dX8_car_61 rfl ?_
        refine va_get (D := D) (ci := 8) (v := .int (nI ca)) (C := RX8) (T := TX8) (N := 44) hx hb hts inX8 hown hK hP 0 rfl rfl 34 (by decide) (hts _ tw_1007) (fun _ h9 => h9) rfl dX8_car_62 ?_
        refine lv_iconst (v := 1) hx hb dX8_car_65 (by decide) ?_
        refine lv_iadd hx hb dX8_car_66 ?_
        refine lv_ti (y := (nI (ca + 1))) (nI_add ca 1) ?_
        refine va_put (D := D) (ci := 8) (v := .int (nI (ca + 1))) (ty := .int) (C := RX8) (T := TX8) (N := 44) hx hb hts inX8 tyX8 tyX8_ok nmX8 hown hK hP hD hS 0 rfl rfl 34 (by decide) (hts _ tw_1007) (fun _ h9 => h9) rfl (by decide +kernel) rfl rfl (Nat.le_of_ble_eq_true rfl) dX8_car_67 (fun H locs hP hD hS => ?_)
        have hQ9 := pd_mk [((a 0), .inr (8, (fX8 a (nI tx) fp (nI t0) wd (nI we) nu na (nI rd) ts (nI ru) (nI rw) (nI (ca + 1)) df db sd))), (aI k (a 36) 4 (upd fwalks ca p0)), (aI k (a 37) 4 (nF d_6))] hP hD
        clear hP hD
        obtain ⟨hP, hD⟩ := hQ9
        refine lv_aload_n hx hb dX8_car_70 rfl (lv_at hl 0 rfl) ?_
        refine va_get (D := D) (ci := 8) (v := .int (nI (ca + 1))) (C := RX8) (T := TX8) (N := 44) hx hb hts inX8 hown hK hP 0 rfl rfl 34 (by decide) (hts _ tw_1007) (fun _ h9 => h9) rfl dX8_car_71 ?_
        refine lv_iconst (v := 1) hx hb dX8_car_74 (by decide) ?_
        refine lv_isub hx hb dX8_car_75 ?_
        refine lv_ti (y := (nI ((ca + 1) - 1))) (pk_sub (a := (ca + 1)) (b := 1) (by omega)) ?_
        obtain ⟨hP9, hD9⟩ := pd_sub [((a 0), .inr (8, (fX8 a (nI tx) fp (nI t0) wd (nI we) nu na (nI rd) ts (nI ru) (nI rw) (nI (ca + 1)) df db sd))), (aI k (a 36) 4 (upd fwalks ca p0)), (aI k (a 37) 4 (nF d_6))] [0, 1, 2] hP hD (by decide) rfl
        exact W.iret (v := (nI ((ca + 1) - 1))) hx hb hr (fun t ht hW => ⟨⟨(nI ((ca + 1) - 1)), ((ca + 1), (upd fwalks ca p0), d_6), rfl, ⟨⟨fun _ => ⟨fun _ => ⟨rfl, rfl⟩, fun h => absurd (by omega) h⟩, fun h => absurd ⟨hw_1, hw_2⟩ h⟩, by omega, (by rw [hd_6]; exact up_le hbr (by omega)), ⟨fun _ c _ => rfl, fun h => absurd ⟨⟨hw_1, hw_2⟩, by omega⟩ h⟩⟩, by rw [ht]; exact hP9, hD9⟩, hS.F ht⟩) hS.2.2 dX8_car_76
      · have c_4 := (nI_eq (a := ca) (b := 4) (by omega) (by omega)).mp c_4
        refine lv_sipush (v := (-1004)) hx hb dX8_car_36 (by decide) ?_
        obtain ⟨hP9, hD9⟩ := pd_sub [((a 0), .inr (8, (fX8 a (nI tx) fp (nI t0) wd (nI we) nu na (nI rd) ts (nI ru) (nI rw) (nI ca) df db sd))), (aI k (a 36) 4 fwalks), (aI k (a 37) 4 (nF br))] [0, 1, 2] hP hD (by decide) rfl
        exact W.iret (v := (-1004)) hx hb hr (fun t ht hW => ⟨⟨(-1004), (ca, fwalks, br), rfl, ⟨⟨fun _ => ⟨fun h => absurd h (by omega), fun _ => ⟨rfl, rfl⟩⟩, fun h => absurd ⟨hw_1, hw_2⟩ h⟩, by omega, hbr, ⟨fun h => absurd h.2 (by omega), fun _ _ _ => rfl⟩⟩, by rw [ht]; exact hP9, hD9⟩, hS.F ht⟩) hS.2.2 dX8_car_39
    · refine lv_if_ne (tgt := 28) hx hb dX8_car_21 (by decide) (fun h => absurd (by decide) h) (fun _ => ?_)
      refine lv_sipush (v := (-1002)) hx hb dX8_car_24 (by decide) ?_
      obtain ⟨hP9, hD9⟩ := pd_sub [((a 0), .inr (8, (fX8 a (nI tx) fp (nI t0) wd (nI we) nu na (nI rd) ts (nI ru) (nI rw) (nI ca) df db sd))), (aI k (a 36) 4 fwalks), (aI k (a 37) 4 (nF br))] [0, 1, 2] hP hD (by decide) rfl
      exact W.iret (v := (-1002)) hx hb hr (fun t ht hW => ⟨⟨(-1002), (ca, fwalks, br), rfl, ⟨⟨fun h => absurd h.2 hw_2, fun _ => ⟨rfl, rfl⟩⟩, by omega, hbr, ⟨fun h => absurd h.1.2 hw_2, fun _ _ _ => rfl⟩⟩, by rw [ht]; exact hP9, hD9⟩, hS.F ht⟩) hS.2.2 dX8_car_27
  · refine lv_if_eq (tgt := 24) hx hb dX8_car_9 (by decide) (fun _ => ?_) (fun h => absurd (by decide) h)
    refine lv_sipush (v := (-1002)) hx hb dX8_car_24 (by decide) ?_
    obtain ⟨hP9, hD9⟩ := pd_sub [((a 0), .inr (8, (fX8 a (nI tx) fp (nI t0) wd (nI we) nu na (nI rd) ts (nI ru) (nI rw) (nI ca) df db sd))), (aI k (a 36) 4 fwalks), (aI k (a 37) 4 (nF br))] [0, 1, 2] hP hD (by decide) rfl
    exact W.iret (v := (-1002)) hx hb hr (fun t ht hW => ⟨⟨(-1002), (ca, fwalks, br), rfl, ⟨⟨fun h => absurd h.1 hw_1, fun _ => ⟨rfl, rfl⟩⟩, by omega, hbr, ⟨fun h => absurd h.1.1 hw_1, fun _ _ _ => rfl⟩⟩, by rw [ht]; exact hP9, hD9⟩, hS.F ht⟩) hS.2.2 dX8_car_27


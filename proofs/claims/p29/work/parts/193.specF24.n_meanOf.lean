
set_option maxHeartbeats 4000000 in
set_option maxRecDepth 100000 in
theorem n_meanOf (l : Launch) (D : va_G) (k : Nat → ClassId) (st : Nat → Nat) (lo : Nat) (a : Nat → Nat) (tx : Nat) (t0 : Nat) (we : Nat) (rd : Nat) (ru : Nat) (rw : Nat) (ca : Nat) (fp : Int32) (wd : Int64) (nu : Int32) (na : Int32) (ts : Int32) (df : Int32) (db : Int32) (sd : Int32) (dn : Nat → Nat) (se : Nat → Nat) (tm : Nat → Nat) (gs : Nat → Int32) (ffrees : Nat → Int32) (fprices : Nat → Int32) (bm : Nat → Nat) (fbarSeen : Nat → Int32) (fbarFrom : Nat → Int32) (fruleRounds : Nat → Int32) (ffollows : Nat → Int32) (fbefore : Nat → Int32) (sn : Nat) (kr : Nat) (wh : Nat) (rx : Nat) (hdn : ∀ j, dn j ≤ 24) (hse : ∀ j, se j ≤ 2) (htm : ∀ j, tm j ≤ 3) (hbm : ∀ j, bm j ≤ 12) (hs : sn < 3) (hk : kr < 4) (hwh : wh ≤ 2) (hrx : fruleRounds kr = nI rx) (hr3 : rx ≤ 3) (hg9 : okG (sdM dn (sg se tm gs) ffrees fprices sn).2.1) : CWi l D k st lo yX8_meanOf cX8_meanOf 14 (some .int) ({ frames := 5, cells := 0, slots := 0, locals := 118 }) 0 0 [.ref (a 0), .int (nI sn), .int (nI kr), .int (nI wh)] [((a 0), .inr (8, (fX8 a (nI tx) fp (nI t0) wd (nI we) nu na (nI rd) ts (nI ru) (nI rw) (nI ca) df db sd))), (aI k (a 1) 3 (nF dn)), (aI k (a 4) 27 (sg se tm gs)), (aI k (a 2) 72 ffrees), (aI k (a 3) 72 fprices), (aI k (a 25) 4 (nF bm)), (aI k (a 26) 48 fbarSeen), (aI k (a 27) 48 fbarFrom), (aI k (a 28) 4 fruleRounds), (aI k (a 29) 52 ffollows), (aI k (a 30) 52 fbefore)] (fun (r : Int32) (u : (Nat → Int32) × (Nat → Int32)) => match u with | (ffollows_, fbefore_) => r = mR (sdM dn (sg se tm gs) ffrees fprices sn) (ruM bm fbarSeen fbarFrom fruleRounds kr) wh (min rx (tm sn)) ((min rx (tm sn)))) (fun (u : (Nat → Int32) × (Nat → Int32)) => match u with | (ffollows_, fbefore_) => [((a 0), .inr (8, (fX8 a (nI tx) fp (nI t0) wd (nI we) nu na (nI rd) ts (nI ru) (nI rw) (nI ca) df db sd))), (aI k (a 1) 3 (nF dn)), (aI k (a 4) 27 (sg se tm gs)), (aI k (a 2) 72 ffrees), (aI k (a 3) 72 fprices), (aI k (a 25) 4 (nF bm)), (aI k (a 26) 48 fbarSeen), (aI k (a 27) 48 fbarFrom), (aI k (a 28) 4 fruleRounds), (aI k (a 29) 52 ffollows_), (aI k (a 30) 52 fbefore_)]) := by
  intro sz
  refine Met.ofW (cc := cX8_meanOf) (maxL := 14) (ret := (some .int)) (by decide) rfl ?_
  intro p e s m args below meth c s₁ B hml hv
  obtain ⟨rfl, hsz, hlo, hP, hK, hDL, hZ⟩ := hv
  have hx := B.exec
  have hb := B.bytes
  have hr := B.returns
  have hts := WS_ts B.pre
  have hown : s.vm.findClass RX8 = some m.cls := findClass_of_methodNamed B.named
  have hlocks := B.notSynchronized
  subst hsz
  have hD := hDL.self (sz := s.heap.size)
  have hAlo := A_lo hDL hlo
  generalize hAe : va_A [((a 0), .inr (8, (fX8 a (nI tx) fp (nI t0) wd (nI we) nu na (nI rd) ts (nI ru) (nI rw) (nI ca) df db sd))), (aI k (a 1) 3 (nF dn)), (aI k (a 4) 27 (sg se tm gs)), (aI k (a 2) 72 ffrees), (aI k (a 3) 72 fprices), (aI k (a 25) 4 (nF bm)), (aI k (a 26) 48 fbarSeen), (aI k (a 27) 48 fbarFrom), (aI k (a 28) 4 fruleRounds), (aI k (a 29) 52 ffollows), (aI k (a 30) 52 fbefore)] s.heap.size = A at hD hAlo ⊢
  have hA : ∀ q : Nat, s.heap.size ≤ q → A q := fun q h => by rw [← hAe]; exact Or.inr h
  have hS : va_S A s.heap s.heap [] := va_S.rf
  have hl := lv_entry ([.ref (a 0), .int (nI sn), .int (nI kr), .int (nI wh)]) (n := 14) (Nat.le_of_ble_eq_true rfl)
  rw [lg_entry_eq]
  generalize (lg_sl ([.ref (a 0), .int (nI sn), .int (nI kr), .int (nI wh)]) ++ List.replicate (14 - (lg_sl ([.ref (a 0), .int (nI sn), .int (nI kr), .int (nI wh)])).length) Slot.unset).toArray = ls at hl ⊢
  have hl : lv_has ls 14 [(0, .ref (a 0)), (1, .int (nI sn)), (2, .int (nI kr)), (3, .int (nI wh))] := hl
  have hd_9 := hdn sn
  have hd_8 := hse sn
  have hd_7 := htm sn
  refine lv_aload_n hx hb dX8_meanOf_0 rfl (lv_at hl 0 rfl) ?_
  refine va_get (D := D) (ci := 8) (v := .ref (a 1)) (C := RX8) (T := TX8) (N := 44) hx hb hts inX8 hown hK hP 0 rfl rfl 0 (by decide) (hts _ tw_973) (fun _ h9 => h9) rfl dX8_meanOf_1 ?_
  refine lv_iload_n hx hb dX8_meanOf_4 rfl (lv_at hl 1 rfl) ?_
  refine va_iald hx hb hK hP 1 1 rfl rfl (vp_in_nI (by omega) (by decide)) dX8_meanOf_5 ?_
  refine lv_ti (y := (nI (dn sn))) (by rw [nI_clamp (by omega)]; rfl) ?_
  refine lv_istore (lv' := [(4, .int (nI (dn sn))), (0, .ref (a 0)), (1, .int (nI sn)), (2, .int (nI kr)), (3, .int (nI wh))]) hx hb dX8_meanOf_6 hl (by decide) rfl (fun ls hl => ?_)
  refine lv_iload_n hx hb dX8_meanOf_8 rfl (lv_at hl 4 rfl) ?_
  refine lv_if_ne (tgt := 25) hx hb dX8_meanOf_9 (by decide) (fun c_1 => ?_) (fun c_1 => ?_)
  · have c_1 : ¬ (wh = 0) := fun h => c_1 ((nI_eq (a := wh) (b := 0) (by omega) (by omega)).mpr h)
    refine lv_iconst (v := 0) hx hb dX8_meanOf_25 (by decide) ?_
    have hps_2 : (0 : Int32) = pPs (sdM dn (sg se tm gs) ffrees fprices sn) wh := by unfold pPs; rw [if_neg (by omega)]
    refine lv_istore (lv' := [(5, .int 0), (4, .int (nI (dn sn))), (0, .ref (a 0)), (1, .int (nI sn)), (2, .int (nI kr)), (3, .int (nI wh))]) hx hb dX8_meanOf_26 hl (by decide) rfl (fun ls hl => ?_)
    refine lv_iconst (v := 0) hx hb dX8_meanOf_28 (by decide) ?_
    refine lv_istore (lv' := [(6, .int 0), (5, .int 0), (4, .int (nI (dn sn))), (0, .ref (a 0)), (1, .int (nI sn)), (2, .int (nI kr)), (3, .int (nI wh))]) hx hb dX8_meanOf_29 hl (by decide) rfl (fun ls hl => ?_)
    refine lv_iconst (v := 3) hx hb dX8_meanOf_31 (by decide) ?_
    refine lv_istore (lv' := [(7, .int 3), (6, .int 0), (5, .int 0), (4, .int (nI (dn sn))), (0, .ref (a 0)), (1, .int (nI sn)), (2, .int (nI kr)), (3, .int (nI wh))]) hx hb dX8_meanOf_32 hl (by decide) rfl (fun ls hl => ?_)
    refine W_loop (σ := Nat × Int32 × (Nat → Int32) × (Nat → Int32)) (fun (n_ : Nat) (x_ : Nat × Int32 × (Nat → Int32) × (Nat → Int32)) (H : Heap) (locs : List Loc) (ls : Array Slot) => match x_ with | (q_3, bg_3, ff_3, fb_3) => n_ = 2 * q_3 ∧ (q_3 ≤ 4 ∧ (q_3 ≤ (min rx (tm sn)) → bg_3 = mR (sdM dn (sg se tm gs) ffrees fprices sn) (ruM bm fbarSeen fbarFrom fruleRounds kr) wh (min rx (tm sn)) ((min rx (tm sn)) - q_3))) ∧ va_P D classes [((a 0), .inr (8, (fX8 a (nI tx) fp (nI t0) wd (nI we) nu na (nI rd) ts (nI ru) (nI rw) (nI ca) df db sd))), (aI k (a 1) 3 (nF dn)), (aI k (a 4) 27 (sg se tm gs)), (aI k (a 2) 72 ffrees), (aI k (a 3) 72 fprices), (aI k (a 25) 4 (nF bm)), (aI k (a 26) 48 fbarSeen), (aI k (a 27) 48 fbarFrom), (aI k (a 28) 4 fruleRounds), (aI k (a 29) 52 ff_3), (aI k (a 30) 52 fb_3)] H ∧ va_D A [((a 0), .inr (8, (fX8 a (nI tx) fp (nI t0) wd (nI we) nu na (nI rd) ts (nI ru) (nI rw) (nI ca) df db sd))), (aI k (a 1) 3 (nF dn)), (aI k (a 4) 27 (sg se tm gs)), (aI k (a 2) 72 ffrees), (aI k (a 3) 72 fprices), (aI k (a 25) 4 (nF bm)), (aI k (a 26) 48 fbarSeen), (aI k (a 27) 48 fbarFrom), (aI k (a 28) 4 fruleRounds), (aI k (a 29) 52 ff_3), (aI k (a 30) 52 fb_3)] ∧ va_S A s.heap H locs ∧ lv_has ls 14 [(7, .int (nI q_3 - 1)), (6, .int bg_3), (5, .int 0), (4, .int (nI (dn sn))), (0, .ref (a 0)), (1, .int (nI sn)), (2, .int (nI kr)), (3, .int (nI wh))]) (fun n_3 x_3 H locs ls hI ih_3 => ?_) _ (4, 0, ffollows, fbefore) ⟨rfl, ⟨by omega, fun h => absurd h (by omega)⟩, hP, hD, hS, (by rw [nI_pred]; exact lv_sub hl [0, 1, 2, 3, 4, 5, 6, 7] rfl)⟩
    obtain ⟨q_3, bg_3, ff_3, fb_3⟩ := x_3
    obtain ⟨hm_3, hv_3, hP, hD, hS, hl⟩ := hI
    subst hm_3
    rcases q_3 with _ | q_3
    · rw [dn0] at hl
      refine lv_iload hx hb dX8_meanOf_34 (lv_at hl 0 rfl) ?_
      refine lv_if_lt (tgt := 289) hx hb dX8_meanOf_36 (by decide) (fun _ => ?_) (fun h => absurd (by decide) h)
      refine lv_iload hx hb dX8_meanOf_289 (lv_at hl 1 rfl) ?_
      have hP9 := hP.sub (ws' := [((a 0), .inr (8, (fX8 a (nI tx) fp (nI t0) wd (nI we) nu na (nI rd) ts (nI ru) (nI rw) (nI ca) df db sd))), (aI k (a 1) 3 (nF dn)), (aI k (a 4) 27 (sg se tm gs)), (aI k (a 2) 72 ffrees), (aI k (a 3) 72 fprices), (aI k (a 25) 4 (nF bm)), (aI k (a 26) 48 fbarSeen), (aI k (a 27) 48 fbarFrom), (aI k (a 28) 4 fruleRounds), (aI k (a 29) 52 ff_3), (aI k (a 30) 52 fb_3)]) [0, 1, 2, 3, 4, 5, 6, 7, 8, 9, 10] rfl
      have hD9 := hD.sub (ws' := [((a 0), .inr (8, (fX8 a (nI tx) fp (nI t0) wd (nI we) nu na (nI rd) ts (nI ru) (nI rw) (nI ca) df db sd))), (aI k (a 1) 3 (nF dn)), (aI k (a 4) 27 (sg se tm gs)), (aI k (a 2) 72 ffrees), (aI k (a 3) 72 fprices), (aI k (a 25) 4 (nF bm)), (aI k (a 26) 48 fbarSeen), (aI k (a 27) 48 fbarFrom), (aI k (a 28) 4 fruleRounds), (aI k (a 29) 52 ff_3), (aI k (a 30) 52 fb_3)]) [0, 1, 2, 3, 4, 5, 6, 7, 8, 9, 10] (by decide +kernel) rfl
      exact W.iret (v := bg_3) hx hb hr (fun t ht hW => ⟨⟨bg_3, (ff_3, fb_3), rfl, hv_3.2 (Nat.zero_le _), by rw [ht]; exact hP9, hD9⟩, hS.F ht⟩) hS.2.2 dX8_meanOf_291
    · rw [nI_pred] at hl
      refine lv_iload hx hb dX8_meanOf_34 (lv_at hl 0 rfl) ?_
      refine lv_if_lt (tgt := 289) hx hb dX8_meanOf_36 (by decide) (fun h => absurd h (nI_pos0 (by omega))) (fun _ => ?_)
      refine lv_iload_n hx hb dX8_meanOf_39 rfl (lv_at hl 7 rfl) ?_
      refine lv_if_ne (tgt := 64) hx hb dX8_meanOf_40 (by decide) (fun _ => ?_) (fun h => absurd ((nI_eq (a := wh) (b := 0) (by omega) (by omega)).mp h) (by omega))
      refine lv_iconst (v := 0) hx hb dX8_meanOf_64 (by decide) ?_
      have hgo_5 : (0 : Int32) = pRs (sdM dn (sg se tm gs) ffrees fprices sn) wh := by unfold pRs; rw [if_neg (by omega)]
      refine lv_istore (lv' := [(8, .int 0), (7, .int (nI q_3)), (6, .int bg_3), (5, .int 0), (4, .int (nI (dn sn))), (0, .ref (a 0)), (1, .int (nI sn)), (2, .int (nI kr)), (3, .int (nI wh))]) hx hb dX8_meanOf_65 hl (by decide) rfl (fun ls hl => ?_)
      refine lv_aload_n hx hb dX8_meanOf_67 rfl (lv_at hl 5 rfl) ?_
      refine lv_iload_n hx hb dX8_meanOf_68 rfl (lv_at hl 6 rfl) ?_
      refine lv_iload_n hx hb dX8_meanOf_69 rfl (lv_at hl 7 rfl) ?_
      refine lv_iload hx hb dX8_meanOf_70 (lv_at hl 1 rfl) ?_
      refine ro_i (D := D) (va_runV (As := [.int (nI sn), .int (nI kr), .int (nI q_3)]) (rest := []) ⟨hx, hb, hml, hown, hts⟩ ((n_isRoundBy l D k st lo a tx t0 we rd ru rw ca fp wd nu na ts df db sd se tm gs fruleRounds sn kr q_3 rx htm (by first | assumption | omega) (by first | assumption | omega) (by first | assumption | omega) hrx (by first | assumption | omega)) H.size) (cwV 3 hts (gV tw_1329 tw_1331 tw_59 tw_87 tw_1332) rfl rfl rfl (by decide +kernel) ⟨Nat.le_of_ble_eq_true rfl, Nat.le_of_ble_eq_true rfl⟩) (pV hS hAlo hlo hP hK (va_Dlo hD hAlo) hZ [0, 2, 8] (by decide) rfl (ci := 8) (q := (RX8, TX8, 44)) (q0 := 0) rfl rfl) rfl rfl hl.1 rfl (lv_room (Nat.le_of_ble_eq_true rfl)) dX8_meanOf_72 ⟨Nat.le_of_ble_eq_true rfl, Nat.le_of_ble_eq_true rfl⟩) hS hA hP (fun r_6 H locs hw_6 hP hS => ?_)
      try dsimp only at hw_6
      rcases hw_6 with ⟨rfl, hw_6⟩ | ⟨rfl, hw_6⟩
      · refine lv_if_eq (tgt := 86) hx hb dX8_meanOf_75 (by decide) (fun h => absurd h (by decide)) (fun _ => ?_)
        refine lv_iload hx hb dX8_meanOf_78 (lv_at hl 0 rfl) ?_
        refine lv_iload hx hb dX8_meanOf_80 (lv_at hl 2 rfl) ?_
        refine lv_iadd hx hb dX8_meanOf_82 ?_
        refine lv_topi (fun x_7 ex_7 => ?_)
        refine lv_goto (tgt := 94) hx hb dX8_meanOf_83 (by decide) ?_
        have he_8 : x_7 = pRs (sdM dn (sg se tm gs) ffrees fprices sn) wh + mR (sdM dn (sg se tm gs) ffrees fprices sn) (ruM bm fbarSeen fbarFrom fruleRounds kr) wh (min rx (tm sn)) ((min rx (tm sn)) - (q_3 + 1)) := by rw [ex_7, ← hgo_5]; exact congrArg (fun z => 0 + z) (hv_3.2 (by omega))
        refine lv_istore (lv' := [(9, .int x_7), (8, .int 0), (7, .int (nI q_3)), (6, .int bg_3), (5, .int 0), (4, .int (nI (dn sn))), (0, .ref (a 0)), (1, .int (nI sn)), (2, .int (nI kr)), (3, .int (nI wh))]) hx hb dX8_meanOf_94 hl (by decide) rfl (fun ls hl => ?_)
        refine lv_iconst (v := 0) hx hb dX8_meanOf_96 (by decide) ?_
        refine lv_istore (lv' := [(10, .int 0), (9, .int x_7), (8, .int 0), (7, .int (nI q_3)), (6, .int bg_3), (5, .int 0), (4, .int (nI (dn sn))), (0, .ref (a 0)), (1, .int (nI sn)), (2, .int (nI kr)), (3, .int (nI wh))]) hx hb dX8_meanOf_97 hl (by decide) rfl (fun ls hl => ?_)
        refine W_loop (σ := Nat × (Nat → Int32)) (fun (n_ : Nat) (x_ : Nat × (Nat → Int32)) (H : Heap) (locs : List Loc) (ls : Array Slot) => match x_ with | (kk_9, ff2_9) => n_ = 52 - kk_9 ∧ (kk_9 ≤ 52 ∧ ∀ k, k < kk_9 → ff2_9 k = x_7) ∧ va_P D classes [((a 0), .inr (8, (fX8 a (nI tx) fp (nI t0) wd (nI we) nu na (nI rd) ts (nI ru) (nI rw) (nI ca) df db sd))), (aI k (a 1) 3 (nF dn)), (aI k (a 4) 27 (sg se tm gs)), (aI k (a 2) 72 ffrees), (aI k (a 3) 72 fprices), (aI k (a 25) 4 (nF bm)), (aI k (a 26) 48 fbarSeen), (aI k (a 27) 48 fbarFrom), (aI k (a 28) 4 fruleRounds), (aI k (a 29) 52 ff2_9), (aI k (a 30) 52 fb_3)] H ∧ va_D A [((a 0), .inr (8, (fX8 a (nI tx) fp (nI t0) wd (nI we) nu na (nI rd) ts (nI ru) (nI rw) (nI ca) df db sd))), (aI k (a 1) 3 (nF dn)), (aI k (a 4) 27 (sg se tm gs)), (aI k (a 2) 72 ffrees), (aI k (a 3) 72 fprices), (aI k (a 25) 4 (nF bm)), (aI k (a 26) 48 fbarSeen), (aI k (a 27) 48 fbarFrom), (aI k (a 28) 4 fruleRounds), (aI k (a 29) 52 ff2_9), (aI k (a 30) 52 fb_3)] ∧ va_S A s.heap H locs ∧ lv_has ls 14 [(10, .int (nI kk_9)), (9, .int x_7), (8, .int 0), (7, .int (nI q_3)), (6, .int bg_3), (5, .int 0), (4, .int (nI (dn sn))), (0, .ref (a 0)), (1, .int (nI sn)), (2, .int (nI kr)), (3, .int (nI wh))]) (fun n_9 x_9 H locs ls hI ih_9 => ?_) _ (0, ff_3) ⟨rfl, ⟨by omega, fun k h => absurd h (Nat.not_lt_zero k)⟩, hP, hD, hS, (lv_sub hl [0, 1, 2, 3, 4, 5, 6, 7, 8, 9, 10] rfl)⟩
        obtain ⟨kk_9, ff2_9⟩ := x_9
        obtain ⟨hm_9, hv_9, hP, hD, hS, hl⟩ := hI
        subst hm_9
        refine lv_iload hx hb dX8_meanOf_99 (lv_at hl 0 rfl) ?_
        refine lv_bipush (v := 52) hx hb dX8_meanOf_101 (by decide) ?_
        refine lv_icmp_ge (tgt := 121) hx hb dX8_meanOf_103 (by decide) (fun c_10 => ?_) (fun c_10 => ?_)
        · have c_10 := (nI_leI (a := 52) (b := kk_9) (by omega) (by omega)).mp c_10
          refine lv_iload hx hb dX8_meanOf_121 (lv_at hl 6 rfl) ?_
          refine lv_iconst (v := 1) hx hb dX8_meanOf_123 (by decide) ?_
          refine lv_isub hx hb dX8_meanOf_124 ?_
          refine lv_ti (y := (nI (dn sn) - 1)) rfl ?_
          refine lv_istore (lv' := [(10, .int (nI (dn sn) - 1)), (9, .int x_7), (8, .int 0), (7, .int (nI q_3)), (6, .int bg_3), (5, .int 0), (4, .int (nI (dn sn))), (0, .ref (a 0)), (1, .int (nI sn)), (2, .int (nI kr)), (3, .int (nI wh))]) hx hb dX8_meanOf_125 hl (by decide) rfl (fun ls hl => ?_)
          refine W_loop (σ := Nat × (Nat → Int32) × (Nat → Int32)) (fun (n_ : Nat) (x_ : Nat × (Nat → Int32) × (Nat → Int32)) (H : Heap) (locs : List Loc) (ls : Array Slot) => match x_ with | (qi_11, ff3_11, fb3_11) => n_ = 2 * qi_11 ∧ (qi_11 ≤ dn sn ∧ ∀ k, k < 52 → k / 2 + (dn sn - qi_11) ≤ 25 → ff3_11 k = mV (sdM dn (sg se tm gs) ffrees fprices sn) (ruM bm fbarSeen fbarFrom fruleRounds kr) wh q_3 x_7 (dn sn - qi_11) (k / 2) (k % 2)) ∧ va_P D classes [((a 0), .inr (8, (fX8 a (nI tx) fp (nI t0) wd (nI we) nu na (nI rd) ts (nI ru) (nI rw) (nI ca) df db sd))), (aI k (a 1) 3 (nF dn)), (aI k (a 4) 27 (sg se tm gs)), (aI k (a 2) 72 ffrees), (aI k (a 3) 72 fprices), (aI k (a 25) 4 (nF bm)), (aI k (a 26) 48 fbarSeen), (aI k (a 27) 48 fbarFrom), (aI k (a 28) 4 fruleRounds), (aI k (a 29) 52 ff3_11), (aI k (a 30) 52 fb3_11)] H ∧ va_D A [((a 0), .inr (8, (fX8 a (nI tx) fp (nI t0) wd (nI we) nu na (nI rd) ts (nI ru) (nI rw) (nI ca) df db sd))), (aI k (a 1) 3 (nF dn)), (aI k (a 4) 27 (sg se tm gs)), (aI k (a 2) 72 ffrees), (aI k (a 3) 72 fprices), (aI k (a 25) 4 (nF bm)), (aI k (a 26) 48 fbarSeen), (aI k (a 27) 48 fbarFrom), (aI k (a 28) 4 fruleRounds), (aI k (a 29) 52 ff3_11), (aI k (a 30) 52 fb3_11)] ∧ va_S A s.heap H locs ∧ lv_has ls 14 [(10, .int (nI qi_11 - 1)), (9, .int x_7), (8, .int 0), (7, .int (nI q_3)), (6, .int bg_3), (5, .int 0), (4, .int (nI (dn sn))), (0, .ref (a 0)), (1, .int (nI sn)), (2, .int (nI kr)), (3, .int (nI wh))]) (fun n_11 x_11 H locs ls hI ih_11 => ?_) _ (dn sn, ff2_9, fb_3) ⟨rfl, ⟨by omega, fun k hk _ => by rw [Nat.sub_self]; exact hv_9.2 k (by omega)⟩, hP, hD, hS, (lv_sub hl [0, 1, 2, 3, 4, 5, 6, 7, 8, 9, 10] rfl)⟩
          obtain ⟨qi_11, ff3_11, fb3_11⟩ := x_11
          obtain ⟨hm_11, hv_11, hP, hD, hS, hl⟩ := hI
          subst hm_11
          rcases qi_11 with _ | qi_11
          · rw [dn0] at hl
            refine lv_iload hx hb dX8_meanOf_127 (lv_at hl 0 rfl) ?_
            refine lv_if_lt (tgt := 275) hx hb dX8_meanOf_129 (by decide) (fun _ => ?_) (fun h => absurd (by decide) h)
            refine lv_aload_n hx hb dX8_meanOf_275 rfl (lv_at hl 7 rfl) ?_
            refine va_get (D := D) (ci := 8) (v := .ref (a 29)) (C := RX8) (T := TX8) (N := 44) hx hb hts inX8 hown hK hP 0 rfl rfl 28 (by decide) (hts _ tw_1001) (fun _ h9 => h9) rfl dX8_meanOf_276 ?_
            refine lv_iconst (v := 0) hx hb dX8_meanOf_279 (by decide) ?_
            refine va_iald hx hb hK hP 9 1 rfl rfl (by unfold vp_in; decide) dX8_meanOf_280 ?_
            refine lv_ti (y := (ff3_11 0)) (by rfl) ?_
            refine lv_istore (lv' := [(6, .int (ff3_11 0)), (10, .int (-1)), (9, .int x_7), (8, .int 0), (7, .int (nI q_3)), (5, .int 0), (4, .int (nI (dn sn))), (0, .ref (a 0)), (1, .int (nI sn)), (2, .int (nI kr)), (3, .int (nI wh))]) hx hb dX8_meanOf_281 hl (by decide) rfl (fun ls hl => ?_)
            refine lv_iinc (v := (nI q_3 - 1)) (lv' := [(7, .int (nI q_3 - 1)), (6, .int (ff3_11 0)), (10, .int (-1)), (9, .int x_7), (8, .int 0), (5, .int 0), (4, .int (nI (dn sn))), (0, .ref (a 0)), (1, .int (nI sn)), (2, .int (nI kr)), (3, .int (nI wh))]) hx hb dX8_meanOf_283 hl (k := 4) rfl (dn1 _) (by decide) rfl (fun ls hl => ?_)
            refine lv_goto (tgt := 34) hx hb dX8_meanOf_286 (by decide) ?_
            exact ih_3 _ (q_3, (ff3_11 0), ff3_11, fb3_11) _ _ _ (by omega) ⟨rfl, ⟨by omega, fun h => (show ff3_11 0 = mV (sdM dn (sg se tm gs) ffrees fprices sn) (ruM bm fbarSeen fbarFrom fruleRounds kr) wh q_3 x_7 (dn sn) 0 0 from hv_11.2 0 (by omega) (by omega)).trans (mr_of h (fun _ => he_8) (fun h => absurd h (by omega)))⟩, hP, hD, hS, (lv_sub hl [0, 1, 5, 6, 7, 8, 9, 10] rfl)⟩
          · rw [nI_pred] at hl
            refine lv_iload hx hb dX8_meanOf_127 (lv_at hl 0 rfl) ?_
            refine lv_if_lt (tgt := 275) hx hb dX8_meanOf_129 (by decide) (fun h => absurd h (nI_pos0 (by omega))) (fun _ => ?_)
            refine lv_iconst (v := 0) hx hb dX8_meanOf_132 (by decide) ?_
            refine lv_istore (lv' := [(11, .int 0), (10, .int (nI qi_11)), (9, .int x_7), (8, .int 0), (7, .int (nI q_3)), (6, .int bg_3), (5, .int 0), (4, .int (nI (dn sn))), (0, .ref (a 0)), (1, .int (nI sn)), (2, .int (nI kr)), (3, .int (nI wh))]) hx hb dX8_meanOf_133 hl (by decide) rfl (fun ls hl => ?_)
            refine W_loop (σ := Nat × (Nat → Int32)) (fun (n_ : Nat) (x_ : Nat × (Nat → Int32)) (H : Heap) (locs : List Loc) (ls : Array Slot) => match x_ with | (k2_12, fb4_12) => n_ = 50 - k2_12 ∧ (k2_12 ≤ 50 ∧ ∀ k, k < k2_12 → k / 2 + (dn sn - qi_11) ≤ 25 → fb4_12 k = mV (sdM dn (sg se tm gs) ffrees fprices sn) (ruM bm fbarSeen fbarFrom fruleRounds kr) wh q_3 x_7 (dn sn - qi_11) (k / 2) (k % 2)) ∧ va_P D classes [((a 0), .inr (8, (fX8 a (nI tx) fp (nI t0) wd (nI we) nu na (nI rd) ts (nI ru) (nI rw) (nI ca) df db sd))), (aI k (a 1) 3 (nF dn)), (aI k (a 4) 27 (sg se tm gs)), (aI k (a 2) 72 ffrees), (aI k (a 3) 72 fprices), (aI k (a 25) 4 (nF bm)), (aI k (a 26) 48 fbarSeen), (aI k (a 27) 48 fbarFrom), (aI k (a 28) 4 fruleRounds), (aI k (a 29) 52 ff3_11), (aI k (a 30) 52 fb4_12)] H ∧ va_D A [((a 0), .inr (8, (fX8 a (nI tx) fp (nI t0) wd (nI we) nu na (nI rd) ts (nI ru) (nI rw) (nI ca) df db sd))), (aI k (a 1) 3 (nF dn)), (aI k (a 4) 27 (sg se tm gs)), (aI k (a 2) 72 ffrees), (aI k (a 3) 72 fprices), (aI k (a 25) 4 (nF bm)), (aI k (a 26) 48 fbarSeen), (aI k (a 27) 48 fbarFrom), (aI k (a 28) 4 fruleRounds), (aI k (a 29) 52 ff3_11), (aI k (a 30) 52 fb4_12)] ∧ va_S A s.heap H locs ∧ lv_has ls 14 [(11, .int (nI k2_12)), (10, .int (nI qi_11)), (9, .int x_7), (8, .int 0), (7, .int (nI q_3)), (6, .int bg_3), (5, .int 0), (4, .int (nI (dn sn))), (0, .ref (a 0)), (1, .int (nI sn)), (2, .int (nI kr)), (3, .int (nI wh))]) (fun n_12 x_12 H locs ls hI ih_12 => ?_) _ (0, fb3_11) ⟨rfl, ⟨by omega, fun k h => absurd h (Nat.not_lt_zero k)⟩, hP, hD, hS, (lv_sub hl [0, 1, 2, 3, 4, 5, 6, 7, 8, 9, 10, 11] rfl)⟩
            obtain ⟨k2_12, fb4_12⟩ := x_12
            obtain ⟨hm_12, hv_12, hP, hD, hS, hl⟩ := hI
            subst hm_12
            refine lv_iload hx hb dX8_meanOf_135 (lv_at hl 0 rfl) ?_
            refine lv_bipush (v := 50) hx hb dX8_meanOf_137 (by decide) ?_
            refine lv_icmp_ge (tgt := 239) hx hb dX8_meanOf_139 (by decide) (fun c_13 => ?_) (fun c_13 => ?_)
            · have c_13 := (nI_leI (a := 50) (b := k2_12) (by omega) (by omega)).mp c_13
              refine lv_iconst (v := 0) hx hb dX8_meanOf_239 (by decide) ?_
              refine lv_istore (lv' := [(11, .int 0), (10, .int (nI qi_11)), (9, .int x_7), (8, .int 0), (7, .int (nI q_3)), (6, .int bg_3), (5, .int 0), (4, .int (nI (dn sn))), (0, .ref (a 0)), (1, .int (nI sn)), (2, .int (nI kr)), (3, .int (nI wh))]) hx hb dX8_meanOf_240 hl (by decide) rfl (fun ls hl => ?_)
              refine W_loop (σ := Nat × (Nat → Int32)) (fun (n_ : Nat) (x_ : Nat × (Nat → Int32)) (H : Heap) (locs : List Loc) (ls : Array Slot) => match x_ with | (k3_14, ff5_14) => n_ = 50 - k3_14 ∧ (k3_14 ≤ 50 ∧ (∀ k, k < k3_14 → k / 2 + (dn sn - qi_11) ≤ 25 → ff5_14 k = mV (sdM dn (sg se tm gs) ffrees fprices sn) (ruM bm fbarSeen fbarFrom fruleRounds kr) wh q_3 x_7 (dn sn - qi_11) (k / 2) (k % 2)) ∧ True) ∧ va_P D classes [((a 0), .inr (8, (fX8 a (nI tx) fp (nI t0) wd (nI we) nu na (nI rd) ts (nI ru) (nI rw) (nI ca) df db sd))), (aI k (a 1) 3 (nF dn)), (aI k (a 4) 27 (sg se tm gs)), (aI k (a 2) 72 ffrees), (aI k (a 3) 72 fprices), (aI k (a 25) 4 (nF bm)), (aI k (a 26) 48 fbarSeen), (aI k (a 27) 48 fbarFrom), (aI k (a 28) 4 fruleRounds), (aI k (a 29) 52 ff5_14), (aI k (a 30) 52 fb4_12)] H ∧ va_D A [((a 0), .inr (8, (fX8 a (nI tx) fp (nI t0) wd (nI we) nu na (nI rd) ts (nI ru) (nI rw) (nI ca) df db sd))), (aI k (a 1) 3 (nF dn)), (aI k (a 4) 27 (sg se tm gs)), (aI k (a 2) 72 ffrees), (aI k (a 3) 72 fprices), (aI k (a 25) 4 (nF bm)), (aI k (a 26) 48 fbarSeen), (aI k (a 27) 48 fbarFrom), (aI k (a 28) 4 fruleRounds), (aI k (a 29) 52 ff5_14), (aI k (a 30) 52 fb4_12)] ∧ va_S A s.heap H locs ∧ lv_has ls 14 [(11, .int (nI k3_14)), (10, .int (nI qi_11)), (9, .int x_7), (8, .int 0), (7, .int (nI q_3)), (6, .int bg_3), (5, .int 0), (4, .int (nI (dn sn))), (0, .ref (a 0)), (1, .int (nI sn)), (2, .int (nI kr)), (3, .int (nI wh))]) (fun n_14 x_14 H locs ls hI ih_14 => ?_) _ (0, ff3_11) ⟨rfl, ⟨by omega, fun k h => absurd h (Nat.not_lt_zero k), trivial⟩, hP, hD, hS, (lv_sub hl [0, 1, 2, 3, 4, 5, 6, 7, 8, 9, 10, 11] rfl)⟩
              obtain ⟨k3_14, ff5_14⟩ := x_14
              obtain ⟨hm_14, hv_14, hP, hD, hS, hl⟩ := hI
              subst hm_14
              refine lv_iload hx hb dX8_meanOf_242 (lv_at hl 0 rfl) ?_
              refine lv_bipush (v := 50) hx hb dX8_meanOf_244 (by decide) ?_
              refine lv_icmp_ge (tgt := 269) hx hb dX8_meanOf_246 (by decide) (fun c_15 => ?_) (fun c_15 => ?_)
              · have c_15 := (nI_leI (a := 50) (b := k3_14) (by omega) (by omega)).mp c_15
                refine lv_iinc (v := (nI qi_11 - 1)) (lv' := [(10, .int (nI qi_11 - 1)), (11, .int (nI k3_14)), (9, .int x_7), (8, .int 0), (7, .int (nI q_3)), (6, .int bg_3), (5, .int 0), (4, .int (nI (dn sn))), (0, .ref (a 0)), (1, .int (nI sn)), (2, .int (nI kr)), (3, .int (nI wh))]) hx hb dX8_meanOf_269 hl (k := 1) rfl (dn1 _) (by decide) rfl (fun ls hl => ?_)
                refine lv_goto (tgt := 127) hx hb dX8_meanOf_272 (by decide) ?_
                exact ih_11 _ (qi_11, ff5_14, fb4_12) _ _ _ (by omega) ⟨rfl, ⟨by omega, fun k hk hp => hv_14.2.1 k (by omega) hp⟩, hP, hD, hS, (lv_sub hl [0, 2, 3, 4, 5, 6, 7, 8, 9, 10, 11] rfl)⟩
              · have c_15 : ¬ (50 ≤ k3_14) := fun h => c_15 ((nI_leI (a := 50) (b := k3_14) (by omega) (by omega)).mpr h)
                refine lv_aload_n hx hb dX8_meanOf_249 rfl (lv_at hl 8 rfl) ?_
                refine va_get (D := D) (ci := 8) (v := .ref (a 29)) (C := RX8) (T := TX8) (N := 44) hx hb hts inX8 hown hK hP 0 rfl rfl 28 (by decide) (hts _ tw_1001) (fun _ h9 => h9) rfl dX8_meanOf_250 ?_
                refine lv_iload hx hb dX8_meanOf_253 (lv_at hl 0 rfl) ?_
                refine lv_aload_n hx hb dX8_meanOf_255 rfl (lv_at hl 8 rfl) ?_
                refine va_get (D := D) (ci := 8) (v := .ref (a 30)) (C := RX8) (T := TX8) (N := 44) hx hb hts inX8 hown hK hP 0 rfl rfl 29 (by decide) (hts _ tw_1002) (fun _ h9 => h9) rfl dX8_meanOf_256 ?_
                refine lv_iload hx hb dX8_meanOf_259 (lv_at hl 0 rfl) ?_
                refine va_iald hx hb hK hP 10 1 rfl rfl (vp_in_nI (by omega) (by decide)) dX8_meanOf_261 ?_
                refine lv_ti (y := (fb4_12 k3_14)) (by rw [nI_clamp (by omega)]) ?_
                refine va_iast hx hb hK hP hD hS 9 1 rfl rfl (vp_in_nI (by omega) (by decide)) dX8_meanOf_262 (fun H locs hP hD hS => ?_)
                replace hP : va_P D classes [((a 0), .inr (8, (fX8 a (nI tx) fp (nI t0) wd (nI we) nu na (nI rd) ts (nI ru) (nI rw) (nI ca) df db sd))), (aI k (a 1) 3 (nF dn)), (aI k (a 4) 27 (sg se tm gs)), (aI k (a 2) 72 ffrees), (aI k (a 3) 72 fprices), (aI k (a 25) 4 (nF bm)), (aI k (a 26) 48 fbarSeen), (aI k (a 27) 48 fbarFrom), (aI k (a 28) 4 fruleRounds), (aI k (a 29) 52 (upd ff5_14 (Int32.toNatClampNeg (nI k3_14)) (fb4_12 k3_14))), (aI k (a 30) 52 fb4_12)] H := hP
                replace hD : va_D A [((a 0), .inr (8, (fX8 a (nI tx) fp (nI t0) wd (nI we) nu na (nI rd) ts (nI ru) (nI rw) (nI ca) df db sd))), (aI k (a 1) 3 (nF dn)), (aI k (a 4) 27 (sg se tm gs)), (aI k (a 2) 72 ffrees), (aI k (a 3) 72 fprices), (aI k (a 25) 4 (nF bm)), (aI k (a 26) 48 fbarSeen), (aI k (a 27) 48 fbarFrom), (aI k (a 28) 4 fruleRounds), (aI k (a 29) 52 (upd ff5_14 (Int32.toNatClampNeg (nI k3_14)) (fb4_12 k3_14))), (aI k (a 30) 52 fb4_12)] := hD
                rw [nI_clamp (n := k3_14) (by omega)] at hP hD
                replace hP : va_P D classes [((a 0), .inr (8, (fX8 a (nI tx) fp (nI t0) wd (nI we) nu na (nI rd) ts (nI ru) (nI rw) (nI ca) df db sd))), (aI k (a 1) 3 (nF dn)), (aI k (a 4) 27 (sg se tm gs)), (aI k (a 2) 72 ffrees), (aI k (a 3) 72 fprices), (aI k (a 25) 4 (nF bm)), (aI k (a 26) 48 fbarSeen), (aI k (a 27) 48 fbarFrom), (aI k (a 28) 4 fruleRounds), (aI k (a 29) 52 (upd ff5_14 k3_14 (fb4_12 k3_14))), (aI k (a 30) 52 fb4_12)] H := hP
                replace hD : va_D A [((a 0), .inr (8, (fX8 a (nI tx) fp (nI t0) wd (nI we) nu na (nI rd) ts (nI ru) (nI rw) (nI ca) df db sd))), (aI k (a 1) 3 (nF dn)), (aI k (a 4) 27 (sg se tm gs)), (aI k (a 2) 72 ffrees), (aI k (a 3) 72 fprices), (aI k (a 25) 4 (nF bm)), (aI k (a 26) 48 fbarSeen), (aI k (a 27) 48 fbarFrom), (aI k (a 28) 4 fruleRounds), (aI k (a 29) 52 (upd ff5_14 k3_14 (fb4_12 k3_14))), (aI k (a 30) 52 fb4_12)] := hD
                refine lv_iinc (v := (nI (k3_14 + 1))) (lv' := [(11, .int (nI (k3_14 + 1))), (10, .int (nI qi_11)), (9, .int x_7), (8, .int 0), (7, .int (nI q_3)), (6, .int bg_3), (5, .int 0), (4, .int (nI (dn sn))), (0, .ref (a 0)), (1, .int (nI sn)), (2, .int (nI kr)), (3, .int (nI wh))]) hx hb dX8_meanOf_263 hl (k := 0) rfl (nI_add k3_14 1) (by decide) rfl (fun ls hl => ?_)
                refine lv_goto (tgt := 242) hx hb dX8_meanOf_266 (by decide) ?_
                exact ih_14 _ (k3_14 + 1, (upd ff5_14 k3_14 (fb4_12 k3_14))) _ _ _ (by omega) ⟨rfl, ⟨by omega, la_updc (F := fun k => mV (sdM dn (sg se tm gs) ffrees fprices sn) (ruM bm fbarSeen fbarFrom fruleRounds kr) wh q_3 x_7 (dn sn - qi_11) (k / 2) (k % 2)) (P := fun k => k / 2 + (dn sn - qi_11) ≤ 25) hv_14.2.1 (hv_12.2 k3_14 (by omega)), trivial⟩, hP, hD, hS, (lv_sub hl [0, 1, 2, 3, 4, 5, 6, 7, 8, 9, 10, 11] rfl)⟩
            · have c_13 : ¬ (50 ≤ k2_12) := fun h => c_13 ((nI_leI (a := 50) (b := k2_12) (by omega) (by omega)).mpr h)
              refine lv_iload hx hb dX8_meanOf_142 (lv_at hl 0 rfl) ?_
              refine lv_iconst (v := 2) hx hb dX8_meanOf_144 (by decide) ?_
              refine lv_idiv hx hb dX8_meanOf_145 (by decide) ?_
              refine lv_ti (y := (nI (k2_12 / 2))) (pk_div (by omega) (by decide) (by decide)) ?_
              refine lv_istore (lv' := [(12, .int (nI (k2_12 / 2))), (11, .int (nI k2_12)), (10, .int (nI qi_11)), (9, .int x_7), (8, .int 0), (7, .int (nI q_3)), (6, .int bg_3), (5, .int 0), (4, .int (nI (dn sn))), (0, .ref (a 0)), (1, .int (nI sn)), (2, .int (nI kr)), (3, .int (nI wh))]) hx hb dX8_meanOf_146 hl (by decide) rfl (fun ls hl => ?_)
              refine lv_aload_n hx hb dX8_meanOf_148 rfl (lv_at hl 9 rfl) ?_
              refine lv_iload_n hx hb dX8_meanOf_149 rfl (lv_at hl 11 rfl) ?_
              refine lv_iload hx hb dX8_meanOf_150 (lv_at hl 2 rfl) ?_
              refine lv_iload hx hb dX8_meanOf_152 (lv_at hl 0 rfl) ?_
              refine ro_i (D := D) (va_runV (As := [.int (nI kr), .int (nI qi_11), .int (nI (k2_12 / 2))]) (rest := []) ⟨hx, hb, hml, hown, hts⟩ ((n_isFor l D k st lo a tx t0 we rd ru rw ca fp wd nu na ts df db sd bm fbarSeen fbarFrom fruleRounds kr qi_11 (k2_12 / 2) hbm (by first | assumption | omega)) H.size) (cwV 3 hts (gV tw_1338 tw_1340 tw_61 tw_87 tw_1341) rfl rfl rfl (by decide +kernel) ⟨Nat.le_of_ble_eq_true rfl, Nat.le_of_ble_eq_true rfl⟩) (pV hS hAlo hlo hP hK (va_Dlo hD hAlo) hZ [0, 5, 6, 7, 8] (by decide) rfl (ci := 8) (q := (RX8, TX8, 44)) (q0 := 0) rfl rfl) rfl rfl hl.1 rfl (lv_room (Nat.le_of_ble_eq_true rfl)) dX8_meanOf_154 ⟨Nat.le_of_ble_eq_true rfl, Nat.le_of_ble_eq_true rfl⟩) hS hA hP (fun r_17 H locs hw_17 hP hS => ?_)
              try dsimp only at hw_17
              rcases hw_17 with ⟨rfl, hw_17⟩ | ⟨rfl, hw_17⟩
              · refine lv_if_eq (tgt := 173) hx hb dX8_meanOf_157 (by decide) (fun h => absurd h (by decide)) (fun _ => ?_)
                refine lv_aload_n hx hb dX8_meanOf_160 rfl (lv_at hl 9 rfl) ?_
                refine lv_iload_n hx hb dX8_meanOf_161 rfl (lv_at hl 10 rfl) ?_
                refine lv_iload hx hb dX8_meanOf_162 (lv_at hl 5 rfl) ?_
                refine lv_iload hx hb dX8_meanOf_164 (lv_at hl 2 rfl) ?_
                refine lv_iload_n hx hb dX8_meanOf_166 rfl (lv_at hl 12 rfl) ?_
                refine ro_i (D := D) (va_runV (As := [.int (nI sn), .int (nI q_3), .int (nI qi_11), .int (nI wh)]) (rest := []) ⟨hx, hb, hml, hown, hts⟩ ((n_byTaking l D k st lo a tx t0 we rd ru rw ca fp wd nu na ts df db sd dn se tm gs fprices sn qi_11 (nI q_3) (nI wh) (by first | assumption | omega) (by first | assumption | omega)) H.size) (cwV 4 hts (gV tw_1342 tw_1344 tw_62 tw_87 tw_1345) rfl rfl rfl (by decide +kernel) ⟨Nat.le_of_ble_eq_true rfl, Nat.le_of_ble_eq_true rfl⟩) (pV hS hAlo hlo hP hK (va_Dlo hD hAlo) hZ [0, 1, 2, 4] (by decide) rfl (ci := 8) (q := (RX8, TX8, 44)) (q0 := 0) rfl rfl) rfl rfl hl.1 rfl (lv_room (Nat.le_of_ble_eq_true rfl)) dX8_meanOf_167 ⟨Nat.le_of_ble_eq_true rfl, Nat.le_of_ble_eq_true rfl⟩) hS hA hP (fun r_18 H locs hw_18 hP hS => ?_)
                try dsimp only at hw_18
                refine lv_goto (tgt := 187) hx hb dX8_meanOf_170 (by decide) ?_
                refine lv_istore (lv' := [(13, .int r_18), (12, .int (nI (k2_12 / 2))), (11, .int (nI k2_12)), (10, .int (nI qi_11)), (9, .int x_7), (8, .int 0), (7, .int (nI q_3)), (6, .int bg_3), (5, .int 0), (4, .int (nI (dn sn))), (0, .ref (a 0)), (1, .int (nI sn)), (2, .int (nI kr)), (3, .int (nI wh))]) hx hb dX8_meanOf_187 hl (by decide) rfl (fun ls hl => ?_)
                refine lv_aload_n hx hb dX8_meanOf_189 rfl (lv_at hl 10 rfl) ?_
                refine va_get (D := D) (ci := 8) (v := .ref (a 30)) (C := RX8) (T := TX8) (N := 44) hx hb hts inX8 hown hK hP 0 rfl rfl 29 (by decide) (hts _ tw_1002) (fun _ h9 => h9) rfl dX8_meanOf_190 ?_
                refine lv_iload hx hb dX8_meanOf_193 (lv_at hl 2 rfl) ?_
                refine lv_aload_n hx hb dX8_meanOf_195 rfl (lv_at hl 10 rfl) ?_
                refine lv_iload_n hx hb dX8_meanOf_196 rfl (lv_at hl 11 rfl) ?_
                refine lv_iload hx hb dX8_meanOf_197 (lv_at hl 3 rfl) ?_
                refine lv_iload hx hb dX8_meanOf_199 (lv_at hl 2 rfl) ?_
                refine lv_iconst (v := 2) hx hb dX8_meanOf_201 (by decide) ?_
                refine lv_irem hx hb dX8_meanOf_202 (by decide) ?_
                refine lv_ti (y := (nI (k2_12 % 2))) (pk_rem (by omega) (by decide) (by decide)) ?_
                refine lv_iconst (v := 1) hx hb dX8_meanOf_203 (by decide) ?_
                refine lv_icmp_ne (tgt := 211) hx hb dX8_meanOf_204 (by decide) (fun c_19 => ?_) (fun c_19 => ?_)
                · have c_19 : ¬ ((k2_12 % 2) = 1) := fun h => c_19 ((nI_eq (a := (k2_12 % 2)) (b := 1) (by omega) (by omega)).mpr h)
                  refine lv_iconst (v := 0) hx hb dX8_meanOf_211 (by decide) ?_
                  refine ro_i (D := D) (va_runV (As := [.int (nI sn), .int (nI qi_11), .int 0]) (rest := [.int (nI k2_12), .ref (a 30)]) ⟨hx, hb, hml, hown, hts⟩ ((n_chanceOf l D k st lo a tx t0 we rd ru rw ca fp wd nu na ts df db sd ffrees se tm gs sn qi_11 0 (by first | assumption | omega) (by first | assumption | omega)) H.size) (cwV 3 hts (gV tw_1210 tw_1212 tw_41 tw_87 tw_1213) rfl rfl rfl (by decide +kernel) ⟨Nat.le_of_ble_eq_true rfl, Nat.le_of_ble_eq_true rfl⟩) (pV hS hAlo hlo hP hK (va_Dlo hD hAlo) hZ [0, 3, 2] (by decide) rfl (ci := 8) (q := (RX8, TX8, 44)) (q0 := 0) rfl rfl) rfl rfl hl.1 rfl (lv_room (Nat.le_of_ble_eq_true rfl)) dX8_meanOf_212 ⟨Nat.le_of_ble_eq_true rfl, Nat.le_of_ble_eq_true rfl⟩) hS hA hP (fun r_20 H locs hw_20 hP hS => ?_)
                  try dsimp only at hw_20
                  refine lv_iload hx hb dX8_meanOf_215 (lv_at hl 0 rfl) ?_
                  refine lv_iload hx hb dX8_meanOf_217 (lv_at hl 8 rfl) ?_
                  refine lv_aload_n hx hb dX8_meanOf_219 rfl (lv_at hl 10 rfl) ?_
                  refine va_get (D := D) (ci := 8) (v := .ref (a 29)) (C := RX8) (T := TX8) (N := 44) hx hb hts inX8 hown hK hP 0 rfl rfl 28 (by decide) (hts _ tw_1001) (fun _ h9 => h9) rfl dX8_meanOf_220 ?_
                  refine lv_iconst (v := 2) hx hb dX8_meanOf_223 (by decide) ?_
                  refine lv_iload hx hb dX8_meanOf_224 (lv_at hl 1 rfl) ?_
                  refine lv_imul hx hb dX8_meanOf_226 ?_
                  refine lv_ti (y := (nI (2 * (k2_12 / 2)))) (pk_mul 2 (k2_12 / 2)) ?_
                  refine va_iald hx hb hK hP 9 1 rfl rfl (vp_in_nI (by omega) (by decide)) dX8_meanOf_227 ?_
                  refine lv_ti (y := (ff3_11 (2 * (k2_12 / 2)))) (by rw [nI_clamp (by omega)]) ?_
                  refine lv_iadd hx hb dX8_meanOf_228 ?_
                  refine lv_topi (fun x_21 ex_21 => ?_)
                  refine ro_i (D := D) (va_runS (As := [.int r_20, .int r_18, .int x_21]) (rest := [.int (nI k2_12), .ref (a 30)]) ⟨hx, hb, hml, hown, hts⟩ ((n_mixed l D k st lo r_20 r_18 x_21) H.size) (va_cwS 3 hts (gS tw_1269 tw_1270 tw_87 tw_1271) rfl rfl rfl (by decide +kernel) ⟨Nat.le_of_ble_eq_true rfl, Nat.le_of_ble_eq_true rfl⟩) (pS hS hAlo hlo hP hK (va_Dlo hD hAlo) hZ [] (by decide) rfl) rfl rfl hl.1 rfl (lv_room (Nat.le_of_ble_eq_true rfl)) dX8_meanOf_229 ⟨Nat.le_of_ble_eq_true rfl, Nat.le_of_ble_eq_true rfl⟩) hS hA hP (fun r_22 H locs hw_22 hP hS => ?_)
                  try dsimp only at hw_22
                  refine va_iast hx hb hK hP hD hS 10 1 rfl rfl (vp_in_nI (by omega) (by decide)) dX8_meanOf_232 (fun H locs hP hD hS => ?_)
                  replace hP : va_P D classes [((a 0), .inr (8, (fX8 a (nI tx) fp (nI t0) wd (nI we) nu na (nI rd) ts (nI ru) (nI rw) (nI ca) df db sd))), (aI k (a 1) 3 (nF dn)), (aI k (a 4) 27 (sg se tm gs)), (aI k (a 2) 72 ffrees), (aI k (a 3) 72 fprices), (aI k (a 25) 4 (nF bm)), (aI k (a 26) 48 fbarSeen), (aI k (a 27) 48 fbarFrom), (aI k (a 28) 4 fruleRounds), (aI k (a 29) 52 ff3_11), (aI k (a 30) 52 (upd fb4_12 (Int32.toNatClampNeg (nI k2_12)) r_22))] H := hP
                  replace hD : va_D A [((a 0), .inr (8, (fX8 a (nI tx) fp (nI t0) wd (nI we) nu na (nI rd) ts (nI ru) (nI rw) (nI ca) df db sd))), (aI k (a 1) 3 (nF dn)), (aI k (a 4) 27 (sg se tm gs)), (aI k (a 2) 72 ffrees), (aI k (a 3) 72 fprices), (aI k (a 25) 4 (nF bm)), (aI k (a 26) 48 fbarSeen), (aI k (a 27) 48 fbarFrom), (aI k (a 28) 4 fruleRounds), (aI k (a 29) 52 ff3_11), (aI k (a 30) 52 (upd fb4_12 (Int32.toNatClampNeg (nI k2_12)) r_22))] := hD
                  rw [nI_clamp (n := k2_12) (by omega)] at hP hD
                  replace hP : va_P D classes [((a 0), .inr (8, (fX8 a (nI tx) fp (nI t0) wd (nI we) nu na (nI rd) ts (nI ru) (nI rw) (nI ca) df db sd))), (aI k (a 1) 3 (nF dn)), (aI k (a 4) 27 (sg se tm gs)), (aI k (a 2) 72 ffrees), (aI k (a 3) 72 fprices), (aI k (a 25) 4 (nF bm)), (aI k (a 26) 48 fbarSeen), (aI k (a 27) 48 fbarFrom), (aI k (a 28) 4 fruleRounds), (aI k (a 29) 52 ff3_11), (aI k (a 30) 52 (upd fb4_12 k2_12 r_22))] H := hP
                  replace hD : va_D A [((a 0), .inr (8, (fX8 a (nI tx) fp (nI t0) wd (nI we) nu na (nI rd) ts (nI ru) (nI rw) (nI ca) df db sd))), (aI k (a 1) 3 (nF dn)), (aI k (a 4) 27 (sg se tm gs)), (aI k (a 2) 72 ffrees), (aI k (a 3) 72 fprices), (aI k (a 25) 4 (nF bm)), (aI k (a 26) 48 fbarSeen), (aI k (a 27) 48 fbarFrom), (aI k (a 28) 4 fruleRounds), (aI k (a 29) 52 ff3_11), (aI k (a 30) 52 (upd fb4_12 k2_12 r_22))] := hD
                  refine lv_iinc (v := (nI (k2_12 + 1))) (lv' := [(11, .int (nI (k2_12 + 1))), (13, .int r_18), (12, .int (nI (k2_12 / 2))), (10, .int (nI qi_11)), (9, .int x_7), (8, .int 0), (7, .int (nI q_3)), (6, .int bg_3), (5, .int 0), (4, .int (nI (dn sn))), (0, .ref (a 0)), (1, .int (nI sn)), (2, .int (nI kr)), (3, .int (nI wh))]) hx hb dX8_meanOf_233 hl (k := 2) rfl (nI_add k2_12 1) (by decide) rfl (fun ls hl => ?_)
                  refine lv_goto (tgt := 135) hx hb dX8_meanOf_236 (by decide) ?_
                  have hx_12 : (k2_12 / 2) + (dn sn - qi_11) ≤ 25 → r_22 = mV (sdM dn (sg se tm gs) ffrees fprices sn) (ruM bm fbarSeen fbarFrom fruleRounds kr) wh q_3 x_7 (dn sn - qi_11) (k2_12 / 2) (k2_12 % 2) := fun hk => mv_v (d := (sdM dn (sg se tm gs) ffrees fprices sn)) (u := (ruM bm fbarSeen fbarFrom fruleRounds kr)) (wh := wh) (r := q_3) (E := x_7) (p := (k2_12 / 2)) (a := k2_12 % 2) (show qi_11 < dn sn by omega) (show _ = pChance (sdM dn (sg se tm gs) ffrees fprices sn) qi_11 (nI (k2_12 % 2)) from by rw [show k2_12 % 2 = 0 by omega]; exact hw_20.trans (mChance (fpr := fprices) (show qi_11 < dn sn by omega))) (by rw [if_pos hw_17]; exact hw_18.trans (mByT hg9 (by omega) (by omega) (by omega) (by omega))) (by rw [← hps_2, ex_21]; exact congrArg (fun z => 0 + z) (by have h9 := hv_11.2 (2 * (k2_12 / 2)) (by omega) (by omega); rw [show (2 * (k2_12 / 2)) / 2 = (k2_12 / 2) by omega, show (2 * (k2_12 / 2)) % 2 = 0 by omega] at h9; exact h9)) hw_22
                  exact ih_12 _ (k2_12 + 1, (upd fb4_12 k2_12 r_22)) _ _ _ (by omega) ⟨rfl, ⟨by omega, la_updc (F := fun k => mV (sdM dn (sg se tm gs) ffrees fprices sn) (ruM bm fbarSeen fbarFrom fruleRounds kr) wh q_3 x_7 (dn sn - qi_11) (k / 2) (k % 2)) (P := fun k => k / 2 + (dn sn - qi_11) ≤ 25) hv_12.2 hx_12⟩, hP, hD, hS, (lv_sub hl [0, 3, 4, 5, 6, 7, 8, 9, 10, 11, 12, 13] rfl)⟩
                · have c_19 := (nI_eq (a := (k2_12 % 2)) (b := 1) (by omega) (by omega)).mp c_19
                  refine lv_iconst (v := 1) hx hb dX8_meanOf_207 (by decide) ?_
                  refine lv_goto (tgt := 212) hx hb dX8_meanOf_208 (by decide) ?_
                  refine ro_i (D := D) (va_runV (As := [.int (nI sn), .int (nI qi_11), .int 1]) (rest := [.int (nI k2_12), .ref (a 30)]) ⟨hx, hb, hml, hown, hts⟩ ((n_chanceOf l D k st lo a tx t0 we rd ru rw ca fp wd nu na ts df db sd ffrees se tm gs sn qi_11 1 (by first | assumption | omega) (by first | assumption | omega)) H.size) (cwV 3 hts (gV tw_1210 tw_1212 tw_41 tw_87 tw_1213) rfl rfl rfl (by decide +kernel) ⟨Nat.le_of_ble_eq_true rfl, Nat.le_of_ble_eq_true rfl⟩) (pV hS hAlo hlo hP hK (va_Dlo hD hAlo) hZ [0, 3, 2] (by decide) rfl (ci := 8) (q := (RX8, TX8, 44)) (q0 := 0) rfl rfl) rfl rfl hl.1 rfl (lv_room (Nat.le_of_ble_eq_true rfl)) dX8_meanOf_212 ⟨Nat.le_of_ble_eq_true rfl, Nat.le_of_ble_eq_true rfl⟩) hS hA hP (fun r_24 H locs hw_24 hP hS => ?_)
                  try dsimp only at hw_24
                  refine lv_iload hx hb dX8_meanOf_215 (lv_at hl 0 rfl) ?_
                  refine lv_iload hx hb dX8_meanOf_217 (lv_at hl 8 rfl) ?_
                  refine lv_aload_n hx hb dX8_meanOf_219 rfl (lv_at hl 10 rfl) ?_
                  refine va_get (D := D) (ci := 8) (v := .ref (a 29)) (C := RX8) (T := TX8) (N := 44) hx hb hts inX8 hown hK hP 0 rfl rfl 28 (by decide) (hts _ tw_1001) (fun _ h9 => h9) rfl dX8_meanOf_220 ?_
                  refine lv_iconst (v := 2) hx hb dX8_meanOf_223 (by decide) ?_
                  refine lv_iload hx hb dX8_meanOf_224 (lv_at hl 1 rfl) ?_
                  refine lv_imul hx hb dX8_meanOf_226 ?_
                  refine lv_ti (y := (nI (2 * (k2_12 / 2)))) (pk_mul 2 (k2_12 / 2)) ?_
                  refine va_iald hx hb hK hP 9 1 rfl rfl (vp_in_nI (by omega) (by decide)) dX8_meanOf_227 ?_
                  refine lv_ti (y := (ff3_11 (2 * (k2_12 / 2)))) (by rw [nI_clamp (by omega)]) ?_
                  refine lv_iadd hx hb dX8_meanOf_228 ?_
                  refine lv_topi (fun x_25 ex_25 => ?_)
                  refine ro_i (D := D) (va_runS (As := [.int r_24, .int r_18, .int x_25]) (rest := [.int (nI k2_12), .ref (a 30)]) ⟨hx, hb, hml, hown, hts⟩ ((n_mixed l D k st lo r_24 r_18 x_25) H.size) (va_cwS 3 hts (gS tw_1269 tw_1270 tw_87 tw_1271) rfl rfl rfl (by decide +kernel) ⟨Nat.le_of_ble_eq_true rfl, Nat.le_of_ble_eq_true rfl⟩) (pS hS hAlo hlo hP hK (va_Dlo hD hAlo) hZ [] (by decide) rfl) rfl rfl hl.1 rfl (lv_room (Nat.le_of_ble_eq_true rfl)) dX8_meanOf_229 ⟨Nat.le_of_ble_eq_true rfl, Nat.le_of_ble_eq_true rfl⟩) hS hA hP (fun r_26 H locs hw_26 hP hS => ?_)
                  try dsimp only at hw_26
                  refine va_iast hx hb hK hP hD hS 10 1 rfl rfl (vp_in_nI (by omega) (by decide)) dX8_meanOf_232 (fun H locs hP hD hS => ?_)
                  replace hP : va_P D classes [((a 0), .inr (8, (fX8 a (nI tx) fp (nI t0) wd (nI we) nu na (nI rd) ts (nI ru) (nI rw) (nI ca) df db sd))), (aI k (a 1) 3 (nF dn)), (aI k (a 4) 27 (sg se tm gs)), (aI k (a 2) 72 ffrees), (aI k (a 3) 72 fprices), (aI k (a 25) 4 (nF bm)), (aI k (a 26) 48 fbarSeen), (aI k (a 27) 48 fbarFrom), (aI k (a 28) 4 fruleRounds), (aI k (a 29) 52 ff3_11), (aI k (a 30) 52 (upd fb4_12 (Int32.toNatClampNeg (nI k2_12)) r_26))] H := hP
                  replace hD : va_D A [((a 0), .inr (8, (fX8 a (nI tx) fp (nI t0) wd (nI we) nu na (nI rd) ts (nI ru) (nI rw) (nI ca) df db sd))), (aI k (a 1) 3 (nF dn)), (aI k (a 4) 27 (sg se tm gs)), (aI k (a 2) 72 ffrees), (aI k (a 3) 72 fprices), (aI k (a 25) 4 (nF bm)), (aI k (a 26) 48 fbarSeen), (aI k (a 27) 48 fbarFrom), (aI k (a 28) 4 fruleRounds), (aI k (a 29) 52 ff3_11), (aI k (a 30) 52 (upd fb4_12 (Int32.toNatClampNeg (nI k2_12)) r_26))] := hD
                  rw [nI_clamp (n := k2_12) (by omega)] at hP hD
                  replace hP : va_P D classes [((a 0), .inr (8, (fX8 a (nI tx) fp (nI t0) wd (nI we) nu na (nI rd) ts (nI ru) (nI rw) (nI ca) df db sd))), (aI k (a 1) 3 (nF dn)), (aI k (a 4) 27 (sg se tm gs)), (aI k (a 2) 72 ffrees), (aI k (a 3) 72 fprices), (aI k (a 25) 4 (nF bm)), (aI k (a 26) 48 fbarSeen), (aI k (a 27) 48 fbarFrom), (aI k (a 28) 4 fruleRounds), (aI k (a 29) 52 ff3_11), (aI k (a 30) 52 (upd fb4_12 k2_12 r_26))] H := hP
                  replace hD : va_D A [((a 0), .inr (8, (fX8 a (nI tx) fp (nI t0) wd (nI we) nu na (nI rd) ts (nI ru) (nI rw) (nI ca) df db sd))), (aI k (a 1) 3 (nF dn)), (aI k (a 4) 27 (sg se tm gs)), (aI k (a 2) 72 ffrees), (aI k (a 3) 72 fprices), (aI k (a 25) 4 (nF bm)), (aI k (a 26) 48 fbarSeen), (aI k (a 27) 48 fbarFrom), (aI k (a 28) 4 fruleRounds), (aI k (a 29) 52 ff3_11), (aI k (a 30) 52 (upd fb4_12 k2_12 r_26))] := hD
                  refine lv_iinc (v := (nI (k2_12 + 1))) (lv' := [(11, .int (nI (k2_12 + 1))), (13, .int r_18), (12, .int (nI (k2_12 / 2))), (10, .int (nI qi_11)), (9, .int x_7), (8, .int 0), (7, .int (nI q_3)), (6, .int bg_3), (5, .int 0), (4, .int (nI (dn sn))), (0, .ref (a 0)), (1, .int (nI sn)), (2, .int (nI kr)), (3, .int (nI wh))]) hx hb dX8_meanOf_233 hl (k := 2) rfl (nI_add k2_12 1) (by decide) rfl (fun ls hl => ?_)
                  refine lv_goto (tgt := 135) hx hb dX8_meanOf_236 (by decide) ?_
                  have hx_12 : (k2_12 / 2) + (dn sn - qi_11) ≤ 25 → r_26 = mV (sdM dn (sg se tm gs) ffrees fprices sn) (ruM bm fbarSeen fbarFrom fruleRounds kr) wh q_3 x_7 (dn sn - qi_11) (k2_12 / 2) (k2_12 % 2) := fun hk => mv_v (d := (sdM dn (sg se tm gs) ffrees fprices sn)) (u := (ruM bm fbarSeen fbarFrom fruleRounds kr)) (wh := wh) (r := q_3) (E := x_7) (p := (k2_12 / 2)) (a := k2_12 % 2) (show qi_11 < dn sn by omega) (show _ = pChance (sdM dn (sg se tm gs) ffrees fprices sn) qi_11 (nI (k2_12 % 2)) from by rw [show k2_12 % 2 = 1 by omega]; exact hw_24.trans (mChance (fpr := fprices) (show qi_11 < dn sn by omega))) (by rw [if_pos hw_17]; exact hw_18.trans (mByT hg9 (by omega) (by omega) (by omega) (by omega))) (by rw [← hps_2, ex_25]; exact congrArg (fun z => 0 + z) (by have h9 := hv_11.2 (2 * (k2_12 / 2)) (by omega) (by omega); rw [show (2 * (k2_12 / 2)) / 2 = (k2_12 / 2) by omega, show (2 * (k2_12 / 2)) % 2 = 0 by omega] at h9; exact h9)) hw_26
                  exact ih_12 _ (k2_12 + 1, (upd fb4_12 k2_12 r_26)) _ _ _ (by omega) ⟨rfl, ⟨by omega, la_updc (F := fun k => mV (sdM dn (sg se tm gs) ffrees fprices sn) (ruM bm fbarSeen fbarFrom fruleRounds kr) wh q_3 x_7 (dn sn - qi_11) (k / 2) (k % 2)) (P := fun k => k / 2 + (dn sn - qi_11) ≤ 25) hv_12.2 hx_12⟩, hP, hD, hS, (lv_sub hl [0, 3, 4, 5, 6, 7, 8, 9, 10, 11, 12, 13] rfl)⟩
              · refine lv_if_eq (tgt := 173) hx hb dX8_meanOf_157 (by decide) (fun _ => ?_) (fun h => absurd (by decide) h)
                refine lv_iload hx hb dX8_meanOf_173 (lv_at hl 7 rfl) ?_
                refine lv_aload_n hx hb dX8_meanOf_175 rfl (lv_at hl 9 rfl) ?_
                refine va_get (D := D) (ci := 8) (v := .ref (a 29)) (C := RX8) (T := TX8) (N := 44) hx hb hts inX8 hown hK hP 0 rfl rfl 28 (by decide) (hts _ tw_1001) (fun _ h9 => h9) rfl dX8_meanOf_176 ?_
                refine lv_iconst (v := 2) hx hb dX8_meanOf_179 (by decide) ?_
                refine lv_iload hx hb dX8_meanOf_180 (lv_at hl 0 rfl) ?_
                refine lv_imul hx hb dX8_meanOf_182 ?_
                refine lv_ti (y := (nI (2 * (k2_12 / 2)))) (pk_mul 2 (k2_12 / 2)) ?_
                refine lv_iconst (v := 3) hx hb dX8_meanOf_183 (by decide) ?_
                refine lv_iadd hx hb dX8_meanOf_184 ?_
                refine lv_ti (y := (nI (2 * (k2_12 / 2) + 3))) (nI_add (2 * (k2_12 / 2)) 3) ?_
                refine va_iald hx hb hK hP 9 1 rfl rfl (vp_in_nI (by omega) (by decide)) dX8_meanOf_185 ?_
                refine lv_ti (y := (ff3_11 (2 * (k2_12 / 2) + 3))) (by rw [nI_clamp (by omega)]) ?_
                refine lv_iadd hx hb dX8_meanOf_186 ?_
                refine lv_topi (fun x_28 ex_28 => ?_)
                refine lv_istore (lv' := [(13, .int x_28), (12, .int (nI (k2_12 / 2))), (11, .int (nI k2_12)), (10, .int (nI qi_11)), (9, .int x_7), (8, .int 0), (7, .int (nI q_3)), (6, .int bg_3), (5, .int 0), (4, .int (nI (dn sn))), (0, .ref (a 0)), (1, .int (nI sn)), (2, .int (nI kr)), (3, .int (nI wh))]) hx hb dX8_meanOf_187 hl (by decide) rfl (fun ls hl => ?_)
                refine lv_aload_n hx hb dX8_meanOf_189 rfl (lv_at hl 10 rfl) ?_
                refine va_get (D := D) (ci := 8) (v := .ref (a 30)) (C := RX8) (T := TX8) (N := 44) hx hb hts inX8 hown hK hP 0 rfl rfl 29 (by decide) (hts _ tw_1002) (fun _ h9 => h9) rfl dX8_meanOf_190 ?_
                refine lv_iload hx hb dX8_meanOf_193 (lv_at hl 2 rfl) ?_
                refine lv_aload_n hx hb dX8_meanOf_195 rfl (lv_at hl 10 rfl) ?_
                refine lv_iload_n hx hb dX8_meanOf_196 rfl (lv_at hl 11 rfl) ?_
                refine lv_iload hx hb dX8_meanOf_197 (lv_at hl 3 rfl) ?_
                refine lv_iload hx hb dX8_meanOf_199 (lv_at hl 2 rfl) ?_
                refine lv_iconst (v := 2) hx hb dX8_meanOf_201 (by decide) ?_
                refine lv_irem hx hb dX8_meanOf_202 (by decide) ?_
                refine lv_ti (y := (nI (k2_12 % 2))) (pk_rem (by omega) (by decide) (by decide)) ?_
                refine lv_iconst (v := 1) hx hb dX8_meanOf_203 (by decide) ?_
                refine lv_icmp_ne (tgt := 211) hx hb dX8_meanOf_204 (by decide) (fun c_29 => ?_) (fun c_29 => ?_)
                · have c_29 : ¬ ((k2_12 % 2) = 1) := fun h => c_29 ((nI_eq (a := (k2_12 % 2)) (b := 1) (by omega) (by omega)).mpr h)
                  refine lv_iconst (v := 0) hx hb dX8_meanOf_211 (by decide) ?_
                  refine ro_i (D := D) (va_runV (As := [.int (nI sn), .int (nI qi_11), .int 0]) (rest := [.int (nI k2_12), .ref (a 30)]) ⟨hx, hb, hml, hown, hts⟩ ((n_chanceOf l D k st lo a tx t0 we rd ru rw ca fp wd nu na ts df db sd ffrees se tm gs sn qi_11 0 (by first | assumption | omega) (by first | assumption | omega)) H.size) (cwV 3 hts (gV tw_1210 tw_1212 tw_41 tw_87 tw_1213) rfl rfl rfl (by decide +kernel) ⟨Nat.le_of_ble_eq_true rfl, Nat.le_of_ble_eq_true rfl⟩) (pV hS hAlo hlo hP hK (va_Dlo hD hAlo) hZ [0, 3, 2] (by decide) rfl (ci := 8) (q := (RX8, TX8, 44)) (q0 := 0) rfl rfl) rfl rfl hl.1 rfl (lv_room (Nat.le_of_ble_eq_true rfl)) dX8_meanOf_212 ⟨Nat.le_of_ble_eq_true rfl, Nat.le_of_ble_eq_true rfl⟩) hS hA hP (fun r_30 H locs hw_30 hP hS => ?_)
                  try dsimp only at hw_30
                  refine lv_iload hx hb dX8_meanOf_215 (lv_at hl 0 rfl) ?_
                  refine lv_iload hx hb dX8_meanOf_217 (lv_at hl 8 rfl) ?_
                  refine lv_aload_n hx hb dX8_meanOf_219 rfl (lv_at hl 10 rfl) ?_
                  refine va_get (D := D) (ci := 8) (v := .ref (a 29)) (C := RX8) (T := TX8) (N := 44) hx hb hts inX8 hown hK hP 0 rfl rfl 28 (by decide) (hts _ tw_1001) (fun _ h9 => h9) rfl dX8_meanOf_220 ?_
                  refine lv_iconst (v := 2) hx hb dX8_meanOf_223 (by decide) ?_
                  refine lv_iload hx hb dX8_meanOf_224 (lv_at hl 1 rfl) ?_
                  refine lv_imul hx hb dX8_meanOf_226 ?_
                  refine lv_ti (y := (nI (2 * (k2_12 / 2)))) (pk_mul 2 (k2_12 / 2)) ?_
                  refine va_iald hx hb hK hP 9 1 rfl rfl (vp_in_nI (by omega) (by decide)) dX8_meanOf_227 ?_
                  refine lv_ti (y := (ff3_11 (2 * (k2_12 / 2)))) (by rw [nI_clamp (by omega)]) ?_
                  refine lv_iadd hx hb dX8_meanOf_228 ?_
                  refine lv_topi (fun x_31 ex_31 => ?_)
                  refine ro_i (D := D) (va_runS (As := [.int r_30, .int x_28, .int x_31]) (rest := [.int (nI k2_12), .ref (a 30)]) ⟨hx, hb, hml, hown, hts⟩ ((n_mixed l D k st lo r_30 x_28 x_31) H.size) (va_cwS 3 hts (gS tw_1269 tw_1270 tw_87 tw_1271) rfl rfl rfl (by decide +kernel) ⟨Nat.le_of_ble_eq_true rfl, Nat.le_of_ble_eq_true rfl⟩) (pS hS hAlo hlo hP hK (va_Dlo hD hAlo) hZ [] (by decide) rfl) rfl rfl hl.1 rfl (lv_room (Nat.le_of_ble_eq_true rfl)) dX8_meanOf_229 ⟨Nat.le_of_ble_eq_true rfl, Nat.le_of_ble_eq_true rfl⟩) hS hA hP (fun r_32 H locs hw_32 hP hS => ?_)
                  try dsimp only at hw_32
                  refine va_iast hx hb hK hP hD hS 10 1 rfl rfl (vp_in_nI (by omega) (by decide)) dX8_meanOf_232 (fun H locs hP hD hS => ?_)
                  replace hP : va_P D classes [((a 0), .inr (8, (fX8 a (nI tx) fp (nI t0) wd (nI we) nu na (nI rd) ts (nI ru) (nI rw) (nI ca) df db sd))), (aI k (a 1) 3 (nF dn)), (aI k (a 4) 27 (sg se tm gs)), (aI k (a 2) 72 ffrees), (aI k (a 3) 72 fprices), (aI k (a 25) 4 (nF bm)), (aI k (a 26) 48 fbarSeen), (aI k (a 27) 48 fbarFrom), (aI k (a 28) 4 fruleRounds), (aI k (a 29) 52 ff3_11), (aI k (a 30) 52 (upd fb4_12 (Int32.toNatClampNeg (nI k2_12)) r_32))] H := hP
                  replace hD : va_D A [((a 0), .inr (8, (fX8 a (nI tx) fp (nI t0) wd (nI we) nu na (nI rd) ts (nI ru) (nI rw) (nI ca) df db sd))), (aI k (a 1) 3 (nF dn)), (aI k (a 4) 27 (sg se tm gs)), (aI k (a 2) 72 ffrees), (aI k (a 3) 72 fprices), (aI k (a 25) 4 (nF bm)), (aI k (a 26) 48 fbarSeen), (aI k (a 27) 48 fbarFrom), (aI k (a 28) 4 fruleRounds), (aI k (a 29) 52 ff3_11), (aI k (a 30) 52 (upd fb4_12 (Int32.toNatClampNeg (nI k2_12)) r_32))] := hD
                  rw [nI_clamp (n := k2_12) (by omega)] at hP hD
                  replace hP : va_P D classes [((a 0), .inr (8, (fX8 a (nI tx) fp (nI t0) wd (nI we) nu na (nI rd) ts (nI ru) (nI rw) (nI ca) df db sd))), (aI k (a 1) 3 (nF dn)), (aI k (a 4) 27 (sg se tm gs)), (aI k (a 2) 72 ffrees), (aI k (a 3) 72 fprices), (aI k (a 25) 4 (nF bm)), (aI k (a 26) 48 fbarSeen), (aI k (a 27) 48 fbarFrom), (aI k (a 28) 4 fruleRounds), (aI k (a 29) 52 ff3_11), (aI k (a 30) 52 (upd fb4_12 k2_12 r_32))] H := hP
                  replace hD : va_D A [((a 0), .inr (8, (fX8 a (nI tx) fp (nI t0) wd (nI we) nu na (nI rd) ts (nI ru) (nI rw) (nI ca) df db sd))), (aI k (a 1) 3 (nF dn)), (aI k (a 4) 27 (sg se tm gs)), (aI k (a 2) 72 ffrees), (aI k (a 3) 72 fprices), (aI k (a 25) 4 (nF bm)), (aI k (a 26) 48 fbarSeen), (aI k (a 27) 48 fbarFrom), (aI k (a 28) 4 fruleRounds), (aI k (a 29) 52 ff3_11), (aI k (a 30) 52 (upd fb4_12 k2_12 r_32))] := hD
                  refine lv_iinc (v := (nI (k2_12 + 1))) (lv' := [(11, .int (nI (k2_12 + 1))), (13, .int x_28), (12, .int (nI (k2_12 / 2))), (10, .int (nI qi_11)), (9, .int x_7), (8, .int 0), (7, .int (nI q_3)), (6, .int bg_3), (5, .int 0), (4, .int (nI (dn sn))), (0, .ref (a 0)), (1, .int (nI sn)), (2, .int (nI kr)), (3, .int (nI wh))]) hx hb dX8_meanOf_233 hl (k := 2) rfl (nI_add k2_12 1) (by decide) rfl (fun ls hl => ?_)
                  refine lv_goto (tgt := 135) hx hb dX8_meanOf_236 (by decide) ?_
                  have hx_12 : (k2_12 / 2) + (dn sn - qi_11) ≤ 25 → r_32 = mV (sdM dn (sg se tm gs) ffrees fprices sn) (ruM bm fbarSeen fbarFrom fruleRounds kr) wh q_3 x_7 (dn sn - qi_11) (k2_12 / 2) (k2_12 % 2) := fun hk => mv_v (d := (sdM dn (sg se tm gs) ffrees fprices sn)) (u := (ruM bm fbarSeen fbarFrom fruleRounds kr)) (wh := wh) (r := q_3) (E := x_7) (p := (k2_12 / 2)) (a := k2_12 % 2) (show qi_11 < dn sn by omega) (show _ = pChance (sdM dn (sg se tm gs) ffrees fprices sn) qi_11 (nI (k2_12 % 2)) from by rw [show k2_12 % 2 = 0 by omega]; exact hw_30.trans (mChance (fpr := fprices) (show qi_11 < dn sn by omega))) (by rw [if_neg hw_17, ← hps_2, ex_28]; exact congrArg (fun z => 0 + z) (by have h9 := hv_11.2 (2 * (k2_12 / 2) + 3) (by omega) (by omega); rw [show (2 * (k2_12 / 2) + 3) / 2 = (k2_12 / 2) + 1 by omega, show (2 * (k2_12 / 2) + 3) % 2 = 1 by omega] at h9; exact h9)) (by rw [← hps_2, ex_31]; exact congrArg (fun z => 0 + z) (by have h9 := hv_11.2 (2 * (k2_12 / 2)) (by omega) (by omega); rw [show (2 * (k2_12 / 2)) / 2 = (k2_12 / 2) by omega, show (2 * (k2_12 / 2)) % 2 = 0 by omega] at h9; exact h9)) hw_32
                  exact ih_12 _ (k2_12 + 1, (upd fb4_12 k2_12 r_32)) _ _ _ (by omega) ⟨rfl, ⟨by omega, la_updc (F := fun k => mV (sdM dn (sg se tm gs) ffrees fprices sn) (ruM bm fbarSeen fbarFrom fruleRounds kr) wh q_3 x_7 (dn sn - qi_11) (k / 2) (k % 2)) (P := fun k => k / 2 + (dn sn - qi_11) ≤ 25) hv_12.2 hx_12⟩, hP, hD, hS, (lv_sub hl [0, 3, 4, 5, 6, 7, 8, 9, 10, 11, 12, 13] rfl)⟩
                · have c_29 := (nI_eq (a := (k2_12 % 2)) (b := 1) (by omega) (by omega)).mp c_29
                  refine lv_iconst (v := 1) hx hb dX8_meanOf_207 (by decide) ?_
                  refine lv_goto (tgt := 212) hx hb dX8_meanOf_208 (by decide) ?_
                  refine ro_i (D := D) (va_runV (As := [.int (nI sn), .int (nI qi_11), .int 1]) (rest := [.int (nI k2_12), .ref (a 30)]) ⟨hx, hb, hml, hown, hts⟩ ((n_chanceOf l D k st lo a tx t0 we rd ru rw ca fp wd nu na ts df db sd ffrees se tm gs sn qi_11 1 (by first | assumption | omega) (by first | assumption | omega)) H.size) (cwV 3 hts (gV tw_1210 tw_1212 tw_41 tw_87 tw_1213) rfl rfl rfl (by decide +kernel) ⟨Nat.le_of_ble_eq_true rfl, Nat.le_of_ble_eq_true rfl⟩) (pV hS hAlo hlo hP hK (va_Dlo hD hAlo) hZ [0, 3, 2] (by decide) rfl (ci := 8) (q := (RX8, TX8, 44)) (q0 := 0) rfl rfl) rfl rfl hl.1 rfl (lv_room (Nat.le_of_ble_eq_true rfl)) dX8_meanOf_212 ⟨Nat.le_of_ble_eq_true rfl, Nat.le_of_ble_eq_true rfl⟩) hS hA hP (fun r_34 H locs hw_34 hP hS => ?_)
                  try dsimp only at hw_34
                  refine lv_iload hx hb dX8_meanOf_215 (lv_at hl 0 rfl) ?_
                  refine lv_iload hx hb dX8_meanOf_217 (lv_at hl 8 rfl) ?_
                  refine lv_aload_n hx hb dX8_meanOf_219 rfl (lv_at hl 10 rfl) ?_
                  refine va_get (D := D) (ci := 8) (v := .ref (a 29)) (C := RX8) (T := TX8) (N := 44) hx hb hts inX8 hown hK hP 0 rfl rfl 28 (by decide) (hts _ tw_1001) (fun _ h9 => h9) rfl dX8_meanOf_220 ?_
                  refine lv_iconst (v := 2) hx hb dX8_meanOf_223 (by decide) ?_
                  refine lv_iload hx hb dX8_meanOf_224 (lv_at hl 1 rfl) ?_
                  refine lv_imul hx hb dX8_meanOf_226 ?_
                  refine lv_ti (y := (nI (2 * (k2_12 / 2)))) (pk_mul 2 (k2_12 / 2)) ?_
                  refine va_iald hx hb hK hP 9 1 rfl rfl (vp_in_nI (by omega) (by decide)) dX8_meanOf_227 ?_
                  refine lv_ti (y := (ff3_11 (2 * (k2_12 / 2)))) (by rw [nI_clamp (by omega)]) ?_
                  refine lv_iadd hx hb dX8_meanOf_228 ?_
                  refine lv_topi (fun x_35 ex_35 => ?_)
                  refine ro_i (D := D) (va_runS (As := [.int r_34, .int x_28, .int x_35]) (rest := [.int (nI k2_12), .ref (a 30)]) ⟨hx, hb, hml, hown, hts⟩ ((n_mixed l D k st lo r_34 x_28 x_35) H.size) (va_cwS 3 hts (gS tw_1269 tw_1270 tw_87 tw_1271) rfl rfl rfl (by decide +kernel) ⟨Nat.le_of_ble_eq_true rfl, Nat.le_of_ble_eq_true rfl⟩) (pS hS hAlo hlo hP hK (va_Dlo hD hAlo) hZ [] (by decide) rfl) rfl rfl hl.1 rfl (lv_room (Nat.le_of_ble_eq_true rfl)) dX8_meanOf_229 ⟨Nat.le_of_ble_eq_true rfl, Nat.le_of_ble_eq_true rfl⟩) hS hA hP (fun r_36 H locs hw_36 hP hS => ?_)
                  try dsimp only at hw_36
                  refine va_iast hx hb hK hP hD hS 10 1 rfl rfl (vp_in_nI (by omega) (by decide)) dX8_meanOf_232 (fun H locs hP hD hS => ?_)
                  replace hP : va_P D classes [((a 0), .inr (8, (fX8 a (nI tx) fp (nI t0) wd (nI we) nu na (nI rd) ts (nI ru) (nI rw) (nI ca) df db sd))), (aI k (a 1) 3 (nF dn)), (aI k (a 4) 27 (sg se tm gs)), (aI k (a 2) 72 ffrees), (aI k (a 3) 72 fprices), (aI k (a 25) 4 (nF bm)), (aI k (a 26) 48 fbarSeen), (aI k (a 27) 48 fbarFrom), (aI k (a 28) 4 fruleRounds), (aI k (a 29) 52 ff3_11), (aI k (a 30) 52 (upd fb4_12 (Int32.toNatClampNeg (nI k2_12)) r_36))] H := hP
                  replace hD : va_D A [((a 0), .inr (8, (fX8 a (nI tx) fp (nI t0) wd (nI we) nu na (nI rd) ts (nI ru) (nI rw) (nI ca) df db sd))), (aI k (a 1) 3 (nF dn)), (aI k (a 4) 27 (sg se tm gs)), (aI k (a 2) 72 ffrees), (aI k (a 3) 72 fprices), (aI k (a 25) 4 (nF bm)), (aI k (a 26) 48 fbarSeen), (aI k (a 27) 48 fbarFrom), (aI k (a 28) 4 fruleRounds), (aI k (a 29) 52 ff3_11), (aI k (a 30) 52 (upd fb4_12 (Int32.toNatClampNeg (nI k2_12)) r_36))] := hD
                  rw [nI_clamp (n := k2_12) (by omega)] at hP hD
                  replace hP : va_P D classes [((a 0), .inr (8, (fX8 a (nI tx) fp (nI t0) wd (nI we) nu na (nI rd) ts (nI ru) (nI rw) (nI ca) df db sd))), (aI k (a 1) 3 (nF dn)), (aI k (a 4) 27 (sg se tm gs)), (aI k (a 2) 72 ffrees), (aI k (a 3) 72 fprices), (aI k (a 25) 4 (nF bm)), (aI k (a 26) 48 fbarSeen), (aI k (a 27) 48 fbarFrom), (aI k (a 28) 4 fruleRounds), (aI k (a 29) 52 ff3_11), (aI k (a 30) 52 (upd fb4_12 k2_12 r_36))] H := hP
                  replace hD : va_D A [((a 0), .inr (8, (fX8 a (nI tx) fp (nI t0) wd (nI we) nu na (nI rd) ts (nI ru) (nI rw) (nI ca) df db sd))), (aI k (a 1) 3 (nF dn)), (aI k (a 4) 27 (sg se tm gs)), (aI k (a 2) 72 ffrees), (aI k (a 3) 72 fprices), (aI k (a 25) 4 (nF bm)), (aI k (a 26) 48 fbarSeen), (aI k (a 27) 48 fbarFrom), (aI k (a 28) 4 fruleRounds), (aI k (a 29) 52 ff3_11), (aI k (a 30) 52 (upd fb4_12 k2_12 r_36))] := hD
                  refine lv_iinc (v := (nI (k2_12 + 1))) (lv' := [(11, .int (nI (k2_12 + 1))), (13, .int x_28), (12, .int (nI (k2_12 / 2))), (10, .int (nI qi_11)), (9, .int x_7), (8, .int 0), (7, .int (nI q_3)), (6, .int bg_3), (5, .int 0), (4, .int (nI (dn sn))), (0, .ref (a 0)), (1, .int (nI sn)), (2, .int (nI kr)), (3, .int (nI wh))]) hx hb dX8_meanOf_233 hl (k := 2) rfl (nI_add k2_12 1) (by decide) rfl (fun ls hl => ?_)
                  refine lv_goto (tgt := 135) hx hb dX8_meanOf_236 (by decide) ?_
                  have hx_12 : (k2_12 / 2) + (dn sn - qi_11) ≤ 25 → r_36 = mV (sdM dn (sg se tm gs) ffrees fprices sn) (ruM bm fbarSeen fbarFrom fruleRounds kr) wh q_3 x_7 (dn sn - qi_11) (k2_12 / 2) (k2_12 % 2) := fun hk => mv_v (d := (sdM dn (sg se tm gs) ffrees fprices sn)) (u := (ruM bm fbarSeen fbarFrom fruleRounds kr)) (wh := wh) (r := q_3) (E := x_7) (p := (k2_12 / 2)) (a := k2_12 % 2) (show qi_11 < dn sn by omega) (show _ = pChance (sdM dn (sg se tm gs) ffrees fprices sn) qi_11 (nI (k2_12 % 2)) from by rw [show k2_12 % 2 = 1 by omega]; exact hw_34.trans (mChance (fpr := fprices) (show qi_11 < dn sn by omega))) (by rw [if_neg hw_17, ← hps_2, ex_28]; exact congrArg (fun z => 0 + z) (by have h9 := hv_11.2 (2 * (k2_12 / 2) + 3) (by omega) (by omega); rw [show (2 * (k2_12 / 2) + 3) / 2 = (k2_12 / 2) + 1 by omega, show (2 * (k2_12 / 2) + 3) % 2 = 1 by omega] at h9; exact h9)) (by rw [← hps_2, ex_35]; exact congrArg (fun z => 0 + z) (by have h9 := hv_11.2 (2 * (k2_12 / 2)) (by omega) (by omega); rw [show (2 * (k2_12 / 2)) / 2 = (k2_12 / 2) by omega, show (2 * (k2_12 / 2)) % 2 = 0 by omega] at h9; exact h9)) hw_36
                  exact ih_12 _ (k2_12 + 1, (upd fb4_12 k2_12 r_36)) _ _ _ (by omega) ⟨rfl, ⟨by omega, la_updc (F := fun k => mV (sdM dn (sg se tm gs) ffrees fprices sn) (ruM bm fbarSeen fbarFrom fruleRounds kr) wh q_3 x_7 (dn sn - qi_11) (k / 2) (k % 2)) (P := fun k => k / 2 + (dn sn - qi_11) ≤ 25) hv_12.2 hx_12⟩, hP, hD, hS, (lv_sub hl [0, 3, 4, 5, 6, 7, 8, 9, 10, 11, 12, 13] rfl)⟩
        · have c_10 : ¬ (52 ≤ kk_9) := fun h => c_10 ((nI_leI (a := 52) (b := kk_9) (by omega) (by omega)).mpr h)
          refine lv_aload_n hx hb dX8_meanOf_106 rfl (lv_at hl 7 rfl) ?_
          refine va_get (D := D) (ci := 8) (v := .ref (a 29)) (C := RX8) (T := TX8) (N := 44) hx hb hts inX8 hown hK hP 0 rfl rfl 28 (by decide) (hts _ tw_1001) (fun _ h9 => h9) rfl dX8_meanOf_107 ?_
          refine lv_iload hx hb dX8_meanOf_110 (lv_at hl 0 rfl) ?_
          refine lv_iload hx hb dX8_meanOf_112 (lv_at hl 1 rfl) ?_
          refine va_iast hx hb hK hP hD hS 9 1 rfl rfl (vp_in_nI (by omega) (by decide)) dX8_meanOf_114 (fun H locs hP hD hS => ?_)
          replace hP : va_P D classes [((a 0), .inr (8, (fX8 a (nI tx) fp (nI t0) wd (nI we) nu na (nI rd) ts (nI ru) (nI rw) (nI ca) df db sd))), (aI k (a 1) 3 (nF dn)), (aI k (a 4) 27 (sg se tm gs)), (aI k (a 2) 72 ffrees), (aI k (a 3) 72 fprices), (aI k (a 25) 4 (nF bm)), (aI k (a 26) 48 fbarSeen), (aI k (a 27) 48 fbarFrom), (aI k (a 28) 4 fruleRounds), (aI k (a 29) 52 (upd ff2_9 (Int32.toNatClampNeg (nI kk_9)) x_7)), (aI k (a 30) 52 fb_3)] H := hP
          replace hD : va_D A [((a 0), .inr (8, (fX8 a (nI tx) fp (nI t0) wd (nI we) nu na (nI rd) ts (nI ru) (nI rw) (nI ca) df db sd))), (aI k (a 1) 3 (nF dn)), (aI k (a 4) 27 (sg se tm gs)), (aI k (a 2) 72 ffrees), (aI k (a 3) 72 fprices), (aI k (a 25) 4 (nF bm)), (aI k (a 26) 48 fbarSeen), (aI k (a 27) 48 fbarFrom), (aI k (a 28) 4 fruleRounds), (aI k (a 29) 52 (upd ff2_9 (Int32.toNatClampNeg (nI kk_9)) x_7)), (aI k (a 30) 52 fb_3)] := hD
          rw [nI_clamp (n := kk_9) (by omega)] at hP hD
          replace hP : va_P D classes [((a 0), .inr (8, (fX8 a (nI tx) fp (nI t0) wd (nI we) nu na (nI rd) ts (nI ru) (nI rw) (nI ca) df db sd))), (aI k (a 1) 3 (nF dn)), (aI k (a 4) 27 (sg se tm gs)), (aI k (a 2) 72 ffrees), (aI k (a 3) 72 fprices), (aI k (a 25) 4 (nF bm)), (aI k (a 26) 48 fbarSeen), (aI k (a 27) 48 fbarFrom), (aI k (a 28) 4 fruleRounds), (aI k (a 29) 52 (upd ff2_9 kk_9 x_7)), (aI k (a 30) 52 fb_3)] H := hP
          replace hD : va_D A [((a 0), .inr (8, (fX8 a (nI tx) fp (nI t0) wd (nI we) nu na (nI rd) ts (nI ru) (nI rw) (nI ca) df db sd))), (aI k (a 1) 3 (nF dn)), (aI k (a 4) 27 (sg se tm gs)), (aI k (a 2) 72 ffrees), (aI k (a 3) 72 fprices), (aI k (a 25) 4 (nF bm)), (aI k (a 26) 48 fbarSeen), (aI k (a 27) 48 fbarFrom), (aI k (a 28) 4 fruleRounds), (aI k (a 29) 52 (upd ff2_9 kk_9 x_7)), (aI k (a 30) 52 fb_3)] := hD
          refine lv_iinc (v := (nI (kk_9 + 1))) (lv' := [(10, .int (nI (kk_9 + 1))), (9, .int x_7), (8, .int 0), (7, .int (nI q_3)), (6, .int bg_3), (5, .int 0), (4, .int (nI (dn sn))), (0, .ref (a 0)), (1, .int (nI sn)), (2, .int (nI kr)), (3, .int (nI wh))]) hx hb dX8_meanOf_115 hl (k := 0) rfl (nI_add kk_9 1) (by decide) rfl (fun ls hl => ?_)
          refine lv_goto (tgt := 99) hx hb dX8_meanOf_118 (by decide) ?_
          exact ih_9 _ (kk_9 + 1, (upd ff2_9 kk_9 x_7)) _ _ _ (by omega) ⟨rfl, ⟨by omega, la_upd (F := fun _ => x_7) hv_9.2 rfl⟩, hP, hD, hS, (lv_sub hl [0, 1, 2, 3, 4, 5, 6, 7, 8, 9, 10] rfl)⟩
      · refine lv_if_eq (tgt := 86) hx hb dX8_meanOf_75 (by decide) (fun _ => ?_) (fun h => absurd (by decide) h)
        refine lv_aload_n hx hb dX8_meanOf_86 rfl (lv_at hl 5 rfl) ?_
        refine lv_iload_n hx hb dX8_meanOf_87 rfl (lv_at hl 6 rfl) ?_
        refine lv_iload hx hb dX8_meanOf_88 (lv_at hl 1 rfl) ?_
        refine lv_iload_n hx hb dX8_meanOf_90 rfl (lv_at hl 8 rfl) ?_
        refine ro_i (D := D) (va_runV (As := [.int (nI sn), .int (nI q_3), .int (nI wh)]) (rest := []) ⟨hx, hb, hml, hown, hts⟩ ((n_byGarage l D k st lo a tx t0 we rd ru rw ca fp wd nu na ts df db sd dn se tm gs sn (nI q_3) (nI wh) (by first | assumption | omega)) H.size) (cwV 3 hts (gV tw_1333 tw_1335 tw_60 tw_87 tw_1336) rfl rfl rfl (by decide +kernel) ⟨Nat.le_of_ble_eq_true rfl, Nat.le_of_ble_eq_true rfl⟩) (pV hS hAlo hlo hP hK (va_Dlo hD hAlo) hZ [0, 1, 2] (by decide) rfl (ci := 8) (q := (RX8, TX8, 44)) (q0 := 0) rfl rfl) rfl rfl hl.1 rfl (lv_room (Nat.le_of_ble_eq_true rfl)) dX8_meanOf_91 ⟨Nat.le_of_ble_eq_true rfl, Nat.le_of_ble_eq_true rfl⟩) hS hA hP (fun r_39 H locs hw_39 hP hS => ?_)
        try dsimp only at hw_39
        have he_40 : r_39 = pGs (sdM dn (sg se tm gs) ffrees fprices sn) wh q_3 := hw_39.trans (mByG hg9 (by omega) (by omega) (by omega))
        refine lv_istore (lv' := [(9, .int r_39), (8, .int 0), (7, .int (nI q_3)), (6, .int bg_3), (5, .int 0), (4, .int (nI (dn sn))), (0, .ref (a 0)), (1, .int (nI sn)), (2, .int (nI kr)), (3, .int (nI wh))]) hx hb dX8_meanOf_94 hl (by decide) rfl (fun ls hl => ?_)
        refine lv_iconst (v := 0) hx hb dX8_meanOf_96 (by decide) ?_
        refine lv_istore (lv' := [(10, .int 0), (9, .int r_39), (8, .int 0), (7, .int (nI q_3)), (6, .int bg_3), (5, .int 0), (4, .int (nI (dn sn))), (0, .ref (a 0)), (1, .int (nI sn)), (2, .int (nI kr)), (3, .int (nI wh))]) hx hb dX8_meanOf_97 hl (by decide) rfl (fun ls hl => ?_)
        refine W_loop (σ := Nat × (Nat → Int32)) (fun (n_ : Nat) (x_ : Nat × (Nat → Int32)) (H : Heap) (locs : List Loc) (ls : Array Slot) => match x_ with | (kk_41, ff2_41) => n_ = 52 - kk_41 ∧ (kk_41 ≤ 52 ∧ ∀ k, k < kk_41 → ff2_41 k = r_39) ∧ va_P D classes [((a 0), .inr (8, (fX8 a (nI tx) fp (nI t0) wd (nI we) nu na (nI rd) ts (nI ru) (nI rw) (nI ca) df db sd))), (aI k (a 1) 3 (nF dn)), (aI k (a 4) 27 (sg se tm gs)), (aI k (a 2) 72 ffrees), (aI k (a 3) 72 fprices), (aI k (a 25) 4 (nF bm)), (aI k (a 26) 48 fbarSeen), (aI k (a 27) 48 fbarFrom), (aI k (a 28) 4 fruleRounds), (aI k (a 29) 52 ff2_41), (aI k (a 30) 52 fb_3)] H ∧ va_D A [((a 0), .inr (8, (fX8 a (nI tx) fp (nI t0) wd (nI we) nu na (nI rd) ts (nI ru) (nI rw) (nI ca) df db sd))), (aI k (a 1) 3 (nF dn)), (aI k (a 4) 27 (sg se tm gs)), (aI k (a 2) 72 ffrees), (aI k (a 3) 72 fprices), (aI k (a 25) 4 (nF bm)), (aI k (a 26) 48 fbarSeen), (aI k (a 27) 48 fbarFrom), (aI k (a 28) 4 fruleRounds), (aI k (a 29) 52 ff2_41), (aI k (a 30) 52 fb_3)] ∧ va_S A s.heap H locs ∧ lv_has ls 14 [(10, .int (nI kk_41)), (9, .int r_39), (8, .int 0), (7, .int (nI q_3)), (6, .int bg_3), (5, .int 0), (4, .int (nI (dn sn))), (0, .ref (a 0)), (1, .int (nI sn)), (2, .int (nI kr)), (3, .int (nI wh))]) (fun n_41 x_41 H locs ls hI ih_41 => ?_) _ (0, ff_3) ⟨rfl, ⟨by omega, fun k h => absurd h (Nat.not_lt_zero k)⟩, hP, hD, hS, (lv_sub hl [0, 1, 2, 3, 4, 5, 6, 7, 8, 9, 10] rfl)⟩
        obtain ⟨kk_41, ff2_41⟩ := x_41
        obtain ⟨hm_41, hv_41, hP, hD, hS, hl⟩ := hI
        subst hm_41
        refine lv_iload hx hb dX8_meanOf_99 (lv_at hl 0 rfl) ?_
        refine lv_bipush (v := 52) hx hb dX8_meanOf_101 (by decide) ?_
        refine lv_icmp_ge (tgt := 121) hx hb dX8_meanOf_103 (by decide) (fun c_42 => ?_) (fun c_42 => ?_)
        · have c_42 := (nI_leI (a := 52) (b := kk_41) (by omega) (by omega)).mp c_42
          refine lv_iload hx hb dX8_meanOf_121 (lv_at hl 6 rfl) ?_
          refine lv_iconst (v := 1) hx hb dX8_meanOf_123 (by decide) ?_
          refine lv_isub hx hb dX8_meanOf_124 ?_
          refine lv_ti (y := (nI (dn sn) - 1)) rfl ?_
          refine lv_istore (lv' := [(10, .int (nI (dn sn) - 1)), (9, .int r_39), (8, .int 0), (7, .int (nI q_3)), (6, .int bg_3), (5, .int 0), (4, .int (nI (dn sn))), (0, .ref (a 0)), (1, .int (nI sn)), (2, .int (nI kr)), (3, .int (nI wh))]) hx hb dX8_meanOf_125 hl (by decide) rfl (fun ls hl => ?_)
          refine W_loop (σ := Nat × (Nat → Int32) × (Nat → Int32)) (fun (n_ : Nat) (x_ : Nat × (Nat → Int32) × (Nat → Int32)) (H : Heap) (locs : List Loc) (ls : Array Slot) => match x_ with | (qi_43, ff3_43, fb3_43) => n_ = 2 * qi_43 ∧ (qi_43 ≤ dn sn ∧ ∀ k, k < 52 → k / 2 + (dn sn - qi_43) ≤ 25 → ff3_43 k = mV (sdM dn (sg se tm gs) ffrees fprices sn) (ruM bm fbarSeen fbarFrom fruleRounds kr) wh q_3 r_39 (dn sn - qi_43) (k / 2) (k % 2)) ∧ va_P D classes [((a 0), .inr (8, (fX8 a (nI tx) fp (nI t0) wd (nI we) nu na (nI rd) ts (nI ru) (nI rw) (nI ca) df db sd))), (aI k (a 1) 3 (nF dn)), (aI k (a 4) 27 (sg se tm gs)), (aI k (a 2) 72 ffrees), (aI k (a 3) 72 fprices), (aI k (a 25) 4 (nF bm)), (aI k (a 26) 48 fbarSeen), (aI k (a 27) 48 fbarFrom), (aI k (a 28) 4 fruleRounds), (aI k (a 29) 52 ff3_43), (aI k (a 30) 52 fb3_43)] H ∧ va_D A [((a 0), .inr (8, (fX8 a (nI tx) fp (nI t0) wd (nI we) nu na (nI rd) ts (nI ru) (nI rw) (nI ca) df db sd))), (aI k (a 1) 3 (nF dn)), (aI k (a 4) 27 (sg se tm gs)), (aI k (a 2) 72 ffrees), (aI k (a 3) 72 fprices), (aI k (a 25) 4 (nF bm)), (aI k (a 26) 48 fbarSeen), (aI k (a 27) 48 fbarFrom), (aI k (a 28) 4 fruleRounds), (aI k (a 29) 52 ff3_43), (aI k (a 30) 52 fb3_43)] ∧ va_S A s.heap H locs ∧ lv_has ls 14 [(10, .int (nI qi_43 - 1)), (9, .int r_39), (8, .int 0), (7, .int (nI q_3)), (6, .int bg_3), (5, .int 0), (4, .int (nI (dn sn))), (0, .ref (a 0)), (1, .int (nI sn)), (2, .int (nI kr)), (3, .int (nI wh))]) (fun n_43 x_43 H locs ls hI ih_43 => ?_) _ (dn sn, ff2_41, fb_3) ⟨rfl, ⟨by omega, fun k hk _ => by rw [Nat.sub_self]; exact hv_41.2 k (by omega)⟩, hP, hD, hS, (lv_sub hl [0, 1, 2, 3, 4, 5, 6, 7, 8, 9, 10] rfl)⟩
          obtain ⟨qi_43, ff3_43, fb3_43⟩ := x_43
          obtain ⟨hm_43, hv_43, hP, hD, hS, hl⟩ := hI
          subst hm_43
          rcases qi_43 with _ | qi_43
          · rw [dn0] at hl
            refine lv_iload hx hb dX8_meanOf_127 (lv_at hl 0 rfl) ?_
            refine lv_if_lt (tgt := 275) hx hb dX8_meanOf_129 (by decide) (fun _ => ?_) (fun h => absurd (by decide) h)
            refine lv_aload_n hx hb dX8_meanOf_275 rfl (lv_at hl 7 rfl) ?_
            refine va_get (D := D) (ci := 8) (v := .ref (a 29)) (C := RX8) (T := TX8) (N := 44) hx hb hts inX8 hown hK hP 0 rfl rfl 28 (by decide) (hts _ tw_1001) (fun _ h9 => h9) rfl dX8_meanOf_276 ?_
            refine lv_iconst (v := 0) hx hb dX8_meanOf_279 (by decide) ?_
            refine va_iald hx hb hK hP 9 1 rfl rfl (by unfold vp_in; decide) dX8_meanOf_280 ?_
            refine lv_ti (y := (ff3_43 0)) (by rfl) ?_
            refine lv_istore (lv' := [(6, .int (ff3_43 0)), (10, .int (-1)), (9, .int r_39), (8, .int 0), (7, .int (nI q_3)), (5, .int 0), (4, .int (nI (dn sn))), (0, .ref (a 0)), (1, .int (nI sn)), (2, .int (nI kr)), (3, .int (nI wh))]) hx hb dX8_meanOf_281 hl (by decide) rfl (fun ls hl => ?_)
            refine lv_iinc (v := (nI q_3 - 1)) (lv' := [(7, .int (nI q_3 - 1)), (6, .int (ff3_43 0)), (10, .int (-1)), (9, .int r_39), (8, .int 0), (5, .int 0), (4, .int (nI (dn sn))), (0, .ref (a 0)), (1, .int (nI sn)), (2, .int (nI kr)), (3, .int (nI wh))]) hx hb dX8_meanOf_283 hl (k := 4) rfl (dn1 _) (by decide) rfl (fun ls hl => ?_)
            refine lv_goto (tgt := 34) hx hb dX8_meanOf_286 (by decide) ?_
            exact ih_3 _ (q_3, (ff3_43 0), ff3_43, fb3_43) _ _ _ (by omega) ⟨rfl, ⟨by omega, fun h => (show ff3_43 0 = mV (sdM dn (sg se tm gs) ffrees fprices sn) (ruM bm fbarSeen fbarFrom fruleRounds kr) wh q_3 r_39 (dn sn) 0 0 from hv_43.2 0 (by omega) (by omega)).trans (mr_of h (fun h => absurd h (by omega)) (fun _ => he_40))⟩, hP, hD, hS, (lv_sub hl [0, 1, 5, 6, 7, 8, 9, 10] rfl)⟩
          · rw [nI_pred] at hl
            refine lv_iload hx hb dX8_meanOf_127 (lv_at hl 0 rfl) ?_
            refine lv_if_lt (tgt := 275) hx hb dX8_meanOf_129 (by decide) (fun h => absurd h (nI_pos0 (by omega))) (fun _ => ?_)
            refine lv_iconst (v := 0) hx hb dX8_meanOf_132 (by decide) ?_
            refine lv_istore (lv' := [(11, .int 0), (10, .int (nI qi_43)), (9, .int r_39), (8, .int 0), (7, .int (nI q_3)), (6, .int bg_3), (5, .int 0), (4, .int (nI (dn sn))), (0, .ref (a 0)), (1, .int (nI sn)), (2, .int (nI kr)), (3, .int (nI wh))]) hx hb dX8_meanOf_133 hl (by decide) rfl (fun ls hl => ?_)
            refine W_loop (σ := Nat × (Nat → Int32)) (fun (n_ : Nat) (x_ : Nat × (Nat → Int32)) (H : Heap) (locs : List Loc) (ls : Array Slot) => match x_ with | (k2_44, fb4_44) => n_ = 50 - k2_44 ∧ (k2_44 ≤ 50 ∧ ∀ k, k < k2_44 → k / 2 + (dn sn - qi_43) ≤ 25 → fb4_44 k = mV (sdM dn (sg se tm gs) ffrees fprices sn) (ruM bm fbarSeen fbarFrom fruleRounds kr) wh q_3 r_39 (dn sn - qi_43) (k / 2) (k % 2)) ∧ va_P D classes [((a 0), .inr (8, (fX8 a (nI tx) fp (nI t0) wd (nI we) nu na (nI rd) ts (nI ru) (nI rw) (nI ca) df db sd))), (aI k (a 1) 3 (nF dn)), (aI k (a 4) 27 (sg se tm gs)), (aI k (a 2) 72 ffrees), (aI k (a 3) 72 fprices), (aI k (a 25) 4 (nF bm)), (aI k (a 26) 48 fbarSeen), (aI k (a 27) 48 fbarFrom), (aI k (a 28) 4 fruleRounds), (aI k (a 29) 52 ff3_43), (aI k (a 30) 52 fb4_44)] H ∧ va_D A [((a 0), .inr (8, (fX8 a (nI tx) fp (nI t0) wd (nI we) nu na (nI rd) ts (nI ru) (nI rw) (nI ca) df db sd))), (aI k (a 1) 3 (nF dn)), (aI k (a 4) 27 (sg se tm gs)), (aI k (a 2) 72 ffrees), (aI k (a 3) 72 fprices), (aI k (a 25) 4 (nF bm)), (aI k (a 26) 48 fbarSeen), (aI k (a 27) 48 fbarFrom), (aI k (a 28) 4 fruleRounds), (aI k (a 29) 52 ff3_43), (aI k (a 30) 52 fb4_44)] ∧ va_S A s.heap H locs ∧ lv_has ls 14 [(11, .int (nI k2_44)), (10, .int (nI qi_43)), (9, .int r_39), (8, .int 0), (7, .int (nI q_3)), (6, .int bg_3), (5, .int 0), (4, .int (nI (dn sn))), (0, .ref (a 0)), (1, .int (nI sn)), (2, .int (nI kr)), (3, .int (nI wh))]) (fun n_44 x_44 H locs ls hI ih_44 => ?_) _ (0, fb3_43) ⟨rfl, ⟨by omega, fun k h => absurd h (Nat.not_lt_zero k)⟩, hP, hD, hS, (lv_sub hl [0, 1, 2, 3, 4, 5, 6, 7, 8, 9, 10, 11] rfl)⟩
            obtain ⟨k2_44, fb4_44⟩ := x_44
            obtain ⟨hm_44, hv_44, hP, hD, hS, hl⟩ := hI
            subst hm_44
            refine lv_iload hx hb dX8_meanOf_135 (lv_at hl 0 rfl) ?_
            refine lv_bipush (v := 50) hx hb dX8_meanOf_137 (by decide) ?_
            refine lv_icmp_ge (tgt := 239) hx hb dX8_meanOf_139 (by decide) (fun c_45 => ?_) (fun c_45 => ?_)
            · have c_45 := (nI_leI (a := 50) (b := k2_44) (by omega) (by omega)).mp c_45
              refine lv_iconst (v := 0) hx hb dX8_meanOf_239 (by decide) ?_
              refine lv_istore (lv' := [(11, .int 0), (10, .int (nI qi_43)), (9, .int r_39), (8, .int 0), (7, .int (nI q_3)), (6, .int bg_3), (5, .int 0), (4, .int (nI (dn sn))), (0, .ref (a 0)), (1, .int (nI sn)), (2, .int (nI kr)), (3, .int (nI wh))]) hx hb dX8_meanOf_240 hl (by decide) rfl (fun ls hl => ?_)
              refine W_loop (σ := Nat × (Nat → Int32)) (fun (n_ : Nat) (x_ : Nat × (Nat → Int32)) (H : Heap) (locs : List Loc) (ls : Array Slot) => match x_ with | (k3_46, ff5_46) => n_ = 50 - k3_46 ∧ (k3_46 ≤ 50 ∧ (∀ k, k < k3_46 → k / 2 + (dn sn - qi_43) ≤ 25 → ff5_46 k = mV (sdM dn (sg se tm gs) ffrees fprices sn) (ruM bm fbarSeen fbarFrom fruleRounds kr) wh q_3 r_39 (dn sn - qi_43) (k / 2) (k % 2)) ∧ True) ∧ va_P D classes [((a 0), .inr (8, (fX8 a (nI tx) fp (nI t0) wd (nI we) nu na (nI rd) ts (nI ru) (nI rw) (nI ca) df db sd))), (aI k (a 1) 3 (nF dn)), (aI k (a 4) 27 (sg se tm gs)), (aI k (a 2) 72 ffrees), (aI k (a 3) 72 fprices), (aI k (a 25) 4 (nF bm)), (aI k (a 26) 48 fbarSeen), (aI k (a 27) 48 fbarFrom), (aI k (a 28) 4 fruleRounds), (aI k (a 29) 52 ff5_46), (aI k (a 30) 52 fb4_44)] H ∧ va_D A [((a 0), .inr (8, (fX8 a (nI tx) fp (nI t0) wd (nI we) nu na (nI rd) ts (nI ru) (nI rw) (nI ca) df db sd))), (aI k (a 1) 3 (nF dn)), (aI k (a 4) 27 (sg se tm gs)), (aI k (a 2) 72 ffrees), (aI k (a 3) 72 fprices), (aI k (a 25) 4 (nF bm)), (aI k (a 26) 48 fbarSeen), (aI k (a 27) 48 fbarFrom), (aI k (a 28) 4 fruleRounds), (aI k (a 29) 52 ff5_46), (aI k (a 30) 52 fb4_44)] ∧ va_S A s.heap H locs ∧ lv_has ls 14 [(11, .int (nI k3_46)), (10, .int (nI qi_43)), (9, .int r_39), (8, .int 0), (7, .int (nI q_3)), (6, .int bg_3), (5, .int 0), (4, .int (nI (dn sn))), (0, .ref (a 0)), (1, .int (nI sn)), (2, .int (nI kr)), (3, .int (nI wh))]) (fun n_46 x_46 H locs ls hI ih_46 => ?_) _ (0, ff3_43) ⟨rfl, ⟨by omega, fun k h => absurd h (Nat.not_lt_zero k), trivial⟩, hP, hD, hS, (lv_sub hl [0, 1, 2, 3, 4, 5, 6, 7, 8, 9, 10, 11] rfl)⟩
              obtain ⟨k3_46, ff5_46⟩ := x_46
              obtain ⟨hm_46, hv_46, hP, hD, hS, hl⟩ := hI
              subst hm_46
              refine lv_iload hx hb dX8_meanOf_242 (lv_at hl 0 rfl) ?_
              refine lv_bipush (v := 50) hx hb dX8_meanOf_244 (by decide) ?_
              refine lv_icmp_ge (tgt := 269) hx hb dX8_meanOf_246 (by decide) (fun c_47 => ?_) (fun c_47 => ?_)
              · have c_47 := (nI_leI (a := 50) (b := k3_46) (by omega) (by omega)).mp c_47
                refine lv_iinc (v := (nI qi_43 - 1)) (lv' := [(10, .int (nI qi_43 - 1)), (11, .int (nI k3_46)), (9, .int r_39), (8, .int 0), (7, .int (nI q_3)), (6, .int bg_3), (5, .int 0), (4, .int (nI (dn sn))), (0, .ref (a 0)), (1, .int (nI sn)), (2, .int (nI kr)), (3, .int (nI wh))]) hx hb dX8_meanOf_269 hl (k := 1) rfl (dn1 _) (by decide) rfl (fun ls hl => ?_)
                refine lv_goto (tgt := 127) hx hb dX8_meanOf_272 (by decide) ?_
                exact ih_43 _ (qi_43, ff5_46, fb4_44) _ _ _ (by omega) ⟨rfl, ⟨by omega, fun k hk hp => hv_46.2.1 k (by omega) hp⟩, hP, hD, hS, (lv_sub hl [0, 2, 3, 4, 5, 6, 7, 8, 9, 10, 11] rfl)⟩
              · have c_47 : ¬ (50 ≤ k3_46) := fun h => c_47 ((nI_leI (a := 50) (b := k3_46) (by omega) (by omega)).mpr h)
                refine lv_aload_n hx hb dX8_meanOf_249 rfl (lv_at hl 8 rfl) ?_
                refine va_get (D := D) (ci := 8) (v := .ref (a 29)) (C := RX8) (T := TX8) (N := 44) hx hb hts inX8 hown hK hP 0 rfl rfl 28 (by decide) (hts _ tw_1001) (fun _ h9 => h9) rfl dX8_meanOf_250 ?_
                refine lv_iload hx hb dX8_meanOf_253 (lv_at hl 0 rfl) ?_
                refine lv_aload_n hx hb dX8_meanOf_255 rfl (lv_at hl 8 rfl) ?_
                refine va_get (D := D) (ci := 8) (v := .ref (a 30)) (C := RX8) (T := TX8) (N := 44) hx hb hts inX8 hown hK hP 0 rfl rfl 29 (by decide) (hts _ tw_1002) (fun _ h9 => h9) rfl dX8_meanOf_256 ?_
                refine lv_iload hx hb dX8_meanOf_259 (lv_at hl 0 rfl) ?_
                refine va_iald hx hb hK hP 10 1 rfl rfl (vp_in_nI (by omega) (by decide)) dX8_meanOf_261 ?_
                refine lv_ti (y := (fb4_44 k3_46)) (by rw [nI_clamp (by omega)]) ?_
                refine va_iast hx hb hK hP hD hS 9 1 rfl rfl (vp_in_nI (by omega) (by decide)) dX8_meanOf_262 (fun H locs hP hD hS => ?_)
                replace hP : va_P D classes [((a 0), .inr (8, (fX8 a (nI tx) fp (nI t0) wd (nI we) nu na (nI rd) ts (nI ru) (nI rw) (nI ca) df db sd))), (aI k (a 1) 3 (nF dn)), (aI k (a 4) 27 (sg se tm gs)), (aI k (a 2) 72 ffrees), (aI k (a 3) 72 fprices), (aI k (a 25) 4 (nF bm)), (aI k (a 26) 48 fbarSeen), (aI k (a 27) 48 fbarFrom), (aI k (a 28) 4 fruleRounds), (aI k (a 29) 52 (upd ff5_46 (Int32.toNatClampNeg (nI k3_46)) (fb4_44 k3_46))), (aI k (a 30) 52 fb4_44)] H := hP
                replace hD : va_D A [((a 0), .inr (8, (fX8 a (nI tx) fp (nI t0) wd (nI we) nu na (nI rd) ts (nI ru) (nI rw) (nI ca) df db sd))), (aI k (a 1) 3 (nF dn)), (aI k (a 4) 27 (sg se tm gs)), (aI k (a 2) 72 ffrees), (aI k (a 3) 72 fprices), (aI k (a 25) 4 (nF bm)), (aI k (a 26) 48 fbarSeen), (aI k (a 27) 48 fbarFrom), (aI k (a 28) 4 fruleRounds), (aI k (a 29) 52 (upd ff5_46 (Int32.toNatClampNeg (nI k3_46)) (fb4_44 k3_46))), (aI k (a 30) 52 fb4_44)] := hD
                rw [nI_clamp (n := k3_46) (by omega)] at hP hD
                replace hP : va_P D classes [((a 0), .inr (8, (fX8 a (nI tx) fp (nI t0) wd (nI we) nu na (nI rd) ts (nI ru) (nI rw) (nI ca) df db sd))), (aI k (a 1) 3 (nF dn)), (aI k (a 4) 27 (sg se tm gs)), (aI k (a 2) 72 ffrees), (aI k (a 3) 72 fprices), (aI k (a 25) 4 (nF bm)), (aI k (a 26) 48 fbarSeen), (aI k (a 27) 48 fbarFrom), (aI k (a 28) 4 fruleRounds), (aI k (a 29) 52 (upd ff5_46 k3_46 (fb4_44 k3_46))), (aI k (a 30) 52 fb4_44)] H := hP
                replace hD : va_D A [((a 0), .inr (8, (fX8 a (nI tx) fp (nI t0) wd (nI we) nu na (nI rd) ts (nI ru) (nI rw) (nI ca) df db sd))), (aI k (a 1) 3 (nF dn)), (aI k (a 4) 27 (sg se tm gs)), (aI k (a 2) 72 ffrees), (aI k (a 3) 72 fprices), (aI k (a 25) 4 (nF bm)), (aI k (a 26) 48 fbarSeen), (aI k (a 27) 48 fbarFrom), (aI k (a 28) 4 fruleRounds), (aI k (a 29) 52 (upd ff5_46 k3_46 (fb4_44 k3_46))), (aI k (a 30) 52 fb4_44)] := hD
                refine lv_iinc (v := (nI (k3_46 + 1))) (lv' := [(11, .int (nI (k3_46 + 1))), (10, .int (nI qi_43)), (9, .int r_39), (8, .int 0), (7, .int (nI q_3)), (6, .int bg_3), (5, .int 0), (4, .int (nI (dn sn))), (0, .ref (a 0)), (1, .int (nI sn)), (2, .int (nI kr)), (3, .int (nI wh))]) hx hb dX8_meanOf_263 hl (k := 0) rfl (nI_add k3_46 1) (by decide) rfl (fun ls hl => ?_)
                refine lv_goto (tgt := 242) hx hb dX8_meanOf_266 (by decide) ?_
                exact ih_46 _ (k3_46 + 1, (upd ff5_46 k3_46 (fb4_44 k3_46))) _ _ _ (by omega) ⟨rfl, ⟨by omega, la_updc (F := fun k => mV (sdM dn (sg se tm gs) ffrees fprices sn) (ruM bm fbarSeen fbarFrom fruleRounds kr) wh q_3 r_39 (dn sn - qi_43) (k / 2) (k % 2)) (P := fun k => k / 2 + (dn sn - qi_43) ≤ 25) hv_46.2.1 (hv_44.2 k3_46 (by omega)), trivial⟩, hP, hD, hS, (lv_sub hl [0, 1, 2, 3, 4, 5, 6, 7, 8, 9, 10, 11] rfl)⟩
            · have c_45 : ¬ (50 ≤ k2_44) := fun h => c_45 ((nI_leI (a := 50) (b := k2_44) (by omega) (by omega)).mpr h)
              refine lv_iload hx hb dX8_meanOf_142 (lv_at hl 0 rfl) ?_
              refine lv_iconst (v := 2) hx hb dX8_meanOf_144 (by decide) ?_
              refine lv_idiv hx hb dX8_meanOf_145 (by decide) ?_
              refine lv_ti (y := (nI (k2_44 / 2))) (pk_div (by omega) (by decide) (by decide)) ?_
              refine lv_istore (lv' := [(12, .int (nI (k2_44 / 2))), (11, .int (nI k2_44)), (10, .int (nI qi_43)), (9, .int r_39), (8, .int 0), (7, .int (nI q_3)), (6, .int bg_3), (5, .int 0), (4, .int (nI (dn sn))), (0, .ref (a 0)), (1, .int (nI sn)), (2, .int (nI kr)), (3, .int (nI wh))]) hx hb dX8_meanOf_146 hl (by decide) rfl (fun ls hl => ?_)
              refine lv_aload_n hx hb dX8_meanOf_148 rfl (lv_at hl 9 rfl) ?_
              refine lv_iload_n hx hb dX8_meanOf_149 rfl (lv_at hl 11 rfl) ?_
              refine lv_iload hx hb dX8_meanOf_150 (lv_at hl 2 rfl) ?_
              refine lv_iload hx hb dX8_meanOf_152 (lv_at hl 0 rfl) ?_
              refine ro_i (D := D) (va_runV (As := [.int (nI kr), .int (nI qi_43), .int (nI (k2_44 / 2))]) (rest := []) ⟨hx, hb, hml, hown, hts⟩ ((n_isFor l D k st lo a tx t0 we rd ru rw ca fp wd nu na ts df db sd bm fbarSeen fbarFrom fruleRounds kr qi_43 (k2_44 / 2) hbm (by first | assumption | omega)) H.size) (cwV 3 hts (gV tw_1338 tw_1340 tw_61 tw_87 tw_1341) rfl rfl rfl (by decide +kernel) ⟨Nat.le_of_ble_eq_true rfl, Nat.le_of_ble_eq_true rfl⟩) (pV hS hAlo hlo hP hK (va_Dlo hD hAlo) hZ [0, 5, 6, 7, 8] (by decide) rfl (ci := 8) (q := (RX8, TX8, 44)) (q0 := 0) rfl rfl) rfl rfl hl.1 rfl (lv_room (Nat.le_of_ble_eq_true rfl)) dX8_meanOf_154 ⟨Nat.le_of_ble_eq_true rfl, Nat.le_of_ble_eq_true rfl⟩) hS hA hP (fun r_49 H locs hw_49 hP hS => ?_)
              try dsimp only at hw_49
              rcases hw_49 with ⟨rfl, hw_49⟩ | ⟨rfl, hw_49⟩
              · refine lv_if_eq (tgt := 173) hx hb dX8_meanOf_157 (by decide) (fun h => absurd h (by decide)) (fun _ => ?_)
                refine lv_aload_n hx hb dX8_meanOf_160 rfl (lv_at hl 9 rfl) ?_
                refine lv_iload_n hx hb dX8_meanOf_161 rfl (lv_at hl 10 rfl) ?_
                refine lv_iload hx hb dX8_meanOf_162 (lv_at hl 5 rfl) ?_
                refine lv_iload hx hb dX8_meanOf_164 (lv_at hl 2 rfl) ?_
                refine lv_iload_n hx hb dX8_meanOf_166 rfl (lv_at hl 12 rfl) ?_
                refine ro_i (D := D) (va_runV (As := [.int (nI sn), .int (nI q_3), .int (nI qi_43), .int (nI wh)]) (rest := []) ⟨hx, hb, hml, hown, hts⟩ ((n_byTaking l D k st lo a tx t0 we rd ru rw ca fp wd nu na ts df db sd dn se tm gs fprices sn qi_43 (nI q_3) (nI wh) (by first | assumption | omega) (by first | assumption | omega)) H.size) (cwV 4 hts (gV tw_1342 tw_1344 tw_62 tw_87 tw_1345) rfl rfl rfl (by decide +kernel) ⟨Nat.le_of_ble_eq_true rfl, Nat.le_of_ble_eq_true rfl⟩) (pV hS hAlo hlo hP hK (va_Dlo hD hAlo) hZ [0, 1, 2, 4] (by decide) rfl (ci := 8) (q := (RX8, TX8, 44)) (q0 := 0) rfl rfl) rfl rfl hl.1 rfl (lv_room (Nat.le_of_ble_eq_true rfl)) dX8_meanOf_167 ⟨Nat.le_of_ble_eq_true rfl, Nat.le_of_ble_eq_true rfl⟩) hS hA hP (fun r_50 H locs hw_50 hP hS => ?_)
                try dsimp only at hw_50
                refine lv_goto (tgt := 187) hx hb dX8_meanOf_170 (by decide) ?_
                refine lv_istore (lv' := [(13, .int r_50), (12, .int (nI (k2_44 / 2))), (11, .int (nI k2_44)), (10, .int (nI qi_43)), (9, .int r_39), (8, .int 0), (7, .int (nI q_3)), (6, .int bg_3), (5, .int 0), (4, .int (nI (dn sn))), (0, .ref (a 0)), (1, .int (nI sn)), (2, .int (nI kr)), (3, .int (nI wh))]) hx hb dX8_meanOf_187 hl (by decide) rfl (fun ls hl => ?_)
                refine lv_aload_n hx hb dX8_meanOf_189 rfl (lv_at hl 10 rfl) ?_
                refine va_get (D := D) (ci := 8) (v := .ref (a 30)) (C := RX8) (T := TX8) (N := 44) hx hb hts inX8 hown hK hP 0 rfl rfl 29 (by decide) (hts _ tw_1002) (fun _ h9 => h9) rfl dX8_meanOf_190 ?_
                refine lv_iload hx hb dX8_meanOf_193 (lv_at hl 2 rfl) ?_
                refine lv_aload_n hx hb dX8_meanOf_195 rfl (lv_at hl 10 rfl) ?_
                refine lv_iload_n hx hb dX8_meanOf_196 rfl (lv_at hl 11 rfl) ?_
                refine lv_iload hx hb dX8_meanOf_197 (lv_at hl 3 rfl) ?_
                refine lv_iload hx hb dX8_meanOf_199 (lv_at hl 2 rfl) ?_
                refine lv_iconst (v := 2) hx hb dX8_meanOf_201 (by decide) ?_
                refine lv_irem hx hb dX8_meanOf_202 (by decide) ?_
                refine lv_ti (y := (nI (k2_44 % 2))) (pk_rem (by omega) (by decide) (by decide)) ?_
                refine lv_iconst (v := 1) hx hb dX8_meanOf_203 (by decide) ?_
                refine lv_icmp_ne (tgt := 211) hx hb dX8_meanOf_204 (by decide) (fun c_51 => ?_) (fun c_51 => ?_)
                · have c_51 : ¬ ((k2_44 % 2) = 1) := fun h => c_51 ((nI_eq (a := (k2_44 % 2)) (b := 1) (by omega) (by omega)).mpr h)
                  refine lv_iconst (v := 0) hx hb dX8_meanOf_211 (by decide) ?_
                  refine ro_i (D := D) (va_runV (As := [.int (nI sn), .int (nI qi_43), .int 0]) (rest := [.int (nI k2_44), .ref (a 30)]) ⟨hx, hb, hml, hown, hts⟩ ((n_chanceOf l D k st lo a tx t0 we rd ru rw ca fp wd nu na ts df db sd ffrees se tm gs sn qi_43 0 (by first | assumption | omega) (by first | assumption | omega)) H.size) (cwV 3 hts (gV tw_1210 tw_1212 tw_41 tw_87 tw_1213) rfl rfl rfl (by decide +kernel) ⟨Nat.le_of_ble_eq_true rfl, Nat.le_of_ble_eq_true rfl⟩) (pV hS hAlo hlo hP hK (va_Dlo hD hAlo) hZ [0, 3, 2] (by decide) rfl (ci := 8) (q := (RX8, TX8, 44)) (q0 := 0) rfl rfl) rfl rfl hl.1 rfl (lv_room (Nat.le_of_ble_eq_true rfl)) dX8_meanOf_212 ⟨Nat.le_of_ble_eq_true rfl, Nat.le_of_ble_eq_true rfl⟩) hS hA hP (fun r_52 H locs hw_52 hP hS => ?_)
                  try dsimp only at hw_52
                  refine lv_iload hx hb dX8_meanOf_215 (lv_at hl 0 rfl) ?_
                  refine lv_iload hx hb dX8_meanOf_217 (lv_at hl 8 rfl) ?_
                  refine lv_aload_n hx hb dX8_meanOf_219 rfl (lv_at hl 10 rfl) ?_
                  refine va_get (D := D) (ci := 8) (v := .ref (a 29)) (C := RX8) (T := TX8) (N := 44) hx hb hts inX8 hown hK hP 0 rfl rfl 28 (by decide) (hts _ tw_1001) (fun _ h9 => h9) rfl dX8_meanOf_220 ?_
                  refine lv_iconst (v := 2) hx hb dX8_meanOf_223 (by decide) ?_
                  refine lv_iload hx hb dX8_meanOf_224 (lv_at hl 1 rfl) ?_
                  refine lv_imul hx hb dX8_meanOf_226 ?_
                  refine lv_ti (y := (nI (2 * (k2_44 / 2)))) (pk_mul 2 (k2_44 / 2)) ?_
                  refine va_iald hx hb hK hP 9 1 rfl rfl (vp_in_nI (by omega) (by decide)) dX8_meanOf_227 ?_
                  refine lv_ti (y := (ff3_43 (2 * (k2_44 / 2)))) (by rw [nI_clamp (by omega)]) ?_
                  refine lv_iadd hx hb dX8_meanOf_228 ?_
                  refine lv_topi (fun x_53 ex_53 => ?_)
                  refine ro_i (D := D) (va_runS (As := [.int r_52, .int r_50, .int x_53]) (rest := [.int (nI k2_44), .ref (a 30)]) ⟨hx, hb, hml, hown, hts⟩ ((n_mixed l D k st lo r_52 r_50 x_53) H.size) (va_cwS 3 hts (gS tw_1269 tw_1270 tw_87 tw_1271) rfl rfl rfl (by decide +kernel) ⟨Nat.le_of_ble_eq_true rfl, Nat.le_of_ble_eq_true rfl⟩) (pS hS hAlo hlo hP hK (va_Dlo hD hAlo) hZ [] (by decide) rfl) rfl rfl hl.1 rfl (lv_room (Nat.le_of_ble_eq_true rfl)) dX8_meanOf_229 ⟨Nat.le_of_ble_eq_true rfl, Nat.le_of_ble_eq_true rfl⟩) hS hA hP (fun r_54 H locs hw_54 hP hS => ?_)
                  try dsimp only at hw_54
                  refine va_iast hx hb hK hP hD hS 10 1 rfl rfl (vp_in_nI (by omega) (by decide)) dX8_meanOf_232 (fun H locs hP hD hS => ?_)
                  replace hP : va_P D classes [((a 0), .inr (8, (fX8 a (nI tx) fp (nI t0) wd (nI we) nu na (nI rd) ts (nI ru) (nI rw) (nI ca) df db sd))), (aI k (a 1) 3 (nF dn)), (aI k (a 4) 27 (sg se tm gs)), (aI k (a 2) 72 ffrees), (aI k (a 3) 72 fprices), (aI k (a 25) 4 (nF bm)), (aI k (a 26) 48 fbarSeen), (aI k (a 27) 48 fbarFrom), (aI k (a 28) 4 fruleRounds), (aI k (a 29) 52 ff3_43), (aI k (a 30) 52 (upd fb4_44 (Int32.toNatClampNeg (nI k2_44)) r_54))] H := hP
                  replace hD : va_D A [((a 0), .inr (8, (fX8 a (nI tx) fp (nI t0) wd (nI we) nu na (nI rd) ts (nI ru) (nI rw) (nI ca) df db sd))), (aI k (a 1) 3 (nF dn)), (aI k (a 4) 27 (sg se tm gs)), (aI k (a 2) 72 ffrees), (aI k (a 3) 72 fprices), (aI k (a 25) 4 (nF bm)), (aI k (a 26) 48 fbarSeen), (aI k (a 27) 48 fbarFrom), (aI k (a 28) 4 fruleRounds), (aI k (a 29) 52 ff3_43), (aI k (a 30) 52 (upd fb4_44 (Int32.toNatClampNeg (nI k2_44)) r_54))] := hD
                  rw [nI_clamp (n := k2_44) (by omega)] at hP hD
                  replace hP : va_P D classes [((a 0), .inr (8, (fX8 a (nI tx) fp (nI t0) wd (nI we) nu na (nI rd) ts (nI ru) (nI rw) (nI ca) df db sd))), (aI k (a 1) 3 (nF dn)), (aI k (a 4) 27 (sg se tm gs)), (aI k (a 2) 72 ffrees), (aI k (a 3) 72 fprices), (aI k (a 25) 4 (nF bm)), (aI k (a 26) 48 fbarSeen), (aI k (a 27) 48 fbarFrom), (aI k (a 28) 4 fruleRounds), (aI k (a 29) 52 ff3_43), (aI k (a 30) 52 (upd fb4_44 k2_44 r_54))] H := hP
                  replace hD : va_D A [((a 0), .inr (8, (fX8 a (nI tx) fp (nI t0) wd (nI we) nu na (nI rd) ts (nI ru) (nI rw) (nI ca) df db sd))), (aI k (a 1) 3 (nF dn)), (aI k (a 4) 27 (sg se tm gs)), (aI k (a 2) 72 ffrees), (aI k (a 3) 72 fprices), (aI k (a 25) 4 (nF bm)), (aI k (a 26) 48 fbarSeen), (aI k (a 27) 48 fbarFrom), (aI k (a 28) 4 fruleRounds), (aI k (a 29) 52 ff3_43), (aI k (a 30) 52 (upd fb4_44 k2_44 r_54))] := hD
                  refine lv_iinc (v := (nI (k2_44 + 1))) (lv' := [(11, .int (nI (k2_44 + 1))), (13, .int r_50), (12, .int (nI (k2_44 / 2))), (10, .int (nI qi_43)), (9, .int r_39), (8, .int 0), (7, .int (nI q_3)), (6, .int bg_3), (5, .int 0), (4, .int (nI (dn sn))), (0, .ref (a 0)), (1, .int (nI sn)), (2, .int (nI kr)), (3, .int (nI wh))]) hx hb dX8_meanOf_233 hl (k := 2) rfl (nI_add k2_44 1) (by decide) rfl (fun ls hl => ?_)
                  refine lv_goto (tgt := 135) hx hb dX8_meanOf_236 (by decide) ?_
                  have hx_44 : (k2_44 / 2) + (dn sn - qi_43) ≤ 25 → r_54 = mV (sdM dn (sg se tm gs) ffrees fprices sn) (ruM bm fbarSeen fbarFrom fruleRounds kr) wh q_3 r_39 (dn sn - qi_43) (k2_44 / 2) (k2_44 % 2) := fun hk => mv_v (d := (sdM dn (sg se tm gs) ffrees fprices sn)) (u := (ruM bm fbarSeen fbarFrom fruleRounds kr)) (wh := wh) (r := q_3) (E := r_39) (p := (k2_44 / 2)) (a := k2_44 % 2) (show qi_43 < dn sn by omega) (show _ = pChance (sdM dn (sg se tm gs) ffrees fprices sn) qi_43 (nI (k2_44 % 2)) from by rw [show k2_44 % 2 = 0 by omega]; exact hw_52.trans (mChance (fpr := fprices) (show qi_43 < dn sn by omega))) (by rw [if_pos hw_49]; exact hw_50.trans (mByT hg9 (by omega) (by omega) (by omega) (by omega))) (by rw [← hps_2, ex_53]; exact congrArg (fun z => 0 + z) (by have h9 := hv_43.2 (2 * (k2_44 / 2)) (by omega) (by omega); rw [show (2 * (k2_44 / 2)) / 2 = (k2_44 / 2) by omega, show (2 * (k2_44 / 2)) % 2 = 0 by omega] at h9; exact h9)) hw_54
                  exact ih_44 _ (k2_44 + 1, (upd fb4_44 k2_44 r_54)) _ _ _ (by omega) ⟨rfl, ⟨by omega, la_updc (F := fun k => mV (sdM dn (sg se tm gs) ffrees fprices sn) (ruM bm fbarSeen fbarFrom fruleRounds kr) wh q_3 r_39 (dn sn - qi_43) (k / 2) (k % 2)) (P := fun k => k / 2 + (dn sn - qi_43) ≤ 25) hv_44.2 hx_44⟩, hP, hD, hS, (lv_sub hl [0, 3, 4, 5, 6, 7, 8, 9, 10, 11, 12, 13] rfl)⟩
                · have c_51 := (nI_eq (a := (k2_44 % 2)) (b := 1) (by omega) (by omega)).mp c_51
                  refine lv_iconst (v := 1) hx hb dX8_meanOf_207 (by decide) ?_
                  refine lv_goto (tgt := 212) hx hb dX8_meanOf_208 (by decide) ?_
                  refine ro_i (D := D) (va_runV (As := [.int (nI sn), .int (nI qi_43), .int 1]) (rest := [.int (nI k2_44), .ref (a 30)]) ⟨hx, hb, hml, hown, hts⟩ ((n_chanceOf l D k st lo a tx t0 we rd ru rw ca fp wd nu na ts df db sd ffrees se tm gs sn qi_43 1 (by first | assumption | omega) (by first | assumption | omega)) H.size) (cwV 3 hts (gV tw_1210 tw_1212 tw_41 tw_87 tw_1213) rfl rfl rfl (by decide +kernel) ⟨Nat.le_of_ble_eq_true rfl, Nat.le_of_ble_eq_true rfl⟩) (pV hS hAlo hlo hP hK (va_Dlo hD hAlo) hZ [0, 3, 2] (by decide) rfl (ci := 8) (q := (RX8, TX8, 44)) (q0 := 0) rfl rfl) rfl rfl hl.1 rfl (lv_room (Nat.le_of_ble_eq_true rfl)) dX8_meanOf_212 ⟨Nat.le_of_ble_eq_true rfl, Nat.le_of_ble_eq_true rfl⟩) hS hA hP (fun r_56 H locs hw_56 hP hS => ?_)
                  try dsimp only at hw_56
                  refine lv_iload hx hb dX8_meanOf_215 (lv_at hl 0 rfl) ?_
                  refine lv_iload hx hb dX8_meanOf_217 (lv_at hl 8 rfl) ?_
                  refine lv_aload_n hx hb dX8_meanOf_219 rfl (lv_at hl 10 rfl) ?_
                  refine va_get (D := D) (ci := 8) (v := .ref (a 29)) (C := RX8) (T := TX8) (N := 44) hx hb hts inX8 hown hK hP 0 rfl rfl 28 (by decide) (hts _ tw_1001) (fun _ h9 => h9) rfl dX8_meanOf_220 ?_
                  refine lv_iconst (v := 2) hx hb dX8_meanOf_223 (by decide) ?_
                  refine lv_iload hx hb dX8_meanOf_224 (lv_at hl 1 rfl) ?_
                  refine lv_imul hx hb dX8_meanOf_226 ?_
                  refine lv_ti (y := (nI (2 * (k2_44 / 2)))) (pk_mul 2 (k2_44 / 2)) ?_
                  refine va_iald hx hb hK hP 9 1 rfl rfl (vp_in_nI (by omega) (by decide)) dX8_meanOf_227 ?_
                  refine lv_ti (y := (ff3_43 (2 * (k2_44 / 2)))) (by rw [nI_clamp (by omega)]) ?_
                  refine lv_iadd hx hb dX8_meanOf_228 ?_
                  refine lv_topi (fun x_57 ex_57 => ?_)
                  refine ro_i (D := D) (va_runS (As := [.int r_56, .int r_50, .int x_57]) (rest := [.int (nI k2_44), .ref (a 30)]) ⟨hx, hb, hml, hown, hts⟩ ((n_mixed l D k st lo r_56 r_50 x_57) H.size) (va_cwS 3 hts (gS tw_1269 tw_1270 tw_87 tw_1271) rfl rfl rfl (by decide +kernel) ⟨Nat.le_of_ble_eq_true rfl, Nat.le_of_ble_eq_true rfl⟩) (pS hS hAlo hlo hP hK (va_Dlo hD hAlo) hZ [] (by decide) rfl) rfl rfl hl.1 rfl (lv_room (Nat.le_of_ble_eq_true rfl)) dX8_meanOf_229 ⟨Nat.le_of_ble_eq_true rfl, Nat.le_of_ble_eq_true rfl⟩) hS hA hP (fun r_58 H locs hw_58 hP hS => ?_)
                  try dsimp only at hw_58
                  refine va_iast hx hb hK hP hD hS 10 1 rfl rfl (vp_in_nI (by omega) (by decide)) dX8_meanOf_232 (fun H locs hP hD hS => ?_)
                  replace hP : va_P D classes [((a 0), .inr (8, (fX8 a (nI tx) fp (nI t0) wd (nI we) nu na (nI rd) ts (nI ru) (nI rw) (nI ca) df db sd))), (aI k (a 1) 3 (nF dn)), (aI k (a 4) 27 (sg se tm gs)), (aI k (a 2) 72 ffrees), (aI k (a 3) 72 fprices), (aI k (a 25) 4 (nF bm)), (aI k (a 26) 48 fbarSeen), (aI k (a 27) 48 fbarFrom), (aI k (a 28) 4 fruleRounds), (aI k (a 29) 52 ff3_43), (aI k (a 30) 52 (upd fb4_44 (Int32.toNatClampNeg (nI k2_44)) r_58))] H := hP
                  replace hD : va_D A [((a 0), .inr (8, (fX8 a (nI tx) fp (nI t0) wd (nI we) nu na (nI rd) ts (nI ru) (nI rw) (nI ca) df db sd))), (aI k (a 1) 3 (nF dn)), (aI k (a 4) 27 (sg se tm gs)), (aI k (a 2) 72 ffrees), (aI k (a 3) 72 fprices), (aI k (a 25) 4 (nF bm)), (aI k (a 26) 48 fbarSeen), (aI k (a 27) 48 fbarFrom), (aI k (a 28) 4 fruleRounds), (aI k (a 29) 52 ff3_43), (aI k (a 30) 52 (upd fb4_44 (Int32.toNatClampNeg (nI k2_44)) r_58))] := hD
                  rw [nI_clamp (n := k2_44) (by omega)] at hP hD
                  replace hP : va_P D classes [((a 0), .inr (8, (fX8 a (nI tx) fp (nI t0) wd (nI we) nu na (nI rd) ts (nI ru) (nI rw) (nI ca) df db sd))), (aI k (a 1) 3 (nF dn)), (aI k (a 4) 27 (sg se tm gs)), (aI k (a 2) 72 ffrees), (aI k (a 3) 72 fprices), (aI k (a 25) 4 (nF bm)), (aI k (a 26) 48 fbarSeen), (aI k (a 27) 48 fbarFrom), (aI k (a 28) 4 fruleRounds), (aI k (a 29) 52 ff3_43), (aI k (a 30) 52 (upd fb4_44 k2_44 r_58))] H := hP
                  replace hD : va_D A [((a 0), .inr (8, (fX8 a (nI tx) fp (nI t0) wd (nI we) nu na (nI rd) ts (nI ru) (nI rw) (nI ca) df db sd))), (aI k (a 1) 3 (nF dn)), (aI k (a 4) 27 (sg se tm gs)), (aI k (a 2) 72 ffrees), (aI k (a 3) 72 fprices), (aI k (a 25) 4 (nF bm)), (aI k (a 26) 48 fbarSeen), (aI k (a 27) 48 fbarFrom), (aI k (a 28) 4 fruleRounds), (aI k (a 29) 52 ff3_43), (aI k (a 30) 52 (upd fb4_44 k2_44 r_58))] := hD
                  refine lv_iinc (v := (nI (k2_44 + 1))) (lv' := [(11, .int (nI (k2_44 + 1))), (13, .int r_50), (12, .int (nI (k2_44 / 2))), (10, .int (nI qi_43)), (9, .int r_39), (8, .int 0), (7, .int (nI q_3)), (6, .int bg_3), (5, .int 0), (4, .int (nI (dn sn))), (0, .ref (a 0)), (1, .int (nI sn)), (2, .int (nI kr)), (3, .int (nI wh))]) hx hb dX8_meanOf_233 hl (k := 2) rfl (nI_add k2_44 1) (by decide) rfl (fun ls hl => ?_)
                  refine lv_goto (tgt := 135) hx hb dX8_meanOf_236 (by decide) ?_
                  have hx_44 : (k2_44 / 2) + (dn sn - qi_43) ≤ 25 → r_58 = mV (sdM dn (sg se tm gs) ffrees fprices sn) (ruM bm fbarSeen fbarFrom fruleRounds kr) wh q_3 r_39 (dn sn - qi_43) (k2_44 / 2) (k2_44 % 2) := fun hk => mv_v (d := (sdM dn (sg se tm gs) ffrees fprices sn)) (u := (ruM bm fbarSeen fbarFrom fruleRounds kr)) (wh := wh) (r := q_3) (E := r_39) (p := (k2_44 / 2)) (a := k2_44 % 2) (show qi_43 < dn sn by omega) (show _ = pChance (sdM dn (sg se tm gs) ffrees fprices sn) qi_43 (nI (k2_44 % 2)) from by rw [show k2_44 % 2 = 1 by omega]; exact hw_56.trans (mChance (fpr := fprices) (show qi_43 < dn sn by omega))) (by rw [if_pos hw_49]; exact hw_50.trans (mByT hg9 (by omega) (by omega) (by omega) (by omega))) (by rw [← hps_2, ex_57]; exact congrArg (fun z => 0 + z) (by have h9 := hv_43.2 (2 * (k2_44 / 2)) (by omega) (by omega); rw [show (2 * (k2_44 / 2)) / 2 = (k2_44 / 2) by omega, show (2 * (k2_44 / 2)) % 2 = 0 by omega] at h9; exact h9)) hw_58
                  exact ih_44 _ (k2_44 + 1, (upd fb4_44 k2_44 r_58)) _ _ _ (by omega) ⟨rfl, ⟨by omega, la_updc (F := fun k => mV (sdM dn (sg se tm gs) ffrees fprices sn) (ruM bm fbarSeen fbarFrom fruleRounds kr) wh q_3 r_39 (dn sn - qi_43) (k / 2) (k % 2)) (P := fun k => k / 2 + (dn sn - qi_43) ≤ 25) hv_44.2 hx_44⟩, hP, hD, hS, (lv_sub hl [0, 3, 4, 5, 6, 7, 8, 9, 10, 11, 12, 13] rfl)⟩
              · refine lv_if_eq (tgt := 173) hx hb dX8_meanOf_157 (by decide) (fun _ => ?_) (fun h => absurd (by decide) h)
                refine lv_iload hx hb dX8_meanOf_173 (lv_at hl 7 rfl) ?_
                refine lv_aload_n hx hb dX8_meanOf_175 rfl (lv_at hl 9 rfl) ?_
                refine va_get (D := D) (ci := 8) (v := .ref (a 29)) (C := RX8) (T := TX8) (N := 44) hx hb hts inX8 hown hK hP 0 rfl rfl 28 (by decide) (hts _ tw_1001) (fun _ h9 => h9) rfl dX8_meanOf_176 ?_
                refine lv_iconst (v := 2) hx hb dX8_meanOf_179 (by decide) ?_
                refine lv_iload hx hb dX8_meanOf_180 (lv_at hl 0 rfl) ?_
                refine lv_imul hx hb dX8_meanOf_182 ?_
                refine lv_ti (y := (nI (2 * (k2_44 / 2)))) (pk_mul 2 (k2_44 / 2)) ?_
                refine lv_iconst (v := 3) hx hb dX8_meanOf_183 (by decide) ?_
                refine lv_iadd hx hb dX8_meanOf_184 ?_
                refine lv_ti (y := (nI (2 * (k2_44 / 2) + 3))) (nI_add (2 * (k2_44 / 2)) 3) ?_
                refine va_iald hx hb hK hP 9 1 rfl rfl (vp_in_nI (by omega) (by decide)) dX8_meanOf_185 ?_
                refine lv_ti (y := (ff3_43 (2 * (k2_44 / 2) + 3))) (by rw [nI_clamp (by omega)]) ?_
                refine lv_iadd hx hb dX8_meanOf_186 ?_
                refine lv_topi (fun x_60 ex_60 => ?_)
                refine lv_istore (lv' := [(13, .int x_60), (12, .int (nI (k2_44 / 2))), (11, .int (nI k2_44)), (10, .int (nI qi_43)), (9, .int r_39), (8, .int 0), (7, .int (nI q_3)), (6, .int bg_3), (5, .int 0), (4, .int (nI (dn sn))), (0, .ref (a 0)), (1, .int (nI sn)), (2, .int (nI kr)), (3, .int (nI wh))]) hx hb dX8_meanOf_187 hl (by decide) rfl (fun ls hl => ?_)
                refine lv_aload_n hx hb dX8_meanOf_189 rfl (lv_at hl 10 rfl) ?_
                refine va_get (D := D) (ci := 8) (v := .ref (a 30)) (C := RX8) (T := TX8) (N := 44) hx hb hts inX8 hown hK hP 0 rfl rfl 29 (by decide) (hts _ tw_1002) (fun _ h9 => h9) rfl dX8_meanOf_190 ?_
                refine lv_iload hx hb dX8_meanOf_193 (lv_at hl 2 rfl) ?_
                refine lv_aload_n hx hb dX8_meanOf_195 rfl (lv_at hl 10 rfl) ?_
                refine lv_iload_n hx hb dX8_meanOf_196 rfl (lv_at hl 11 rfl) ?_
                refine lv_iload hx hb dX8_meanOf_197 (lv_at hl 3 rfl) ?_
                refine lv_iload hx hb dX8_meanOf_199 (lv_at hl 2 rfl) ?_
                refine lv_iconst (v := 2) hx hb dX8_meanOf_201 (by decide) ?_
                refine lv_irem hx hb dX8_meanOf_202 (by decide) ?_
                refine lv_ti (y := (nI (k2_44 % 2))) (pk_rem (by omega) (by decide) (by decide)) ?_
                refine lv_iconst (v := 1) hx hb dX8_meanOf_203 (by decide) ?_
                refine lv_icmp_ne (tgt := 211) hx hb dX8_meanOf_204 (by decide) (fun c_61 => ?_) (fun c_61 => ?_)
                · have c_61 : ¬ ((k2_44 % 2) = 1) := fun h => c_61 ((nI_eq (a := (k2_44 % 2)) (b := 1) (by omega) (by omega)).mpr h)
                  refine lv_iconst (v := 0) hx hb dX8_meanOf_211 (by decide) ?_
                  refine ro_i (D := D) (va_runV (As := [.int (nI sn), .int (nI qi_43), .int 0]) (rest := [.int (nI k2_44), .ref (a 30)]) ⟨hx, hb, hml, hown, hts⟩ ((n_chanceOf l D k st lo a tx t0 we rd ru rw ca fp wd nu na ts df db sd ffrees se tm gs sn qi_43 0 (by first | assumption | omega) (by first | assumption | omega)) H.size) (cwV 3 hts (gV tw_1210 tw_1212 tw_41 tw_87 tw_1213) rfl rfl rfl (by decide +kernel) ⟨Nat.le_of_ble_eq_true rfl, Nat.le_of_ble_eq_true rfl⟩) (pV hS hAlo hlo hP hK (va_Dlo hD hAlo) hZ [0, 3, 2] (by decide) rfl (ci := 8) (q := (RX8, TX8, 44)) (q0 := 0) rfl rfl) rfl rfl hl.1 rfl (lv_room (Nat.le_of_ble_eq_true rfl)) dX8_meanOf_212 ⟨Nat.le_of_ble_eq_true rfl, Nat.le_of_ble_eq_true rfl⟩) hS hA hP (fun r_62 H locs hw_62 hP hS => ?_)
                  try dsimp only at hw_62
                  refine lv_iload hx hb dX8_meanOf_215 (lv_at hl 0 rfl) ?_
                  refine lv_iload hx hb dX8_meanOf_217 (lv_at hl 8 rfl) ?_
                  refine lv_aload_n hx hb dX8_meanOf_219 rfl (lv_at hl 10 rfl) ?_
                  refine va_get (D := D) (ci := 8) (v := .ref (a 29)) (C := RX8) (T := TX8) (N := 44) hx hb hts inX8 hown hK hP 0 rfl rfl 28 (by decide) (hts _ tw_1001) (fun _ h9 => h9) rfl dX8_meanOf_220 ?_
                  refine lv_iconst (v := 2) hx hb dX8_meanOf_223 (by decide) ?_
                  refine lv_iload hx hb dX8_meanOf_224 (lv_at hl 1 rfl) ?_
                  refine lv_imul hx hb dX8_meanOf_226 ?_
                  refine lv_ti (y := (nI (2 * (k2_44 / 2)))) (pk_mul 2 (k2_44 / 2)) ?_
                  refine va_iald hx hb hK hP 9 1 rfl rfl (vp_in_nI (by omega) (by decide)) dX8_meanOf_227 ?_
                  refine lv_ti (y := (ff3_43 (2 * (k2_44 / 2)))) (by rw [nI_clamp (by omega)]) ?_
                  refine lv_iadd hx hb dX8_meanOf_228 ?_
                  refine lv_topi (fun x_63 ex_63 => ?_)
                  refine ro_i (D := D) (va_runS (As := [.int r_62, .int x_60, .int x_63]) (rest := [.int (nI k2_44), .ref (a 30)]) ⟨hx, hb, hml, hown, hts⟩ ((n_mixed l D k st lo r_62 x_60 x_63) H.size) (va_cwS 3 hts (gS tw_1269 tw_1270 tw_87 tw_1271) rfl rfl rfl (by decide +kernel) ⟨Nat.le_of_ble_eq_true rfl, Nat.le_of_ble_eq_true rfl⟩) (pS hS hAlo hlo hP hK (va_Dlo hD hAlo) hZ [] (by decide) rfl) rfl rfl hl.1 rfl (lv_room (Nat.le_of_ble_eq_true rfl)) dX8_meanOf_229 ⟨Nat.le_of_ble_eq_true rfl, Nat.le_of_ble_eq_true rfl⟩) hS hA hP (fun r_64 H locs hw_64 hP hS => ?_)
                  try dsimp only at hw_64
                  refine va_iast hx hb hK hP hD hS 10 1 rfl rfl (vp_in_nI (by omega) (by decide)) dX8_meanOf_232 (fun H locs hP hD hS => ?_)
                  replace hP : va_P D classes [((a 0), .inr (8, (fX8 a (nI tx) fp (nI t0) wd (nI we) nu na (nI rd) ts (nI ru) (nI rw) (nI ca) df db sd))), (aI k (a 1) 3 (nF dn)), (aI k (a 4) 27 (sg se tm gs)), (aI k (a 2) 72 ffrees), (aI k (a 3) 72 fprices), (aI k (a 25) 4 (nF bm)), (aI k (a 26) 48 fbarSeen), (aI k (a 27) 48 fbarFrom), (aI k (a 28) 4 fruleRounds), (aI k (a 29) 52 ff3_43), (aI k (a 30) 52 (upd fb4_44 (Int32.toNatClampNeg (nI k2_44)) r_64))] H := hP
                  replace hD : va_D A [((a 0), .inr (8, (fX8 a (nI tx) fp (nI t0) wd (nI we) nu na (nI rd) ts (nI ru) (nI rw) (nI ca) df db sd))), (aI k (a 1) 3 (nF dn)), (aI k (a 4) 27 (sg se tm gs)), (aI k (a 2) 72 ffrees), (aI k (a 3) 72 fprices), (aI k (a 25) 4 (nF bm)), (aI k (a 26) 48 fbarSeen), (aI k (a 27) 48 fbarFrom), (aI k (a 28) 4 fruleRounds), (aI k (a 29) 52 ff3_43), (aI k (a 30) 52 (upd fb4_44 (Int32.toNatClampNeg (nI k2_44)) r_64))] := hD
                  rw [nI_clamp (n := k2_44) (by omega)] at hP hD
                  replace hP : va_P D classes [((a 0), .inr (8, (fX8 a (nI tx) fp (nI t0) wd (nI we) nu na (nI rd) ts (nI ru) (nI rw) (nI ca) df db sd))), (aI k (a 1) 3 (nF dn)), (aI k (a 4) 27 (sg se tm gs)), (aI k (a 2) 72 ffrees), (aI k (a 3) 72 fprices), (aI k (a 25) 4 (nF bm)), (aI k (a 26) 48 fbarSeen), (aI k (a 27) 48 fbarFrom), (aI k (a 28) 4 fruleRounds), (aI k (a 29) 52 ff3_43), (aI k (a 30) 52 (upd fb4_44 k2_44 r_64))] H := hP
                  replace hD : va_D A [((a 0), .inr (8, (fX8 a (nI tx) fp (nI t0) wd (nI we) nu na (nI rd) ts (nI ru) (nI rw) (nI ca) df db sd))), (aI k (a 1) 3 (nF dn)), (aI k (a 4) 27 (sg se tm gs)), (aI k (a 2) 72 ffrees), (aI k (a 3) 72 fprices), (aI k (a 25) 4 (nF bm)), (aI k (a 26) 48 fbarSeen), (aI k (a 27) 48 fbarFrom), (aI k (a 28) 4 fruleRounds), (aI k (a 29) 52 ff3_43), (aI k (a 30) 52 (upd fb4_44 k2_44 r_64))] := hD
                  refine lv_iinc (v := (nI (k2_44 + 1))) (lv' := [(11, .int (nI (k2_44 + 1))), (13, .int x_60), (12, .int (nI (k2_44 / 2))), (10, .int (nI qi_43)), (9, .int r_39), (8, .int 0), (7, .int (nI q_3)), (6, .int bg_3), (5, .int 0), (4, .int (nI (dn sn))), (0, .ref (a 0)), (1, .int (nI sn)), (2, .int (nI kr)), (3, .int (nI wh))]) hx hb dX8_meanOf_233 hl (k := 2) rfl (nI_add k2_44 1) (by decide) rfl (fun ls hl => ?_)
                  refine lv_goto (tgt := 135) hx hb dX8_meanOf_236 (by decide) ?_
                  have hx_44 : (k2_44 / 2) + (dn sn - qi_43) ≤ 25 → r_64 = mV (sdM dn (sg se tm gs) ffrees fprices sn) (ruM bm fbarSeen fbarFrom fruleRounds kr) wh q_3 r_39 (dn sn - qi_43) (k2_44 / 2) (k2_44 % 2) := fun hk => mv_v (d := (sdM dn (sg se tm gs) ffrees fprices sn)) (u := (ruM bm fbarSeen fbarFrom fruleRounds kr)) (wh := wh) (r := q_3) (E := r_39) (p := (k2_44 / 2)) (a := k2_44 % 2) (show qi_43 < dn sn by omega) (show _ = pChance (sdM dn (sg se tm gs) ffrees fprices sn) qi_43 (nI (k2_44 % 2)) from by rw [show k2_44 % 2 = 0 by omega]; exact hw_62.trans (mChance (fpr := fprices) (show qi_43 < dn sn by omega))) (by rw [if_neg hw_49, ← hps_2, ex_60]; exact congrArg (fun z => 0 + z) (by have h9 := hv_43.2 (2 * (k2_44 / 2) + 3) (by omega) (by omega); rw [show (2 * (k2_44 / 2) + 3) / 2 = (k2_44 / 2) + 1 by omega, show (2 * (k2_44 / 2) + 3) % 2 = 1 by omega] at h9; exact h9)) (by rw [← hps_2, ex_63]; exact congrArg (fun z => 0 + z) (by have h9 := hv_43.2 (2 * (k2_44 / 2)) (by omega) (by omega); rw [show (2 * (k2_44 / 2)) / 2 = (k2_44 / 2) by omega, show (2 * (k2_44 / 2)) % 2 = 0 by omega] at h9; exact h9)) hw_64
                  exact ih_44 _ (k2_44 + 1, (upd fb4_44 k2_44 r_64)) _ _ _ (by omega) ⟨rfl, ⟨by omega, la_updc (F := fun k => mV (sdM dn (sg se tm gs) ffrees fprices sn) (ruM bm fbarSeen fbarFrom fruleRounds kr) wh q_3 r_39 (dn sn - qi_43) (k / 2) (k % 2)) (P := fun k => k / 2 + (dn sn - qi_43) ≤ 25) hv_44.2 hx_44⟩, hP, hD, hS, (lv_sub hl [0, 3, 4, 5, 6, 7, 8, 9, 10, 11, 12, 13] rfl)⟩
                · have c_61 := (nI_eq (a := (k2_44 % 2)) (b := 1) (by omega) (by omega)).mp c_61
                  refine lv_iconst (v := 1) hx hb dX8_meanOf_207 (by decide) ?_
                  refine lv_goto (tgt := 212) hx hb dX8_meanOf_208 (by decide) ?_
                  refine ro_i (D := D) (va_runV (As := [.int (nI sn), .int (nI qi_43), .int 1]) (rest := [.int (nI k2_44), .ref (a 30)]) ⟨hx, hb, hml, hown, hts⟩ ((n_chanceOf l D k st lo a tx t0 we rd ru rw ca fp wd nu na ts df db sd ffrees se tm gs sn qi_43 1 (by first | assumption | omega) (by first | assumption | omega)) H.size) (cwV 3 hts (gV tw_1210 tw_1212 tw_41 tw_87 tw_1213) rfl rfl rfl (by decide +kernel) ⟨Nat.le_of_ble_eq_true rfl, Nat.le_of_ble_eq_true rfl⟩) (pV hS hAlo hlo hP hK (va_Dlo hD hAlo) hZ [0, 3, 2] (by decide) rfl (ci := 8) (q := (RX8, TX8, 44)) (q0 := 0) rfl rfl) rfl rfl hl.1 rfl (lv_room (Nat.le_of_ble_eq_true rfl)) dX8_meanOf_212 ⟨Nat.le_of_ble_eq_true rfl, Nat.le_of_ble_eq_true rfl⟩) hS hA hP (fun r_66 H locs hw_66 hP hS => ?_)
                  try dsimp only at hw_66
                  refine lv_iload hx hb dX8_meanOf_215 (lv_at hl 0 rfl) ?_
                  refine lv_iload hx hb dX8_meanOf_217 (lv_at hl 8 rfl) ?_
                  refine lv_aload_n hx hb dX8_meanOf_219 rfl (lv_at hl 10 rfl) ?_
                  refine va_get (D := D) (ci := 8) (v := .ref (a 29)) (C := RX8) (T := TX8) (N := 44) hx hb hts inX8 hown hK hP 0 rfl rfl 28 (by decide) (hts _ tw_1001) (fun _ h9 => h9) rfl dX8_meanOf_220 ?_
                  refine lv_iconst (v := 2) hx hb dX8_meanOf_223 (by decide) ?_
                  refine lv_iload hx hb dX8_meanOf_224 (lv_at hl 1 rfl) ?_
                  refine lv_imul hx hb dX8_meanOf_226 ?_
                  refine lv_ti (y := (nI (2 * (k2_44 / 2)))) (pk_mul 2 (k2_44 / 2)) ?_
                  refine va_iald hx hb hK hP 9 1 rfl rfl (vp_in_nI (by omega) (by decide)) dX8_meanOf_227 ?_
                  refine lv_ti (y := (ff3_43 (2 * (k2_44 / 2)))) (by rw [nI_clamp (by omega)]) ?_
                  refine lv_iadd hx hb dX8_meanOf_228 ?_
                  refine lv_topi (fun x_67 ex_67 => ?_)
                  refine ro_i (D := D) (va_runS (As := [.int r_66, .int x_60, .int x_67]) (rest := [.int (nI k2_44), .ref (a 30)]) ⟨hx, hb, hml, hown, hts⟩ ((n_mixed l D k st lo r_66 x_60 x_67) H.size) (va_cwS 3 hts (gS tw_1269 tw_1270 tw_87 tw_1271) rfl rfl rfl (by decide +kernel) ⟨Nat.le_of_ble_eq_true rfl, Nat.le_of_ble_eq_true rfl⟩) (pS hS hAlo hlo hP hK (va_Dlo hD hAlo) hZ [] (by decide) rfl) rfl rfl hl.1 rfl (lv_room (Nat.le_of_ble_eq_true rfl)) dX8_meanOf_229 ⟨Nat.le_of_ble_eq_true rfl, Nat.le_of_ble_eq_true rfl⟩) hS hA hP (fun r_68 H locs hw_68 hP hS => ?_)
                  try dsimp only at hw_68
                  refine va_iast hx hb hK hP hD hS 10 1 rfl rfl (vp_in_nI (by omega) (by decide)) dX8_meanOf_232 (fun H locs hP hD hS => ?_)
                  replace hP : va_P D classes [((a 0), .inr (8, (fX8 a (nI tx) fp (nI t0) wd (nI we) nu na (nI rd) ts (nI ru) (nI rw) (nI ca) df db sd))), (aI k (a 1) 3 (nF dn)), (aI k (a 4) 27 (sg se tm gs)), (aI k (a 2) 72 ffrees), (aI k (a 3) 72 fprices), (aI k (a 25) 4 (nF bm)), (aI k (a 26) 48 fbarSeen), (aI k (a 27) 48 fbarFrom), (aI k (a 28) 4 fruleRounds), (aI k (a 29) 52 ff3_43), (aI k (a 30) 52 (upd fb4_44 (Int32.toNatClampNeg (nI k2_44)) r_68))] H := hP
                  replace hD : va_D A [((a 0), .inr (8, (fX8 a (nI tx) fp (nI t0) wd (nI we) nu na (nI rd) ts (nI ru) (nI rw) (nI ca) df db sd))), (aI k (a 1) 3 (nF dn)), (aI k (a 4) 27 (sg se tm gs)), (aI k (a 2) 72 ffrees), (aI k (a 3) 72 fprices), (aI k (a 25) 4 (nF bm)), (aI k (a 26) 48 fbarSeen), (aI k (a 27) 48 fbarFrom), (aI k (a 28) 4 fruleRounds), (aI k (a 29) 52 ff3_43), (aI k (a 30) 52 (upd fb4_44 (Int32.toNatClampNeg (nI k2_44)) r_68))] := hD
                  rw [nI_clamp (n := k2_44) (by omega)] at hP hD
                  replace hP : va_P D classes [((a 0), .inr (8, (fX8 a (nI tx) fp (nI t0) wd (nI we) nu na (nI rd) ts (nI ru) (nI rw) (nI ca) df db sd))), (aI k (a 1) 3 (nF dn)), (aI k (a 4) 27 (sg se tm gs)), (aI k (a 2) 72 ffrees), (aI k (a 3) 72 fprices), (aI k (a 25) 4 (nF bm)), (aI k (a 26) 48 fbarSeen), (aI k (a 27) 48 fbarFrom), (aI k (a 28) 4 fruleRounds), (aI k (a 29) 52 ff3_43), (aI k (a 30) 52 (upd fb4_44 k2_44 r_68))] H := hP
                  replace hD : va_D A [((a 0), .inr (8, (fX8 a (nI tx) fp (nI t0) wd (nI we) nu na (nI rd) ts (nI ru) (nI rw) (nI ca) df db sd))), (aI k (a 1) 3 (nF dn)), (aI k (a 4) 27 (sg se tm gs)), (aI k (a 2) 72 ffrees), (aI k (a 3) 72 fprices), (aI k (a 25) 4 (nF bm)), (aI k (a 26) 48 fbarSeen), (aI k (a 27) 48 fbarFrom), (aI k (a 28) 4 fruleRounds), (aI k (a 29) 52 ff3_43), (aI k (a 30) 52 (upd fb4_44 k2_44 r_68))] := hD
                  refine lv_iinc (v := (nI (k2_44 + 1))) (lv' := [(11, .int (nI (k2_44 + 1))), (13, .int x_60), (12, .int (nI (k2_44 / 2))), (10, .int (nI qi_43)), (9, .int r_39), (8, .int 0), (7, .int (nI q_3)), (6, .int bg_3), (5, .int 0), (4, .int (nI (dn sn))), (0, .ref (a 0)), (1, .int (nI sn)), (2, .int (nI kr)), (3, .int (nI wh))]) hx hb dX8_meanOf_233 hl (k := 2) rfl (nI_add k2_44 1) (by decide) rfl (fun ls hl => ?_)
                  refine lv_goto (tgt := 135) hx hb dX8_meanOf_236 (by decide) ?_
                  have hx_44 : (k2_44 / 2) + (dn sn - qi_43) ≤ 25 → r_68 = mV (sdM dn (sg se tm gs) ffrees fprices sn) (ruM bm fbarSeen fbarFrom fruleRounds kr) wh q_3 r_39 (dn sn - qi_43) (k2_44 / 2) (k2_44 % 2) := fun hk => mv_v (d := (sdM dn (sg se tm gs) ffrees fprices sn)) (u := (ruM bm fbarSeen fbarFrom fruleRounds kr)) (wh := wh) (r := q_3) (E := r_39) (p := (k2_44 / 2)) (a := k2_44 % 2) (show qi_43 < dn sn by omega) (show _ = pChance (sdM dn (sg se tm gs) ffrees fprices sn) qi_43 (nI (k2_44 % 2)) from by rw [show k2_44 % 2 = 1 by omega]; exact hw_66.trans (mChance (fpr := fprices) (show qi_43 < dn sn by omega))) (by rw [if_neg hw_49, ← hps_2, ex_60]; exact congrArg (fun z => 0 + z) (by have h9 := hv_43.2 (2 * (k2_44 / 2) + 3) (by omega) (by omega); rw [show (2 * (k2_44 / 2) + 3) / 2 = (k2_44 / 2) + 1 by omega, show (2 * (k2_44 / 2) + 3) % 2 = 1 by omega] at h9; exact h9)) (by rw [← hps_2, ex_67]; exact congrArg (fun z => 0 + z) (by have h9 := hv_43.2 (2 * (k2_44 / 2)) (by omega) (by omega); rw [show (2 * (k2_44 / 2)) / 2 = (k2_44 / 2) by omega, show (2 * (k2_44 / 2)) % 2 = 0 by omega] at h9; exact h9)) hw_68
                  exact ih_44 _ (k2_44 + 1, (upd fb4_44 k2_44 r_68)) _ _ _ (by omega) ⟨rfl, ⟨by omega, la_updc (F := fun k => mV (sdM dn (sg se tm gs) ffrees fprices sn) (ruM bm fbarSeen fbarFrom fruleRounds kr) wh q_3 r_39 (dn sn - qi_43) (k / 2) (k % 2)) (P := fun k => k / 2 + (dn sn - qi_43) ≤ 25) hv_44.2 hx_44⟩, hP, hD, hS, (lv_sub hl [0, 3, 4, 5, 6, 7, 8, 9, 10, 11, 12, 13] rfl)⟩
        · have c_42 : ¬ (52 ≤ kk_41) := fun h => c_42 ((nI_leI (a := 52) (b := kk_41) (by omega) (by omega)).mpr h)
          refine lv_aload_n hx hb dX8_meanOf_106 rfl (lv_at hl 7 rfl) ?_
          refine va_get (D := D) (ci := 8) (v := .ref (a 29)) (C := RX8) (T := TX8) (N := 44) hx hb hts inX8 hown hK hP 0 rfl rfl 28 (by decide) (hts _ tw_1001) (fun _ h9 => h9) rfl dX8_meanOf_107 ?_
          refine lv_iload hx hb dX8_meanOf_110 (lv_at hl 0 rfl) ?_
          refine lv_iload hx hb dX8_meanOf_112 (lv_at hl 1 rfl) ?_
          refine va_iast hx hb hK hP hD hS 9 1 rfl rfl (vp_in_nI (by omega) (by decide)) dX8_meanOf_114 (fun H locs hP hD hS => ?_)
          replace hP : va_P D classes [((a 0), .inr (8, (fX8 a (nI tx) fp (nI t0) wd (nI we) nu na (nI rd) ts (nI ru) (nI rw) (nI ca) df db sd))), (aI k (a 1) 3 (nF dn)), (aI k (a 4) 27 (sg se tm gs)), (aI k (a 2) 72 ffrees), (aI k (a 3) 72 fprices), (aI k (a 25) 4 (nF bm)), (aI k (a 26) 48 fbarSeen), (aI k (a 27) 48 fbarFrom), (aI k (a 28) 4 fruleRounds), (aI k (a 29) 52 (upd ff2_41 (Int32.toNatClampNeg (nI kk_41)) r_39)), (aI k (a 30) 52 fb_3)] H := hP
          replace hD : va_D A [((a 0), .inr (8, (fX8 a (nI tx) fp (nI t0) wd (nI we) nu na (nI rd) ts (nI ru) (nI rw) (nI ca) df db sd))), (aI k (a 1) 3 (nF dn)), (aI k (a 4) 27 (sg se tm gs)), (aI k (a 2) 72 ffrees), (aI k (a 3) 72 fprices), (aI k (a 25) 4 (nF bm)), (aI k (a 26) 48 fbarSeen), (aI k (a 27) 48 fbarFrom), (aI k (a 28) 4 fruleRounds), (aI k (a 29) 52 (upd ff2_41 (Int32.toNatClampNeg (nI kk_41)) r_39)), (aI k (a 30) 52 fb_3)] := hD
          rw [nI_clamp (n := kk_41) (by omega)] at hP hD
          replace hP : va_P D classes [((a 0), .inr (8, (fX8 a (nI tx) fp (nI t0) wd (nI we) nu na (nI rd) ts (nI ru) (nI rw) (nI ca) df db sd))), (aI k (a 1) 3 (nF dn)), (aI k (a 4) 27 (sg se tm gs)), (aI k (a 2) 72 ffrees), (aI k (a 3) 72 fprices), (aI k (a 25) 4 (nF bm)), (aI k (a 26) 48 fbarSeen), (aI k (a 27) 48 fbarFrom), (aI k (a 28) 4 fruleRounds), (aI k (a 29) 52 (upd ff2_41 kk_41 r_39)), (aI k (a 30) 52 fb_3)] H := hP
          replace hD : va_D A [((a 0), .inr (8, (fX8 a (nI tx) fp (nI t0) wd (nI we) nu na (nI rd) ts (nI ru) (nI rw) (nI ca) df db sd))), (aI k (a 1) 3 (nF dn)), (aI k (a 4) 27 (sg se tm gs)), (aI k (a 2) 72 ffrees), (aI k (a 3) 72 fprices), (aI k (a 25) 4 (nF bm)), (aI k (a 26) 48 fbarSeen), (aI k (a 27) 48 fbarFrom), (aI k (a 28) 4 fruleRounds), (aI k (a 29) 52 (upd ff2_41 kk_41 r_39)), (aI k (a 30) 52 fb_3)] := hD
          refine lv_iinc (v := (nI (kk_41 + 1))) (lv' := [(10, .int (nI (kk_41 + 1))), (9, .int r_39), (8, .int 0), (7, .int (nI q_3)), (6, .int bg_3), (5, .int 0), (4, .int (nI (dn sn))), (0, .ref (a 0)), (1, .int (nI sn)), (2, .int (nI kr)), (3, .int (nI wh))]) hx hb dX8_meanOf_115 hl (k := 0) rfl (nI_add kk_41 1) (by decide) rfl (fun ls hl => ?_)
          refine lv_goto (tgt := 99) hx hb dX8_meanOf_118 (by decide) ?_
          exact ih_41 _ (kk_41 + 1, (upd ff2_41 kk_41 r_39)) _ _ _ (by omega) ⟨rfl, ⟨by omega, la_upd (F := fun _ => r_39) hv_41.2 rfl⟩, hP, hD, hS, (lv_sub hl [0, 1, 2, 3, 4, 5, 6, 7, 8, 9, 10] rfl)⟩
  · have c_1 := (nI_eq (a := wh) (b := 0) (by omega) (by omega)).mp c_1
    refine lv_aload_n hx hb dX8_meanOf_12 rfl (lv_at hl 1 rfl) ?_
    refine lv_iload_n hx hb dX8_meanOf_13 rfl (lv_at hl 2 rfl) ?_
    refine lv_iconst (v := 2) hx hb dX8_meanOf_14 (by decide) ?_
    refine ro_i (D := D) (va_runV (As := [.int (nI sn), .int 2]) (rest := []) ⟨hx, hb, hml, hown, hts⟩ ((m_of l D k st lo a tx t0 we rd ru rw ca fp wd nu na ts df db sd se tm gs sn 2 (by first | assumption | omega) (by first | assumption | omega)) s.heap.size) (cwV 2 hts (gV tw_1194 tw_1196 tw_39 tw_87 tw_1197) rfl rfl rfl (by decide +kernel) ⟨Nat.le_of_ble_eq_true rfl, Nat.le_of_ble_eq_true rfl⟩) (pV hS hAlo hlo hP hK (va_Dlo hD hAlo) hZ [0, 2] (by decide) rfl (ci := 8) (q := (RX8, TX8, 44)) (q0 := 0) rfl rfl) rfl rfl hl.1 rfl (lv_room (Nat.le_of_ble_eq_true rfl)) dX8_meanOf_15 ⟨Nat.le_of_ble_eq_true rfl, Nat.le_of_ble_eq_true rfl⟩) hS hA hP (fun r_71 H locs hw_71 hP hS => ?_)
    try dsimp only at hw_71
    refine lv_sipush (v := 1000) hx hb dX8_meanOf_18 (by decide) ?_
    refine lv_imul hx hb dX8_meanOf_21 ?_
    refine lv_topi (fun x_72 ex_72 => ?_)
    refine lv_goto (tgt := 26) hx hb dX8_meanOf_22 (by decide) ?_
    have hps_73 : x_72 = pPs (sdM dn (sg se tm gs) ffrees fprices sn) wh := by unfold pPs; rw [if_pos (by omega), ex_72, hw_71]; exact mPass
    refine lv_istore (lv' := [(5, .int x_72), (4, .int (nI (dn sn))), (0, .ref (a 0)), (1, .int (nI sn)), (2, .int (nI kr)), (3, .int (nI wh))]) hx hb dX8_meanOf_26 hl (by decide) rfl (fun ls hl => ?_)
    refine lv_iconst (v := 0) hx hb dX8_meanOf_28 (by decide) ?_
    refine lv_istore (lv' := [(6, .int 0), (5, .int x_72), (4, .int (nI (dn sn))), (0, .ref (a 0)), (1, .int (nI sn)), (2, .int (nI kr)), (3, .int (nI wh))]) hx hb dX8_meanOf_29 hl (by decide) rfl (fun ls hl => ?_)
    refine lv_iconst (v := 3) hx hb dX8_meanOf_31 (by decide) ?_
    refine lv_istore (lv' := [(7, .int 3), (6, .int 0), (5, .int x_72), (4, .int (nI (dn sn))), (0, .ref (a 0)), (1, .int (nI sn)), (2, .int (nI kr)), (3, .int (nI wh))]) hx hb dX8_meanOf_32 hl (by decide) rfl (fun ls hl => ?_)
    refine W_loop (σ := Nat × Int32 × (Nat → Int32) × (Nat → Int32)) (fun (n_ : Nat) (x_ : Nat × Int32 × (Nat → Int32) × (Nat → Int32)) (H : Heap) (locs : List Loc) (ls : Array Slot) => match x_ with | (q_74, bg_74, ff_74, fb_74) => n_ = 2 * q_74 ∧ (q_74 ≤ 4 ∧ (q_74 ≤ (min rx (tm sn)) → bg_74 = mR (sdM dn (sg se tm gs) ffrees fprices sn) (ruM bm fbarSeen fbarFrom fruleRounds kr) wh (min rx (tm sn)) ((min rx (tm sn)) - q_74))) ∧ va_P D classes [((a 0), .inr (8, (fX8 a (nI tx) fp (nI t0) wd (nI we) nu na (nI rd) ts (nI ru) (nI rw) (nI ca) df db sd))), (aI k (a 1) 3 (nF dn)), (aI k (a 4) 27 (sg se tm gs)), (aI k (a 2) 72 ffrees), (aI k (a 3) 72 fprices), (aI k (a 25) 4 (nF bm)), (aI k (a 26) 48 fbarSeen), (aI k (a 27) 48 fbarFrom), (aI k (a 28) 4 fruleRounds), (aI k (a 29) 52 ff_74), (aI k (a 30) 52 fb_74)] H ∧ va_D A [((a 0), .inr (8, (fX8 a (nI tx) fp (nI t0) wd (nI we) nu na (nI rd) ts (nI ru) (nI rw) (nI ca) df db sd))), (aI k (a 1) 3 (nF dn)), (aI k (a 4) 27 (sg se tm gs)), (aI k (a 2) 72 ffrees), (aI k (a 3) 72 fprices), (aI k (a 25) 4 (nF bm)), (aI k (a 26) 48 fbarSeen), (aI k (a 27) 48 fbarFrom), (aI k (a 28) 4 fruleRounds), (aI k (a 29) 52 ff_74), (aI k (a 30) 52 fb_74)] ∧ va_S A s.heap H locs ∧ lv_has ls 14 [(7, .int (nI q_74 - 1)), (6, .int bg_74), (5, .int x_72), (4, .int (nI (dn sn))), (0, .ref (a 0)), (1, .int (nI sn)), (2, .int (nI kr)), (3, .int (nI wh))]) (fun n_74 x_74 H locs ls hI ih_74 => ?_) _ (4, 0, ffollows, fbefore) ⟨rfl, ⟨by omega, fun h => absurd h (by omega)⟩, hP, hD, hS, (by rw [nI_pred]; exact lv_sub hl [0, 1, 2, 3, 4, 5, 6, 7] rfl)⟩
    obtain ⟨q_74, bg_74, ff_74, fb_74⟩ := x_74
    obtain ⟨hm_74, hv_74, hP, hD, hS, hl⟩ := hI
    subst hm_74
    rcases q_74 with _ | q_74
    · rw [dn0] at hl
      refine lv_iload hx hb dX8_meanOf_34 (lv_at hl 0 rfl) ?_
      refine lv_if_lt (tgt := 289) hx hb dX8_meanOf_36 (by decide) (fun _ => ?_) (fun h => absurd (by decide) h)
      refine lv_iload hx hb dX8_meanOf_289 (lv_at hl 1 rfl) ?_
      have hP9 := hP.sub (ws' := [((a 0), .inr (8, (fX8 a (nI tx) fp (nI t0) wd (nI we) nu na (nI rd) ts (nI ru) (nI rw) (nI ca) df db sd))), (aI k (a 1) 3 (nF dn)), (aI k (a 4) 27 (sg se tm gs)), (aI k (a 2) 72 ffrees), (aI k (a 3) 72 fprices), (aI k (a 25) 4 (nF bm)), (aI k (a 26) 48 fbarSeen), (aI k (a 27) 48 fbarFrom), (aI k (a 28) 4 fruleRounds), (aI k (a 29) 52 ff_74), (aI k (a 30) 52 fb_74)]) [0, 1, 2, 3, 4, 5, 6, 7, 8, 9, 10] rfl
      have hD9 := hD.sub (ws' := [((a 0), .inr (8, (fX8 a (nI tx) fp (nI t0) wd (nI we) nu na (nI rd) ts (nI ru) (nI rw) (nI ca) df db sd))), (aI k (a 1) 3 (nF dn)), (aI k (a 4) 27 (sg se tm gs)), (aI k (a 2) 72 ffrees), (aI k (a 3) 72 fprices), (aI k (a 25) 4 (nF bm)), (aI k (a 26) 48 fbarSeen), (aI k (a 27) 48 fbarFrom), (aI k (a 28) 4 fruleRounds), (aI k (a 29) 52 ff_74), (aI k (a 30) 52 fb_74)]) [0, 1, 2, 3, 4, 5, 6, 7, 8, 9, 10] (by decide +kernel) rfl
      exact W.iret (v := bg_74) hx hb hr (fun t ht hW => ⟨⟨bg_74, (ff_74, fb_74), rfl, hv_74.2 (Nat.zero_le _), by rw [ht]; exact hP9, hD9⟩, hS.F ht⟩) hS.2.2 dX8_meanOf_291
    · rw [nI_pred] at hl
      refine lv_iload hx hb dX8_meanOf_34 (lv_at hl 0 rfl) ?_
      refine lv_if_lt (tgt := 289) hx hb dX8_meanOf_36 (by decide) (fun h => absurd h (nI_pos0 (by omega))) (fun _ => ?_)
      refine lv_iload_n hx hb dX8_meanOf_39 rfl (lv_at hl 7 rfl) ?_
      refine lv_if_ne (tgt := 64) hx hb dX8_meanOf_40 (by decide) (fun h => absurd ((nI_eq (a := wh) (b := 0) (by omega) (by omega)).mpr (by omega)) h) (fun _ => ?_)
      refine lv_aload_n hx hb dX8_meanOf_43 rfl (lv_at hl 4 rfl) ?_
      refine lv_iload_n hx hb dX8_meanOf_44 rfl (lv_at hl 5 rfl) ?_
      refine lv_iconst (v := 2) hx hb dX8_meanOf_45 (by decide) ?_
      refine ro_i (D := D) (va_runV (As := [.int (nI sn), .int 2]) (rest := []) ⟨hx, hb, hml, hown, hts⟩ ((m_of l D k st lo a tx t0 we rd ru rw ca fp wd nu na ts df db sd se tm gs sn 2 (by first | assumption | omega) (by first | assumption | omega)) H.size) (cwV 2 hts (gV tw_1194 tw_1196 tw_39 tw_87 tw_1197) rfl rfl rfl (by decide +kernel) ⟨Nat.le_of_ble_eq_true rfl, Nat.le_of_ble_eq_true rfl⟩) (pV hS hAlo hlo hP hK (va_Dlo hD hAlo) hZ [0, 2] (by decide) rfl (ci := 8) (q := (RX8, TX8, 44)) (q0 := 0) rfl rfl) rfl rfl hl.1 rfl (lv_room (Nat.le_of_ble_eq_true rfl)) dX8_meanOf_46 ⟨Nat.le_of_ble_eq_true rfl, Nat.le_of_ble_eq_true rfl⟩) hS hA hP (fun r_76 H locs hw_76 hP hS => ?_)
      try dsimp only at hw_76
      refine lv_aload_n hx hb dX8_meanOf_49 rfl (lv_at hl 4 rfl) ?_
      refine lv_iload_n hx hb dX8_meanOf_50 rfl (lv_at hl 5 rfl) ?_
      refine lv_bipush (v := 6) hx hb dX8_meanOf_51 (by decide) ?_
      refine ro_i (D := D) (va_runV (As := [.int (nI sn), .int 6]) (rest := [.int r_76]) ⟨hx, hb, hml, hown, hts⟩ ((m_of l D k st lo a tx t0 we rd ru rw ca fp wd nu na ts df db sd se tm gs sn 6 (by first | assumption | omega) (by first | assumption | omega)) H.size) (cwV 2 hts (gV tw_1194 tw_1196 tw_39 tw_87 tw_1197) rfl rfl rfl (by decide +kernel) ⟨Nat.le_of_ble_eq_true rfl, Nat.le_of_ble_eq_true rfl⟩) (pV hS hAlo hlo hP hK (va_Dlo hD hAlo) hZ [0, 2] (by decide) rfl (ci := 8) (q := (RX8, TX8, 44)) (q0 := 0) rfl rfl) rfl rfl hl.1 rfl (lv_room (Nat.le_of_ble_eq_true rfl)) dX8_meanOf_53 ⟨Nat.le_of_ble_eq_true rfl, Nat.le_of_ble_eq_true rfl⟩) hS hA hP (fun r_77 H locs hw_77 hP hS => ?_)
      try dsimp only at hw_77
      refine lv_imul hx hb dX8_meanOf_56 ?_
      refine lv_topi (fun x_78 ex_78 => ?_)
      refine lv_sipush (v := 1000) hx hb dX8_meanOf_57 (by decide) ?_
      refine lv_imul hx hb dX8_meanOf_60 ?_
      refine lv_topi (fun x_79 ex_79 => ?_)
      refine lv_goto (tgt := 65) hx hb dX8_meanOf_61 (by decide) ?_
      have hgo_80 : x_79 = pRs (sdM dn (sg se tm gs) ffrees fprices sn) wh := by unfold pRs; rw [if_pos (by omega), ex_79, ex_78, hw_76, hw_77]; exact mRnd
      refine lv_istore (lv' := [(8, .int x_79), (7, .int (nI q_74)), (6, .int bg_74), (5, .int x_72), (4, .int (nI (dn sn))), (0, .ref (a 0)), (1, .int (nI sn)), (2, .int (nI kr)), (3, .int (nI wh))]) hx hb dX8_meanOf_65 hl (by decide) rfl (fun ls hl => ?_)
      refine lv_aload_n hx hb dX8_meanOf_67 rfl (lv_at hl 5 rfl) ?_
      refine lv_iload_n hx hb dX8_meanOf_68 rfl (lv_at hl 6 rfl) ?_
      refine lv_iload_n hx hb dX8_meanOf_69 rfl (lv_at hl 7 rfl) ?_
      refine lv_iload hx hb dX8_meanOf_70 (lv_at hl 1 rfl) ?_
      refine ro_i (D := D) (va_runV (As := [.int (nI sn), .int (nI kr), .int (nI q_74)]) (rest := []) ⟨hx, hb, hml, hown, hts⟩ ((n_isRoundBy l D k st lo a tx t0 we rd ru rw ca fp wd nu na ts df db sd se tm gs fruleRounds sn kr q_74 rx htm (by first | assumption | omega) (by first | assumption | omega) (by first | assumption | omega) hrx (by first | assumption | omega)) H.size) (cwV 3 hts (gV tw_1329 tw_1331 tw_59 tw_87 tw_1332) rfl rfl rfl (by decide +kernel) ⟨Nat.le_of_ble_eq_true rfl, Nat.le_of_ble_eq_true rfl⟩) (pV hS hAlo hlo hP hK (va_Dlo hD hAlo) hZ [0, 2, 8] (by decide) rfl (ci := 8) (q := (RX8, TX8, 44)) (q0 := 0) rfl rfl) rfl rfl hl.1 rfl (lv_room (Nat.le_of_ble_eq_true rfl)) dX8_meanOf_72 ⟨Nat.le_of_ble_eq_true rfl, Nat.le_of_ble_eq_true rfl⟩) hS hA hP (fun r_81 H locs hw_81 hP hS => ?_)
      try dsimp only at hw_81
      rcases hw_81 with ⟨rfl, hw_81⟩ | ⟨rfl, hw_81⟩
      · refine lv_if_eq (tgt := 86) hx hb dX8_meanOf_75 (by decide) (fun h => absurd h (by decide)) (fun _ => ?_)
        refine lv_iload hx hb dX8_meanOf_78 (lv_at hl 0 rfl) ?_
        refine lv_iload hx hb dX8_meanOf_80 (lv_at hl 2 rfl) ?_
        refine lv_iadd hx hb dX8_meanOf_82 ?_
        refine lv_topi (fun x_82 ex_82 => ?_)
        refine lv_goto (tgt := 94) hx hb dX8_meanOf_83 (by decide) ?_
        have he_83 : x_82 = pRs (sdM dn (sg se tm gs) ffrees fprices sn) wh + mR (sdM dn (sg se tm gs) ffrees fprices sn) (ruM bm fbarSeen fbarFrom fruleRounds kr) wh (min rx (tm sn)) ((min rx (tm sn)) - (q_74 + 1)) := by rw [ex_82, ← hgo_80]; exact congrArg (fun z => x_79 + z) (hv_74.2 (by omega))
        refine lv_istore (lv' := [(9, .int x_82), (8, .int x_79), (7, .int (nI q_74)), (6, .int bg_74), (5, .int x_72), (4, .int (nI (dn sn))), (0, .ref (a 0)), (1, .int (nI sn)), (2, .int (nI kr)), (3, .int (nI wh))]) hx hb dX8_meanOf_94 hl (by decide) rfl (fun ls hl => ?_)
        refine lv_iconst (v := 0) hx hb dX8_meanOf_96 (by decide) ?_
        refine lv_istore (lv' := [(10, .int 0), (9, .int x_82), (8, .int x_79), (7, .int (nI q_74)), (6, .int bg_74), (5, .int x_72), (4, .int (nI (dn sn))), (0, .ref (a 0)), (1, .int (nI sn)), (2, .int (nI kr)), (3, .int (nI wh))]) hx hb dX8_meanOf_97 hl (by decide) rfl (fun ls hl => ?_)
        refine W_loop (σ := Nat × (Nat → Int32)) (fun (n_ : Nat) (x_ : Nat × (Nat → Int32)) (H : Heap) (locs : List Loc) (ls : Array Slot) => match x_ with | (kk_84, ff2_84) => n_ = 52 - kk_84 ∧ (kk_84 ≤ 52 ∧ ∀ k, k < kk_84 → ff2_84 k = x_82) ∧ va_P D classes [((a 0), .inr (8, (fX8 a (nI tx) fp (nI t0) wd (nI we) nu na (nI rd) ts (nI ru) (nI rw) (nI ca) df db sd))), (aI k (a 1) 3 (nF dn)), (aI k (a 4) 27 (sg se tm gs)), (aI k (a 2) 72 ffrees), (aI k (a 3) 72 fprices), (aI k (a 25) 4 (nF bm)), (aI k (a 26) 48 fbarSeen), (aI k (a 27) 48 fbarFrom), (aI k (a 28) 4 fruleRounds), (aI k (a 29) 52 ff2_84), (aI k (a 30) 52 fb_74)] H ∧ va_D A [((a 0), .inr (8, (fX8 a (nI tx) fp (nI t0) wd (nI we) nu na (nI rd) ts (nI ru) (nI rw) (nI ca) df db sd))), (aI k (a 1) 3 (nF dn)), (aI k (a 4) 27 (sg se tm gs)), (aI k (a 2) 72 ffrees), (aI k (a 3) 72 fprices), (aI k (a 25) 4 (nF bm)), (aI k (a 26) 48 fbarSeen), (aI k (a 27) 48 fbarFrom), (aI k (a 28) 4 fruleRounds), (aI k (a 29) 52 ff2_84), (aI k (a 30) 52 fb_74)] ∧ va_S A s.heap H locs ∧ lv_has ls 14 [(10, .int (nI kk_84)), (9, .int x_82), (8, .int x_79), (7, .int (nI q_74)), (6, .int bg_74), (5, .int x_72), (4, .int (nI (dn sn))), (0, .ref (a 0)), (1, .int (nI sn)), (2, .int (nI kr)), (3, .int (nI wh))]) (fun n_84 x_84 H locs ls hI ih_84 => ?_) _ (0, ff_74) ⟨rfl, ⟨by omega, fun k h => absurd h (Nat.not_lt_zero k)⟩, hP, hD, hS, (lv_sub hl [0, 1, 2, 3, 4, 5, 6, 7, 8, 9, 10] rfl)⟩
        obtain ⟨kk_84, ff2_84⟩ := x_84
        obtain ⟨hm_84, hv_84, hP, hD, hS, hl⟩ := hI
        subst hm_84
        refine lv_iload hx hb dX8_meanOf_99 (lv_at hl 0 rfl) ?_
        refine lv_bipush (v := 52) hx hb dX8_meanOf_101 (by decide) ?_
        refine lv_icmp_ge (tgt := 121) hx hb dX8_meanOf_103 (by decide) (fun c_85 => ?_) (fun c_85 => ?_)
        · have c_85 := (nI_leI (a := 52) (b := kk_84) (by omega) (by omega)).mp c_85
          refine lv_iload hx hb dX8_meanOf_121 (lv_at hl 6 rfl) ?_
          refine lv_iconst (v := 1) hx hb dX8_meanOf_123 (by decide) ?_
          refine lv_isub hx hb dX8_meanOf_124 ?_
          refine lv_ti (y := (nI (dn sn) - 1)) rfl ?_
          refine lv_istore (lv' := [(10, .int (nI (dn sn) - 1)), (9, .int x_82), (8, .int x_79), (7, .int (nI q_74)), (6, .int bg_74), (5, .int x_72), (4, .int (nI (dn sn))), (0, .ref (a 0)), (1, .int (nI sn)), (2, .int (nI kr)), (3, .int (nI wh))]) hx hb dX8_meanOf_125 hl (by decide) rfl (fun ls hl => ?_)
          refine W_loop (σ := Nat × (Nat → Int32) × (Nat → Int32)) (fun (n_ : Nat) (x_ : Nat × (Nat → Int32) × (Nat → Int32)) (H : Heap) (locs : List Loc) (ls : Array Slot) => match x_ with | (qi_86, ff3_86, fb3_86) => n_ = 2 * qi_86 ∧ (qi_86 ≤ dn sn ∧ ∀ k, k < 52 → k / 2 + (dn sn - qi_86) ≤ 25 → ff3_86 k = mV (sdM dn (sg se tm gs) ffrees fprices sn) (ruM bm fbarSeen fbarFrom fruleRounds kr) wh q_74 x_82 (dn sn - qi_86) (k / 2) (k % 2)) ∧ va_P D classes [((a 0), .inr (8, (fX8 a (nI tx) fp (nI t0) wd (nI we) nu na (nI rd) ts (nI ru) (nI rw) (nI ca) df db sd))), (aI k (a 1) 3 (nF dn)), (aI k (a 4) 27 (sg se tm gs)), (aI k (a 2) 72 ffrees), (aI k (a 3) 72 fprices), (aI k (a 25) 4 (nF bm)), (aI k (a 26) 48 fbarSeen), (aI k (a 27) 48 fbarFrom), (aI k (a 28) 4 fruleRounds), (aI k (a 29) 52 ff3_86), (aI k (a 30) 52 fb3_86)] H ∧ va_D A [((a 0), .inr (8, (fX8 a (nI tx) fp (nI t0) wd (nI we) nu na (nI rd) ts (nI ru) (nI rw) (nI ca) df db sd))), (aI k (a 1) 3 (nF dn)), (aI k (a 4) 27 (sg se tm gs)), (aI k (a 2) 72 ffrees), (aI k (a 3) 72 fprices), (aI k (a 25) 4 (nF bm)), (aI k (a 26) 48 fbarSeen), (aI k (a 27) 48 fbarFrom), (aI k (a 28) 4 fruleRounds), (aI k (a 29) 52 ff3_86), (aI k (a 30) 52 fb3_86)] ∧ va_S A s.heap H locs ∧ lv_has ls 14 [(10, .int (nI qi_86 - 1)), (9, .int x_82), (8, .int x_79), (7, .int (nI q_74)), (6, .int bg_74), (5, .int x_72), (4, .int (nI (dn sn))), (0, .ref (a 0)), (1, .int (nI sn)), (2, .int (nI kr)), (3, .int (nI wh))]) (fun n_86 x_86 H locs ls hI ih_86 => ?_) _ (dn sn, ff2_84, fb_74) ⟨rfl, ⟨by omega, fun k hk _ => by rw [Nat.sub_self]; exact hv_84.2 k (by omega)⟩, hP, hD, hS, (lv_sub hl [0, 1, 2, 3, 4, 5, 6, 7, 8, 9, 10] rfl)⟩
          obtain ⟨qi_86, ff3_86, fb3_86⟩ := x_86
          obtain ⟨hm_86, hv_86, hP, hD, hS, hl⟩ := hI
          subst hm_86
          rcases qi_86 with _ | qi_86
          · rw [dn0] at hl
            refine lv_iload hx hb dX8_meanOf_127 (lv_at hl 0 rfl) ?_
            refine lv_if_lt (tgt := 275) hx hb dX8_meanOf_129 (by decide) (fun _ => ?_) (fun h => absurd (by decide) h)
            refine lv_aload_n hx hb dX8_meanOf_275 rfl (lv_at hl 7 rfl) ?_
            refine va_get (D := D) (ci := 8) (v := .ref (a 29)) (C := RX8) (T := TX8) (N := 44) hx hb hts inX8 hown hK hP 0 rfl rfl 28 (by decide) (hts _ tw_1001) (fun _ h9 => h9) rfl dX8_meanOf_276 ?_
            refine lv_iconst (v := 0) hx hb dX8_meanOf_279 (by decide) ?_
            refine va_iald hx hb hK hP 9 1 rfl rfl (by unfold vp_in; decide) dX8_meanOf_280 ?_
            refine lv_ti (y := (ff3_86 0)) (by rfl) ?_
            refine lv_istore (lv' := [(6, .int (ff3_86 0)), (10, .int (-1)), (9, .int x_82), (8, .int x_79), (7, .int (nI q_74)), (5, .int x_72), (4, .int (nI (dn sn))), (0, .ref (a 0)), (1, .int (nI sn)), (2, .int (nI kr)), (3, .int (nI wh))]) hx hb dX8_meanOf_281 hl (by decide) rfl (fun ls hl => ?_)
            refine lv_iinc (v := (nI q_74 - 1)) (lv' := [(7, .int (nI q_74 - 1)), (6, .int (ff3_86 0)), (10, .int (-1)), (9, .int x_82), (8, .int x_79), (5, .int x_72), (4, .int (nI (dn sn))), (0, .ref (a 0)), (1, .int (nI sn)), (2, .int (nI kr)), (3, .int (nI wh))]) hx hb dX8_meanOf_283 hl (k := 4) rfl (dn1 _) (by decide) rfl (fun ls hl => ?_)
            refine lv_goto (tgt := 34) hx hb dX8_meanOf_286 (by decide) ?_
            exact ih_74 _ (q_74, (ff3_86 0), ff3_86, fb3_86) _ _ _ (by omega) ⟨rfl, ⟨by omega, fun h => (show ff3_86 0 = mV (sdM dn (sg se tm gs) ffrees fprices sn) (ruM bm fbarSeen fbarFrom fruleRounds kr) wh q_74 x_82 (dn sn) 0 0 from hv_86.2 0 (by omega) (by omega)).trans (mr_of h (fun _ => he_83) (fun h => absurd h (by omega)))⟩, hP, hD, hS, (lv_sub hl [0, 1, 5, 6, 7, 8, 9, 10] rfl)⟩
          · rw [nI_pred] at hl
            refine lv_iload hx hb dX8_meanOf_127 (lv_at hl 0 rfl) ?_
            refine lv_if_lt (tgt := 275) hx hb dX8_meanOf_129 (by decide) (fun h => absurd h (nI_pos0 (by omega))) (fun _ => ?_)
            refine lv_iconst (v := 0) hx hb dX8_meanOf_132 (by decide) ?_
            refine lv_istore (lv' := [(11, .int 0), (10, .int (nI qi_86)), (9, .int x_82), (8, .int x_79), (7, .int (nI q_74)), (6, .int bg_74), (5, .int x_72), (4, .int (nI (dn sn))), (0, .ref (a 0)), (1, .int (nI sn)), (2, .int (nI kr)), (3, .int (nI wh))]) hx hb dX8_meanOf_133 hl (by decide) rfl (fun ls hl => ?_)
            refine W_loop (σ := Nat × (Nat → Int32)) (fun (n_ : Nat) (x_ : Nat × (Nat → Int32)) (H : Heap) (locs : List Loc) (ls : Array Slot) => match x_ with | (k2_87, fb4_87) => n_ = 50 - k2_87 ∧ (k2_87 ≤ 50 ∧ ∀ k, k < k2_87 → k / 2 + (dn sn - qi_86) ≤ 25 → fb4_87 k = mV (sdM dn (sg se tm gs) ffrees fprices sn) (ruM bm fbarSeen fbarFrom fruleRounds kr) wh q_74 x_82 (dn sn - qi_86) (k / 2) (k % 2)) ∧ va_P D classes [((a 0), .inr (8, (fX8 a (nI tx) fp (nI t0) wd (nI we) nu na (nI rd) ts (nI ru) (nI rw) (nI ca) df db sd))), (aI k (a 1) 3 (nF dn)), (aI k (a 4) 27 (sg se tm gs)), (aI k (a 2) 72 ffrees), (aI k (a 3) 72 fprices), (aI k (a 25) 4 (nF bm)), (aI k (a 26) 48 fbarSeen), (aI k (a 27) 48 fbarFrom), (aI k (a 28) 4 fruleRounds), (aI k (a 29) 52 ff3_86), (aI k (a 30) 52 fb4_87)] H ∧ va_D A [((a 0), .inr (8, (fX8 a (nI tx) fp (nI t0) wd (nI we) nu na (nI rd) ts (nI ru) (nI rw) (nI ca) df db sd))), (aI k (a 1) 3 (nF dn)), (aI k (a 4) 27 (sg se tm gs)), (aI k (a 2) 72 ffrees), (aI k (a 3) 72 fprices), (aI k (a 25) 4 (nF bm)), (aI k (a 26) 48 fbarSeen), (aI k (a 27) 48 fbarFrom), (aI k (a 28) 4 fruleRounds), (aI k (a 29) 52 ff3_86), (aI k (a 30) 52 fb4_87)] ∧ va_S A s.heap H locs ∧ lv_has ls 14 [(11, .int (nI k2_87)), (10, .int (nI qi_86)), (9, .int x_82), (8, .int x_79), (7, .int (nI q_74)), (6, .int bg_74), (5, .int x_72), (4, .int (nI (dn sn))), (0, .ref (a 0)), (1, .int (nI sn)), (2, .int (nI kr)), (3, .int (nI wh))]) (fun n_87 x_87 H locs ls hI ih_87 => ?_) _ (0, fb3_86) ⟨rfl, ⟨by omega, fun k h => absurd h (Nat.not_lt_zero k)⟩, hP, hD, hS, (lv_sub hl [0, 1, 2, 3, 4, 5, 6, 7, 8, 9, 10, 11] rfl)⟩
            obtain ⟨k2_87, fb4_87⟩ := x_87
            obtain ⟨hm_87, hv_87, hP, hD, hS, hl⟩ := hI
            subst hm_87
            refine lv_iload hx hb dX8_meanOf_135 (lv_at hl 0 rfl) ?_
            refine lv_bipush (v := 50) hx hb dX8_meanOf_137 (by decide) ?_
            refine lv_icmp_ge (tgt := 239) hx hb dX8_meanOf_139 (by decide) (fun c_88 => ?_) (fun c_88 => ?_)
            · have c_88 := (nI_leI (a := 50) (b := k2_87) (by omega) (by omega)).mp c_88
              refine lv_iconst (v := 0) hx hb dX8_meanOf_239 (by decide) ?_
              refine lv_istore (lv' := [(11, .int 0), (10, .int (nI qi_86)), (9, .int x_82), (8, .int x_79), (7, .int (nI q_74)), (6, .int bg_74), (5, .int x_72), (4, .int (nI (dn sn))), (0, .ref (a 0)), (1, .int (nI sn)), (2, .int (nI kr)), (3, .int (nI wh))]) hx hb dX8_meanOf_240 hl (by decide) rfl (fun ls hl => ?_)
              refine W_loop (σ := Nat × (Nat → Int32)) (fun (n_ : Nat) (x_ : Nat × (Nat → Int32)) (H : Heap) (locs : List Loc) (ls : Array Slot) => match x_ with | (k3_89, ff5_89) => n_ = 50 - k3_89 ∧ (k3_89 ≤ 50 ∧ (∀ k, k < k3_89 → k / 2 + (dn sn - qi_86) ≤ 25 → ff5_89 k = mV (sdM dn (sg se tm gs) ffrees fprices sn) (ruM bm fbarSeen fbarFrom fruleRounds kr) wh q_74 x_82 (dn sn - qi_86) (k / 2) (k % 2)) ∧ True) ∧ va_P D classes [((a 0), .inr (8, (fX8 a (nI tx) fp (nI t0) wd (nI we) nu na (nI rd) ts (nI ru) (nI rw) (nI ca) df db sd))), (aI k (a 1) 3 (nF dn)), (aI k (a 4) 27 (sg se tm gs)), (aI k (a 2) 72 ffrees), (aI k (a 3) 72 fprices), (aI k (a 25) 4 (nF bm)), (aI k (a 26) 48 fbarSeen), (aI k (a 27) 48 fbarFrom), (aI k (a 28) 4 fruleRounds), (aI k (a 29) 52 ff5_89), (aI k (a 30) 52 fb4_87)] H ∧ va_D A [((a 0), .inr (8, (fX8 a (nI tx) fp (nI t0) wd (nI we) nu na (nI rd) ts (nI ru) (nI rw) (nI ca) df db sd))), (aI k (a 1) 3 (nF dn)), (aI k (a 4) 27 (sg se tm gs)), (aI k (a 2) 72 ffrees), (aI k (a 3) 72 fprices), (aI k (a 25) 4 (nF bm)), (aI k (a 26) 48 fbarSeen), (aI k (a 27) 48 fbarFrom), (aI k (a 28) 4 fruleRounds), (aI k (a 29) 52 ff5_89), (aI k (a 30) 52 fb4_87)] ∧ va_S A s.heap H locs ∧ lv_has ls 14 [(11, .int (nI k3_89)), (10, .int (nI qi_86)), (9, .int x_82), (8, .int x_79), (7, .int (nI q_74)), (6, .int bg_74), (5, .int x_72), (4, .int (nI (dn sn))), (0, .ref (a 0)), (1, .int (nI sn)), (2, .int (nI kr)), (3, .int (nI wh))]) (fun n_89 x_89 H locs ls hI ih_89 => ?_) _ (0, ff3_86) ⟨rfl, ⟨by omega, fun k h => absurd h (Nat.not_lt_zero k), trivial⟩, hP, hD, hS, (lv_sub hl [0, 1, 2, 3, 4, 5, 6, 7, 8, 9, 10, 11] rfl)⟩
              obtain ⟨k3_89, ff5_89⟩ := x_89
              obtain ⟨hm_89, hv_89, hP, hD, hS, hl⟩ := hI
              subst hm_89
              refine lv_iload hx hb dX8_meanOf_242 (lv_at hl 0 rfl) ?_
              refine lv_bipush (v := 50) hx hb dX8_meanOf_244 (by decide) ?_
              refine lv_icmp_ge (tgt := 269) hx hb dX8_meanOf_246 (by decide) (fun c_90 => ?_) (fun c_90 => ?_)
              · have c_90 := (nI_leI (a := 50) (b := k3_89) (by omega) (by omega)).mp c_90
                refine lv_iinc (v := (nI qi_86 - 1)) (lv' := [(10, .int (nI qi_86 - 1)), (11, .int (nI k3_89)), (9, .int x_82), (8, .int x_79), (7, .int (nI q_74)), (6, .int bg_74), (5, .int x_72), (4, .int (nI (dn sn))), (0, .ref (a 0)), (1, .int (nI sn)), (2, .int (nI kr)), (3, .int (nI wh))]) hx hb dX8_meanOf_269 hl (k := 1) rfl (dn1 _) (by decide) rfl (fun ls hl => ?_)
                refine lv_goto (tgt := 127) hx hb dX8_meanOf_272 (by decide) ?_
                exact ih_86 _ (qi_86, ff5_89, fb4_87) _ _ _ (by omega) ⟨rfl, ⟨by omega, fun k hk hp => hv_89.2.1 k (by omega) hp⟩, hP, hD, hS, (lv_sub hl [0, 2, 3, 4, 5, 6, 7, 8, 9, 10, 11] rfl)⟩
              · have c_90 : ¬ (50 ≤ k3_89) := fun h => c_90 ((nI_leI (a := 50) (b := k3_89) (by omega) (by omega)).mpr h)
                refine lv_aload_n hx hb dX8_meanOf_249 rfl (lv_at hl 8 rfl) ?_
                refine va_get (D := D) (ci := 8) (v := .ref (a 29)) (C := RX8) (T := TX8) (N := 44) hx hb hts inX8 hown hK hP 0 rfl rfl 28 (by decide) (hts _ tw_1001) (fun _ h9 => h9) rfl dX8_meanOf_250 ?_
                refine lv_iload hx hb dX8_meanOf_253 (lv_at hl 0 rfl) ?_
                refine lv_aload_n hx hb dX8_meanOf_255 rfl (lv_at hl 8 rfl) ?_
                refine va_get (D := D) (ci := 8) (v := .ref (a 30)) (C := RX8) (T := TX8) (N := 44) hx hb hts inX8 hown hK hP 0 rfl rfl 29 (by decide) (hts _ tw_1002) (fun _ h9 => h9) rfl dX8_meanOf_256 ?_
                refine lv_iload hx hb dX8_meanOf_259 (lv_at hl 0 rfl) ?_
                refine va_iald hx hb hK hP 10 1 rfl rfl (vp_in_nI (by omega) (by decide)) dX8_meanOf_261 ?_
                refine lv_ti (y := (fb4_87 k3_89)) (by rw [nI_clamp (by omega)]) ?_
                refine va_iast hx hb hK hP hD hS 9 1 rfl rfl (vp_in_nI (by omega) (by decide)) dX8_meanOf_262 (fun H locs hP hD hS => ?_)
                replace hP : va_P D classes [((a 0), .inr (8, (fX8 a (nI tx) fp (nI t0) wd (nI we) nu na (nI rd) ts (nI ru) (nI rw) (nI ca) df db sd))), (aI k (a 1) 3 (nF dn)), (aI k (a 4) 27 (sg se tm gs)), (aI k (a 2) 72 ffrees), (aI k (a 3) 72 fprices), (aI k (a 25) 4 (nF bm)), (aI k (a 26) 48 fbarSeen), (aI k (a 27) 48 fbarFrom), (aI k (a 28) 4 fruleRounds), (aI k (a 29) 52 (upd ff5_89 (Int32.toNatClampNeg (nI k3_89)) (fb4_87 k3_89))), (aI k (a 30) 52 fb4_87)] H := hP
                replace hD : va_D A [((a 0), .inr (8, (fX8 a (nI tx) fp (nI t0) wd (nI we) nu na (nI rd) ts (nI ru) (nI rw) (nI ca) df db sd))), (aI k (a 1) 3 (nF dn)), (aI k (a 4) 27 (sg se tm gs)), (aI k (a 2) 72 ffrees), (aI k (a 3) 72 fprices), (aI k (a 25) 4 (nF bm)), (aI k (a 26) 48 fbarSeen), (aI k (a 27) 48 fbarFrom), (aI k (a 28) 4 fruleRounds), (aI k (a 29) 52 (upd ff5_89 (Int32.toNatClampNeg (nI k3_89)) (fb4_87 k3_89))), (aI k (a 30) 52 fb4_87)] := hD
                rw [nI_clamp (n := k3_89) (by omega)] at hP hD
                replace hP : va_P D classes [((a 0), .inr (8, (fX8 a (nI tx) fp (nI t0) wd (nI we) nu na (nI rd) ts (nI ru) (nI rw) (nI ca) df db sd))), (aI k (a 1) 3 (nF dn)), (aI k (a 4) 27 (sg se tm gs)), (aI k (a 2) 72 ffrees), (aI k (a 3) 72 fprices), (aI k (a 25) 4 (nF bm)), (aI k (a 26) 48 fbarSeen), (aI k (a 27) 48 fbarFrom), (aI k (a 28) 4 fruleRounds), (aI k (a 29) 52 (upd ff5_89 k3_89 (fb4_87 k3_89))), (aI k (a 30) 52 fb4_87)] H := hP
                replace hD : va_D A [((a 0), .inr (8, (fX8 a (nI tx) fp (nI t0) wd (nI we) nu na (nI rd) ts (nI ru) (nI rw) (nI ca) df db sd))), (aI k (a 1) 3 (nF dn)), (aI k (a 4) 27 (sg se tm gs)), (aI k (a 2) 72 ffrees), (aI k (a 3) 72 fprices), (aI k (a 25) 4 (nF bm)), (aI k (a 26) 48 fbarSeen), (aI k (a 27) 48 fbarFrom), (aI k (a 28) 4 fruleRounds), (aI k (a 29) 52 (upd ff5_89 k3_89 (fb4_87 k3_89))), (aI k (a 30) 52 fb4_87)] := hD
                refine lv_iinc (v := (nI (k3_89 + 1))) (lv' := [(11, .int (nI (k3_89 + 1))), (10, .int (nI qi_86)), (9, .int x_82), (8, .int x_79), (7, .int (nI q_74)), (6, .int bg_74), (5, .int x_72), (4, .int (nI (dn sn))), (0, .ref (a 0)), (1, .int (nI sn)), (2, .int (nI kr)), (3, .int (nI wh))]) hx hb dX8_meanOf_263 hl (k := 0) rfl (nI_add k3_89 1) (by decide) rfl (fun ls hl => ?_)
                refine lv_goto (tgt := 242) hx hb dX8_meanOf_266 (by decide) ?_
                exact ih_89 _ (k3_89 + 1, (upd ff5_89 k3_89 (fb4_87 k3_89))) _ _ _ (by omega) ⟨rfl, ⟨by omega, la_updc (F := fun k => mV (sdM dn (sg se tm gs) ffrees fprices sn) (ruM bm fbarSeen fbarFrom fruleRounds kr) wh q_74 x_82 (dn sn - qi_86) (k / 2) (k % 2)) (P := fun k => k / 2 + (dn sn - qi_86) ≤ 25) hv_89.2.1 (hv_87.2 k3_89 (by omega)), trivial⟩, hP, hD, hS, (lv_sub hl [0, 1, 2, 3, 4, 5, 6, 7, 8, 9, 10, 11] rfl)⟩
            · have c_88 : ¬ (50 ≤ k2_87) := fun h => c_88 ((nI_leI (a := 50) (b := k2_87) (by omega) (by omega)).mpr h)
              refine lv_iload hx hb dX8_meanOf_142 (lv_at hl 0 rfl) ?_
              refine lv_iconst (v := 2) hx hb dX8_meanOf_144 (by decide) ?_
              refine lv_idiv hx hb dX8_meanOf_145 (by decide) ?_
              refine lv_ti (y := (nI (k2_87 / 2))) (pk_div (by omega) (by decide) (by decide)) ?_
              refine lv_istore (lv' := [(12, .int (nI (k2_87 / 2))), (11, .int (nI k2_87)), (10, .int (nI qi_86)), (9, .int x_82), (8, .int x_79), (7, .int (nI q_74)), (6, .int bg_74), (5, .int x_72), (4, .int (nI (dn sn))), (0, .ref (a 0)), (1, .int (nI sn)), (2, .int (nI kr)), (3, .int (nI wh))]) hx hb dX8_meanOf_146 hl (by decide) rfl (fun ls hl => ?_)
              refine lv_aload_n hx hb dX8_meanOf_148 rfl (lv_at hl 9 rfl) ?_
              refine lv_iload_n hx hb dX8_meanOf_149 rfl (lv_at hl 11 rfl) ?_
              refine lv_iload hx hb dX8_meanOf_150 (lv_at hl 2 rfl) ?_
              refine lv_iload hx hb dX8_meanOf_152 (lv_at hl 0 rfl) ?_
              refine ro_i (D := D) (va_runV (As := [.int (nI kr), .int (nI qi_86), .int (nI (k2_87 / 2))]) (rest := []) ⟨hx, hb, hml, hown, hts⟩ ((n_isFor l D k st lo a tx t0 we rd ru rw ca fp wd nu na ts df db sd bm fbarSeen fbarFrom fruleRounds kr qi_86 (k2_87 / 2) hbm (by first | assumption | omega)) H.size) (cwV 3 hts (gV tw_1338 tw_1340 tw_61 tw_87 tw_1341) rfl rfl rfl (by decide +kernel) ⟨Nat.le_of_ble_eq_true rfl, Nat.le_of_ble_eq_true rfl⟩) (pV hS hAlo hlo hP hK (va_Dlo hD hAlo) hZ [0, 5, 6, 7, 8] (by decide) rfl (ci := 8) (q := (RX8, TX8, 44)) (q0 := 0) rfl rfl) rfl rfl hl.1 rfl (lv_room (Nat.le_of_ble_eq_true rfl)) dX8_meanOf_154 ⟨Nat.le_of_ble_eq_true rfl, Nat.le_of_ble_eq_true rfl⟩) hS hA hP (fun r_92 H locs hw_92 hP hS => ?_)
              try dsimp only at hw_92
              rcases hw_92 with ⟨rfl, hw_92⟩ | ⟨rfl, hw_92⟩
              · refine lv_if_eq (tgt := 173) hx hb dX8_meanOf_157 (by decide) (fun h => absurd h (by decide)) (fun _ => ?_)
                refine lv_aload_n hx hb dX8_meanOf_160 rfl (lv_at hl 9 rfl) ?_
                refine lv_iload_n hx hb dX8_meanOf_161 rfl (lv_at hl 10 rfl) ?_
                refine lv_iload hx hb dX8_meanOf_162 (lv_at hl 5 rfl) ?_
                refine lv_iload hx hb dX8_meanOf_164 (lv_at hl 2 rfl) ?_
                refine lv_iload_n hx hb dX8_meanOf_166 rfl (lv_at hl 12 rfl) ?_
                refine ro_i (D := D) (va_runV (As := [.int (nI sn), .int (nI q_74), .int (nI qi_86), .int (nI wh)]) (rest := []) ⟨hx, hb, hml, hown, hts⟩ ((n_byTaking l D k st lo a tx t0 we rd ru rw ca fp wd nu na ts df db sd dn se tm gs fprices sn qi_86 (nI q_74) (nI wh) (by first | assumption | omega) (by first | assumption | omega)) H.size) (cwV 4 hts (gV tw_1342 tw_1344 tw_62 tw_87 tw_1345) rfl rfl rfl (by decide +kernel) ⟨Nat.le_of_ble_eq_true rfl, Nat.le_of_ble_eq_true rfl⟩) (pV hS hAlo hlo hP hK (va_Dlo hD hAlo) hZ [0, 1, 2, 4] (by decide) rfl (ci := 8) (q := (RX8, TX8, 44)) (q0 := 0) rfl rfl) rfl rfl hl.1 rfl (lv_room (Nat.le_of_ble_eq_true rfl)) dX8_meanOf_167 ⟨Nat.le_of_ble_eq_true rfl, Nat.le_of_ble_eq_true rfl⟩) hS hA hP (fun r_93 H locs hw_93 hP hS => ?_)
                try dsimp only at hw_93
                refine lv_goto (tgt := 187) hx hb dX8_meanOf_170 (by decide) ?_
                refine lv_istore (lv' := [(13, .int r_93), (12, .int (nI (k2_87 / 2))), (11, .int (nI k2_87)), (10, .int (nI qi_86)), (9, .int x_82), (8, .int x_79), (7, .int (nI q_74)), (6, .int bg_74), (5, .int x_72), (4, .int (nI (dn sn))), (0, .ref (a 0)), (1, .int (nI sn)), (2, .int (nI kr)), (3, .int (nI wh))]) hx hb dX8_meanOf_187 hl (by decide) rfl (fun ls hl => ?_)
                refine lv_aload_n hx hb dX8_meanOf_189 rfl (lv_at hl 10 rfl) ?_
                refine va_get (D := D) (ci := 8) (v := .ref (a 30)) (C := RX8) (T := TX8) (N := 44) hx hb hts inX8 hown hK hP 0 rfl rfl 29 (by decide) (hts _ tw_1002) (fun _ h9 => h9) rfl dX8_meanOf_190 ?_
                refine lv_iload hx hb dX8_meanOf_193 (lv_at hl 2 rfl) ?_
                refine lv_aload_n hx hb dX8_meanOf_195 rfl (lv_at hl 10 rfl) ?_
                refine lv_iload_n hx hb dX8_meanOf_196 rfl (lv_at hl 11 rfl) ?_
                refine lv_iload hx hb dX8_meanOf_197 (lv_at hl 3 rfl) ?_
                refine lv_iload hx hb dX8_meanOf_199 (lv_at hl 2 rfl) ?_
                refine lv_iconst (v := 2) hx hb dX8_meanOf_201 (by decide) ?_
                refine lv_irem hx hb dX8_meanOf_202 (by decide) ?_
                refine lv_ti (y := (nI (k2_87 % 2))) (pk_rem (by omega) (by decide) (by decide)) ?_
                refine lv_iconst (v := 1) hx hb dX8_meanOf_203 (by decide) ?_
                refine lv_icmp_ne (tgt := 211) hx hb dX8_meanOf_204 (by decide) (fun c_94 => ?_) (fun c_94 => ?_)
                · have c_94 : ¬ ((k2_87 % 2) = 1) := fun h => c_94 ((nI_eq (a := (k2_87 % 2)) (b := 1) (by omega) (by omega)).mpr h)
                  refine lv_iconst (v := 0) hx hb dX8_meanOf_211 (by decide) ?_
                  refine ro_i (D := D) (va_runV (As := [.int (nI sn), .int (nI qi_86), .int 0]) (rest := [.int (nI k2_87), .ref (a 30)]) ⟨hx, hb, hml, hown, hts⟩ ((n_chanceOf l D k st lo a tx t0 we rd ru rw ca fp wd nu na ts df db sd ffrees se tm gs sn qi_86 0 (by first | assumption | omega) (by first | assumption | omega)) H.size) (cwV 3 hts (gV tw_1210 tw_1212 tw_41 tw_87 tw_1213) rfl rfl rfl (by decide +kernel) ⟨Nat.le_of_ble_eq_true rfl, Nat.le_of_ble_eq_true rfl⟩) (pV hS hAlo hlo hP hK (va_Dlo hD hAlo) hZ [0, 3, 2] (by decide) rfl (ci := 8) (q := (RX8, TX8, 44)) (q0 := 0) rfl rfl) rfl rfl hl.1 rfl (lv_room (Nat.le_of_ble_eq_true rfl)) dX8_meanOf_212 ⟨Nat.le_of_ble_eq_true rfl, Nat.le_of_ble_eq_true rfl⟩) hS hA hP (fun r_95 H locs hw_95 hP hS => ?_)
                  try dsimp only at hw_95
                  refine lv_iload hx hb dX8_meanOf_215 (lv_at hl 0 rfl) ?_
                  refine lv_iload hx hb dX8_meanOf_217 (lv_at hl 8 rfl) ?_
                  refine lv_aload_n hx hb dX8_meanOf_219 rfl (lv_at hl 10 rfl) ?_
                  refine va_get (D := D) (ci := 8) (v := .ref (a 29)) (C := RX8) (T := TX8) (N := 44) hx hb hts inX8 hown hK hP 0 rfl rfl 28 (by decide) (hts _ tw_1001) (fun _ h9 => h9) rfl dX8_meanOf_220 ?_
                  refine lv_iconst (v := 2) hx hb dX8_meanOf_223 (by decide) ?_
                  refine lv_iload hx hb dX8_meanOf_224 (lv_at hl 1 rfl) ?_
                  refine lv_imul hx hb dX8_meanOf_226 ?_
                  refine lv_ti (y := (nI (2 * (k2_87 / 2)))) (pk_mul 2 (k2_87 / 2)) ?_
                  refine va_iald hx hb hK hP 9 1 rfl rfl (vp_in_nI (by omega) (by decide)) dX8_meanOf_227 ?_
                  refine lv_ti (y := (ff3_86 (2 * (k2_87 / 2)))) (by rw [nI_clamp (by omega)]) ?_
                  refine lv_iadd hx hb dX8_meanOf_228 ?_
                  refine lv_topi (fun x_96 ex_96 => ?_)
                  refine ro_i (D := D) (va_runS (As := [.int r_95, .int r_93, .int x_96]) (rest := [.int (nI k2_87), .ref (a 30)]) ⟨hx, hb, hml, hown, hts⟩ ((n_mixed l D k st lo r_95 r_93 x_96) H.size) (va_cwS 3 hts (gS tw_1269 tw_1270 tw_87 tw_1271) rfl rfl rfl (by decide +kernel) ⟨Nat.le_of_ble_eq_true rfl, Nat.le_of_ble_eq_true rfl⟩) (pS hS hAlo hlo hP hK (va_Dlo hD hAlo) hZ [] (by decide) rfl) rfl rfl hl.1 rfl (lv_room (Nat.le_of_ble_eq_true rfl)) dX8_meanOf_229 ⟨Nat.le_of_ble_eq_true rfl, Nat.le_of_ble_eq_true rfl⟩) hS hA hP (fun r_97 H locs hw_97 hP hS => ?_)
                  try dsimp only at hw_97
                  refine va_iast hx hb hK hP hD hS 10 1 rfl rfl (vp_in_nI (by omega) (by decide)) dX8_meanOf_232 (fun H locs hP hD hS => ?_)
                  replace hP : va_P D classes [((a 0), .inr (8, (fX8 a (nI tx) fp (nI t0) wd (nI we) nu na (nI rd) ts (nI ru) (nI rw) (nI ca) df db sd))), (aI k (a 1) 3 (nF dn)), (aI k (a 4) 27 (sg se tm gs)), (aI k (a 2) 72 ffrees), (aI k (a 3) 72 fprices), (aI k (a 25) 4 (nF bm)), (aI k (a 26) 48 fbarSeen), (aI k (a 27) 48 fbarFrom), (aI k (a 28) 4 fruleRounds), (aI k (a 29) 52 ff3_86), (aI k (a 30) 52 (upd fb4_87 (Int32.toNatClampNeg (nI k2_87)) r_97))] H := hP
                  replace hD : va_D A [((a 0), .inr (8, (fX8 a (nI tx) fp (nI t0) wd (nI we) nu na (nI rd) ts (nI ru) (nI rw) (nI ca) df db sd))), (aI k (a 1) 3 (nF dn)), (aI k (a 4) 27 (sg se tm gs)), (aI k (a 2) 72 ffrees), (aI k (a 3) 72 fprices), (aI k (a 25) 4 (nF bm)), (aI k (a 26) 48 fbarSeen), (aI k (a 27) 48 fbarFrom), (aI k (a 28) 4 fruleRounds), (aI k (a 29) 52 ff3_86), (aI k (a 30) 52 (upd fb4_87 (Int32.toNatClampNeg (nI k2_87)) r_97))] := hD
                  rw [nI_clamp (n := k2_87) (by omega)] at hP hD
                  replace hP : va_P D classes [((a 0), .inr (8, (fX8 a (nI tx) fp (nI t0) wd (nI we) nu na (nI rd) ts (nI ru) (nI rw) (nI ca) df db sd))), (aI k (a 1) 3 (nF dn)), (aI k (a 4) 27 (sg se tm gs)), (aI k (a 2) 72 ffrees), (aI k (a 3) 72 fprices), (aI k (a 25) 4 (nF bm)), (aI k (a 26) 48 fbarSeen), (aI k (a 27) 48 fbarFrom), (aI k (a 28) 4 fruleRounds), (aI k (a 29) 52 ff3_86), (aI k (a 30) 52 (upd fb4_87 k2_87 r_97))] H := hP
                  replace hD : va_D A [((a 0), .inr (8, (fX8 a (nI tx) fp (nI t0) wd (nI we) nu na (nI rd) ts (nI ru) (nI rw) (nI ca) df db sd))), (aI k (a 1) 3 (nF dn)), (aI k (a 4) 27 (sg se tm gs)), (aI k (a 2) 72 ffrees), (aI k (a 3) 72 fprices), (aI k (a 25) 4 (nF bm)), (aI k (a 26) 48 fbarSeen), (aI k (a 27) 48 fbarFrom), (aI k (a 28) 4 fruleRounds), (aI k (a 29) 52 ff3_86), (aI k (a 30) 52 (upd fb4_87 k2_87 r_97))] := hD
                  refine lv_iinc (v := (nI (k2_87 + 1))) (lv' := [(11, .int (nI (k2_87 + 1))), (13, .int r_93), (12, .int (nI (k2_87 / 2))), (10, .int (nI qi_86)), (9, .int x_82), (8, .int x_79), (7, .int (nI q_74)), (6, .int bg_74), (5, .int x_72), (4, .int (nI (dn sn))), (0, .ref (a 0)), (1, .int (nI sn)), (2, .int (nI kr)), (3, .int (nI wh))]) hx hb dX8_meanOf_233 hl (k := 2) rfl (nI_add k2_87 1) (by decide) rfl (fun ls hl => ?_)
                  refine lv_goto (tgt := 135) hx hb dX8_meanOf_236 (by decide) ?_
                  have hx_87 : (k2_87 / 2) + (dn sn - qi_86) ≤ 25 → r_97 = mV (sdM dn (sg se tm gs) ffrees fprices sn) (ruM bm fbarSeen fbarFrom fruleRounds kr) wh q_74 x_82 (dn sn - qi_86) (k2_87 / 2) (k2_87 % 2) := fun hk => mv_v (d := (sdM dn (sg se tm gs) ffrees fprices sn)) (u := (ruM bm fbarSeen fbarFrom fruleRounds kr)) (wh := wh) (r := q_74) (E := x_82) (p := (k2_87 / 2)) (a := k2_87 % 2) (show qi_86 < dn sn by omega) (show _ = pChance (sdM dn (sg se tm gs) ffrees fprices sn) qi_86 (nI (k2_87 % 2)) from by rw [show k2_87 % 2 = 0 by omega]; exact hw_95.trans (mChance (fpr := fprices) (show qi_86 < dn sn by omega))) (by rw [if_pos hw_92]; exact hw_93.trans (mByT hg9 (by omega) (by omega) (by omega) (by omega))) (by rw [← hps_73, ex_96]; exact congrArg (fun z => x_72 + z) (by have h9 := hv_86.2 (2 * (k2_87 / 2)) (by omega) (by omega); rw [show (2 * (k2_87 / 2)) / 2 = (k2_87 / 2) by omega, show (2 * (k2_87 / 2)) % 2 = 0 by omega] at h9; exact h9)) hw_97
                  exact ih_87 _ (k2_87 + 1, (upd fb4_87 k2_87 r_97)) _ _ _ (by omega) ⟨rfl, ⟨by omega, la_updc (F := fun k => mV (sdM dn (sg se tm gs) ffrees fprices sn) (ruM bm fbarSeen fbarFrom fruleRounds kr) wh q_74 x_82 (dn sn - qi_86) (k / 2) (k % 2)) (P := fun k => k / 2 + (dn sn - qi_86) ≤ 25) hv_87.2 hx_87⟩, hP, hD, hS, (lv_sub hl [0, 3, 4, 5, 6, 7, 8, 9, 10, 11, 12, 13] rfl)⟩
                · have c_94 := (nI_eq (a := (k2_87 % 2)) (b := 1) (by omega) (by omega)).mp c_94
                  refine lv_iconst (v := 1) hx hb dX8_meanOf_207 (by decide) ?_
                  refine lv_goto (tgt := 212) hx hb dX8_meanOf_208 (by decide) ?_
                  refine ro_i (D := D) (va_runV (As := [.int (nI sn), .int (nI qi_86), .int 1]) (rest := [.int (nI k2_87), .ref (a 30)]) ⟨hx, hb, hml, hown, hts⟩ ((n_chanceOf l D k st lo a tx t0 we rd ru rw ca fp wd nu na ts df db sd ffrees se tm gs sn qi_86 1 (by first | assumption | omega) (by first | assumption | omega)) H.size) (cwV 3 hts (gV tw_1210 tw_1212 tw_41 tw_87 tw_1213) rfl rfl rfl (by decide +kernel) ⟨Nat.le_of_ble_eq_true rfl, Nat.le_of_ble_eq_true rfl⟩) (pV hS hAlo hlo hP hK (va_Dlo hD hAlo) hZ [0, 3, 2] (by decide) rfl (ci := 8) (q := (RX8, TX8, 44)) (q0 := 0) rfl rfl) rfl rfl hl.1 rfl (lv_room (Nat.le_of_ble_eq_true rfl)) dX8_meanOf_212 ⟨Nat.le_of_ble_eq_true rfl, Nat.le_of_ble_eq_true rfl⟩) hS hA hP (fun r_99 H locs hw_99 hP hS => ?_)
                  try dsimp only at hw_99
                  refine lv_iload hx hb dX8_meanOf_215 (lv_at hl 0 rfl) ?_
                  refine lv_iload hx hb dX8_meanOf_217 (lv_at hl 8 rfl) ?_
                  refine lv_aload_n hx hb dX8_meanOf_219 rfl (lv_at hl 10 rfl) ?_
                  refine va_get (D := D) (ci := 8) (v := .ref (a 29)) (C := RX8) (T := TX8) (N := 44) hx hb hts inX8 hown hK hP 0 rfl rfl 28 (by decide) (hts _ tw_1001) (fun _ h9 => h9) rfl dX8_meanOf_220 ?_
                  refine lv_iconst (v := 2) hx hb dX8_meanOf_223 (by decide) ?_
                  refine lv_iload hx hb dX8_meanOf_224 (lv_at hl 1 rfl) ?_
                  refine lv_imul hx hb dX8_meanOf_226 ?_
                  refine lv_ti (y := (nI (2 * (k2_87 / 2)))) (pk_mul 2 (k2_87 / 2)) ?_
                  refine va_iald hx hb hK hP 9 1 rfl rfl (vp_in_nI (by omega) (by decide)) dX8_meanOf_227 ?_
                  refine lv_ti (y := (ff3_86 (2 * (k2_87 / 2)))) (by rw [nI_clamp (by omega)]) ?_
                  refine lv_iadd hx hb dX8_meanOf_228 ?_
                  refine lv_topi (fun x_100 ex_100 => ?_)
                  refine ro_i (D := D) (va_runS (As := [.int r_99, .int r_93, .int x_100]) (rest := [.int (nI k2_87), .ref (a 30)]) ⟨hx, hb, hml, hown, hts⟩ ((n_mixed l D k st lo r_99 r_93 x_100) H.size) (va_cwS 3 hts (gS tw_1269 tw_1270 tw_87 tw_1271) rfl rfl rfl (by decide +kernel) ⟨Nat.le_of_ble_eq_true rfl, Nat.le_of_ble_eq_true rfl⟩) (pS hS hAlo hlo hP hK (va_Dlo hD hAlo) hZ [] (by decide) rfl) rfl rfl hl.1 rfl (lv_room (Nat.le_of_ble_eq_true rfl)) dX8_meanOf_229 ⟨Nat.le_of_ble_eq_true rfl, Nat.le_of_ble_eq_true rfl⟩) hS hA hP (fun r_101 H locs hw_101 hP hS => ?_)
                  try dsimp only at hw_101
                  refine va_iast hx hb hK hP hD hS 10 1 rfl rfl (vp_in_nI (by omega) (by decide)) dX8_meanOf_232 (fun H locs hP hD hS => ?_)
                  replace hP : va_P D classes [((a 0), .inr (8, (fX8 a (nI tx) fp (nI t0) wd (nI we) nu na (nI rd) ts (nI ru) (nI rw) (nI ca) df db sd))), (aI k (a 1) 3 (nF dn)), (aI k (a 4) 27 (sg se tm gs)), (aI k (a 2) 72 ffrees), (aI k (a 3) 72 fprices), (aI k (a 25) 4 (nF bm)), (aI k (a 26) 48 fbarSeen), (aI k (a 27) 48 fbarFrom), (aI k (a 28) 4 fruleRounds), (aI k (a 29) 52 ff3_86), (aI k (a 30) 52 (upd fb4_87 (Int32.toNatClampNeg (nI k2_87)) r_101))] H := hP
                  replace hD : va_D A [((a 0), .inr (8, (fX8 a (nI tx) fp (nI t0) wd (nI we) nu na (nI rd) ts (nI ru) (nI rw) (nI ca) df db sd))), (aI k (a 1) 3 (nF dn)), (aI k (a 4) 27 (sg se tm gs)), (aI k (a 2) 72 ffrees), (aI k (a 3) 72 fprices), (aI k (a 25) 4 (nF bm)), (aI k (a 26) 48 fbarSeen), (aI k (a 27) 48 fbarFrom), (aI k (a 28) 4 fruleRounds), (aI k (a 29) 52 ff3_86), (aI k (a 30) 52 (upd fb4_87 (Int32.toNatClampNeg (nI k2_87)) r_101))] := hD
                  rw [nI_clamp (n := k2_87) (by omega)] at hP hD
                  replace hP : va_P D classes [((a 0), .inr (8, (fX8 a (nI tx) fp (nI t0) wd (nI we) nu na (nI rd) ts (nI ru) (nI rw) (nI ca) df db sd))), (aI k (a 1) 3 (nF dn)), (aI k (a 4) 27 (sg se tm gs)), (aI k (a 2) 72 ffrees), (aI k (a 3) 72 fprices), (aI k (a 25) 4 (nF bm)), (aI k (a 26) 48 fbarSeen), (aI k (a 27) 48 fbarFrom), (aI k (a 28) 4 fruleRounds), (aI k (a 29) 52 ff3_86), (aI k (a 30) 52 (upd fb4_87 k2_87 r_101))] H := hP
                  replace hD : va_D A [((a 0), .inr (8, (fX8 a (nI tx) fp (nI t0) wd (nI we) nu na (nI rd) ts (nI ru) (nI rw) (nI ca) df db sd))), (aI k (a 1) 3 (nF dn)), (aI k (a 4) 27 (sg se tm gs)), (aI k (a 2) 72 ffrees), (aI k (a 3) 72 fprices), (aI k (a 25) 4 (nF bm)), (aI k (a 26) 48 fbarSeen), (aI k (a 27) 48 fbarFrom), (aI k (a 28) 4 fruleRounds), (aI k (a 29) 52 ff3_86), (aI k (a 30) 52 (upd fb4_87 k2_87 r_101))] := hD
                  refine lv_iinc (v := (nI (k2_87 + 1))) (lv' := [(11, .int (nI (k2_87 + 1))), (13, .int r_93), (12, .int (nI (k2_87 / 2))), (10, .int (nI qi_86)), (9, .int x_82), (8, .int x_79), (7, .int (nI q_74)), (6, .int bg_74), (5, .int x_72), (4, .int (nI (dn sn))), (0, .ref (a 0)), (1, .int (nI sn)), (2, .int (nI kr)), (3, .int (nI wh))]) hx hb dX8_meanOf_233 hl (k := 2) rfl (nI_add k2_87 1) (by decide) rfl (fun ls hl => ?_)
                  refine lv_goto (tgt := 135) hx hb dX8_meanOf_236 (by decide) ?_
                  have hx_87 : (k2_87 / 2) + (dn sn - qi_86) ≤ 25 → r_101 = mV (sdM dn (sg se tm gs) ffrees fprices sn) (ruM bm fbarSeen fbarFrom fruleRounds kr) wh q_74 x_82 (dn sn - qi_86) (k2_87 / 2) (k2_87 % 2) := fun hk => mv_v (d := (sdM dn (sg se tm gs) ffrees fprices sn)) (u := (ruM bm fbarSeen fbarFrom fruleRounds kr)) (wh := wh) (r := q_74) (E := x_82) (p := (k2_87 / 2)) (a := k2_87 % 2) (show qi_86 < dn sn by omega) (show _ = pChance (sdM dn (sg se tm gs) ffrees fprices sn) qi_86 (nI (k2_87 % 2)) from by rw [show k2_87 % 2 = 1 by omega]; exact hw_99.trans (mChance (fpr := fprices) (show qi_86 < dn sn by omega))) (by rw [if_pos hw_92]; exact hw_93.trans (mByT hg9 (by omega) (by omega) (by omega) (by omega))) (by rw [← hps_73, ex_100]; exact congrArg (fun z => x_72 + z) (by have h9 := hv_86.2 (2 * (k2_87 / 2)) (by omega) (by omega); rw [show (2 * (k2_87 / 2)) / 2 = (k2_87 / 2) by omega, show (2 * (k2_87 / 2)) % 2 = 0 by omega] at h9; exact h9)) hw_101
                  exact ih_87 _ (k2_87 + 1, (upd fb4_87 k2_87 r_101)) _ _ _ (by omega) ⟨rfl, ⟨by omega, la_updc (F := fun k => mV (sdM dn (sg se tm gs) ffrees fprices sn) (ruM bm fbarSeen fbarFrom fruleRounds kr) wh q_74 x_82 (dn sn - qi_86) (k / 2) (k % 2)) (P := fun k => k / 2 + (dn sn - qi_86) ≤ 25) hv_87.2 hx_87⟩, hP, hD, hS, (lv_sub hl [0, 3, 4, 5, 6, 7, 8, 9, 10, 11, 12, 13] rfl)⟩
              · refine lv_if_eq (tgt := 173) hx hb dX8_meanOf_157 (by decide) (fun _ => ?_) (fun h => absurd (by decide) h)
                refine lv_iload hx hb dX8_meanOf_173 (lv_at hl 7 rfl) ?_
                refine lv_aload_n hx hb dX8_meanOf_175 rfl (lv_at hl 9 rfl) ?_
                refine va_get (D := D) (ci := 8) (v := .ref (a 29)) (C := RX8) (T := TX8) (N := 44) hx hb hts inX8 hown hK hP 0 rfl rfl 28 (by decide) (hts _ tw_1001) (fun _ h9 => h9) rfl dX8_meanOf_176 ?_
                refine lv_iconst (v := 2) hx hb dX8_meanOf_179 (by decide) ?_
                refine lv_iload hx hb dX8_meanOf_180 (lv_at hl 0 rfl) ?_
                refine lv_imul hx hb dX8_meanOf_182 ?_
                refine lv_ti (y := (nI (2 * (k2_87 / 2)))) (pk_mul 2 (k2_87 / 2)) ?_
                refine lv_iconst (v := 3) hx hb dX8_meanOf_183 (by decide) ?_
                refine lv_iadd hx hb dX8_meanOf_184 ?_
                refine lv_ti (y := (nI (2 * (k2_87 / 2) + 3))) (nI_add (2 * (k2_87 / 2)) 3) ?_
                refine va_iald hx hb hK hP 9 1 rfl rfl (vp_in_nI (by omega) (by decide)) dX8_meanOf_185 ?_
                refine lv_ti (y := (ff3_86 (2 * (k2_87 / 2) + 3))) (by rw [nI_clamp (by omega)]) ?_
                refine lv_iadd hx hb dX8_meanOf_186 ?_
                refine lv_topi (fun x_103 ex_103 => ?_)
                refine lv_istore (lv' := [(13, .int x_103), (12, .int (nI (k2_87 / 2))), (11, .int (nI k2_87)), (10, .int (nI qi_86)), (9, .int x_82), (8, .int x_79), (7, .int (nI q_74)), (6, .int bg_74), (5, .int x_72), (4, .int (nI (dn sn))), (0, .ref (a 0)), (1, .int (nI sn)), (2, .int (nI kr)), (3, .int (nI wh))]) hx hb dX8_meanOf_187 hl (by decide) rfl (fun ls hl => ?_)
                refine lv_aload_n hx hb dX8_meanOf_189 rfl (lv_at hl 10 rfl) ?_
                refine va_get (D := D) (ci := 8) (v := .ref (a 30)) (C := RX8) (T := TX8) (N := 44) hx hb hts inX8 hown hK hP 0 rfl rfl 29 (by decide) (hts _ tw_1002) (fun _ h9 => h9) rfl dX8_meanOf_190 ?_
                refine lv_iload hx hb dX8_meanOf_193 (lv_at hl 2 rfl) ?_
                refine lv_aload_n hx hb dX8_meanOf_195 rfl (lv_at hl 10 rfl) ?_
                refine lv_iload_n hx hb dX8_meanOf_196 rfl (lv_at hl 11 rfl) ?_
                refine lv_iload hx hb dX8_meanOf_197 (lv_at hl 3 rfl) ?_
                refine lv_iload hx hb dX8_meanOf_199 (lv_at hl 2 rfl) ?_
                refine lv_iconst (v := 2) hx hb dX8_meanOf_201 (by decide) ?_
                refine lv_irem hx hb dX8_meanOf_202 (by decide) ?_
                refine lv_ti (y := (nI (k2_87 % 2))) (pk_rem (by omega) (by decide) (by decide)) ?_
                refine lv_iconst (v := 1) hx hb dX8_meanOf_203 (by decide) ?_
                refine lv_icmp_ne (tgt := 211) hx hb dX8_meanOf_204 (by decide) (fun c_104 => ?_) (fun c_104 => ?_)
                · have c_104 : ¬ ((k2_87 % 2) = 1) := fun h => c_104 ((nI_eq (a := (k2_87 % 2)) (b := 1) (by omega) (by omega)).mpr h)
                  refine lv_iconst (v := 0) hx hb dX8_meanOf_211 (by decide) ?_
                  refine ro_i (D := D) (va_runV (As := [.int (nI sn), .int (nI qi_86), .int 0]) (rest := [.int (nI k2_87), .ref (a 30)]) ⟨hx, hb, hml, hown, hts⟩ ((n_chanceOf l D k st lo a tx t0 we rd ru rw ca fp wd nu na ts df db sd ffrees se tm gs sn qi_86 0 (by first | assumption | omega) (by first | assumption | omega)) H.size) (cwV 3 hts (gV tw_1210 tw_1212 tw_41 tw_87 tw_1213) rfl rfl rfl (by decide +kernel) ⟨Nat.le_of_ble_eq_true rfl, Nat.le_of_ble_eq_true rfl⟩) (pV hS hAlo hlo hP hK (va_Dlo hD hAlo) hZ [0, 3, 2] (by decide) rfl (ci := 8) (q := (RX8, TX8, 44)) (q0 := 0) rfl rfl) rfl rfl hl.1 rfl (lv_room (Nat.le_of_ble_eq_true rfl)) dX8_meanOf_212 ⟨Nat.le_of_ble_eq_true rfl, Nat.le_of_ble_eq_true rfl⟩) hS hA hP (fun r_105 H locs hw_105 hP hS => ?_)
                  try dsimp only at hw_105
                  refine lv_iload hx hb dX8_meanOf_215 (lv_at hl 0 rfl) ?_
                  refine lv_iload hx hb dX8_meanOf_217 (lv_at hl 8 rfl) ?_
                  refine lv_aload_n hx hb dX8_meanOf_219 rfl (lv_at hl 10 rfl) ?_
                  refine va_get (D := D) (ci := 8) (v := .ref (a 29)) (C := RX8) (T := TX8) (N := 44) hx hb hts inX8 hown hK hP 0 rfl rfl 28 (by decide) (hts _ tw_1001) (fun _ h9 => h9) rfl dX8_meanOf_220 ?_
                  refine lv_iconst (v := 2) hx hb dX8_meanOf_223 (by decide) ?_
                  refine lv_iload hx hb dX8_meanOf_224 (lv_at hl 1 rfl) ?_
                  refine lv_imul hx hb dX8_meanOf_226 ?_
                  refine lv_ti (y := (nI (2 * (k2_87 / 2)))) (pk_mul 2 (k2_87 / 2)) ?_
                  refine va_iald hx hb hK hP 9 1 rfl rfl (vp_in_nI (by omega) (by decide)) dX8_meanOf_227 ?_
                  refine lv_ti (y := (ff3_86 (2 * (k2_87 / 2)))) (by rw [nI_clamp (by omega)]) ?_
                  refine lv_iadd hx hb dX8_meanOf_228 ?_
                  refine lv_topi (fun x_106 ex_106 => ?_)
                  refine ro_i (D := D) (va_runS (As := [.int r_105, .int x_103, .int x_106]) (rest := [.int (nI k2_87), .ref (a 30)]) ⟨hx, hb, hml, hown, hts⟩ ((n_mixed l D k st lo r_105 x_103 x_106) H.size) (va_cwS 3 hts (gS tw_1269 tw_1270 tw_87 tw_1271) rfl rfl rfl (by decide +kernel) ⟨Nat.le_of_ble_eq_true rfl, Nat.le_of_ble_eq_true rfl⟩) (pS hS hAlo hlo hP hK (va_Dlo hD hAlo) hZ [] (by decide) rfl) rfl rfl hl.1 rfl (lv_room (Nat.le_of_ble_eq_true rfl)) dX8_meanOf_229 ⟨Nat.le_of_ble_eq_true rfl, Nat.le_of_ble_eq_true rfl⟩) hS hA hP (fun r_107 H locs hw_107 hP hS => ?_)
                  try dsimp only at hw_107
                  refine va_iast hx hb hK hP hD hS 10 1 rfl rfl (vp_in_nI (by omega) (by decide)) dX8_meanOf_232 (fun H locs hP hD hS => ?_)
                  replace hP : va_P D classes [((a 0), .inr (8, (fX8 a (nI tx) fp (nI t0) wd (nI we) nu na (nI rd) ts (nI ru) (nI rw) (nI ca) df db sd))), (aI k (a 1) 3 (nF dn)), (aI k (a 4) 27 (sg se tm gs)), (aI k (a 2) 72 ffrees), (aI k (a 3) 72 fprices), (aI k (a 25) 4 (nF bm)), (aI k (a 26) 48 fbarSeen), (aI k (a 27) 48 fbarFrom), (aI k (a 28) 4 fruleRounds), (aI k (a 29) 52 ff3_86), (aI k (a 30) 52 (upd fb4_87 (Int32.toNatClampNeg (nI k2_87)) r_107))] H := hP
                  replace hD : va_D A [((a 0), .inr (8, (fX8 a (nI tx) fp (nI t0) wd (nI we) nu na (nI rd) ts (nI ru) (nI rw) (nI ca) df db sd))), (aI k (a 1) 3 (nF dn)), (aI k (a 4) 27 (sg se tm gs)), (aI k (a 2) 72 ffrees), (aI k (a 3) 72 fprices), (aI k (a 25) 4 (nF bm)), (aI k (a 26) 48 fbarSeen), (aI k (a 27) 48 fbarFrom), (aI k (a 28) 4 fruleRounds), (aI k (a 29) 52 ff3_86), (aI k (a 30) 52 (upd fb4_87 (Int32.toNatClampNeg (nI k2_87)) r_107))] := hD
                  rw [nI_clamp (n := k2_87) (by omega)] at hP hD
                  replace hP : va_P D classes [((a 0), .inr (8, (fX8 a (nI tx) fp (nI t0) wd (nI we) nu na (nI rd) ts (nI ru) (nI rw) (nI ca) df db sd))), (aI k (a 1) 3 (nF dn)), (aI k (a 4) 27 (sg se tm gs)), (aI k (a 2) 72 ffrees), (aI k (a 3) 72 fprices), (aI k (a 25) 4 (nF bm)), (aI k (a 26) 48 fbarSeen), (aI k (a 27) 48 fbarFrom), (aI k (a 28) 4 fruleRounds), (aI k (a 29) 52 ff3_86), (aI k (a 30) 52 (upd fb4_87 k2_87 r_107))] H := hP
                  replace hD : va_D A [((a 0), .inr (8, (fX8 a (nI tx) fp (nI t0) wd (nI we) nu na (nI rd) ts (nI ru) (nI rw) (nI ca) df db sd))), (aI k (a 1) 3 (nF dn)), (aI k (a 4) 27 (sg se tm gs)), (aI k (a 2) 72 ffrees), (aI k (a 3) 72 fprices), (aI k (a 25) 4 (nF bm)), (aI k (a 26) 48 fbarSeen), (aI k (a 27) 48 fbarFrom), (aI k (a 28) 4 fruleRounds), (aI k (a 29) 52 ff3_86), (aI k (a 30) 52 (upd fb4_87 k2_87 r_107))] := hD
                  refine lv_iinc (v := (nI (k2_87 + 1))) (lv' := [(11, .int (nI (k2_87 + 1))), (13, .int x_103), (12, .int (nI (k2_87 / 2))), (10, .int (nI qi_86)), (9, .int x_82), (8, .int x_79), (7, .int (nI q_74)), (6, .int bg_74), (5, .int x_72), (4, .int (nI (dn sn))), (0, .ref (a 0)), (1, .int (nI sn)), (2, .int (nI kr)), (3, .int (nI wh))]) hx hb dX8_meanOf_233 hl (k := 2) rfl (nI_add k2_87 1) (by decide) rfl (fun ls hl => ?_)
                  refine lv_goto (tgt := 135) hx hb dX8_meanOf_236 (by decide) ?_
                  have hx_87 : (k2_87 / 2) + (dn sn - qi_86) ≤ 25 → r_107 = mV (sdM dn (sg se tm gs) ffrees fprices sn) (ruM bm fbarSeen fbarFrom fruleRounds kr) wh q_74 x_82 (dn sn - qi_86) (k2_87 / 2) (k2_87 % 2) := fun hk => mv_v (d := (sdM dn (sg se tm gs) ffrees fprices sn)) (u := (ruM bm fbarSeen fbarFrom fruleRounds kr)) (wh := wh) (r := q_74) (E := x_82) (p := (k2_87 / 2)) (a := k2_87 % 2) (show qi_86 < dn sn by omega) (show _ = pChance (sdM dn (sg se tm gs) ffrees fprices sn) qi_86 (nI (k2_87 % 2)) from by rw [show k2_87 % 2 = 0 by omega]; exact hw_105.trans (mChance (fpr := fprices) (show qi_86 < dn sn by omega))) (by rw [if_neg hw_92, ← hps_73, ex_103]; exact congrArg (fun z => x_72 + z) (by have h9 := hv_86.2 (2 * (k2_87 / 2) + 3) (by omega) (by omega); rw [show (2 * (k2_87 / 2) + 3) / 2 = (k2_87 / 2) + 1 by omega, show (2 * (k2_87 / 2) + 3) % 2 = 1 by omega] at h9; exact h9)) (by rw [← hps_73, ex_106]; exact congrArg (fun z => x_72 + z) (by have h9 := hv_86.2 (2 * (k2_87 / 2)) (by omega) (by omega); rw [show (2 * (k2_87 / 2)) / 2 = (k2_87 / 2) by omega, show (2 * (k2_87 / 2)) % 2 = 0 by omega] at h9; exact h9)) hw_107
                  exact ih_87 _ (k2_87 + 1, (upd fb4_87 k2_87 r_107)) _ _ _ (by omega) ⟨rfl, ⟨by omega, la_updc (F := fun k => mV (sdM dn (sg se tm gs) ffrees fprices sn) (ruM bm fbarSeen fbarFrom fruleRounds kr) wh q_74 x_82 (dn sn - qi_86) (k / 2) (k % 2)) (P := fun k => k / 2 + (dn sn - qi_86) ≤ 25) hv_87.2 hx_87⟩, hP, hD, hS, (lv_sub hl [0, 3, 4, 5, 6, 7, 8, 9, 10, 11, 12, 13] rfl)⟩
                · have c_104 := (nI_eq (a := (k2_87 % 2)) (b := 1) (by omega) (by omega)).mp c_104
                  refine lv_iconst (v := 1) hx hb dX8_meanOf_207 (by decide) ?_
                  refine lv_goto (tgt := 212) hx hb dX8_meanOf_208 (by decide) ?_
                  refine ro_i (D := D) (va_runV (As := [.int (nI sn), .int (nI qi_86), .int 1]) (rest := [.int (nI k2_87), .ref (a 30)]) ⟨hx, hb, hml, hown, hts⟩ ((n_chanceOf l D k st lo a tx t0 we rd ru rw ca fp wd nu na ts df db sd ffrees se tm gs sn qi_86 1 (by first | assumption | omega) (by first | assumption | omega)) H.size) (cwV 3 hts (gV tw_1210 tw_1212 tw_41 tw_87 tw_1213) rfl rfl rfl (by decide +kernel) ⟨Nat.le_of_ble_eq_true rfl, Nat.le_of_ble_eq_true rfl⟩) (pV hS hAlo hlo hP hK (va_Dlo hD hAlo) hZ [0, 3, 2] (by decide) rfl (ci := 8) (q := (RX8, TX8, 44)) (q0 := 0) rfl rfl) rfl rfl hl.1 rfl (lv_room (Nat.le_of_ble_eq_true rfl)) dX8_meanOf_212 ⟨Nat.le_of_ble_eq_true rfl, Nat.le_of_ble_eq_true rfl⟩) hS hA hP (fun r_109 H locs hw_109 hP hS => ?_)
                  try dsimp only at hw_109
                  refine lv_iload hx hb dX8_meanOf_215 (lv_at hl 0 rfl) ?_
                  refine lv_iload hx hb dX8_meanOf_217 (lv_at hl 8 rfl) ?_
                  refine lv_aload_n hx hb dX8_meanOf_219 rfl (lv_at hl 10 rfl) ?_
                  refine va_get (D := D) (ci := 8) (v := .ref (a 29)) (C := RX8) (T := TX8) (N := 44) hx hb hts inX8 hown hK hP 0 rfl rfl 28 (by decide) (hts _ tw_1001) (fun _ h9 => h9) rfl dX8_meanOf_220 ?_
                  refine lv_iconst (v := 2) hx hb dX8_meanOf_223 (by decide) ?_
                  refine lv_iload hx hb dX8_meanOf_224 (lv_at hl 1 rfl) ?_
                  refine lv_imul hx hb dX8_meanOf_226 ?_
                  refine lv_ti (y := (nI (2 * (k2_87 / 2)))) (pk_mul 2 (k2_87 / 2)) ?_
                  refine va_iald hx hb hK hP 9 1 rfl rfl (vp_in_nI (by omega) (by decide)) dX8_meanOf_227 ?_
                  refine lv_ti (y := (ff3_86 (2 * (k2_87 / 2)))) (by rw [nI_clamp (by omega)]) ?_
                  refine lv_iadd hx hb dX8_meanOf_228 ?_
                  refine lv_topi (fun x_110 ex_110 => ?_)
                  refine ro_i (D := D) (va_runS (As := [.int r_109, .int x_103, .int x_110]) (rest := [.int (nI k2_87), .ref (a 30)]) ⟨hx, hb, hml, hown, hts⟩ ((n_mixed l D k st lo r_109 x_103 x_110) H.size) (va_cwS 3 hts (gS tw_1269 tw_1270 tw_87 tw_1271) rfl rfl rfl (by decide +kernel) ⟨Nat.le_of_ble_eq_true rfl, Nat.le_of_ble_eq_true rfl⟩) (pS hS hAlo hlo hP hK (va_Dlo hD hAlo) hZ [] (by decide) rfl) rfl rfl hl.1 rfl (lv_room (Nat.le_of_ble_eq_true rfl)) dX8_meanOf_229 ⟨Nat.le_of_ble_eq_true rfl, Nat.le_of_ble_eq_true rfl⟩) hS hA hP (fun r_111 H locs hw_111 hP hS => ?_)
                  try dsimp only at hw_111
                  refine va_iast hx hb hK hP hD hS 10 1 rfl rfl (vp_in_nI (by omega) (by decide)) dX8_meanOf_232 (fun H locs hP hD hS => ?_)
                  replace hP : va_P D classes [((a 0), .inr (8, (fX8 a (nI tx) fp (nI t0) wd (nI we) nu na (nI rd) ts (nI ru) (nI rw) (nI ca) df db sd))), (aI k (a 1) 3 (nF dn)), (aI k (a 4) 27 (sg se tm gs)), (aI k (a 2) 72 ffrees), (aI k (a 3) 72 fprices), (aI k (a 25) 4 (nF bm)), (aI k (a 26) 48 fbarSeen), (aI k (a 27) 48 fbarFrom), (aI k (a 28) 4 fruleRounds), (aI k (a 29) 52 ff3_86), (aI k (a 30) 52 (upd fb4_87 (Int32.toNatClampNeg (nI k2_87)) r_111))] H := hP
                  replace hD : va_D A [((a 0), .inr (8, (fX8 a (nI tx) fp (nI t0) wd (nI we) nu na (nI rd) ts (nI ru) (nI rw) (nI ca) df db sd))), (aI k (a 1) 3 (nF dn)), (aI k (a 4) 27 (sg se tm gs)), (aI k (a 2) 72 ffrees), (aI k (a 3) 72 fprices), (aI k (a 25) 4 (nF bm)), (aI k (a 26) 48 fbarSeen), (aI k (a 27) 48 fbarFrom), (aI k (a 28) 4 fruleRounds), (aI k (a 29) 52 ff3_86), (aI k (a 30) 52 (upd fb4_87 (Int32.toNatClampNeg (nI k2_87)) r_111))] := hD
                  rw [nI_clamp (n := k2_87) (by omega)] at hP hD
                  replace hP : va_P D classes [((a 0), .inr (8, (fX8 a (nI tx) fp (nI t0) wd (nI we) nu na (nI rd) ts (nI ru) (nI rw) (nI ca) df db sd))), (aI k (a 1) 3 (nF dn)), (aI k (a 4) 27 (sg se tm gs)), (aI k (a 2) 72 ffrees), (aI k (a 3) 72 fprices), (aI k (a 25) 4 (nF bm)), (aI k (a 26) 48 fbarSeen), (aI k (a 27) 48 fbarFrom), (aI k (a 28) 4 fruleRounds), (aI k (a 29) 52 ff3_86), (aI k (a 30) 52 (upd fb4_87 k2_87 r_111))] H := hP
                  replace hD : va_D A [((a 0), .inr (8, (fX8 a (nI tx) fp (nI t0) wd (nI we) nu na (nI rd) ts (nI ru) (nI rw) (nI ca) df db sd))), (aI k (a 1) 3 (nF dn)), (aI k (a 4) 27 (sg se tm gs)), (aI k (a 2) 72 ffrees), (aI k (a 3) 72 fprices), (aI k (a 25) 4 (nF bm)), (aI k (a 26) 48 fbarSeen), (aI k (a 27) 48 fbarFrom), (aI k (a 28) 4 fruleRounds), (aI k (a 29) 52 ff3_86), (aI k (a 30) 52 (upd fb4_87 k2_87 r_111))] := hD
                  refine lv_iinc (v := (nI (k2_87 + 1))) (lv' := [(11, .int (nI (k2_87 + 1))), (13, .int x_103), (12, .int (nI (k2_87 / 2))), (10, .int (nI qi_86)), (9, .int x_82), (8, .int x_79), (7, .int (nI q_74)), (6, .int bg_74), (5, .int x_72), (4, .int (nI (dn sn))), (0, .ref (a 0)), (1, .int (nI sn)), (2, .int (nI kr)), (3, .int (nI wh))]) hx hb dX8_meanOf_233 hl (k := 2) rfl (nI_add k2_87 1) (by decide) rfl (fun ls hl => ?_)
                  refine lv_goto (tgt := 135) hx hb dX8_meanOf_236 (by decide) ?_
                  have hx_87 : (k2_87 / 2) + (dn sn - qi_86) ≤ 25 → r_111 = mV (sdM dn (sg se tm gs) ffrees fprices sn) (ruM bm fbarSeen fbarFrom fruleRounds kr) wh q_74 x_82 (dn sn - qi_86) (k2_87 / 2) (k2_87 % 2) := fun hk => mv_v (d := (sdM dn (sg se tm gs) ffrees fprices sn)) (u := (ruM bm fbarSeen fbarFrom fruleRounds kr)) (wh := wh) (r := q_74) (E := x_82) (p := (k2_87 / 2)) (a := k2_87 % 2) (show qi_86 < dn sn by omega) (show _ = pChance (sdM dn (sg se tm gs) ffrees fprices sn) qi_86 (nI (k2_87 % 2)) from by rw [show k2_87 % 2 = 1 by omega]; exact hw_109.trans (mChance (fpr := fprices) (show qi_86 < dn sn by omega))) (by rw [if_neg hw_92, ← hps_73, ex_103]; exact congrArg (fun z => x_72 + z) (by have h9 := hv_86.2 (2 * (k2_87 / 2) + 3) (by omega) (by omega); rw [show (2 * (k2_87 / 2) + 3) / 2 = (k2_87 / 2) + 1 by omega, show (2 * (k2_87 / 2) + 3) % 2 = 1 by omega] at h9; exact h9)) (by rw [← hps_73, ex_110]; exact congrArg (fun z => x_72 + z) (by have h9 := hv_86.2 (2 * (k2_87 / 2)) (by omega) (by omega); rw [show (2 * (k2_87 / 2)) / 2 = (k2_87 / 2) by omega, show (2 * (k2_87 / 2)) % 2 = 0 by omega] at h9; exact h9)) hw_111
                  exact ih_87 _ (k2_87 + 1, (upd fb4_87 k2_87 r_111)) _ _ _ (by omega) ⟨rfl, ⟨by omega, la_updc (F := fun k => mV (sdM dn (sg se tm gs) ffrees fprices sn) (ruM bm fbarSeen fbarFrom fruleRounds kr) wh q_74 x_82 (dn sn - qi_86) (k / 2) (k % 2)) (P := fun k => k / 2 + (dn sn - qi_86) ≤ 25) hv_87.2 hx_87⟩, hP, hD, hS, (lv_sub hl [0, 3, 4, 5, 6, 7, 8, 9, 10, 11, 12, 13] rfl)⟩
        · have c_85 : ¬ (52 ≤ kk_84) := fun h => c_85 ((nI_leI (a := 52) (b := kk_84) (by omega) (by omega)).mpr h)
          refine lv_aload_n hx hb dX8_meanOf_106 rfl (lv_at hl 7 rfl) ?_
          refine va_get (D := D) (ci := 8) (v := .ref (a 29)) (C := RX8) (T := TX8) (N := 44) hx hb hts inX8 hown hK hP 0 rfl rfl 28 (by decide) (hts _ tw_1001) (fun _ h9 => h9) rfl dX8_meanOf_107 ?_
          refine lv_iload hx hb dX8_meanOf_110 (lv_at hl 0 rfl) ?_
          refine lv_iload hx hb dX8_meanOf_112 (lv_at hl 1 rfl) ?_
          refine va_iast hx hb hK hP hD hS 9 1 rfl rfl (vp_in_nI (by omega) (by decide)) dX8_meanOf_114 (fun H locs hP hD hS => ?_)
          replace hP : va_P D classes [((a 0), .inr (8, (fX8 a (nI tx) fp (nI t0) wd (nI we) nu na (nI rd) ts (nI ru) (nI rw) (nI ca) df db sd))), (aI k (a 1) 3 (nF dn)), (aI k (a 4) 27 (sg se tm gs)), (aI k (a 2) 72 ffrees), (aI k (a 3) 72 fprices), (aI k (a 25) 4 (nF bm)), (aI k (a 26) 48 fbarSeen), (aI k (a 27) 48 fbarFrom), (aI k (a 28) 4 fruleRounds), (aI k (a 29) 52 (upd ff2_84 (Int32.toNatClampNeg (nI kk_84)) x_82)), (aI k (a 30) 52 fb_74)] H := hP
          replace hD : va_D A [((a 0), .inr (8, (fX8 a (nI tx) fp (nI t0) wd (nI we) nu na (nI rd) ts (nI ru) (nI rw) (nI ca) df db sd))), (aI k (a 1) 3 (nF dn)), (aI k (a 4) 27 (sg se tm gs)), (aI k (a 2) 72 ffrees), (aI k (a 3) 72 fprices), (aI k (a 25) 4 (nF bm)), (aI k (a 26) 48 fbarSeen), (aI k (a 27) 48 fbarFrom), (aI k (a 28) 4 fruleRounds), (aI k (a 29) 52 (upd ff2_84 (Int32.toNatClampNeg (nI kk_84)) x_82)), (aI k (a 30) 52 fb_74)] := hD
          rw [nI_clamp (n := kk_84) (by omega)] at hP hD
          replace hP : va_P D classes [((a 0), .inr (8, (fX8 a (nI tx) fp (nI t0) wd (nI we) nu na (nI rd) ts (nI ru) (nI rw) (nI ca) df db sd))), (aI k (a 1) 3 (nF dn)), (aI k (a 4) 27 (sg se tm gs)), (aI k (a 2) 72 ffrees), (aI k (a 3) 72 fprices), (aI k (a 25) 4 (nF bm)), (aI k (a 26) 48 fbarSeen), (aI k (a 27) 48 fbarFrom), (aI k (a 28) 4 fruleRounds), (aI k (a 29) 52 (upd ff2_84 kk_84 x_82)), (aI k (a 30) 52 fb_74)] H := hP
          replace hD : va_D A [((a 0), .inr (8, (fX8 a (nI tx) fp (nI t0) wd (nI we) nu na (nI rd) ts (nI ru) (nI rw) (nI ca) df db sd))), (aI k (a 1) 3 (nF dn)), (aI k (a 4) 27 (sg se tm gs)), (aI k (a 2) 72 ffrees), (aI k (a 3) 72 fprices), (aI k (a 25) 4 (nF bm)), (aI k (a 26) 48 fbarSeen), (aI k (a 27) 48 fbarFrom), (aI k (a 28) 4 fruleRounds), (aI k (a 29) 52 (upd ff2_84 kk_84 x_82)), (aI k (a 30) 52 fb_74)] := hD
          refine lv_iinc (v := (nI (kk_84 + 1))) (lv' := [(10, .int (nI (kk_84 + 1))), (9, .int x_82), (8, .int x_79), (7, .int (nI q_74)), (6, .int bg_74), (5, .int x_72), (4, .int (nI (dn sn))), (0, .ref (a 0)), (1, .int (nI sn)), (2, .int (nI kr)), (3, .int (nI wh))]) hx hb dX8_meanOf_115 hl (k := 0) rfl (nI_add kk_84 1) (by decide) rfl (fun ls hl => ?_)
          refine lv_goto (tgt := 99) hx hb dX8_meanOf_118 (by decide) ?_
          exact ih_84 _ (kk_84 + 1, (upd ff2_84 kk_84 x_82)) _ _ _ (by omega) ⟨rfl, ⟨by omega, la_upd (F := fun _ => x_82) hv_84.2 rfl⟩, hP, hD, hS, (lv_sub hl [0, 1, 2, 3, 4, 5, 6, 7, 8, 9, 10] rfl)⟩
      · refine lv_if_eq (tgt := 86) hx hb dX8_meanOf_75 (by decide) (fun _ => ?_) (fun h => absurd (by decide) h)
        refine lv_aload_n hx hb dX8_meanOf_86 rfl (lv_at hl 5 rfl) ?_
        refine lv_iload_n hx hb dX8_meanOf_87 rfl (lv_at hl 6 rfl) ?_
        refine lv_iload hx hb dX8_meanOf_88 (lv_at hl 1 rfl) ?_
        refine lv_iload_n hx hb dX8_meanOf_90 rfl (lv_at hl 8 rfl) ?_
        refine ro_i (D := D) (va_runV (As := [.int (nI sn), .int (nI q_74), .int (nI wh)]) (rest := []) ⟨hx, hb, hml, hown, hts⟩ ((n_byGarage l D k st lo a tx t0 we rd ru rw ca fp wd nu na ts df db sd dn se tm gs sn (nI q_74) (nI wh) (by first | assumption | omega)) H.size) (cwV 3 hts (gV tw_1333 tw_1335 tw_60 tw_87 tw_1336) rfl rfl rfl (by decide +kernel) ⟨Nat.le_of_ble_eq_true rfl, Nat.le_of_ble_eq_true rfl⟩) (pV hS hAlo hlo hP hK (va_Dlo hD hAlo) hZ [0, 1, 2] (by decide) rfl (ci := 8) (q := (RX8, TX8, 44)) (q0 := 0) rfl rfl) rfl rfl hl.1 rfl (lv_room (Nat.le_of_ble_eq_true rfl)) dX8_meanOf_91 ⟨Nat.le_of_ble_eq_true rfl, Nat.le_of_ble_eq_true rfl⟩) hS hA hP (fun r_114 H locs hw_114 hP hS => ?_)
        try dsimp only at hw_114
        have he_115 : r_114 = pGs (sdM dn (sg se tm gs) ffrees fprices sn) wh q_74 := hw_114.trans (mByG hg9 (by omega) (by omega) (by omega))
        refine lv_istore (lv' := [(9, .int r_114), (8, .int x_79), (7, .int (nI q_74)), (6, .int bg_74), (5, .int x_72), (4, .int (nI (dn sn))), (0, .ref (a 0)), (1, .int (nI sn)), (2, .int (nI kr)), (3, .int (nI wh))]) hx hb dX8_meanOf_94 hl (by decide) rfl (fun ls hl => ?_)
        refine lv_iconst (v := 0) hx hb dX8_meanOf_96 (by decide) ?_
        refine lv_istore (lv' := [(10, .int 0), (9, .int r_114), (8, .int x_79), (7, .int (nI q_74)), (6, .int bg_74), (5, .int x_72), (4, .int (nI (dn sn))), (0, .ref (a 0)), (1, .int (nI sn)), (2, .int (nI kr)), (3, .int (nI wh))]) hx hb dX8_meanOf_97 hl (by decide) rfl (fun ls hl => ?_)
        refine W_loop (σ := Nat × (Nat → Int32)) (fun (n_ : Nat) (x_ : Nat × (Nat → Int32)) (H : Heap) (locs : List Loc) (ls : Array Slot) => match x_ with | (kk_116, ff2_116) => n_ = 52 - kk_116 ∧ (kk_116 ≤ 52 ∧ ∀ k, k < kk_116 → ff2_116 k = r_114) ∧ va_P D classes [((a 0), .inr (8, (fX8 a (nI tx) fp (nI t0) wd (nI we) nu na (nI rd) ts (nI ru) (nI rw) (nI ca) df db sd))), (aI k (a 1) 3 (nF dn)), (aI k (a 4) 27 (sg se tm gs)), (aI k (a 2) 72 ffrees), (aI k (a 3) 72 fprices), (aI k (a 25) 4 (nF bm)), (aI k (a 26) 48 fbarSeen), (aI k (a 27) 48 fbarFrom), (aI k (a 28) 4 fruleRounds), (aI k (a 29) 52 ff2_116), (aI k (a 30) 52 fb_74)] H ∧ va_D A [((a 0), .inr (8, (fX8 a (nI tx) fp (nI t0) wd (nI we) nu na (nI rd) ts (nI ru) (nI rw) (nI ca) df db sd))), (aI k (a 1) 3 (nF dn)), (aI k (a 4) 27 (sg se tm gs)), (aI k (a 2) 72 ffrees), (aI k (a 3) 72 fprices), (aI k (a 25) 4 (nF bm)), (aI k (a 26) 48 fbarSeen), (aI k (a 27) 48 fbarFrom), (aI k (a 28) 4 fruleRounds), (aI k (a 29) 52 ff2_116), (aI k (a 30) 52 fb_74)] ∧ va_S A s.heap H locs ∧ lv_has ls 14 [(10, .int (nI kk_116)), (9, .int r_114), (8, .int x_79), (7, .int (nI q_74)), (6, .int bg_74), (5, .int x_72), (4, .int (nI (dn sn))), (0, .ref (a 0)), (1, .int (nI sn)), (2, .int (nI kr)), (3, .int (nI wh))]) (fun n_116 x_116 H locs ls hI ih_116 => ?_) _ (0, ff_74) ⟨rfl, ⟨by omega, fun k h => absurd h (Nat.not_lt_zero k)⟩, hP, hD, hS, (lv_sub hl [0, 1, 2, 3, 4, 5, 6, 7, 8, 9, 10] rfl)⟩
        obtain ⟨kk_116, ff2_116⟩ := x_116
        obtain ⟨hm_116, hv_116, hP, hD, hS, hl⟩ := hI
        subst hm_116
        refine lv_iload hx hb dX8_meanOf_99 (lv_at hl 0 rfl) ?_
        refine lv_bipush (v := 52) hx hb dX8_meanOf_101 (by decide) ?_
        refine lv_icmp_ge (tgt := 121) hx hb dX8_meanOf_103 (by decide) (fun c_117 => ?_) (fun c_117 => ?_)
        · have c_117 := (nI_leI (a := 52) (b := kk_116) (by omega) (by omega)).mp c_117
          refine lv_iload hx hb dX8_meanOf_121 (lv_at hl 6 rfl) ?_
          refine lv_iconst (v := 1) hx hb dX8_meanOf_123 (by decide) ?_
          refine lv_isub hx hb dX8_meanOf_124 ?_
          refine lv_ti (y := (nI (dn sn) - 1)) rfl ?_
          refine lv_istore (lv' := [(10, .int (nI (dn sn) - 1)), (9, .int r_114), (8, .int x_79), (7, .int (nI q_74)), (6, .int bg_74), (5, .int x_72), (4, .int (nI (dn sn))), (0, .ref (a 0)), (1, .int (nI sn)), (2, .int (nI kr)), (3, .int (nI wh))]) hx hb dX8_meanOf_125 hl (by decide) rfl (fun ls hl => ?_)
          refine W_loop (σ := Nat × (Nat → Int32) × (Nat → Int32)) (fun (n_ : Nat) (x_ : Nat × (Nat → Int32) × (Nat → Int32)) (H : Heap) (locs : List Loc) (ls : Array Slot) => match x_ with | (qi_118, ff3_118, fb3_118) => n_ = 2 * qi_118 ∧ (qi_118 ≤ dn sn ∧ ∀ k, k < 52 → k / 2 + (dn sn - qi_118) ≤ 25 → ff3_118 k = mV (sdM dn (sg se tm gs) ffrees fprices sn) (ruM bm fbarSeen fbarFrom fruleRounds kr) wh q_74 r_114 (dn sn - qi_118) (k / 2) (k % 2)) ∧ va_P D classes [((a 0), .inr (8, (fX8 a (nI tx) fp (nI t0) wd (nI we) nu na (nI rd) ts (nI ru) (nI rw) (nI ca) df db sd))), (aI k (a 1) 3 (nF dn)), (aI k (a 4) 27 (sg se tm gs)), (aI k (a 2) 72 ffrees), (aI k (a 3) 72 fprices), (aI k (a 25) 4 (nF bm)), (aI k (a 26) 48 fbarSeen), (aI k (a 27) 48 fbarFrom), (aI k (a 28) 4 fruleRounds), (aI k (a 29) 52 ff3_118), (aI k (a 30) 52 fb3_118)] H ∧ va_D A [((a 0), .inr (8, (fX8 a (nI tx) fp (nI t0) wd (nI we) nu na (nI rd) ts (nI ru) (nI rw) (nI ca) df db sd))), (aI k (a 1) 3 (nF dn)), (aI k (a 4) 27 (sg se tm gs)), (aI k (a 2) 72 ffrees), (aI k (a 3) 72 fprices), (aI k (a 25) 4 (nF bm)), (aI k (a 26) 48 fbarSeen), (aI k (a 27) 48 fbarFrom), (aI k (a 28) 4 fruleRounds), (aI k (a 29) 52 ff3_118), (aI k (a 30) 52 fb3_118)] ∧ va_S A s.heap H locs ∧ lv_has ls 14 [(10, .int (nI qi_118 - 1)), (9, .int r_114), (8, .int x_79), (7, .int (nI q_74)), (6, .int bg_74), (5, .int x_72), (4, .int (nI (dn sn))), (0, .ref (a 0)), (1, .int (nI sn)), (2, .int (nI kr)), (3, .int (nI wh))]) (fun n_118 x_118 H locs ls hI ih_118 => ?_) _ (dn sn, ff2_116, fb_74) ⟨rfl, ⟨by omega, fun k hk _ => by rw [Nat.sub_self]; exact hv_116.2 k (by omega)⟩, hP, hD, hS, (lv_sub hl [0, 1, 2, 3, 4, 5, 6, 7, 8, 9, 10] rfl)⟩
          obtain ⟨qi_118, ff3_118, fb3_118⟩ := x_118
          obtain ⟨hm_118, hv_118, hP, hD, hS, hl⟩ := hI
          subst hm_118
          rcases qi_118 with _ | qi_118
          · rw [dn0] at hl
            refine lv_iload hx hb dX8_meanOf_127 (lv_at hl 0 rfl) ?_
            refine lv_if_lt (tgt := 275) hx hb dX8_meanOf_129 (by decide) (fun _ => ?_) (fun h => absurd (by decide) h)
            refine lv_aload_n hx hb dX8_meanOf_275 rfl (lv_at hl 7 rfl) ?_
            refine va_get (D := D) (ci := 8) (v := .ref (a 29)) (C := RX8) (T := TX8) (N := 44) hx hb hts inX8 hown hK hP 0 rfl rfl 28 (by decide) (hts _ tw_1001) (fun _ h9 => h9) rfl dX8_meanOf_276 ?_
            refine lv_iconst (v := 0) hx hb dX8_meanOf_279 (by decide) ?_
            refine va_iald hx hb hK hP 9 1 rfl rfl (by unfold vp_in; decide) dX8_meanOf_280 ?_
            refine lv_ti (y := (ff3_118 0)) (by rfl) ?_
            refine lv_istore (lv' := [(6, .int (ff3_118 0)), (10, .int (-1)), (9, .int r_114), (8, .int x_79), (7, .int (nI q_74)), (5, .int x_72), (4, .int (nI (dn sn))), (0, .ref (a 0)), (1, .int (nI sn)), (2, .int (nI kr)), (3, .int (nI wh))]) hx hb dX8_meanOf_281 hl (by decide) rfl (fun ls hl => ?_)
            refine lv_iinc (v := (nI q_74 - 1)) (lv' := [(7, .int (nI q_74 - 1)), (6, .int (ff3_118 0)), (10, .int (-1)), (9, .int r_114), (8, .int x_79), (5, .int x_72), (4, .int (nI (dn sn))), (0, .ref (a 0)), (1, .int (nI sn)), (2, .int (nI kr)), (3, .int (nI wh))]) hx hb dX8_meanOf_283 hl (k := 4) rfl (dn1 _) (by decide) rfl (fun ls hl => ?_)
            refine lv_goto (tgt := 34) hx hb dX8_meanOf_286 (by decide) ?_
            exact ih_74 _ (q_74, (ff3_118 0), ff3_118, fb3_118) _ _ _ (by omega) ⟨rfl, ⟨by omega, fun h => (show ff3_118 0 = mV (sdM dn (sg se tm gs) ffrees fprices sn) (ruM bm fbarSeen fbarFrom fruleRounds kr) wh q_74 r_114 (dn sn) 0 0 from hv_118.2 0 (by omega) (by omega)).trans (mr_of h (fun h => absurd h (by omega)) (fun _ => he_115))⟩, hP, hD, hS, (lv_sub hl [0, 1, 5, 6, 7, 8, 9, 10] rfl)⟩
          · rw [nI_pred] at hl
            refine lv_iload hx hb dX8_meanOf_127 (lv_at hl 0 rfl) ?_
            refine lv_if_lt (tgt := 275) hx hb dX8_meanOf_129 (by decide) (fun h => absurd h (nI_pos0 (by omega))) (fun _ => ?_)
            refine lv_iconst (v := 0) hx hb dX8_meanOf_132 (by decide) ?_
            refine lv_istore (lv' := [(11, .int 0), (10, .int (nI qi_118)), (9, .int r_114), (8, .int x_79), (7, .int (nI q_74)), (6, .int bg_74), (5, .int x_72), (4, .int (nI (dn sn))), (0, .ref (a 0)), (1, .int (nI sn)), (2, .int (nI kr)), (3, .int (nI wh))]) hx hb dX8_meanOf_133 hl (by decide) rfl (fun ls hl => ?_)
            refine W_loop (σ := Nat × (Nat → Int32)) (fun (n_ : Nat) (x_ : Nat × (Nat → Int32)) (H : Heap) (locs : List Loc) (ls : Array Slot) => match x_ with | (k2_119, fb4_119) => n_ = 50 - k2_119 ∧ (k2_119 ≤ 50 ∧ ∀ k, k < k2_119 → k / 2 + (dn sn - qi_118) ≤ 25 → fb4_119 k = mV (sdM dn (sg se tm gs) ffrees fprices sn) (ruM bm fbarSeen fbarFrom fruleRounds kr) wh q_74 r_114 (dn sn - qi_118) (k / 2) (k % 2)) ∧ va_P D classes [((a 0), .inr (8, (fX8 a (nI tx) fp (nI t0) wd (nI we) nu na (nI rd) ts (nI ru) (nI rw) (nI ca) df db sd))), (aI k (a 1) 3 (nF dn)), (aI k (a 4) 27 (sg se tm gs)), (aI k (a 2) 72 ffrees), (aI k (a 3) 72 fprices), (aI k (a 25) 4 (nF bm)), (aI k (a 26) 48 fbarSeen), (aI k (a 27) 48 fbarFrom), (aI k (a 28) 4 fruleRounds), (aI k (a 29) 52 ff3_118), (aI k (a 30) 52 fb4_119)] H ∧ va_D A [((a 0), .inr (8, (fX8 a (nI tx) fp (nI t0) wd (nI we) nu na (nI rd) ts (nI ru) (nI rw) (nI ca) df db sd))), (aI k (a 1) 3 (nF dn)), (aI k (a 4) 27 (sg se tm gs)), (aI k (a 2) 72 ffrees), (aI k (a 3) 72 fprices), (aI k (a 25) 4 (nF bm)), (aI k (a 26) 48 fbarSeen), (aI k (a 27) 48 fbarFrom), (aI k (a 28) 4 fruleRounds), (aI k (a 29) 52 ff3_118), (aI k (a 30) 52 fb4_119)] ∧ va_S A s.heap H locs ∧ lv_has ls 14 [(11, .int (nI k2_119)), (10, .int (nI qi_118)), (9, .int r_114), (8, .int x_79), (7, .int (nI q_74)), (6, .int bg_74), (5, .int x_72), (4, .int (nI (dn sn))), (0, .ref (a 0)), (1, .int (nI sn)), (2, .int (nI kr)), (3, .int (nI wh))]) (fun n_119 x_119 H locs ls hI ih_119 => ?_) _ (0, fb3_118) ⟨rfl, ⟨by omega, fun k h => absurd h (Nat.not_lt_zero k)⟩, hP, hD, hS, (lv_sub hl [0, 1, 2, 3, 4, 5, 6, 7, 8, 9, 10, 11] rfl)⟩
            obtain ⟨k2_119, fb4_119⟩ := x_119
            obtain ⟨hm_119, hv_119, hP, hD, hS, hl⟩ := hI
            subst hm_119
            refine lv_iload hx hb dX8_meanOf_135 (lv_at hl 0 rfl) ?_
            refine lv_bipush (v := 50) hx hb dX8_meanOf_137 (by decide) ?_
            refine lv_icmp_ge (tgt := 239) hx hb dX8_meanOf_139 (by decide) (fun c_120 => ?_) (fun c_120 => ?_)
            · have c_120 := (nI_leI (a := 50) (b := k2_119) (by omega) (by omega)).mp c_120
              refine lv_iconst (v := 0) hx hb dX8_meanOf_239 (by decide) ?_
              refine lv_istore (lv' := [(11, .int 0), (10, .int (nI qi_118)), (9, .int r_114), (8, .int x_79), (7, .int (nI q_74)), (6, .int bg_74), (5, .int x_72), (4, .int (nI (dn sn))), (0, .ref (a 0)), (1, .int (nI sn)), (2, .int (nI kr)), (3, .int (nI wh))]) hx hb dX8_meanOf_240 hl (by decide) rfl (fun ls hl => ?_)
              refine W_loop (σ := Nat × (Nat → Int32)) (fun (n_ : Nat) (x_ : Nat × (Nat → Int32)) (H : Heap) (locs : List Loc) (ls : Array Slot) => match x_ with | (k3_121, ff5_121) => n_ = 50 - k3_121 ∧ (k3_121 ≤ 50 ∧ (∀ k, k < k3_121 → k / 2 + (dn sn - qi_118) ≤ 25 → ff5_121 k = mV (sdM dn (sg se tm gs) ffrees fprices sn) (ruM bm fbarSeen fbarFrom fruleRounds kr) wh q_74 r_114 (dn sn - qi_118) (k / 2) (k % 2)) ∧ True) ∧ va_P D classes [((a 0), .inr (8, (fX8 a (nI tx) fp (nI t0) wd (nI we) nu na (nI rd) ts (nI ru) (nI rw) (nI ca) df db sd))), (aI k (a 1) 3 (nF dn)), (aI k (a 4) 27 (sg se tm gs)), (aI k (a 2) 72 ffrees), (aI k (a 3) 72 fprices), (aI k (a 25) 4 (nF bm)), (aI k (a 26) 48 fbarSeen), (aI k (a 27) 48 fbarFrom), (aI k (a 28) 4 fruleRounds), (aI k (a 29) 52 ff5_121), (aI k (a 30) 52 fb4_119)] H ∧ va_D A [((a 0), .inr (8, (fX8 a (nI tx) fp (nI t0) wd (nI we) nu na (nI rd) ts (nI ru) (nI rw) (nI ca) df db sd))), (aI k (a 1) 3 (nF dn)), (aI k (a 4) 27 (sg se tm gs)), (aI k (a 2) 72 ffrees), (aI k (a 3) 72 fprices), (aI k (a 25) 4 (nF bm)), (aI k (a 26) 48 fbarSeen), (aI k (a 27) 48 fbarFrom), (aI k (a 28) 4 fruleRounds), (aI k (a 29) 52 ff5_121), (aI k (a 30) 52 fb4_119)] ∧ va_S A s.heap H locs ∧ lv_has ls 14 [(11, .int (nI k3_121)), (10, .int (nI qi_118)), (9, .int r_114), (8, .int x_79), (7, .int (nI q_74)), (6, .int bg_74), (5, .int x_72), (4, .int (nI (dn sn))), (0, .ref (a 0)), (1, .int (nI sn)), (2, .int (nI kr)), (3, .int (nI wh))]) (fun n_121 x_121 H locs ls hI ih_121 => ?_) _ (0, ff3_118) ⟨rfl, ⟨by omega, fun k h => absurd h (Nat.not_lt_zero k), trivial⟩, hP, hD, hS, (lv_sub hl [0, 1, 2, 3, 4, 5, 6, 7, 8, 9, 10, 11] rfl)⟩
              obtain ⟨k3_121, ff5_121⟩ := x_121
              obtain ⟨hm_121, hv_121, hP, hD, hS, hl⟩ := hI
              subst hm_121
              refine lv_iload hx hb dX8_meanOf_242 (lv_at hl 0 rfl) ?_
              refine lv_bipush (v := 50) hx hb dX8_meanOf_244 (by decide) ?_
              refine lv_icmp_ge (tgt := 269) hx hb dX8_meanOf_246 (by decide) (fun c_122 => ?_) (fun c_122 => ?_)
              · have c_122 := (nI_leI (a := 50) (b := k3_121) (by omega) (by omega)).mp c_122
                refine lv_iinc (v := (nI qi_118 - 1)) (lv' := [(10, .int (nI qi_118 - 1)), (11, .int (nI k3_121)), (9, .int r_114), (8, .int x_79), (7, .int (nI q_74)), (6, .int bg_74), (5, .int x_72), (4, .int (nI (dn sn))), (0, .ref (a 0)), (1, .int (nI sn)), (2, .int (nI kr)), (3, .int (nI wh))]) hx hb dX8_meanOf_269 hl (k := 1) rfl (dn1 _) (by decide) rfl (fun ls hl => ?_)
                refine lv_goto (tgt := 127) hx hb dX8_meanOf_272 (by decide) ?_
                exact ih_118 _ (qi_118, ff5_121, fb4_119) _ _ _ (by omega) ⟨rfl, ⟨by omega, fun k hk hp => hv_121.2.1 k (by omega) hp⟩, hP, hD, hS, (lv_sub hl [0, 2, 3, 4, 5, 6, 7, 8, 9, 10, 11] rfl)⟩
              · have c_122 : ¬ (50 ≤ k3_121) := fun h => c_122 ((nI_leI (a := 50) (b := k3_121) (by omega) (by omega)).mpr h)
                refine lv_aload_n hx hb dX8_meanOf_249 rfl (lv_at hl 8 rfl) ?_
                refine va_get (D := D) (ci := 8) (v := .ref (a 29)) (C := RX8) (T := TX8) (N := 44) hx hb hts inX8 hown hK hP 0 rfl rfl 28 (by decide) (hts _ tw_1001) (fun _ h9 => h9) rfl dX8_meanOf_250 ?_
                refine lv_iload hx hb dX8_meanOf_253 (lv_at hl 0 rfl) ?_
                refine lv_aload_n hx hb dX8_meanOf_255 rfl (lv_at hl 8 rfl) ?_
                refine va_get (D := D) (ci := 8) (v := .ref (a 30)) (C := RX8) (T := TX8) (N := 44) hx hb hts inX8 hown hK hP 0 rfl rfl 29 (by decide) (hts _ tw_1002) (fun _ h9 => h9) rfl dX8_meanOf_256 ?_
                refine lv_iload hx hb dX8_meanOf_259 (lv_at hl 0 rfl) ?_
                refine va_iald hx hb hK hP 10 1 rfl rfl (vp_in_nI (by omega) (by decide)) dX8_meanOf_261 ?_
                refine lv_ti (y := (fb4_119 k3_121)) (by rw [nI_clamp (by omega)]) ?_
                refine va_iast hx hb hK hP hD hS 9 1 rfl rfl (vp_in_nI (by omega) (by decide)) dX8_meanOf_262 (fun H locs hP hD hS => ?_)
                replace hP : va_P D classes [((a 0), .inr (8, (fX8 a (nI tx) fp (nI t0) wd (nI we) nu na (nI rd) ts (nI ru) (nI rw) (nI ca) df db sd))), (aI k (a 1) 3 (nF dn)), (aI k (a 4) 27 (sg se tm gs)), (aI k (a 2) 72 ffrees), (aI k (a 3) 72 fprices), (aI k (a 25) 4 (nF bm)), (aI k (a 26) 48 fbarSeen), (aI k (a 27) 48 fbarFrom), (aI k (a 28) 4 fruleRounds), (aI k (a 29) 52 (upd ff5_121 (Int32.toNatClampNeg (nI k3_121)) (fb4_119 k3_121))), (aI k (a 30) 52 fb4_119)] H := hP
                replace hD : va_D A [((a 0), .inr (8, (fX8 a (nI tx) fp (nI t0) wd (nI we) nu na (nI rd) ts (nI ru) (nI rw) (nI ca) df db sd))), (aI k (a 1) 3 (nF dn)), (aI k (a 4) 27 (sg se tm gs)), (aI k (a 2) 72 ffrees), (aI k (a 3) 72 fprices), (aI k (a 25) 4 (nF bm)), (aI k (a 26) 48 fbarSeen), (aI k (a 27) 48 fbarFrom), (aI k (a 28) 4 fruleRounds), (aI k (a 29) 52 (upd ff5_121 (Int32.toNatClampNeg (nI k3_121)) (fb4_119 k3_121))), (aI k (a 30) 52 fb4_119)] := hD
                rw [nI_clamp (n := k3_121) (by omega)] at hP hD
                replace hP : va_P D classes [((a 0), .inr (8, (fX8 a (nI tx) fp (nI t0) wd (nI we) nu na (nI rd) ts (nI ru) (nI rw) (nI ca) df db sd))), (aI k (a 1) 3 (nF dn)), (aI k (a 4) 27 (sg se tm gs)), (aI k (a 2) 72 ffrees), (aI k (a 3) 72 fprices), (aI k (a 25) 4 (nF bm)), (aI k (a 26) 48 fbarSeen), (aI k (a 27) 48 fbarFrom), (aI k (a 28) 4 fruleRounds), (aI k (a 29) 52 (upd ff5_121 k3_121 (fb4_119 k3_121))), (aI k (a 30) 52 fb4_119)] H := hP
                replace hD : va_D A [((a 0), .inr (8, (fX8 a (nI tx) fp (nI t0) wd (nI we) nu na (nI rd) ts (nI ru) (nI rw) (nI ca) df db sd))), (aI k (a 1) 3 (nF dn)), (aI k (a 4) 27 (sg se tm gs)), (aI k (a 2) 72 ffrees), (aI k (a 3) 72 fprices), (aI k (a 25) 4 (nF bm)), (aI k (a 26) 48 fbarSeen), (aI k (a 27) 48 fbarFrom), (aI k (a 28) 4 fruleRounds), (aI k (a 29) 52 (upd ff5_121 k3_121 (fb4_119 k3_121))), (aI k (a 30) 52 fb4_119)] := hD
                refine lv_iinc (v := (nI (k3_121 + 1))) (lv' := [(11, .int (nI (k3_121 + 1))), (10, .int (nI qi_118)), (9, .int r_114), (8, .int x_79), (7, .int (nI q_74)), (6, .int bg_74), (5, .int x_72), (4, .int (nI (dn sn))), (0, .ref (a 0)), (1, .int (nI sn)), (2, .int (nI kr)), (3, .int (nI wh))]) hx hb dX8_meanOf_263 hl (k := 0) rfl (nI_add k3_121 1) (by decide) rfl (fun ls hl => ?_)
                refine lv_goto (tgt := 242) hx hb dX8_meanOf_266 (by decide) ?_
                exact ih_121 _ (k3_121 + 1, (upd ff5_121 k3_121 (fb4_119 k3_121))) _ _ _ (by omega) ⟨rfl, ⟨by omega, la_updc (F := fun k => mV (sdM dn (sg se tm gs) ffrees fprices sn) (ruM bm fbarSeen fbarFrom fruleRounds kr) wh q_74 r_114 (dn sn - qi_118) (k / 2) (k % 2)) (P := fun k => k / 2 + (dn sn - qi_118) ≤ 25) hv_121.2.1 (hv_119.2 k3_121 (by omega)), trivial⟩, hP, hD, hS, (lv_sub hl [0, 1, 2, 3, 4, 5, 6, 7, 8, 9, 10, 11] rfl)⟩
            · have c_120 : ¬ (50 ≤ k2_119) := fun h => c_120 ((nI_leI (a := 50) (b := k2_119) (by omega) (by omega)).mpr h)
              refine lv_iload hx hb dX8_meanOf_142 (lv_at hl 0 rfl) ?_
              refine lv_iconst (v := 2) hx hb dX8_meanOf_144 (by decide) ?_
              refine lv_idiv hx hb dX8_meanOf_145 (by decide) ?_
              refine lv_ti (y := (nI (k2_119 / 2))) (pk_div (by omega) (by decide) (by decide)) ?_
              refine lv_istore (lv' := [(12, .int (nI (k2_119 / 2))), (11, .int (nI k2_119)), (10, .int (nI qi_118)), (9, .int r_114), (8, .int x_79), (7, .int (nI q_74)), (6, .int bg_74), (5, .int x_72), (4, .int (nI (dn sn))), (0, .ref (a 0)), (1, .int (nI sn)), (2, .int (nI kr)), (3, .int (nI wh))]) hx hb dX8_meanOf_146 hl (by decide) rfl (fun ls hl => ?_)
              refine lv_aload_n hx hb dX8_meanOf_148 rfl (lv_at hl 9 rfl) ?_
              refine lv_iload_n hx hb dX8_meanOf_149 rfl (lv_at hl 11 rfl) ?_
              refine lv_iload hx hb dX8_meanOf_150 (lv_at hl 2 rfl) ?_
              refine lv_iload hx hb dX8_meanOf_152 (lv_at hl 0 rfl) ?_
              refine ro_i (D := D) (va_runV (As := [.int (nI kr), .int (nI qi_118), .int (nI (k2_119 / 2))]) (rest := []) ⟨hx, hb, hml, hown, hts⟩ ((n_isFor l D k st lo a tx t0 we rd ru rw ca fp wd nu na ts df db sd bm fbarSeen fbarFrom fruleRounds kr qi_118 (k2_119 / 2) hbm (by first | assumption | omega)) H.size) (cwV 3 hts (gV tw_1338 tw_1340 tw_61 tw_87 tw_1341) rfl rfl rfl (by decide +kernel) ⟨Nat.le_of_ble_eq_true rfl, Nat.le_of_ble_eq_true rfl⟩) (pV hS hAlo hlo hP hK (va_Dlo hD hAlo) hZ [0, 5, 6, 7, 8] (by decide) rfl (ci := 8) (q := (RX8, TX8, 44)) (q0 := 0) rfl rfl) rfl rfl hl.1 rfl (lv_room (Nat.le_of_ble_eq_true rfl)) dX8_meanOf_154 ⟨Nat.le_of_ble_eq_true rfl, Nat.le_of_ble_eq_true rfl⟩) hS hA hP (fun r_124 H locs hw_124 hP hS => ?_)
              try dsimp only at hw_124
              rcases hw_124 with ⟨rfl, hw_124⟩ | ⟨rfl, hw_124⟩
              · refine lv_if_eq (tgt := 173) hx hb dX8_meanOf_157 (by decide) (fun h => absurd h (by decide)) (fun _ => ?_)
                refine lv_aload_n hx hb dX8_meanOf_160 rfl (lv_at hl 9 rfl) ?_
                refine lv_iload_n hx hb dX8_meanOf_161 rfl (lv_at hl 10 rfl) ?_
                refine lv_iload hx hb dX8_meanOf_162 (lv_at hl 5 rfl) ?_
                refine lv_iload hx hb dX8_meanOf_164 (lv_at hl 2 rfl) ?_
                refine lv_iload_n hx hb dX8_meanOf_166 rfl (lv_at hl 12 rfl) ?_
                refine ro_i (D := D) (va_runV (As := [.int (nI sn), .int (nI q_74), .int (nI qi_118), .int (nI wh)]) (rest := []) ⟨hx, hb, hml, hown, hts⟩ ((n_byTaking l D k st lo a tx t0 we rd ru rw ca fp wd nu na ts df db sd dn se tm gs fprices sn qi_118 (nI q_74) (nI wh) (by first | assumption | omega) (by first | assumption | omega)) H.size) (cwV 4 hts (gV tw_1342 tw_1344 tw_62 tw_87 tw_1345) rfl rfl rfl (by decide +kernel) ⟨Nat.le_of_ble_eq_true rfl, Nat.le_of_ble_eq_true rfl⟩) (pV hS hAlo hlo hP hK (va_Dlo hD hAlo) hZ [0, 1, 2, 4] (by decide) rfl (ci := 8) (q := (RX8, TX8, 44)) (q0 := 0) rfl rfl) rfl rfl hl.1 rfl (lv_room (Nat.le_of_ble_eq_true rfl)) dX8_meanOf_167 ⟨Nat.le_of_ble_eq_true rfl, Nat.le_of_ble_eq_true rfl⟩) hS hA hP (fun r_125 H locs hw_125 hP hS => ?_)
                try dsimp only at hw_125
                refine lv_goto (tgt := 187) hx hb dX8_meanOf_170 (by decide) ?_
                refine lv_istore (lv' := [(13, .int r_125), (12, .int (nI (k2_119 / 2))), (11, .int (nI k2_119)), (10, .int (nI qi_118)), (9, .int r_114), (8, .int x_79), (7, .int (nI q_74)), (6, .int bg_74), (5, .int x_72), (4, .int (nI (dn sn))), (0, .ref (a 0)), (1, .int (nI sn)), (2, .int (nI kr)), (3, .int (nI wh))]) hx hb dX8_meanOf_187 hl (by decide) rfl (fun ls hl => ?_)
                refine lv_aload_n hx hb dX8_meanOf_189 rfl (lv_at hl 10 rfl) ?_
                refine va_get (D := D) (ci := 8) (v := .ref (a 30)) (C := RX8) (T := TX8) (N := 44) hx hb hts inX8 hown hK hP 0 rfl rfl 29 (by decide) (hts _ tw_1002) (fun _ h9 => h9) rfl dX8_meanOf_190 ?_
                refine lv_iload hx hb dX8_meanOf_193 (lv_at hl 2 rfl) ?_
                refine lv_aload_n hx hb dX8_meanOf_195 rfl (lv_at hl 10 rfl) ?_
                refine lv_iload_n hx hb dX8_meanOf_196 rfl (lv_at hl 11 rfl) ?_
                refine lv_iload hx hb dX8_meanOf_197 (lv_at hl 3 rfl) ?_
                refine lv_iload hx hb dX8_meanOf_199 (lv_at hl 2 rfl) ?_
                refine lv_iconst (v := 2) hx hb dX8_meanOf_201 (by decide) ?_
                refine lv_irem hx hb dX8_meanOf_202 (by decide) ?_
                refine lv_ti (y := (nI (k2_119 % 2))) (pk_rem (by omega) (by decide) (by decide)) ?_
                refine lv_iconst (v := 1) hx hb dX8_meanOf_203 (by decide) ?_
                refine lv_icmp_ne (tgt := 211) hx hb dX8_meanOf_204 (by decide) (fun c_126 => ?_) (fun c_126 => ?_)
                · have c_126 : ¬ ((k2_119 % 2) = 1) := fun h => c_126 ((nI_eq (a := (k2_119 % 2)) (b := 1) (by omega) (by omega)).mpr h)
                  refine lv_iconst (v := 0) hx hb dX8_meanOf_211 (by decide) ?_
                  refine ro_i (D := D) (va_runV (As := [.int (nI sn), .int (nI qi_118), .int 0]) (rest := [.int (nI k2_119), .ref (a 30)]) ⟨hx, hb, hml, hown, hts⟩ ((n_chanceOf l D k st lo a tx t0 we rd ru rw ca fp wd nu na ts df db sd ffrees se tm gs sn qi_118 0 (by first | assumption | omega) (by first | assumption | omega)) H.size) (cwV 3 hts (gV tw_1210 tw_1212 tw_41 tw_87 tw_1213) rfl rfl rfl (by decide +kernel) ⟨Nat.le_of_ble_eq_true rfl, Nat.le_of_ble_eq_true rfl⟩) (pV hS hAlo hlo hP hK (va_Dlo hD hAlo) hZ [0, 3, 2] (by decide) rfl (ci := 8) (q := (RX8, TX8, 44)) (q0 := 0) rfl rfl) rfl rfl hl.1 rfl (lv_room (Nat.le_of_ble_eq_true rfl)) dX8_meanOf_212 ⟨Nat.le_of_ble_eq_true rfl, Nat.le_of_ble_eq_true rfl⟩) hS hA hP (fun r_127 H locs hw_127 hP hS => ?_)
                  try dsimp only at hw_127
                  refine lv_iload hx hb dX8_meanOf_215 (lv_at hl 0 rfl) ?_
                  refine lv_iload hx hb dX8_meanOf_217 (lv_at hl 8 rfl) ?_
                  refine lv_aload_n hx hb dX8_meanOf_219 rfl (lv_at hl 10 rfl) ?_
                  refine va_get (D := D) (ci := 8) (v := .ref (a 29)) (C := RX8) (T := TX8) (N := 44) hx hb hts inX8 hown hK hP 0 rfl rfl 28 (by decide) (hts _ tw_1001) (fun _ h9 => h9) rfl dX8_meanOf_220 ?_
                  refine lv_iconst (v := 2) hx hb dX8_meanOf_223 (by decide) ?_
                  refine lv_iload hx hb dX8_meanOf_224 (lv_at hl 1 rfl) ?_
                  refine lv_imul hx hb dX8_meanOf_226 ?_
                  refine lv_ti (y := (nI (2 * (k2_119 / 2)))) (pk_mul 2 (k2_119 / 2)) ?_
                  refine va_iald hx hb hK hP 9 1 rfl rfl (vp_in_nI (by omega) (by decide)) dX8_meanOf_227 ?_
                  refine lv_ti (y := (ff3_118 (2 * (k2_119 / 2)))) (by rw [nI_clamp (by omega)]) ?_
                  refine lv_iadd hx hb dX8_meanOf_228 ?_
                  refine lv_topi (fun x_128 ex_128 => ?_)
                  refine ro_i (D := D) (va_runS (As := [.int r_127, .int r_125, .int x_128]) (rest := [.int (nI k2_119), .ref (a 30)]) ⟨hx, hb, hml, hown, hts⟩ ((n_mixed l D k st lo r_127 r_125 x_128) H.size) (va_cwS 3 hts (gS tw_1269 tw_1270 tw_87 tw_1271) rfl rfl rfl (by decide +kernel) ⟨Nat.le_of_ble_eq_true rfl, Nat.le_of_ble_eq_true rfl⟩) (pS hS hAlo hlo hP hK (va_Dlo hD hAlo) hZ [] (by decide) rfl) rfl rfl hl.1 rfl (lv_room (Nat.le_of_ble_eq_true rfl)) dX8_meanOf_229 ⟨Nat.le_of_ble_eq_true rfl, Nat.le_of_ble_eq_true rfl⟩) hS hA hP (fun r_129 H locs hw_129 hP hS => ?_)
                  try dsimp only at hw_129
                  refine va_iast hx hb hK hP hD hS 10 1 rfl rfl (vp_in_nI (by omega) (by decide)) dX8_meanOf_232 (fun H locs hP hD hS => ?_)
                  replace hP : va_P D classes [((a 0), .inr (8, (fX8 a (nI tx) fp (nI t0) wd (nI we) nu na (nI rd) ts (nI ru) (nI rw) (nI ca) df db sd))), (aI k (a 1) 3 (nF dn)), (aI k (a 4) 27 (sg se tm gs)), (aI k (a 2) 72 ffrees), (aI k (a 3) 72 fprices), (aI k (a 25) 4 (nF bm)), (aI k (a 26) 48 fbarSeen), (aI k (a 27) 48 fbarFrom), (aI k (a 28) 4 fruleRounds), (aI k (a 29) 52 ff3_118), (aI k (a 30) 52 (upd fb4_119 (Int32.toNatClampNeg (nI k2_119)) r_129))] H := hP
                  replace hD : va_D A [((a 0), .inr (8, (fX8 a (nI tx) fp (nI t0) wd (nI we) nu na (nI rd) ts (nI ru) (nI rw) (nI ca) df db sd))), (aI k (a 1) 3 (nF dn)), (aI k (a 4) 27 (sg se tm gs)), (aI k (a 2) 72 ffrees), (aI k (a 3) 72 fprices), (aI k (a 25) 4 (nF bm)), (aI k (a 26) 48 fbarSeen), (aI k (a 27) 48 fbarFrom), (aI k (a 28) 4 fruleRounds), (aI k (a 29) 52 ff3_118), (aI k (a 30) 52 (upd fb4_119 (Int32.toNatClampNeg (nI k2_119)) r_129))] := hD
                  rw [nI_clamp (n := k2_119) (by omega)] at hP hD
                  replace hP : va_P D classes [((a 0), .inr (8, (fX8 a (nI tx) fp (nI t0) wd (nI we) nu na (nI rd) ts (nI ru) (nI rw) (nI ca) df db sd))), (aI k (a 1) 3 (nF dn)), (aI k (a 4) 27 (sg se tm gs)), (aI k (a 2) 72 ffrees), (aI k (a 3) 72 fprices), (aI k (a 25) 4 (nF bm)), (aI k (a 26) 48 fbarSeen), (aI k (a 27) 48 fbarFrom), (aI k (a 28) 4 fruleRounds), (aI k (a 29) 52 ff3_118), (aI k (a 30) 52 (upd fb4_119 k2_119 r_129))] H := hP
                  replace hD : va_D A [((a 0), .inr (8, (fX8 a (nI tx) fp (nI t0) wd (nI we) nu na (nI rd) ts (nI ru) (nI rw) (nI ca) df db sd))), (aI k (a 1) 3 (nF dn)), (aI k (a 4) 27 (sg se tm gs)), (aI k (a 2) 72 ffrees), (aI k (a 3) 72 fprices), (aI k (a 25) 4 (nF bm)), (aI k (a 26) 48 fbarSeen), (aI k (a 27) 48 fbarFrom), (aI k (a 28) 4 fruleRounds), (aI k (a 29) 52 ff3_118), (aI k (a 30) 52 (upd fb4_119 k2_119 r_129))] := hD
                  refine lv_iinc (v := (nI (k2_119 + 1))) (lv' := [(11, .int (nI (k2_119 + 1))), (13, .int r_125), (12, .int (nI (k2_119 / 2))), (10, .int (nI qi_118)), (9, .int r_114), (8, .int x_79), (7, .int (nI q_74)), (6, .int bg_74), (5, .int x_72), (4, .int (nI (dn sn))), (0, .ref (a 0)), (1, .int (nI sn)), (2, .int (nI kr)), (3, .int (nI wh))]) hx hb dX8_meanOf_233 hl (k := 2) rfl (nI_add k2_119 1) (by decide) rfl (fun ls hl => ?_)
                  refine lv_goto (tgt := 135) hx hb dX8_meanOf_236 (by decide) ?_
                  have hx_119 : (k2_119 / 2) + (dn sn - qi_118) ≤ 25 → r_129 = mV (sdM dn (sg se tm gs) ffrees fprices sn) (ruM bm fbarSeen fbarFrom fruleRounds kr) wh q_74 r_114 (dn sn - qi_118) (k2_119 / 2) (k2_119 % 2) := fun hk => mv_v (d := (sdM dn (sg se tm gs) ffrees fprices sn)) (u := (ruM bm fbarSeen fbarFrom fruleRounds kr)) (wh := wh) (r := q_74) (E := r_114) (p := (k2_119 / 2)) (a := k2_119 % 2) (show qi_118 < dn sn by omega) (show _ = pChance (sdM dn (sg se tm gs) ffrees fprices sn) qi_118 (nI (k2_119 % 2)) from by rw [show k2_119 % 2 = 0 by omega]; exact hw_127.trans (mChance (fpr := fprices) (show qi_118 < dn sn by omega))) (by rw [if_pos hw_124]; exact hw_125.trans (mByT hg9 (by omega) (by omega) (by omega) (by omega))) (by rw [← hps_73, ex_128]; exact congrArg (fun z => x_72 + z) (by have h9 := hv_118.2 (2 * (k2_119 / 2)) (by omega) (by omega); rw [show (2 * (k2_119 / 2)) / 2 = (k2_119 / 2) by omega, show (2 * (k2_119 / 2)) % 2 = 0 by omega] at h9; exact h9)) hw_129
                  exact ih_119 _ (k2_119 + 1, (upd fb4_119 k2_119 r_129)) _ _ _ (by omega) ⟨rfl, ⟨by omega, la_updc (F := fun k => mV (sdM dn (sg se tm gs) ffrees fprices sn) (ruM bm fbarSeen fbarFrom fruleRounds kr) wh q_74 r_114 (dn sn - qi_118) (k / 2) (k % 2)) (P := fun k => k / 2 + (dn sn - qi_118) ≤ 25) hv_119.2 hx_119⟩, hP, hD, hS, (lv_sub hl [0, 3, 4, 5, 6, 7, 8, 9, 10, 11, 12, 13] rfl)⟩
                · have c_126 := (nI_eq (a := (k2_119 % 2)) (b := 1) (by omega) (by omega)).mp c_126
                  refine lv_iconst (v := 1) hx hb dX8_meanOf_207 (by decide) ?_
                  refine lv_goto (tgt := 212) hx hb dX8_meanOf_208 (by decide) ?_
                  refine ro_i (D := D) (va_runV (As := [.int (nI sn), .int (nI qi_118), .int 1]) (rest := [.int (nI k2_119), .ref (a 30)]) ⟨hx, hb, hml, hown, hts⟩ ((n_chanceOf l D k st lo a tx t0 we rd ru rw ca fp wd nu na ts df db sd ffrees se tm gs sn qi_118 1 (by first | assumption | omega) (by first | assumption | omega)) H.size) (cwV 3 hts (gV tw_1210 tw_1212 tw_41 tw_87 tw_1213) rfl rfl rfl (by decide +kernel) ⟨Nat.le_of_ble_eq_true rfl, Nat.le_of_ble_eq_true rfl⟩) (pV hS hAlo hlo hP hK (va_Dlo hD hAlo) hZ [0, 3, 2] (by decide) rfl (ci := 8) (q := (RX8, TX8, 44)) (q0 := 0) rfl rfl) rfl rfl hl.1 rfl (lv_room (Nat.le_of_ble_eq_true rfl)) dX8_meanOf_212 ⟨Nat.le_of_ble_eq_true rfl, Nat.le_of_ble_eq_true rfl⟩) hS hA hP (fun r_131 H locs hw_131 hP hS => ?_)
                  try dsimp only at hw_131
                  refine lv_iload hx hb dX8_meanOf_215 (lv_at hl 0 rfl) ?_
                  refine lv_iload hx hb dX8_meanOf_217 (lv_at hl 8 rfl) ?_
                  refine lv_aload_n hx hb dX8_meanOf_219 rfl (lv_at hl 10 rfl) ?_
                  refine va_get (D := D) (ci := 8) (v := .ref (a 29)) (C := RX8) (T := TX8) (N := 44) hx hb hts inX8 hown hK hP 0 rfl rfl 28 (by decide) (hts _ tw_1001) (fun _ h9 => h9) rfl dX8_meanOf_220 ?_
                  refine lv_iconst (v := 2) hx hb dX8_meanOf_223 (by decide) ?_
                  refine lv_iload hx hb dX8_meanOf_224 (lv_at hl 1 rfl) ?_
                  refine lv_imul hx hb dX8_meanOf_226 ?_
                  refine lv_ti (y := (nI (2 * (k2_119 / 2)))) (pk_mul 2 (k2_119 / 2)) ?_
                  refine va_iald hx hb hK hP 9 1 rfl rfl (vp_in_nI (by omega) (by decide)) dX8_meanOf_227 ?_
                  refine lv_ti (y := (ff3_118 (2 * (k2_119 / 2)))) (by rw [nI_clamp (by omega)]) ?_
                  refine lv_iadd hx hb dX8_meanOf_228 ?_
                  refine lv_topi (fun x_132 ex_132 => ?_)
                  refine ro_i (D := D) (va_runS (As := [.int r_131, .int r_125, .int x_132]) (rest := [.int (nI k2_119), .ref (a 30)]) ⟨hx, hb, hml, hown, hts⟩ ((n_mixed l D k st lo r_131 r_125 x_132) H.size) (va_cwS 3 hts (gS tw_1269 tw_1270 tw_87 tw_1271) rfl rfl rfl (by decide +kernel) ⟨Nat.le_of_ble_eq_true rfl, Nat.le_of_ble_eq_true rfl⟩) (pS hS hAlo hlo hP hK (va_Dlo hD hAlo) hZ [] (by decide) rfl) rfl rfl hl.1 rfl (lv_room (Nat.le_of_ble_eq_true rfl)) dX8_meanOf_229 ⟨Nat.le_of_ble_eq_true rfl, Nat.le_of_ble_eq_true rfl⟩) hS hA hP (fun r_133 H locs hw_133 hP hS => ?_)
                  try dsimp only at hw_133
                  refine va_iast hx hb hK hP hD hS 10 1 rfl rfl (vp_in_nI (by omega) (by decide)) dX8_meanOf_232 (fun H locs hP hD hS => ?_)
                  replace hP : va_P D classes [((a 0), .inr (8, (fX8 a (nI tx) fp (nI t0) wd (nI we) nu na (nI rd) ts (nI ru) (nI rw) (nI ca) df db sd))), (aI k (a 1) 3 (nF dn)), (aI k (a 4) 27 (sg se tm gs)), (aI k (a 2) 72 ffrees), (aI k (a 3) 72 fprices), (aI k (a 25) 4 (nF bm)), (aI k (a 26) 48 fbarSeen), (aI k (a 27) 48 fbarFrom), (aI k (a 28) 4 fruleRounds), (aI k (a 29) 52 ff3_118), (aI k (a 30) 52 (upd fb4_119 (Int32.toNatClampNeg (nI k2_119)) r_133))] H := hP
                  replace hD : va_D A [((a 0), .inr (8, (fX8 a (nI tx) fp (nI t0) wd (nI we) nu na (nI rd) ts (nI ru) (nI rw) (nI ca) df db sd))), (aI k (a 1) 3 (nF dn)), (aI k (a 4) 27 (sg se tm gs)), (aI k (a 2) 72 ffrees), (aI k (a 3) 72 fprices), (aI k (a 25) 4 (nF bm)), (aI k (a 26) 48 fbarSeen), (aI k (a 27) 48 fbarFrom), (aI k (a 28) 4 fruleRounds), (aI k (a 29) 52 ff3_118), (aI k (a 30) 52 (upd fb4_119 (Int32.toNatClampNeg (nI k2_119)) r_133))] := hD
                  rw [nI_clamp (n := k2_119) (by omega)] at hP hD
                  replace hP : va_P D classes [((a 0), .inr (8, (fX8 a (nI tx) fp (nI t0) wd (nI we) nu na (nI rd) ts (nI ru) (nI rw) (nI ca) df db sd))), (aI k (a 1) 3 (nF dn)), (aI k (a 4) 27 (sg se tm gs)), (aI k (a 2) 72 ffrees), (aI k (a 3) 72 fprices), (aI k (a 25) 4 (nF bm)), (aI k (a 26) 48 fbarSeen), (aI k (a 27) 48 fbarFrom), (aI k (a 28) 4 fruleRounds), (aI k (a 29) 52 ff3_118), (aI k (a 30) 52 (upd fb4_119 k2_119 r_133))] H := hP
                  replace hD : va_D A [((a 0), .inr (8, (fX8 a (nI tx) fp (nI t0) wd (nI we) nu na (nI rd) ts (nI ru) (nI rw) (nI ca) df db sd))), (aI k (a 1) 3 (nF dn)), (aI k (a 4) 27 (sg se tm gs)), (aI k (a 2) 72 ffrees), (aI k (a 3) 72 fprices), (aI k (a 25) 4 (nF bm)), (aI k (a 26) 48 fbarSeen), (aI k (a 27) 48 fbarFrom), (aI k (a 28) 4 fruleRounds), (aI k (a 29) 52 ff3_118), (aI k (a 30) 52 (upd fb4_119 k2_119 r_133))] := hD
                  refine lv_iinc (v := (nI (k2_119 + 1))) (lv' := [(11, .int (nI (k2_119 + 1))), (13, .int r_125), (12, .int (nI (k2_119 / 2))), (10, .int (nI qi_118)), (9, .int r_114), (8, .int x_79), (7, .int (nI q_74)), (6, .int bg_74), (5, .int x_72), (4, .int (nI (dn sn))), (0, .ref (a 0)), (1, .int (nI sn)), (2, .int (nI kr)), (3, .int (nI wh))]) hx hb dX8_meanOf_233 hl (k := 2) rfl (nI_add k2_119 1) (by decide) rfl (fun ls hl => ?_)
                  refine lv_goto (tgt := 135) hx hb dX8_meanOf_236 (by decide) ?_
                  have hx_119 : (k2_119 / 2) + (dn sn - qi_118) ≤ 25 → r_133 = mV (sdM dn (sg se tm gs) ffrees fprices sn) (ruM bm fbarSeen fbarFrom fruleRounds kr) wh q_74 r_114 (dn sn - qi_118) (k2_119 / 2) (k2_119 % 2) := fun hk => mv_v (d := (sdM dn (sg se tm gs) ffrees fprices sn)) (u := (ruM bm fbarSeen fbarFrom fruleRounds kr)) (wh := wh) (r := q_74) (E := r_114) (p := (k2_119 / 2)) (a := k2_119 % 2) (show qi_118 < dn sn by omega) (show _ = pChance (sdM dn (sg se tm gs) ffrees fprices sn) qi_118 (nI (k2_119 % 2)) from by rw [show k2_119 % 2 = 1 by omega]; exact hw_131.trans (mChance (fpr := fprices) (show qi_118 < dn sn by omega))) (by rw [if_pos hw_124]; exact hw_125.trans (mByT hg9 (by omega) (by omega) (by omega) (by omega))) (by rw [← hps_73, ex_132]; exact congrArg (fun z => x_72 + z) (by have h9 := hv_118.2 (2 * (k2_119 / 2)) (by omega) (by omega); rw [show (2 * (k2_119 / 2)) / 2 = (k2_119 / 2) by omega, show (2 * (k2_119 / 2)) % 2 = 0 by omega] at h9; exact h9)) hw_133
                  exact ih_119 _ (k2_119 + 1, (upd fb4_119 k2_119 r_133)) _ _ _ (by omega) ⟨rfl, ⟨by omega, la_updc (F := fun k => mV (sdM dn (sg se tm gs) ffrees fprices sn) (ruM bm fbarSeen fbarFrom fruleRounds kr) wh q_74 r_114 (dn sn - qi_118) (k / 2) (k % 2)) (P := fun k => k / 2 + (dn sn - qi_118) ≤ 25) hv_119.2 hx_119⟩, hP, hD, hS, (lv_sub hl [0, 3, 4, 5, 6, 7, 8, 9, 10, 11, 12, 13] rfl)⟩
              · refine lv_if_eq (tgt := 173) hx hb dX8_meanOf_157 (by decide) (fun _ => ?_) (fun h => absurd (by decide) h)
                refine lv_iload hx hb dX8_meanOf_173 (lv_at hl 7 rfl) ?_
                refine lv_aload_n hx hb dX8_meanOf_175 rfl (lv_at hl 9 rfl) ?_
                refine va_get (D := D) (ci := 8) (v := .ref (a 29)) (C := RX8) (T := TX8) (N := 44) hx hb hts inX8 hown hK hP 0 rfl rfl 28 (by decide) (hts _ tw_1001) (fun _ h9 => h9) rfl dX8_meanOf_176 ?_
                refine lv_iconst (v := 2) hx hb dX8_meanOf_179 (by decide) ?_
                refine lv_iload hx hb dX8_meanOf_180 (lv_at hl 0 rfl) ?_
                refine lv_imul hx hb dX8_meanOf_182 ?_
                refine lv_ti (y := (nI (2 * (k2_119 / 2)))) (pk_mul 2 (k2_119 / 2)) ?_
                refine lv_iconst (v := 3) hx hb dX8_meanOf_183 (by decide) ?_
                refine lv_iadd hx hb dX8_meanOf_184 ?_
                refine lv_ti (y := (nI (2 * (k2_119 / 2) + 3))) (nI_add (2 * (k2_119 / 2)) 3) ?_
                refine va_iald hx hb hK hP 9 1 rfl rfl (vp_in_nI (by omega) (by decide)) dX8_meanOf_185 ?_
                refine lv_ti (y := (ff3_118 (2 * (k2_119 / 2) + 3))) (by rw [nI_clamp (by omega)]) ?_
                refine lv_iadd hx hb dX8_meanOf_186 ?_
                refine lv_topi (fun x_135 ex_135 => ?_)
                refine lv_istore (lv' := [(13, .int x_135), (12, .int (nI (k2_119 / 2))), (11, .int (nI k2_119)), (10, .int (nI qi_118)), (9, .int r_114), (8, .int x_79), (7, .int (nI q_74)), (6, .int bg_74), (5, .int x_72), (4, .int (nI (dn sn))), (0, .ref (a 0)), (1, .int (nI sn)), (2, .int (nI kr)), (3, .int (nI wh))]) hx hb dX8_meanOf_187 hl (by decide) rfl (fun ls hl => ?_)
                refine lv_aload_n hx hb dX8_meanOf_189 rfl (lv_at hl 10 rfl) ?_
                refine va_get (D := D) (ci := 8) (v := .ref (a 30)) (C := RX8) (T := TX8) (N := 44) hx hb hts inX8 hown hK hP 0 rfl rfl 29 (by decide) (hts _ tw_1002) (fun _ h9 => h9) rfl dX8_meanOf_190 ?_
                refine lv_iload hx hb dX8_meanOf_193 (lv_at hl 2 rfl) ?_
                refine lv_aload_n hx hb dX8_meanOf_195 rfl (lv_at hl 10 rfl) ?_
                refine lv_iload_n hx hb dX8_meanOf_196 rfl (lv_at hl 11 rfl) ?_
                refine lv_iload hx hb dX8_meanOf_197 (lv_at hl 3 rfl) ?_
                refine lv_iload hx hb dX8_meanOf_199 (lv_at hl 2 rfl) ?_
                refine lv_iconst (v := 2) hx hb dX8_meanOf_201 (by decide) ?_
                refine lv_irem hx hb dX8_meanOf_202 (by decide) ?_
                refine lv_ti (y := (nI (k2_119 % 2))) (pk_rem (by omega) (by decide) (by decide)) ?_
                refine lv_iconst (v := 1) hx hb dX8_meanOf_203 (by decide) ?_
                refine lv_icmp_ne (tgt := 211) hx hb dX8_meanOf_204 (by decide) (fun c_136 => ?_) (fun c_136 => ?_)
                · have c_136 : ¬ ((k2_119 % 2) = 1) := fun h => c_136 ((nI_eq (a := (k2_119 % 2)) (b := 1) (by omega) (by omega)).mpr h)
                  refine lv_iconst (v := 0) hx hb dX8_meanOf_211 (by decide) ?_
                  refine ro_i (D := D) (va_runV (As := [.int (nI sn), .int (nI qi_118), .int 0]) (rest := [.int (nI k2_119), .ref (a 30)]) ⟨hx, hb, hml, hown, hts⟩ ((n_chanceOf l D k st lo a tx t0 we rd ru rw ca fp wd nu na ts df db sd ffrees se tm gs sn qi_118 0 (by first | assumption | omega) (by first | assumption | omega)) H.size) (cwV 3 hts (gV tw_1210 tw_1212 tw_41 tw_87 tw_1213) rfl rfl rfl (by decide +kernel) ⟨Nat.le_of_ble_eq_true rfl, Nat.le_of_ble_eq_true rfl⟩) (pV hS hAlo hlo hP hK (va_Dlo hD hAlo) hZ [0, 3, 2] (by decide) rfl (ci := 8) (q := (RX8, TX8, 44)) (q0 := 0) rfl rfl) rfl rfl hl.1 rfl (lv_room (Nat.le_of_ble_eq_true rfl)) dX8_meanOf_212 ⟨Nat.le_of_ble_eq_true rfl, Nat.le_of_ble_eq_true rfl⟩) hS hA hP (fun r_137 H locs hw_137 hP hS => ?_)
                  try dsimp only at hw_137
                  refine lv_iload hx hb dX8_meanOf_215 (lv_at hl 0 rfl) ?_
                  refine lv_iload hx hb dX8_meanOf_217 (lv_at hl 8 rfl) ?_
                  refine lv_aload_n hx hb dX8_meanOf_219 rfl (lv_at hl 10 rfl) ?_
                  refine va_get (D := D) (ci := 8) (v := .ref (a 29)) (C := RX8) (T := TX8) (N := 44) hx hb hts inX8 hown hK hP 0 rfl rfl 28 (by decide) (hts _ tw_1001) (fun _ h9 => h9) rfl dX8_meanOf_220 ?_
                  refine lv_iconst (v := 2) hx hb dX8_meanOf_223 (by decide) ?_
                  refine lv_iload hx hb dX8_meanOf_224 (lv_at hl 1 rfl) ?_
                  refine lv_imul hx hb dX8_meanOf_226 ?_
                  refine lv_ti (y := (nI (2 * (k2_119 / 2)))) (pk_mul 2 (k2_119 / 2)) ?_
                  refine va_iald hx hb hK hP 9 1 rfl rfl (vp_in_nI (by omega) (by decide)) dX8_meanOf_227 ?_
                  refine lv_ti (y := (ff3_118 (2 * (k2_119 / 2)))) (by rw [nI_clamp (by omega)]) ?_
                  refine lv_iadd hx hb dX8_meanOf_228 ?_
                  refine lv_topi (fun x_138 ex_138 => ?_)
                  refine ro_i (D := D) (va_runS (As := [.int r_137, .int x_135, .int x_138]) (rest := [.int (nI k2_119), .ref (a 30)]) ⟨hx, hb, hml, hown, hts⟩ ((n_mixed l D k st lo r_137 x_135 x_138) H.size) (va_cwS 3 hts (gS tw_1269 tw_1270 tw_87 tw_1271) rfl rfl rfl (by decide +kernel) ⟨Nat.le_of_ble_eq_true rfl, Nat.le_of_ble_eq_true rfl⟩) (pS hS hAlo hlo hP hK (va_Dlo hD hAlo) hZ [] (by decide) rfl) rfl rfl hl.1 rfl (lv_room (Nat.le_of_ble_eq_true rfl)) dX8_meanOf_229 ⟨Nat.le_of_ble_eq_true rfl, Nat.le_of_ble_eq_true rfl⟩) hS hA hP (fun r_139 H locs hw_139 hP hS => ?_)
                  try dsimp only at hw_139
                  refine va_iast hx hb hK hP hD hS 10 1 rfl rfl (vp_in_nI (by omega) (by decide)) dX8_meanOf_232 (fun H locs hP hD hS => ?_)
                  replace hP : va_P D classes [((a 0), .inr (8, (fX8 a (nI tx) fp (nI t0) wd (nI we) nu na (nI rd) ts (nI ru) (nI rw) (nI ca) df db sd))), (aI k (a 1) 3 (nF dn)), (aI k (a 4) 27 (sg se tm gs)), (aI k (a 2) 72 ffrees), (aI k (a 3) 72 fprices), (aI k (a 25) 4 (nF bm)), (aI k (a 26) 48 fbarSeen), (aI k (a 27) 48 fbarFrom), (aI k (a 28) 4 fruleRounds), (aI k (a 29) 52 ff3_118), (aI k (a 30) 52 (upd fb4_119 (Int32.toNatClampNeg (nI k2_119)) r_139))] H := hP
                  replace hD : va_D A [((a 0), .inr (8, (fX8 a (nI tx) fp (nI t0) wd (nI we) nu na (nI rd) ts (nI ru) (nI rw) (nI ca) df db sd))), (aI k (a 1) 3 (nF dn)), (aI k (a 4) 27 (sg se tm gs)), (aI k (a 2) 72 ffrees), (aI k (a 3) 72 fprices), (aI k (a 25) 4 (nF bm)), (aI k (a 26) 48 fbarSeen), (aI k (a 27) 48 fbarFrom), (aI k (a 28) 4 fruleRounds), (aI k (a 29) 52 ff3_118), (aI k (a 30) 52 (upd fb4_119 (Int32.toNatClampNeg (nI k2_119)) r_139))] := hD
                  rw [nI_clamp (n := k2_119) (by omega)] at hP hD
                  replace hP : va_P D classes [((a 0), .inr (8, (fX8 a (nI tx) fp (nI t0) wd (nI we) nu na (nI rd) ts (nI ru) (nI rw) (nI ca) df db sd))), (aI k (a 1) 3 (nF dn)), (aI k (a 4) 27 (sg se tm gs)), (aI k (a 2) 72 ffrees), (aI k (a 3) 72 fprices), (aI k (a 25) 4 (nF bm)), (aI k (a 26) 48 fbarSeen), (aI k (a 27) 48 fbarFrom), (aI k (a 28) 4 fruleRounds), (aI k (a 29) 52 ff3_118), (aI k (a 30) 52 (upd fb4_119 k2_119 r_139))] H := hP
                  replace hD : va_D A [((a 0), .inr (8, (fX8 a (nI tx) fp (nI t0) wd (nI we) nu na (nI rd) ts (nI ru) (nI rw) (nI ca) df db sd))), (aI k (a 1) 3 (nF dn)), (aI k (a 4) 27 (sg se tm gs)), (aI k (a 2) 72 ffrees), (aI k (a 3) 72 fprices), (aI k (a 25) 4 (nF bm)), (aI k (a 26) 48 fbarSeen), (aI k (a 27) 48 fbarFrom), (aI k (a 28) 4 fruleRounds), (aI k (a 29) 52 ff3_118), (aI k (a 30) 52 (upd fb4_119 k2_119 r_139))] := hD
                  refine lv_iinc (v := (nI (k2_119 + 1))) (lv' := [(11, .int (nI (k2_119 + 1))), (13, .int x_135), (12, .int (nI (k2_119 / 2))), (10, .int (nI qi_118)), (9, .int r_114), (8, .int x_79), (7, .int (nI q_74)), (6, .int bg_74), (5, .int x_72), (4, .int (nI (dn sn))), (0, .ref (a 0)), (1, .int (nI sn)), (2, .int (nI kr)), (3, .int (nI wh))]) hx hb dX8_meanOf_233 hl (k := 2) rfl (nI_add k2_119 1) (by decide) rfl (fun ls hl => ?_)
                  refine lv_goto (tgt := 135) hx hb dX8_meanOf_236 (by decide) ?_
                  have hx_119 : (k2_119 / 2) + (dn sn - qi_118) ≤ 25 → r_139 = mV (sdM dn (sg se tm gs) ffrees fprices sn) (ruM bm fbarSeen fbarFrom fruleRounds kr) wh q_74 r_114 (dn sn - qi_118) (k2_119 / 2) (k2_119 % 2) := fun hk => mv_v (d := (sdM dn (sg se tm gs) ffrees fprices sn)) (u := (ruM bm fbarSeen fbarFrom fruleRounds kr)) (wh := wh) (r := q_74) (E := r_114) (p := (k2_119 / 2)) (a := k2_119 % 2) (show qi_118 < dn sn by omega) (show _ = pChance (sdM dn (sg se tm gs) ffrees fprices sn) qi_118 (nI (k2_119 % 2)) from by rw [show k2_119 % 2 = 0 by omega]; exact hw_137.trans (mChance (fpr := fprices) (show qi_118 < dn sn by omega))) (by rw [if_neg hw_124, ← hps_73, ex_135]; exact congrArg (fun z => x_72 + z) (by have h9 := hv_118.2 (2 * (k2_119 / 2) + 3) (by omega) (by omega); rw [show (2 * (k2_119 / 2) + 3) / 2 = (k2_119 / 2) + 1 by omega, show (2 * (k2_119 / 2) + 3) % 2 = 1 by omega] at h9; exact h9)) (by rw [← hps_73, ex_138]; exact congrArg (fun z => x_72 + z) (by have h9 := hv_118.2 (2 * (k2_119 / 2)) (by omega) (by omega); rw [show (2 * (k2_119 / 2)) / 2 = (k2_119 / 2) by omega, show (2 * (k2_119 / 2)) % 2 = 0 by omega] at h9; exact h9)) hw_139
                  exact ih_119 _ (k2_119 + 1, (upd fb4_119 k2_119 r_139)) _ _ _ (by omega) ⟨rfl, ⟨by omega, la_updc (F := fun k => mV (sdM dn (sg se tm gs) ffrees fprices sn) (ruM bm fbarSeen fbarFrom fruleRounds kr) wh q_74 r_114 (dn sn - qi_118) (k / 2) (k % 2)) (P := fun k => k / 2 + (dn sn - qi_118) ≤ 25) hv_119.2 hx_119⟩, hP, hD, hS, (lv_sub hl [0, 3, 4, 5, 6, 7, 8, 9, 10, 11, 12, 13] rfl)⟩
                · have c_136 := (nI_eq (a := (k2_119 % 2)) (b := 1) (by omega) (by omega)).mp c_136
                  refine lv_iconst (v := 1) hx hb dX8_meanOf_207 (by decide) ?_
                  refine lv_goto (tgt := 212) hx hb dX8_meanOf_208 (by decide) ?_
                  refine ro_i (D := D) (va_runV (As := [.int (nI sn), .int (nI qi_118), .int 1]) (rest := [.int (nI k2_119), .ref (a 30)]) ⟨hx, hb, hml, hown, hts⟩ ((n_chanceOf l D k st lo a tx t0 we rd ru rw ca fp wd nu na ts df db sd ffrees se tm gs sn qi_118 1 (by first | assumption | omega) (by first | assumption | omega)) H.size) (cwV 3 hts (gV tw_1210 tw_1212 tw_41 tw_87 tw_1213) rfl rfl rfl (by decide +kernel) ⟨Nat.le_of_ble_eq_true rfl, Nat.le_of_ble_eq_true rfl⟩) (pV hS hAlo hlo hP hK (va_Dlo hD hAlo) hZ [0, 3, 2] (by decide) rfl (ci := 8) (q := (RX8, TX8, 44)) (q0 := 0) rfl rfl) rfl rfl hl.1 rfl (lv_room (Nat.le_of_ble_eq_true rfl)) dX8_meanOf_212 ⟨Nat.le_of_ble_eq_true rfl, Nat.le_of_ble_eq_true rfl⟩) hS hA hP (fun r_141 H locs hw_141 hP hS => ?_)
                  try dsimp only at hw_141
                  refine lv_iload hx hb dX8_meanOf_215 (lv_at hl 0 rfl) ?_
                  refine lv_iload hx hb dX8_meanOf_217 (lv_at hl 8 rfl) ?_
                  refine lv_aload_n hx hb dX8_meanOf_219 rfl (lv_at hl 10 rfl) ?_
                  refine va_get (D := D) (ci := 8) (v := .ref (a 29)) (C := RX8) (T := TX8) (N := 44) hx hb hts inX8 hown hK hP 0 rfl rfl 28 (by decide) (hts _ tw_1001) (fun _ h9 => h9) rfl dX8_meanOf_220 ?_
                  refine lv_iconst (v := 2) hx hb dX8_meanOf_223 (by decide) ?_
                  refine lv_iload hx hb dX8_meanOf_224 (lv_at hl 1 rfl) ?_
                  refine lv_imul hx hb dX8_meanOf_226 ?_
                  refine lv_ti (y := (nI (2 * (k2_119 / 2)))) (pk_mul 2 (k2_119 / 2)) ?_
                  refine va_iald hx hb hK hP 9 1 rfl rfl (vp_in_nI (by omega) (by decide)) dX8_meanOf_227 ?_
                  refine lv_ti (y := (ff3_118 (2 * (k2_119 / 2)))) (by rw [nI_clamp (by omega)]) ?_
                  refine lv_iadd hx hb dX8_meanOf_228 ?_
                  refine lv_topi (fun x_142 ex_142 => ?_)
                  refine ro_i (D := D) (va_runS (As := [.int r_141, .int x_135, .int x_142]) (rest := [.int (nI k2_119), .ref (a 30)]) ⟨hx, hb, hml, hown, hts⟩ ((n_mixed l D k st lo r_141 x_135 x_142) H.size) (va_cwS 3 hts (gS tw_1269 tw_1270 tw_87 tw_1271) rfl rfl rfl (by decide +kernel) ⟨Nat.le_of_ble_eq_true rfl, Nat.le_of_ble_eq_true rfl⟩) (pS hS hAlo hlo hP hK (va_Dlo hD hAlo) hZ [] (by decide) rfl) rfl rfl hl.1 rfl (lv_room (Nat.le_of_ble_eq_true rfl)) dX8_meanOf_229 ⟨Nat.le_of_ble_eq_true rfl, Nat.le_of_ble_eq_true rfl⟩) hS hA hP (fun r_143 H locs hw_143 hP hS => ?_)
                  try dsimp only at hw_143
                  refine va_iast hx hb hK hP hD hS 10 1 rfl rfl (vp_in_nI (by omega) (by decide)) dX8_meanOf_232 (fun H locs hP hD hS => ?_)
                  replace hP : va_P D classes [((a 0), .inr (8, (fX8 a (nI tx) fp (nI t0) wd (nI we) nu na (nI rd) ts (nI ru) (nI rw) (nI ca) df db sd))), (aI k (a 1) 3 (nF dn)), (aI k (a 4) 27 (sg se tm gs)), (aI k (a 2) 72 ffrees), (aI k (a 3) 72 fprices), (aI k (a 25) 4 (nF bm)), (aI k (a 26) 48 fbarSeen), (aI k (a 27) 48 fbarFrom), (aI k (a 28) 4 fruleRounds), (aI k (a 29) 52 ff3_118), (aI k (a 30) 52 (upd fb4_119 (Int32.toNatClampNeg (nI k2_119)) r_143))] H := hP
                  replace hD : va_D A [((a 0), .inr (8, (fX8 a (nI tx) fp (nI t0) wd (nI we) nu na (nI rd) ts (nI ru) (nI rw) (nI ca) df db sd))), (aI k (a 1) 3 (nF dn)), (aI k (a 4) 27 (sg se tm gs)), (aI k (a 2) 72 ffrees), (aI k (a 3) 72 fprices), (aI k (a 25) 4 (nF bm)), (aI k (a 26) 48 fbarSeen), (aI k (a 27) 48 fbarFrom), (aI k (a 28) 4 fruleRounds), (aI k (a 29) 52 ff3_118), (aI k (a 30) 52 (upd fb4_119 (Int32.toNatClampNeg (nI k2_119)) r_143))] := hD
                  rw [nI_clamp (n := k2_119) (by omega)] at hP hD
                  replace hP : va_P D classes [((a 0), .inr (8, (fX8 a (nI tx) fp (nI t0) wd (nI we) nu na (nI rd) ts (nI ru) (nI rw) (nI ca) df db sd))), (aI k (a 1) 3 (nF dn)), (aI k (a 4) 27 (sg se tm gs)), (aI k (a 2) 72 ffrees), (aI k (a 3) 72 fprices), (aI k (a 25) 4 (nF bm)), (aI k (a 26) 48 fbarSeen), (aI k (a 27) 48 fbarFrom), (aI k (a 28) 4 fruleRounds), (aI k (a 29) 52 ff3_118), (aI k (a 30) 52 (upd fb4_119 k2_119 r_143))] H := hP
                  replace hD : va_D A [((a 0), .inr (8, (fX8 a (nI tx) fp (nI t0) wd (nI we) nu na (nI rd) ts (nI ru) (nI rw) (nI ca) df db sd))), (aI k (a 1) 3 (nF dn)), (aI k (a 4) 27 (sg se tm gs)), (aI k (a 2) 72 ffrees), (aI k (a 3) 72 fprices), (aI k (a 25) 4 (nF bm)), (aI k (a 26) 48 fbarSeen), (aI k (a 27) 48 fbarFrom), (aI k (a 28) 4 fruleRounds), (aI k (a 29) 52 ff3_118), (aI k (a 30) 52 (upd fb4_119 k2_119 r_143))] := hD
                  refine lv_iinc (v := (nI (k2_119 + 1))) (lv' := [(11, .int (nI (k2_119 + 1))), (13, .int x_135), (12, .int (nI (k2_119 / 2))), (10, .int (nI qi_118)), (9, .int r_114), (8, .int x_79), (7, .int (nI q_74)), (6, .int bg_74), (5, .int x_72), (4, .int (nI (dn sn))), (0, .ref (a 0)), (1, .int (nI sn)), (2, .int (nI kr)), (3, .int (nI wh))]) hx hb dX8_meanOf_233 hl (k := 2) rfl (nI_add k2_119 1) (by decide) rfl (fun ls hl => ?_)
                  refine lv_goto (tgt := 135) hx hb dX8_meanOf_236 (by decide) ?_
                  have hx_119 : (k2_119 / 2) + (dn sn - qi_118) ≤ 25 → r_143 = mV (sdM dn (sg se tm gs) ffrees fprices sn) (ruM bm fbarSeen fbarFrom fruleRounds kr) wh q_74 r_114 (dn sn - qi_118) (k2_119 / 2) (k2_119 % 2) := fun hk => mv_v (d := (sdM dn (sg se tm gs) ffrees fprices sn)) (u := (ruM bm fbarSeen fbarFrom fruleRounds kr)) (wh := wh) (r := q_74) (E := r_114) (p := (k2_119 / 2)) (a := k2_119 % 2) (show qi_118 < dn sn by omega) (show _ = pChance (sdM dn (sg se tm gs) ffrees fprices sn) qi_118 (nI (k2_119 % 2)) from by rw [show k2_119 % 2 = 1 by omega]; exact hw_141.trans (mChance (fpr := fprices) (show qi_118 < dn sn by omega))) (by rw [if_neg hw_124, ← hps_73, ex_135]; exact congrArg (fun z => x_72 + z) (by have h9 := hv_118.2 (2 * (k2_119 / 2) + 3) (by omega) (by omega); rw [show (2 * (k2_119 / 2) + 3) / 2 = (k2_119 / 2) + 1 by omega, show (2 * (k2_119 / 2) + 3) % 2 = 1 by omega] at h9; exact h9)) (by rw [← hps_73, ex_142]; exact congrArg (fun z => x_72 + z) (by have h9 := hv_118.2 (2 * (k2_119 / 2)) (by omega) (by omega); rw [show (2 * (k2_119 / 2)) / 2 = (k2_119 / 2) by omega, show (2 * (k2_119 / 2)) % 2 = 0 by omega] at h9; exact h9)) hw_143
                  exact ih_119 _ (k2_119 + 1, (upd fb4_119 k2_119 r_143)) _ _ _ (by omega) ⟨rfl, ⟨by omega, la_updc (F := fun k => mV (sdM dn (sg se tm gs) ffrees fprices sn) (ruM bm fbarSeen fbarFrom fruleRounds kr) wh q_74 r_114 (dn sn - qi_118) (k / 2) (k % 2)) (P := fun k => k / 2 + (dn sn - qi_118) ≤ 25) hv_119.2 hx_119⟩, hP, hD, hS, (lv_sub hl [0, 3, 4, 5, 6, 7, 8, 9, 10, 11, 12, 13] rfl)⟩
        · have c_117 : ¬ (52 ≤ kk_116) := fun h => c_117 ((nI_leI (a := 52) (b := kk_116) (by omega) (by omega)).mpr h)
          refine lv_aload_n hx hb dX8_meanOf_106 rfl (lv_at hl 7 rfl) ?_
          refine va_get (D := D) (ci := 8) (v := .ref (a 29)) (C := RX8) (T := TX8) (N := 44) hx hb hts inX8 hown hK hP 0 rfl rfl 28 (by decide) (hts _ tw_1001) (fun _ h9 => h9) rfl dX8_meanOf_107 ?_
          refine lv_iload hx hb dX8_meanOf_110 (lv_at hl 0 rfl) ?_
          refine lv_iload hx hb dX8_meanOf_112 (lv_at hl 1 rfl) ?_
          refine va_iast hx hb hK hP hD hS 9 1 rfl rfl (vp_in_nI (by omega) (by decide)) dX8_meanOf_114 (fun H locs hP hD hS => ?_)
          replace hP : va_P D classes [((a 0), .inr (8, (fX8 a (nI tx) fp (nI t0) wd (nI we) nu na (nI rd) ts (nI ru) (nI rw) (nI ca) df db sd))), (aI k (a 1) 3 (nF dn)), (aI k (a 4) 27 (sg se tm gs)), (aI k (a 2) 72 ffrees), (aI k (a 3) 72 fprices), (aI k (a 25) 4 (nF bm)), (aI k (a 26) 48 fbarSeen), (aI k (a 27) 48 fbarFrom), (aI k (a 28) 4 fruleRounds), (aI k (a 29) 52 (upd ff2_116 (Int32.toNatClampNeg (nI kk_116)) r_114)), (aI k (a 30) 52 fb_74)] H := hP
          replace hD : va_D A [((a 0), .inr (8, (fX8 a (nI tx) fp (nI t0) wd (nI we) nu na (nI rd) ts (nI ru) (nI rw) (nI ca) df db sd))), (aI k (a 1) 3 (nF dn)), (aI k (a 4) 27 (sg se tm gs)), (aI k (a 2) 72 ffrees), (aI k (a 3) 72 fprices), (aI k (a 25) 4 (nF bm)), (aI k (a 26) 48 fbarSeen), (aI k (a 27) 48 fbarFrom), (aI k (a 28) 4 fruleRounds), (aI k (a 29) 52 (upd ff2_116 (Int32.toNatClampNeg (nI kk_116)) r_114)), (aI k (a 30) 52 fb_74)] := hD
          rw [nI_clamp (n := kk_116) (by omega)] at hP hD
          replace hP : va_P D classes [((a 0), .inr (8, (fX8 a (nI tx) fp (nI t0) wd (nI we) nu na (nI rd) ts (nI ru) (nI rw) (nI ca) df db sd))), (aI k (a 1) 3 (nF dn)), (aI k (a 4) 27 (sg se tm gs)), (aI k (a 2) 72 ffrees), (aI k (a 3) 72 fprices), (aI k (a 25) 4 (nF bm)), (aI k (a 26) 48 fbarSeen), (aI k (a 27) 48 fbarFrom), (aI k (a 28) 4 fruleRounds), (aI k (a 29) 52 (upd ff2_116 kk_116 r_114)), (aI k (a 30) 52 fb_74)] H := hP
          replace hD : va_D A [((a 0), .inr (8, (fX8 a (nI tx) fp (nI t0) wd (nI we) nu na (nI rd) ts (nI ru) (nI rw) (nI ca) df db sd))), (aI k (a 1) 3 (nF dn)), (aI k (a 4) 27 (sg se tm gs)), (aI k (a 2) 72 ffrees), (aI k (a 3) 72 fprices), (aI k (a 25) 4 (nF bm)), (aI k (a 26) 48 fbarSeen), (aI k (a 27) 48 fbarFrom), (aI k (a 28) 4 fruleRounds), (aI k (a 29) 52 (upd ff2_116 kk_116 r_114)), (aI k (a 30) 52 fb_74)] := hD
          refine lv_iinc (v := (nI (kk_116 + 1))) (lv' := [(10, .int (nI (kk_116 + 1))), (9, .int r_114), (8, .int x_79), (7, .int (nI q_74)), (6, .int bg_74), (5, .int x_72), (4, .int (nI (dn sn))), (0, .ref (a 0)), (1, .int (nI sn)), (2, .int (nI kr)), (3, .int (nI wh))]) hx hb dX8_meanOf_115 hl (k := 0) rfl (nI_add kk_116 1) (by decide) rfl (fun ls hl => ?_)
          refine lv_goto (tgt := 99) hx hb dX8_meanOf_118 (by decide) ?_
          exact ih_116 _ (kk_116 + 1, (upd ff2_116 kk_116 r_114)) _ _ _ (by omega) ⟨rfl, ⟨by omega, la_upd (F := fun _ => r_114) hv_116.2 rfl⟩, hP, hD, hS, (lv_sub hl [0, 1, 2, 3, 4, 5, 6, 7, 8, 9, 10] rfl)⟩


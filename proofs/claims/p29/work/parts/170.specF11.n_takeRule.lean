
set_option maxHeartbeats 4000000 in
set_option maxRecDepth 100000 in
theorem n_takeRule (l : Launch) (D : va_G) (k : Nat → ClassId) (st : Nat → Nat) (lo : Nat) (a : Nat → Nat) (tx : Nat) (t0 : Nat) (we : Nat) (rd : Nat) (ru : Nat) (rw : Nat) (ca : Nat) (fp : Int32) (wd : Int64) (nu : Int32) (na : Int32) (ts : Int32) (df : Int32) (db : Int32) (sd : Int32) (ftext : Nat → Int32) (bm : Nat → Nat) (fbarSeen : Nat → Int32) (fbarFrom : Nat → Int32) (fruleRounds : Nat → Int32) (ht : t0 ≤ tx) (htx : tx ≤ 240) (hbm : ∀ j, bm j ≤ 12) (hru3 : ru ≤ 3) (hx80 : tx ≤ 80) (hty : ∀ j, 0 ≤ ftext j) : CWi l D k st lo yX8_takeRule cX8_takeRule 5 (some .int) ({ frames := 4, cells := 0, slots := 0, locals := 98 }) 0 0 [.ref (a 0)] [((a 0), .inr (8, (fX8 a (nI tx) fp (nI t0) wd (nI we) nu na (nI rd) ts (nI ru) (nI rw) (nI ca) df db sd))), (aI k (a 5) 240 ftext), (aI k (a 25) 4 (nF bm)), (aI k (a 26) 48 fbarSeen), (aI k (a 27) 48 fbarFrom), (aI k (a 28) 4 fruleRounds)] (fun (r : Int32) (u : Nat × Int64 × Nat × Int32 × Int32 × Int32 × (Nat → Nat) × (Nat → Int32) × (Nat → Int32) × (Nat → Int32)) => match u with | (t0_, wd_, we_, fp_, nu_, na_, bm_, fbarSeen_, fbarFrom_, fruleRounds_) => ((r = 0 ∧ ruF ftext tx t0 = (0, 0, ruM bm_ fbarSeen_ fbarFrom_ fruleRounds_ ru) ∧ fp_ = fp) ∨ (∃ e pl : Nat, r = nI e ∧ 1 ≤ e ∧ e ≤ 4 ∧ (ruF ftext tx t0).1 = e ∧ (ruF ftext tx t0).2.1 = pl ∧ fp_ = nI pl)) ∧ (∀ q, q < ru → ruM bm_ fbarSeen_ fbarFrom_ fruleRounds_ q = ruM bm fbarSeen fbarFrom fruleRounds q) ∧ (∀ j, bm_ j ≤ 12)) (fun (u : Nat × Int64 × Nat × Int32 × Int32 × Int32 × (Nat → Nat) × (Nat → Int32) × (Nat → Int32) × (Nat → Int32)) => match u with | (t0_, wd_, we_, fp_, nu_, na_, bm_, fbarSeen_, fbarFrom_, fruleRounds_) => [((a 0), .inr (8, (fX8 a (nI tx) fp_ (nI t0_) wd_ (nI we_) nu_ na_ (nI rd) ts (nI ru) (nI rw) (nI ca) df db sd))), (aI k (a 5) 240 ftext), (aI k (a 25) 4 (nF bm_)), (aI k (a 26) 48 fbarSeen_), (aI k (a 27) 48 fbarFrom_), (aI k (a 28) 4 fruleRounds_)]) := by
  intro sz
  refine Met.ofW (cc := cX8_takeRule) (maxL := 5) (ret := (some .int)) (by decide) rfl ?_
  intro p e s m args below meth c s₁ B hml hv
  obtain ⟨rfl, hsz, hlo, hP, hK, hDL, hZ⟩ := hv
  have hx := B.exec
  have hb := B.bytes
  have hr := B.returns
  have hts := WS_ts B.pre
  have hown : s.vm.findClass RX8 = some m.cls := findClass_of_methodNamed B.named
  have hlocks := B.notSynchronized
  subst hsz
  have hD := hDL.self (sz := s.heap.size)
  have hAlo := A_lo hDL hlo
  generalize hAe : va_A [((a 0), .inr (8, (fX8 a (nI tx) fp (nI t0) wd (nI we) nu na (nI rd) ts (nI ru) (nI rw) (nI ca) df db sd))), (aI k (a 5) 240 ftext), (aI k (a 25) 4 (nF bm)), (aI k (a 26) 48 fbarSeen), (aI k (a 27) 48 fbarFrom), (aI k (a 28) 4 fruleRounds)] s.heap.size = A at hD hAlo ⊢
  have hA : ∀ q : Nat, s.heap.size ≤ q → A q := fun q h => by rw [← hAe]; exact Or.inr h
  have hS : va_S A s.heap s.heap [] := va_S.rf
  have hl := lv_entry ([.ref (a 0)]) (n := 5) (Nat.le_of_ble_eq_true rfl)
  rw [lg_entry_eq]
  generalize (lg_sl ([.ref (a 0)]) ++ List.replicate (5 - (lg_sl ([.ref (a 0)])).length) Slot.unset).toArray = ls at hl ⊢
  have hl : lv_has ls 5 [(0, .ref (a 0))] := hl
  refine lv_bipush (v := 102) hx hb dX8_takeRule_0 (by decide) ?_
  refine lv_bipush (v := 114) hx hb dX8_takeRule_2 (by decide) ?_
  refine lv_bipush (v := 111) hx hb dX8_takeRule_4 (by decide) ?_
  refine ro_l (D := D) (va_runS (As := [.int 102, .int 114, .int 111]) (rest := []) ⟨hx, hb, hml, hown, hts⟩ ((n_code l D k st lo 102 114 111) s.heap.size) (va_cwS 3 hts (gS tw_1142 tw_1143 tw_87 tw_1144) rfl rfl rfl (by decide +kernel) ⟨Nat.le_of_ble_eq_true rfl, Nat.le_of_ble_eq_true rfl⟩) (pS hS hAlo hlo hP hK (va_Dlo hD hAlo) hZ [] (by decide) rfl) rfl rfl hl.1 rfl (lv_room (Nat.le_of_ble_eq_true rfl)) dX8_takeRule_6 ⟨Nat.le_of_ble_eq_true rfl, Nat.le_of_ble_eq_true rfl⟩) hS hA hP (fun r_1 H locs hw_1 hP hS => ?_)
  try dsimp only at hw_1
  obtain rfl : r_1 = 4875 := hw_1.trans (by decide)
  refine lv_bipush (v := 109) hx hb dX8_takeRule_9 (by decide) ?_
  refine ro_l (D := D) (va_runS (As := [.long 4875, .int 109]) (rest := []) ⟨hx, hb, hml, hown, hts⟩ ((n_longer l D k st lo 4875 109) H.size) (va_cwS 2 hts (gS tw_1148 tw_1149 tw_87 tw_1150) rfl rfl rfl (by decide +kernel) ⟨Nat.le_of_ble_eq_true rfl, Nat.le_of_ble_eq_true rfl⟩) (pS hS hAlo hlo hP hK (va_Dlo hD hAlo) hZ [] (by decide) rfl) rfl rfl hl.1 rfl (lv_room (Nat.le_of_ble_eq_true rfl)) dX8_takeRule_11 ⟨Nat.le_of_ble_eq_true rfl, Nat.le_of_ble_eq_true rfl⟩) hS hA hP (fun r_2 H locs hw_2 hP hS => ?_)
  try dsimp only at hw_2
  obtain rfl : r_2 = 131638 := hw_2.trans (by decide)
  refine lv_lstore_n (lv' := [(1, .long 131638), (0, .ref (a 0))]) hx hb dX8_takeRule_14 rfl hl (by decide) rfl (fun ls hl => ?_)
  refine lv_aload_n hx hb dX8_takeRule_15 rfl (lv_at hl 1 rfl) ?_
  refine lv_lload_n hx hb dX8_takeRule_16 rfl (lv_at hl 0 rfl) ?_
  refine rw_i (D := D) (wr := [(aI k (a 25) 4 (nF bm)), (aI k (a 26) 48 fbarSeen), (aI k (a 27) 48 fbarFrom), (aI k (a 28) 4 fruleRounds)]) (va_runV (As := [.long 131638]) (rest := []) ⟨hx, hb, hml, hown, hts⟩ ((n_needs l D k st lo a tx t0 we rd ru rw ca fp wd nu na ts df db sd ftext 131638 12 (by first | assumption | omega) (by first | assumption | omega) (by decide) (by decide +kernel)) H.size) (cwV 1 hts (gV tw_1169 tw_1171 tw_35 tw_87 tw_1172) rfl rfl rfl (by decide +kernel) ⟨Nat.le_of_ble_eq_true rfl, Nat.le_of_ble_eq_true rfl⟩) (pV hS hAlo hlo hP hK (va_Dlo hD hAlo) hZ [0, 1] (by decide) rfl (ci := 8) (q := (RX8, TX8, 44)) (q0 := 0) rfl rfl) rfl rfl hl.1 rfl (lv_room (Nat.le_of_ble_eq_true rfl)) dX8_takeRule_17 ⟨Nat.le_of_ble_eq_true rfl, Nat.le_of_ble_eq_true rfl⟩) hS hA hP hD [0, 1] [2, 3, 4, 5] rfl rfl (by decide) (by decide) (fun r_3 u H locs hw_3 hP hD hS => ?_)
  obtain ⟨t0__3, wd__3, we__3, fp__3⟩ := u
  replace hP : va_P D classes [(aI k (a 25) 4 (nF bm)), (aI k (a 26) 48 fbarSeen), (aI k (a 27) 48 fbarFrom), (aI k (a 28) 4 fruleRounds), ((a 0), .inr (8, (fX8 a (nI tx) fp__3 (nI t0__3) wd__3 (nI we__3) nu na (nI rd) ts (nI ru) (nI rw) (nI ca) df db sd))), (aI k (a 5) 240 ftext)] H := hP
  replace hD : va_D A [(aI k (a 25) 4 (nF bm)), (aI k (a 26) 48 fbarSeen), (aI k (a 27) 48 fbarFrom), (aI k (a 28) 4 fruleRounds), ((a 0), .inr (8, (fX8 a (nI tx) fp__3 (nI t0__3) wd__3 (nI we__3) nu na (nI rd) ts (nI ru) (nI rw) (nI ca) df db sd))), (aI k (a 5) 240 ftext)] := hD
  try dsimp only at hw_3
  rcases hw_3 with ⟨⟨rfl, hq_4, hfp_4⟩ | ⟨rfl, pl_4, hq_4, rfl⟩, hw_3⟩
  · replace hfp_4 := hfp_4.symm
    subst hfp_4
    refine lv_istore_n (lv' := [(3, .int 0), (1, .long 131638), (0, .ref (a 0))]) hx hb dX8_takeRule_20 rfl hl (by decide) rfl (fun ls hl => ?_)
    refine lv_iload_n hx hb dX8_takeRule_21 rfl (lv_at hl 0 rfl) ?_
    refine lv_if_le (tgt := 29) hx hb dX8_takeRule_22 (by decide) (fun _ => ?_) (fun h => absurd (by decide) h)
    refine lv_aload_n hx hb dX8_takeRule_29 rfl (lv_at hl 2 rfl) ?_
    refine lv_iconst (v := 0) hx hb dX8_takeRule_30 (by decide) ?_
    refine lv_bipush (v := 24) hx hb dX8_takeRule_31 (by decide) ?_
    refine rw_i (D := D) (wr := [(aI k (a 25) 4 (nF bm)), (aI k (a 26) 48 fbarSeen), (aI k (a 27) 48 fbarFrom), (aI k (a 28) 4 fruleRounds)]) (va_runV (As := [.int 0, .int 24]) (rest := []) ⟨hx, hb, hml, hown, hts⟩ ((n_takeNumber l D k st lo a tx t0__3 we__3 rd ru rw ca fp wd__3 nu na ts df db sd ftext 0 24 (by first | assumption | omega) (by first | assumption | omega)) H.size) (cwV 2 hts (gV tw_1159 tw_1161 tw_33 tw_87 tw_1162) rfl rfl rfl (by decide +kernel) ⟨Nat.le_of_ble_eq_true rfl, Nat.le_of_ble_eq_true rfl⟩) (pV hS hAlo hlo hP hK (va_Dlo hD hAlo) hZ [4, 5] (by decide) rfl (ci := 8) (q := (RX8, TX8, 44)) (q0 := 0) rfl rfl) rfl rfl hl.1 rfl (lv_room (Nat.le_of_ble_eq_true rfl)) dX8_takeRule_33 ⟨Nat.le_of_ble_eq_true rfl, Nat.le_of_ble_eq_true rfl⟩) hS hA hP hD [4, 5] [0, 1, 2, 3] rfl rfl (by decide) (by decide) (fun r_5 u H locs hw_5 hP hD hS => ?_)
    obtain ⟨t0__5, nu__5, na__5, fp__5⟩ := u
    replace hP : va_P D classes [(aI k (a 25) 4 (nF bm)), (aI k (a 26) 48 fbarSeen), (aI k (a 27) 48 fbarFrom), (aI k (a 28) 4 fruleRounds), ((a 0), .inr (8, (fX8 a (nI tx) fp__5 (nI t0__5) wd__3 (nI we__3) nu__5 na__5 (nI rd) ts (nI ru) (nI rw) (nI ca) df db sd))), (aI k (a 5) 240 ftext)] H := hP
    replace hD : va_D A [(aI k (a 25) 4 (nF bm)), (aI k (a 26) 48 fbarSeen), (aI k (a 27) 48 fbarFrom), (aI k (a 28) 4 fruleRounds), ((a 0), .inr (8, (fX8 a (nI tx) fp__5 (nI t0__5) wd__3 (nI we__3) nu__5 na__5 (nI rd) ts (nI ru) (nI rw) (nI ca) df db sd))), (aI k (a 5) 240 ftext)] := hD
    try dsimp only at hw_5
    obtain ⟨nq_6, rfl, hq_6, hw_5⟩ := hw_5
    rcases hq_6 with ⟨rfl, hq_6, hfp_6⟩ | ⟨rfl, pl_6, hq_6, rfl⟩ | ⟨rfl, pl_6, hq_6, rfl⟩
    · replace hfp_6 := hfp_6.symm
      subst hfp_6
      refine lv_istore_n (lv' := [(3, .int 0), (1, .long 131638), (0, .ref (a 0))]) hx hb dX8_takeRule_36 rfl hl (by decide) rfl (fun ls hl => ?_)
      have hH_7 : ruH ftext tx t0 = (0, 0, t0__5, nu__5) := by simp [ruH, hq_4, hq_6, -List.getD_eq_getElem?_getD]
      have hz1_7 := wdR_ge (i := 12) hq_4
      replace hz1_7 : _ + 4 ≤ _ := hz1_7
      have hz2_7 := nuR_ge hq_6
      refine lv_aload_n hx hb dX8_takeRule_37 rfl (lv_at hl 2 rfl) ?_
      refine va_get (D := D) (ci := 8) (v := .ref (a 26)) (C := RX8) (T := TX8) (N := 44) hx hb hts inX8 hown hK hP 4 rfl rfl 25 (by decide) (hts _ tw_998) (fun _ h9 => h9) rfl dX8_takeRule_38 ?_
      refine lv_bipush (v := 12) hx hb dX8_takeRule_41 (by decide) ?_
      refine lv_aload_n hx hb dX8_takeRule_43 rfl (lv_at hl 2 rfl) ?_
      refine va_get (D := D) (ci := 8) (v := .int (nI ru)) (C := RX8) (T := TX8) (N := 44) hx hb hts inX8 hown hK hP 4 rfl rfl 23 (by decide) (hts _ tw_996) (fun _ h9 => h9) rfl dX8_takeRule_44 ?_
      refine lv_imul hx hb dX8_takeRule_47 ?_
      refine lv_ti (y := (nI (12 * ru))) (pk_mul 12 ru) ?_
      refine lv_iconst (v := 0) hx hb dX8_takeRule_48 (by decide) ?_
      refine va_iast hx hb hK hP hD hS 1 1 rfl rfl (vp_in_nI (by omega) (by decide)) dX8_takeRule_49 (fun H locs hP hD hS => ?_)
      replace hP : va_P D classes [(aI k (a 25) 4 (nF bm)), (aI k (a 26) 48 (upd fbarSeen (Int32.toNatClampNeg (nI (12 * ru))) 0)), (aI k (a 27) 48 fbarFrom), (aI k (a 28) 4 fruleRounds), ((a 0), .inr (8, (fX8 a (nI tx) fp (nI t0__5) wd__3 (nI we__3) nu__5 (nI nq_6) (nI rd) ts (nI ru) (nI rw) (nI ca) df db sd))), (aI k (a 5) 240 ftext)] H := hP
      replace hD : va_D A [(aI k (a 25) 4 (nF bm)), (aI k (a 26) 48 (upd fbarSeen (Int32.toNatClampNeg (nI (12 * ru))) 0)), (aI k (a 27) 48 fbarFrom), (aI k (a 28) 4 fruleRounds), ((a 0), .inr (8, (fX8 a (nI tx) fp (nI t0__5) wd__3 (nI we__3) nu__5 (nI nq_6) (nI rd) ts (nI ru) (nI rw) (nI ca) df db sd))), (aI k (a 5) 240 ftext)] := hD
      rw [nI_clamp (n := (12 * ru)) (by omega)] at hP hD
      replace hP : va_P D classes [(aI k (a 25) 4 (nF bm)), (aI k (a 26) 48 (upd fbarSeen (12 * ru) 0)), (aI k (a 27) 48 fbarFrom), (aI k (a 28) 4 fruleRounds), ((a 0), .inr (8, (fX8 a (nI tx) fp (nI t0__5) wd__3 (nI we__3) nu__5 (nI nq_6) (nI rd) ts (nI ru) (nI rw) (nI ca) df db sd))), (aI k (a 5) 240 ftext)] H := hP
      replace hD : va_D A [(aI k (a 25) 4 (nF bm)), (aI k (a 26) 48 (upd fbarSeen (12 * ru) 0)), (aI k (a 27) 48 fbarFrom), (aI k (a 28) 4 fruleRounds), ((a 0), .inr (8, (fX8 a (nI tx) fp (nI t0__5) wd__3 (nI we__3) nu__5 (nI nq_6) (nI rd) ts (nI ru) (nI rw) (nI ca) df db sd))), (aI k (a 5) 240 ftext)] := hD
      refine lv_aload_n hx hb dX8_takeRule_50 rfl (lv_at hl 2 rfl) ?_
      refine va_get (D := D) (ci := 8) (v := .ref (a 27)) (C := RX8) (T := TX8) (N := 44) hx hb hts inX8 hown hK hP 4 rfl rfl 26 (by decide) (hts _ tw_999) (fun _ h9 => h9) rfl dX8_takeRule_51 ?_
      refine lv_bipush (v := 12) hx hb dX8_takeRule_54 (by decide) ?_
      refine lv_aload_n hx hb dX8_takeRule_56 rfl (lv_at hl 2 rfl) ?_
      refine va_get (D := D) (ci := 8) (v := .int (nI ru)) (C := RX8) (T := TX8) (N := 44) hx hb hts inX8 hown hK hP 4 rfl rfl 23 (by decide) (hts _ tw_996) (fun _ h9 => h9) rfl dX8_takeRule_57 ?_
      refine lv_imul hx hb dX8_takeRule_60 ?_
      refine lv_ti (y := (nI (12 * ru))) (pk_mul 12 ru) ?_
      refine lv_aload_n hx hb dX8_takeRule_61 rfl (lv_at hl 2 rfl) ?_
      refine va_get (D := D) (ci := 8) (v := .int nu__5) (C := RX8) (T := TX8) (N := 44) hx hb hts inX8 hown hK hP 4 rfl rfl 10 (by decide) (hts _ tw_983) (fun _ h9 => h9) rfl dX8_takeRule_62 ?_
      refine va_iast hx hb hK hP hD hS 2 1 rfl rfl (vp_in_nI (by omega) (by decide)) dX8_takeRule_65 (fun H locs hP hD hS => ?_)
      replace hP : va_P D classes [(aI k (a 25) 4 (nF bm)), (aI k (a 26) 48 (upd fbarSeen (12 * ru) 0)), (aI k (a 27) 48 (upd fbarFrom (Int32.toNatClampNeg (nI (12 * ru))) nu__5)), (aI k (a 28) 4 fruleRounds), ((a 0), .inr (8, (fX8 a (nI tx) fp (nI t0__5) wd__3 (nI we__3) nu__5 (nI nq_6) (nI rd) ts (nI ru) (nI rw) (nI ca) df db sd))), (aI k (a 5) 240 ftext)] H := hP
      replace hD : va_D A [(aI k (a 25) 4 (nF bm)), (aI k (a 26) 48 (upd fbarSeen (12 * ru) 0)), (aI k (a 27) 48 (upd fbarFrom (Int32.toNatClampNeg (nI (12 * ru))) nu__5)), (aI k (a 28) 4 fruleRounds), ((a 0), .inr (8, (fX8 a (nI tx) fp (nI t0__5) wd__3 (nI we__3) nu__5 (nI nq_6) (nI rd) ts (nI ru) (nI rw) (nI ca) df db sd))), (aI k (a 5) 240 ftext)] := hD
      rw [nI_clamp (n := (12 * ru)) (by omega)] at hP hD
      replace hP : va_P D classes [(aI k (a 25) 4 (nF bm)), (aI k (a 26) 48 (upd fbarSeen (12 * ru) 0)), (aI k (a 27) 48 (upd fbarFrom (12 * ru) nu__5)), (aI k (a 28) 4 fruleRounds), ((a 0), .inr (8, (fX8 a (nI tx) fp (nI t0__5) wd__3 (nI we__3) nu__5 (nI nq_6) (nI rd) ts (nI ru) (nI rw) (nI ca) df db sd))), (aI k (a 5) 240 ftext)] H := hP
      replace hD : va_D A [(aI k (a 25) 4 (nF bm)), (aI k (a 26) 48 (upd fbarSeen (12 * ru) 0)), (aI k (a 27) 48 (upd fbarFrom (12 * ru) nu__5)), (aI k (a 28) 4 fruleRounds), ((a 0), .inr (8, (fX8 a (nI tx) fp (nI t0__5) wd__3 (nI we__3) nu__5 (nI nq_6) (nI rd) ts (nI ru) (nI rw) (nI ca) df db sd))), (aI k (a 5) 240 ftext)] := hD
      refine lv_aload_n hx hb dX8_takeRule_66 rfl (lv_at hl 2 rfl) ?_
      refine va_get (D := D) (ci := 8) (v := .ref (a 25)) (C := RX8) (T := TX8) (N := 44) hx hb hts inX8 hown hK hP 4 rfl rfl 24 (by decide) (hts _ tw_997) (fun _ h9 => h9) rfl dX8_takeRule_67 ?_
      refine lv_aload_n hx hb dX8_takeRule_70 rfl (lv_at hl 2 rfl) ?_
      refine va_get (D := D) (ci := 8) (v := .int (nI ru)) (C := RX8) (T := TX8) (N := 44) hx hb hts inX8 hown hK hP 4 rfl rfl 23 (by decide) (hts _ tw_996) (fun _ h9 => h9) rfl dX8_takeRule_71 ?_
      refine lv_iconst (v := 1) hx hb dX8_takeRule_74 (by decide) ?_
      refine va_iast hx hb hK hP hD hS 0 1 rfl rfl (vp_in_nI (by omega) (by decide)) dX8_takeRule_75 (fun H locs hP hD hS => ?_)
      replace hP : va_P D classes [(aI k (a 25) 4 (upd (nF bm) (Int32.toNatClampNeg (nI ru)) 1)), (aI k (a 26) 48 (upd fbarSeen (12 * ru) 0)), (aI k (a 27) 48 (upd fbarFrom (12 * ru) nu__5)), (aI k (a 28) 4 fruleRounds), ((a 0), .inr (8, (fX8 a (nI tx) fp (nI t0__5) wd__3 (nI we__3) nu__5 (nI nq_6) (nI rd) ts (nI ru) (nI rw) (nI ca) df db sd))), (aI k (a 5) 240 ftext)] H := hP
      replace hD : va_D A [(aI k (a 25) 4 (upd (nF bm) (Int32.toNatClampNeg (nI ru)) 1)), (aI k (a 26) 48 (upd fbarSeen (12 * ru) 0)), (aI k (a 27) 48 (upd fbarFrom (12 * ru) nu__5)), (aI k (a 28) 4 fruleRounds), ((a 0), .inr (8, (fX8 a (nI tx) fp (nI t0__5) wd__3 (nI we__3) nu__5 (nI nq_6) (nI rd) ts (nI ru) (nI rw) (nI ca) df db sd))), (aI k (a 5) 240 ftext)] := hD
      rw [nI_clamp (n := ru) (by omega)] at hP hD
      rw [show upd (nF bm) ru 1 = nF (fun j => if j = ru then 1 else bm j) from nF_upd _ _ _] at hP hD
      obtain ⟨d_11, hd_11⟩ : ∃ z : Nat → Nat, z = (fun j => if j = ru then 1 else bm j) := ⟨_, rfl⟩
      rw [← hd_11] at hP hD
      have hbb_11 : ∀ j, d_11 j ≤ 12 := by rw [hd_11]; exact up_le hbm (by omega)
      have hbu_11 : d_11 ru = 1 := by rw [hd_11]; exact if_pos rfl
      refine lv_aload_n hx hb dX8_takeRule_76 rfl (lv_at hl 2 rfl) ?_
      refine va_get (D := D) (ci := 8) (v := .ref (a 28)) (C := RX8) (T := TX8) (N := 44) hx hb hts inX8 hown hK hP 4 rfl rfl 27 (by decide) (hts _ tw_1000) (fun _ h9 => h9) rfl dX8_takeRule_77 ?_
      refine lv_aload_n hx hb dX8_takeRule_80 rfl (lv_at hl 2 rfl) ?_
      refine va_get (D := D) (ci := 8) (v := .int (nI ru)) (C := RX8) (T := TX8) (N := 44) hx hb hts inX8 hown hK hP 4 rfl rfl 23 (by decide) (hts _ tw_996) (fun _ h9 => h9) rfl dX8_takeRule_81 ?_
      refine lv_iconst (v := 0) hx hb dX8_takeRule_84 (by decide) ?_
      refine va_iast hx hb hK hP hD hS 3 1 rfl rfl (vp_in_nI (by omega) (by decide)) dX8_takeRule_85 (fun H locs hP hD hS => ?_)
      replace hP : va_P D classes [(aI k (a 25) 4 (nF d_11)), (aI k (a 26) 48 (upd fbarSeen (12 * ru) 0)), (aI k (a 27) 48 (upd fbarFrom (12 * ru) nu__5)), (aI k (a 28) 4 (upd fruleRounds (Int32.toNatClampNeg (nI ru)) 0)), ((a 0), .inr (8, (fX8 a (nI tx) fp (nI t0__5) wd__3 (nI we__3) nu__5 (nI nq_6) (nI rd) ts (nI ru) (nI rw) (nI ca) df db sd))), (aI k (a 5) 240 ftext)] H := hP
      replace hD : va_D A [(aI k (a 25) 4 (nF d_11)), (aI k (a 26) 48 (upd fbarSeen (12 * ru) 0)), (aI k (a 27) 48 (upd fbarFrom (12 * ru) nu__5)), (aI k (a 28) 4 (upd fruleRounds (Int32.toNatClampNeg (nI ru)) 0)), ((a 0), .inr (8, (fX8 a (nI tx) fp (nI t0__5) wd__3 (nI we__3) nu__5 (nI nq_6) (nI rd) ts (nI ru) (nI rw) (nI ca) df db sd))), (aI k (a 5) 240 ftext)] := hD
      rw [nI_clamp (n := ru) (by omega)] at hP hD
      replace hP : va_P D classes [(aI k (a 25) 4 (nF d_11)), (aI k (a 26) 48 (upd fbarSeen (12 * ru) 0)), (aI k (a 27) 48 (upd fbarFrom (12 * ru) nu__5)), (aI k (a 28) 4 (upd fruleRounds ru 0)), ((a 0), .inr (8, (fX8 a (nI tx) fp (nI t0__5) wd__3 (nI we__3) nu__5 (nI nq_6) (nI rd) ts (nI ru) (nI rw) (nI ca) df db sd))), (aI k (a 5) 240 ftext)] H := hP
      replace hD : va_D A [(aI k (a 25) 4 (nF d_11)), (aI k (a 26) 48 (upd fbarSeen (12 * ru) 0)), (aI k (a 27) 48 (upd fbarFrom (12 * ru) nu__5)), (aI k (a 28) 4 (upd fruleRounds ru 0)), ((a 0), .inr (8, (fX8 a (nI tx) fp (nI t0__5) wd__3 (nI we__3) nu__5 (nI nq_6) (nI rd) ts (nI ru) (nI rw) (nI ca) df db sd))), (aI k (a 5) 240 ftext)] := hD
      obtain ⟨fs_13, hfs_13⟩ : ∃ z : Nat → Int32, z = (upd fbarSeen (12 * ru) 0) := ⟨_, rfl⟩
      obtain ⟨ff_13, hff_13⟩ : ∃ z : Nat → Int32, z = (upd fbarFrom (12 * ru) nu__5) := ⟨_, rfl⟩
      obtain ⟨rr_13, hrr_13⟩ : ∃ z : Nat → Int32, z = (upd fruleRounds ru 0) := ⟨_, rfl⟩
      rw [← hfs_13, ← hff_13, ← hrr_13] at hP hD
      have hK0_13 : ruK ru bm d_11 fbarSeen fs_13 fbarFrom ff_13 := by rw [hfs_13, hff_13]; exact ruK_tr (ruK_s (by omega)) (ruK_tr (ruK_f (by omega)) (ruK_b hd_11))
      have hb0_13 : d_11 ru = 1 := by rw [hd_11]; exact if_pos rfl
      have hs0_13 : fs_13 (12 * ru) = 0 := by rw [hfs_13]; exact pk_us
      have hf0_13 : ff_13 (12 * ru) = nu__5 := by rw [hff_13]; exact pk_us
      have hr0_13 : rr_13 ru = 0 := by rw [hrr_13]; exact pk_us
      have hrk_13 : ∀ q, q ≠ ru → rr_13 q = fruleRounds q := by rw [hrr_13]; exact fun q hq => pk_un hq
      refine lv_iload_n hx hb dX8_takeRule_86 rfl (lv_at hl 0 rfl) ?_
      refine lv_if_ne (tgt := 101) hx hb dX8_takeRule_87 (by decide) (fun h => absurd (by decide) h) (fun _ => ?_)
      refine lv_aload_n hx hb dX8_takeRule_90 rfl (lv_at hl 2 rfl) ?_
      refine rw_i (D := D) (wr := [(aI k (a 25) 4 (nF d_11)), (aI k (a 26) 48 fs_13), (aI k (a 27) 48 ff_13), (aI k (a 28) 4 rr_13)]) (va_runV (As := []) (rest := []) ⟨hx, hb, hml, hown, hts⟩ ((n_here l D k st lo a tx t0__5 we__3 rd ru rw ca fp wd__3 nu__5 (nI nq_6) ts df db sd ftext (by first | assumption | omega) (by first | assumption | omega)) H.size) (cwV 0 hts (gV tw_1120 tw_1122 tw_27 tw_87 tw_1123) rfl rfl rfl (by decide +kernel) ⟨Nat.le_of_ble_eq_true rfl, Nat.le_of_ble_eq_true rfl⟩) (pV hS hAlo hlo hP hK (va_Dlo hD hAlo) hZ [4, 5] (by decide) rfl (ci := 8) (q := (RX8, TX8, 44)) (q0 := 0) rfl rfl) rfl rfl hl.1 rfl (lv_room (Nat.le_of_ble_eq_true rfl)) dX8_takeRule_91 ⟨Nat.le_of_ble_eq_true rfl, Nat.le_of_ble_eq_true rfl⟩) hS hA hP hD [4, 5] [0, 1, 2, 3] rfl rfl (by decide) (by decide) (fun r_14 u H locs hw_14 hP hD hS => ?_)
      obtain ⟨t0__14, rfl⟩ : ∃ z, z = u := ⟨_, rfl⟩
      replace hP : va_P D classes [(aI k (a 25) 4 (nF d_11)), (aI k (a 26) 48 fs_13), (aI k (a 27) 48 ff_13), (aI k (a 28) 4 rr_13), ((a 0), .inr (8, (fX8 a (nI tx) fp (nI t0__14) wd__3 (nI we__3) nu__5 (nI nq_6) (nI rd) ts (nI ru) (nI rw) (nI ca) df db sd))), (aI k (a 5) 240 ftext)] H := hP
      replace hD : va_D A [(aI k (a 25) 4 (nF d_11)), (aI k (a 26) 48 fs_13), (aI k (a 27) 48 ff_13), (aI k (a 28) 4 rr_13), ((a 0), .inr (8, (fX8 a (nI tx) fp (nI t0__14) wd__3 (nI we__3) nu__5 (nI nq_6) (nI rd) ts (nI ru) (nI rw) (nI ca) df db sd))), (aI k (a 5) 240 ftext)] := hD
      try dsimp only at hw_14
      refine lv_if_lt (tgt := 101) hx hb dX8_takeRule_94 (by decide) (fun c_15 => ?_) (fun c_15 => ?_)
      · have hge_16 := by_neg hty hw_14.2.1 c_15
        refine lv_iconst (v := 0) hx hb dX8_takeRule_101 (by decide) ?_
        refine lv_istore (lv' := [(4, .int 0), (3, .int 0), (1, .long 131638), (0, .ref (a 0))]) hx hb dX8_takeRule_102 hl (by decide) rfl (fun ls hl => ?_)
        refine lv_iload hx hb dX8_takeRule_104 (lv_at hl 0 rfl) ?_
        refine lv_if_eq (tgt := 198) hx hb dX8_takeRule_106 (by decide) (fun _ => ?_) (fun h => absurd (by decide) h)
        refine lv_iload_n hx hb dX8_takeRule_198 rfl (lv_at hl 1 rfl) ?_
        refine lv_if_le (tgt := 206) hx hb dX8_takeRule_199 (by decide) (fun _ => ?_) (fun h => absurd (by decide) h)
        refine lv_aload_n hx hb dX8_takeRule_206 rfl (lv_at hl 3 rfl) ?_
        refine rw_i (D := D) (wr := [(aI k (a 25) 4 (nF d_11)), (aI k (a 26) 48 fs_13), (aI k (a 27) 48 ff_13), (aI k (a 28) 4 rr_13)]) (va_runV (As := []) (rest := []) ⟨hx, hb, hml, hown, hts⟩ ((n_here l D k st lo a tx t0__14 we__3 rd ru rw ca fp wd__3 nu__5 (nI nq_6) ts df db sd ftext (by first | assumption | omega) (by first | assumption | omega)) H.size) (cwV 0 hts (gV tw_1120 tw_1122 tw_27 tw_87 tw_1123) rfl rfl rfl (by decide +kernel) ⟨Nat.le_of_ble_eq_true rfl, Nat.le_of_ble_eq_true rfl⟩) (pV hS hAlo hlo hP hK (va_Dlo hD hAlo) hZ [4, 5] (by decide) rfl (ci := 8) (q := (RX8, TX8, 44)) (q0 := 0) rfl rfl) rfl rfl hl.1 rfl (lv_room (Nat.le_of_ble_eq_true rfl)) dX8_takeRule_207 ⟨Nat.le_of_ble_eq_true rfl, Nat.le_of_ble_eq_true rfl⟩) hS hA hP hD [4, 5] [0, 1, 2, 3] rfl rfl (by decide) (by decide) (fun r_17 u H locs hw_17 hP hD hS => ?_)
        obtain ⟨t0__17, rfl⟩ : ∃ z, z = u := ⟨_, rfl⟩
        replace hP : va_P D classes [(aI k (a 25) 4 (nF d_11)), (aI k (a 26) 48 fs_13), (aI k (a 27) 48 ff_13), (aI k (a 28) 4 rr_13), ((a 0), .inr (8, (fX8 a (nI tx) fp (nI t0__17) wd__3 (nI we__3) nu__5 (nI nq_6) (nI rd) ts (nI ru) (nI rw) (nI ca) df db sd))), (aI k (a 5) 240 ftext)] H := hP
        replace hD : va_D A [(aI k (a 25) 4 (nF d_11)), (aI k (a 26) 48 fs_13), (aI k (a 27) 48 ff_13), (aI k (a 28) 4 rr_13), ((a 0), .inr (8, (fX8 a (nI tx) fp (nI t0__17) wd__3 (nI we__3) nu__5 (nI nq_6) (nI rd) ts (nI ru) (nI rw) (nI ca) df db sd))), (aI k (a 5) 240 ftext)] := hD
        try dsimp only at hw_17
        refine lv_if_lt (tgt := 225) hx hb dX8_takeRule_210 (by decide) (fun c_18 => ?_) (fun c_18 => ?_)
        · refine lv_iconst (v := 0) hx hb dX8_takeRule_225 (by decide) ?_
          have hP9 := hP.sub (ws' := [((a 0), .inr (8, (fX8 a (nI tx) fp (nI t0__17) wd__3 (nI we__3) nu__5 (nI nq_6) (nI rd) ts (nI ru) (nI rw) (nI ca) df db sd))), (aI k (a 5) 240 ftext), (aI k (a 25) 4 (nF d_11)), (aI k (a 26) 48 fs_13), (aI k (a 27) 48 ff_13), (aI k (a 28) 4 rr_13)]) [4, 5, 0, 1, 2, 3] rfl
          have hD9 := hD.sub (ws' := [((a 0), .inr (8, (fX8 a (nI tx) fp (nI t0__17) wd__3 (nI we__3) nu__5 (nI nq_6) (nI rd) ts (nI ru) (nI rw) (nI ca) df db sd))), (aI k (a 5) 240 ftext), (aI k (a 25) 4 (nF d_11)), (aI k (a 26) 48 fs_13), (aI k (a 27) 48 ff_13), (aI k (a 28) 4 rr_13)]) [4, 5, 0, 1, 2, 3] (by decide) rfl
          exact W.iret (v := 0) hx hb hr (fun t ht hW => ⟨⟨0, (t0__17, wd__3, we__3, fp, nu__5, (nI nq_6), d_11, fs_13, ff_13, rr_13), rfl, ⟨.inl ⟨rfl, (rf_o hH_7 (rl_end (show ¬ skA ftext tx t0__5 < tx by rw [← hw_14.1]; exact hge_16))).trans (by unfold ruM; rw [hf0_13, hb0_13, hr0_13, clp_0, clp_0]; rfl), rfl⟩, fun q hq => ruM_K hK0_13 hrk_13 hbm hq, hbb_11⟩, by rw [ht]; exact hP9, hD9⟩, hS.F ht⟩) hS.2.2 dX8_takeRule_226
        · have hlz_19 := by_pos hw_17.2.1 c_18
          rw [hw_17.1, hw_14.1, skA_idem] at hlz_19
          exact absurd hlz_19 (by rw [← hw_14.1]; exact hge_16)
      · have hlt_20 := by_pos hw_14.2.1 c_15
        refine lv_iconst (v := 1) hx hb dX8_takeRule_97 (by decide) ?_
        refine lv_goto (tgt := 102) hx hb dX8_takeRule_98 (by decide) ?_
        refine lv_istore (lv' := [(4, .int 1), (3, .int 0), (1, .long 131638), (0, .ref (a 0))]) hx hb dX8_takeRule_102 hl (by decide) rfl (fun ls hl => ?_)
        refine W_loop (σ := Nat × Int64 × Nat × Int32 × Int32 × Int32 × (Nat → Int32) × (Nat → Int32) × (Nat → Nat)) (fun (n_ : Nat) (x_ : Nat × Int64 × Nat × Int32 × Int32 × Int32 × (Nat → Int32) × (Nat → Int32) × (Nat → Nat)) (H : Heap) (locs : List Loc) (ls : Array Slot) => match x_ with | (t_21, wd2_21, we2_21, fp2_21, nu2_21, na2_21, fs2_21, ff2_21, b2_21) => n_ = tx - t_21 ∧ (t_21 ≤ tx ∧ skA ftext tx t_21 < tx ∧ 1 ≤ b2_21 ru ∧ 8 * b2_21 ru ≤ t_21 + 4 ∧ (∀ j, b2_21 j ≤ 12) ∧ fp2_21 = fp ∧ fs2_21 (12 * ru) = 0 ∧ ff2_21 (12 * ru) = nu__5 ∧ ruK ru bm b2_21 fbarSeen fs2_21 fbarFrom ff2_21 ∧ ruL ftext tx (25 - b2_21 ru) t_21 (b2_21 ru - 1, clp (b2_21 ru - 1) (fun i => fs2_21 (12 * ru + 1 + i)), clp (b2_21 ru - 1) (fun i => ff2_21 (12 * ru + 1 + i))) = (ruL ftext tx 24 t0__5 ru0)) ∧ va_P D classes [(aI k (a 25) 4 (nF b2_21)), (aI k (a 26) 48 fs2_21), (aI k (a 27) 48 ff2_21), (aI k (a 28) 4 rr_13), ((a 0), .inr (8, (fX8 a (nI tx) fp2_21 (nI t_21) wd2_21 (nI we2_21) nu2_21 na2_21 (nI rd) ts (nI ru) (nI rw) (nI ca) df db sd))), (aI k (a 5) 240 ftext)] H ∧ va_D A [(aI k (a 25) 4 (nF b2_21)), (aI k (a 26) 48 fs2_21), (aI k (a 27) 48 ff2_21), (aI k (a 28) 4 rr_13), ((a 0), .inr (8, (fX8 a (nI tx) fp2_21 (nI t_21) wd2_21 (nI we2_21) nu2_21 na2_21 (nI rd) ts (nI ru) (nI rw) (nI ca) df db sd))), (aI k (a 5) 240 ftext)] ∧ va_S A s.heap H locs ∧ lv_has ls 5 [(4, .int 1), (1, .long 131638), (0, .ref (a 0))]) (fun n_21 x_21 H locs ls hI ih_21 => ?_) _ (t0__14, wd__3, we__3, fp, nu__5, (nI nq_6), fs_13, ff_13, d_11) ⟨rfl, ⟨by omega, (by rw [hw_14.1, skA_idem, ← hw_14.1]; exact hlt_20), by omega, by omega, hbb_11, rfl, hs0_13, hf0_13, hK0_13, by rw [hb0_13, hw_14.1, ruL_sk, clp_0, clp_0]; rfl⟩, hP, hD, hS, (lv_sub hl [0, 2, 3] rfl)⟩
        obtain ⟨t_21, wd2_21, we2_21, fp2_21, nu2_21, na2_21, fs2_21, ff2_21, b2_21⟩ := x_21
        obtain ⟨hm_21, hv_21, hP, hD, hS, hl⟩ := hI
        subst hm_21
        have hbl_21 := hv_21.2.2.2.2.1
        have hst_21 := hv_21.2.2.2.2.2.2.2.2.2
        obtain rfl : fp = fp2_21 := (hv_21.2.2.2.2.2.1).symm
        refine lv_iload hx hb dX8_takeRule_104 (lv_at hl 0 rfl) ?_
        refine lv_if_eq (tgt := 198) hx hb dX8_takeRule_106 (by decide) (fun h => absurd h (by decide)) (fun _ => ?_)
        refine lv_aload_n hx hb dX8_takeRule_109 rfl (lv_at hl 2 rfl) ?_
        refine rw_v (D := D) (wr := [(aI k (a 25) 4 (nF b2_21)), (aI k (a 26) 48 fs2_21), (aI k (a 27) 48 ff2_21), (aI k (a 28) 4 rr_13)]) (va_runV (As := []) (rest := []) ⟨hx, hb, hml, hown, hts⟩ ((n_readWord l D k st lo a tx t_21 we2_21 rd ru rw ca fp wd2_21 nu2_21 na2_21 ts df db sd ftext (by first | assumption | omega) (by first | assumption | omega)) H.size) (cwV 0 hts (gV tw_1128 tw_1130 tw_29 tw_87 tw_1131) rfl rfl rfl (by decide +kernel) ⟨Nat.le_of_ble_eq_true rfl, Nat.le_of_ble_eq_true rfl⟩) (pV hS hAlo hlo hP hK (va_Dlo hD hAlo) hZ [4, 5] (by decide) rfl (ci := 8) (q := (RX8, TX8, 44)) (q0 := 0) rfl rfl) rfl rfl hl.1 rfl (lv_room (Nat.le_of_ble_eq_true rfl)) dX8_takeRule_110 ⟨Nat.le_of_ble_eq_true rfl, Nat.le_of_ble_eq_true rfl⟩) hS hA hP hD [4, 5] [0, 1, 2, 3] rfl rfl (by decide) (by decide) (fun u H locs hw_22 hP hD hS => ?_)
        obtain ⟨t0__22, wd__22, we__22⟩ := u
        replace hP : va_P D classes [(aI k (a 25) 4 (nF b2_21)), (aI k (a 26) 48 fs2_21), (aI k (a 27) 48 ff2_21), (aI k (a 28) 4 rr_13), ((a 0), .inr (8, (fX8 a (nI tx) fp (nI t0__22) wd__22 (nI we__22) nu2_21 na2_21 (nI rd) ts (nI ru) (nI rw) (nI ca) df db sd))), (aI k (a 5) 240 ftext)] H := hP
        replace hD : va_D A [(aI k (a 25) 4 (nF b2_21)), (aI k (a 26) 48 fs2_21), (aI k (a 27) 48 ff2_21), (aI k (a 28) 4 rr_13), ((a 0), .inr (8, (fX8 a (nI tx) fp (nI t0__22) wd__22 (nI we__22) nu2_21 na2_21 (nI rd) ts (nI ru) (nI rw) (nI ca) df db sd))), (aI k (a 5) 240 ftext)] := hD
        try dsimp only at hw_22
        refine lv_aload_n hx hb dX8_takeRule_113 rfl (lv_at hl 2 rfl) ?_
        refine va_get (D := D) (ci := 8) (v := .long wd__22) (C := RX8) (T := TX8) (N := 44) hx hb hts inX8 hown hK hP 4 rfl rfl 8 (by decide) (hts _ tw_981) (fun _ h9 => h9) rfl dX8_takeRule_114 ?_
        refine lv_bipush (v := 114) hx hb dX8_takeRule_117 (by decide) ?_
        refine lv_bipush (v := 111) hx hb dX8_takeRule_119 (by decide) ?_
        refine lv_bipush (v := 117) hx hb dX8_takeRule_121 (by decide) ?_
        refine ro_l (D := D) (va_runS (As := [.int 114, .int 111, .int 117]) (rest := [.long wd__22]) ⟨hx, hb, hml, hown, hts⟩ ((n_code l D k st lo 114 111 117) H.size) (va_cwS 3 hts (gS tw_1142 tw_1143 tw_87 tw_1144) rfl rfl rfl (by decide +kernel) ⟨Nat.le_of_ble_eq_true rfl, Nat.le_of_ble_eq_true rfl⟩) (pS hS hAlo hlo hP hK (va_Dlo hD hAlo) hZ [] (by decide) rfl) rfl rfl hl.1 rfl (lv_room (Nat.le_of_ble_eq_true rfl)) dX8_takeRule_123 ⟨Nat.le_of_ble_eq_true rfl, Nat.le_of_ble_eq_true rfl⟩) hS hA hP (fun r_23 H locs hw_23 hP hS => ?_)
        try dsimp only at hw_23
        obtain rfl : r_23 = 13548 := hw_23.trans (by decide)
        refine lv_bipush (v := 110) hx hb dX8_takeRule_126 (by decide) ?_
        refine lv_bipush (v := 100) hx hb dX8_takeRule_128 (by decide) ?_
        refine ro_l (D := D) (va_runS (As := [.long 13548, .int 110, .int 100]) (rest := [.long wd__22]) ⟨hx, hb, hml, hown, hts⟩ ((n_longest l D k st lo 13548 110 100) H.size) (va_cwS 3 hts (gS tw_1145 tw_1146 tw_87 tw_1147) rfl rfl rfl (by decide +kernel) ⟨Nat.le_of_ble_eq_true rfl, Nat.le_of_ble_eq_true rfl⟩) (pS hS hAlo hlo hP hK (va_Dlo hD hAlo) hZ [] (by decide) rfl) rfl rfl hl.1 rfl (lv_room (Nat.le_of_ble_eq_true rfl)) dX8_takeRule_130 ⟨Nat.le_of_ble_eq_true rfl, Nat.le_of_ble_eq_true rfl⟩) hS hA hP (fun r_24 H locs hw_24 hP hS => ?_)
        try dsimp only at hw_24
        obtain rfl : r_24 = 9876874 := hw_24.trans (by decide)
        refine W.lcmp hx hb dX8_takeRule_133 ?_
        refine lv_if_ne (tgt := 171) hx hb dX8_takeRule_134 (by decide) (fun c_25 => ?_) (fun c_25 => ?_)
        · have hnr_26 : ¬ letA ftext tx t0__22 = (sByt.getD 7 []) := fun h => lgn c_25 ((wd_ro letA_all hw_22.2.2.1).mpr h)
          refine lv_aload_n hx hb dX8_takeRule_171 rfl (lv_at hl 2 rfl) ?_
          refine lv_lload_n hx hb dX8_takeRule_172 rfl (lv_at hl 1 rfl) ?_
          refine rw_i (D := D) (wr := [(aI k (a 28) 4 rr_13)]) (va_runV (As := [.long 131638]) (rest := []) ⟨hx, hb, hml, hown, hts⟩ ((n_takeSeen l D k st lo a tx t0__22 we__22 rd ru rw ca fp wd__22 nu2_21 na2_21 ts df db sd ftext b2_21 fs2_21 ff2_21 (by first | assumption | omega) (by first | assumption | omega) hbl_21 (by first | assumption | omega) (by first | assumption | omega) hv_21.2.2.2.2.2.2.1) H.size) (cwV 1 hts (gV tw_1313 tw_1315 tw_56 tw_87 tw_1316) rfl rfl rfl (by decide +kernel) ⟨Nat.le_of_ble_eq_true rfl, Nat.le_of_ble_eq_true rfl⟩) (pV hS hAlo hlo hP hK (va_Dlo hD hAlo) hZ [4, 5, 0, 1, 2] (by decide) rfl (ci := 8) (q := (RX8, TX8, 44)) (q0 := 0) rfl rfl) rfl rfl hl.1 rfl (lv_room (Nat.le_of_ble_eq_true rfl)) dX8_takeRule_173 ⟨Nat.le_of_ble_eq_true rfl, Nat.le_of_ble_eq_true rfl⟩) hS hA hP hD [4, 5, 0, 1, 2] [3] rfl rfl (by decide) (by decide) (fun r_27 u H locs hw_27 hP hD hS => ?_)
          obtain ⟨t0__27, wd__27, we__27, fp__27, nu__27, na__27, bm__27, fbarSeen__27, fbarFrom__27⟩ := u
          replace hP : va_P D classes [(aI k (a 28) 4 rr_13), ((a 0), .inr (8, (fX8 a (nI tx) fp__27 (nI t0__27) wd__27 (nI we__27) nu__27 na__27 (nI rd) ts (nI ru) (nI rw) (nI ca) df db sd))), (aI k (a 5) 240 ftext), (aI k (a 25) 4 (nF bm__27)), (aI k (a 26) 48 fbarSeen__27), (aI k (a 27) 48 fbarFrom__27)] H := hP
          replace hD : va_D A [(aI k (a 28) 4 rr_13), ((a 0), .inr (8, (fX8 a (nI tx) fp__27 (nI t0__27) wd__27 (nI we__27) nu__27 na__27 (nI rd) ts (nI ru) (nI rw) (nI ca) df db sd))), (aI k (a 5) 240 ftext), (aI k (a 25) 4 (nF bm__27)), (aI k (a 26) 48 fbarSeen__27), (aI k (a 27) 48 fbarFrom__27)] := hD
          try dsimp only at hw_27
          rcases hw_27 with ⟨⟨rfl, v1_28, v3_28, hd_28, hbq_28, hfs_28, hff_28, hfp_28⟩ | ⟨e_28, pl_28, rfl, he1_28, he2_28, hp1_28, hp2_28, rfl⟩, hK_28, hw_27⟩
          · replace hfp_28 := hfp_28.symm
            subst hfp_28
            have hgt_28 := hw_27.2.2.2 rfl
            refine lv_istore_n (lv' := [(3, .int 0), (4, .int 1), (1, .long 131638), (0, .ref (a 0))]) hx hb dX8_takeRule_176 rfl hl (by decide) rfl (fun ls hl => ?_)
            refine lv_iload_n hx hb dX8_takeRule_177 rfl (lv_at hl 0 rfl) ?_
            refine lv_if_ne (tgt := 192) hx hb dX8_takeRule_178 (by decide) (fun h => absurd (by decide) h) (fun _ => ?_)
            refine lv_aload_n hx hb dX8_takeRule_181 rfl (lv_at hl 3 rfl) ?_
            refine rw_i (D := D) (wr := [(aI k (a 28) 4 rr_13), (aI k (a 25) 4 (nF bm__27)), (aI k (a 26) 48 fbarSeen__27), (aI k (a 27) 48 fbarFrom__27)]) (va_runV (As := []) (rest := []) ⟨hx, hb, hml, hown, hts⟩ ((n_here l D k st lo a tx t0__27 we__27 rd ru rw ca fp wd__27 nu__27 na__27 ts df db sd ftext (by first | assumption | omega) (by first | assumption | omega)) H.size) (cwV 0 hts (gV tw_1120 tw_1122 tw_27 tw_87 tw_1123) rfl rfl rfl (by decide +kernel) ⟨Nat.le_of_ble_eq_true rfl, Nat.le_of_ble_eq_true rfl⟩) (pV hS hAlo hlo hP hK (va_Dlo hD hAlo) hZ [1, 2] (by decide) rfl (ci := 8) (q := (RX8, TX8, 44)) (q0 := 0) rfl rfl) rfl rfl hl.1 rfl (lv_room (Nat.le_of_ble_eq_true rfl)) dX8_takeRule_182 ⟨Nat.le_of_ble_eq_true rfl, Nat.le_of_ble_eq_true rfl⟩) hS hA hP hD [1, 2] [0, 3, 4, 5] rfl rfl (by decide) (by decide) (fun r_29 u H locs hw_29 hP hD hS => ?_)
            obtain ⟨t0__29, rfl⟩ : ∃ z, z = u := ⟨_, rfl⟩
            replace hP : va_P D classes [(aI k (a 28) 4 rr_13), (aI k (a 25) 4 (nF bm__27)), (aI k (a 26) 48 fbarSeen__27), (aI k (a 27) 48 fbarFrom__27), ((a 0), .inr (8, (fX8 a (nI tx) fp (nI t0__29) wd__27 (nI we__27) nu__27 na__27 (nI rd) ts (nI ru) (nI rw) (nI ca) df db sd))), (aI k (a 5) 240 ftext)] H := hP
            replace hD : va_D A [(aI k (a 28) 4 rr_13), (aI k (a 25) 4 (nF bm__27)), (aI k (a 26) 48 fbarSeen__27), (aI k (a 27) 48 fbarFrom__27), ((a 0), .inr (8, (fX8 a (nI tx) fp (nI t0__29) wd__27 (nI we__27) nu__27 na__27 (nI rd) ts (nI ru) (nI rw) (nI ca) df db sd))), (aI k (a 5) 240 ftext)] := hD
            try dsimp only at hw_29
            refine lv_if_lt (tgt := 192) hx hb dX8_takeRule_185 (by decide) (fun c_30 => ?_) (fun c_30 => ?_)
            · have hge_31 := by_neg hty hw_29.2.1 c_30
              refine lv_iconst (v := 0) hx hb dX8_takeRule_192 (by decide) ?_
              refine lv_istore (lv' := [(4, .int 0), (3, .int 0), (1, .long 131638), (0, .ref (a 0))]) hx hb dX8_takeRule_193 hl (by decide) rfl (fun ls hl => ?_)
              refine lv_goto (tgt := 104) hx hb dX8_takeRule_195 (by decide) ?_
              refine lv_iload hx hb dX8_takeRule_104 (lv_at hl 0 rfl) ?_
              refine lv_if_eq (tgt := 198) hx hb dX8_takeRule_106 (by decide) (fun _ => ?_) (fun h => absurd (by decide) h)
              refine lv_iload_n hx hb dX8_takeRule_198 rfl (lv_at hl 1 rfl) ?_
              refine lv_if_le (tgt := 206) hx hb dX8_takeRule_199 (by decide) (fun _ => ?_) (fun h => absurd (by decide) h)
              refine lv_aload_n hx hb dX8_takeRule_206 rfl (lv_at hl 3 rfl) ?_
              refine rw_i (D := D) (wr := [(aI k (a 28) 4 rr_13), (aI k (a 25) 4 (nF bm__27)), (aI k (a 26) 48 fbarSeen__27), (aI k (a 27) 48 fbarFrom__27)]) (va_runV (As := []) (rest := []) ⟨hx, hb, hml, hown, hts⟩ ((n_here l D k st lo a tx t0__29 we__27 rd ru rw ca fp wd__27 nu__27 na__27 ts df db sd ftext (by first | assumption | omega) (by first | assumption | omega)) H.size) (cwV 0 hts (gV tw_1120 tw_1122 tw_27 tw_87 tw_1123) rfl rfl rfl (by decide +kernel) ⟨Nat.le_of_ble_eq_true rfl, Nat.le_of_ble_eq_true rfl⟩) (pV hS hAlo hlo hP hK (va_Dlo hD hAlo) hZ [4, 5] (by decide) rfl (ci := 8) (q := (RX8, TX8, 44)) (q0 := 0) rfl rfl) rfl rfl hl.1 rfl (lv_room (Nat.le_of_ble_eq_true rfl)) dX8_takeRule_207 ⟨Nat.le_of_ble_eq_true rfl, Nat.le_of_ble_eq_true rfl⟩) hS hA hP hD [4, 5] [0, 1, 2, 3] rfl rfl (by decide) (by decide) (fun r_32 u H locs hw_32 hP hD hS => ?_)
              obtain ⟨t0__32, rfl⟩ : ∃ z, z = u := ⟨_, rfl⟩
              replace hP : va_P D classes [(aI k (a 28) 4 rr_13), (aI k (a 25) 4 (nF bm__27)), (aI k (a 26) 48 fbarSeen__27), (aI k (a 27) 48 fbarFrom__27), ((a 0), .inr (8, (fX8 a (nI tx) fp (nI t0__32) wd__27 (nI we__27) nu__27 na__27 (nI rd) ts (nI ru) (nI rw) (nI ca) df db sd))), (aI k (a 5) 240 ftext)] H := hP
              replace hD : va_D A [(aI k (a 28) 4 rr_13), (aI k (a 25) 4 (nF bm__27)), (aI k (a 26) 48 fbarSeen__27), (aI k (a 27) 48 fbarFrom__27), ((a 0), .inr (8, (fX8 a (nI tx) fp (nI t0__32) wd__27 (nI we__27) nu__27 na__27 (nI rd) ts (nI ru) (nI rw) (nI ca) df db sd))), (aI k (a 5) 240 ftext)] := hD
              try dsimp only at hw_32
              refine lv_if_lt (tgt := 225) hx hb dX8_takeRule_210 (by decide) (fun c_33 => ?_) (fun c_33 => ?_)
              · refine lv_iconst (v := 0) hx hb dX8_takeRule_225 (by decide) ?_
                have hbv_28 : bm__27 ru = b2_21 ru + 1 := by rw [hbq_28]; exact if_pos rfl
                have hP9 := hP.sub (ws' := [((a 0), .inr (8, (fX8 a (nI tx) fp (nI t0__32) wd__27 (nI we__27) nu__27 na__27 (nI rd) ts (nI ru) (nI rw) (nI ca) df db sd))), (aI k (a 5) 240 ftext), (aI k (a 25) 4 (nF bm__27)), (aI k (a 26) 48 fbarSeen__27), (aI k (a 27) 48 fbarFrom__27), (aI k (a 28) 4 rr_13)]) [4, 5, 1, 2, 3, 0] rfl
                have hD9 := hD.sub (ws' := [((a 0), .inr (8, (fX8 a (nI tx) fp (nI t0__32) wd__27 (nI we__27) nu__27 na__27 (nI rd) ts (nI ru) (nI rw) (nI ca) df db sd))), (aI k (a 5) 240 ftext), (aI k (a 25) 4 (nF bm__27)), (aI k (a 26) 48 fbarSeen__27), (aI k (a 27) 48 fbarFrom__27), (aI k (a 28) 4 rr_13)]) [4, 5, 1, 2, 3, 0] (by decide) rfl
                exact W.iret (v := 0) hx hb hr (fun t ht hW => ⟨⟨0, (t0__32, wd__27, we__27, fp, nu__27, na__27, bm__27, fbarSeen__27, fbarFrom__27, rr_13), rfl, ⟨.inl ⟨rfl, (rf_o hH_7 (hst_21.symm.trans ((rl_s0 (σ := (b2_21 ru - 1, clp (b2_21 ru - 1) (fun i => fs2_21 (12 * ru + 1 + i)), clp (b2_21 ru - 1) (fun i => ff2_21 (12 * ru + 1 + i)))) (by omega) (seR_clp.trans (by rw [← hw_22.1]; exact hd_28))).trans (rl_end (show ¬ skA ftext tx _ < tx by rw [← hw_29.1]; exact hge_31))))).trans (by unfold ruM; rw [hbv_28, hfs_28, hff_28, hr0_13, pk_un (show 12 * ru ≠ 12 * ru + b2_21 ru by omega), hv_21.2.2.2.2.2.2.2.1, show b2_21 ru + 1 - 1 = b2_21 ru by omega, ← sg_new (by omega), ← sg_new (by omega), show b2_21 ru - 1 + 1 = b2_21 ru by omega]), rfl⟩, fun q hq => ruM_K (ruK_tr hv_21.2.2.2.2.2.2.2.2.1 hK_28) hrk_13 hbm hq, hw_27.2.2.1⟩, by rw [ht]; exact hP9, hD9⟩, hS.F ht⟩) hS.2.2 dX8_takeRule_226
              · have hlz_34 := by_pos hw_32.2.1 c_33
                rw [hw_32.1, hw_29.1, skA_idem] at hlz_34
                exact absurd hlz_34 (by rw [← hw_29.1]; exact hge_31)
            · have hlt_35 := by_pos hw_29.2.1 c_30
              refine lv_iconst (v := 1) hx hb dX8_takeRule_188 (by decide) ?_
              refine lv_goto (tgt := 193) hx hb dX8_takeRule_189 (by decide) ?_
              refine lv_istore (lv' := [(4, .int 1), (3, .int 0), (1, .long 131638), (0, .ref (a 0))]) hx hb dX8_takeRule_193 hl (by decide) rfl (fun ls hl => ?_)
              refine lv_goto (tgt := 104) hx hb dX8_takeRule_195 (by decide) ?_
              have hbv_28 : bm__27 ru = b2_21 ru + 1 := by rw [hbq_28]; exact if_pos rfl
              exact ih_21 _ (t0__29, wd__27, we__27, fp, nu__27, na__27, fbarSeen__27, fbarFrom__27, bm__27) _ _ _ (by omega) ⟨rfl, ⟨by omega, (by rw [hw_29.1, skA_idem, ← hw_29.1]; exact hlt_35), by omega, by omega, hw_27.2.2.1, rfl, (by rw [hfs_28, pk_un (by omega)]; exact hv_21.2.2.2.2.2.2.1), (by rw [hff_28, pk_un (by omega)]; exact hv_21.2.2.2.2.2.2.2.1), ruK_tr hv_21.2.2.2.2.2.2.2.2.1 hK_28, (by rw [← hst_21, rl_s0 (σ := (b2_21 ru - 1, clp (b2_21 ru - 1) (fun i => fs2_21 (12 * ru + 1 + i)), clp (b2_21 ru - 1) (fun i => ff2_21 (12 * ru + 1 + i)))) (by omega) (seR_clp.trans (by rw [← hw_22.1]; exact hd_28)), hw_29.1, ruL_sk, hbq_28, hfs_28, hff_28]; show ruL ftext tx (25 - (if ru = ru then b2_21 ru + 1 else b2_21 ru)) _ ((if ru = ru then b2_21 ru + 1 else b2_21 ru) - 1, clp ((if ru = ru then b2_21 ru + 1 else b2_21 ru) - 1) _, clp ((if ru = ru then b2_21 ru + 1 else b2_21 ru) - 1) _) = _; rw [if_pos rfl, show b2_21 ru + 1 - 1 = b2_21 ru by omega, ← sg_new (by omega), ← sg_new (by omega), show 25 - (b2_21 ru + 1) = 25 - b2_21 ru - 1 by omega, show b2_21 ru - 1 + 1 = b2_21 ru by omega])⟩, (hP.sub [1, 2, 3, 0, 4, 5] rfl), (hD.sub [1, 2, 3, 0, 4, 5] (by decide) rfl), hS, (lv_sub hl [0, 2, 3] rfl)⟩
          · refine lv_istore_n (lv' := [(3, .int (nI e_28)), (4, .int 1), (1, .long 131638), (0, .ref (a 0))]) hx hb dX8_takeRule_176 rfl hl (by decide) rfl (fun ls hl => ?_)
            refine lv_iload_n hx hb dX8_takeRule_177 rfl (lv_at hl 0 rfl) ?_
            refine lv_if_ne (tgt := 192) hx hb dX8_takeRule_178 (by decide) (fun _ => ?_) (fun h => absurd ((nI_eq (a := e_28) (b := 0) (by omega) (by omega)).mp h) (by omega))
            refine lv_iconst (v := 0) hx hb dX8_takeRule_192 (by decide) ?_
            refine lv_istore (lv' := [(4, .int 0), (3, .int (nI e_28)), (1, .long 131638), (0, .ref (a 0))]) hx hb dX8_takeRule_193 hl (by decide) rfl (fun ls hl => ?_)
            refine lv_goto (tgt := 104) hx hb dX8_takeRule_195 (by decide) ?_
            refine lv_iload hx hb dX8_takeRule_104 (lv_at hl 0 rfl) ?_
            refine lv_if_eq (tgt := 198) hx hb dX8_takeRule_106 (by decide) (fun _ => ?_) (fun h => absurd (by decide) h)
            refine lv_iload_n hx hb dX8_takeRule_198 rfl (lv_at hl 1 rfl) ?_
            refine lv_if_le (tgt := 206) hx hb dX8_takeRule_199 (by decide) (fun h => absurd ((nI_leI (a := e_28) (b := 0) (by omega) (by omega)).mp h) (by omega)) (fun _ => ?_)
            refine lv_iload_n hx hb dX8_takeRule_202 rfl (lv_at hl 1 rfl) ?_
            refine lv_goto (tgt := 226) hx hb dX8_takeRule_203 (by decide) ?_
            have hP9 := hP.sub (ws' := [((a 0), .inr (8, (fX8 a (nI tx) (nI pl_28) (nI t0__27) wd__27 (nI we__27) nu__27 na__27 (nI rd) ts (nI ru) (nI rw) (nI ca) df db sd))), (aI k (a 5) 240 ftext), (aI k (a 25) 4 (nF bm__27)), (aI k (a 26) 48 fbarSeen__27), (aI k (a 27) 48 fbarFrom__27), (aI k (a 28) 4 rr_13)]) [1, 2, 3, 4, 5, 0] rfl
            have hD9 := hD.sub (ws' := [((a 0), .inr (8, (fX8 a (nI tx) (nI pl_28) (nI t0__27) wd__27 (nI we__27) nu__27 na__27 (nI rd) ts (nI ru) (nI rw) (nI ca) df db sd))), (aI k (a 5) 240 ftext), (aI k (a 25) 4 (nF bm__27)), (aI k (a 26) 48 fbarSeen__27), (aI k (a 27) 48 fbarFrom__27), (aI k (a 28) 4 rr_13)]) [1, 2, 3, 4, 5, 0] (by decide) rfl
            exact W.iret (v := (nI e_28)) hx hb hr (fun t ht hW => ⟨⟨(nI e_28), (t0__27, wd__27, we__27, (nI pl_28), nu__27, na__27, bm__27, fbarSeen__27, fbarFrom__27, rr_13), rfl, ⟨.inr ⟨e_28, pl_28, rfl, by omega, by omega, (rf_l (e := e_28) (p := pl_28) hH_7 (by rw [← hst_21]; exact (rl_s1 (e := e_28) (p := pl_28) (σ := (b2_21 ru - 1, clp (b2_21 ru - 1) (fun i => fs2_21 (12 * ru + 1 + i)), clp (b2_21 ru - 1) (fun i => ff2_21 (12 * ru + 1 + i)))) (by omega) hv_21.2.1 (by rw [← hw_22.1]; exact hnr_26) ((congrArg (fun z => z.1) seR_clp).trans (by rw [← hw_22.1]; exact hp1_28)) he1_28 ((congrArg (fun z => z.2.1) seR_clp).trans (by rw [← hw_22.1]; exact hp2_28))).1) (by rw [← hst_21]; exact (rl_s1 (e := e_28) (p := pl_28) (σ := (b2_21 ru - 1, clp (b2_21 ru - 1) (fun i => fs2_21 (12 * ru + 1 + i)), clp (b2_21 ru - 1) (fun i => ff2_21 (12 * ru + 1 + i)))) (by omega) hv_21.2.1 (by rw [← hw_22.1]; exact hnr_26) ((congrArg (fun z => z.1) seR_clp).trans (by rw [← hw_22.1]; exact hp1_28)) he1_28 ((congrArg (fun z => z.2.1) seR_clp).trans (by rw [← hw_22.1]; exact hp2_28))).2)).1, (rf_l (e := e_28) (p := pl_28) hH_7 (by rw [← hst_21]; exact (rl_s1 (e := e_28) (p := pl_28) (σ := (b2_21 ru - 1, clp (b2_21 ru - 1) (fun i => fs2_21 (12 * ru + 1 + i)), clp (b2_21 ru - 1) (fun i => ff2_21 (12 * ru + 1 + i)))) (by omega) hv_21.2.1 (by rw [← hw_22.1]; exact hnr_26) ((congrArg (fun z => z.1) seR_clp).trans (by rw [← hw_22.1]; exact hp1_28)) he1_28 ((congrArg (fun z => z.2.1) seR_clp).trans (by rw [← hw_22.1]; exact hp2_28))).1) (by rw [← hst_21]; exact (rl_s1 (e := e_28) (p := pl_28) (σ := (b2_21 ru - 1, clp (b2_21 ru - 1) (fun i => fs2_21 (12 * ru + 1 + i)), clp (b2_21 ru - 1) (fun i => ff2_21 (12 * ru + 1 + i)))) (by omega) hv_21.2.1 (by rw [← hw_22.1]; exact hnr_26) ((congrArg (fun z => z.1) seR_clp).trans (by rw [← hw_22.1]; exact hp1_28)) he1_28 ((congrArg (fun z => z.2.1) seR_clp).trans (by rw [← hw_22.1]; exact hp2_28))).2)).2, rfl⟩, fun q hq => ruM_K (ruK_tr hv_21.2.2.2.2.2.2.2.2.1 hK_28) hrk_13 hbm hq, hw_27.2.2.1⟩, by rw [ht]; exact hP9, hD9⟩, hS.F ht⟩) hS.2.2 dX8_takeRule_226
        · have hro_38 : letA ftext tx t0__22 = (sByt.getD 7 []) := (wd_ro letA_all hw_22.2.2.1).mp (lgc0 c_25)
          refine lv_aload_n hx hb dX8_takeRule_137 rfl (lv_at hl 2 rfl) ?_
          refine lv_aload_n hx hb dX8_takeRule_138 rfl (lv_at hl 2 rfl) ?_
          refine va_get (D := D) (ci := 8) (v := .int (nI we__22)) (C := RX8) (T := TX8) (N := 44) hx hb hts inX8 hown hK hP 4 rfl rfl 9 (by decide) (hts _ tw_982) (fun _ h9 => h9) rfl dX8_takeRule_139 ?_
          refine va_put (D := D) (ci := 8) (v := .int (nI we__22)) (ty := .int) (C := RX8) (T := TX8) (N := 44) hx hb hts inX8 tyX8 tyX8_ok nmX8 hown hK hP hD hS 4 rfl rfl 7 (by decide) (hts _ tw_980) (fun _ h9 => h9) rfl (by decide +kernel) rfl rfl (Nat.le_of_ble_eq_true rfl) dX8_takeRule_142 (fun H locs hP hD hS => ?_)
          replace hP : va_P D classes [(aI k (a 25) 4 (nF b2_21)), (aI k (a 26) 48 fs2_21), (aI k (a 27) 48 ff2_21), (aI k (a 28) 4 rr_13), ((a 0), .inr (8, (fX8 a (nI tx) fp (nI we__22) wd__22 (nI we__22) nu2_21 na2_21 (nI rd) ts (nI ru) (nI rw) (nI ca) df db sd))), (aI k (a 5) 240 ftext)] H := hP
          replace hD : va_D A [(aI k (a 25) 4 (nF b2_21)), (aI k (a 26) 48 fs2_21), (aI k (a 27) 48 ff2_21), (aI k (a 28) 4 rr_13), ((a 0), .inr (8, (fX8 a (nI tx) fp (nI we__22) wd__22 (nI we__22) nu2_21 na2_21 (nI rd) ts (nI ru) (nI rw) (nI ca) df db sd))), (aI k (a 5) 240 ftext)] := hD
          rw [hw_22.1] at hro_38
          have hwe_39 : we__22 = skA ftext tx t_21 + 5 := by rw [hw_22.2.1, hw_22.1, hro_38]; rfl
          have hLr_39 : (ruL ftext tx 24 t0__5 ru0) = ((roR ftext tx t_21).1, (roR ftext tx t_21).2.1, (b2_21 ru - 1, clp (b2_21 ru - 1) (fun i => fs2_21 (12 * ru + 1 + i)), clp (b2_21 ru - 1) (fun i => ff2_21 (12 * ru + 1 + i))), (roR ftext tx t_21).2.2) := hst_21.symm.trans (rl_no (fun h => seRn (hro_38.symm.trans h)))
          refine lv_aload_n hx hb dX8_takeRule_145 rfl (lv_at hl 2 rfl) ?_
          refine lv_iconst (v := 0) hx hb dX8_takeRule_146 (by decide) ?_
          refine lv_iconst (v := 3) hx hb dX8_takeRule_147 (by decide) ?_
          refine rw_i (D := D) (wr := [(aI k (a 25) 4 (nF b2_21)), (aI k (a 26) 48 fs2_21), (aI k (a 27) 48 ff2_21), (aI k (a 28) 4 rr_13)]) (va_runV (As := [.int 0, .int 3]) (rest := []) ⟨hx, hb, hml, hown, hts⟩ ((n_takeNumber l D k st lo a tx we__22 we__22 rd ru rw ca fp wd__22 nu2_21 na2_21 ts df db sd ftext 0 3 (by first | assumption | omega) (by first | assumption | omega)) H.size) (cwV 2 hts (gV tw_1159 tw_1161 tw_33 tw_87 tw_1162) rfl rfl rfl (by decide +kernel) ⟨Nat.le_of_ble_eq_true rfl, Nat.le_of_ble_eq_true rfl⟩) (pV hS hAlo hlo hP hK (va_Dlo hD hAlo) hZ [4, 5] (by decide) rfl (ci := 8) (q := (RX8, TX8, 44)) (q0 := 0) rfl rfl) rfl rfl hl.1 rfl (lv_room (Nat.le_of_ble_eq_true rfl)) dX8_takeRule_148 ⟨Nat.le_of_ble_eq_true rfl, Nat.le_of_ble_eq_true rfl⟩) hS hA hP hD [4, 5] [0, 1, 2, 3] rfl rfl (by decide) (by decide) (fun r_40 u H locs hw_40 hP hD hS => ?_)
          obtain ⟨t0__40, nu__40, na__40, fp__40⟩ := u
          replace hP : va_P D classes [(aI k (a 25) 4 (nF b2_21)), (aI k (a 26) 48 fs2_21), (aI k (a 27) 48 ff2_21), (aI k (a 28) 4 rr_13), ((a 0), .inr (8, (fX8 a (nI tx) fp__40 (nI t0__40) wd__22 (nI we__22) nu__40 na__40 (nI rd) ts (nI ru) (nI rw) (nI ca) df db sd))), (aI k (a 5) 240 ftext)] H := hP
          replace hD : va_D A [(aI k (a 25) 4 (nF b2_21)), (aI k (a 26) 48 fs2_21), (aI k (a 27) 48 ff2_21), (aI k (a 28) 4 rr_13), ((a 0), .inr (8, (fX8 a (nI tx) fp__40 (nI t0__40) wd__22 (nI we__22) nu__40 na__40 (nI rd) ts (nI ru) (nI rw) (nI ca) df db sd))), (aI k (a 5) 240 ftext)] := hD
          try dsimp only at hw_40
          obtain ⟨nq_41, rfl, hq_41, hw_40⟩ := hw_40
          rcases hq_41 with ⟨rfl, hq_41, hfp_41⟩ | ⟨rfl, pl_41, hq_41, rfl⟩ | ⟨rfl, pl_41, hq_41, rfl⟩
          · replace hfp_41 := hfp_41.symm
            subst hfp_41
            refine lv_istore_n (lv' := [(3, .int 0), (4, .int 1), (1, .long 131638), (0, .ref (a 0))]) hx hb dX8_takeRule_151 rfl hl (by decide) rfl (fun ls hl => ?_)
            rw [hwe_39] at hq_41
            refine lv_aload_n hx hb dX8_takeRule_152 rfl (lv_at hl 3 rfl) ?_
            refine va_get (D := D) (ci := 8) (v := .ref (a 28)) (C := RX8) (T := TX8) (N := 44) hx hb hts inX8 hown hK hP 4 rfl rfl 27 (by decide) (hts _ tw_1000) (fun _ h9 => h9) rfl dX8_takeRule_153 ?_
            refine lv_aload_n hx hb dX8_takeRule_156 rfl (lv_at hl 3 rfl) ?_
            refine va_get (D := D) (ci := 8) (v := .int (nI ru)) (C := RX8) (T := TX8) (N := 44) hx hb hts inX8 hown hK hP 4 rfl rfl 23 (by decide) (hts _ tw_996) (fun _ h9 => h9) rfl dX8_takeRule_157 ?_
            refine lv_aload_n hx hb dX8_takeRule_160 rfl (lv_at hl 3 rfl) ?_
            refine va_get (D := D) (ci := 8) (v := .int nu__40) (C := RX8) (T := TX8) (N := 44) hx hb hts inX8 hown hK hP 4 rfl rfl 10 (by decide) (hts _ tw_983) (fun _ h9 => h9) rfl dX8_takeRule_161 ?_
            refine va_iast hx hb hK hP hD hS 3 1 rfl rfl (vp_in_nI (by omega) (by decide)) dX8_takeRule_164 (fun H locs hP hD hS => ?_)
            replace hP : va_P D classes [(aI k (a 25) 4 (nF b2_21)), (aI k (a 26) 48 fs2_21), (aI k (a 27) 48 ff2_21), (aI k (a 28) 4 (upd rr_13 (Int32.toNatClampNeg (nI ru)) nu__40)), ((a 0), .inr (8, (fX8 a (nI tx) fp (nI t0__40) wd__22 (nI we__22) nu__40 (nI nq_41) (nI rd) ts (nI ru) (nI rw) (nI ca) df db sd))), (aI k (a 5) 240 ftext)] H := hP
            replace hD : va_D A [(aI k (a 25) 4 (nF b2_21)), (aI k (a 26) 48 fs2_21), (aI k (a 27) 48 ff2_21), (aI k (a 28) 4 (upd rr_13 (Int32.toNatClampNeg (nI ru)) nu__40)), ((a 0), .inr (8, (fX8 a (nI tx) fp (nI t0__40) wd__22 (nI we__22) nu__40 (nI nq_41) (nI rd) ts (nI ru) (nI rw) (nI ca) df db sd))), (aI k (a 5) 240 ftext)] := hD
            rw [nI_clamp (n := ru) (by omega)] at hP hD
            replace hP : va_P D classes [(aI k (a 25) 4 (nF b2_21)), (aI k (a 26) 48 fs2_21), (aI k (a 27) 48 ff2_21), (aI k (a 28) 4 (upd rr_13 ru nu__40)), ((a 0), .inr (8, (fX8 a (nI tx) fp (nI t0__40) wd__22 (nI we__22) nu__40 (nI nq_41) (nI rd) ts (nI ru) (nI rw) (nI ca) df db sd))), (aI k (a 5) 240 ftext)] H := hP
            replace hD : va_D A [(aI k (a 25) 4 (nF b2_21)), (aI k (a 26) 48 fs2_21), (aI k (a 27) 48 ff2_21), (aI k (a 28) 4 (upd rr_13 ru nu__40)), ((a 0), .inr (8, (fX8 a (nI tx) fp (nI t0__40) wd__22 (nI we__22) nu__40 (nI nq_41) (nI rd) ts (nI ru) (nI rw) (nI ca) df db sd))), (aI k (a 5) 240 ftext)] := hD
            refine lv_iconst (v := 0) hx hb dX8_takeRule_165 (by decide) ?_
            refine lv_istore (lv' := [(4, .int 0), (3, .int 0), (1, .long 131638), (0, .ref (a 0))]) hx hb dX8_takeRule_166 hl (by decide) rfl (fun ls hl => ?_)
            refine lv_goto (tgt := 104) hx hb dX8_takeRule_168 (by decide) ?_
            refine lv_iload hx hb dX8_takeRule_104 (lv_at hl 0 rfl) ?_
            refine lv_if_eq (tgt := 198) hx hb dX8_takeRule_106 (by decide) (fun _ => ?_) (fun h => absurd (by decide) h)
            refine lv_iload_n hx hb dX8_takeRule_198 rfl (lv_at hl 1 rfl) ?_
            refine lv_if_le (tgt := 206) hx hb dX8_takeRule_199 (by decide) (fun _ => ?_) (fun h => absurd (by decide) h)
            refine lv_aload_n hx hb dX8_takeRule_206 rfl (lv_at hl 3 rfl) ?_
            refine rw_i (D := D) (wr := [(aI k (a 25) 4 (nF b2_21)), (aI k (a 26) 48 fs2_21), (aI k (a 27) 48 ff2_21), (aI k (a 28) 4 (upd rr_13 ru nu__40))]) (va_runV (As := []) (rest := []) ⟨hx, hb, hml, hown, hts⟩ ((n_here l D k st lo a tx t0__40 we__22 rd ru rw ca fp wd__22 nu__40 (nI nq_41) ts df db sd ftext (by first | assumption | omega) (by first | assumption | omega)) H.size) (cwV 0 hts (gV tw_1120 tw_1122 tw_27 tw_87 tw_1123) rfl rfl rfl (by decide +kernel) ⟨Nat.le_of_ble_eq_true rfl, Nat.le_of_ble_eq_true rfl⟩) (pV hS hAlo hlo hP hK (va_Dlo hD hAlo) hZ [4, 5] (by decide) rfl (ci := 8) (q := (RX8, TX8, 44)) (q0 := 0) rfl rfl) rfl rfl hl.1 rfl (lv_room (Nat.le_of_ble_eq_true rfl)) dX8_takeRule_207 ⟨Nat.le_of_ble_eq_true rfl, Nat.le_of_ble_eq_true rfl⟩) hS hA hP hD [4, 5] [0, 1, 2, 3] rfl rfl (by decide) (by decide) (fun r_43 u H locs hw_43 hP hD hS => ?_)
            obtain ⟨t0__43, rfl⟩ : ∃ z, z = u := ⟨_, rfl⟩
            replace hP : va_P D classes [(aI k (a 25) 4 (nF b2_21)), (aI k (a 26) 48 fs2_21), (aI k (a 27) 48 ff2_21), (aI k (a 28) 4 (upd rr_13 ru nu__40)), ((a 0), .inr (8, (fX8 a (nI tx) fp (nI t0__43) wd__22 (nI we__22) nu__40 (nI nq_41) (nI rd) ts (nI ru) (nI rw) (nI ca) df db sd))), (aI k (a 5) 240 ftext)] H := hP
            replace hD : va_D A [(aI k (a 25) 4 (nF b2_21)), (aI k (a 26) 48 fs2_21), (aI k (a 27) 48 ff2_21), (aI k (a 28) 4 (upd rr_13 ru nu__40)), ((a 0), .inr (8, (fX8 a (nI tx) fp (nI t0__43) wd__22 (nI we__22) nu__40 (nI nq_41) (nI rd) ts (nI ru) (nI rw) (nI ca) df db sd))), (aI k (a 5) 240 ftext)] := hD
            try dsimp only at hw_43
            refine lv_if_lt (tgt := 225) hx hb dX8_takeRule_210 (by decide) (fun c_44 => ?_) (fun c_44 => ?_)
            · refine lv_iconst (v := 0) hx hb dX8_takeRule_225 (by decide) ?_
              have hP9 := hP.sub (ws' := [((a 0), .inr (8, (fX8 a (nI tx) fp (nI t0__43) wd__22 (nI we__22) nu__40 (nI nq_41) (nI rd) ts (nI ru) (nI rw) (nI ca) df db sd))), (aI k (a 5) 240 ftext), (aI k (a 25) 4 (nF b2_21)), (aI k (a 26) 48 fs2_21), (aI k (a 27) 48 ff2_21), (aI k (a 28) 4 (upd rr_13 ru nu__40))]) [4, 5, 0, 1, 2, 3] rfl
              have hD9 := hD.sub (ws' := [((a 0), .inr (8, (fX8 a (nI tx) fp (nI t0__43) wd__22 (nI we__22) nu__40 (nI nq_41) (nI rd) ts (nI ru) (nI rw) (nI ca) df db sd))), (aI k (a 5) 240 ftext), (aI k (a 25) 4 (nF b2_21)), (aI k (a 26) 48 fs2_21), (aI k (a 27) 48 ff2_21), (aI k (a 28) 4 (upd rr_13 ru nu__40))]) [4, 5, 0, 1, 2, 3] (by decide) rfl
              exact W.iret (v := 0) hx hb hr (fun t ht hW => ⟨⟨0, (t0__43, wd__22, we__22, fp, nu__40, (nI nq_41), b2_21, fs2_21, ff2_21, (upd rr_13 ru nu__40)), rfl, ⟨.inl ⟨rfl, (rf_o hH_7 (hLr_39.trans (by rw [ro_1o hro_38 hq_41 (show ¬ skA ftext tx _ < tx by rw [← hw_43.1]; exact by_neg hty hw_43.2.1 c_44)]))).trans (by unfold ruM; rw [hv_21.2.2.2.2.2.2.2.1, pk_us]), rfl⟩, fun q hq => ruM_K hv_21.2.2.2.2.2.2.2.2.1 (fun q hq => (pk_un hq).trans (hrk_13 q hq)) hbm hq, hbl_21⟩, by rw [ht]; exact hP9, hD9⟩, hS.F ht⟩) hS.2.2 dX8_takeRule_226
            · refine lv_aload_n hx hb dX8_takeRule_213 rfl (lv_at hl 3 rfl) ?_
              refine lv_iconst (v := 1) hx hb dX8_takeRule_214 (by decide) ?_
              refine lv_aload_n hx hb dX8_takeRule_215 rfl (lv_at hl 3 rfl) ?_
              refine va_get (D := D) (ci := 8) (v := .int (nI t0__43)) (C := RX8) (T := TX8) (N := 44) hx hb hts inX8 hown hK hP 4 rfl rfl 7 (by decide) (hts _ tw_980) (fun _ h9 => h9) rfl dX8_takeRule_216 ?_
              refine rw_i (D := D) (wr := [(aI k (a 25) 4 (nF b2_21)), (aI k (a 26) 48 fs2_21), (aI k (a 27) 48 ff2_21), (aI k (a 28) 4 (upd rr_13 ru nu__40)), (aI k (a 5) 240 ftext)]) (va_runV (As := [.int 1, .int (nI t0__43)]) (rest := []) ⟨hx, hb, hml, hown, hts⟩ ((n_fails l D k st lo a tx t0__43 we__22 rd ru rw ca fp wd__22 nu__40 (nI nq_41) ts df db sd 1 (nI t0__43)) H.size) (cwV 2 hts (gV tw_1151 tw_1153 tw_31 tw_87 tw_1154) rfl rfl rfl (by decide +kernel) ⟨Nat.le_of_ble_eq_true rfl, Nat.le_of_ble_eq_true rfl⟩) (pV hS hAlo hlo hP hK (va_Dlo hD hAlo) hZ [4] (by decide) rfl (ci := 8) (q := (RX8, TX8, 44)) (q0 := 0) rfl rfl) rfl rfl hl.1 rfl (lv_room (Nat.le_of_ble_eq_true rfl)) dX8_takeRule_219 ⟨Nat.le_of_ble_eq_true rfl, Nat.le_of_ble_eq_true rfl⟩) hS hA hP hD [4] [0, 1, 2, 3, 5] rfl rfl (by decide) (by decide) (fun r_45 u H locs hw_45 hP hD hS => ?_)
              obtain ⟨fp__45, rfl⟩ : ∃ z, z = u := ⟨_, rfl⟩
              replace hP : va_P D classes [(aI k (a 25) 4 (nF b2_21)), (aI k (a 26) 48 fs2_21), (aI k (a 27) 48 ff2_21), (aI k (a 28) 4 (upd rr_13 ru nu__40)), (aI k (a 5) 240 ftext), ((a 0), .inr (8, (fX8 a (nI tx) fp__45 (nI t0__43) wd__22 (nI we__22) nu__40 (nI nq_41) (nI rd) ts (nI ru) (nI rw) (nI ca) df db sd)))] H := hP
              replace hD : va_D A [(aI k (a 25) 4 (nF b2_21)), (aI k (a 26) 48 fs2_21), (aI k (a 27) 48 ff2_21), (aI k (a 28) 4 (upd rr_13 ru nu__40)), (aI k (a 5) 240 ftext), ((a 0), .inr (8, (fX8 a (nI tx) fp__45 (nI t0__43) wd__22 (nI we__22) nu__40 (nI nq_41) (nI rd) ts (nI ru) (nI rw) (nI ca) df db sd)))] := hD
              try dsimp only at hw_45
              obtain ⟨hs0_46, hs1_46⟩ := hw_45
              replace hs0_46 := hs0_46.symm
              subst hs0_46
              replace hs1_46 := hs1_46.symm
              subst hs1_46
              refine lv_goto (tgt := 226) hx hb dX8_takeRule_222 (by decide) ?_
              have hP9 := hP.sub (ws' := [((a 0), .inr (8, (fX8 a (nI tx) (nI t0__43) (nI t0__43) wd__22 (nI we__22) nu__40 (nI nq_41) (nI rd) ts (nI ru) (nI rw) (nI ca) df db sd))), (aI k (a 5) 240 ftext), (aI k (a 25) 4 (nF b2_21)), (aI k (a 26) 48 fs2_21), (aI k (a 27) 48 ff2_21), (aI k (a 28) 4 (upd rr_13 ru nu__40))]) [5, 4, 0, 1, 2, 3] rfl
              have hD9 := hD.sub (ws' := [((a 0), .inr (8, (fX8 a (nI tx) (nI t0__43) (nI t0__43) wd__22 (nI we__22) nu__40 (nI nq_41) (nI rd) ts (nI ru) (nI rw) (nI ca) df db sd))), (aI k (a 5) 240 ftext), (aI k (a 25) 4 (nF b2_21)), (aI k (a 26) 48 fs2_21), (aI k (a 27) 48 ff2_21), (aI k (a 28) 4 (upd rr_13 ru nu__40))]) [5, 4, 0, 1, 2, 3] (by decide) rfl
              exact W.iret (v := 1) hx hb hr (fun t ht hW => ⟨⟨1, (t0__43, wd__22, we__22, (nI t0__43), nu__40, (nI nq_41), b2_21, fs2_21, ff2_21, (upd rr_13 ru nu__40)), rfl, ⟨.inr ⟨1, t0__43, rfl, by omega, by omega, (rf_l (e := 1) (p := t0__43) hH_7 (by rw [hLr_39, ro_1f hro_38 hq_41 (show skA ftext tx _ < tx by rw [← hw_43.1]; exact by_pos hw_43.2.1 c_44)]) (by rw [hLr_39, ro_1f hro_38 hq_41 (show skA ftext tx _ < tx by rw [← hw_43.1]; exact by_pos hw_43.2.1 c_44)]; exact hw_43.1.symm)).1, (rf_l (e := 1) (p := t0__43) hH_7 (by rw [hLr_39, ro_1f hro_38 hq_41 (show skA ftext tx _ < tx by rw [← hw_43.1]; exact by_pos hw_43.2.1 c_44)]) (by rw [hLr_39, ro_1f hro_38 hq_41 (show skA ftext tx _ < tx by rw [← hw_43.1]; exact by_pos hw_43.2.1 c_44)]; exact hw_43.1.symm)).2, rfl⟩, fun q hq => ruM_K hv_21.2.2.2.2.2.2.2.2.1 (fun q hq => (pk_un hq).trans (hrk_13 q hq)) hbm hq, hbl_21⟩, by rw [ht]; exact hP9, hD9⟩, hS.F ht⟩) hS.2.2 dX8_takeRule_226
          · refine lv_istore_n (lv' := [(3, .int 1), (4, .int 1), (1, .long 131638), (0, .ref (a 0))]) hx hb dX8_takeRule_151 rfl hl (by decide) rfl (fun ls hl => ?_)
            rw [hwe_39] at hq_41
            refine lv_aload_n hx hb dX8_takeRule_152 rfl (lv_at hl 3 rfl) ?_
            refine va_get (D := D) (ci := 8) (v := .ref (a 28)) (C := RX8) (T := TX8) (N := 44) hx hb hts inX8 hown hK hP 4 rfl rfl 27 (by decide) (hts _ tw_1000) (fun _ h9 => h9) rfl dX8_takeRule_153 ?_
            refine lv_aload_n hx hb dX8_takeRule_156 rfl (lv_at hl 3 rfl) ?_
            refine va_get (D := D) (ci := 8) (v := .int (nI ru)) (C := RX8) (T := TX8) (N := 44) hx hb hts inX8 hown hK hP 4 rfl rfl 23 (by decide) (hts _ tw_996) (fun _ h9 => h9) rfl dX8_takeRule_157 ?_
            refine lv_aload_n hx hb dX8_takeRule_160 rfl (lv_at hl 3 rfl) ?_
            refine va_get (D := D) (ci := 8) (v := .int nu__40) (C := RX8) (T := TX8) (N := 44) hx hb hts inX8 hown hK hP 4 rfl rfl 10 (by decide) (hts _ tw_983) (fun _ h9 => h9) rfl dX8_takeRule_161 ?_
            refine va_iast hx hb hK hP hD hS 3 1 rfl rfl (vp_in_nI (by omega) (by decide)) dX8_takeRule_164 (fun H locs hP hD hS => ?_)
            replace hP : va_P D classes [(aI k (a 25) 4 (nF b2_21)), (aI k (a 26) 48 fs2_21), (aI k (a 27) 48 ff2_21), (aI k (a 28) 4 (upd rr_13 (Int32.toNatClampNeg (nI ru)) nu__40)), ((a 0), .inr (8, (fX8 a (nI tx) (nI pl_41) (nI t0__40) wd__22 (nI we__22) nu__40 (nI nq_41) (nI rd) ts (nI ru) (nI rw) (nI ca) df db sd))), (aI k (a 5) 240 ftext)] H := hP
            replace hD : va_D A [(aI k (a 25) 4 (nF b2_21)), (aI k (a 26) 48 fs2_21), (aI k (a 27) 48 ff2_21), (aI k (a 28) 4 (upd rr_13 (Int32.toNatClampNeg (nI ru)) nu__40)), ((a 0), .inr (8, (fX8 a (nI tx) (nI pl_41) (nI t0__40) wd__22 (nI we__22) nu__40 (nI nq_41) (nI rd) ts (nI ru) (nI rw) (nI ca) df db sd))), (aI k (a 5) 240 ftext)] := hD
            rw [nI_clamp (n := ru) (by omega)] at hP hD
            replace hP : va_P D classes [(aI k (a 25) 4 (nF b2_21)), (aI k (a 26) 48 fs2_21), (aI k (a 27) 48 ff2_21), (aI k (a 28) 4 (upd rr_13 ru nu__40)), ((a 0), .inr (8, (fX8 a (nI tx) (nI pl_41) (nI t0__40) wd__22 (nI we__22) nu__40 (nI nq_41) (nI rd) ts (nI ru) (nI rw) (nI ca) df db sd))), (aI k (a 5) 240 ftext)] H := hP
            replace hD : va_D A [(aI k (a 25) 4 (nF b2_21)), (aI k (a 26) 48 fs2_21), (aI k (a 27) 48 ff2_21), (aI k (a 28) 4 (upd rr_13 ru nu__40)), ((a 0), .inr (8, (fX8 a (nI tx) (nI pl_41) (nI t0__40) wd__22 (nI we__22) nu__40 (nI nq_41) (nI rd) ts (nI ru) (nI rw) (nI ca) df db sd))), (aI k (a 5) 240 ftext)] := hD
            refine lv_iconst (v := 0) hx hb dX8_takeRule_165 (by decide) ?_
            refine lv_istore (lv' := [(4, .int 0), (3, .int 1), (1, .long 131638), (0, .ref (a 0))]) hx hb dX8_takeRule_166 hl (by decide) rfl (fun ls hl => ?_)
            refine lv_goto (tgt := 104) hx hb dX8_takeRule_168 (by decide) ?_
            refine lv_iload hx hb dX8_takeRule_104 (lv_at hl 0 rfl) ?_
            refine lv_if_eq (tgt := 198) hx hb dX8_takeRule_106 (by decide) (fun _ => ?_) (fun h => absurd (by decide) h)
            refine lv_iload_n hx hb dX8_takeRule_198 rfl (lv_at hl 1 rfl) ?_
            refine lv_if_le (tgt := 206) hx hb dX8_takeRule_199 (by decide) (fun h => absurd h (by decide)) (fun _ => ?_)
            refine lv_iload_n hx hb dX8_takeRule_202 rfl (lv_at hl 1 rfl) ?_
            refine lv_goto (tgt := 226) hx hb dX8_takeRule_203 (by decide) ?_
            have hP9 := hP.sub (ws' := [((a 0), .inr (8, (fX8 a (nI tx) (nI pl_41) (nI t0__40) wd__22 (nI we__22) nu__40 (nI nq_41) (nI rd) ts (nI ru) (nI rw) (nI ca) df db sd))), (aI k (a 5) 240 ftext), (aI k (a 25) 4 (nF b2_21)), (aI k (a 26) 48 fs2_21), (aI k (a 27) 48 ff2_21), (aI k (a 28) 4 (upd rr_13 ru nu__40))]) [4, 5, 0, 1, 2, 3] rfl
            have hD9 := hD.sub (ws' := [((a 0), .inr (8, (fX8 a (nI tx) (nI pl_41) (nI t0__40) wd__22 (nI we__22) nu__40 (nI nq_41) (nI rd) ts (nI ru) (nI rw) (nI ca) df db sd))), (aI k (a 5) 240 ftext), (aI k (a 25) 4 (nF b2_21)), (aI k (a 26) 48 fs2_21), (aI k (a 27) 48 ff2_21), (aI k (a 28) 4 (upd rr_13 ru nu__40))]) [4, 5, 0, 1, 2, 3] (by decide) rfl
            exact W.iret (v := 1) hx hb hr (fun t ht hW => ⟨⟨1, (t0__40, wd__22, we__22, (nI pl_41), nu__40, (nI nq_41), b2_21, fs2_21, ff2_21, (upd rr_13 ru nu__40)), rfl, ⟨.inr ⟨1, pl_41, rfl, by omega, by omega, (rf_l (e := 1) (p := pl_41) hH_7 (by rw [hLr_39]; exact (ro_1e hro_38 hq_41 (by decide)).1) (by rw [hLr_39]; exact (ro_1e hro_38 hq_41 (by decide)).2)).1, (rf_l (e := 1) (p := pl_41) hH_7 (by rw [hLr_39]; exact (ro_1e hro_38 hq_41 (by decide)).1) (by rw [hLr_39]; exact (ro_1e hro_38 hq_41 (by decide)).2)).2, rfl⟩, fun q hq => ruM_K hv_21.2.2.2.2.2.2.2.2.1 (fun q hq => (pk_un hq).trans (hrk_13 q hq)) hbm hq, hbl_21⟩, by rw [ht]; exact hP9, hD9⟩, hS.F ht⟩) hS.2.2 dX8_takeRule_226
          · refine lv_istore_n (lv' := [(3, .int 2), (4, .int 1), (1, .long 131638), (0, .ref (a 0))]) hx hb dX8_takeRule_151 rfl hl (by decide) rfl (fun ls hl => ?_)
            rw [hwe_39] at hq_41
            refine lv_aload_n hx hb dX8_takeRule_152 rfl (lv_at hl 3 rfl) ?_
            refine va_get (D := D) (ci := 8) (v := .ref (a 28)) (C := RX8) (T := TX8) (N := 44) hx hb hts inX8 hown hK hP 4 rfl rfl 27 (by decide) (hts _ tw_1000) (fun _ h9 => h9) rfl dX8_takeRule_153 ?_
            refine lv_aload_n hx hb dX8_takeRule_156 rfl (lv_at hl 3 rfl) ?_
            refine va_get (D := D) (ci := 8) (v := .int (nI ru)) (C := RX8) (T := TX8) (N := 44) hx hb hts inX8 hown hK hP 4 rfl rfl 23 (by decide) (hts _ tw_996) (fun _ h9 => h9) rfl dX8_takeRule_157 ?_
            refine lv_aload_n hx hb dX8_takeRule_160 rfl (lv_at hl 3 rfl) ?_
            refine va_get (D := D) (ci := 8) (v := .int nu__40) (C := RX8) (T := TX8) (N := 44) hx hb hts inX8 hown hK hP 4 rfl rfl 10 (by decide) (hts _ tw_983) (fun _ h9 => h9) rfl dX8_takeRule_161 ?_
            refine va_iast hx hb hK hP hD hS 3 1 rfl rfl (vp_in_nI (by omega) (by decide)) dX8_takeRule_164 (fun H locs hP hD hS => ?_)
            replace hP : va_P D classes [(aI k (a 25) 4 (nF b2_21)), (aI k (a 26) 48 fs2_21), (aI k (a 27) 48 ff2_21), (aI k (a 28) 4 (upd rr_13 (Int32.toNatClampNeg (nI ru)) nu__40)), ((a 0), .inr (8, (fX8 a (nI tx) (nI pl_41) (nI t0__40) wd__22 (nI we__22) nu__40 (nI nq_41) (nI rd) ts (nI ru) (nI rw) (nI ca) df db sd))), (aI k (a 5) 240 ftext)] H := hP
            replace hD : va_D A [(aI k (a 25) 4 (nF b2_21)), (aI k (a 26) 48 fs2_21), (aI k (a 27) 48 ff2_21), (aI k (a 28) 4 (upd rr_13 (Int32.toNatClampNeg (nI ru)) nu__40)), ((a 0), .inr (8, (fX8 a (nI tx) (nI pl_41) (nI t0__40) wd__22 (nI we__22) nu__40 (nI nq_41) (nI rd) ts (nI ru) (nI rw) (nI ca) df db sd))), (aI k (a 5) 240 ftext)] := hD
            rw [nI_clamp (n := ru) (by omega)] at hP hD
            replace hP : va_P D classes [(aI k (a 25) 4 (nF b2_21)), (aI k (a 26) 48 fs2_21), (aI k (a 27) 48 ff2_21), (aI k (a 28) 4 (upd rr_13 ru nu__40)), ((a 0), .inr (8, (fX8 a (nI tx) (nI pl_41) (nI t0__40) wd__22 (nI we__22) nu__40 (nI nq_41) (nI rd) ts (nI ru) (nI rw) (nI ca) df db sd))), (aI k (a 5) 240 ftext)] H := hP
            replace hD : va_D A [(aI k (a 25) 4 (nF b2_21)), (aI k (a 26) 48 fs2_21), (aI k (a 27) 48 ff2_21), (aI k (a 28) 4 (upd rr_13 ru nu__40)), ((a 0), .inr (8, (fX8 a (nI tx) (nI pl_41) (nI t0__40) wd__22 (nI we__22) nu__40 (nI nq_41) (nI rd) ts (nI ru) (nI rw) (nI ca) df db sd))), (aI k (a 5) 240 ftext)] := hD
            refine lv_iconst (v := 0) hx hb dX8_takeRule_165 (by decide) ?_
            refine lv_istore (lv' := [(4, .int 0), (3, .int 2), (1, .long 131638), (0, .ref (a 0))]) hx hb dX8_takeRule_166 hl (by decide) rfl (fun ls hl => ?_)
            refine lv_goto (tgt := 104) hx hb dX8_takeRule_168 (by decide) ?_
            refine lv_iload hx hb dX8_takeRule_104 (lv_at hl 0 rfl) ?_
            refine lv_if_eq (tgt := 198) hx hb dX8_takeRule_106 (by decide) (fun _ => ?_) (fun h => absurd (by decide) h)
            refine lv_iload_n hx hb dX8_takeRule_198 rfl (lv_at hl 1 rfl) ?_
            refine lv_if_le (tgt := 206) hx hb dX8_takeRule_199 (by decide) (fun h => absurd h (by decide)) (fun _ => ?_)
            refine lv_iload_n hx hb dX8_takeRule_202 rfl (lv_at hl 1 rfl) ?_
            refine lv_goto (tgt := 226) hx hb dX8_takeRule_203 (by decide) ?_
            have hP9 := hP.sub (ws' := [((a 0), .inr (8, (fX8 a (nI tx) (nI pl_41) (nI t0__40) wd__22 (nI we__22) nu__40 (nI nq_41) (nI rd) ts (nI ru) (nI rw) (nI ca) df db sd))), (aI k (a 5) 240 ftext), (aI k (a 25) 4 (nF b2_21)), (aI k (a 26) 48 fs2_21), (aI k (a 27) 48 ff2_21), (aI k (a 28) 4 (upd rr_13 ru nu__40))]) [4, 5, 0, 1, 2, 3] rfl
            have hD9 := hD.sub (ws' := [((a 0), .inr (8, (fX8 a (nI tx) (nI pl_41) (nI t0__40) wd__22 (nI we__22) nu__40 (nI nq_41) (nI rd) ts (nI ru) (nI rw) (nI ca) df db sd))), (aI k (a 5) 240 ftext), (aI k (a 25) 4 (nF b2_21)), (aI k (a 26) 48 fs2_21), (aI k (a 27) 48 ff2_21), (aI k (a 28) 4 (upd rr_13 ru nu__40))]) [4, 5, 0, 1, 2, 3] (by decide) rfl
            exact W.iret (v := 2) hx hb hr (fun t ht hW => ⟨⟨2, (t0__40, wd__22, we__22, (nI pl_41), nu__40, (nI nq_41), b2_21, fs2_21, ff2_21, (upd rr_13 ru nu__40)), rfl, ⟨.inr ⟨2, pl_41, rfl, by omega, by omega, (rf_l (e := 2) (p := pl_41) hH_7 (by rw [hLr_39]; exact (ro_1e hro_38 hq_41 (by decide)).1) (by rw [hLr_39]; exact (ro_1e hro_38 hq_41 (by decide)).2)).1, (rf_l (e := 2) (p := pl_41) hH_7 (by rw [hLr_39]; exact (ro_1e hro_38 hq_41 (by decide)).1) (by rw [hLr_39]; exact (ro_1e hro_38 hq_41 (by decide)).2)).2, rfl⟩, fun q hq => ruM_K hv_21.2.2.2.2.2.2.2.2.1 (fun q hq => (pk_un hq).trans (hrk_13 q hq)) hbm hq, hbl_21⟩, by rw [ht]; exact hP9, hD9⟩, hS.F ht⟩) hS.2.2 dX8_takeRule_226
    · refine lv_istore_n (lv' := [(3, .int 1), (1, .long 131638), (0, .ref (a 0))]) hx hb dX8_takeRule_36 rfl hl (by decide) rfl (fun ls hl => ?_)
      have hH1_49 : (ruH ftext tx t0).1 = 1 := by simp [ruH, hq_4, hq_6, -List.getD_eq_getElem?_getD]
      have hH2_49 : (ruH ftext tx t0).2.1 = pl_6 := by simp [ruH, hq_4, hq_6, -List.getD_eq_getElem?_getD]
      refine lv_aload_n hx hb dX8_takeRule_37 rfl (lv_at hl 2 rfl) ?_
      refine va_get (D := D) (ci := 8) (v := .ref (a 26)) (C := RX8) (T := TX8) (N := 44) hx hb hts inX8 hown hK hP 4 rfl rfl 25 (by decide) (hts _ tw_998) (fun _ h9 => h9) rfl dX8_takeRule_38 ?_
      refine lv_bipush (v := 12) hx hb dX8_takeRule_41 (by decide) ?_
      refine lv_aload_n hx hb dX8_takeRule_43 rfl (lv_at hl 2 rfl) ?_
      refine va_get (D := D) (ci := 8) (v := .int (nI ru)) (C := RX8) (T := TX8) (N := 44) hx hb hts inX8 hown hK hP 4 rfl rfl 23 (by decide) (hts _ tw_996) (fun _ h9 => h9) rfl dX8_takeRule_44 ?_
      refine lv_imul hx hb dX8_takeRule_47 ?_
      refine lv_ti (y := (nI (12 * ru))) (pk_mul 12 ru) ?_
      refine lv_iconst (v := 0) hx hb dX8_takeRule_48 (by decide) ?_
      refine va_iast hx hb hK hP hD hS 1 1 rfl rfl (vp_in_nI (by omega) (by decide)) dX8_takeRule_49 (fun H locs hP hD hS => ?_)
      replace hP : va_P D classes [(aI k (a 25) 4 (nF bm)), (aI k (a 26) 48 (upd fbarSeen (Int32.toNatClampNeg (nI (12 * ru))) 0)), (aI k (a 27) 48 fbarFrom), (aI k (a 28) 4 fruleRounds), ((a 0), .inr (8, (fX8 a (nI tx) (nI pl_6) (nI t0__5) wd__3 (nI we__3) nu__5 (nI nq_6) (nI rd) ts (nI ru) (nI rw) (nI ca) df db sd))), (aI k (a 5) 240 ftext)] H := hP
      replace hD : va_D A [(aI k (a 25) 4 (nF bm)), (aI k (a 26) 48 (upd fbarSeen (Int32.toNatClampNeg (nI (12 * ru))) 0)), (aI k (a 27) 48 fbarFrom), (aI k (a 28) 4 fruleRounds), ((a 0), .inr (8, (fX8 a (nI tx) (nI pl_6) (nI t0__5) wd__3 (nI we__3) nu__5 (nI nq_6) (nI rd) ts (nI ru) (nI rw) (nI ca) df db sd))), (aI k (a 5) 240 ftext)] := hD
      rw [nI_clamp (n := (12 * ru)) (by omega)] at hP hD
      replace hP : va_P D classes [(aI k (a 25) 4 (nF bm)), (aI k (a 26) 48 (upd fbarSeen (12 * ru) 0)), (aI k (a 27) 48 fbarFrom), (aI k (a 28) 4 fruleRounds), ((a 0), .inr (8, (fX8 a (nI tx) (nI pl_6) (nI t0__5) wd__3 (nI we__3) nu__5 (nI nq_6) (nI rd) ts (nI ru) (nI rw) (nI ca) df db sd))), (aI k (a 5) 240 ftext)] H := hP
      replace hD : va_D A [(aI k (a 25) 4 (nF bm)), (aI k (a 26) 48 (upd fbarSeen (12 * ru) 0)), (aI k (a 27) 48 fbarFrom), (aI k (a 28) 4 fruleRounds), ((a 0), .inr (8, (fX8 a (nI tx) (nI pl_6) (nI t0__5) wd__3 (nI we__3) nu__5 (nI nq_6) (nI rd) ts (nI ru) (nI rw) (nI ca) df db sd))), (aI k (a 5) 240 ftext)] := hD
      refine lv_aload_n hx hb dX8_takeRule_50 rfl (lv_at hl 2 rfl) ?_
      refine va_get (D := D) (ci := 8) (v := .ref (a 27)) (C := RX8) (T := TX8) (N := 44) hx hb hts inX8 hown hK hP 4 rfl rfl 26 (by decide) (hts _ tw_999) (fun _ h9 => h9) rfl dX8_takeRule_51 ?_
      refine lv_bipush (v := 12) hx hb dX8_takeRule_54 (by decide) ?_
      refine lv_aload_n hx hb dX8_takeRule_56 rfl (lv_at hl 2 rfl) ?_
      refine va_get (D := D) (ci := 8) (v := .int (nI ru)) (C := RX8) (T := TX8) (N := 44) hx hb hts inX8 hown hK hP 4 rfl rfl 23 (by decide) (hts _ tw_996) (fun _ h9 => h9) rfl dX8_takeRule_57 ?_
      refine lv_imul hx hb dX8_takeRule_60 ?_
      refine lv_ti (y := (nI (12 * ru))) (pk_mul 12 ru) ?_
      refine lv_aload_n hx hb dX8_takeRule_61 rfl (lv_at hl 2 rfl) ?_
      refine va_get (D := D) (ci := 8) (v := .int nu__5) (C := RX8) (T := TX8) (N := 44) hx hb hts inX8 hown hK hP 4 rfl rfl 10 (by decide) (hts _ tw_983) (fun _ h9 => h9) rfl dX8_takeRule_62 ?_
      refine va_iast hx hb hK hP hD hS 2 1 rfl rfl (vp_in_nI (by omega) (by decide)) dX8_takeRule_65 (fun H locs hP hD hS => ?_)
      replace hP : va_P D classes [(aI k (a 25) 4 (nF bm)), (aI k (a 26) 48 (upd fbarSeen (12 * ru) 0)), (aI k (a 27) 48 (upd fbarFrom (Int32.toNatClampNeg (nI (12 * ru))) nu__5)), (aI k (a 28) 4 fruleRounds), ((a 0), .inr (8, (fX8 a (nI tx) (nI pl_6) (nI t0__5) wd__3 (nI we__3) nu__5 (nI nq_6) (nI rd) ts (nI ru) (nI rw) (nI ca) df db sd))), (aI k (a 5) 240 ftext)] H := hP
      replace hD : va_D A [(aI k (a 25) 4 (nF bm)), (aI k (a 26) 48 (upd fbarSeen (12 * ru) 0)), (aI k (a 27) 48 (upd fbarFrom (Int32.toNatClampNeg (nI (12 * ru))) nu__5)), (aI k (a 28) 4 fruleRounds), ((a 0), .inr (8, (fX8 a (nI tx) (nI pl_6) (nI t0__5) wd__3 (nI we__3) nu__5 (nI nq_6) (nI rd) ts (nI ru) (nI rw) (nI ca) df db sd))), (aI k (a 5) 240 ftext)] := hD
      rw [nI_clamp (n := (12 * ru)) (by omega)] at hP hD
      replace hP : va_P D classes [(aI k (a 25) 4 (nF bm)), (aI k (a 26) 48 (upd fbarSeen (12 * ru) 0)), (aI k (a 27) 48 (upd fbarFrom (12 * ru) nu__5)), (aI k (a 28) 4 fruleRounds), ((a 0), .inr (8, (fX8 a (nI tx) (nI pl_6) (nI t0__5) wd__3 (nI we__3) nu__5 (nI nq_6) (nI rd) ts (nI ru) (nI rw) (nI ca) df db sd))), (aI k (a 5) 240 ftext)] H := hP
      replace hD : va_D A [(aI k (a 25) 4 (nF bm)), (aI k (a 26) 48 (upd fbarSeen (12 * ru) 0)), (aI k (a 27) 48 (upd fbarFrom (12 * ru) nu__5)), (aI k (a 28) 4 fruleRounds), ((a 0), .inr (8, (fX8 a (nI tx) (nI pl_6) (nI t0__5) wd__3 (nI we__3) nu__5 (nI nq_6) (nI rd) ts (nI ru) (nI rw) (nI ca) df db sd))), (aI k (a 5) 240 ftext)] := hD
      refine lv_aload_n hx hb dX8_takeRule_66 rfl (lv_at hl 2 rfl) ?_
      refine va_get (D := D) (ci := 8) (v := .ref (a 25)) (C := RX8) (T := TX8) (N := 44) hx hb hts inX8 hown hK hP 4 rfl rfl 24 (by decide) (hts _ tw_997) (fun _ h9 => h9) rfl dX8_takeRule_67 ?_
      refine lv_aload_n hx hb dX8_takeRule_70 rfl (lv_at hl 2 rfl) ?_
      refine va_get (D := D) (ci := 8) (v := .int (nI ru)) (C := RX8) (T := TX8) (N := 44) hx hb hts inX8 hown hK hP 4 rfl rfl 23 (by decide) (hts _ tw_996) (fun _ h9 => h9) rfl dX8_takeRule_71 ?_
      refine lv_iconst (v := 1) hx hb dX8_takeRule_74 (by decide) ?_
      refine va_iast hx hb hK hP hD hS 0 1 rfl rfl (vp_in_nI (by omega) (by decide)) dX8_takeRule_75 (fun H locs hP hD hS => ?_)
      replace hP : va_P D classes [(aI k (a 25) 4 (upd (nF bm) (Int32.toNatClampNeg (nI ru)) 1)), (aI k (a 26) 48 (upd fbarSeen (12 * ru) 0)), (aI k (a 27) 48 (upd fbarFrom (12 * ru) nu__5)), (aI k (a 28) 4 fruleRounds), ((a 0), .inr (8, (fX8 a (nI tx) (nI pl_6) (nI t0__5) wd__3 (nI we__3) nu__5 (nI nq_6) (nI rd) ts (nI ru) (nI rw) (nI ca) df db sd))), (aI k (a 5) 240 ftext)] H := hP
      replace hD : va_D A [(aI k (a 25) 4 (upd (nF bm) (Int32.toNatClampNeg (nI ru)) 1)), (aI k (a 26) 48 (upd fbarSeen (12 * ru) 0)), (aI k (a 27) 48 (upd fbarFrom (12 * ru) nu__5)), (aI k (a 28) 4 fruleRounds), ((a 0), .inr (8, (fX8 a (nI tx) (nI pl_6) (nI t0__5) wd__3 (nI we__3) nu__5 (nI nq_6) (nI rd) ts (nI ru) (nI rw) (nI ca) df db sd))), (aI k (a 5) 240 ftext)] := hD
      rw [nI_clamp (n := ru) (by omega)] at hP hD
      rw [show upd (nF bm) ru 1 = nF (fun j => if j = ru then 1 else bm j) from nF_upd _ _ _] at hP hD
      obtain ⟨d_53, hd_53⟩ : ∃ z : Nat → Nat, z = (fun j => if j = ru then 1 else bm j) := ⟨_, rfl⟩
      rw [← hd_53] at hP hD
      have hbb_53 : ∀ j, d_53 j ≤ 12 := by rw [hd_53]; exact up_le hbm (by omega)
      have hbu_53 : d_53 ru = 1 := by rw [hd_53]; exact if_pos rfl
      refine lv_aload_n hx hb dX8_takeRule_76 rfl (lv_at hl 2 rfl) ?_
      refine va_get (D := D) (ci := 8) (v := .ref (a 28)) (C := RX8) (T := TX8) (N := 44) hx hb hts inX8 hown hK hP 4 rfl rfl 27 (by decide) (hts _ tw_1000) (fun _ h9 => h9) rfl dX8_takeRule_77 ?_
      refine lv_aload_n hx hb dX8_takeRule_80 rfl (lv_at hl 2 rfl) ?_
      refine va_get (D := D) (ci := 8) (v := .int (nI ru)) (C := RX8) (T := TX8) (N := 44) hx hb hts inX8 hown hK hP 4 rfl rfl 23 (by decide) (hts _ tw_996) (fun _ h9 => h9) rfl dX8_takeRule_81 ?_
      refine lv_iconst (v := 0) hx hb dX8_takeRule_84 (by decide) ?_
      refine va_iast hx hb hK hP hD hS 3 1 rfl rfl (vp_in_nI (by omega) (by decide)) dX8_takeRule_85 (fun H locs hP hD hS => ?_)
      replace hP : va_P D classes [(aI k (a 25) 4 (nF d_53)), (aI k (a 26) 48 (upd fbarSeen (12 * ru) 0)), (aI k (a 27) 48 (upd fbarFrom (12 * ru) nu__5)), (aI k (a 28) 4 (upd fruleRounds (Int32.toNatClampNeg (nI ru)) 0)), ((a 0), .inr (8, (fX8 a (nI tx) (nI pl_6) (nI t0__5) wd__3 (nI we__3) nu__5 (nI nq_6) (nI rd) ts (nI ru) (nI rw) (nI ca) df db sd))), (aI k (a 5) 240 ftext)] H := hP
      replace hD : va_D A [(aI k (a 25) 4 (nF d_53)), (aI k (a 26) 48 (upd fbarSeen (12 * ru) 0)), (aI k (a 27) 48 (upd fbarFrom (12 * ru) nu__5)), (aI k (a 28) 4 (upd fruleRounds (Int32.toNatClampNeg (nI ru)) 0)), ((a 0), .inr (8, (fX8 a (nI tx) (nI pl_6) (nI t0__5) wd__3 (nI we__3) nu__5 (nI nq_6) (nI rd) ts (nI ru) (nI rw) (nI ca) df db sd))), (aI k (a 5) 240 ftext)] := hD
      rw [nI_clamp (n := ru) (by omega)] at hP hD
      replace hP : va_P D classes [(aI k (a 25) 4 (nF d_53)), (aI k (a 26) 48 (upd fbarSeen (12 * ru) 0)), (aI k (a 27) 48 (upd fbarFrom (12 * ru) nu__5)), (aI k (a 28) 4 (upd fruleRounds ru 0)), ((a 0), .inr (8, (fX8 a (nI tx) (nI pl_6) (nI t0__5) wd__3 (nI we__3) nu__5 (nI nq_6) (nI rd) ts (nI ru) (nI rw) (nI ca) df db sd))), (aI k (a 5) 240 ftext)] H := hP
      replace hD : va_D A [(aI k (a 25) 4 (nF d_53)), (aI k (a 26) 48 (upd fbarSeen (12 * ru) 0)), (aI k (a 27) 48 (upd fbarFrom (12 * ru) nu__5)), (aI k (a 28) 4 (upd fruleRounds ru 0)), ((a 0), .inr (8, (fX8 a (nI tx) (nI pl_6) (nI t0__5) wd__3 (nI we__3) nu__5 (nI nq_6) (nI rd) ts (nI ru) (nI rw) (nI ca) df db sd))), (aI k (a 5) 240 ftext)] := hD
      obtain ⟨fs_55, hfs_55⟩ : ∃ z : Nat → Int32, z = (upd fbarSeen (12 * ru) 0) := ⟨_, rfl⟩
      obtain ⟨ff_55, hff_55⟩ : ∃ z : Nat → Int32, z = (upd fbarFrom (12 * ru) nu__5) := ⟨_, rfl⟩
      obtain ⟨rr_55, hrr_55⟩ : ∃ z : Nat → Int32, z = (upd fruleRounds ru 0) := ⟨_, rfl⟩
      rw [← hfs_55, ← hff_55, ← hrr_55] at hP hD
      have hK0_55 : ruK ru bm d_53 fbarSeen fs_55 fbarFrom ff_55 := by rw [hfs_55, hff_55]; exact ruK_tr (ruK_s (by omega)) (ruK_tr (ruK_f (by omega)) (ruK_b hd_53))
      have hb0_55 : d_53 ru = 1 := by rw [hd_53]; exact if_pos rfl
      have hs0_55 : fs_55 (12 * ru) = 0 := by rw [hfs_55]; exact pk_us
      have hf0_55 : ff_55 (12 * ru) = nu__5 := by rw [hff_55]; exact pk_us
      have hr0_55 : rr_55 ru = 0 := by rw [hrr_55]; exact pk_us
      have hrk_55 : ∀ q, q ≠ ru → rr_55 q = fruleRounds q := by rw [hrr_55]; exact fun q hq => pk_un hq
      refine lv_iload_n hx hb dX8_takeRule_86 rfl (lv_at hl 0 rfl) ?_
      refine lv_if_ne (tgt := 101) hx hb dX8_takeRule_87 (by decide) (fun _ => ?_) (fun h => absurd h (by decide))
      refine lv_iconst (v := 0) hx hb dX8_takeRule_101 (by decide) ?_
      refine lv_istore (lv' := [(4, .int 0), (3, .int 1), (1, .long 131638), (0, .ref (a 0))]) hx hb dX8_takeRule_102 hl (by decide) rfl (fun ls hl => ?_)
      refine lv_iload hx hb dX8_takeRule_104 (lv_at hl 0 rfl) ?_
      refine lv_if_eq (tgt := 198) hx hb dX8_takeRule_106 (by decide) (fun _ => ?_) (fun h => absurd (by decide) h)
      refine lv_iload_n hx hb dX8_takeRule_198 rfl (lv_at hl 1 rfl) ?_
      refine lv_if_le (tgt := 206) hx hb dX8_takeRule_199 (by decide) (fun h => absurd h (by decide)) (fun _ => ?_)
      refine lv_iload_n hx hb dX8_takeRule_202 rfl (lv_at hl 1 rfl) ?_
      refine lv_goto (tgt := 226) hx hb dX8_takeRule_203 (by decide) ?_
      have hP9 := hP.sub (ws' := [((a 0), .inr (8, (fX8 a (nI tx) (nI pl_6) (nI t0__5) wd__3 (nI we__3) nu__5 (nI nq_6) (nI rd) ts (nI ru) (nI rw) (nI ca) df db sd))), (aI k (a 5) 240 ftext), (aI k (a 25) 4 (nF d_53)), (aI k (a 26) 48 fs_55), (aI k (a 27) 48 ff_55), (aI k (a 28) 4 rr_55)]) [4, 5, 0, 1, 2, 3] rfl
      have hD9 := hD.sub (ws' := [((a 0), .inr (8, (fX8 a (nI tx) (nI pl_6) (nI t0__5) wd__3 (nI we__3) nu__5 (nI nq_6) (nI rd) ts (nI ru) (nI rw) (nI ca) df db sd))), (aI k (a 5) 240 ftext), (aI k (a 25) 4 (nF d_53)), (aI k (a 26) 48 fs_55), (aI k (a 27) 48 ff_55), (aI k (a 28) 4 rr_55)]) [4, 5, 0, 1, 2, 3] (by decide) rfl
      exact W.iret (v := 1) hx hb hr (fun t ht hW => ⟨⟨1, (t0__5, wd__3, we__3, (nI pl_6), nu__5, (nI nq_6), d_53, fs_55, ff_55, rr_55), rfl, ⟨.inr ⟨1, pl_6, rfl, by omega, by omega, (rf_h hH1_49 (by decide) hH2_49).1, (rf_h hH1_49 (by decide) hH2_49).2, rfl⟩, fun q hq => ruM_K hK0_55 hrk_55 hbm hq, hbb_53⟩, by rw [ht]; exact hP9, hD9⟩, hS.F ht⟩) hS.2.2 dX8_takeRule_226
    · refine lv_istore_n (lv' := [(3, .int 2), (1, .long 131638), (0, .ref (a 0))]) hx hb dX8_takeRule_36 rfl hl (by decide) rfl (fun ls hl => ?_)
      have hH1_56 : (ruH ftext tx t0).1 = 2 := by simp [ruH, hq_4, hq_6, -List.getD_eq_getElem?_getD]
      have hH2_56 : (ruH ftext tx t0).2.1 = pl_6 := by simp [ruH, hq_4, hq_6, -List.getD_eq_getElem?_getD]
      refine lv_aload_n hx hb dX8_takeRule_37 rfl (lv_at hl 2 rfl) ?_
      refine va_get (D := D) (ci := 8) (v := .ref (a 26)) (C := RX8) (T := TX8) (N := 44) hx hb hts inX8 hown hK hP 4 rfl rfl 25 (by decide) (hts _ tw_998) (fun _ h9 => h9) rfl dX8_takeRule_38 ?_
      refine lv_bipush (v := 12) hx hb dX8_takeRule_41 (by decide) ?_
      refine lv_aload_n hx hb dX8_takeRule_43 rfl (lv_at hl 2 rfl) ?_
      refine va_get (D := D) (ci := 8) (v := .int (nI ru)) (C := RX8) (T := TX8) (N := 44) hx hb hts inX8 hown hK hP 4 rfl rfl 23 (by decide) (hts _ tw_996) (fun _ h9 => h9) rfl dX8_takeRule_44 ?_
      refine lv_imul hx hb dX8_takeRule_47 ?_
      refine lv_ti (y := (nI (12 * ru))) (pk_mul 12 ru) ?_
      refine lv_iconst (v := 0) hx hb dX8_takeRule_48 (by decide) ?_
      refine va_iast hx hb hK hP hD hS 1 1 rfl rfl (vp_in_nI (by omega) (by decide)) dX8_takeRule_49 (fun H locs hP hD hS => ?_)
      replace hP : va_P D classes [(aI k (a 25) 4 (nF bm)), (aI k (a 26) 48 (upd fbarSeen (Int32.toNatClampNeg (nI (12 * ru))) 0)), (aI k (a 27) 48 fbarFrom), (aI k (a 28) 4 fruleRounds), ((a 0), .inr (8, (fX8 a (nI tx) (nI pl_6) (nI t0__5) wd__3 (nI we__3) nu__5 (nI nq_6) (nI rd) ts (nI ru) (nI rw) (nI ca) df db sd))), (aI k (a 5) 240 ftext)] H := hP
      replace hD : va_D A [(aI k (a 25) 4 (nF bm)), (aI k (a 26) 48 (upd fbarSeen (Int32.toNatClampNeg (nI (12 * ru))) 0)), (aI k (a 27) 48 fbarFrom), (aI k (a 28) 4 fruleRounds), ((a 0), .inr (8, (fX8 a (nI tx) (nI pl_6) (nI t0__5) wd__3 (nI we__3) nu__5 (nI nq_6) (nI rd) ts (nI ru) (nI rw) (nI ca) df db sd))), (aI k (a 5) 240 ftext)] := hD
      rw [nI_clamp (n := (12 * ru)) (by omega)] at hP hD
      replace hP : va_P D classes [(aI k (a 25) 4 (nF bm)), (aI k (a 26) 48 (upd fbarSeen (12 * ru) 0)), (aI k (a 27) 48 fbarFrom), (aI k (a 28) 4 fruleRounds), ((a 0), .inr (8, (fX8 a (nI tx) (nI pl_6) (nI t0__5) wd__3 (nI we__3) nu__5 (nI nq_6) (nI rd) ts (nI ru) (nI rw) (nI ca) df db sd))), (aI k (a 5) 240 ftext)] H := hP
      replace hD : va_D A [(aI k (a 25) 4 (nF bm)), (aI k (a 26) 48 (upd fbarSeen (12 * ru) 0)), (aI k (a 27) 48 fbarFrom), (aI k (a 28) 4 fruleRounds), ((a 0), .inr (8, (fX8 a (nI tx) (nI pl_6) (nI t0__5) wd__3 (nI we__3) nu__5 (nI nq_6) (nI rd) ts (nI ru) (nI rw) (nI ca) df db sd))), (aI k (a 5) 240 ftext)] := hD
      refine lv_aload_n hx hb dX8_takeRule_50 rfl (lv_at hl 2 rfl) ?_
      refine va_get (D := D) (ci := 8) (v := .ref (a 27)) (C := RX8) (T := TX8) (N := 44) hx hb hts inX8 hown hK hP 4 rfl rfl 26 (by decide) (hts _ tw_999) (fun _ h9 => h9) rfl dX8_takeRule_51 ?_
      refine lv_bipush (v := 12) hx hb dX8_takeRule_54 (by decide) ?_
      refine lv_aload_n hx hb dX8_takeRule_56 rfl (lv_at hl 2 rfl) ?_
      refine va_get (D := D) (ci := 8) (v := .int (nI ru)) (C := RX8) (T := TX8) (N := 44) hx hb hts inX8 hown hK hP 4 rfl rfl 23 (by decide) (hts _ tw_996) (fun _ h9 => h9) rfl dX8_takeRule_57 ?_
      refine lv_imul hx hb dX8_takeRule_60 ?_
      refine lv_ti (y := (nI (12 * ru))) (pk_mul 12 ru) ?_
      refine lv_aload_n hx hb dX8_takeRule_61 rfl (lv_at hl 2 rfl) ?_
      refine va_get (D := D) (ci := 8) (v := .int nu__5) (C := RX8) (T := TX8) (N := 44) hx hb hts inX8 hown hK hP 4 rfl rfl 10 (by decide) (hts _ tw_983) (fun _ h9 => h9) rfl dX8_takeRule_62 ?_
      refine va_iast hx hb hK hP hD hS 2 1 rfl rfl (vp_in_nI (by omega) (by decide)) dX8_takeRule_65 (fun H locs hP hD hS => ?_)
      replace hP : va_P D classes [(aI k (a 25) 4 (nF bm)), (aI k (a 26) 48 (upd fbarSeen (12 * ru) 0)), (aI k (a 27) 48 (upd fbarFrom (Int32.toNatClampNeg (nI (12 * ru))) nu__5)), (aI k (a 28) 4 fruleRounds), ((a 0), .inr (8, (fX8 a (nI tx) (nI pl_6) (nI t0__5) wd__3 (nI we__3) nu__5 (nI nq_6) (nI rd) ts (nI ru) (nI rw) (nI ca) df db sd))), (aI k (a 5) 240 ftext)] H := hP
      replace hD : va_D A [(aI k (a 25) 4 (nF bm)), (aI k (a 26) 48 (upd fbarSeen (12 * ru) 0)), (aI k (a 27) 48 (upd fbarFrom (Int32.toNatClampNeg (nI (12 * ru))) nu__5)), (aI k (a 28) 4 fruleRounds), ((a 0), .inr (8, (fX8 a (nI tx) (nI pl_6) (nI t0__5) wd__3 (nI we__3) nu__5 (nI nq_6) (nI rd) ts (nI ru) (nI rw) (nI ca) df db sd))), (aI k (a 5) 240 ftext)] := hD
      rw [nI_clamp (n := (12 * ru)) (by omega)] at hP hD
      replace hP : va_P D classes [(aI k (a 25) 4 (nF bm)), (aI k (a 26) 48 (upd fbarSeen (12 * ru) 0)), (aI k (a 27) 48 (upd fbarFrom (12 * ru) nu__5)), (aI k (a 28) 4 fruleRounds), ((a 0), .inr (8, (fX8 a (nI tx) (nI pl_6) (nI t0__5) wd__3 (nI we__3) nu__5 (nI nq_6) (nI rd) ts (nI ru) (nI rw) (nI ca) df db sd))), (aI k (a 5) 240 ftext)] H := hP
      replace hD : va_D A [(aI k (a 25) 4 (nF bm)), (aI k (a 26) 48 (upd fbarSeen (12 * ru) 0)), (aI k (a 27) 48 (upd fbarFrom (12 * ru) nu__5)), (aI k (a 28) 4 fruleRounds), ((a 0), .inr (8, (fX8 a (nI tx) (nI pl_6) (nI t0__5) wd__3 (nI we__3) nu__5 (nI nq_6) (nI rd) ts (nI ru) (nI rw) (nI ca) df db sd))), (aI k (a 5) 240 ftext)] := hD
      refine lv_aload_n hx hb dX8_takeRule_66 rfl (lv_at hl 2 rfl) ?_
      refine va_get (D := D) (ci := 8) (v := .ref (a 25)) (C := RX8) (T := TX8) (N := 44) hx hb hts inX8 hown hK hP 4 rfl rfl 24 (by decide) (hts _ tw_997) (fun _ h9 => h9) rfl dX8_takeRule_67 ?_
      refine lv_aload_n hx hb dX8_takeRule_70 rfl (lv_at hl 2 rfl) ?_
      refine va_get (D := D) (ci := 8) (v := .int (nI ru)) (C := RX8) (T := TX8) (N := 44) hx hb hts inX8 hown hK hP 4 rfl rfl 23 (by decide) (hts _ tw_996) (fun _ h9 => h9) rfl dX8_takeRule_71 ?_
      refine lv_iconst (v := 1) hx hb dX8_takeRule_74 (by decide) ?_
      refine va_iast hx hb hK hP hD hS 0 1 rfl rfl (vp_in_nI (by omega) (by decide)) dX8_takeRule_75 (fun H locs hP hD hS => ?_)
      replace hP : va_P D classes [(aI k (a 25) 4 (upd (nF bm) (Int32.toNatClampNeg (nI ru)) 1)), (aI k (a 26) 48 (upd fbarSeen (12 * ru) 0)), (aI k (a 27) 48 (upd fbarFrom (12 * ru) nu__5)), (aI k (a 28) 4 fruleRounds), ((a 0), .inr (8, (fX8 a (nI tx) (nI pl_6) (nI t0__5) wd__3 (nI we__3) nu__5 (nI nq_6) (nI rd) ts (nI ru) (nI rw) (nI ca) df db sd))), (aI k (a 5) 240 ftext)] H := hP
      replace hD : va_D A [(aI k (a 25) 4 (upd (nF bm) (Int32.toNatClampNeg (nI ru)) 1)), (aI k (a 26) 48 (upd fbarSeen (12 * ru) 0)), (aI k (a 27) 48 (upd fbarFrom (12 * ru) nu__5)), (aI k (a 28) 4 fruleRounds), ((a 0), .inr (8, (fX8 a (nI tx) (nI pl_6) (nI t0__5) wd__3 (nI we__3) nu__5 (nI nq_6) (nI rd) ts (nI ru) (nI rw) (nI ca) df db sd))), (aI k (a 5) 240 ftext)] := hD
      rw [nI_clamp (n := ru) (by omega)] at hP hD
      rw [show upd (nF bm) ru 1 = nF (fun j => if j = ru then 1 else bm j) from nF_upd _ _ _] at hP hD
      obtain ⟨d_60, hd_60⟩ : ∃ z : Nat → Nat, z = (fun j => if j = ru then 1 else bm j) := ⟨_, rfl⟩
      rw [← hd_60] at hP hD
      have hbb_60 : ∀ j, d_60 j ≤ 12 := by rw [hd_60]; exact up_le hbm (by omega)
      have hbu_60 : d_60 ru = 1 := by rw [hd_60]; exact if_pos rfl
      refine lv_aload_n hx hb dX8_takeRule_76 rfl (lv_at hl 2 rfl) ?_
      refine va_get (D := D) (ci := 8) (v := .ref (a 28)) (C := RX8) (T := TX8) (N := 44) hx hb hts inX8 hown hK hP 4 rfl rfl 27 (by decide) (hts _ tw_1000) (fun _ h9 => h9) rfl dX8_takeRule_77 ?_
      refine lv_aload_n hx hb dX8_takeRule_80 rfl (lv_at hl 2 rfl) ?_
      refine va_get (D := D) (ci := 8) (v := .int (nI ru)) (C := RX8) (T := TX8) (N := 44) hx hb hts inX8 hown hK hP 4 rfl rfl 23 (by decide) (hts _ tw_996) (fun _ h9 => h9) rfl dX8_takeRule_81 ?_
      refine lv_iconst (v := 0) hx hb dX8_takeRule_84 (by decide) ?_
      refine va_iast hx hb hK hP hD hS 3 1 rfl rfl (vp_in_nI (by omega) (by decide)) dX8_takeRule_85 (fun H locs hP hD hS => ?_)
      replace hP : va_P D classes [(aI k (a 25) 4 (nF d_60)), (aI k (a 26) 48 (upd fbarSeen (12 * ru) 0)), (aI k (a 27) 48 (upd fbarFrom (12 * ru) nu__5)), (aI k (a 28) 4 (upd fruleRounds (Int32.toNatClampNeg (nI ru)) 0)), ((a 0), .inr (8, (fX8 a (nI tx) (nI pl_6) (nI t0__5) wd__3 (nI we__3) nu__5 (nI nq_6) (nI rd) ts (nI ru) (nI rw) (nI ca) df db sd))), (aI k (a 5) 240 ftext)] H := hP
      replace hD : va_D A [(aI k (a 25) 4 (nF d_60)), (aI k (a 26) 48 (upd fbarSeen (12 * ru) 0)), (aI k (a 27) 48 (upd fbarFrom (12 * ru) nu__5)), (aI k (a 28) 4 (upd fruleRounds (Int32.toNatClampNeg (nI ru)) 0)), ((a 0), .inr (8, (fX8 a (nI tx) (nI pl_6) (nI t0__5) wd__3 (nI we__3) nu__5 (nI nq_6) (nI rd) ts (nI ru) (nI rw) (nI ca) df db sd))), (aI k (a 5) 240 ftext)] := hD
      rw [nI_clamp (n := ru) (by omega)] at hP hD
      replace hP : va_P D classes [(aI k (a 25) 4 (nF d_60)), (aI k (a 26) 48 (upd fbarSeen (12 * ru) 0)), (aI k (a 27) 48 (upd fbarFrom (12 * ru) nu__5)), (aI k (a 28) 4 (upd fruleRounds ru 0)), ((a 0), .inr (8, (fX8 a (nI tx) (nI pl_6) (nI t0__5) wd__3 (nI we__3) nu__5 (nI nq_6) (nI rd) ts (nI ru) (nI rw) (nI ca) df db sd))), (aI k (a 5) 240 ftext)] H := hP
      replace hD : va_D A [(aI k (a 25) 4 (nF d_60)), (aI k (a 26) 48 (upd fbarSeen (12 * ru) 0)), (aI k (a 27) 48 (upd fbarFrom (12 * ru) nu__5)), (aI k (a 28) 4 (upd fruleRounds ru 0)), ((a 0), .inr (8, (fX8 a (nI tx) (nI pl_6) (nI t0__5) wd__3 (nI we__3) nu__5 (nI nq_6) (nI rd) ts (nI ru) (nI rw) (nI ca) df db sd))), (aI k (a 5) 240 ftext)] := hD
      obtain ⟨fs_62, hfs_62⟩ : ∃ z : Nat → Int32, z = (upd fbarSeen (12 * ru) 0) := ⟨_, rfl⟩
      obtain ⟨ff_62, hff_62⟩ : ∃ z : Nat → Int32, z = (upd fbarFrom (12 * ru) nu__5) := ⟨_, rfl⟩
      obtain ⟨rr_62, hrr_62⟩ : ∃ z : Nat → Int32, z = (upd fruleRounds ru 0) := ⟨_, rfl⟩
      rw [← hfs_62, ← hff_62, ← hrr_62] at hP hD
      have hK0_62 : ruK ru bm d_60 fbarSeen fs_62 fbarFrom ff_62 := by rw [hfs_62, hff_62]; exact ruK_tr (ruK_s (by omega)) (ruK_tr (ruK_f (by omega)) (ruK_b hd_60))
      have hb0_62 : d_60 ru = 1 := by rw [hd_60]; exact if_pos rfl
      have hs0_62 : fs_62 (12 * ru) = 0 := by rw [hfs_62]; exact pk_us
      have hf0_62 : ff_62 (12 * ru) = nu__5 := by rw [hff_62]; exact pk_us
      have hr0_62 : rr_62 ru = 0 := by rw [hrr_62]; exact pk_us
      have hrk_62 : ∀ q, q ≠ ru → rr_62 q = fruleRounds q := by rw [hrr_62]; exact fun q hq => pk_un hq
      refine lv_iload_n hx hb dX8_takeRule_86 rfl (lv_at hl 0 rfl) ?_
      refine lv_if_ne (tgt := 101) hx hb dX8_takeRule_87 (by decide) (fun _ => ?_) (fun h => absurd h (by decide))
      refine lv_iconst (v := 0) hx hb dX8_takeRule_101 (by decide) ?_
      refine lv_istore (lv' := [(4, .int 0), (3, .int 2), (1, .long 131638), (0, .ref (a 0))]) hx hb dX8_takeRule_102 hl (by decide) rfl (fun ls hl => ?_)
      refine lv_iload hx hb dX8_takeRule_104 (lv_at hl 0 rfl) ?_
      refine lv_if_eq (tgt := 198) hx hb dX8_takeRule_106 (by decide) (fun _ => ?_) (fun h => absurd (by decide) h)
      refine lv_iload_n hx hb dX8_takeRule_198 rfl (lv_at hl 1 rfl) ?_
      refine lv_if_le (tgt := 206) hx hb dX8_takeRule_199 (by decide) (fun h => absurd h (by decide)) (fun _ => ?_)
      refine lv_iload_n hx hb dX8_takeRule_202 rfl (lv_at hl 1 rfl) ?_
      refine lv_goto (tgt := 226) hx hb dX8_takeRule_203 (by decide) ?_
      have hP9 := hP.sub (ws' := [((a 0), .inr (8, (fX8 a (nI tx) (nI pl_6) (nI t0__5) wd__3 (nI we__3) nu__5 (nI nq_6) (nI rd) ts (nI ru) (nI rw) (nI ca) df db sd))), (aI k (a 5) 240 ftext), (aI k (a 25) 4 (nF d_60)), (aI k (a 26) 48 fs_62), (aI k (a 27) 48 ff_62), (aI k (a 28) 4 rr_62)]) [4, 5, 0, 1, 2, 3] rfl
      have hD9 := hD.sub (ws' := [((a 0), .inr (8, (fX8 a (nI tx) (nI pl_6) (nI t0__5) wd__3 (nI we__3) nu__5 (nI nq_6) (nI rd) ts (nI ru) (nI rw) (nI ca) df db sd))), (aI k (a 5) 240 ftext), (aI k (a 25) 4 (nF d_60)), (aI k (a 26) 48 fs_62), (aI k (a 27) 48 ff_62), (aI k (a 28) 4 rr_62)]) [4, 5, 0, 1, 2, 3] (by decide) rfl
      exact W.iret (v := 2) hx hb hr (fun t ht hW => ⟨⟨2, (t0__5, wd__3, we__3, (nI pl_6), nu__5, (nI nq_6), d_60, fs_62, ff_62, rr_62), rfl, ⟨.inr ⟨2, pl_6, rfl, by omega, by omega, (rf_h hH1_56 (by decide) hH2_56).1, (rf_h hH1_56 (by decide) hH2_56).2, rfl⟩, fun q hq => ruM_K hK0_62 hrk_62 hbm hq, hbb_60⟩, by rw [ht]; exact hP9, hD9⟩, hS.F ht⟩) hS.2.2 dX8_takeRule_226
  · refine lv_istore_n (lv' := [(3, .int 1), (1, .long 131638), (0, .ref (a 0))]) hx hb dX8_takeRule_20 rfl hl (by decide) rfl (fun ls hl => ?_)
    refine lv_iload_n hx hb dX8_takeRule_21 rfl (lv_at hl 0 rfl) ?_
    refine lv_if_le (tgt := 29) hx hb dX8_takeRule_22 (by decide) (fun h => absurd h (by decide)) (fun _ => ?_)
    refine lv_iload_n hx hb dX8_takeRule_25 rfl (lv_at hl 0 rfl) ?_
    refine lv_goto (tgt := 36) hx hb dX8_takeRule_26 (by decide) ?_
    refine lv_istore_n (lv' := [(3, .int 1), (1, .long 131638), (0, .ref (a 0))]) hx hb dX8_takeRule_36 rfl hl (by decide) rfl (fun ls hl => ?_)
    have hH1_63 : (ruH ftext tx t0).1 = 1 := by simp [ruH, hq_4, -List.getD_eq_getElem?_getD]
    have hH2_63 : (ruH ftext tx t0).2.1 = pl_4 := by simp [ruH, hq_4, -List.getD_eq_getElem?_getD]
    refine lv_aload_n hx hb dX8_takeRule_37 rfl (lv_at hl 2 rfl) ?_
    refine va_get (D := D) (ci := 8) (v := .ref (a 26)) (C := RX8) (T := TX8) (N := 44) hx hb hts inX8 hown hK hP 4 rfl rfl 25 (by decide) (hts _ tw_998) (fun _ h9 => h9) rfl dX8_takeRule_38 ?_
    refine lv_bipush (v := 12) hx hb dX8_takeRule_41 (by decide) ?_
    refine lv_aload_n hx hb dX8_takeRule_43 rfl (lv_at hl 2 rfl) ?_
    refine va_get (D := D) (ci := 8) (v := .int (nI ru)) (C := RX8) (T := TX8) (N := 44) hx hb hts inX8 hown hK hP 4 rfl rfl 23 (by decide) (hts _ tw_996) (fun _ h9 => h9) rfl dX8_takeRule_44 ?_
    refine lv_imul hx hb dX8_takeRule_47 ?_
    refine lv_ti (y := (nI (12 * ru))) (pk_mul 12 ru) ?_
    refine lv_iconst (v := 0) hx hb dX8_takeRule_48 (by decide) ?_
    refine va_iast hx hb hK hP hD hS 1 1 rfl rfl (vp_in_nI (by omega) (by decide)) dX8_takeRule_49 (fun H locs hP hD hS => ?_)
    replace hP : va_P D classes [(aI k (a 25) 4 (nF bm)), (aI k (a 26) 48 (upd fbarSeen (Int32.toNatClampNeg (nI (12 * ru))) 0)), (aI k (a 27) 48 fbarFrom), (aI k (a 28) 4 fruleRounds), ((a 0), .inr (8, (fX8 a (nI tx) (nI pl_4) (nI t0__3) wd__3 (nI we__3) nu na (nI rd) ts (nI ru) (nI rw) (nI ca) df db sd))), (aI k (a 5) 240 ftext)] H := hP
    replace hD : va_D A [(aI k (a 25) 4 (nF bm)), (aI k (a 26) 48 (upd fbarSeen (Int32.toNatClampNeg (nI (12 * ru))) 0)), (aI k (a 27) 48 fbarFrom), (aI k (a 28) 4 fruleRounds), ((a 0), .inr (8, (fX8 a (nI tx) (nI pl_4) (nI t0__3) wd__3 (nI we__3) nu na (nI rd) ts (nI ru) (nI rw) (nI ca) df db sd))), (aI k (a 5) 240 ftext)] := hD
    rw [nI_clamp (n := (12 * ru)) (by omega)] at hP hD
    replace hP : va_P D classes [(aI k (a 25) 4 (nF bm)), (aI k (a 26) 48 (upd fbarSeen (12 * ru) 0)), (aI k (a 27) 48 fbarFrom), (aI k (a 28) 4 fruleRounds), ((a 0), .inr (8, (fX8 a (nI tx) (nI pl_4) (nI t0__3) wd__3 (nI we__3) nu na (nI rd) ts (nI ru) (nI rw) (nI ca) df db sd))), (aI k (a 5) 240 ftext)] H := hP
    replace hD : va_D A [(aI k (a 25) 4 (nF bm)), (aI k (a 26) 48 (upd fbarSeen (12 * ru) 0)), (aI k (a 27) 48 fbarFrom), (aI k (a 28) 4 fruleRounds), ((a 0), .inr (8, (fX8 a (nI tx) (nI pl_4) (nI t0__3) wd__3 (nI we__3) nu na (nI rd) ts (nI ru) (nI rw) (nI ca) df db sd))), (aI k (a 5) 240 ftext)] := hD
    refine lv_aload_n hx hb dX8_takeRule_50 rfl (lv_at hl 2 rfl) ?_
    refine va_get (D := D) (ci := 8) (v := .ref (a 27)) (C := RX8) (T := TX8) (N := 44) hx hb hts inX8 hown hK hP 4 rfl rfl 26 (by decide) (hts _ tw_999) (fun _ h9 => h9) rfl dX8_takeRule_51 ?_
    refine lv_bipush (v := 12) hx hb dX8_takeRule_54 (by decide) ?_
    refine lv_aload_n hx hb dX8_takeRule_56 rfl (lv_at hl 2 rfl) ?_
    refine va_get (D := D) (ci := 8) (v := .int (nI ru)) (C := RX8) (T := TX8) (N := 44) hx hb hts inX8 hown hK hP 4 rfl rfl 23 (by decide) (hts _ tw_996) (fun _ h9 => h9) rfl dX8_takeRule_57 ?_
    refine lv_imul hx hb dX8_takeRule_60 ?_
    refine lv_ti (y := (nI (12 * ru))) (pk_mul 12 ru) ?_
    refine lv_aload_n hx hb dX8_takeRule_61 rfl (lv_at hl 2 rfl) ?_
    refine va_get (D := D) (ci := 8) (v := .int nu) (C := RX8) (T := TX8) (N := 44) hx hb hts inX8 hown hK hP 4 rfl rfl 10 (by decide) (hts _ tw_983) (fun _ h9 => h9) rfl dX8_takeRule_62 ?_
    refine va_iast hx hb hK hP hD hS 2 1 rfl rfl (vp_in_nI (by omega) (by decide)) dX8_takeRule_65 (fun H locs hP hD hS => ?_)
    replace hP : va_P D classes [(aI k (a 25) 4 (nF bm)), (aI k (a 26) 48 (upd fbarSeen (12 * ru) 0)), (aI k (a 27) 48 (upd fbarFrom (Int32.toNatClampNeg (nI (12 * ru))) nu)), (aI k (a 28) 4 fruleRounds), ((a 0), .inr (8, (fX8 a (nI tx) (nI pl_4) (nI t0__3) wd__3 (nI we__3) nu na (nI rd) ts (nI ru) (nI rw) (nI ca) df db sd))), (aI k (a 5) 240 ftext)] H := hP
    replace hD : va_D A [(aI k (a 25) 4 (nF bm)), (aI k (a 26) 48 (upd fbarSeen (12 * ru) 0)), (aI k (a 27) 48 (upd fbarFrom (Int32.toNatClampNeg (nI (12 * ru))) nu)), (aI k (a 28) 4 fruleRounds), ((a 0), .inr (8, (fX8 a (nI tx) (nI pl_4) (nI t0__3) wd__3 (nI we__3) nu na (nI rd) ts (nI ru) (nI rw) (nI ca) df db sd))), (aI k (a 5) 240 ftext)] := hD
    rw [nI_clamp (n := (12 * ru)) (by omega)] at hP hD
    replace hP : va_P D classes [(aI k (a 25) 4 (nF bm)), (aI k (a 26) 48 (upd fbarSeen (12 * ru) 0)), (aI k (a 27) 48 (upd fbarFrom (12 * ru) nu)), (aI k (a 28) 4 fruleRounds), ((a 0), .inr (8, (fX8 a (nI tx) (nI pl_4) (nI t0__3) wd__3 (nI we__3) nu na (nI rd) ts (nI ru) (nI rw) (nI ca) df db sd))), (aI k (a 5) 240 ftext)] H := hP
    replace hD : va_D A [(aI k (a 25) 4 (nF bm)), (aI k (a 26) 48 (upd fbarSeen (12 * ru) 0)), (aI k (a 27) 48 (upd fbarFrom (12 * ru) nu)), (aI k (a 28) 4 fruleRounds), ((a 0), .inr (8, (fX8 a (nI tx) (nI pl_4) (nI t0__3) wd__3 (nI we__3) nu na (nI rd) ts (nI ru) (nI rw) (nI ca) df db sd))), (aI k (a 5) 240 ftext)] := hD
    refine lv_aload_n hx hb dX8_takeRule_66 rfl (lv_at hl 2 rfl) ?_
    refine va_get (D := D) (ci := 8) (v := .ref (a 25)) (C := RX8) (T := TX8) (N := 44) hx hb hts inX8 hown hK hP 4 rfl rfl 24 (by decide) (hts _ tw_997) (fun _ h9 => h9) rfl dX8_takeRule_67 ?_
    refine lv_aload_n hx hb dX8_takeRule_70 rfl (lv_at hl 2 rfl) ?_
    refine va_get (D := D) (ci := 8) (v := .int (nI ru)) (C := RX8) (T := TX8) (N := 44) hx hb hts inX8 hown hK hP 4 rfl rfl 23 (by decide) (hts _ tw_996) (fun _ h9 => h9) rfl dX8_takeRule_71 ?_
    refine lv_iconst (v := 1) hx hb dX8_takeRule_74 (by decide) ?_
    refine va_iast hx hb hK hP hD hS 0 1 rfl rfl (vp_in_nI (by omega) (by decide)) dX8_takeRule_75 (fun H locs hP hD hS => ?_)
    replace hP : va_P D classes [(aI k (a 25) 4 (upd (nF bm) (Int32.toNatClampNeg (nI ru)) 1)), (aI k (a 26) 48 (upd fbarSeen (12 * ru) 0)), (aI k (a 27) 48 (upd fbarFrom (12 * ru) nu)), (aI k (a 28) 4 fruleRounds), ((a 0), .inr (8, (fX8 a (nI tx) (nI pl_4) (nI t0__3) wd__3 (nI we__3) nu na (nI rd) ts (nI ru) (nI rw) (nI ca) df db sd))), (aI k (a 5) 240 ftext)] H := hP
    replace hD : va_D A [(aI k (a 25) 4 (upd (nF bm) (Int32.toNatClampNeg (nI ru)) 1)), (aI k (a 26) 48 (upd fbarSeen (12 * ru) 0)), (aI k (a 27) 48 (upd fbarFrom (12 * ru) nu)), (aI k (a 28) 4 fruleRounds), ((a 0), .inr (8, (fX8 a (nI tx) (nI pl_4) (nI t0__3) wd__3 (nI we__3) nu na (nI rd) ts (nI ru) (nI rw) (nI ca) df db sd))), (aI k (a 5) 240 ftext)] := hD
    rw [nI_clamp (n := ru) (by omega)] at hP hD
    rw [show upd (nF bm) ru 1 = nF (fun j => if j = ru then 1 else bm j) from nF_upd _ _ _] at hP hD
    obtain ⟨d_67, hd_67⟩ : ∃ z : Nat → Nat, z = (fun j => if j = ru then 1 else bm j) := ⟨_, rfl⟩
    rw [← hd_67] at hP hD
    have hbb_67 : ∀ j, d_67 j ≤ 12 := by rw [hd_67]; exact up_le hbm (by omega)
    have hbu_67 : d_67 ru = 1 := by rw [hd_67]; exact if_pos rfl
    refine lv_aload_n hx hb dX8_takeRule_76 rfl (lv_at hl 2 rfl) ?_
    refine va_get (D := D) (ci := 8) (v := .ref (a 28)) (C := RX8) (T := TX8) (N := 44) hx hb hts inX8 hown hK hP 4 rfl rfl 27 (by decide) (hts _ tw_1000) (fun _ h9 => h9) rfl dX8_takeRule_77 ?_
    refine lv_aload_n hx hb dX8_takeRule_80 rfl (lv_at hl 2 rfl) ?_
    refine va_get (D := D) (ci := 8) (v := .int (nI ru)) (C := RX8) (T := TX8) (N := 44) hx hb hts inX8 hown hK hP 4 rfl rfl 23 (by decide) (hts _ tw_996) (fun _ h9 => h9) rfl dX8_takeRule_81 ?_
    refine lv_iconst (v := 0) hx hb dX8_takeRule_84 (by decide) ?_
    refine va_iast hx hb hK hP hD hS 3 1 rfl rfl (vp_in_nI (by omega) (by decide)) dX8_takeRule_85 (fun H locs hP hD hS => ?_)
    replace hP : va_P D classes [(aI k (a 25) 4 (nF d_67)), (aI k (a 26) 48 (upd fbarSeen (12 * ru) 0)), (aI k (a 27) 48 (upd fbarFrom (12 * ru) nu)), (aI k (a 28) 4 (upd fruleRounds (Int32.toNatClampNeg (nI ru)) 0)), ((a 0), .inr (8, (fX8 a (nI tx) (nI pl_4) (nI t0__3) wd__3 (nI we__3) nu na (nI rd) ts (nI ru) (nI rw) (nI ca) df db sd))), (aI k (a 5) 240 ftext)] H := hP
    replace hD : va_D A [(aI k (a 25) 4 (nF d_67)), (aI k (a 26) 48 (upd fbarSeen (12 * ru) 0)), (aI k (a 27) 48 (upd fbarFrom (12 * ru) nu)), (aI k (a 28) 4 (upd fruleRounds (Int32.toNatClampNeg (nI ru)) 0)), ((a 0), .inr (8, (fX8 a (nI tx) (nI pl_4) (nI t0__3) wd__3 (nI we__3) nu na (nI rd) ts (nI ru) (nI rw) (nI ca) df db sd))), (aI k (a 5) 240 ftext)] := hD
    rw [nI_clamp (n := ru) (by omega)] at hP hD
    replace hP : va_P D classes [(aI k (a 25) 4 (nF d_67)), (aI k (a 26) 48 (upd fbarSeen (12 * ru) 0)), (aI k (a 27) 48 (upd fbarFrom (12 * ru) nu)), (aI k (a 28) 4 (upd fruleRounds ru 0)), ((a 0), .inr (8, (fX8 a (nI tx) (nI pl_4) (nI t0__3) wd__3 (nI we__3) nu na (nI rd) ts (nI ru) (nI rw) (nI ca) df db sd))), (aI k (a 5) 240 ftext)] H := hP
    replace hD : va_D A [(aI k (a 25) 4 (nF d_67)), (aI k (a 26) 48 (upd fbarSeen (12 * ru) 0)), (aI k (a 27) 48 (upd fbarFrom (12 * ru) nu)), (aI k (a 28) 4 (upd fruleRounds ru 0)), ((a 0), .inr (8, (fX8 a (nI tx) (nI pl_4) (nI t0__3) wd__3 (nI we__3) nu na (nI rd) ts (nI ru) (nI rw) (nI ca) df db sd))), (aI k (a 5) 240 ftext)] := hD
    obtain ⟨fs_69, hfs_69⟩ : ∃ z : Nat → Int32, z = (upd fbarSeen (12 * ru) 0) := ⟨_, rfl⟩
    obtain ⟨ff_69, hff_69⟩ : ∃ z : Nat → Int32, z = (upd fbarFrom (12 * ru) nu) := ⟨_, rfl⟩
    obtain ⟨rr_69, hrr_69⟩ : ∃ z : Nat → Int32, z = (upd fruleRounds ru 0) := ⟨_, rfl⟩
    rw [← hfs_69, ← hff_69, ← hrr_69] at hP hD
    have hK0_69 : ruK ru bm d_67 fbarSeen fs_69 fbarFrom ff_69 := by rw [hfs_69, hff_69]; exact ruK_tr (ruK_s (by omega)) (ruK_tr (ruK_f (by omega)) (ruK_b hd_67))
    have hb0_69 : d_67 ru = 1 := by rw [hd_67]; exact if_pos rfl
    have hs0_69 : fs_69 (12 * ru) = 0 := by rw [hfs_69]; exact pk_us
    have hf0_69 : ff_69 (12 * ru) = nu := by rw [hff_69]; exact pk_us
    have hr0_69 : rr_69 ru = 0 := by rw [hrr_69]; exact pk_us
    have hrk_69 : ∀ q, q ≠ ru → rr_69 q = fruleRounds q := by rw [hrr_69]; exact fun q hq => pk_un hq
    refine lv_iload_n hx hb dX8_takeRule_86 rfl (lv_at hl 0 rfl) ?_
    refine lv_if_ne (tgt := 101) hx hb dX8_takeRule_87 (by decide) (fun _ => ?_) (fun h => absurd h (by decide))
    refine lv_iconst (v := 0) hx hb dX8_takeRule_101 (by decide) ?_
    refine lv_istore (lv' := [(4, .int 0), (3, .int 1), (1, .long 131638), (0, .ref (a 0))]) hx hb dX8_takeRule_102 hl (by decide) rfl (fun ls hl => ?_)
    refine lv_iload hx hb dX8_takeRule_104 (lv_at hl 0 rfl) ?_
    refine lv_if_eq (tgt := 198) hx hb dX8_takeRule_106 (by decide) (fun _ => ?_) (fun h => absurd (by decide) h)
    refine lv_iload_n hx hb dX8_takeRule_198 rfl (lv_at hl 1 rfl) ?_
    refine lv_if_le (tgt := 206) hx hb dX8_takeRule_199 (by decide) (fun h => absurd h (by decide)) (fun _ => ?_)
    refine lv_iload_n hx hb dX8_takeRule_202 rfl (lv_at hl 1 rfl) ?_
    refine lv_goto (tgt := 226) hx hb dX8_takeRule_203 (by decide) ?_
    have hP9 := hP.sub (ws' := [((a 0), .inr (8, (fX8 a (nI tx) (nI pl_4) (nI t0__3) wd__3 (nI we__3) nu na (nI rd) ts (nI ru) (nI rw) (nI ca) df db sd))), (aI k (a 5) 240 ftext), (aI k (a 25) 4 (nF d_67)), (aI k (a 26) 48 fs_69), (aI k (a 27) 48 ff_69), (aI k (a 28) 4 rr_69)]) [4, 5, 0, 1, 2, 3] rfl
    have hD9 := hD.sub (ws' := [((a 0), .inr (8, (fX8 a (nI tx) (nI pl_4) (nI t0__3) wd__3 (nI we__3) nu na (nI rd) ts (nI ru) (nI rw) (nI ca) df db sd))), (aI k (a 5) 240 ftext), (aI k (a 25) 4 (nF d_67)), (aI k (a 26) 48 fs_69), (aI k (a 27) 48 ff_69), (aI k (a 28) 4 rr_69)]) [4, 5, 0, 1, 2, 3] (by decide) rfl
    exact W.iret (v := 1) hx hb hr (fun t ht hW => ⟨⟨1, (t0__3, wd__3, we__3, (nI pl_4), nu, na, d_67, fs_69, ff_69, rr_69), rfl, ⟨.inr ⟨1, pl_4, rfl, by omega, by omega, (rf_h hH1_63 (by decide) hH2_63).1, (rf_h hH1_63 (by decide) hH2_63).2, rfl⟩, fun q hq => ruM_K hK0_69 hrk_69 hbm hq, hbb_67⟩, by rw [ht]; exact hP9, hD9⟩, hS.F ht⟩) hS.2.2 dX8_takeRule_226


set_option maxHeartbeats 4000000 in
set_option maxRecDepth 100000 in
theorem n_rule (l : Launch) (D : va_G) (k : Nat → ClassId) (st : Nat → Nat) (lo : Nat) (a : Nat → Nat) (tx : Nat) (t0 : Nat) (we : Nat) (rd : Nat) (ru : Nat) (rw : Nat) (ca : Nat) (fp : Int32) (wd : Int64) (nu : Int32) (na : Int32) (ts : Int32) (df : Int32) (db : Int32) (sd : Int32) (ftext : Nat → Int32) (bm : Nat → Nat) (fbarSeen : Nat → Int32) (fbarFrom : Nat → Int32) (fruleRounds : Nat → Int32) (htx : tx ≤ 240) (hbm : ∀ j, bm j ≤ 12) (hru : ru ≤ 4) (hty : ∀ j, 0 ≤ ftext j) : CWi l D k st lo yX8_rule cX8_rule 2 (some .int) ({ frames := 5, cells := 0, slots := 0, locals := 122 }) 0 0 [.ref (a 0)] [((a 0), .inr (8, (fX8 a (nI tx) fp (nI t0) wd (nI we) nu na (nI rd) ts (nI ru) (nI rw) (nI ca) df db sd))), (aI k (a 5) 240 ftext), (aI k (a 25) 4 (nF bm)), (aI k (a 26) 48 fbarSeen), (aI k (a 27) 48 fbarFrom), (aI k (a 28) 4 fruleRounds)] (fun (r : Int32) (u : Nat × Int64 × Nat × Int32 × Int32 × Int32 × Nat × Nat × (Nat → Nat) × (Nat → Int32) × (Nat → Int32) × (Nat → Int32)) => match u with | (t0_, wd_, we_, fp_, nu_, na_, tx_, ru_, bm_, fbarSeen_, fbarFrom_, fruleRounds_) => (ruP ftext tx fp ru (ruM bm fbarSeen fbarFrom fruleRounds) r tx_ fp_ ru_ (ruM bm_ fbarSeen_ fbarFrom_ fruleRounds_)) ∧ tx_ ≤ 240 ∧ ru_ ≤ 4 ∧ (∀ j, bm_ j ≤ 12)) (fun (u : Nat × Int64 × Nat × Int32 × Int32 × Int32 × Nat × Nat × (Nat → Nat) × (Nat → Int32) × (Nat → Int32) × (Nat → Int32)) => match u with | (t0_, wd_, we_, fp_, nu_, na_, tx_, ru_, bm_, fbarSeen_, fbarFrom_, fruleRounds_) => [((a 0), .inr (8, (fX8 a (nI tx_) fp_ (nI t0_) wd_ (nI we_) nu_ na_ (nI rd) ts (nI ru_) (nI rw) (nI ca) df db sd))), (aI k (a 5) 240 ftext), (aI k (a 25) 4 (nF bm_)), (aI k (a 26) 48 fbarSeen_), (aI k (a 27) 48 fbarFrom_), (aI k (a 28) 4 fruleRounds_)]) := by
  intro sz
  refine Met.ofW (cc := cX8_rule) (maxL := 2) (ret := (some .int)) (by decide) rfl ?_
  intro p e s m args below meth c s₁ B hml hv
  obtain ⟨rfl, hsz, hlo, hP, hK, hDL, hZ⟩ := hv
  have hx := B.exec
  have hb := B.bytes
  have hr := B.returns
  have hts := WS_ts B.pre
  have hown : s.vm.findClass RX8 = some m.cls := findClass_of_methodNamed B.named
  have hlocks := B.notSynchronized
  subst hsz
  have hD := hDL.self (sz := s.heap.size)
  have hAlo := A_lo hDL hlo
  generalize hAe : va_A [((a 0), .inr (8, (fX8 a (nI tx) fp (nI t0) wd (nI we) nu na (nI rd) ts (nI ru) (nI rw) (nI ca) df db sd))), (aI k (a 5) 240 ftext), (aI k (a 25) 4 (nF bm)), (aI k (a 26) 48 fbarSeen), (aI k (a 27) 48 fbarFrom), (aI k (a 28) 4 fruleRounds)] s.heap.size = A at hD hAlo ⊢
  have hA : ∀ q : Nat, s.heap.size ≤ q → A q := fun q h => by rw [← hAe]; exact Or.inr h
  have hS : va_S A s.heap s.heap [] := va_S.rf
  have hl := lv_entry ([.ref (a 0)]) (n := 2) (Nat.le_of_ble_eq_true rfl)
  rw [lg_entry_eq]
  generalize (lg_sl ([.ref (a 0)]) ++ List.replicate (2 - (lg_sl ([.ref (a 0)])).length) Slot.unset).toArray = ls at hl ⊢
  have hl : lv_has ls 2 [(0, .ref (a 0))] := hl
  refine lv_aload_n hx hb dX8_rule_0 rfl (lv_at hl 0 rfl) ?_
  refine va_get (D := D) (ci := 8) (v := .int (nI tx)) (C := RX8) (T := TX8) (N := 44) hx hb hts inX8 hown hK hP 0 rfl rfl 5 (by decide) (hts _ tw_978) (fun _ h9 => h9) rfl dX8_rule_1 ?_
  refine lv_bipush (v := 80) hx hb dX8_rule_4 (by decide) ?_
  refine lv_icmp_le (tgt := 13) hx hb dX8_rule_6 (by decide) (fun c_1 => ?_) (fun c_1 => ?_)
  · have c_1 := (nI_leI (a := tx) (b := 80) (by omega) (by omega)).mp c_1
    refine lv_aload_n hx hb dX8_rule_13 rfl (lv_at hl 0 rfl) ?_
    refine va_get (D := D) (ci := 8) (v := .int (nI ru)) (C := RX8) (T := TX8) (N := 44) hx hb hts inX8 hown hK hP 0 rfl rfl 23 (by decide) (hts _ tw_996) (fun _ h9 => h9) rfl dX8_rule_14 ?_
    refine lv_iconst (v := 4) hx hb dX8_rule_17 (by decide) ?_
    refine lv_icmp_ne (tgt := 25) hx hb dX8_rule_18 (by decide) (fun c_2 => ?_) (fun c_2 => ?_)
    · have c_2 : ¬ (ru = 4) := fun h => c_2 ((nI_eq (a := ru) (b := 4) (by omega) (by omega)).mpr h)
      refine lv_aload_n hx hb dX8_rule_25 rfl (lv_at hl 0 rfl) ?_
      refine lv_iconst (v := (-1)) hx hb dX8_rule_26 (by decide) ?_
      refine va_put (D := D) (ci := 8) (v := .int (-1)) (ty := .int) (C := RX8) (T := TX8) (N := 44) hx hb hts inX8 tyX8 tyX8_ok nmX8 hown hK hP hD hS 0 rfl rfl 6 (by decide) (hts _ tw_979) (fun _ h9 => h9) rfl (by decide +kernel) rfl rfl (Nat.le_of_ble_eq_true rfl) dX8_rule_27 (fun H locs hP hD hS => ?_)
      replace hP : va_P D classes [((a 0), .inr (8, (fX8 a (nI tx) (-1) (nI t0) wd (nI we) nu na (nI rd) ts (nI ru) (nI rw) (nI ca) df db sd))), (aI k (a 5) 240 ftext), (aI k (a 25) 4 (nF bm)), (aI k (a 26) 48 fbarSeen), (aI k (a 27) 48 fbarFrom), (aI k (a 28) 4 fruleRounds)] H := hP
      replace hD : va_D A [((a 0), .inr (8, (fX8 a (nI tx) (-1) (nI t0) wd (nI we) nu na (nI rd) ts (nI ru) (nI rw) (nI ca) df db sd))), (aI k (a 5) 240 ftext), (aI k (a 25) 4 (nF bm)), (aI k (a 26) 48 fbarSeen), (aI k (a 27) 48 fbarFrom), (aI k (a 28) 4 fruleRounds)] := hD
      refine lv_aload_n hx hb dX8_rule_30 rfl (lv_at hl 0 rfl) ?_
      refine lv_iconst (v := 0) hx hb dX8_rule_31 (by decide) ?_
      refine va_put (D := D) (ci := 8) (v := .int 0) (ty := .int) (C := RX8) (T := TX8) (N := 44) hx hb hts inX8 tyX8 tyX8_ok nmX8 hown hK hP hD hS 0 rfl rfl 7 (by decide) (hts _ tw_980) (fun _ h9 => h9) rfl (by decide +kernel) rfl rfl (Nat.le_of_ble_eq_true rfl) dX8_rule_32 (fun H locs hP hD hS => ?_)
      replace hP : va_P D classes [((a 0), .inr (8, (fX8 a (nI tx) (-1) 0 wd (nI we) nu na (nI rd) ts (nI ru) (nI rw) (nI ca) df db sd))), (aI k (a 5) 240 ftext), (aI k (a 25) 4 (nF bm)), (aI k (a 26) 48 fbarSeen), (aI k (a 27) 48 fbarFrom), (aI k (a 28) 4 fruleRounds)] H := hP
      replace hD : va_D A [((a 0), .inr (8, (fX8 a (nI tx) (-1) 0 wd (nI we) nu na (nI rd) ts (nI ru) (nI rw) (nI ca) df db sd))), (aI k (a 5) 240 ftext), (aI k (a 25) 4 (nF bm)), (aI k (a 26) 48 fbarSeen), (aI k (a 27) 48 fbarFrom), (aI k (a 28) 4 fruleRounds)] := hD
      refine lv_aload_n hx hb dX8_rule_35 rfl (lv_at hl 0 rfl) ?_
      refine rw_i (D := D) (wr := []) (va_runV (As := []) (rest := []) ⟨hx, hb, hml, hown, hts⟩ ((n_takeRule l D k st lo a tx 0 we rd ru rw ca (-1) wd nu na ts df db sd ftext bm fbarSeen fbarFrom fruleRounds (by first | assumption | omega) (by first | assumption | omega) hbm (by first | assumption | omega) (by first | assumption | omega) (by first | assumption | omega)) H.size) (cwV 0 hts (gV tw_1309 tw_1311 tw_55 tw_87 tw_1312) rfl rfl rfl (by decide +kernel) ⟨Nat.le_of_ble_eq_true rfl, Nat.le_of_ble_eq_true rfl⟩) (pV hS hAlo hlo hP hK (va_Dlo hD hAlo) hZ [0, 1, 2, 3, 4, 5] (by decide) rfl (ci := 8) (q := (RX8, TX8, 44)) (q0 := 0) rfl rfl) rfl rfl hl.1 rfl (lv_room (Nat.le_of_ble_eq_true rfl)) dX8_rule_36 ⟨Nat.le_of_ble_eq_true rfl, Nat.le_of_ble_eq_true rfl⟩) hS hA hP hD [0, 1, 2, 3, 4, 5] [] rfl rfl (by decide) (by decide) (fun r_3 u H locs hw_3 hP hD hS => ?_)
      obtain ⟨t0__3, wd__3, we__3, fp__3, nu__3, na__3, bm__3, fbarSeen__3, fbarFrom__3, fruleRounds__3⟩ := u
      replace hP : va_P D classes [((a 0), .inr (8, (fX8 a (nI tx) fp__3 (nI t0__3) wd__3 (nI we__3) nu__3 na__3 (nI rd) ts (nI ru) (nI rw) (nI ca) df db sd))), (aI k (a 5) 240 ftext), (aI k (a 25) 4 (nF bm__3)), (aI k (a 26) 48 fbarSeen__3), (aI k (a 27) 48 fbarFrom__3), (aI k (a 28) 4 fruleRounds__3)] H := hP
      replace hD : va_D A [((a 0), .inr (8, (fX8 a (nI tx) fp__3 (nI t0__3) wd__3 (nI we__3) nu__3 na__3 (nI rd) ts (nI ru) (nI rw) (nI ca) df db sd))), (aI k (a 5) 240 ftext), (aI k (a 25) 4 (nF bm__3)), (aI k (a 26) 48 fbarSeen__3), (aI k (a 27) 48 fbarFrom__3), (aI k (a 28) 4 fruleRounds__3)] := hD
      try dsimp only at hw_3
      rcases hw_3 with ⟨⟨rfl, hrf_4, hfp_4⟩ | ⟨e_4, pl_4, rfl, he1_4, he2_4, hp1_4, hp2_4, rfl⟩, hM_4, hw_3⟩
      · replace hfp_4 := hfp_4.symm
        subst hfp_4
        refine lv_istore_n (lv' := [(1, .int 0), (0, .ref (a 0))]) hx hb dX8_rule_39 rfl hl (by decide) rfl (fun ls hl => ?_)
        refine lv_aload_n hx hb dX8_rule_40 rfl (lv_at hl 1 rfl) ?_
        refine lv_iconst (v := 0) hx hb dX8_rule_41 (by decide) ?_
        refine va_put (D := D) (ci := 8) (v := .int 0) (ty := .int) (C := RX8) (T := TX8) (N := 44) hx hb hts inX8 tyX8 tyX8_ok nmX8 hown hK hP hD hS 0 rfl rfl 5 (by decide) (hts _ tw_978) (fun _ h9 => h9) rfl (by decide +kernel) rfl rfl (Nat.le_of_ble_eq_true rfl) dX8_rule_42 (fun H locs hP hD hS => ?_)
        replace hP : va_P D classes [((a 0), .inr (8, (fX8 a 0 (-1) (nI t0__3) wd__3 (nI we__3) nu__3 na__3 (nI rd) ts (nI ru) (nI rw) (nI ca) df db sd))), (aI k (a 5) 240 ftext), (aI k (a 25) 4 (nF bm__3)), (aI k (a 26) 48 fbarSeen__3), (aI k (a 27) 48 fbarFrom__3), (aI k (a 28) 4 fruleRounds__3)] H := hP
        replace hD : va_D A [((a 0), .inr (8, (fX8 a 0 (-1) (nI t0__3) wd__3 (nI we__3) nu__3 na__3 (nI rd) ts (nI ru) (nI rw) (nI ca) df db sd))), (aI k (a 5) 240 ftext), (aI k (a 25) 4 (nF bm__3)), (aI k (a 26) 48 fbarSeen__3), (aI k (a 27) 48 fbarFrom__3), (aI k (a 28) 4 fruleRounds__3)] := hD
        refine lv_iload_n hx hb dX8_rule_45 rfl (lv_at hl 0 rfl) ?_
        refine lv_if_le (tgt := 54) hx hb dX8_rule_46 (by decide) (fun _ => ?_) (fun h => absurd (by decide) h)
        refine lv_aload_n hx hb dX8_rule_54 rfl (lv_at hl 1 rfl) ?_
        refine lv_dup hx hb dX8_rule_55 rfl ?_
        refine va_get (D := D) (ci := 8) (v := .int (nI ru)) (C := RX8) (T := TX8) (N := 44) hx hb hts inX8 hown hK hP 0 rfl rfl 23 (by decide) (hts _ tw_996) (fun _ h9 => h9) rfl dX8_rule_56 ?_
        refine lv_iconst (v := 1) hx hb dX8_rule_59 (by decide) ?_
        refine lv_iadd hx hb dX8_rule_60 ?_
        refine lv_ti (y := (nI (ru + 1))) (nI_add ru 1) ?_
        refine va_put (D := D) (ci := 8) (v := .int (nI (ru + 1))) (ty := .int) (C := RX8) (T := TX8) (N := 44) hx hb hts inX8 tyX8 tyX8_ok nmX8 hown hK hP hD hS 0 rfl rfl 23 (by decide) (hts _ tw_996) (fun _ h9 => h9) rfl (by decide +kernel) rfl rfl (Nat.le_of_ble_eq_true rfl) dX8_rule_61 (fun H locs hP hD hS => ?_)
        replace hP : va_P D classes [((a 0), .inr (8, (fX8 a 0 (-1) (nI t0__3) wd__3 (nI we__3) nu__3 na__3 (nI rd) ts (nI (ru + 1)) (nI rw) (nI ca) df db sd))), (aI k (a 5) 240 ftext), (aI k (a 25) 4 (nF bm__3)), (aI k (a 26) 48 fbarSeen__3), (aI k (a 27) 48 fbarFrom__3), (aI k (a 28) 4 fruleRounds__3)] H := hP
        replace hD : va_D A [((a 0), .inr (8, (fX8 a 0 (-1) (nI t0__3) wd__3 (nI we__3) nu__3 na__3 (nI rd) ts (nI (ru + 1)) (nI rw) (nI ca) df db sd))), (aI k (a 5) 240 ftext), (aI k (a 25) 4 (nF bm__3)), (aI k (a 26) 48 fbarSeen__3), (aI k (a 27) 48 fbarFrom__3), (aI k (a 28) 4 fruleRounds__3)] := hD
        refine lv_aload_n hx hb dX8_rule_64 rfl (lv_at hl 1 rfl) ?_
        refine va_get (D := D) (ci := 8) (v := .int (nI (ru + 1))) (C := RX8) (T := TX8) (N := 44) hx hb hts inX8 hown hK hP 0 rfl rfl 23 (by decide) (hts _ tw_996) (fun _ h9 => h9) rfl dX8_rule_65 ?_
        refine lv_iconst (v := 1) hx hb dX8_rule_68 (by decide) ?_
        refine lv_isub hx hb dX8_rule_69 ?_
        refine lv_ti (y := (nI (ru + 1) - 1)) rfl ?_
        have hP9 := hP.sub (ws' := [((a 0), .inr (8, (fX8 a 0 (-1) (nI t0__3) wd__3 (nI we__3) nu__3 na__3 (nI rd) ts (nI (ru + 1)) (nI rw) (nI ca) df db sd))), (aI k (a 5) 240 ftext), (aI k (a 25) 4 (nF bm__3)), (aI k (a 26) 48 fbarSeen__3), (aI k (a 27) 48 fbarFrom__3), (aI k (a 28) 4 fruleRounds__3)]) [0, 1, 2, 3, 4, 5] rfl
        have hD9 := hD.sub (ws' := [((a 0), .inr (8, (fX8 a 0 (-1) (nI t0__3) wd__3 (nI we__3) nu__3 na__3 (nI rd) ts (nI (ru + 1)) (nI rw) (nI ca) df db sd))), (aI k (a 5) 240 ftext), (aI k (a 25) 4 (nF bm__3)), (aI k (a 26) 48 fbarSeen__3), (aI k (a 27) 48 fbarFrom__3), (aI k (a 28) 4 fruleRounds__3)]) [0, 1, 2, 3, 4, 5] (by decide) rfl
        exact W.iret (v := (nI (ru + 1) - 1)) hx hb hr (fun t ht hW => ⟨⟨(nI (ru + 1) - 1), (t0__3, wd__3, we__3, (-1), nu__3, na__3, 0, (ru + 1), bm__3, fbarSeen__3, fbarFrom__3, fruleRounds__3), rfl, ⟨⟨fun h => absurd h (by omega), fun _ h => absurd h (by omega), fun _ _ => ⟨rfl, hM_4, .inr ⟨hrf_4, (by show nI (ru + 1) - nI 1 = nI ru; rw [pk_sub (by omega)]; rfl), rfl, rfl⟩⟩⟩, by omega, by omega, hw_3⟩, by rw [ht]; exact hP9, hD9⟩, hS.F ht⟩) hS.2.2 dX8_rule_70
      · refine lv_istore_n (lv' := [(1, .int (nI e_4)), (0, .ref (a 0))]) hx hb dX8_rule_39 rfl hl (by decide) rfl (fun ls hl => ?_)
        refine lv_aload_n hx hb dX8_rule_40 rfl (lv_at hl 1 rfl) ?_
        refine lv_iconst (v := 0) hx hb dX8_rule_41 (by decide) ?_
        refine va_put (D := D) (ci := 8) (v := .int 0) (ty := .int) (C := RX8) (T := TX8) (N := 44) hx hb hts inX8 tyX8 tyX8_ok nmX8 hown hK hP hD hS 0 rfl rfl 5 (by decide) (hts _ tw_978) (fun _ h9 => h9) rfl (by decide +kernel) rfl rfl (Nat.le_of_ble_eq_true rfl) dX8_rule_42 (fun H locs hP hD hS => ?_)
        replace hP : va_P D classes [((a 0), .inr (8, (fX8 a 0 (nI pl_4) (nI t0__3) wd__3 (nI we__3) nu__3 na__3 (nI rd) ts (nI ru) (nI rw) (nI ca) df db sd))), (aI k (a 5) 240 ftext), (aI k (a 25) 4 (nF bm__3)), (aI k (a 26) 48 fbarSeen__3), (aI k (a 27) 48 fbarFrom__3), (aI k (a 28) 4 fruleRounds__3)] H := hP
        replace hD : va_D A [((a 0), .inr (8, (fX8 a 0 (nI pl_4) (nI t0__3) wd__3 (nI we__3) nu__3 na__3 (nI rd) ts (nI ru) (nI rw) (nI ca) df db sd))), (aI k (a 5) 240 ftext), (aI k (a 25) 4 (nF bm__3)), (aI k (a 26) 48 fbarSeen__3), (aI k (a 27) 48 fbarFrom__3), (aI k (a 28) 4 fruleRounds__3)] := hD
        refine lv_iload_n hx hb dX8_rule_45 rfl (lv_at hl 0 rfl) ?_
        refine lv_if_le (tgt := 54) hx hb dX8_rule_46 (by decide) (fun h => absurd ((nI_leI (a := e_4) (b := 0) (by omega) (by omega)).mp h) (by omega)) (fun _ => ?_)
        refine lv_bipush (v := (-10)) hx hb dX8_rule_49 (by decide) ?_
        refine lv_iload_n hx hb dX8_rule_51 rfl (lv_at hl 0 rfl) ?_
        refine lv_isub hx hb dX8_rule_52 ?_
        refine lv_topi (fun x_6 ex_6 => ?_)
        have hP9 := hP.sub (ws' := [((a 0), .inr (8, (fX8 a 0 (nI pl_4) (nI t0__3) wd__3 (nI we__3) nu__3 na__3 (nI rd) ts (nI ru) (nI rw) (nI ca) df db sd))), (aI k (a 5) 240 ftext), (aI k (a 25) 4 (nF bm__3)), (aI k (a 26) 48 fbarSeen__3), (aI k (a 27) 48 fbarFrom__3), (aI k (a 28) 4 fruleRounds__3)]) [0, 1, 2, 3, 4, 5] rfl
        have hD9 := hD.sub (ws' := [((a 0), .inr (8, (fX8 a 0 (nI pl_4) (nI t0__3) wd__3 (nI we__3) nu__3 na__3 (nI rd) ts (nI ru) (nI rw) (nI ca) df db sd))), (aI k (a 5) 240 ftext), (aI k (a 25) 4 (nF bm__3)), (aI k (a 26) 48 fbarSeen__3), (aI k (a 27) 48 fbarFrom__3), (aI k (a 28) 4 fruleRounds__3)]) [0, 1, 2, 3, 4, 5] (by decide) rfl
        exact W.iret (v := x_6) hx hb hr (fun t ht hW => ⟨⟨x_6, (t0__3, wd__3, we__3, (nI pl_4), nu__3, na__3, 0, ru, bm__3, fbarSeen__3, fbarFrom__3, fruleRounds__3), rfl, ⟨⟨fun h => absurd h (by omega), fun _ h => absurd h (by omega), fun _ _ => ⟨rfl, hM_4, .inl ⟨e_4, pl_4, he1_4, he2_4, hp1_4, hp2_4, ex_6, rfl, rfl⟩⟩⟩, by omega, by omega, hw_3⟩, by rw [ht]; exact hP9, hD9⟩, hS.F ht⟩) hS.2.2 dX8_rule_53
    · have c_2 := (nI_eq (a := ru) (b := 4) (by omega) (by omega)).mp c_2
      refine lv_sipush (v := (-1004)) hx hb dX8_rule_21 (by decide) ?_
      have hP9 := hP.sub (ws' := [((a 0), .inr (8, (fX8 a (nI tx) fp (nI t0) wd (nI we) nu na (nI rd) ts (nI ru) (nI rw) (nI ca) df db sd))), (aI k (a 5) 240 ftext), (aI k (a 25) 4 (nF bm)), (aI k (a 26) 48 fbarSeen), (aI k (a 27) 48 fbarFrom), (aI k (a 28) 4 fruleRounds)]) [0, 1, 2, 3, 4, 5] rfl
      have hD9 := hD.sub (ws' := [((a 0), .inr (8, (fX8 a (nI tx) fp (nI t0) wd (nI we) nu na (nI rd) ts (nI ru) (nI rw) (nI ca) df db sd))), (aI k (a 5) 240 ftext), (aI k (a 25) 4 (nF bm)), (aI k (a 26) 48 fbarSeen), (aI k (a 27) 48 fbarFrom), (aI k (a 28) 4 fruleRounds)]) [0, 1, 2, 3, 4, 5] (by decide) rfl
      exact W.iret (v := (-1004)) hx hb hr (fun t ht hW => ⟨⟨(-1004), (t0, wd, we, fp, nu, na, tx, ru, bm, fbarSeen, fbarFrom, fruleRounds), rfl, ⟨⟨fun h => absurd h (by omega), fun _ _ => ⟨rfl, rfl, rfl, rfl, fun _ _ => rfl⟩, fun _ h => absurd h (by omega)⟩, by omega, by omega, hbm⟩, by rw [ht]; exact hP9, hD9⟩, hS.F ht⟩) hS.2.2 dX8_rule_24
  · have c_1 : ¬ (tx ≤ 80) := fun h => c_1 ((nI_leI (a := tx) (b := 80) (by omega) (by omega)).mpr h)
    refine lv_sipush (v := (-1003)) hx hb dX8_rule_9 (by decide) ?_
    have hP9 := hP.sub (ws' := [((a 0), .inr (8, (fX8 a (nI tx) fp (nI t0) wd (nI we) nu na (nI rd) ts (nI ru) (nI rw) (nI ca) df db sd))), (aI k (a 5) 240 ftext), (aI k (a 25) 4 (nF bm)), (aI k (a 26) 48 fbarSeen), (aI k (a 27) 48 fbarFrom), (aI k (a 28) 4 fruleRounds)]) [0, 1, 2, 3, 4, 5] rfl
    have hD9 := hD.sub (ws' := [((a 0), .inr (8, (fX8 a (nI tx) fp (nI t0) wd (nI we) nu na (nI rd) ts (nI ru) (nI rw) (nI ca) df db sd))), (aI k (a 5) 240 ftext), (aI k (a 25) 4 (nF bm)), (aI k (a 26) 48 fbarSeen), (aI k (a 27) 48 fbarFrom), (aI k (a 28) 4 fruleRounds)]) [0, 1, 2, 3, 4, 5] (by decide) rfl
    exact W.iret (v := (-1003)) hx hb hr (fun t ht hW => ⟨⟨(-1003), (t0, wd, we, fp, nu, na, tx, ru, bm, fbarSeen, fbarFrom, fruleRounds), rfl, ⟨⟨fun _ => ⟨rfl, rfl, rfl, rfl, fun _ _ => rfl⟩, fun h => absurd h (by omega), fun h => absurd h (by omega)⟩, by omega, by omega, hbm⟩, by rw [ht]; exact hP9, hD9⟩, hS.F ht⟩) hS.2.2 dX8_rule_12


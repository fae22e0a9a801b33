theorem f_glueP8 : True := trivial


set_option maxHeartbeats 4000000 in
set_option maxRecDepth 100000 in
theorem n_takeClause (l : Launch) (D : va_G) (k : Nat → ClassId) (st : Nat → Nat) (lo : Nat) (a : Nat → Nat) (tx : Nat) (t0 : Nat) (we : Nat) (rd : Nat) (ru : Nat) (rw : Nat) (ca : Nat) (fp : Int32) (wd : Int64) (nu : Int32) (na : Int32) (ts : Int32) (df : Int32) (db : Int32) (sd : Int32) (ftext : Nat → Int32) (freadFree : Nat → Int32) (freadPrice : Nat → Int32) (freadSingle : Nat → Int32) (ht : t0 ≤ tx) (htx : tx ≤ 240) (hrd : rd ≤ 24) (hrs : rsOK freadSingle) : CWi l D k st lo yX8_takeClause cX8_takeClause 4 (some .int) ({ frames := 4, cells := 0, slots := 0, locals := 98 }) 0 0 [.ref (a 0)] [((a 0), .inr (8, (fX8 a (nI tx) fp (nI t0) wd (nI we) nu na (nI rd) ts (nI ru) (nI rw) (nI ca) df db sd))), (aI k (a 5) 240 ftext), (aI k (a 14) 24 freadFree), (aI k (a 15) 24 freadPrice), (aI k (a 16) 9 freadSingle)] (fun (r : Int32) (u : Nat × Int64 × Nat × Int32 × Int32 × Int32 × Nat × Int32 × (Nat → Int32) × (Nat → Int32) × (Nat → Int32)) => match u with | (t0_, wd_, we_, fp_, nu_, na_, rd_, ts_, freadFree_, freadPrice_, freadSingle_) => ((r = 0 ∧ clF ftext tx t0 (stM rd freadSingle freadFree freadPrice ts) = (0, 0, t0_, stM rd_ freadSingle_ freadFree_ freadPrice_ ts_) ∧ fp_ = fp) ∨ (∃ e pl : Nat, r = nI e ∧ 1 ≤ e ∧ e ≤ 4 ∧ (clF ftext tx t0 (stM rd freadSingle freadFree freadPrice ts)).1 = e ∧ (clF ftext tx t0 (stM rd freadSingle freadFree freadPrice ts)).2.1 = pl ∧ fp_ = nI pl)) ∧ t0 ≤ t0_ ∧ t0_ ≤ tx ∧ rd_ ≤ 24 ∧ (r = 0 → t0 < t0_) ∧ (r = 0 → rsOK freadSingle_)) (fun (u : Nat × Int64 × Nat × Int32 × Int32 × Int32 × Nat × Int32 × (Nat → Int32) × (Nat → Int32) × (Nat → Int32)) => match u with | (t0_, wd_, we_, fp_, nu_, na_, rd_, ts_, freadFree_, freadPrice_, freadSingle_) => [((a 0), .inr (8, (fX8 a (nI tx) fp_ (nI t0_) wd_ (nI we_) nu_ na_ (nI rd_) ts_ (nI ru) (nI rw) (nI ca) df db sd))), (aI k (a 5) 240 ftext), (aI k (a 14) 24 freadFree_), (aI k (a 15) 24 freadPrice_), (aI k (a 16) 9 freadSingle_)]) := by
  intro sz
  refine Met.ofW (cc := cX8_takeClause) (maxL := 4) (ret := (some .int)) (by decide) rfl ?_
  intro p e s m args below meth c s₁ B hml hv
  obtain ⟨rfl, hsz, hlo, hP, hK, hDL, hZ⟩ := hv
  have hx := B.exec
  have hb := B.bytes
  have hr := B.returns
  have hts := WS_ts B.pre
  have hown : s.vm.findClass RX8 = some m.cls := findClass_of_methodNamed B.named
  have hlocks := B.notSynchronized
  subst hsz
  have hD := hDL.self (sz := s.heap.size)
  have hAlo := A_lo hDL hlo
  generalize hAe : va_A [((a 0), .inr (8, (fX8 a (nI tx) fp (nI t0) wd (nI we) nu na (nI rd) ts (nI ru) (nI rw) (nI ca) df db sd))), (aI k (a 5) 240 ftext), (aI k (a 14) 24 freadFree), (aI k (a 15) 24 freadPrice), (aI k (a 16) 9 freadSingle)] s.heap.size = A at hD hAlo ⊢
  have hA : ∀ q : Nat, s.heap.size ≤ q → A q := fun q h => by rw [← hAe]; exact Or.inr h
  have hS : va_S A s.heap s.heap [] := va_S.rf
  have hl := lv_entry ([.ref (a 0)]) (n := 4) (Nat.le_of_ble_eq_true rfl)
  rw [lg_entry_eq]
  generalize (lg_sl ([.ref (a 0)]) ++ List.replicate (4 - (lg_sl ([.ref (a 0)])).length) Slot.unset).toArray = ls at hl ⊢
  have hl : lv_has ls 4 [(0, .ref (a 0))] := hl
  refine lv_aload_n hx hb dX8_takeClause_0 rfl (lv_at hl 0 rfl) ?_
  refine rw_v (D := D) (wr := [(aI k (a 14) 24 freadFree), (aI k (a 15) 24 freadPrice), (aI k (a 16) 9 freadSingle)]) (va_runV (As := []) (rest := []) ⟨hx, hb, hml, hown, hts⟩ ((n_readWord l D k st lo a tx t0 we rd ru rw ca fp wd nu na ts df db sd ftext (by first | assumption | omega) (by first | assumption | omega)) s.heap.size) (cwV 0 hts (gV tw_1128 tw_1130 tw_29 tw_87 tw_1131) rfl rfl rfl (by decide +kernel) ⟨Nat.le_of_ble_eq_true rfl, Nat.le_of_ble_eq_true rfl⟩) (pV hS hAlo hlo hP hK (va_Dlo hD hAlo) hZ [0, 1] (by decide) rfl (ci := 8) (q := (RX8, TX8, 44)) (q0 := 0) rfl rfl) rfl rfl hl.1 rfl (lv_room (Nat.le_of_ble_eq_true rfl)) dX8_takeClause_1 ⟨Nat.le_of_ble_eq_true rfl, Nat.le_of_ble_eq_true rfl⟩) hS hA hP hD [0, 1] [2, 3, 4] rfl rfl (by decide) (by decide) (fun u H locs hw_1 hP hD hS => ?_)
  obtain ⟨t0__1, wd__1, we__1⟩ := u
  replace hP : va_P D classes [(aI k (a 14) 24 freadFree), (aI k (a 15) 24 freadPrice), (aI k (a 16) 9 freadSingle), ((a 0), .inr (8, (fX8 a (nI tx) fp (nI t0__1) wd__1 (nI we__1) nu na (nI rd) ts (nI ru) (nI rw) (nI ca) df db sd))), (aI k (a 5) 240 ftext)] H := hP
  replace hD : va_D A [(aI k (a 14) 24 freadFree), (aI k (a 15) 24 freadPrice), (aI k (a 16) 9 freadSingle), ((a 0), .inr (8, (fX8 a (nI tx) fp (nI t0__1) wd__1 (nI we__1) nu na (nI rd) ts (nI ru) (nI rw) (nI ca) df db sd))), (aI k (a 5) 240 ftext)] := hD
  try dsimp only at hw_1
  refine lv_aload_n hx hb dX8_takeClause_4 rfl (lv_at hl 0 rfl) ?_
  refine ro_i (D := D) (va_runV (As := []) (rest := []) ⟨hx, hb, hml, hown, hts⟩ ((n_clauseOf l D k st lo a tx t0__1 we__1 rd ru rw ca fp wd__1 nu na ts df db sd) H.size) (cwV 0 hts (gV tw_1138 tw_1140 tw_30 tw_87 tw_1141) rfl rfl rfl (by decide +kernel) ⟨Nat.le_of_ble_eq_true rfl, Nat.le_of_ble_eq_true rfl⟩) (pV hS hAlo hlo hP hK (va_Dlo hD hAlo) hZ [3] (by decide) rfl (ci := 8) (q := (RX8, TX8, 44)) (q0 := 0) rfl rfl) rfl rfl hl.1 rfl (lv_room (Nat.le_of_ble_eq_true rfl)) dX8_takeClause_5 ⟨Nat.le_of_ble_eq_true rfl, Nat.le_of_ble_eq_true rfl⟩) hS hA hP (fun r_2 H locs hw_2 hP hS => ?_)
  try dsimp only at hw_2
  rcases kwsp (L := letA ftext tx t0__1) (hw_2.trans ((fM_clq _).trans (by rw [hw_1.2.2.1]; exact clQ_kw letA_all))) with ⟨hk_3, rfl⟩ | ⟨hk_3, rfl⟩ | ⟨cl_3, hc1_3, hc2_3, hk_3, rfl⟩
  · have hT_3 := hw_1.2.1
    rw [hw_1.1] at hk_3 hT_3
    refine lv_istore_n (lv' := [(1, .int (-1)), (0, .ref (a 0))]) hx hb dX8_takeClause_8 rfl hl (by decide) rfl (fun ls hl => ?_)
    refine lv_iload_n hx hb dX8_takeClause_9 rfl (lv_at hl 0 rfl) ?_
    refine lv_if_lt (tgt := 35) hx hb dX8_takeClause_10 (by decide) (fun _ => ?_) (fun h => absurd (by decide) h)
    refine lv_iconst (v := 0) hx hb dX8_takeClause_35 (by decide) ?_
    refine lv_istore_n (lv' := [(2, .int 0), (1, .int (-1)), (0, .ref (a 0))]) hx hb dX8_takeClause_36 rfl hl (by decide) rfl (fun ls hl => ?_)
    refine lv_iload_n hx hb dX8_takeClause_37 rfl (lv_at hl 1 rfl) ?_
    refine lv_if_lt (tgt := 45) hx hb dX8_takeClause_38 (by decide) (fun _ => ?_) (fun h => absurd (by decide) h)
    refine lv_aload_n hx hb dX8_takeClause_45 rfl (lv_at hl 2 rfl) ?_
    refine lv_iload_n hx hb dX8_takeClause_46 rfl (lv_at hl 1 rfl) ?_
    refine lv_if_ge (tgt := 54) hx hb dX8_takeClause_47 (by decide) (fun h => absurd h (by decide)) (fun _ => ?_)
    refine lv_iconst (v := 1) hx hb dX8_takeClause_50 (by decide) ?_
    refine lv_goto (tgt := 55) hx hb dX8_takeClause_51 (by decide) ?_
    refine lv_aload_n hx hb dX8_takeClause_55 rfl (lv_at hl 2 rfl) ?_
    refine va_get (D := D) (ci := 8) (v := .int (nI t0__1)) (C := RX8) (T := TX8) (N := 44) hx hb hts inX8 hown hK hP 3 rfl rfl 7 (by decide) (hts _ tw_980) (fun _ h9 => h9) rfl dX8_takeClause_56 ?_
    refine rw_i (D := D) (wr := [(aI k (a 14) 24 freadFree), (aI k (a 15) 24 freadPrice), (aI k (a 16) 9 freadSingle), (aI k (a 5) 240 ftext)]) (va_runV (As := [.int 1, .int (nI t0__1)]) (rest := []) ⟨hx, hb, hml, hown, hts⟩ ((n_fails l D k st lo a tx t0__1 we__1 rd ru rw ca fp wd__1 nu na ts df db sd 1 (nI t0__1)) H.size) (cwV 2 hts (gV tw_1151 tw_1153 tw_31 tw_87 tw_1154) rfl rfl rfl (by decide +kernel) ⟨Nat.le_of_ble_eq_true rfl, Nat.le_of_ble_eq_true rfl⟩) (pV hS hAlo hlo hP hK (va_Dlo hD hAlo) hZ [3] (by decide) rfl (ci := 8) (q := (RX8, TX8, 44)) (q0 := 0) rfl rfl) rfl rfl hl.1 rfl (lv_room (Nat.le_of_ble_eq_true rfl)) dX8_takeClause_59 ⟨Nat.le_of_ble_eq_true rfl, Nat.le_of_ble_eq_true rfl⟩) hS hA hP hD [3] [0, 1, 2, 4] rfl rfl (by decide) (by decide) (fun r_4 u H locs hw_4 hP hD hS => ?_)
    obtain ⟨fp__4, rfl⟩ : ∃ z, z = u := ⟨_, rfl⟩
    replace hP : va_P D classes [(aI k (a 14) 24 freadFree), (aI k (a 15) 24 freadPrice), (aI k (a 16) 9 freadSingle), (aI k (a 5) 240 ftext), ((a 0), .inr (8, (fX8 a (nI tx) fp__4 (nI t0__1) wd__1 (nI we__1) nu na (nI rd) ts (nI ru) (nI rw) (nI ca) df db sd)))] H := hP
    replace hD : va_D A [(aI k (a 14) 24 freadFree), (aI k (a 15) 24 freadPrice), (aI k (a 16) 9 freadSingle), (aI k (a 5) 240 ftext), ((a 0), .inr (8, (fX8 a (nI tx) fp__4 (nI t0__1) wd__1 (nI we__1) nu na (nI rd) ts (nI ru) (nI rw) (nI ca) df db sd)))] := hD
    try dsimp only at hw_4
    obtain ⟨hs0_5, hs1_5⟩ := hw_4
    replace hs0_5 := hs0_5.symm
    subst hs0_5
    replace hs1_5 := hs1_5.symm
    subst hs1_5
    have hP9 := hP.sub (ws' := [((a 0), .inr (8, (fX8 a (nI tx) (nI t0__1) (nI t0__1) wd__1 (nI we__1) nu na (nI rd) ts (nI ru) (nI rw) (nI ca) df db sd))), (aI k (a 5) 240 ftext), (aI k (a 14) 24 freadFree), (aI k (a 15) 24 freadPrice), (aI k (a 16) 9 freadSingle)]) [4, 3, 0, 1, 2] rfl
    have hD9 := hD.sub (ws' := [((a 0), .inr (8, (fX8 a (nI tx) (nI t0__1) (nI t0__1) wd__1 (nI we__1) nu na (nI rd) ts (nI ru) (nI rw) (nI ca) df db sd))), (aI k (a 5) 240 ftext), (aI k (a 14) 24 freadFree), (aI k (a 15) 24 freadPrice), (aI k (a 16) 9 freadSingle)]) [4, 3, 0, 1, 2] (by decide) rfl
    exact W.iret (v := 1) hx hb hr (fun t ht hW => ⟨⟨1, (t0__1, wd__1, we__1, (nI t0__1), nu, na, rd, ts, freadFree, freadPrice, freadSingle), rfl, ⟨.inr ⟨1, t0__1, rfl, by omega, by omega, (show (clF ftext tx t0 (stM rd freadSingle freadFree freadPrice ts)).1 = 1 ∧ (clF ftext tx t0 (stM rd freadSingle freadFree freadPrice ts)).2.1 = t0__1 by rw [cf_none hk_3]; exact ⟨rfl, hw_1.1.symm⟩).1, (show (clF ftext tx t0 (stM rd freadSingle freadFree freadPrice ts)).1 = 1 ∧ (clF ftext tx t0 (stM rd freadSingle freadFree freadPrice ts)).2.1 = t0__1 by rw [cf_none hk_3]; exact ⟨rfl, hw_1.1.symm⟩).2, rfl⟩, by omega, by omega, by omega, fun h => absurd h (by decide), fun h => absurd h (by decide)⟩, by rw [ht]; exact hP9, hD9⟩, hS.F ht⟩) hS.2.2 dX8_takeClause_62
  · have hT_3 := hw_1.2.1
    rw [hw_1.1] at hk_3 hT_3
    refine lv_istore_n (lv' := [(1, .int 9), (0, .ref (a 0))]) hx hb dX8_takeClause_8 rfl hl (by decide) rfl (fun ls hl => ?_)
    refine lv_iload_n hx hb dX8_takeClause_9 rfl (lv_at hl 0 rfl) ?_
    refine lv_if_lt (tgt := 35) hx hb dX8_takeClause_10 (by decide) (fun h => absurd h (by decide)) (fun _ => ?_)
    refine lv_iload_n hx hb dX8_takeClause_13 rfl (lv_at hl 0 rfl) ?_
    refine lv_bipush (v := 9) hx hb dX8_takeClause_14 (by decide) ?_
    refine lv_icmp_ge (tgt := 35) hx hb dX8_takeClause_16 (by decide) (fun _ => ?_) (fun h => absurd (by decide) h)
    refine lv_iconst (v := 0) hx hb dX8_takeClause_35 (by decide) ?_
    refine lv_istore_n (lv' := [(2, .int 0), (1, .int 9), (0, .ref (a 0))]) hx hb dX8_takeClause_36 rfl hl (by decide) rfl (fun ls hl => ?_)
    refine lv_iload_n hx hb dX8_takeClause_37 rfl (lv_at hl 1 rfl) ?_
    refine lv_if_lt (tgt := 45) hx hb dX8_takeClause_38 (by decide) (fun h => absurd h (by decide)) (fun _ => ?_)
    refine lv_iload_n hx hb dX8_takeClause_41 rfl (lv_at hl 0 rfl) ?_
    refine lv_if_eq (tgt := 63) hx hb dX8_takeClause_42 (by decide) (fun _ => ?_) (fun h => absurd (by decide) h)
    refine lv_aload_n hx hb dX8_takeClause_63 rfl (lv_at hl 2 rfl) ?_
    refine lv_dup hx hb dX8_takeClause_64 rfl ?_
    refine va_get (D := D) (ci := 8) (v := .int ts) (C := RX8) (T := TX8) (N := 44) hx hb hts inX8 hown hK hP 3 rfl rfl 16 (by decide) (hts _ tw_989) (fun _ h9 => h9) rfl dX8_takeClause_65 ?_
    refine lv_iconst (v := 1) hx hb dX8_takeClause_68 (by decide) ?_
    refine lv_iload_n hx hb dX8_takeClause_69 rfl (lv_at hl 1 rfl) ?_
    refine lv_ishl hx hb dX8_takeClause_70 ?_
    refine lv_ti (y := 512) (by decide) ?_
    refine lv_ior hx hb dX8_takeClause_71 ?_
    refine lv_topi (fun x_6 ex_6 => ?_)
    refine va_put (D := D) (ci := 8) (v := .int x_6) (ty := .int) (C := RX8) (T := TX8) (N := 44) hx hb hts inX8 tyX8 tyX8_ok nmX8 hown hK hP hD hS 3 rfl rfl 16 (by decide) (hts _ tw_989) (fun _ h9 => h9) rfl (by decide +kernel) rfl rfl (Nat.le_of_ble_eq_true rfl) dX8_takeClause_72 (fun H locs hP hD hS => ?_)
    replace hP : va_P D classes [(aI k (a 14) 24 freadFree), (aI k (a 15) 24 freadPrice), (aI k (a 16) 9 freadSingle), ((a 0), .inr (8, (fX8 a (nI tx) fp (nI t0__1) wd__1 (nI we__1) nu na (nI rd) x_6 (nI ru) (nI rw) (nI ca) df db sd))), (aI k (a 5) 240 ftext)] H := hP
    replace hD : va_D A [(aI k (a 14) 24 freadFree), (aI k (a 15) 24 freadPrice), (aI k (a 16) 9 freadSingle), ((a 0), .inr (8, (fX8 a (nI tx) fp (nI t0__1) wd__1 (nI we__1) nu na (nI rd) x_6 (nI ru) (nI rw) (nI ca) df db sd))), (aI k (a 5) 240 ftext)] := hD
    refine lv_aload_n hx hb dX8_takeClause_75 rfl (lv_at hl 2 rfl) ?_
    refine lv_aload_n hx hb dX8_takeClause_76 rfl (lv_at hl 2 rfl) ?_
    refine va_get (D := D) (ci := 8) (v := .int (nI we__1)) (C := RX8) (T := TX8) (N := 44) hx hb hts inX8 hown hK hP 3 rfl rfl 9 (by decide) (hts _ tw_982) (fun _ h9 => h9) rfl dX8_takeClause_77 ?_
    refine va_put (D := D) (ci := 8) (v := .int (nI we__1)) (ty := .int) (C := RX8) (T := TX8) (N := 44) hx hb hts inX8 tyX8 tyX8_ok nmX8 hown hK hP hD hS 3 rfl rfl 7 (by decide) (hts _ tw_980) (fun _ h9 => h9) rfl (by decide +kernel) rfl rfl (Nat.le_of_ble_eq_true rfl) dX8_takeClause_80 (fun H locs hP hD hS => ?_)
    replace hP : va_P D classes [(aI k (a 14) 24 freadFree), (aI k (a 15) 24 freadPrice), (aI k (a 16) 9 freadSingle), ((a 0), .inr (8, (fX8 a (nI tx) fp (nI we__1) wd__1 (nI we__1) nu na (nI rd) x_6 (nI ru) (nI rw) (nI ca) df db sd))), (aI k (a 5) 240 ftext)] H := hP
    replace hD : va_D A [(aI k (a 14) 24 freadFree), (aI k (a 15) 24 freadPrice), (aI k (a 16) 9 freadSingle), ((a 0), .inr (8, (fX8 a (nI tx) fp (nI we__1) wd__1 (nI we__1) nu na (nI rd) x_6 (nI ru) (nI rw) (nI ca) df db sd))), (aI k (a 5) 240 ftext)] := hD
    refine lv_iload_n hx hb dX8_takeClause_83 rfl (lv_at hl 1 rfl) ?_
    refine lv_bipush (v := 9) hx hb dX8_takeClause_84 (by decide) ?_
    refine lv_icmp_ne (tgt := 96) hx hb dX8_takeClause_86 (by decide) (fun h => absurd (by decide) h) (fun _ => ?_)
    refine lv_aload_n hx hb dX8_takeClause_89 rfl (lv_at hl 2 rfl) ?_
    refine rw_i (D := D) (wr := [(aI k (a 16) 9 freadSingle)]) (va_runV (As := []) (rest := []) ⟨hx, hb, hml, hown, hts⟩ ((n_takeDoors l D k st lo a tx we__1 we__1 rd ru rw ca fp wd__1 nu na x_6 df db sd ftext freadFree freadPrice (by first | assumption | omega) (by first | assumption | omega) (by first | assumption | omega)) H.size) (cwV 0 hts (gV tw_1155 tw_1157 tw_32 tw_87 tw_1158) rfl rfl rfl (by decide +kernel) ⟨Nat.le_of_ble_eq_true rfl, Nat.le_of_ble_eq_true rfl⟩) (pV hS hAlo hlo hP hK (va_Dlo hD hAlo) hZ [3, 4, 0, 1] (by decide) rfl (ci := 8) (q := (RX8, TX8, 44)) (q0 := 0) rfl rfl) rfl rfl hl.1 rfl (lv_room (Nat.le_of_ble_eq_true rfl)) dX8_takeClause_90 ⟨Nat.le_of_ble_eq_true rfl, Nat.le_of_ble_eq_true rfl⟩) hS hA hP hD [3, 4, 0, 1] [2] rfl rfl (by decide) (by decide) (fun r_7 u H locs hw_7 hP hD hS => ?_)
    obtain ⟨t0__7, wd__7, we__7, fp__7, nu__7, na__7, rd__7, freadFree__7, freadPrice__7⟩ := u
    replace hP : va_P D classes [(aI k (a 16) 9 freadSingle), ((a 0), .inr (8, (fX8 a (nI tx) fp__7 (nI t0__7) wd__7 (nI we__7) nu__7 na__7 (nI rd__7) x_6 (nI ru) (nI rw) (nI ca) df db sd))), (aI k (a 5) 240 ftext), (aI k (a 14) 24 freadFree__7), (aI k (a 15) 24 freadPrice__7)] H := hP
    replace hD : va_D A [(aI k (a 16) 9 freadSingle), ((a 0), .inr (8, (fX8 a (nI tx) fp__7 (nI t0__7) wd__7 (nI we__7) nu__7 na__7 (nI rd__7) x_6 (nI ru) (nI rw) (nI ca) df db sd))), (aI k (a 5) 240 ftext), (aI k (a 14) 24 freadFree__7), (aI k (a 15) 24 freadPrice__7)] := hD
    try dsimp only at hw_7
    rcases hw_7 with ⟨⟨rfl, m_8, v3_8, v5_8, hd_8, hn_8, hf_8, hg_8, hfp_8⟩ | ⟨e_8, pl_8, rfl, he1_8, he2_8, hp1_8, hp2_8, rfl⟩, hw_7⟩
    · replace hfp_8 := hfp_8.symm
      subst hfp_8
      refine lv_goto (tgt := 101) hx hb dX8_takeClause_93 (by decide) ?_
      refine lv_istore_n (lv' := [(3, .int 0), (2, .int 0), (1, .int 9), (0, .ref (a 0))]) hx hb dX8_takeClause_101 rfl hl (by decide) rfl (fun ls hl => ?_)
      refine lv_iload_n hx hb dX8_takeClause_102 rfl (lv_at hl 0 rfl) ?_
      refine lv_if_le (tgt := 108) hx hb dX8_takeClause_103 (by decide) (fun _ => ?_) (fun h => absurd (by decide) h)
      refine lv_aload_n hx hb dX8_takeClause_108 rfl (lv_at hl 3 rfl) ?_
      refine rw_i (D := D) (wr := [(aI k (a 16) 9 freadSingle), (aI k (a 14) 24 freadFree__7), (aI k (a 15) 24 freadPrice__7)]) (va_runV (As := []) (rest := []) ⟨hx, hb, hml, hown, hts⟩ ((n_here l D k st lo a tx t0__7 we__7 rd__7 ru rw ca fp wd__7 nu__7 na__7 x_6 df db sd ftext (by first | assumption | omega) (by first | assumption | omega)) H.size) (cwV 0 hts (gV tw_1120 tw_1122 tw_27 tw_87 tw_1123) rfl rfl rfl (by decide +kernel) ⟨Nat.le_of_ble_eq_true rfl, Nat.le_of_ble_eq_true rfl⟩) (pV hS hAlo hlo hP hK (va_Dlo hD hAlo) hZ [1, 2] (by decide) rfl (ci := 8) (q := (RX8, TX8, 44)) (q0 := 0) rfl rfl) rfl rfl hl.1 rfl (lv_room (Nat.le_of_ble_eq_true rfl)) dX8_takeClause_109 ⟨Nat.le_of_ble_eq_true rfl, Nat.le_of_ble_eq_true rfl⟩) hS hA hP hD [1, 2] [0, 3, 4] rfl rfl (by decide) (by decide) (fun r_9 u H locs hw_9 hP hD hS => ?_)
      obtain ⟨t0__9, rfl⟩ : ∃ z, z = u := ⟨_, rfl⟩
      replace hP : va_P D classes [(aI k (a 16) 9 freadSingle), (aI k (a 14) 24 freadFree__7), (aI k (a 15) 24 freadPrice__7), ((a 0), .inr (8, (fX8 a (nI tx) fp (nI t0__9) wd__7 (nI we__7) nu__7 na__7 (nI rd__7) x_6 (nI ru) (nI rw) (nI ca) df db sd))), (aI k (a 5) 240 ftext)] H := hP
      replace hD : va_D A [(aI k (a 16) 9 freadSingle), (aI k (a 14) 24 freadFree__7), (aI k (a 15) 24 freadPrice__7), ((a 0), .inr (8, (fX8 a (nI tx) fp (nI t0__9) wd__7 (nI we__7) nu__7 na__7 (nI rd__7) x_6 (nI ru) (nI rw) (nI ca) df db sd))), (aI k (a 5) 240 ftext)] := hD
      try dsimp only at hw_9
      refine lv_bipush (v := 59) hx hb dX8_takeClause_112 (by decide) ?_
      refine lv_icmp_eq (tgt := 127) hx hb dX8_takeClause_114 (by decide) (fun c_10 => ?_) (fun c_10 => ?_)
      · have hlt_11 : t0__9 < tx := by rcases Nat.lt_or_ge (t0__9) tx with h | h; exact h; exact absurd (c_10.symm.trans (hw_9.2.1.trans (byF_out (by omega)))) (by decide)
        refine lv_aload_n hx hb dX8_takeClause_127 rfl (lv_at hl 3 rfl) ?_
        refine lv_dup hx hb dX8_takeClause_128 rfl ?_
        refine va_get (D := D) (ci := 8) (v := .int (nI t0__9)) (C := RX8) (T := TX8) (N := 44) hx hb hts inX8 hown hK hP 3 rfl rfl 7 (by decide) (hts _ tw_980) (fun _ h9 => h9) rfl dX8_takeClause_129 ?_
        refine lv_iconst (v := 1) hx hb dX8_takeClause_132 (by decide) ?_
        refine lv_iadd hx hb dX8_takeClause_133 ?_
        refine lv_ti (y := (nI (t0__9 + 1))) (nI_add t0__9 1) ?_
        refine va_put (D := D) (ci := 8) (v := .int (nI (t0__9 + 1))) (ty := .int) (C := RX8) (T := TX8) (N := 44) hx hb hts inX8 tyX8 tyX8_ok nmX8 hown hK hP hD hS 3 rfl rfl 7 (by decide) (hts _ tw_980) (fun _ h9 => h9) rfl (by decide +kernel) rfl rfl (Nat.le_of_ble_eq_true rfl) dX8_takeClause_134 (fun H locs hP hD hS => ?_)
        replace hP : va_P D classes [(aI k (a 16) 9 freadSingle), (aI k (a 14) 24 freadFree__7), (aI k (a 15) 24 freadPrice__7), ((a 0), .inr (8, (fX8 a (nI tx) fp (nI (t0__9 + 1)) wd__7 (nI we__7) nu__7 na__7 (nI rd__7) x_6 (nI ru) (nI rw) (nI ca) df db sd))), (aI k (a 5) 240 ftext)] H := hP
        replace hD : va_D A [(aI k (a 16) 9 freadSingle), (aI k (a 14) 24 freadFree__7), (aI k (a 15) 24 freadPrice__7), ((a 0), .inr (8, (fX8 a (nI tx) fp (nI (t0__9 + 1)) wd__7 (nI we__7) nu__7 na__7 (nI rd__7) x_6 (nI ru) (nI rw) (nI ca) df db sd))), (aI k (a 5) 240 ftext)] := hD
        refine lv_iconst (v := 0) hx hb dX8_takeClause_137 (by decide) ?_
        have hP9 := hP.sub (ws' := [((a 0), .inr (8, (fX8 a (nI tx) fp (nI (t0__9 + 1)) wd__7 (nI we__7) nu__7 na__7 (nI rd__7) x_6 (nI ru) (nI rw) (nI ca) df db sd))), (aI k (a 5) 240 ftext), (aI k (a 14) 24 freadFree__7), (aI k (a 15) 24 freadPrice__7), (aI k (a 16) 9 freadSingle)]) [3, 4, 1, 2, 0] rfl
        have hD9 := hD.sub (ws' := [((a 0), .inr (8, (fX8 a (nI tx) fp (nI (t0__9 + 1)) wd__7 (nI we__7) nu__7 na__7 (nI rd__7) x_6 (nI ru) (nI rw) (nI ca) df db sd))), (aI k (a 5) 240 ftext), (aI k (a 14) 24 freadFree__7), (aI k (a 15) 24 freadPrice__7), (aI k (a 16) 9 freadSingle)]) [3, 4, 1, 2, 0] (by decide) rfl
        exact W.iret (v := 0) hx hb hr (fun t ht hW => ⟨⟨0, ((t0__9 + 1), wd__7, we__7, fp, nu__7, na__7, rd__7, x_6, freadFree__7, freadPrice__7, freadSingle), rfl, ⟨.inl ⟨rfl, (by rw [cf_do0 (σ := stM rd freadSingle freadFree freadPrice ts) hk_3 hT_3 (doC_0 hd_8 (smR_1 hw_9.1 hw_9.2.1 c_10)), hn_8, ex_6, show (512 : Int32) = (1 : Int32) <<< (nI 9 &&& 31) from by decide, stM_do hf_8 hg_8]; rfl), rfl⟩, by omega, by omega, by omega, fun _ => by omega, fun _ => hrs⟩, by rw [ht]; exact hP9, hD9⟩, hS.F ht⟩) hS.2.2 dX8_takeClause_138
      · refine lv_aload_n hx hb dX8_takeClause_117 rfl (lv_at hl 3 rfl) ?_
        refine lv_iconst (v := 1) hx hb dX8_takeClause_118 (by decide) ?_
        refine lv_aload_n hx hb dX8_takeClause_119 rfl (lv_at hl 3 rfl) ?_
        refine va_get (D := D) (ci := 8) (v := .int (nI t0__9)) (C := RX8) (T := TX8) (N := 44) hx hb hts inX8 hown hK hP 3 rfl rfl 7 (by decide) (hts _ tw_980) (fun _ h9 => h9) rfl dX8_takeClause_120 ?_
        refine rw_i (D := D) (wr := [(aI k (a 16) 9 freadSingle), (aI k (a 14) 24 freadFree__7), (aI k (a 15) 24 freadPrice__7), (aI k (a 5) 240 ftext)]) (va_runV (As := [.int 1, .int (nI t0__9)]) (rest := []) ⟨hx, hb, hml, hown, hts⟩ ((n_fails l D k st lo a tx t0__9 we__7 rd__7 ru rw ca fp wd__7 nu__7 na__7 x_6 df db sd 1 (nI t0__9)) H.size) (cwV 2 hts (gV tw_1151 tw_1153 tw_31 tw_87 tw_1154) rfl rfl rfl (by decide +kernel) ⟨Nat.le_of_ble_eq_true rfl, Nat.le_of_ble_eq_true rfl⟩) (pV hS hAlo hlo hP hK (va_Dlo hD hAlo) hZ [3] (by decide) rfl (ci := 8) (q := (RX8, TX8, 44)) (q0 := 0) rfl rfl) rfl rfl hl.1 rfl (lv_room (Nat.le_of_ble_eq_true rfl)) dX8_takeClause_123 ⟨Nat.le_of_ble_eq_true rfl, Nat.le_of_ble_eq_true rfl⟩) hS hA hP hD [3] [0, 1, 2, 4] rfl rfl (by decide) (by decide) (fun r_12 u H locs hw_12 hP hD hS => ?_)
        obtain ⟨fp__12, rfl⟩ : ∃ z, z = u := ⟨_, rfl⟩
        replace hP : va_P D classes [(aI k (a 16) 9 freadSingle), (aI k (a 14) 24 freadFree__7), (aI k (a 15) 24 freadPrice__7), (aI k (a 5) 240 ftext), ((a 0), .inr (8, (fX8 a (nI tx) fp__12 (nI t0__9) wd__7 (nI we__7) nu__7 na__7 (nI rd__7) x_6 (nI ru) (nI rw) (nI ca) df db sd)))] H := hP
        replace hD : va_D A [(aI k (a 16) 9 freadSingle), (aI k (a 14) 24 freadFree__7), (aI k (a 15) 24 freadPrice__7), (aI k (a 5) 240 ftext), ((a 0), .inr (8, (fX8 a (nI tx) fp__12 (nI t0__9) wd__7 (nI we__7) nu__7 na__7 (nI rd__7) x_6 (nI ru) (nI rw) (nI ca) df db sd)))] := hD
        try dsimp only at hw_12
        obtain ⟨hs0_13, hs1_13⟩ := hw_12
        replace hs0_13 := hs0_13.symm
        subst hs0_13
        replace hs1_13 := hs1_13.symm
        subst hs1_13
        have hP9 := hP.sub (ws' := [((a 0), .inr (8, (fX8 a (nI tx) (nI t0__9) (nI t0__9) wd__7 (nI we__7) nu__7 na__7 (nI rd__7) x_6 (nI ru) (nI rw) (nI ca) df db sd))), (aI k (a 5) 240 ftext), (aI k (a 14) 24 freadFree__7), (aI k (a 15) 24 freadPrice__7), (aI k (a 16) 9 freadSingle)]) [4, 3, 1, 2, 0] rfl
        have hD9 := hD.sub (ws' := [((a 0), .inr (8, (fX8 a (nI tx) (nI t0__9) (nI t0__9) wd__7 (nI we__7) nu__7 na__7 (nI rd__7) x_6 (nI ru) (nI rw) (nI ca) df db sd))), (aI k (a 5) 240 ftext), (aI k (a 14) 24 freadFree__7), (aI k (a 15) 24 freadPrice__7), (aI k (a 16) 9 freadSingle)]) [4, 3, 1, 2, 0] (by decide) rfl
        exact W.iret (v := 1) hx hb hr (fun t ht hW => ⟨⟨1, (t0__9, wd__7, we__7, (nI t0__9), nu__7, na__7, rd__7, x_6, freadFree__7, freadPrice__7, freadSingle), rfl, ⟨.inr ⟨1, t0__9, rfl, by omega, by omega, (cf_do1 (σ := stM rd freadSingle freadFree freadPrice ts) hk_3 hT_3 (doC_s hd_8 (smR_0 hw_9.1 hw_9.2.1 c_10)).1 (by decide) (doC_s hd_8 (smR_0 hw_9.1 hw_9.2.1 c_10)).2).1, (cf_do1 (σ := stM rd freadSingle freadFree freadPrice ts) hk_3 hT_3 (doC_s hd_8 (smR_0 hw_9.1 hw_9.2.1 c_10)).1 (by decide) (doC_s hd_8 (smR_0 hw_9.1 hw_9.2.1 c_10)).2).2, rfl⟩, by omega, by omega, by omega, fun h => absurd h (by decide), fun h => absurd h (by decide)⟩, by rw [ht]; exact hP9, hD9⟩, hS.F ht⟩) hS.2.2 dX8_takeClause_126
    · refine lv_goto (tgt := 101) hx hb dX8_takeClause_93 (by decide) ?_
      refine lv_istore_n (lv' := [(3, .int (nI e_8)), (2, .int 0), (1, .int 9), (0, .ref (a 0))]) hx hb dX8_takeClause_101 rfl hl (by decide) rfl (fun ls hl => ?_)
      refine lv_iload_n hx hb dX8_takeClause_102 rfl (lv_at hl 0 rfl) ?_
      refine lv_if_le (tgt := 108) hx hb dX8_takeClause_103 (by decide) (fun h => absurd ((nI_leI (a := e_8) (b := 0) (by omega) (by omega)).mp h) (by omega)) (fun _ => ?_)
      refine lv_iload_n hx hb dX8_takeClause_106 rfl (lv_at hl 0 rfl) ?_
      have hP9 := hP.sub (ws' := [((a 0), .inr (8, (fX8 a (nI tx) (nI pl_8) (nI t0__7) wd__7 (nI we__7) nu__7 na__7 (nI rd__7) x_6 (nI ru) (nI rw) (nI ca) df db sd))), (aI k (a 5) 240 ftext), (aI k (a 14) 24 freadFree__7), (aI k (a 15) 24 freadPrice__7), (aI k (a 16) 9 freadSingle)]) [1, 2, 3, 4, 0] rfl
      have hD9 := hD.sub (ws' := [((a 0), .inr (8, (fX8 a (nI tx) (nI pl_8) (nI t0__7) wd__7 (nI we__7) nu__7 na__7 (nI rd__7) x_6 (nI ru) (nI rw) (nI ca) df db sd))), (aI k (a 5) 240 ftext), (aI k (a 14) 24 freadFree__7), (aI k (a 15) 24 freadPrice__7), (aI k (a 16) 9 freadSingle)]) [1, 2, 3, 4, 0] (by decide) rfl
      exact W.iret (v := (nI e_8)) hx hb hr (fun t ht hW => ⟨⟨(nI e_8), (t0__7, wd__7, we__7, (nI pl_8), nu__7, na__7, rd__7, x_6, freadFree__7, freadPrice__7, freadSingle), rfl, ⟨.inr ⟨e_8, pl_8, rfl, by omega, by omega, (cf_do1 (σ := stM rd freadSingle freadFree freadPrice ts) hk_3 hT_3 (doC_e hp1_8 he1_8 hp2_8).1 he1_8 (doC_e hp1_8 he1_8 hp2_8).2).1, (cf_do1 (σ := stM rd freadSingle freadFree freadPrice ts) hk_3 hT_3 (doC_e hp1_8 he1_8 hp2_8).1 he1_8 (doC_e hp1_8 he1_8 hp2_8).2).2, rfl⟩, by omega, by omega, by omega, fun h => absurd h (nI_ne0 (by omega) (by omega)), fun h => absurd h (nI_ne0 (by omega) (by omega))⟩, by rw [ht]; exact hP9, hD9⟩, hS.F ht⟩) hS.2.2 dX8_takeClause_107
  · have hT_3 := hw_1.2.1
    rw [hw_1.1] at hk_3 hT_3
    refine lv_istore_n (lv' := [(1, .int (nI cl_3)), (0, .ref (a 0))]) hx hb dX8_takeClause_8 rfl hl (by decide) rfl (fun ls hl => ?_)
    refine lv_iload_n hx hb dX8_takeClause_9 rfl (lv_at hl 0 rfl) ?_
    refine lv_if_lt (tgt := 35) hx hb dX8_takeClause_10 (by decide) (fun h => absurd h (nI_pos0 (by omega))) (fun _ => ?_)
    refine lv_iload_n hx hb dX8_takeClause_13 rfl (lv_at hl 0 rfl) ?_
    refine lv_bipush (v := 9) hx hb dX8_takeClause_14 (by decide) ?_
    refine lv_icmp_ge (tgt := 35) hx hb dX8_takeClause_16 (by decide) (fun h => absurd ((nI_leI (a := 9) (b := cl_3) (by omega) (by omega)).mp h) (by omega)) (fun _ => ?_)
    refine lv_aload_n hx hb dX8_takeClause_19 rfl (lv_at hl 1 rfl) ?_
    refine va_get (D := D) (ci := 8) (v := .int ts) (C := RX8) (T := TX8) (N := 44) hx hb hts inX8 hown hK hP 3 rfl rfl 16 (by decide) (hts _ tw_989) (fun _ h9 => h9) rfl dX8_takeClause_20 ?_
    refine lv_iload_n hx hb dX8_takeClause_23 rfl (lv_at hl 0 rfl) ?_
    refine lv_ishr hx hb dX8_takeClause_24 ?_
    refine lv_topi (fun x_16 ex_16 => ?_)
    refine lv_iconst (v := 1) hx hb dX8_takeClause_25 (by decide) ?_
    refine lv_iand hx hb dX8_takeClause_26 ?_
    refine lv_topi (fun x_17 ex_17 => ?_)
    refine lv_iconst (v := 1) hx hb dX8_takeClause_27 (by decide) ?_
    refine lv_icmp_ne (tgt := 35) hx hb dX8_takeClause_28 (by decide) (fun c_18 => ?_) (fun c_18 => ?_)
    · rw [ex_17, ex_16] at c_18
      refine lv_iconst (v := 0) hx hb dX8_takeClause_35 (by decide) ?_
      refine lv_istore_n (lv' := [(2, .int 0), (1, .int (nI cl_3)), (0, .ref (a 0))]) hx hb dX8_takeClause_36 rfl hl (by decide) rfl (fun ls hl => ?_)
      refine lv_iload_n hx hb dX8_takeClause_37 rfl (lv_at hl 1 rfl) ?_
      refine lv_if_lt (tgt := 45) hx hb dX8_takeClause_38 (by decide) (fun h => absurd h (nI_pos0 (by omega))) (fun _ => ?_)
      refine lv_iload_n hx hb dX8_takeClause_41 rfl (lv_at hl 0 rfl) ?_
      refine lv_if_eq (tgt := 63) hx hb dX8_takeClause_42 (by decide) (fun _ => ?_) (fun h => absurd (by decide) h)
      refine lv_aload_n hx hb dX8_takeClause_63 rfl (lv_at hl 2 rfl) ?_
      refine lv_dup hx hb dX8_takeClause_64 rfl ?_
      refine va_get (D := D) (ci := 8) (v := .int ts) (C := RX8) (T := TX8) (N := 44) hx hb hts inX8 hown hK hP 3 rfl rfl 16 (by decide) (hts _ tw_989) (fun _ h9 => h9) rfl dX8_takeClause_65 ?_
      refine lv_iconst (v := 1) hx hb dX8_takeClause_68 (by decide) ?_
      refine lv_iload_n hx hb dX8_takeClause_69 rfl (lv_at hl 1 rfl) ?_
      refine lv_ishl hx hb dX8_takeClause_70 ?_
      refine lv_topi (fun x_19 ex_19 => ?_)
      refine lv_ior hx hb dX8_takeClause_71 ?_
      refine lv_topi (fun x_20 ex_20 => ?_)
      refine va_put (D := D) (ci := 8) (v := .int x_20) (ty := .int) (C := RX8) (T := TX8) (N := 44) hx hb hts inX8 tyX8 tyX8_ok nmX8 hown hK hP hD hS 3 rfl rfl 16 (by decide) (hts _ tw_989) (fun _ h9 => h9) rfl (by decide +kernel) rfl rfl (Nat.le_of_ble_eq_true rfl) dX8_takeClause_72 (fun H locs hP hD hS => ?_)
      replace hP : va_P D classes [(aI k (a 14) 24 freadFree), (aI k (a 15) 24 freadPrice), (aI k (a 16) 9 freadSingle), ((a 0), .inr (8, (fX8 a (nI tx) fp (nI t0__1) wd__1 (nI we__1) nu na (nI rd) x_20 (nI ru) (nI rw) (nI ca) df db sd))), (aI k (a 5) 240 ftext)] H := hP
      replace hD : va_D A [(aI k (a 14) 24 freadFree), (aI k (a 15) 24 freadPrice), (aI k (a 16) 9 freadSingle), ((a 0), .inr (8, (fX8 a (nI tx) fp (nI t0__1) wd__1 (nI we__1) nu na (nI rd) x_20 (nI ru) (nI rw) (nI ca) df db sd))), (aI k (a 5) 240 ftext)] := hD
      refine lv_aload_n hx hb dX8_takeClause_75 rfl (lv_at hl 2 rfl) ?_
      refine lv_aload_n hx hb dX8_takeClause_76 rfl (lv_at hl 2 rfl) ?_
      refine va_get (D := D) (ci := 8) (v := .int (nI we__1)) (C := RX8) (T := TX8) (N := 44) hx hb hts inX8 hown hK hP 3 rfl rfl 9 (by decide) (hts _ tw_982) (fun _ h9 => h9) rfl dX8_takeClause_77 ?_
      refine va_put (D := D) (ci := 8) (v := .int (nI we__1)) (ty := .int) (C := RX8) (T := TX8) (N := 44) hx hb hts inX8 tyX8 tyX8_ok nmX8 hown hK hP hD hS 3 rfl rfl 7 (by decide) (hts _ tw_980) (fun _ h9 => h9) rfl (by decide +kernel) rfl rfl (Nat.le_of_ble_eq_true rfl) dX8_takeClause_80 (fun H locs hP hD hS => ?_)
      replace hP : va_P D classes [(aI k (a 14) 24 freadFree), (aI k (a 15) 24 freadPrice), (aI k (a 16) 9 freadSingle), ((a 0), .inr (8, (fX8 a (nI tx) fp (nI we__1) wd__1 (nI we__1) nu na (nI rd) x_20 (nI ru) (nI rw) (nI ca) df db sd))), (aI k (a 5) 240 ftext)] H := hP
      replace hD : va_D A [(aI k (a 14) 24 freadFree), (aI k (a 15) 24 freadPrice), (aI k (a 16) 9 freadSingle), ((a 0), .inr (8, (fX8 a (nI tx) fp (nI we__1) wd__1 (nI we__1) nu na (nI rd) x_20 (nI ru) (nI rw) (nI ca) df db sd))), (aI k (a 5) 240 ftext)] := hD
      refine lv_iload_n hx hb dX8_takeClause_83 rfl (lv_at hl 1 rfl) ?_
      refine lv_bipush (v := 9) hx hb dX8_takeClause_84 (by decide) ?_
      refine lv_icmp_ne (tgt := 96) hx hb dX8_takeClause_86 (by decide) (fun _ => ?_) (fun h => absurd ((nI_eq (a := cl_3) (b := 9) (by omega) (by omega)).mp h) (by omega))
      refine lv_aload_n hx hb dX8_takeClause_96 rfl (lv_at hl 2 rfl) ?_
      refine lv_iload_n hx hb dX8_takeClause_97 rfl (lv_at hl 1 rfl) ?_
      refine rw_i (D := D) (wr := [(aI k (a 14) 24 freadFree), (aI k (a 15) 24 freadPrice)]) (va_runV (As := [.int (nI cl_3)]) (rest := []) ⟨hx, hb, hml, hown, hts⟩ ((n_takeSingle l D k st lo a tx we__1 we__1 rd ru rw ca fp wd__1 nu na x_20 df db sd ftext freadSingle cl_3 (by first | assumption | omega) (by first | assumption | omega) hrs (by first | assumption | omega)) H.size) (cwV 1 hts (gV tw_1173 tw_1175 tw_36 tw_87 tw_1176) rfl rfl rfl (by decide +kernel) ⟨Nat.le_of_ble_eq_true rfl, Nat.le_of_ble_eq_true rfl⟩) (pV hS hAlo hlo hP hK (va_Dlo hD hAlo) hZ [3, 4, 2] (by decide) rfl (ci := 8) (q := (RX8, TX8, 44)) (q0 := 0) rfl rfl) rfl rfl hl.1 rfl (lv_room (Nat.le_of_ble_eq_true rfl)) dX8_takeClause_98 ⟨Nat.le_of_ble_eq_true rfl, Nat.le_of_ble_eq_true rfl⟩) hS hA hP hD [3, 4, 2] [0, 1] rfl rfl (by decide) (by decide) (fun r_22 u H locs hw_22 hP hD hS => ?_)
      obtain ⟨t0__22, wd__22, we__22, fp__22, nu__22, na__22, freadSingle__22⟩ := u
      replace hP : va_P D classes [(aI k (a 14) 24 freadFree), (aI k (a 15) 24 freadPrice), ((a 0), .inr (8, (fX8 a (nI tx) fp__22 (nI t0__22) wd__22 (nI we__22) nu__22 na__22 (nI rd) x_20 (nI ru) (nI rw) (nI ca) df db sd))), (aI k (a 5) 240 ftext), (aI k (a 16) 9 freadSingle__22)] H := hP
      replace hD : va_D A [(aI k (a 14) 24 freadFree), (aI k (a 15) 24 freadPrice), ((a 0), .inr (8, (fX8 a (nI tx) fp__22 (nI t0__22) wd__22 (nI we__22) nu__22 na__22 (nI rd) x_20 (nI ru) (nI rw) (nI ca) df db sd))), (aI k (a 5) 240 ftext), (aI k (a 16) 9 freadSingle__22)] := hD
      try dsimp only at hw_22
      rcases hw_22 with ⟨⟨rfl, v_23, v2_23, hd_23, hvv_23, hfp_23⟩ | ⟨e_23, pl_23, rfl, he1_23, he2_23, hp1_23, hp2_23, rfl⟩, hw_22⟩
      · replace hfp_23 := hfp_23.symm
        subst hfp_23
        refine lv_istore_n (lv' := [(3, .int 0), (2, .int 0), (1, .int (nI cl_3)), (0, .ref (a 0))]) hx hb dX8_takeClause_101 rfl hl (by decide) rfl (fun ls hl => ?_)
        refine lv_iload_n hx hb dX8_takeClause_102 rfl (lv_at hl 0 rfl) ?_
        refine lv_if_le (tgt := 108) hx hb dX8_takeClause_103 (by decide) (fun _ => ?_) (fun h => absurd (by decide) h)
        refine lv_aload_n hx hb dX8_takeClause_108 rfl (lv_at hl 3 rfl) ?_
        refine rw_i (D := D) (wr := [(aI k (a 14) 24 freadFree), (aI k (a 15) 24 freadPrice), (aI k (a 16) 9 freadSingle__22)]) (va_runV (As := []) (rest := []) ⟨hx, hb, hml, hown, hts⟩ ((n_here l D k st lo a tx t0__22 we__22 rd ru rw ca fp wd__22 nu__22 na__22 x_20 df db sd ftext (by first | assumption | omega) (by first | assumption | omega)) H.size) (cwV 0 hts (gV tw_1120 tw_1122 tw_27 tw_87 tw_1123) rfl rfl rfl (by decide +kernel) ⟨Nat.le_of_ble_eq_true rfl, Nat.le_of_ble_eq_true rfl⟩) (pV hS hAlo hlo hP hK (va_Dlo hD hAlo) hZ [2, 3] (by decide) rfl (ci := 8) (q := (RX8, TX8, 44)) (q0 := 0) rfl rfl) rfl rfl hl.1 rfl (lv_room (Nat.le_of_ble_eq_true rfl)) dX8_takeClause_109 ⟨Nat.le_of_ble_eq_true rfl, Nat.le_of_ble_eq_true rfl⟩) hS hA hP hD [2, 3] [0, 1, 4] rfl rfl (by decide) (by decide) (fun r_24 u H locs hw_24 hP hD hS => ?_)
        obtain ⟨t0__24, rfl⟩ : ∃ z, z = u := ⟨_, rfl⟩
        replace hP : va_P D classes [(aI k (a 14) 24 freadFree), (aI k (a 15) 24 freadPrice), (aI k (a 16) 9 freadSingle__22), ((a 0), .inr (8, (fX8 a (nI tx) fp (nI t0__24) wd__22 (nI we__22) nu__22 na__22 (nI rd) x_20 (nI ru) (nI rw) (nI ca) df db sd))), (aI k (a 5) 240 ftext)] H := hP
        replace hD : va_D A [(aI k (a 14) 24 freadFree), (aI k (a 15) 24 freadPrice), (aI k (a 16) 9 freadSingle__22), ((a 0), .inr (8, (fX8 a (nI tx) fp (nI t0__24) wd__22 (nI we__22) nu__22 na__22 (nI rd) x_20 (nI ru) (nI rw) (nI ca) df db sd))), (aI k (a 5) 240 ftext)] := hD
        try dsimp only at hw_24
        refine lv_bipush (v := 59) hx hb dX8_takeClause_112 (by decide) ?_
        refine lv_icmp_eq (tgt := 127) hx hb dX8_takeClause_114 (by decide) (fun c_25 => ?_) (fun c_25 => ?_)
        · have hlt_26 : t0__24 < tx := by rcases Nat.lt_or_ge (t0__24) tx with h | h; exact h; exact absurd (c_25.symm.trans (hw_24.2.1.trans (byF_out (by omega)))) (by decide)
          refine lv_aload_n hx hb dX8_takeClause_127 rfl (lv_at hl 3 rfl) ?_
          refine lv_dup hx hb dX8_takeClause_128 rfl ?_
          refine va_get (D := D) (ci := 8) (v := .int (nI t0__24)) (C := RX8) (T := TX8) (N := 44) hx hb hts inX8 hown hK hP 3 rfl rfl 7 (by decide) (hts _ tw_980) (fun _ h9 => h9) rfl dX8_takeClause_129 ?_
          refine lv_iconst (v := 1) hx hb dX8_takeClause_132 (by decide) ?_
          refine lv_iadd hx hb dX8_takeClause_133 ?_
          refine lv_ti (y := (nI (t0__24 + 1))) (nI_add t0__24 1) ?_
          refine va_put (D := D) (ci := 8) (v := .int (nI (t0__24 + 1))) (ty := .int) (C := RX8) (T := TX8) (N := 44) hx hb hts inX8 tyX8 tyX8_ok nmX8 hown hK hP hD hS 3 rfl rfl 7 (by decide) (hts _ tw_980) (fun _ h9 => h9) rfl (by decide +kernel) rfl rfl (Nat.le_of_ble_eq_true rfl) dX8_takeClause_134 (fun H locs hP hD hS => ?_)
          replace hP : va_P D classes [(aI k (a 14) 24 freadFree), (aI k (a 15) 24 freadPrice), (aI k (a 16) 9 freadSingle__22), ((a 0), .inr (8, (fX8 a (nI tx) fp (nI (t0__24 + 1)) wd__22 (nI we__22) nu__22 na__22 (nI rd) x_20 (nI ru) (nI rw) (nI ca) df db sd))), (aI k (a 5) 240 ftext)] H := hP
          replace hD : va_D A [(aI k (a 14) 24 freadFree), (aI k (a 15) 24 freadPrice), (aI k (a 16) 9 freadSingle__22), ((a 0), .inr (8, (fX8 a (nI tx) fp (nI (t0__24 + 1)) wd__22 (nI we__22) nu__22 na__22 (nI rd) x_20 (nI ru) (nI rw) (nI ca) df db sd))), (aI k (a 5) 240 ftext)] := hD
          refine lv_iconst (v := 0) hx hb dX8_takeClause_137 (by decide) ?_
          have hP9 := hP.sub (ws' := [((a 0), .inr (8, (fX8 a (nI tx) fp (nI (t0__24 + 1)) wd__22 (nI we__22) nu__22 na__22 (nI rd) x_20 (nI ru) (nI rw) (nI ca) df db sd))), (aI k (a 5) 240 ftext), (aI k (a 14) 24 freadFree), (aI k (a 15) 24 freadPrice), (aI k (a 16) 9 freadSingle__22)]) [3, 4, 0, 1, 2] rfl
          have hD9 := hD.sub (ws' := [((a 0), .inr (8, (fX8 a (nI tx) fp (nI (t0__24 + 1)) wd__22 (nI we__22) nu__22 na__22 (nI rd) x_20 (nI ru) (nI rw) (nI ca) df db sd))), (aI k (a 5) 240 ftext), (aI k (a 14) 24 freadFree), (aI k (a 15) 24 freadPrice), (aI k (a 16) 9 freadSingle__22)]) [3, 4, 0, 1, 2] (by decide) rfl
          exact W.iret (v := 0) hx hb hr (fun t ht hW => ⟨⟨0, ((t0__24 + 1), wd__22, we__22, fp, nu__22, na__22, rd, x_20, freadFree, freadPrice, freadSingle__22), rfl, ⟨.inl ⟨rfl, (by rw [cf_si0 (σ := stM rd freadSingle freadFree freadPrice ts) hk_3 (by omega) (toM_f (by omega) c_18) hT_3 (siC_0 hd_23 (smR_1 hw_24.1 hw_24.2.1 c_25)), ex_20, ex_19, stM_si (by omega) hvv_23]; rfl), rfl⟩, by omega, by omega, by omega, fun _ => by omega, fun _ => (hw_22.2.2.2 rfl)⟩, by rw [ht]; exact hP9, hD9⟩, hS.F ht⟩) hS.2.2 dX8_takeClause_138
        · refine lv_aload_n hx hb dX8_takeClause_117 rfl (lv_at hl 3 rfl) ?_
          refine lv_iconst (v := 1) hx hb dX8_takeClause_118 (by decide) ?_
          refine lv_aload_n hx hb dX8_takeClause_119 rfl (lv_at hl 3 rfl) ?_
          refine va_get (D := D) (ci := 8) (v := .int (nI t0__24)) (C := RX8) (T := TX8) (N := 44) hx hb hts inX8 hown hK hP 3 rfl rfl 7 (by decide) (hts _ tw_980) (fun _ h9 => h9) rfl dX8_takeClause_120 ?_
          refine rw_i (D := D) (wr := [(aI k (a 14) 24 freadFree), (aI k (a 15) 24 freadPrice), (aI k (a 16) 9 freadSingle__22), (aI k (a 5) 240 ftext)]) (va_runV (As := [.int 1, .int (nI t0__24)]) (rest := []) ⟨hx, hb, hml, hown, hts⟩ ((n_fails l D k st lo a tx t0__24 we__22 rd ru rw ca fp wd__22 nu__22 na__22 x_20 df db sd 1 (nI t0__24)) H.size) (cwV 2 hts (gV tw_1151 tw_1153 tw_31 tw_87 tw_1154) rfl rfl rfl (by decide +kernel) ⟨Nat.le_of_ble_eq_true rfl, Nat.le_of_ble_eq_true rfl⟩) (pV hS hAlo hlo hP hK (va_Dlo hD hAlo) hZ [3] (by decide) rfl (ci := 8) (q := (RX8, TX8, 44)) (q0 := 0) rfl rfl) rfl rfl hl.1 rfl (lv_room (Nat.le_of_ble_eq_true rfl)) dX8_takeClause_123 ⟨Nat.le_of_ble_eq_true rfl, Nat.le_of_ble_eq_true rfl⟩) hS hA hP hD [3] [0, 1, 2, 4] rfl rfl (by decide) (by decide) (fun r_27 u H locs hw_27 hP hD hS => ?_)
          obtain ⟨fp__27, rfl⟩ : ∃ z, z = u := ⟨_, rfl⟩
          replace hP : va_P D classes [(aI k (a 14) 24 freadFree), (aI k (a 15) 24 freadPrice), (aI k (a 16) 9 freadSingle__22), (aI k (a 5) 240 ftext), ((a 0), .inr (8, (fX8 a (nI tx) fp__27 (nI t0__24) wd__22 (nI we__22) nu__22 na__22 (nI rd) x_20 (nI ru) (nI rw) (nI ca) df db sd)))] H := hP
          replace hD : va_D A [(aI k (a 14) 24 freadFree), (aI k (a 15) 24 freadPrice), (aI k (a 16) 9 freadSingle__22), (aI k (a 5) 240 ftext), ((a 0), .inr (8, (fX8 a (nI tx) fp__27 (nI t0__24) wd__22 (nI we__22) nu__22 na__22 (nI rd) x_20 (nI ru) (nI rw) (nI ca) df db sd)))] := hD
          try dsimp only at hw_27
          obtain ⟨hs0_28, hs1_28⟩ := hw_27
          replace hs0_28 := hs0_28.symm
          subst hs0_28
          replace hs1_28 := hs1_28.symm
          subst hs1_28
          have hP9 := hP.sub (ws' := [((a 0), .inr (8, (fX8 a (nI tx) (nI t0__24) (nI t0__24) wd__22 (nI we__22) nu__22 na__22 (nI rd) x_20 (nI ru) (nI rw) (nI ca) df db sd))), (aI k (a 5) 240 ftext), (aI k (a 14) 24 freadFree), (aI k (a 15) 24 freadPrice), (aI k (a 16) 9 freadSingle__22)]) [4, 3, 0, 1, 2] rfl
          have hD9 := hD.sub (ws' := [((a 0), .inr (8, (fX8 a (nI tx) (nI t0__24) (nI t0__24) wd__22 (nI we__22) nu__22 na__22 (nI rd) x_20 (nI ru) (nI rw) (nI ca) df db sd))), (aI k (a 5) 240 ftext), (aI k (a 14) 24 freadFree), (aI k (a 15) 24 freadPrice), (aI k (a 16) 9 freadSingle__22)]) [4, 3, 0, 1, 2] (by decide) rfl
          exact W.iret (v := 1) hx hb hr (fun t ht hW => ⟨⟨1, (t0__24, wd__22, we__22, (nI t0__24), nu__22, na__22, rd, x_20, freadFree, freadPrice, freadSingle__22), rfl, ⟨.inr ⟨1, t0__24, rfl, by omega, by omega, (cf_si1 (σ := stM rd freadSingle freadFree freadPrice ts) hk_3 (by omega) (toM_f (by omega) c_18) hT_3 (siC_s hd_23 (smR_0 hw_24.1 hw_24.2.1 c_25)).1 (by decide) (siC_s hd_23 (smR_0 hw_24.1 hw_24.2.1 c_25)).2).1, (cf_si1 (σ := stM rd freadSingle freadFree freadPrice ts) hk_3 (by omega) (toM_f (by omega) c_18) hT_3 (siC_s hd_23 (smR_0 hw_24.1 hw_24.2.1 c_25)).1 (by decide) (siC_s hd_23 (smR_0 hw_24.1 hw_24.2.1 c_25)).2).2, rfl⟩, by omega, by omega, by omega, fun h => absurd h (by decide), fun h => absurd h (by decide)⟩, by rw [ht]; exact hP9, hD9⟩, hS.F ht⟩) hS.2.2 dX8_takeClause_126
      · refine lv_istore_n (lv' := [(3, .int (nI e_23)), (2, .int 0), (1, .int (nI cl_3)), (0, .ref (a 0))]) hx hb dX8_takeClause_101 rfl hl (by decide) rfl (fun ls hl => ?_)
        refine lv_iload_n hx hb dX8_takeClause_102 rfl (lv_at hl 0 rfl) ?_
        refine lv_if_le (tgt := 108) hx hb dX8_takeClause_103 (by decide) (fun h => absurd ((nI_leI (a := e_23) (b := 0) (by omega) (by omega)).mp h) (by omega)) (fun _ => ?_)
        refine lv_iload_n hx hb dX8_takeClause_106 rfl (lv_at hl 0 rfl) ?_
        have hP9 := hP.sub (ws' := [((a 0), .inr (8, (fX8 a (nI tx) (nI pl_23) (nI t0__22) wd__22 (nI we__22) nu__22 na__22 (nI rd) x_20 (nI ru) (nI rw) (nI ca) df db sd))), (aI k (a 5) 240 ftext), (aI k (a 14) 24 freadFree), (aI k (a 15) 24 freadPrice), (aI k (a 16) 9 freadSingle__22)]) [2, 3, 0, 1, 4] rfl
        have hD9 := hD.sub (ws' := [((a 0), .inr (8, (fX8 a (nI tx) (nI pl_23) (nI t0__22) wd__22 (nI we__22) nu__22 na__22 (nI rd) x_20 (nI ru) (nI rw) (nI ca) df db sd))), (aI k (a 5) 240 ftext), (aI k (a 14) 24 freadFree), (aI k (a 15) 24 freadPrice), (aI k (a 16) 9 freadSingle__22)]) [2, 3, 0, 1, 4] (by decide) rfl
        exact W.iret (v := (nI e_23)) hx hb hr (fun t ht hW => ⟨⟨(nI e_23), (t0__22, wd__22, we__22, (nI pl_23), nu__22, na__22, rd, x_20, freadFree, freadPrice, freadSingle__22), rfl, ⟨.inr ⟨e_23, pl_23, rfl, by omega, by omega, (cf_si1 (σ := stM rd freadSingle freadFree freadPrice ts) hk_3 (by omega) (toM_f (by omega) c_18) hT_3 (siC_e hp1_23 he1_23 hp2_23).1 he1_23 (siC_e hp1_23 he1_23 hp2_23).2).1, (cf_si1 (σ := stM rd freadSingle freadFree freadPrice ts) hk_3 (by omega) (toM_f (by omega) c_18) hT_3 (siC_e hp1_23 he1_23 hp2_23).1 he1_23 (siC_e hp1_23 he1_23 hp2_23).2).2, rfl⟩, by omega, by omega, by omega, fun h => absurd h (nI_ne0 (by omega) (by omega)), fun h => absurd h (nI_ne0 (by omega) (by omega))⟩, by rw [ht]; exact hP9, hD9⟩, hS.F ht⟩) hS.2.2 dX8_takeClause_107
    · rw [ex_17, ex_16] at c_18
      refine lv_iconst (v := 1) hx hb dX8_takeClause_31 (by decide) ?_
      refine lv_goto (tgt := 36) hx hb dX8_takeClause_32 (by decide) ?_
      refine lv_istore_n (lv' := [(2, .int 1), (1, .int (nI cl_3)), (0, .ref (a 0))]) hx hb dX8_takeClause_36 rfl hl (by decide) rfl (fun ls hl => ?_)
      refine lv_iload_n hx hb dX8_takeClause_37 rfl (lv_at hl 1 rfl) ?_
      refine lv_if_lt (tgt := 45) hx hb dX8_takeClause_38 (by decide) (fun h => absurd h (nI_pos0 (by omega))) (fun _ => ?_)
      refine lv_iload_n hx hb dX8_takeClause_41 rfl (lv_at hl 0 rfl) ?_
      refine lv_if_eq (tgt := 63) hx hb dX8_takeClause_42 (by decide) (fun h => absurd h (by decide)) (fun _ => ?_)
      refine lv_aload_n hx hb dX8_takeClause_45 rfl (lv_at hl 2 rfl) ?_
      refine lv_iload_n hx hb dX8_takeClause_46 rfl (lv_at hl 1 rfl) ?_
      refine lv_if_ge (tgt := 54) hx hb dX8_takeClause_47 (by decide) (fun _ => ?_) (fun h => absurd (nI_ge0 (by omega)) h)
      refine lv_iconst (v := 3) hx hb dX8_takeClause_54 (by decide) ?_
      refine lv_aload_n hx hb dX8_takeClause_55 rfl (lv_at hl 2 rfl) ?_
      refine va_get (D := D) (ci := 8) (v := .int (nI t0__1)) (C := RX8) (T := TX8) (N := 44) hx hb hts inX8 hown hK hP 3 rfl rfl 7 (by decide) (hts _ tw_980) (fun _ h9 => h9) rfl dX8_takeClause_56 ?_
      refine rw_i (D := D) (wr := [(aI k (a 14) 24 freadFree), (aI k (a 15) 24 freadPrice), (aI k (a 16) 9 freadSingle), (aI k (a 5) 240 ftext)]) (va_runV (As := [.int 3, .int (nI t0__1)]) (rest := []) ⟨hx, hb, hml, hown, hts⟩ ((n_fails l D k st lo a tx t0__1 we__1 rd ru rw ca fp wd__1 nu na ts df db sd 3 (nI t0__1)) H.size) (cwV 2 hts (gV tw_1151 tw_1153 tw_31 tw_87 tw_1154) rfl rfl rfl (by decide +kernel) ⟨Nat.le_of_ble_eq_true rfl, Nat.le_of_ble_eq_true rfl⟩) (pV hS hAlo hlo hP hK (va_Dlo hD hAlo) hZ [3] (by decide) rfl (ci := 8) (q := (RX8, TX8, 44)) (q0 := 0) rfl rfl) rfl rfl hl.1 rfl (lv_room (Nat.le_of_ble_eq_true rfl)) dX8_takeClause_59 ⟨Nat.le_of_ble_eq_true rfl, Nat.le_of_ble_eq_true rfl⟩) hS hA hP hD [3] [0, 1, 2, 4] rfl rfl (by decide) (by decide) (fun r_30 u H locs hw_30 hP hD hS => ?_)
      obtain ⟨fp__30, rfl⟩ : ∃ z, z = u := ⟨_, rfl⟩
      replace hP : va_P D classes [(aI k (a 14) 24 freadFree), (aI k (a 15) 24 freadPrice), (aI k (a 16) 9 freadSingle), (aI k (a 5) 240 ftext), ((a 0), .inr (8, (fX8 a (nI tx) fp__30 (nI t0__1) wd__1 (nI we__1) nu na (nI rd) ts (nI ru) (nI rw) (nI ca) df db sd)))] H := hP
      replace hD : va_D A [(aI k (a 14) 24 freadFree), (aI k (a 15) 24 freadPrice), (aI k (a 16) 9 freadSingle), (aI k (a 5) 240 ftext), ((a 0), .inr (8, (fX8 a (nI tx) fp__30 (nI t0__1) wd__1 (nI we__1) nu na (nI rd) ts (nI ru) (nI rw) (nI ca) df db sd)))] := hD
      try dsimp only at hw_30
      obtain ⟨hs0_31, hs1_31⟩ := hw_30
      replace hs0_31 := hs0_31.symm
      subst hs0_31
      replace hs1_31 := hs1_31.symm
      subst hs1_31
      have hP9 := hP.sub (ws' := [((a 0), .inr (8, (fX8 a (nI tx) (nI t0__1) (nI t0__1) wd__1 (nI we__1) nu na (nI rd) ts (nI ru) (nI rw) (nI ca) df db sd))), (aI k (a 5) 240 ftext), (aI k (a 14) 24 freadFree), (aI k (a 15) 24 freadPrice), (aI k (a 16) 9 freadSingle)]) [4, 3, 0, 1, 2] rfl
      have hD9 := hD.sub (ws' := [((a 0), .inr (8, (fX8 a (nI tx) (nI t0__1) (nI t0__1) wd__1 (nI we__1) nu na (nI rd) ts (nI ru) (nI rw) (nI ca) df db sd))), (aI k (a 5) 240 ftext), (aI k (a 14) 24 freadFree), (aI k (a 15) 24 freadPrice), (aI k (a 16) 9 freadSingle)]) [4, 3, 0, 1, 2] (by decide) rfl
      exact W.iret (v := 3) hx hb hr (fun t ht hW => ⟨⟨3, (t0__1, wd__1, we__1, (nI t0__1), nu, na, rd, ts, freadFree, freadPrice, freadSingle), rfl, ⟨.inr ⟨3, t0__1, rfl, by omega, by omega, (show (clF ftext tx t0 (stM rd freadSingle freadFree freadPrice ts)).1 = 3 ∧ (clF ftext tx t0 (stM rd freadSingle freadFree freadPrice ts)).2.1 = t0__1 by rw [cf_told hk_3 (by omega) (toM_t (by omega) c_18)]; exact ⟨rfl, hw_1.1.symm⟩).1, (show (clF ftext tx t0 (stM rd freadSingle freadFree freadPrice ts)).1 = 3 ∧ (clF ftext tx t0 (stM rd freadSingle freadFree freadPrice ts)).2.1 = t0__1 by rw [cf_told hk_3 (by omega) (toM_t (by omega) c_18)]; exact ⟨rfl, hw_1.1.symm⟩).2, rfl⟩, by omega, by omega, by omega, fun h => absurd h (by decide), fun h => absurd h (by decide)⟩, by rw [ht]; exact hP9, hD9⟩, hS.F ht⟩) hS.2.2 dX8_takeClause_62


set_option maxHeartbeats 4000000 in
set_option maxRecDepth 100000 in
theorem n_readWord (l : Launch) (D : va_G) (k : Nat → ClassId) (st : Nat → Nat) (lo : Nat) (a : Nat → Nat) (tx : Nat) (t0 : Nat) (we : Nat) (rd : Nat) (ru : Nat) (rw : Nat) (ca : Nat) (fp : Int32) (wd : Int64) (nu : Int32) (na : Int32) (ts : Int32) (df : Int32) (db : Int32) (sd : Int32) (ftext : Nat → Int32) (ht : t0 ≤ tx) (htx : tx ≤ 240) : CWv l D k st lo yX8_readWord cX8_readWord 2 none ({ frames := 1, cells := 0, slots := 0, locals := 25 }) 0 0 [.ref (a 0)] [((a 0), .inr (8, (fX8 a (nI tx) fp (nI t0) wd (nI we) nu na (nI rd) ts (nI ru) (nI rw) (nI ca) df db sd))), (aI k (a 5) 240 ftext)] (fun (u : Nat × Int64 × Nat) => match u with | (t0_, wd_, we_) => t0_ = skA ftext tx t0 ∧ we_ = t0_ + (letA ftext tx t0_).length ∧ wd_ = wval (letA ftext tx t0_) ∧ t0 ≤ t0_ ∧ t0_ ≤ we_ ∧ we_ ≤ tx) (fun (u : Nat × Int64 × Nat) => match u with | (t0_, wd_, we_) => [((a 0), .inr (8, (fX8 a (nI tx) fp (nI t0_) wd_ (nI we_) nu na (nI rd) ts (nI ru) (nI rw) (nI ca) df db sd))), (aI k (a 5) 240 ftext)]) := by
  intro sz
  refine Met.ofW (cc := cX8_readWord) (maxL := 2) (ret := none) (by decide) rfl ?_
  intro p e s m args below meth c s₁ B hml hv
  obtain ⟨rfl, hsz, hlo, hP, hK, hDL, hZ⟩ := hv
  have hx := B.exec
  have hb := B.bytes
  have hr := B.returns
  have hts := WS_ts B.pre
  have hown : s.vm.findClass RX8 = some m.cls := findClass_of_methodNamed B.named
  have hlocks := B.notSynchronized
  subst hsz
  have hD := hDL.self (sz := s.heap.size)
  have hAlo := A_lo hDL hlo
  generalize hAe : va_A [((a 0), .inr (8, (fX8 a (nI tx) fp (nI t0) wd (nI we) nu na (nI rd) ts (nI ru) (nI rw) (nI ca) df db sd))), (aI k (a 5) 240 ftext)] s.heap.size = A at hD hAlo ⊢
  have hA : ∀ q : Nat, s.heap.size ≤ q → A q := fun q h => by rw [← hAe]; exact Or.inr h
  have hS : va_S A s.heap s.heap [] := va_S.rf
  have hl := lv_entry ([.ref (a 0)]) (n := 2) (Nat.le_of_ble_eq_true rfl)
  rw [lg_entry_eq]
  generalize (lg_sl ([.ref (a 0)]) ++ List.replicate (2 - (lg_sl ([.ref (a 0)])).length) Slot.unset).toArray = ls at hl ⊢
  have hl : lv_has ls 2 [(0, .ref (a 0))] := hl
  refine lv_aload_n hx hb dX8_readWord_0 rfl (lv_at hl 0 rfl) ?_
  refine rw_i (D := D) (wr := []) (va_runV (As := []) (rest := []) ⟨hx, hb, hml, hown, hts⟩ ((n_here l D k st lo a tx t0 we rd ru rw ca fp wd nu na ts df db sd ftext (by omega) (by omega)) s.heap.size) (cwV 0 hts (gV tw_1120 tw_1122 tw_27 tw_87 tw_1123) rfl rfl rfl (by decide +kernel) ⟨Nat.le_of_ble_eq_true rfl, Nat.le_of_ble_eq_true rfl⟩) (pV hS hAlo hlo hP hK (va_Dlo hD hAlo) hZ [0, 1] (by decide) rfl (ci := 8) (q := (RX8, TX8, 44)) (q0 := 0) rfl rfl) rfl rfl hl.1 rfl (lv_room (Nat.le_of_ble_eq_true rfl)) dX8_readWord_1 ⟨Nat.le_of_ble_eq_true rfl, Nat.le_of_ble_eq_true rfl⟩) hS hA hP hD [0, 1] [] rfl rfl (by decide) (by decide) (fun r_1 u H locs hw_1 hP hD hS => ?_)
  obtain ⟨t0__1, rfl⟩ : ∃ z, z = u := ⟨_, rfl⟩
  replace hP : va_P D classes [((a 0), .inr (8, (fX8 a (nI tx) fp (nI t0__1) wd (nI we) nu na (nI rd) ts (nI ru) (nI rw) (nI ca) df db sd))), (aI k (a 5) 240 ftext)] H := hP
  replace hD : va_D A [((a 0), .inr (8, (fX8 a (nI tx) fp (nI t0__1) wd (nI we) nu na (nI rd) ts (nI ru) (nI rw) (nI ca) df db sd))), (aI k (a 5) 240 ftext)] := hD
  try dsimp only at hw_1
  refine lv_istore_n (lv' := [(1, .int r_1), (0, .ref (a 0))]) hx hb dX8_readWord_4 rfl hl (by decide) rfl (fun ls hl => ?_)
  refine lv_aload_n hx hb dX8_readWord_5 rfl (lv_at hl 1 rfl) ?_
  refine lv_lconst (v := (0 : Int32).toInt64) hx hb dX8_readWord_6 (by decide) ?_
  refine va_put (D := D) (ci := 8) (v := .long ((0 : Int32).toInt64)) (ty := .long) (C := RX8) (T := TX8) (N := 44) hx hb hts inX8 tyX8 tyX8_ok nmX8 hown hK hP hD hS 0 rfl rfl 8 (by decide) (hts _ tw_981) (fun _ h9 => h9) rfl (by decide +kernel) rfl rfl (Nat.le_of_ble_eq_true rfl) dX8_readWord_7 (fun H locs hP hD hS => ?_)
  replace hP : va_P D classes [((a 0), .inr (8, (fX8 a (nI tx) fp (nI t0__1) ((0 : Int32).toInt64) (nI we) nu na (nI rd) ts (nI ru) (nI rw) (nI ca) df db sd))), (aI k (a 5) 240 ftext)] H := hP
  replace hD : va_D A [((a 0), .inr (8, (fX8 a (nI tx) fp (nI t0__1) ((0 : Int32).toInt64) (nI we) nu na (nI rd) ts (nI ru) (nI rw) (nI ca) df db sd))), (aI k (a 5) 240 ftext)] := hD
  refine lv_aload_n hx hb dX8_readWord_10 rfl (lv_at hl 1 rfl) ?_
  refine lv_aload_n hx hb dX8_readWord_11 rfl (lv_at hl 1 rfl) ?_
  refine va_get (D := D) (ci := 8) (v := .int (nI t0__1)) (C := RX8) (T := TX8) (N := 44) hx hb hts inX8 hown hK hP 0 rfl rfl 7 (by decide) (hts _ tw_980) (fun _ h9 => h9) rfl dX8_readWord_12 ?_
  refine va_put (D := D) (ci := 8) (v := .int (nI t0__1)) (ty := .int) (C := RX8) (T := TX8) (N := 44) hx hb hts inX8 tyX8 tyX8_ok nmX8 hown hK hP hD hS 0 rfl rfl 9 (by decide) (hts _ tw_982) (fun _ h9 => h9) rfl (by decide +kernel) rfl rfl (Nat.le_of_ble_eq_true rfl) dX8_readWord_15 (fun H locs hP hD hS => ?_)
  replace hP : va_P D classes [((a 0), .inr (8, (fX8 a (nI tx) fp (nI t0__1) ((0 : Int32).toInt64) (nI t0__1) nu na (nI rd) ts (nI ru) (nI rw) (nI ca) df db sd))), (aI k (a 5) 240 ftext)] H := hP
  replace hD : va_D A [((a 0), .inr (8, (fX8 a (nI tx) fp (nI t0__1) ((0 : Int32).toInt64) (nI t0__1) nu na (nI rd) ts (nI ru) (nI rw) (nI ca) df db sd))), (aI k (a 5) 240 ftext)] := hD
  refine W_loop (σ := Int64 × Nat) (fun (n_ : Nat) (x_ : Int64 × Nat) (H : Heap) (locs : List Loc) (ls : Array Slot) => match x_ with | (wd2_2, e2_2) => n_ = tx - e2_2 ∧ (t0__1 ≤ e2_2 ∧ e2_2 ≤ tx ∧ e2_2 + (letA ftext tx e2_2).length = t0__1 + (letA ftext tx t0__1).length ∧ (letA ftext tx e2_2).foldl stW wd2_2 = wval (letA ftext tx t0__1)) ∧ va_P D classes [((a 0), .inr (8, (fX8 a (nI tx) fp (nI t0__1) wd2_2 (nI e2_2) nu na (nI rd) ts (nI ru) (nI rw) (nI ca) df db sd))), (aI k (a 5) 240 ftext)] H ∧ va_D A [((a 0), .inr (8, (fX8 a (nI tx) fp (nI t0__1) wd2_2 (nI e2_2) nu na (nI rd) ts (nI ru) (nI rw) (nI ca) df db sd))), (aI k (a 5) 240 ftext)] ∧ va_S A s.heap H locs ∧ lv_has ls 2 [(0, .ref (a 0))]) (fun n_2 x_2 H locs ls hI ih_2 => ?_) _ (((0 : Int32).toInt64), t0__1) ⟨rfl, ⟨by omega, by omega, rfl, rfl⟩, hP, hD, hS, (lv_sub hl [1] rfl)⟩
  obtain ⟨wd2_2, e2_2⟩ := x_2
  obtain ⟨hm_2, hv_2, hP, hD, hS, hl⟩ := hI
  subst hm_2
  refine lv_aload_n hx hb dX8_readWord_18 rfl (lv_at hl 0 rfl) ?_
  refine va_get (D := D) (ci := 8) (v := .int (nI e2_2)) (C := RX8) (T := TX8) (N := 44) hx hb hts inX8 hown hK hP 0 rfl rfl 9 (by decide) (hts _ tw_982) (fun _ h9 => h9) rfl dX8_readWord_19 ?_
  refine lv_aload_n hx hb dX8_readWord_22 rfl (lv_at hl 0 rfl) ?_
  refine va_get (D := D) (ci := 8) (v := .int (nI tx)) (C := RX8) (T := TX8) (N := 44) hx hb hts inX8 hown hK hP 0 rfl rfl 5 (by decide) (hts _ tw_978) (fun _ h9 => h9) rfl dX8_readWord_23 ?_
  refine lv_icmp_ge (tgt := 108) hx hb dX8_readWord_26 (by decide) (fun c_3 => ?_) (fun c_3 => ?_)
  · have c_3 := (nI_leI (a := tx) (b := e2_2) (by omega) (by omega)).mp c_3
    have hP9 := hP.sub (ws' := [((a 0), .inr (8, (fX8 a (nI tx) fp (nI t0__1) wd2_2 (nI e2_2) nu na (nI rd) ts (nI ru) (nI rw) (nI ca) df db sd))), (aI k (a 5) 240 ftext)]) [0, 1] rfl
    have hD9 := hD.sub (ws' := [((a 0), .inr (8, (fX8 a (nI tx) fp (nI t0__1) wd2_2 (nI e2_2) nu na (nI rd) ts (nI ru) (nI rw) (nI ca) df db sd))), (aI k (a 5) 240 ftext)]) [0, 1] (by decide) rfl
    exact W.vret hx hb hr (fun t ht hW => ⟨⟨(t0__1, wd2_2, e2_2), rfl, ⟨hw_1.1, (rw_out (letA_end (by omega)) hv_2.2.2.1 hv_2.2.2.2).1, (rw_out (letA_end (by omega)) hv_2.2.2.1 hv_2.2.2.2).2, by omega, by omega, by omega⟩, by rw [ht]; exact hP9, hD9⟩, hS.F ht⟩) hS.2.2 dX8_readWord_108
  · have c_3 : ¬ (tx ≤ e2_2) := fun h => c_3 ((nI_leI (a := tx) (b := e2_2) (by omega) (by omega)).mpr h)
    refine lv_aload_n hx hb dX8_readWord_29 rfl (lv_at hl 0 rfl) ?_
    refine va_get (D := D) (ci := 8) (v := .ref (a 5)) (C := RX8) (T := TX8) (N := 44) hx hb hts inX8 hown hK hP 0 rfl rfl 4 (by decide) (hts _ tw_977) (fun _ h9 => h9) rfl dX8_readWord_30 ?_
    refine lv_aload_n hx hb dX8_readWord_33 rfl (lv_at hl 0 rfl) ?_
    refine va_get (D := D) (ci := 8) (v := .int (nI e2_2)) (C := RX8) (T := TX8) (N := 44) hx hb hts inX8 hown hK hP 0 rfl rfl 9 (by decide) (hts _ tw_982) (fun _ h9 => h9) rfl dX8_readWord_34 ?_
    refine va_iald hx hb hK hP 1 1 rfl rfl (vp_in_nI (by omega) (by decide)) dX8_readWord_37 ?_
    refine lv_ti (y := (ftext e2_2)) (by rw [nI_clamp (by omega)]) ?_
    refine lv_i2l (v := (ftext e2_2).toInt64) hx hb dX8_readWord_38 rfl ?_
    refine lv_ldc2 hx hb hown (hts _ tw_1132) dX8_readWord_39 ?_
    refine lv_tl (y := ((97 : Int32).toInt64)) (by decide) ?_
    refine lv_ldc2 hx hb hown (hts _ tw_1133) dX8_readWord_42 ?_
    refine lv_tl (y := ((122 : Int32).toInt64)) (by decide) ?_
    refine ro_i (D := D) (va_runS (As := [.long ((ftext e2_2).toInt64), .long ((97 : Int32).toInt64), .long ((122 : Int32).toInt64)]) (rest := []) ⟨hx, hb, hml, hown, hts⟩ ((k_in l D k st lo (ftext e2_2) (97 : Int32) (122 : Int32)) H.size) (va_cwS 3 hts (gS tw_1111 tw_1112 tw_87 tw_1113) rfl rfl rfl (by decide +kernel) ⟨Nat.le_of_ble_eq_true rfl, Nat.le_of_ble_eq_true rfl⟩) (pS hS hAlo hlo hP hK (va_Dlo hD hAlo) hZ [] (by decide) rfl) rfl rfl hl.1 rfl (lv_room (Nat.le_of_ble_eq_true rfl)) dX8_readWord_45 ⟨Nat.le_of_ble_eq_true rfl, Nat.le_of_ble_eq_true rfl⟩) hS hA hP (fun r_4 H locs hw_4 hP hS => ?_)
    try dsimp only at hw_4
    rcases hw_4 with ⟨rfl, hw_4⟩ | ⟨rfl, hw_4⟩
    · refine lv_if_eq (tgt := 108) hx hb dX8_readWord_48 (by decide) (fun h => absurd h (by decide)) (fun _ => ?_)
      refine lv_aload_n hx hb dX8_readWord_51 rfl (lv_at hl 0 rfl) ?_
      refine lv_aload_n hx hb dX8_readWord_52 rfl (lv_at hl 0 rfl) ?_
      refine va_get (D := D) (ci := 8) (v := .long wd2_2) (C := RX8) (T := TX8) (N := 44) hx hb hts inX8 hown hK hP 0 rfl rfl 8 (by decide) (hts _ tw_981) (fun _ h9 => h9) rfl dX8_readWord_53 ?_
      refine lv_ldc2 hx hb hown (hts _ tw_1134) dX8_readWord_56 ?_
      refine W.lcmp hx hb dX8_readWord_59 ?_
      refine lv_if_le (tgt := 69) hx hb dX8_readWord_60 (by decide) (fun c_5 => ?_) (fun c_5 => ?_)
      · refine lv_ldc2 hx hb hown (hts _ tw_1136) dX8_readWord_69 ?_
        refine lv_tl (y := ((27 : Int32).toInt64)) (by decide) ?_
        refine lv_aload_n hx hb dX8_readWord_72 rfl (lv_at hl 0 rfl) ?_
        refine va_get (D := D) (ci := 8) (v := .long wd2_2) (C := RX8) (T := TX8) (N := 44) hx hb hts inX8 hown hK hP 0 rfl rfl 8 (by decide) (hts _ tw_981) (fun _ h9 => h9) rfl dX8_readWord_73 ?_
        refine lv_lmul hx hb dX8_readWord_76 ?_
        refine lv_topl (fun x_6 ex_6 => ?_)
        refine lv_aload_n hx hb dX8_readWord_77 rfl (lv_at hl 0 rfl) ?_
        refine va_get (D := D) (ci := 8) (v := .ref (a 5)) (C := RX8) (T := TX8) (N := 44) hx hb hts inX8 hown hK hP 0 rfl rfl 4 (by decide) (hts _ tw_977) (fun _ h9 => h9) rfl dX8_readWord_78 ?_
        refine lv_aload_n hx hb dX8_readWord_81 rfl (lv_at hl 0 rfl) ?_
        refine va_get (D := D) (ci := 8) (v := .int (nI e2_2)) (C := RX8) (T := TX8) (N := 44) hx hb hts inX8 hown hK hP 0 rfl rfl 9 (by decide) (hts _ tw_982) (fun _ h9 => h9) rfl dX8_readWord_82 ?_
        refine va_iald hx hb hK hP 1 1 rfl rfl (vp_in_nI (by omega) (by decide)) dX8_readWord_85 ?_
        refine lv_ti (y := (ftext e2_2)) (by rw [nI_clamp (by omega)]) ?_
        refine lv_i2l (v := (ftext e2_2).toInt64) hx hb dX8_readWord_86 rfl ?_
        refine lv_ladd hx hb dX8_readWord_87 ?_
        refine lv_topl (fun x_7 ex_7 => ?_)
        refine lv_ldc2 hx hb hown (hts _ tw_1137) dX8_readWord_88 ?_
        refine lv_tl (y := ((96 : Int32).toInt64)) (by decide) ?_
        refine lv_lsub hx hb dX8_readWord_91 ?_
        refine lv_topl (fun x_8 ex_8 => ?_)
        refine va_put (D := D) (ci := 8) (v := .long x_8) (ty := .long) (C := RX8) (T := TX8) (N := 44) hx hb hts inX8 tyX8 tyX8_ok nmX8 hown hK hP hD hS 0 rfl rfl 8 (by decide) (hts _ tw_981) (fun _ h9 => h9) rfl (by decide +kernel) rfl rfl (Nat.le_of_ble_eq_true rfl) dX8_readWord_92 (fun H locs hP hD hS => ?_)
        replace hP : va_P D classes [((a 0), .inr (8, (fX8 a (nI tx) fp (nI t0__1) x_8 (nI e2_2) nu na (nI rd) ts (nI ru) (nI rw) (nI ca) df db sd))), (aI k (a 5) 240 ftext)] H := hP
        replace hD : va_D A [((a 0), .inr (8, (fX8 a (nI tx) fp (nI t0__1) x_8 (nI e2_2) nu na (nI rd) ts (nI ru) (nI rw) (nI ca) df db sd))), (aI k (a 5) 240 ftext)] := hD
        refine lv_aload_n hx hb dX8_readWord_95 rfl (lv_at hl 0 rfl) ?_
        refine lv_dup hx hb dX8_readWord_96 rfl ?_
        refine va_get (D := D) (ci := 8) (v := .int (nI e2_2)) (C := RX8) (T := TX8) (N := 44) hx hb hts inX8 hown hK hP 0 rfl rfl 9 (by decide) (hts _ tw_982) (fun _ h9 => h9) rfl dX8_readWord_97 ?_
        refine lv_iconst (v := 1) hx hb dX8_readWord_100 (by decide) ?_
        refine lv_iadd hx hb dX8_readWord_101 ?_
        refine lv_ti (y := (nI (e2_2 + 1))) (nI_add e2_2 1) ?_
        refine va_put (D := D) (ci := 8) (v := .int (nI (e2_2 + 1))) (ty := .int) (C := RX8) (T := TX8) (N := 44) hx hb hts inX8 tyX8 tyX8_ok nmX8 hown hK hP hD hS 0 rfl rfl 9 (by decide) (hts _ tw_982) (fun _ h9 => h9) rfl (by decide +kernel) rfl rfl (Nat.le_of_ble_eq_true rfl) dX8_readWord_102 (fun H locs hP hD hS => ?_)
        replace hP : va_P D classes [((a 0), .inr (8, (fX8 a (nI tx) fp (nI t0__1) x_8 (nI (e2_2 + 1)) nu na (nI rd) ts (nI ru) (nI rw) (nI ca) df db sd))), (aI k (a 5) 240 ftext)] H := hP
        replace hD : va_D A [((a 0), .inr (8, (fX8 a (nI tx) fp (nI t0__1) x_8 (nI (e2_2 + 1)) nu na (nI rd) ts (nI ru) (nI rw) (nI ca) df db sd))), (aI k (a 5) 240 ftext)] := hD
        refine lv_goto (tgt := 18) hx hb dX8_readWord_105 (by decide) ?_
        have hst_9 := rw_step (by omega) hw_4 hv_2.2.2.1 hv_2.2.2.2
        exact ih_2 _ (x_8, e2_2 + 1) _ _ _ (by omega) ⟨rfl, ⟨by omega, by omega, hst_9.1, (by have h9 := hst_9.2; rw [rw_near c_5] at h9; rw [ex_8, ex_7, ex_6]; exact h9)⟩, hP, hD, hS, (lv_sub hl [0] rfl)⟩
      · refine lv_ldc2 hx hb hown (hts _ tw_1135) dX8_readWord_63 ?_
        refine lv_goto (tgt := 92) hx hb dX8_readWord_66 (by decide) ?_
        refine va_put (D := D) (ci := 8) (v := .long 2000000000000) (ty := .long) (C := RX8) (T := TX8) (N := 44) hx hb hts inX8 tyX8 tyX8_ok nmX8 hown hK hP hD hS 0 rfl rfl 8 (by decide) (hts _ tw_981) (fun _ h9 => h9) rfl (by decide +kernel) rfl rfl (Nat.le_of_ble_eq_true rfl) dX8_readWord_92 (fun H locs hP hD hS => ?_)
        replace hP : va_P D classes [((a 0), .inr (8, (fX8 a (nI tx) fp (nI t0__1) 2000000000000 (nI e2_2) nu na (nI rd) ts (nI ru) (nI rw) (nI ca) df db sd))), (aI k (a 5) 240 ftext)] H := hP
        replace hD : va_D A [((a 0), .inr (8, (fX8 a (nI tx) fp (nI t0__1) 2000000000000 (nI e2_2) nu na (nI rd) ts (nI ru) (nI rw) (nI ca) df db sd))), (aI k (a 5) 240 ftext)] := hD
        refine lv_aload_n hx hb dX8_readWord_95 rfl (lv_at hl 0 rfl) ?_
        refine lv_dup hx hb dX8_readWord_96 rfl ?_
        refine va_get (D := D) (ci := 8) (v := .int (nI e2_2)) (C := RX8) (T := TX8) (N := 44) hx hb hts inX8 hown hK hP 0 rfl rfl 9 (by decide) (hts _ tw_982) (fun _ h9 => h9) rfl dX8_readWord_97 ?_
        refine lv_iconst (v := 1) hx hb dX8_readWord_100 (by decide) ?_
        refine lv_iadd hx hb dX8_readWord_101 ?_
        refine lv_ti (y := (nI (e2_2 + 1))) (nI_add e2_2 1) ?_
        refine va_put (D := D) (ci := 8) (v := .int (nI (e2_2 + 1))) (ty := .int) (C := RX8) (T := TX8) (N := 44) hx hb hts inX8 tyX8 tyX8_ok nmX8 hown hK hP hD hS 0 rfl rfl 9 (by decide) (hts _ tw_982) (fun _ h9 => h9) rfl (by decide +kernel) rfl rfl (Nat.le_of_ble_eq_true rfl) dX8_readWord_102 (fun H locs hP hD hS => ?_)
        replace hP : va_P D classes [((a 0), .inr (8, (fX8 a (nI tx) fp (nI t0__1) 2000000000000 (nI (e2_2 + 1)) nu na (nI rd) ts (nI ru) (nI rw) (nI ca) df db sd))), (aI k (a 5) 240 ftext)] H := hP
        replace hD : va_D A [((a 0), .inr (8, (fX8 a (nI tx) fp (nI t0__1) 2000000000000 (nI (e2_2 + 1)) nu na (nI rd) ts (nI ru) (nI rw) (nI ca) df db sd))), (aI k (a 5) 240 ftext)] := hD
        refine lv_goto (tgt := 18) hx hb dX8_readWord_105 (by decide) ?_
        have hst_10 := rw_step (by omega) hw_4 hv_2.2.2.1 hv_2.2.2.2
        exact ih_2 _ (2000000000000, e2_2 + 1) _ _ _ (by omega) ⟨rfl, ⟨by omega, by omega, hst_10.1, (by have h9 := hst_10.2; rw [rw_far c_5] at h9; exact h9)⟩, hP, hD, hS, (lv_sub hl [0] rfl)⟩
    · refine lv_if_eq (tgt := 108) hx hb dX8_readWord_48 (by decide) (fun _ => ?_) (fun h => absurd (by decide) h)
      have hP9 := hP.sub (ws' := [((a 0), .inr (8, (fX8 a (nI tx) fp (nI t0__1) wd2_2 (nI e2_2) nu na (nI rd) ts (nI ru) (nI rw) (nI ca) df db sd))), (aI k (a 5) 240 ftext)]) [0, 1] rfl
      have hD9 := hD.sub (ws' := [((a 0), .inr (8, (fX8 a (nI tx) fp (nI t0__1) wd2_2 (nI e2_2) nu na (nI rd) ts (nI ru) (nI rw) (nI ca) df db sd))), (aI k (a 5) 240 ftext)]) [0, 1] (by decide) rfl
      exact W.vret hx hb hr (fun t ht hW => ⟨⟨(t0__1, wd2_2, e2_2), rfl, ⟨hw_1.1, (rw_out (letA_no hw_4) hv_2.2.2.1 hv_2.2.2.2).1, (rw_out (letA_no hw_4) hv_2.2.2.1 hv_2.2.2.2).2, by omega, by omega, by omega⟩, by rw [ht]; exact hP9, hD9⟩, hS.F ht⟩) hS.2.2 dX8_readWord_108


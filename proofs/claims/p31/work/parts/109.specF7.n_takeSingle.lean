
set_option maxHeartbeats 4000000 in
set_option maxRecDepth 100000 in
theorem n_takeSingle (l : Launch) (D : va_G) (k : Nat → ClassId) (st : Nat → Nat) (lo : Nat) (a : Nat → Nat) (tx : Nat) (t0 : Nat) (we : Nat) (rd : Nat) (ru : Nat) (rw : Nat) (ca : Nat) (fp : Int32) (wd : Int64) (nu : Int32) (na : Int32) (ts : Int32) (df : Int32) (db : Int32) (sd : Int32) (ftext : Nat → Int32) (freadSingle : Nat → Int32) (cl : Nat) (ht : t0 ≤ tx) (htx : tx ≤ 240) (hrs : rsOK freadSingle) (hcl : cl ≤ 8 ∧ cl ≠ 7) : CWi l D k st lo yX8_takeSingle cX8_takeSingle 4 (some .int) ({ frames := 3, cells := 0, slots := 0, locals := 74 }) 0 0 [.ref (a 0), .int (nI cl)] [((a 0), .inr (8, (fX8 a (nI tx) fp (nI t0) wd (nI we) nu na (nI rd) ts (nI ru) (nI rw) (nI ca) df db sd))), (aI k (a 5) 240 ftext), (aI k (a 16) 9 freadSingle)] (fun (r : Int32) (u : Nat × Int64 × Nat × Int32 × Int32 × Int32 × (Nat → Int32)) => match u with | (t0_, wd_, we_, fp_, nu_, na_, freadSingle_) => ((r = 0 ∧ ∃ v v2 : Int32, siF ftext tx (cl + 1) t0 = (0, 0, t0_, v, v2) ∧ freadSingle_ = (if cl = 6 then upd (upd freadSingle 6 v) 7 v2 else upd freadSingle cl v) ∧ fp_ = fp) ∨ (∃ e pl : Nat, r = nI e ∧ 1 ≤ e ∧ e ≤ 4 ∧ (siF ftext tx (cl + 1) t0).1 = e ∧ (siF ftext tx (cl + 1) t0).2.1 = pl ∧ fp_ = nI pl)) ∧ t0 ≤ t0_ ∧ t0_ ≤ tx ∧ (r = 0 → t0 < t0_) ∧ (r = 0 → rsOK freadSingle_)) (fun (u : Nat × Int64 × Nat × Int32 × Int32 × Int32 × (Nat → Int32)) => match u with | (t0_, wd_, we_, fp_, nu_, na_, freadSingle_) => [((a 0), .inr (8, (fX8 a (nI tx) fp_ (nI t0_) wd_ (nI we_) nu_ na_ (nI rd) ts (nI ru) (nI rw) (nI ca) df db sd))), (aI k (a 5) 240 ftext), (aI k (a 16) 9 freadSingle_)]) := by
  intro sz
  refine Met.ofW (cc := cX8_takeSingle) (maxL := 4) (ret := (some .int)) (by decide) rfl ?_
  intro p e s m args below meth c s₁ B hml hv
  obtain ⟨rfl, hsz, hlo, hP, hK, hDL, hZ⟩ := hv
  have hx := B.exec
  have hb := B.bytes
  have hr := B.returns
  have hts := WS_ts B.pre
  have hown : s.vm.findClass RX8 = some m.cls := findClass_of_methodNamed B.named
  have hlocks := B.notSynchronized
  subst hsz
  have hD := hDL.self (sz := s.heap.size)
  have hAlo := A_lo hDL hlo
  generalize hAe : va_A [((a 0), .inr (8, (fX8 a (nI tx) fp (nI t0) wd (nI we) nu na (nI rd) ts (nI ru) (nI rw) (nI ca) df db sd))), (aI k (a 5) 240 ftext), (aI k (a 16) 9 freadSingle)] s.heap.size = A at hD hAlo ⊢
  have hA : ∀ q : Nat, s.heap.size ≤ q → A q := fun q h => by rw [← hAe]; exact Or.inr h
  have hS : va_S A s.heap s.heap [] := va_S.rf
  have hl := lv_entry ([.ref (a 0), .int (nI cl)]) (n := 4) (Nat.le_of_ble_eq_true rfl)
  rw [lg_entry_eq]
  generalize (lg_sl ([.ref (a 0), .int (nI cl)]) ++ List.replicate (4 - (lg_sl ([.ref (a 0), .int (nI cl)])).length) Slot.unset).toArray = ls at hl ⊢
  have hl : lv_has ls 4 [(0, .ref (a 0)), (1, .int (nI cl))] := hl
  rcases (show cl = 0 ∨ cl = 1 ∨ cl = 2 ∨ cl = 3 ∨ cl = 4 ∨ cl = 5 ∨ cl = 6 ∨ cl = 8 by omega) with rfl | rfl | rfl | rfl | rfl | rfl | rfl | rfl
  · refine lv_iload_n hx hb dX8_takeSingle_0 rfl (lv_at hl 1 rfl) ?_
    refine lv_if_ne (tgt := 23) hx hb dX8_takeSingle_1 (by decide) (fun h => absurd (by decide) h) (fun _ => ?_)
    refine lv_aload_n hx hb dX8_takeSingle_4 rfl (lv_at hl 0 rfl) ?_
    refine lv_bipush (v := 50) hx hb dX8_takeSingle_5 (by decide) ?_
    refine rw_i (D := D) (wr := [(aI k (a 16) 9 freadSingle)]) (va_runV (As := [.int 50]) (rest := []) ⟨hx, hb, hml, hown, hts⟩ ((n_takeSigned l D k st lo a tx t0 we rd ru rw ca fp wd nu na ts df db sd ftext 50 (by first | assumption | omega) (by first | assumption | omega)) s.heap.size) (cwV 1 hts (gV tw_1177 tw_1179 tw_37 tw_87 tw_1180) rfl rfl rfl (by decide +kernel) ⟨Nat.le_of_ble_eq_true rfl, Nat.le_of_ble_eq_true rfl⟩) (pV hS hAlo hlo hP hK (va_Dlo hD hAlo) hZ [0, 1] (by decide) rfl (ci := 8) (q := (RX8, TX8, 44)) (q0 := 0) rfl rfl) rfl rfl hl.1 rfl (lv_room (Nat.le_of_ble_eq_true rfl)) dX8_takeSingle_7 ⟨Nat.le_of_ble_eq_true rfl, Nat.le_of_ble_eq_true rfl⟩) hS hA hP hD [0, 1] [2] rfl rfl (by decide) (by decide) (fun r_1 u H locs hw_1 hP hD hS => ?_)
    obtain ⟨t0__1, nu__1, na__1, fp__1⟩ := u
    have hQ9 := pd_mk [(aI k (a 16) 9 freadSingle), ((a 0), .inr (8, (fX8 a (nI tx) fp__1 (nI t0__1) wd (nI we) nu__1 na__1 (nI rd) ts (nI ru) (nI rw) (nI ca) df db sd))), (aI k (a 5) 240 ftext)] hP hD
    clear hP hD
    obtain ⟨hP, hD⟩ := hQ9
    try dsimp only at hw_1
    obtain ⟨nq_2, rfl, hq_2, hw_1⟩ := hw_1
    rcases hq_2 with ⟨rfl, hq_2, hfp_2⟩ | ⟨rfl, pl_2, hq_2, rfl⟩ | ⟨rfl, pl_2, hq_2, rfl⟩
    · replace hfp_2 := hfp_2.symm
      subst hfp_2
      refine lv_istore_n (lv' := [(2, .int 0), (0, .ref (a 0)), (1, .int 0)]) hx hb dX8_takeSingle_10 rfl hl (by decide) rfl (fun ls hl => ?_)
      refine lv_aload_n hx hb dX8_takeSingle_11 rfl (lv_at hl 1 rfl) ?_
      refine va_get (D := D) (ci := 8) (v := .ref (a 16)) (C := RX8) (T := TX8) (N := 44) hx hb hts inX8 hown hK hP 1 rfl rfl 15 (by decide) (hts _ tw_988) (fun _ h9 => h9) rfl dX8_takeSingle_12 ?_
      refine lv_iconst (v := 0) hx hb dX8_takeSingle_15 (by decide) ?_
      refine lv_aload_n hx hb dX8_takeSingle_16 rfl (lv_at hl 1 rfl) ?_
      refine va_get (D := D) (ci := 8) (v := .int nu__1) (C := RX8) (T := TX8) (N := 44) hx hb hts inX8 hown hK hP 1 rfl rfl 10 (by decide) (hts _ tw_983) (fun _ h9 => h9) rfl dX8_takeSingle_17 ?_
      refine va_iast hx hb hK hP hD hS 0 1 rfl rfl (by unfold vp_in; decide) dX8_takeSingle_20 (fun H locs hP hD hS => ?_)
      have hQ9 := pd_mk [(aI k (a 16) 9 (upd freadSingle (Int32.toNatClampNeg 0) nu__1)), ((a 0), .inr (8, (fX8 a (nI tx) fp (nI t0__1) wd (nI we) nu__1 (nI nq_2) (nI rd) ts (nI ru) (nI rw) (nI ca) df db sd))), (aI k (a 5) 240 ftext)] hP hD
      clear hP hD
      obtain ⟨hP, hD⟩ := hQ9
      have hQ9 := pd_mk [(aI k (a 16) 9 (upd freadSingle 0 nu__1)), ((a 0), .inr (8, (fX8 a (nI tx) fp (nI t0__1) wd (nI we) nu__1 (nI nq_2) (nI rd) ts (nI ru) (nI rw) (nI ca) df db sd))), (aI k (a 5) 240 ftext)] hP hD
      clear hP hD
      obtain ⟨hP, hD⟩ := hQ9
      refine lv_iload_n hx hb dX8_takeSingle_21 rfl (lv_at hl 0 rfl) ?_
      have hg1_9 := (nuR_in hq_2).2
      obtain ⟨hP9, hD9⟩ := pd_sub [((a 0), .inr (8, (fX8 a (nI tx) fp (nI t0__1) wd (nI we) nu__1 (nI nq_2) (nI rd) ts (nI ru) (nI rw) (nI ca) df db sd))), (aI k (a 5) 240 ftext), (aI k (a 16) 9 (upd freadSingle 0 nu__1))] [1, 2, 0] hP hD (by decide) rfl
      exact W.iret (v := 0) hx hb hr (fun t ht hW => ⟨⟨0, (t0__1, wd, we, fp, nu__1, (nI nq_2), (upd freadSingle 0 nu__1)), rfl, ⟨.inl ⟨rfl, nu__1, 0, (by simp [siF, hq_2, (show zLE 1 = -50 from rfl), (show zMO 1 = 50 from rfl), (show decide ((1 : Nat) = 1) = true from rfl), -List.getD_eq_getElem?_getD]), by rw [if_neg (by decide)], rfl⟩, by omega, by omega, fun _ => by omega, fun _ => (rsOK_upd hrs 0 _ (fun h5 => absurd h5 (by omega)) (fun h7 => absurd h7 (by omega)))⟩, by rw [ht]; exact hP9, hD9⟩, hS.F ht⟩) hS.2.2 dX8_takeSingle_22
    · refine lv_istore_n (lv' := [(2, .int 1), (0, .ref (a 0)), (1, .int 0)]) hx hb dX8_takeSingle_10 rfl hl (by decide) rfl (fun ls hl => ?_)
      refine lv_aload_n hx hb dX8_takeSingle_11 rfl (lv_at hl 1 rfl) ?_
      refine va_get (D := D) (ci := 8) (v := .ref (a 16)) (C := RX8) (T := TX8) (N := 44) hx hb hts inX8 hown hK hP 1 rfl rfl 15 (by decide) (hts _ tw_988) (fun _ h9 => h9) rfl dX8_takeSingle_12 ?_
      refine lv_iconst (v := 0) hx hb dX8_takeSingle_15 (by decide) ?_
      refine lv_aload_n hx hb dX8_takeSingle_16 rfl (lv_at hl 1 rfl) ?_
      refine va_get (D := D) (ci := 8) (v := .int nu__1) (C := RX8) (T := TX8) (N := 44) hx hb hts inX8 hown hK hP 1 rfl rfl 10 (by decide) (hts _ tw_983) (fun _ h9 => h9) rfl dX8_takeSingle_17 ?_
      refine va_iast hx hb hK hP hD hS 0 1 rfl rfl (by unfold vp_in; decide) dX8_takeSingle_20 (fun H locs hP hD hS => ?_)
      have hQ9 := pd_mk [(aI k (a 16) 9 (upd freadSingle (Int32.toNatClampNeg 0) nu__1)), ((a 0), .inr (8, (fX8 a (nI tx) (nI pl_2) (nI t0__1) wd (nI we) nu__1 (nI nq_2) (nI rd) ts (nI ru) (nI rw) (nI ca) df db sd))), (aI k (a 5) 240 ftext)] hP hD
      clear hP hD
      obtain ⟨hP, hD⟩ := hQ9
      have hQ9 := pd_mk [(aI k (a 16) 9 (upd freadSingle 0 nu__1)), ((a 0), .inr (8, (fX8 a (nI tx) (nI pl_2) (nI t0__1) wd (nI we) nu__1 (nI nq_2) (nI rd) ts (nI ru) (nI rw) (nI ca) df db sd))), (aI k (a 5) 240 ftext)] hP hD
      clear hP hD
      obtain ⟨hP, hD⟩ := hQ9
      refine lv_iload_n hx hb dX8_takeSingle_21 rfl (lv_at hl 0 rfl) ?_
      obtain ⟨hP9, hD9⟩ := pd_sub [((a 0), .inr (8, (fX8 a (nI tx) (nI pl_2) (nI t0__1) wd (nI we) nu__1 (nI nq_2) (nI rd) ts (nI ru) (nI rw) (nI ca) df db sd))), (aI k (a 5) 240 ftext), (aI k (a 16) 9 (upd freadSingle 0 nu__1))] [1, 2, 0] hP hD (by decide) rfl
      exact W.iret (v := 1) hx hb hr (fun t ht hW => ⟨⟨1, (t0__1, wd, we, (nI pl_2), nu__1, (nI nq_2), (upd freadSingle 0 nu__1)), rfl, ⟨.inr ⟨1, pl_2, rfl, by decide, by decide, by simp [siF, hq_2, (show zLE 1 = -50 from rfl), (show zMO 1 = 50 from rfl), (show decide ((1 : Nat) = 1) = true from rfl), -List.getD_eq_getElem?_getD], by simp [siF, hq_2, (show zLE 1 = -50 from rfl), (show zMO 1 = 50 from rfl), (show decide ((1 : Nat) = 1) = true from rfl), -List.getD_eq_getElem?_getD], rfl⟩, by omega, by omega, fun h => absurd h (by decide), fun h => absurd h (by decide)⟩, by rw [ht]; exact hP9, hD9⟩, hS.F ht⟩) hS.2.2 dX8_takeSingle_22
    · refine lv_istore_n (lv' := [(2, .int 2), (0, .ref (a 0)), (1, .int 0)]) hx hb dX8_takeSingle_10 rfl hl (by decide) rfl (fun ls hl => ?_)
      refine lv_aload_n hx hb dX8_takeSingle_11 rfl (lv_at hl 1 rfl) ?_
      refine va_get (D := D) (ci := 8) (v := .ref (a 16)) (C := RX8) (T := TX8) (N := 44) hx hb hts inX8 hown hK hP 1 rfl rfl 15 (by decide) (hts _ tw_988) (fun _ h9 => h9) rfl dX8_takeSingle_12 ?_
      refine lv_iconst (v := 0) hx hb dX8_takeSingle_15 (by decide) ?_
      refine lv_aload_n hx hb dX8_takeSingle_16 rfl (lv_at hl 1 rfl) ?_
      refine va_get (D := D) (ci := 8) (v := .int nu__1) (C := RX8) (T := TX8) (N := 44) hx hb hts inX8 hown hK hP 1 rfl rfl 10 (by decide) (hts _ tw_983) (fun _ h9 => h9) rfl dX8_takeSingle_17 ?_
      refine va_iast hx hb hK hP hD hS 0 1 rfl rfl (by unfold vp_in; decide) dX8_takeSingle_20 (fun H locs hP hD hS => ?_)
      have hQ9 := pd_mk [(aI k (a 16) 9 (upd freadSingle (Int32.toNatClampNeg 0) nu__1)), ((a 0), .inr (8, (fX8 a (nI tx) (nI pl_2) (nI t0__1) wd (nI we) nu__1 (nI nq_2) (nI rd) ts (nI ru) (nI rw) (nI ca) df db sd))), (aI k (a 5) 240 ftext)] hP hD
      clear hP hD
      obtain ⟨hP, hD⟩ := hQ9
      have hQ9 := pd_mk [(aI k (a 16) 9 (upd freadSingle 0 nu__1)), ((a 0), .inr (8, (fX8 a (nI tx) (nI pl_2) (nI t0__1) wd (nI we) nu__1 (nI nq_2) (nI rd) ts (nI ru) (nI rw) (nI ca) df db sd))), (aI k (a 5) 240 ftext)] hP hD
      clear hP hD
      obtain ⟨hP, hD⟩ := hQ9
      refine lv_iload_n hx hb dX8_takeSingle_21 rfl (lv_at hl 0 rfl) ?_
      obtain ⟨hP9, hD9⟩ := pd_sub [((a 0), .inr (8, (fX8 a (nI tx) (nI pl_2) (nI t0__1) wd (nI we) nu__1 (nI nq_2) (nI rd) ts (nI ru) (nI rw) (nI ca) df db sd))), (aI k (a 5) 240 ftext), (aI k (a 16) 9 (upd freadSingle 0 nu__1))] [1, 2, 0] hP hD (by decide) rfl
      exact W.iret (v := 2) hx hb hr (fun t ht hW => ⟨⟨2, (t0__1, wd, we, (nI pl_2), nu__1, (nI nq_2), (upd freadSingle 0 nu__1)), rfl, ⟨.inr ⟨2, pl_2, rfl, by decide, by decide, by simp [siF, hq_2, (show zLE 1 = -50 from rfl), (show zMO 1 = 50 from rfl), (show decide ((1 : Nat) = 1) = true from rfl), -List.getD_eq_getElem?_getD], by simp [siF, hq_2, (show zLE 1 = -50 from rfl), (show zMO 1 = 50 from rfl), (show decide ((1 : Nat) = 1) = true from rfl), -List.getD_eq_getElem?_getD], rfl⟩, by omega, by omega, fun h => absurd h (by decide), fun h => absurd h (by decide)⟩, by rw [ht]; exact hP9, hD9⟩, hS.F ht⟩) hS.2.2 dX8_takeSingle_22
  · refine lv_iload_n hx hb dX8_takeSingle_0 rfl (lv_at hl 1 rfl) ?_
    refine lv_if_ne (tgt := 23) hx hb dX8_takeSingle_1 (by decide) (fun _ => ?_) (fun h => absurd h (by decide))
    refine lv_iload_n hx hb dX8_takeSingle_23 rfl (lv_at hl 1 rfl) ?_
    refine lv_iconst (v := 4) hx hb dX8_takeSingle_24 (by decide) ?_
    refine lv_icmp_ne (tgt := 34) hx hb dX8_takeSingle_25 (by decide) (fun _ => ?_) (fun h => absurd h (by decide))
    refine lv_iload_n hx hb dX8_takeSingle_34 rfl (lv_at hl 1 rfl) ?_
    refine lv_iconst (v := 5) hx hb dX8_takeSingle_35 (by decide) ?_
    refine lv_icmp_ne (tgt := 43) hx hb dX8_takeSingle_36 (by decide) (fun _ => ?_) (fun h => absurd h (by decide))
    refine lv_iload_n hx hb dX8_takeSingle_43 rfl (lv_at hl 1 rfl) ?_
    refine lv_bipush (v := 6) hx hb dX8_takeSingle_44 (by decide) ?_
    refine lv_icmp_ne (tgt := 54) hx hb dX8_takeSingle_46 (by decide) (fun _ => ?_) (fun h => absurd h (by decide))
    refine lv_iload_n hx hb dX8_takeSingle_54 rfl (lv_at hl 1 rfl) ?_
    refine lv_bipush (v := 8) hx hb dX8_takeSingle_55 (by decide) ?_
    refine lv_icmp_ne (tgt := 66) hx hb dX8_takeSingle_57 (by decide) (fun _ => ?_) (fun h => absurd h (by decide))
    refine lv_bipush (v := 99) hx hb dX8_takeSingle_66 (by decide) ?_
    refine lv_istore_n (lv' := [(2, .int 99), (0, .ref (a 0)), (1, .int 1)]) hx hb dX8_takeSingle_68 rfl hl (by decide) rfl (fun ls hl => ?_)
    refine lv_aload_n hx hb dX8_takeSingle_69 rfl (lv_at hl 1 rfl) ?_
    refine lv_iconst (v := 0) hx hb dX8_takeSingle_70 (by decide) ?_
    refine lv_iload_n hx hb dX8_takeSingle_71 rfl (lv_at hl 0 rfl) ?_
    refine rw_i (D := D) (wr := [(aI k (a 16) 9 freadSingle)]) (va_runV (As := [.int 0, .int 99]) (rest := []) ⟨hx, hb, hml, hown, hts⟩ ((n_takeNumber l D k st lo a tx t0 we rd ru rw ca fp wd nu na ts df db sd ftext 0 99 (by first | assumption | omega) (by first | assumption | omega)) s.heap.size) (cwV 2 hts (gV tw_1159 tw_1161 tw_33 tw_87 tw_1162) rfl rfl rfl (by decide +kernel) ⟨Nat.le_of_ble_eq_true rfl, Nat.le_of_ble_eq_true rfl⟩) (pV hS hAlo hlo hP hK (va_Dlo hD hAlo) hZ [0, 1] (by decide) rfl (ci := 8) (q := (RX8, TX8, 44)) (q0 := 0) rfl rfl) rfl rfl hl.1 rfl (lv_room (Nat.le_of_ble_eq_true rfl)) dX8_takeSingle_72 ⟨Nat.le_of_ble_eq_true rfl, Nat.le_of_ble_eq_true rfl⟩) hS hA hP hD [0, 1] [2] rfl rfl (by decide) (by decide) (fun r_6 u H locs hw_6 hP hD hS => ?_)
    obtain ⟨t0__6, nu__6, na__6, fp__6⟩ := u
    have hQ9 := pd_mk [(aI k (a 16) 9 freadSingle), ((a 0), .inr (8, (fX8 a (nI tx) fp__6 (nI t0__6) wd (nI we) nu__6 na__6 (nI rd) ts (nI ru) (nI rw) (nI ca) df db sd))), (aI k (a 5) 240 ftext)] hP hD
    clear hP hD
    obtain ⟨hP, hD⟩ := hQ9
    try dsimp only at hw_6
    obtain ⟨nq_7, rfl, hq_7, hw_6⟩ := hw_6
    rcases hq_7 with ⟨rfl, hq_7, hfp_7⟩ | ⟨rfl, pl_7, hq_7, rfl⟩ | ⟨rfl, pl_7, hq_7, rfl⟩
    · replace hfp_7 := hfp_7.symm
      subst hfp_7
      refine lv_istore_n (lv' := [(3, .int 0), (2, .int 99), (0, .ref (a 0)), (1, .int 1)]) hx hb dX8_takeSingle_75 rfl hl (by decide) rfl (fun ls hl => ?_)
      refine lv_aload_n hx hb dX8_takeSingle_76 rfl (lv_at hl 2 rfl) ?_
      refine va_get (D := D) (ci := 8) (v := .ref (a 16)) (C := RX8) (T := TX8) (N := 44) hx hb hts inX8 hown hK hP 1 rfl rfl 15 (by decide) (hts _ tw_988) (fun _ h9 => h9) rfl dX8_takeSingle_77 ?_
      refine lv_iload_n hx hb dX8_takeSingle_80 rfl (lv_at hl 3 rfl) ?_
      refine lv_aload_n hx hb dX8_takeSingle_81 rfl (lv_at hl 2 rfl) ?_
      refine va_get (D := D) (ci := 8) (v := .int nu__6) (C := RX8) (T := TX8) (N := 44) hx hb hts inX8 hown hK hP 1 rfl rfl 10 (by decide) (hts _ tw_983) (fun _ h9 => h9) rfl dX8_takeSingle_82 ?_
      refine va_iast hx hb hK hP hD hS 0 1 rfl rfl (by unfold vp_in; decide) dX8_takeSingle_85 (fun H locs hP hD hS => ?_)
      have hQ9 := pd_mk [(aI k (a 16) 9 (upd freadSingle (Int32.toNatClampNeg 1) nu__6)), ((a 0), .inr (8, (fX8 a (nI tx) fp (nI t0__6) wd (nI we) nu__6 (nI nq_7) (nI rd) ts (nI ru) (nI rw) (nI ca) df db sd))), (aI k (a 5) 240 ftext)] hP hD
      clear hP hD
      obtain ⟨hP, hD⟩ := hQ9
      have hQ9 := pd_mk [(aI k (a 16) 9 (upd freadSingle 1 nu__6)), ((a 0), .inr (8, (fX8 a (nI tx) fp (nI t0__6) wd (nI we) nu__6 (nI nq_7) (nI rd) ts (nI ru) (nI rw) (nI ca) df db sd))), (aI k (a 5) 240 ftext)] hP hD
      clear hP hD
      obtain ⟨hP, hD⟩ := hQ9
      refine lv_iload_n hx hb dX8_takeSingle_86 rfl (lv_at hl 0 rfl) ?_
      refine lv_if_gt (tgt := 96) hx hb dX8_takeSingle_87 (by decide) (fun h => absurd h (by decide)) (fun _ => ?_)
      refine lv_iload_n hx hb dX8_takeSingle_90 rfl (lv_at hl 3 rfl) ?_
      refine lv_bipush (v := 6) hx hb dX8_takeSingle_91 (by decide) ?_
      refine lv_icmp_eq (tgt := 98) hx hb dX8_takeSingle_93 (by decide) (fun h => absurd h (by decide)) (fun _ => ?_)
      refine lv_iload_n hx hb dX8_takeSingle_96 rfl (lv_at hl 0 rfl) ?_
      have hg1_9 := (nuR_in hq_7).2
      obtain ⟨hP9, hD9⟩ := pd_sub [((a 0), .inr (8, (fX8 a (nI tx) fp (nI t0__6) wd (nI we) nu__6 (nI nq_7) (nI rd) ts (nI ru) (nI rw) (nI ca) df db sd))), (aI k (a 5) 240 ftext), (aI k (a 16) 9 (upd freadSingle 1 nu__6))] [1, 2, 0] hP hD (by decide) rfl
      exact W.iret (v := 0) hx hb hr (fun t ht hW => ⟨⟨0, (t0__6, wd, we, fp, nu__6, (nI nq_7), (upd freadSingle 1 nu__6)), rfl, ⟨.inl ⟨rfl, nu__6, 0, (by simp [siF, hq_7, (show zLE 2 = 0 from rfl), (show zMO 2 = 99 from rfl), (show decide ((2 : Nat) = 1) = false from rfl), -List.getD_eq_getElem?_getD]), by rw [if_neg (by decide)], rfl⟩, by omega, by omega, fun _ => by omega, fun _ => (rsOK_upd hrs 1 _ (fun h5 => absurd h5 (by omega)) (fun h7 => absurd h7 (by omega)))⟩, by rw [ht]; exact hP9, hD9⟩, hS.F ht⟩) hS.2.2 dX8_takeSingle_97
    · refine lv_istore_n (lv' := [(3, .int 1), (2, .int 99), (0, .ref (a 0)), (1, .int 1)]) hx hb dX8_takeSingle_75 rfl hl (by decide) rfl (fun ls hl => ?_)
      refine lv_aload_n hx hb dX8_takeSingle_76 rfl (lv_at hl 2 rfl) ?_
      refine va_get (D := D) (ci := 8) (v := .ref (a 16)) (C := RX8) (T := TX8) (N := 44) hx hb hts inX8 hown hK hP 1 rfl rfl 15 (by decide) (hts _ tw_988) (fun _ h9 => h9) rfl dX8_takeSingle_77 ?_
      refine lv_iload_n hx hb dX8_takeSingle_80 rfl (lv_at hl 3 rfl) ?_
      refine lv_aload_n hx hb dX8_takeSingle_81 rfl (lv_at hl 2 rfl) ?_
      refine va_get (D := D) (ci := 8) (v := .int nu__6) (C := RX8) (T := TX8) (N := 44) hx hb hts inX8 hown hK hP 1 rfl rfl 10 (by decide) (hts _ tw_983) (fun _ h9 => h9) rfl dX8_takeSingle_82 ?_
      refine va_iast hx hb hK hP hD hS 0 1 rfl rfl (by unfold vp_in; decide) dX8_takeSingle_85 (fun H locs hP hD hS => ?_)
      have hQ9 := pd_mk [(aI k (a 16) 9 (upd freadSingle (Int32.toNatClampNeg 1) nu__6)), ((a 0), .inr (8, (fX8 a (nI tx) (nI pl_7) (nI t0__6) wd (nI we) nu__6 (nI nq_7) (nI rd) ts (nI ru) (nI rw) (nI ca) df db sd))), (aI k (a 5) 240 ftext)] hP hD
      clear hP hD
      obtain ⟨hP, hD⟩ := hQ9
      have hQ9 := pd_mk [(aI k (a 16) 9 (upd freadSingle 1 nu__6)), ((a 0), .inr (8, (fX8 a (nI tx) (nI pl_7) (nI t0__6) wd (nI we) nu__6 (nI nq_7) (nI rd) ts (nI ru) (nI rw) (nI ca) df db sd))), (aI k (a 5) 240 ftext)] hP hD
      clear hP hD
      obtain ⟨hP, hD⟩ := hQ9
      refine lv_iload_n hx hb dX8_takeSingle_86 rfl (lv_at hl 0 rfl) ?_
      refine lv_if_gt (tgt := 96) hx hb dX8_takeSingle_87 (by decide) (fun _ => ?_) (fun h => absurd (by decide) h)
      refine lv_iload_n hx hb dX8_takeSingle_96 rfl (lv_at hl 0 rfl) ?_
      obtain ⟨hP9, hD9⟩ := pd_sub [((a 0), .inr (8, (fX8 a (nI tx) (nI pl_7) (nI t0__6) wd (nI we) nu__6 (nI nq_7) (nI rd) ts (nI ru) (nI rw) (nI ca) df db sd))), (aI k (a 5) 240 ftext), (aI k (a 16) 9 (upd freadSingle 1 nu__6))] [1, 2, 0] hP hD (by decide) rfl
      exact W.iret (v := 1) hx hb hr (fun t ht hW => ⟨⟨1, (t0__6, wd, we, (nI pl_7), nu__6, (nI nq_7), (upd freadSingle 1 nu__6)), rfl, ⟨.inr ⟨1, pl_7, rfl, by decide, by decide, by simp [siF, hq_7, (show zLE 2 = 0 from rfl), (show zMO 2 = 99 from rfl), (show decide ((2 : Nat) = 1) = false from rfl), -List.getD_eq_getElem?_getD], by simp [siF, hq_7, (show zLE 2 = 0 from rfl), (show zMO 2 = 99 from rfl), (show decide ((2 : Nat) = 1) = false from rfl), -List.getD_eq_getElem?_getD], rfl⟩, by omega, by omega, fun h => absurd h (by decide), fun h => absurd h (by decide)⟩, by rw [ht]; exact hP9, hD9⟩, hS.F ht⟩) hS.2.2 dX8_takeSingle_97
    · refine lv_istore_n (lv' := [(3, .int 2), (2, .int 99), (0, .ref (a 0)), (1, .int 1)]) hx hb dX8_takeSingle_75 rfl hl (by decide) rfl (fun ls hl => ?_)
      refine lv_aload_n hx hb dX8_takeSingle_76 rfl (lv_at hl 2 rfl) ?_
      refine va_get (D := D) (ci := 8) (v := .ref (a 16)) (C := RX8) (T := TX8) (N := 44) hx hb hts inX8 hown hK hP 1 rfl rfl 15 (by decide) (hts _ tw_988) (fun _ h9 => h9) rfl dX8_takeSingle_77 ?_
      refine lv_iload_n hx hb dX8_takeSingle_80 rfl (lv_at hl 3 rfl) ?_
      refine lv_aload_n hx hb dX8_takeSingle_81 rfl (lv_at hl 2 rfl) ?_
      refine va_get (D := D) (ci := 8) (v := .int nu__6) (C := RX8) (T := TX8) (N := 44) hx hb hts inX8 hown hK hP 1 rfl rfl 10 (by decide) (hts _ tw_983) (fun _ h9 => h9) rfl dX8_takeSingle_82 ?_
      refine va_iast hx hb hK hP hD hS 0 1 rfl rfl (by unfold vp_in; decide) dX8_takeSingle_85 (fun H locs hP hD hS => ?_)
      have hQ9 := pd_mk [(aI k (a 16) 9 (upd freadSingle (Int32.toNatClampNeg 1) nu__6)), ((a 0), .inr (8, (fX8 a (nI tx) (nI pl_7) (nI t0__6) wd (nI we) nu__6 (nI nq_7) (nI rd) ts (nI ru) (nI rw) (nI ca) df db sd))), (aI k (a 5) 240 ftext)] hP hD
      clear hP hD
      obtain ⟨hP, hD⟩ := hQ9
      have hQ9 := pd_mk [(aI k (a 16) 9 (upd freadSingle 1 nu__6)), ((a 0), .inr (8, (fX8 a (nI tx) (nI pl_7) (nI t0__6) wd (nI we) nu__6 (nI nq_7) (nI rd) ts (nI ru) (nI rw) (nI ca) df db sd))), (aI k (a 5) 240 ftext)] hP hD
      clear hP hD
      obtain ⟨hP, hD⟩ := hQ9
      refine lv_iload_n hx hb dX8_takeSingle_86 rfl (lv_at hl 0 rfl) ?_
      refine lv_if_gt (tgt := 96) hx hb dX8_takeSingle_87 (by decide) (fun _ => ?_) (fun h => absurd (by decide) h)
      refine lv_iload_n hx hb dX8_takeSingle_96 rfl (lv_at hl 0 rfl) ?_
      obtain ⟨hP9, hD9⟩ := pd_sub [((a 0), .inr (8, (fX8 a (nI tx) (nI pl_7) (nI t0__6) wd (nI we) nu__6 (nI nq_7) (nI rd) ts (nI ru) (nI rw) (nI ca) df db sd))), (aI k (a 5) 240 ftext), (aI k (a 16) 9 (upd freadSingle 1 nu__6))] [1, 2, 0] hP hD (by decide) rfl
      exact W.iret (v := 2) hx hb hr (fun t ht hW => ⟨⟨2, (t0__6, wd, we, (nI pl_7), nu__6, (nI nq_7), (upd freadSingle 1 nu__6)), rfl, ⟨.inr ⟨2, pl_7, rfl, by decide, by decide, by simp [siF, hq_7, (show zLE 2 = 0 from rfl), (show zMO 2 = 99 from rfl), (show decide ((2 : Nat) = 1) = false from rfl), -List.getD_eq_getElem?_getD], by simp [siF, hq_7, (show zLE 2 = 0 from rfl), (show zMO 2 = 99 from rfl), (show decide ((2 : Nat) = 1) = false from rfl), -List.getD_eq_getElem?_getD], rfl⟩, by omega, by omega, fun h => absurd h (by decide), fun h => absurd h (by decide)⟩, by rw [ht]; exact hP9, hD9⟩, hS.F ht⟩) hS.2.2 dX8_takeSingle_97
  · refine lv_iload_n hx hb dX8_takeSingle_0 rfl (lv_at hl 1 rfl) ?_
    refine lv_if_ne (tgt := 23) hx hb dX8_takeSingle_1 (by decide) (fun _ => ?_) (fun h => absurd h (by decide))
    refine lv_iload_n hx hb dX8_takeSingle_23 rfl (lv_at hl 1 rfl) ?_
    refine lv_iconst (v := 4) hx hb dX8_takeSingle_24 (by decide) ?_
    refine lv_icmp_ne (tgt := 34) hx hb dX8_takeSingle_25 (by decide) (fun _ => ?_) (fun h => absurd h (by decide))
    refine lv_iload_n hx hb dX8_takeSingle_34 rfl (lv_at hl 1 rfl) ?_
    refine lv_iconst (v := 5) hx hb dX8_takeSingle_35 (by decide) ?_
    refine lv_icmp_ne (tgt := 43) hx hb dX8_takeSingle_36 (by decide) (fun _ => ?_) (fun h => absurd h (by decide))
    refine lv_iload_n hx hb dX8_takeSingle_43 rfl (lv_at hl 1 rfl) ?_
    refine lv_bipush (v := 6) hx hb dX8_takeSingle_44 (by decide) ?_
    refine lv_icmp_ne (tgt := 54) hx hb dX8_takeSingle_46 (by decide) (fun _ => ?_) (fun h => absurd h (by decide))
    refine lv_iload_n hx hb dX8_takeSingle_54 rfl (lv_at hl 1 rfl) ?_
    refine lv_bipush (v := 8) hx hb dX8_takeSingle_55 (by decide) ?_
    refine lv_icmp_ne (tgt := 66) hx hb dX8_takeSingle_57 (by decide) (fun _ => ?_) (fun h => absurd h (by decide))
    refine lv_bipush (v := 99) hx hb dX8_takeSingle_66 (by decide) ?_
    refine lv_istore_n (lv' := [(2, .int 99), (0, .ref (a 0)), (1, .int 2)]) hx hb dX8_takeSingle_68 rfl hl (by decide) rfl (fun ls hl => ?_)
    refine lv_aload_n hx hb dX8_takeSingle_69 rfl (lv_at hl 1 rfl) ?_
    refine lv_iconst (v := 0) hx hb dX8_takeSingle_70 (by decide) ?_
    refine lv_iload_n hx hb dX8_takeSingle_71 rfl (lv_at hl 0 rfl) ?_
    refine rw_i (D := D) (wr := [(aI k (a 16) 9 freadSingle)]) (va_runV (As := [.int 0, .int 99]) (rest := []) ⟨hx, hb, hml, hown, hts⟩ ((n_takeNumber l D k st lo a tx t0 we rd ru rw ca fp wd nu na ts df db sd ftext 0 99 (by first | assumption | omega) (by first | assumption | omega)) s.heap.size) (cwV 2 hts (gV tw_1159 tw_1161 tw_33 tw_87 tw_1162) rfl rfl rfl (by decide +kernel) ⟨Nat.le_of_ble_eq_true rfl, Nat.le_of_ble_eq_true rfl⟩) (pV hS hAlo hlo hP hK (va_Dlo hD hAlo) hZ [0, 1] (by decide) rfl (ci := 8) (q := (RX8, TX8, 44)) (q0 := 0) rfl rfl) rfl rfl hl.1 rfl (lv_room (Nat.le_of_ble_eq_true rfl)) dX8_takeSingle_72 ⟨Nat.le_of_ble_eq_true rfl, Nat.le_of_ble_eq_true rfl⟩) hS hA hP hD [0, 1] [2] rfl rfl (by decide) (by decide) (fun r_11 u H locs hw_11 hP hD hS => ?_)
    obtain ⟨t0__11, nu__11, na__11, fp__11⟩ := u
    have hQ9 := pd_mk [(aI k (a 16) 9 freadSingle), ((a 0), .inr (8, (fX8 a (nI tx) fp__11 (nI t0__11) wd (nI we) nu__11 na__11 (nI rd) ts (nI ru) (nI rw) (nI ca) df db sd))), (aI k (a 5) 240 ftext)] hP hD
    clear hP hD
    obtain ⟨hP, hD⟩ := hQ9
    try dsimp only at hw_11
    obtain ⟨nq_12, rfl, hq_12, hw_11⟩ := hw_11
    rcases hq_12 with ⟨rfl, hq_12, hfp_12⟩ | ⟨rfl, pl_12, hq_12, rfl⟩ | ⟨rfl, pl_12, hq_12, rfl⟩
    · replace hfp_12 := hfp_12.symm
      subst hfp_12
      refine lv_istore_n (lv' := [(3, .int 0), (2, .int 99), (0, .ref (a 0)), (1, .int 2)]) hx hb dX8_takeSingle_75 rfl hl (by decide) rfl (fun ls hl => ?_)
      refine lv_aload_n hx hb dX8_takeSingle_76 rfl (lv_at hl 2 rfl) ?_
      refine va_get (D := D) (ci := 8) (v := .ref (a 16)) (C := RX8) (T := TX8) (N := 44) hx hb hts inX8 hown hK hP 1 rfl rfl 15 (by decide) (hts _ tw_988) (fun _ h9 => h9) rfl dX8_takeSingle_77 ?_
      refine lv_iload_n hx hb dX8_takeSingle_80 rfl (lv_at hl 3 rfl) ?_
      refine lv_aload_n hx hb dX8_takeSingle_81 rfl (lv_at hl 2 rfl) ?_
      refine va_get (D := D) (ci := 8) (v := .int nu__11) (C := RX8) (T := TX8) (N := 44) hx hb hts inX8 hown hK hP 1 rfl rfl 10 (by decide) (hts _ tw_983) (fun _ h9 => h9) rfl dX8_takeSingle_82 ?_
      refine va_iast hx hb hK hP hD hS 0 1 rfl rfl (by unfold vp_in; decide) dX8_takeSingle_85 (fun H locs hP hD hS => ?_)
      have hQ9 := pd_mk [(aI k (a 16) 9 (upd freadSingle (Int32.toNatClampNeg 2) nu__11)), ((a 0), .inr (8, (fX8 a (nI tx) fp (nI t0__11) wd (nI we) nu__11 (nI nq_12) (nI rd) ts (nI ru) (nI rw) (nI ca) df db sd))), (aI k (a 5) 240 ftext)] hP hD
      clear hP hD
      obtain ⟨hP, hD⟩ := hQ9
      have hQ9 := pd_mk [(aI k (a 16) 9 (upd freadSingle 2 nu__11)), ((a 0), .inr (8, (fX8 a (nI tx) fp (nI t0__11) wd (nI we) nu__11 (nI nq_12) (nI rd) ts (nI ru) (nI rw) (nI ca) df db sd))), (aI k (a 5) 240 ftext)] hP hD
      clear hP hD
      obtain ⟨hP, hD⟩ := hQ9
      refine lv_iload_n hx hb dX8_takeSingle_86 rfl (lv_at hl 0 rfl) ?_
      refine lv_if_gt (tgt := 96) hx hb dX8_takeSingle_87 (by decide) (fun h => absurd h (by decide)) (fun _ => ?_)
      refine lv_iload_n hx hb dX8_takeSingle_90 rfl (lv_at hl 3 rfl) ?_
      refine lv_bipush (v := 6) hx hb dX8_takeSingle_91 (by decide) ?_
      refine lv_icmp_eq (tgt := 98) hx hb dX8_takeSingle_93 (by decide) (fun h => absurd h (by decide)) (fun _ => ?_)
      refine lv_iload_n hx hb dX8_takeSingle_96 rfl (lv_at hl 0 rfl) ?_
      have hg1_9 := (nuR_in hq_12).2
      obtain ⟨hP9, hD9⟩ := pd_sub [((a 0), .inr (8, (fX8 a (nI tx) fp (nI t0__11) wd (nI we) nu__11 (nI nq_12) (nI rd) ts (nI ru) (nI rw) (nI ca) df db sd))), (aI k (a 5) 240 ftext), (aI k (a 16) 9 (upd freadSingle 2 nu__11))] [1, 2, 0] hP hD (by decide) rfl
      exact W.iret (v := 0) hx hb hr (fun t ht hW => ⟨⟨0, (t0__11, wd, we, fp, nu__11, (nI nq_12), (upd freadSingle 2 nu__11)), rfl, ⟨.inl ⟨rfl, nu__11, 0, (by simp [siF, hq_12, (show zLE 3 = 0 from rfl), (show zMO 3 = 99 from rfl), (show decide ((3 : Nat) = 1) = false from rfl), -List.getD_eq_getElem?_getD]), by rw [if_neg (by decide)], rfl⟩, by omega, by omega, fun _ => by omega, fun _ => (rsOK_upd hrs 2 _ (fun h5 => absurd h5 (by omega)) (fun h7 => absurd h7 (by omega)))⟩, by rw [ht]; exact hP9, hD9⟩, hS.F ht⟩) hS.2.2 dX8_takeSingle_97
    · refine lv_istore_n (lv' := [(3, .int 1), (2, .int 99), (0, .ref (a 0)), (1, .int 2)]) hx hb dX8_takeSingle_75 rfl hl (by decide) rfl (fun ls hl => ?_)
      refine lv_aload_n hx hb dX8_takeSingle_76 rfl (lv_at hl 2 rfl) ?_
      refine va_get (D := D) (ci := 8) (v := .ref (a 16)) (C := RX8) (T := TX8) (N := 44) hx hb hts inX8 hown hK hP 1 rfl rfl 15 (by decide) (hts _ tw_988) (fun _ h9 => h9) rfl dX8_takeSingle_77 ?_
      refine lv_iload_n hx hb dX8_takeSingle_80 rfl (lv_at hl 3 rfl) ?_
      refine lv_aload_n hx hb dX8_takeSingle_81 rfl (lv_at hl 2 rfl) ?_
      refine va_get (D := D) (ci := 8) (v := .int nu__11) (C := RX8) (T := TX8) (N := 44) hx hb hts inX8 hown hK hP 1 rfl rfl 10 (by decide) (hts _ tw_983) (fun _ h9 => h9) rfl dX8_takeSingle_82 ?_
      refine va_iast hx hb hK hP hD hS 0 1 rfl rfl (by unfold vp_in; decide) dX8_takeSingle_85 (fun H locs hP hD hS => ?_)
      have hQ9 := pd_mk [(aI k (a 16) 9 (upd freadSingle (Int32.toNatClampNeg 2) nu__11)), ((a 0), .inr (8, (fX8 a (nI tx) (nI pl_12) (nI t0__11) wd (nI we) nu__11 (nI nq_12) (nI rd) ts (nI ru) (nI rw) (nI ca) df db sd))), (aI k (a 5) 240 ftext)] hP hD
      clear hP hD
      obtain ⟨hP, hD⟩ := hQ9
      have hQ9 := pd_mk [(aI k (a 16) 9 (upd freadSingle 2 nu__11)), ((a 0), .inr (8, (fX8 a (nI tx) (nI pl_12) (nI t0__11) wd (nI we) nu__11 (nI nq_12) (nI rd) ts (nI ru) (nI rw) (nI ca) df db sd))), (aI k (a 5) 240 ftext)] hP hD
      clear hP hD
      obtain ⟨hP, hD⟩ := hQ9
      refine lv_iload_n hx hb dX8_takeSingle_86 rfl (lv_at hl 0 rfl) ?_
      refine lv_if_gt (tgt := 96) hx hb dX8_takeSingle_87 (by decide) (fun _ => ?_) (fun h => absurd (by decide) h)
      refine lv_iload_n hx hb dX8_takeSingle_96 rfl (lv_at hl 0 rfl) ?_
      obtain ⟨hP9, hD9⟩ := pd_sub [((a 0), .inr (8, (fX8 a (nI tx) (nI pl_12) (nI t0__11) wd (nI we) nu__11 (nI nq_12) (nI rd) ts (nI ru) (nI rw) (nI ca) df db sd))), (aI k (a 5) 240 ftext), (aI k (a 16) 9 (upd freadSingle 2 nu__11))] [1, 2, 0] hP hD (by decide) rfl
      exact W.iret (v := 1) hx hb hr (fun t ht hW => ⟨⟨1, (t0__11, wd, we, (nI pl_12), nu__11, (nI nq_12), (upd freadSingle 2 nu__11)), rfl, ⟨.inr ⟨1, pl_12, rfl, by decide, by decide, by simp [siF, hq_12, (show zLE 3 = 0 from rfl), (show zMO 3 = 99 from rfl), (show decide ((3 : Nat) = 1) = false from rfl), -List.getD_eq_getElem?_getD], by simp [siF, hq_12, (show zLE 3 = 0 from rfl), (show zMO 3 = 99 from rfl), (show decide ((3 : Nat) = 1) = false from rfl), -List.getD_eq_getElem?_getD], rfl⟩, by omega, by omega, fun h => absurd h (by decide), fun h => absurd h (by decide)⟩, by rw [ht]; exact hP9, hD9⟩, hS.F ht⟩) hS.2.2 dX8_takeSingle_97
    · refine lv_istore_n (lv' := [(3, .int 2), (2, .int 99), (0, .ref (a 0)), (1, .int 2)]) hx hb dX8_takeSingle_75 rfl hl (by decide) rfl (fun ls hl => ?_)
      refine lv_aload_n hx hb dX8_takeSingle_76 rfl (lv_at hl 2 rfl) ?_
      refine va_get (D := D) (ci := 8) (v := .ref (a 16)) (C := RX8) (T := TX8) (N := 44) hx hb hts inX8 hown hK hP 1 rfl rfl 15 (by decide) (hts _ tw_988) (fun _ h9 => h9) rfl dX8_takeSingle_77 ?_
      refine lv_iload_n hx hb dX8_takeSingle_80 rfl (lv_at hl 3 rfl) ?_
      refine lv_aload_n hx hb dX8_takeSingle_81 rfl (lv_at hl 2 rfl) ?_
      refine va_get (D := D) (ci := 8) (v := .int nu__11) (C := RX8) (T := TX8) (N := 44) hx hb hts inX8 hown hK hP 1 rfl rfl 10 (by decide) (hts _ tw_983) (fun _ h9 => h9) rfl dX8_takeSingle_82 ?_
      refine va_iast hx hb hK hP hD hS 0 1 rfl rfl (by unfold vp_in; decide) dX8_takeSingle_85 (fun H locs hP hD hS => ?_)
      have hQ9 := pd_mk [(aI k (a 16) 9 (upd freadSingle (Int32.toNatClampNeg 2) nu__11)), ((a 0), .inr (8, (fX8 a (nI tx) (nI pl_12) (nI t0__11) wd (nI we) nu__11 (nI nq_12) (nI rd) ts (nI ru) (nI rw) (nI ca) df db sd))), (aI k (a 5) 240 ftext)] hP hD
      clear hP hD
      obtain ⟨hP, hD⟩ := hQ9
      have hQ9 := pd_mk [(aI k (a 16) 9 (upd freadSingle 2 nu__11)), ((a 0), .inr (8, (fX8 a (nI tx) (nI pl_12) (nI t0__11) wd (nI we) nu__11 (nI nq_12) (nI rd) ts (nI ru) (nI rw) (nI ca) df db sd))), (aI k (a 5) 240 ftext)] hP hD
      clear hP hD
      obtain ⟨hP, hD⟩ := hQ9
      refine lv_iload_n hx hb dX8_takeSingle_86 rfl (lv_at hl 0 rfl) ?_
      refine lv_if_gt (tgt := 96) hx hb dX8_takeSingle_87 (by decide) (fun _ => ?_) (fun h => absurd (by decide) h)
      refine lv_iload_n hx hb dX8_takeSingle_96 rfl (lv_at hl 0 rfl) ?_
      obtain ⟨hP9, hD9⟩ := pd_sub [((a 0), .inr (8, (fX8 a (nI tx) (nI pl_12) (nI t0__11) wd (nI we) nu__11 (nI nq_12) (nI rd) ts (nI ru) (nI rw) (nI ca) df db sd))), (aI k (a 5) 240 ftext), (aI k (a 16) 9 (upd freadSingle 2 nu__11))] [1, 2, 0] hP hD (by decide) rfl
      exact W.iret (v := 2) hx hb hr (fun t ht hW => ⟨⟨2, (t0__11, wd, we, (nI pl_12), nu__11, (nI nq_12), (upd freadSingle 2 nu__11)), rfl, ⟨.inr ⟨2, pl_12, rfl, by decide, by decide, by simp [siF, hq_12, (show zLE 3 = 0 from rfl), (show zMO 3 = 99 from rfl), (show decide ((3 : Nat) = 1) = false from rfl), -List.getD_eq_getElem?_getD], by simp [siF, hq_12, (show zLE 3 = 0 from rfl), (show zMO 3 = 99 from rfl), (show decide ((3 : Nat) = 1) = false from rfl), -List.getD_eq_getElem?_getD], rfl⟩, by omega, by omega, fun h => absurd h (by decide), fun h => absurd h (by decide)⟩, by rw [ht]; exact hP9, hD9⟩, hS.F ht⟩) hS.2.2 dX8_takeSingle_97
  · refine lv_iload_n hx hb dX8_takeSingle_0 rfl (lv_at hl 1 rfl) ?_
    refine lv_if_ne (tgt := 23) hx hb dX8_takeSingle_1 (by decide) (fun _ => ?_) (fun h => absurd h (by decide))
    refine lv_iload_n hx hb dX8_takeSingle_23 rfl (lv_at hl 1 rfl) ?_
    refine lv_iconst (v := 4) hx hb dX8_takeSingle_24 (by decide) ?_
    refine lv_icmp_ne (tgt := 34) hx hb dX8_takeSingle_25 (by decide) (fun _ => ?_) (fun h => absurd h (by decide))
    refine lv_iload_n hx hb dX8_takeSingle_34 rfl (lv_at hl 1 rfl) ?_
    refine lv_iconst (v := 5) hx hb dX8_takeSingle_35 (by decide) ?_
    refine lv_icmp_ne (tgt := 43) hx hb dX8_takeSingle_36 (by decide) (fun _ => ?_) (fun h => absurd h (by decide))
    refine lv_iload_n hx hb dX8_takeSingle_43 rfl (lv_at hl 1 rfl) ?_
    refine lv_bipush (v := 6) hx hb dX8_takeSingle_44 (by decide) ?_
    refine lv_icmp_ne (tgt := 54) hx hb dX8_takeSingle_46 (by decide) (fun _ => ?_) (fun h => absurd h (by decide))
    refine lv_iload_n hx hb dX8_takeSingle_54 rfl (lv_at hl 1 rfl) ?_
    refine lv_bipush (v := 8) hx hb dX8_takeSingle_55 (by decide) ?_
    refine lv_icmp_ne (tgt := 66) hx hb dX8_takeSingle_57 (by decide) (fun _ => ?_) (fun h => absurd h (by decide))
    refine lv_bipush (v := 99) hx hb dX8_takeSingle_66 (by decide) ?_
    refine lv_istore_n (lv' := [(2, .int 99), (0, .ref (a 0)), (1, .int 3)]) hx hb dX8_takeSingle_68 rfl hl (by decide) rfl (fun ls hl => ?_)
    refine lv_aload_n hx hb dX8_takeSingle_69 rfl (lv_at hl 1 rfl) ?_
    refine lv_iconst (v := 0) hx hb dX8_takeSingle_70 (by decide) ?_
    refine lv_iload_n hx hb dX8_takeSingle_71 rfl (lv_at hl 0 rfl) ?_
    refine rw_i (D := D) (wr := [(aI k (a 16) 9 freadSingle)]) (va_runV (As := [.int 0, .int 99]) (rest := []) ⟨hx, hb, hml, hown, hts⟩ ((n_takeNumber l D k st lo a tx t0 we rd ru rw ca fp wd nu na ts df db sd ftext 0 99 (by first | assumption | omega) (by first | assumption | omega)) s.heap.size) (cwV 2 hts (gV tw_1159 tw_1161 tw_33 tw_87 tw_1162) rfl rfl rfl (by decide +kernel) ⟨Nat.le_of_ble_eq_true rfl, Nat.le_of_ble_eq_true rfl⟩) (pV hS hAlo hlo hP hK (va_Dlo hD hAlo) hZ [0, 1] (by decide) rfl (ci := 8) (q := (RX8, TX8, 44)) (q0 := 0) rfl rfl) rfl rfl hl.1 rfl (lv_room (Nat.le_of_ble_eq_true rfl)) dX8_takeSingle_72 ⟨Nat.le_of_ble_eq_true rfl, Nat.le_of_ble_eq_true rfl⟩) hS hA hP hD [0, 1] [2] rfl rfl (by decide) (by decide) (fun r_16 u H locs hw_16 hP hD hS => ?_)
    obtain ⟨t0__16, nu__16, na__16, fp__16⟩ := u
    have hQ9 := pd_mk [(aI k (a 16) 9 freadSingle), ((a 0), .inr (8, (fX8 a (nI tx) fp__16 (nI t0__16) wd (nI we) nu__16 na__16 (nI rd) ts (nI ru) (nI rw) (nI ca) df db sd))), (aI k (a 5) 240 ftext)] hP hD
    clear hP hD
    obtain ⟨hP, hD⟩ := hQ9
    try dsimp only at hw_16
    obtain ⟨nq_17, rfl, hq_17, hw_16⟩ := hw_16
    rcases hq_17 with ⟨rfl, hq_17, hfp_17⟩ | ⟨rfl, pl_17, hq_17, rfl⟩ | ⟨rfl, pl_17, hq_17, rfl⟩
    · replace hfp_17 := hfp_17.symm
      subst hfp_17
      refine lv_istore_n (lv' := [(3, .int 0), (2, .int 99), (0, .ref (a 0)), (1, .int 3)]) hx hb dX8_takeSingle_75 rfl hl (by decide) rfl (fun ls hl => ?_)
      refine lv_aload_n hx hb dX8_takeSingle_76 rfl (lv_at hl 2 rfl) ?_
      refine va_get (D := D) (ci := 8) (v := .ref (a 16)) (C := RX8) (T := TX8) (N := 44) hx hb hts inX8 hown hK hP 1 rfl rfl 15 (by decide) (hts _ tw_988) (fun _ h9 => h9) rfl dX8_takeSingle_77 ?_
      refine lv_iload_n hx hb dX8_takeSingle_80 rfl (lv_at hl 3 rfl) ?_
      refine lv_aload_n hx hb dX8_takeSingle_81 rfl (lv_at hl 2 rfl) ?_
      refine va_get (D := D) (ci := 8) (v := .int nu__16) (C := RX8) (T := TX8) (N := 44) hx hb hts inX8 hown hK hP 1 rfl rfl 10 (by decide) (hts _ tw_983) (fun _ h9 => h9) rfl dX8_takeSingle_82 ?_
      refine va_iast hx hb hK hP hD hS 0 1 rfl rfl (by unfold vp_in; decide) dX8_takeSingle_85 (fun H locs hP hD hS => ?_)
      have hQ9 := pd_mk [(aI k (a 16) 9 (upd freadSingle (Int32.toNatClampNeg 3) nu__16)), ((a 0), .inr (8, (fX8 a (nI tx) fp (nI t0__16) wd (nI we) nu__16 (nI nq_17) (nI rd) ts (nI ru) (nI rw) (nI ca) df db sd))), (aI k (a 5) 240 ftext)] hP hD
      clear hP hD
      obtain ⟨hP, hD⟩ := hQ9
      have hQ9 := pd_mk [(aI k (a 16) 9 (upd freadSingle 3 nu__16)), ((a 0), .inr (8, (fX8 a (nI tx) fp (nI t0__16) wd (nI we) nu__16 (nI nq_17) (nI rd) ts (nI ru) (nI rw) (nI ca) df db sd))), (aI k (a 5) 240 ftext)] hP hD
      clear hP hD
      obtain ⟨hP, hD⟩ := hQ9
      refine lv_iload_n hx hb dX8_takeSingle_86 rfl (lv_at hl 0 rfl) ?_
      refine lv_if_gt (tgt := 96) hx hb dX8_takeSingle_87 (by decide) (fun h => absurd h (by decide)) (fun _ => ?_)
      refine lv_iload_n hx hb dX8_takeSingle_90 rfl (lv_at hl 3 rfl) ?_
      refine lv_bipush (v := 6) hx hb dX8_takeSingle_91 (by decide) ?_
      refine lv_icmp_eq (tgt := 98) hx hb dX8_takeSingle_93 (by decide) (fun h => absurd h (by decide)) (fun _ => ?_)
      refine lv_iload_n hx hb dX8_takeSingle_96 rfl (lv_at hl 0 rfl) ?_
      have hg1_9 := (nuR_in hq_17).2
      obtain ⟨hP9, hD9⟩ := pd_sub [((a 0), .inr (8, (fX8 a (nI tx) fp (nI t0__16) wd (nI we) nu__16 (nI nq_17) (nI rd) ts (nI ru) (nI rw) (nI ca) df db sd))), (aI k (a 5) 240 ftext), (aI k (a 16) 9 (upd freadSingle 3 nu__16))] [1, 2, 0] hP hD (by decide) rfl
      exact W.iret (v := 0) hx hb hr (fun t ht hW => ⟨⟨0, (t0__16, wd, we, fp, nu__16, (nI nq_17), (upd freadSingle 3 nu__16)), rfl, ⟨.inl ⟨rfl, nu__16, 0, (by simp [siF, hq_17, (show zLE 4 = 0 from rfl), (show zMO 4 = 99 from rfl), (show decide ((4 : Nat) = 1) = false from rfl), -List.getD_eq_getElem?_getD]), by rw [if_neg (by decide)], rfl⟩, by omega, by omega, fun _ => by omega, fun _ => (rsOK_upd hrs 3 _ (fun h5 => absurd h5 (by omega)) (fun h7 => absurd h7 (by omega)))⟩, by rw [ht]; exact hP9, hD9⟩, hS.F ht⟩) hS.2.2 dX8_takeSingle_97
    · refine lv_istore_n (lv' := [(3, .int 1), (2, .int 99), (0, .ref (a 0)), (1, .int 3)]) hx hb dX8_takeSingle_75 rfl hl (by decide) rfl (fun ls hl => ?_)
      refine lv_aload_n hx hb dX8_takeSingle_76 rfl (lv_at hl 2 rfl) ?_
      refine va_get (D := D) (ci := 8) (v := .ref (a 16)) (C := RX8) (T := TX8) (N := 44) hx hb hts inX8 hown hK hP 1 rfl rfl 15 (by decide) (hts _ tw_988) (fun _ h9 => h9) rfl dX8_takeSingle_77 ?_
      refine lv_iload_n hx hb dX8_takeSingle_80 rfl (lv_at hl 3 rfl) ?_
      refine lv_aload_n hx hb dX8_takeSingle_81 rfl (lv_at hl 2 rfl) ?_
      refine va_get (D := D) (ci := 8) (v := .int nu__16) (C := RX8) (T := TX8) (N := 44) hx hb hts inX8 hown hK hP 1 rfl rfl 10 (by decide) (hts _ tw_983) (fun _ h9 => h9) rfl dX8_takeSingle_82 ?_
      refine va_iast hx hb hK hP hD hS 0 1 rfl rfl (by unfold vp_in; decide) dX8_takeSingle_85 (fun H locs hP hD hS => ?_)
      have hQ9 := pd_mk [(aI k (a 16) 9 (upd freadSingle (Int32.toNatClampNeg 3) nu__16)), ((a 0), .inr (8, (fX8 a (nI tx) (nI pl_17) (nI t0__16) wd (nI we) nu__16 (nI nq_17) (nI rd) ts (nI ru) (nI rw) (nI ca) df db sd))), (aI k (a 5) 240 ftext)] hP hD
      clear hP hD
      obtain ⟨hP, hD⟩ := hQ9
      have hQ9 := pd_mk [(aI k (a 16) 9 (upd freadSingle 3 nu__16)), ((a 0), .inr (8, (fX8 a (nI tx) (nI pl_17) (nI t0__16) wd (nI we) nu__16 (nI nq_17) (nI rd) ts (nI ru) (nI rw) (nI ca) df db sd))), (aI k (a 5) 240 ftext)] hP hD
      clear hP hD
      obtain ⟨hP, hD⟩ := hQ9
      refine lv_iload_n hx hb dX8_takeSingle_86 rfl (lv_at hl 0 rfl) ?_
      refine lv_if_gt (tgt := 96) hx hb dX8_takeSingle_87 (by decide) (fun _ => ?_) (fun h => absurd (by decide) h)
      refine lv_iload_n hx hb dX8_takeSingle_96 rfl (lv_at hl 0 rfl) ?_
      obtain ⟨hP9, hD9⟩ := pd_sub [((a 0), .inr (8, (fX8 a (nI tx) (nI pl_17) (nI t0__16) wd (nI we) nu__16 (nI nq_17) (nI rd) ts (nI ru) (nI rw) (nI ca) df db sd))), (aI k (a 5) 240 ftext), (aI k (a 16) 9 (upd freadSingle 3 nu__16))] [1, 2, 0] hP hD (by decide) rfl
      exact W.iret (v := 1) hx hb hr (fun t ht hW => ⟨⟨1, (t0__16, wd, we, (nI pl_17), nu__16, (nI nq_17), (upd freadSingle 3 nu__16)), rfl, ⟨.inr ⟨1, pl_17, rfl, by decide, by decide, by simp [siF, hq_17, (show zLE 4 = 0 from rfl), (show zMO 4 = 99 from rfl), (show decide ((4 : Nat) = 1) = false from rfl), -List.getD_eq_getElem?_getD], by simp [siF, hq_17, (show zLE 4 = 0 from rfl), (show zMO 4 = 99 from rfl), (show decide ((4 : Nat) = 1) = false from rfl), -List.getD_eq_getElem?_getD], rfl⟩, by omega, by omega, fun h => absurd h (by decide), fun h => absurd h (by decide)⟩, by rw [ht]; exact hP9, hD9⟩, hS.F ht⟩) hS.2.2 dX8_takeSingle_97
    · refine lv_istore_n (lv' := [(3, .int 2), (2, .int 99), (0, .ref (a 0)), (1, .int 3)]) hx hb dX8_takeSingle_75 rfl hl (by decide) rfl (fun ls hl => ?_)
      refine lv_aload_n hx hb dX8_takeSingle_76 rfl (lv_at hl 2 rfl) ?_
      refine va_get (D := D) (ci := 8) (v := .ref (a 16)) (C := RX8) (T := TX8) (N := 44) hx hb hts inX8 hown hK hP 1 rfl rfl 15 (by decide) (hts _ tw_988) (fun _ h9 => h9) rfl dX8_takeSingle_77 ?_
      refine lv_iload_n hx hb dX8_takeSingle_80 rfl (lv_at hl 3 rfl) ?_
      refine lv_aload_n hx hb dX8_takeSingle_81 rfl (lv_at hl 2 rfl) ?_
      refine va_get (D := D) (ci := 8) (v := .int nu__16) (C := RX8) (T := TX8) (N := 44) hx hb hts inX8 hown hK hP 1 rfl rfl 10 (by decide) (hts _ tw_983) (fun _ h9 => h9) rfl dX8_takeSingle_82 ?_
      refine va_iast hx hb hK hP hD hS 0 1 rfl rfl (by unfold vp_in; decide) dX8_takeSingle_85 (fun H locs hP hD hS => ?_)
      have hQ9 := pd_mk [(aI k (a 16) 9 (upd freadSingle (Int32.toNatClampNeg 3) nu__16)), ((a 0), .inr (8, (fX8 a (nI tx) (nI pl_17) (nI t0__16) wd (nI we) nu__16 (nI nq_17) (nI rd) ts (nI ru) (nI rw) (nI ca) df db sd))), (aI k (a 5) 240 ftext)] hP hD
      clear hP hD
      obtain ⟨hP, hD⟩ := hQ9
      have hQ9 := pd_mk [(aI k (a 16) 9 (upd freadSingle 3 nu__16)), ((a 0), .inr (8, (fX8 a (nI tx) (nI pl_17) (nI t0__16) wd (nI we) nu__16 (nI nq_17) (nI rd) ts (nI ru) (nI rw) (nI ca) df db sd))), (aI k (a 5) 240 ftext)] hP hD
      clear hP hD
      obtain ⟨hP, hD⟩ := hQ9
      refine lv_iload_n hx hb dX8_takeSingle_86 rfl (lv_at hl 0 rfl) ?_
      refine lv_if_gt (tgt := 96) hx hb dX8_takeSingle_87 (by decide) (fun _ => ?_) (fun h => absurd (by decide) h)
      refine lv_iload_n hx hb dX8_takeSingle_96 rfl (lv_at hl 0 rfl) ?_
      obtain ⟨hP9, hD9⟩ := pd_sub [((a 0), .inr (8, (fX8 a (nI tx) (nI pl_17) (nI t0__16) wd (nI we) nu__16 (nI nq_17) (nI rd) ts (nI ru) (nI rw) (nI ca) df db sd))), (aI k (a 5) 240 ftext), (aI k (a 16) 9 (upd freadSingle 3 nu__16))] [1, 2, 0] hP hD (by decide) rfl
      exact W.iret (v := 2) hx hb hr (fun t ht hW => ⟨⟨2, (t0__16, wd, we, (nI pl_17), nu__16, (nI nq_17), (upd freadSingle 3 nu__16)), rfl, ⟨.inr ⟨2, pl_17, rfl, by decide, by decide, by simp [siF, hq_17, (show zLE 4 = 0 from rfl), (show zMO 4 = 99 from rfl), (show decide ((4 : Nat) = 1) = false from rfl), -List.getD_eq_getElem?_getD], by simp [siF, hq_17, (show zLE 4 = 0 from rfl), (show zMO 4 = 99 from rfl), (show decide ((4 : Nat) = 1) = false from rfl), -List.getD_eq_getElem?_getD], rfl⟩, by omega, by omega, fun h => absurd h (by decide), fun h => absurd h (by decide)⟩, by rw [ht]; exact hP9, hD9⟩, hS.F ht⟩) hS.2.2 dX8_takeSingle_97
  · refine lv_iload_n hx hb dX8_takeSingle_0 rfl (lv_at hl 1 rfl) ?_
    refine lv_if_ne (tgt := 23) hx hb dX8_takeSingle_1 (by decide) (fun _ => ?_) (fun h => absurd h (by decide))
    refine lv_iload_n hx hb dX8_takeSingle_23 rfl (lv_at hl 1 rfl) ?_
    refine lv_iconst (v := 4) hx hb dX8_takeSingle_24 (by decide) ?_
    refine lv_icmp_ne (tgt := 34) hx hb dX8_takeSingle_25 (by decide) (fun h => absurd (by decide) h) (fun _ => ?_)
    refine lv_sipush (v := 200) hx hb dX8_takeSingle_28 (by decide) ?_
    refine lv_goto (tgt := 68) hx hb dX8_takeSingle_31 (by decide) ?_
    refine lv_istore_n (lv' := [(2, .int 200), (0, .ref (a 0)), (1, .int 4)]) hx hb dX8_takeSingle_68 rfl hl (by decide) rfl (fun ls hl => ?_)
    refine lv_aload_n hx hb dX8_takeSingle_69 rfl (lv_at hl 1 rfl) ?_
    refine lv_iconst (v := 0) hx hb dX8_takeSingle_70 (by decide) ?_
    refine lv_iload_n hx hb dX8_takeSingle_71 rfl (lv_at hl 0 rfl) ?_
    refine rw_i (D := D) (wr := [(aI k (a 16) 9 freadSingle)]) (va_runV (As := [.int 0, .int 200]) (rest := []) ⟨hx, hb, hml, hown, hts⟩ ((n_takeNumber l D k st lo a tx t0 we rd ru rw ca fp wd nu na ts df db sd ftext 0 200 (by first | assumption | omega) (by first | assumption | omega)) s.heap.size) (cwV 2 hts (gV tw_1159 tw_1161 tw_33 tw_87 tw_1162) rfl rfl rfl (by decide +kernel) ⟨Nat.le_of_ble_eq_true rfl, Nat.le_of_ble_eq_true rfl⟩) (pV hS hAlo hlo hP hK (va_Dlo hD hAlo) hZ [0, 1] (by decide) rfl (ci := 8) (q := (RX8, TX8, 44)) (q0 := 0) rfl rfl) rfl rfl hl.1 rfl (lv_room (Nat.le_of_ble_eq_true rfl)) dX8_takeSingle_72 ⟨Nat.le_of_ble_eq_true rfl, Nat.le_of_ble_eq_true rfl⟩) hS hA hP hD [0, 1] [2] rfl rfl (by decide) (by decide) (fun r_21 u H locs hw_21 hP hD hS => ?_)
    obtain ⟨t0__21, nu__21, na__21, fp__21⟩ := u
    have hQ9 := pd_mk [(aI k (a 16) 9 freadSingle), ((a 0), .inr (8, (fX8 a (nI tx) fp__21 (nI t0__21) wd (nI we) nu__21 na__21 (nI rd) ts (nI ru) (nI rw) (nI ca) df db sd))), (aI k (a 5) 240 ftext)] hP hD
    clear hP hD
    obtain ⟨hP, hD⟩ := hQ9
    try dsimp only at hw_21
    obtain ⟨nq_22, rfl, hq_22, hw_21⟩ := hw_21
    rcases hq_22 with ⟨rfl, hq_22, hfp_22⟩ | ⟨rfl, pl_22, hq_22, rfl⟩ | ⟨rfl, pl_22, hq_22, rfl⟩
    · replace hfp_22 := hfp_22.symm
      subst hfp_22
      refine lv_istore_n (lv' := [(3, .int 0), (2, .int 200), (0, .ref (a 0)), (1, .int 4)]) hx hb dX8_takeSingle_75 rfl hl (by decide) rfl (fun ls hl => ?_)
      refine lv_aload_n hx hb dX8_takeSingle_76 rfl (lv_at hl 2 rfl) ?_
      refine va_get (D := D) (ci := 8) (v := .ref (a 16)) (C := RX8) (T := TX8) (N := 44) hx hb hts inX8 hown hK hP 1 rfl rfl 15 (by decide) (hts _ tw_988) (fun _ h9 => h9) rfl dX8_takeSingle_77 ?_
      refine lv_iload_n hx hb dX8_takeSingle_80 rfl (lv_at hl 3 rfl) ?_
      refine lv_aload_n hx hb dX8_takeSingle_81 rfl (lv_at hl 2 rfl) ?_
      refine va_get (D := D) (ci := 8) (v := .int nu__21) (C := RX8) (T := TX8) (N := 44) hx hb hts inX8 hown hK hP 1 rfl rfl 10 (by decide) (hts _ tw_983) (fun _ h9 => h9) rfl dX8_takeSingle_82 ?_
      refine va_iast hx hb hK hP hD hS 0 1 rfl rfl (by unfold vp_in; decide) dX8_takeSingle_85 (fun H locs hP hD hS => ?_)
      have hQ9 := pd_mk [(aI k (a 16) 9 (upd freadSingle (Int32.toNatClampNeg 4) nu__21)), ((a 0), .inr (8, (fX8 a (nI tx) fp (nI t0__21) wd (nI we) nu__21 (nI nq_22) (nI rd) ts (nI ru) (nI rw) (nI ca) df db sd))), (aI k (a 5) 240 ftext)] hP hD
      clear hP hD
      obtain ⟨hP, hD⟩ := hQ9
      have hQ9 := pd_mk [(aI k (a 16) 9 (upd freadSingle 4 nu__21)), ((a 0), .inr (8, (fX8 a (nI tx) fp (nI t0__21) wd (nI we) nu__21 (nI nq_22) (nI rd) ts (nI ru) (nI rw) (nI ca) df db sd))), (aI k (a 5) 240 ftext)] hP hD
      clear hP hD
      obtain ⟨hP, hD⟩ := hQ9
      refine lv_iload_n hx hb dX8_takeSingle_86 rfl (lv_at hl 0 rfl) ?_
      refine lv_if_gt (tgt := 96) hx hb dX8_takeSingle_87 (by decide) (fun h => absurd h (by decide)) (fun _ => ?_)
      refine lv_iload_n hx hb dX8_takeSingle_90 rfl (lv_at hl 3 rfl) ?_
      refine lv_bipush (v := 6) hx hb dX8_takeSingle_91 (by decide) ?_
      refine lv_icmp_eq (tgt := 98) hx hb dX8_takeSingle_93 (by decide) (fun h => absurd h (by decide)) (fun _ => ?_)
      refine lv_iload_n hx hb dX8_takeSingle_96 rfl (lv_at hl 0 rfl) ?_
      have hg1_9 := (nuR_in hq_22).2
      obtain ⟨hP9, hD9⟩ := pd_sub [((a 0), .inr (8, (fX8 a (nI tx) fp (nI t0__21) wd (nI we) nu__21 (nI nq_22) (nI rd) ts (nI ru) (nI rw) (nI ca) df db sd))), (aI k (a 5) 240 ftext), (aI k (a 16) 9 (upd freadSingle 4 nu__21))] [1, 2, 0] hP hD (by decide) rfl
      exact W.iret (v := 0) hx hb hr (fun t ht hW => ⟨⟨0, (t0__21, wd, we, fp, nu__21, (nI nq_22), (upd freadSingle 4 nu__21)), rfl, ⟨.inl ⟨rfl, nu__21, 0, (by simp [siF, hq_22, (show zLE 5 = 0 from rfl), (show zMO 5 = 200 from rfl), (show decide ((5 : Nat) = 1) = false from rfl), -List.getD_eq_getElem?_getD]), by rw [if_neg (by decide)], rfl⟩, by omega, by omega, fun _ => by omega, fun _ => (rsOK_upd hrs 4 _ (fun h5 => absurd h5 (by omega)) (fun h7 => absurd h7 (by omega)))⟩, by rw [ht]; exact hP9, hD9⟩, hS.F ht⟩) hS.2.2 dX8_takeSingle_97
    · refine lv_istore_n (lv' := [(3, .int 1), (2, .int 200), (0, .ref (a 0)), (1, .int 4)]) hx hb dX8_takeSingle_75 rfl hl (by decide) rfl (fun ls hl => ?_)
      refine lv_aload_n hx hb dX8_takeSingle_76 rfl (lv_at hl 2 rfl) ?_
      refine va_get (D := D) (ci := 8) (v := .ref (a 16)) (C := RX8) (T := TX8) (N := 44) hx hb hts inX8 hown hK hP 1 rfl rfl 15 (by decide) (hts _ tw_988) (fun _ h9 => h9) rfl dX8_takeSingle_77 ?_
      refine lv_iload_n hx hb dX8_takeSingle_80 rfl (lv_at hl 3 rfl) ?_
      refine lv_aload_n hx hb dX8_takeSingle_81 rfl (lv_at hl 2 rfl) ?_
      refine va_get (D := D) (ci := 8) (v := .int nu__21) (C := RX8) (T := TX8) (N := 44) hx hb hts inX8 hown hK hP 1 rfl rfl 10 (by decide) (hts _ tw_983) (fun _ h9 => h9) rfl dX8_takeSingle_82 ?_
      refine va_iast hx hb hK hP hD hS 0 1 rfl rfl (by unfold vp_in; decide) dX8_takeSingle_85 (fun H locs hP hD hS => ?_)
      have hQ9 := pd_mk [(aI k (a 16) 9 (upd freadSingle (Int32.toNatClampNeg 4) nu__21)), ((a 0), .inr (8, (fX8 a (nI tx) (nI pl_22) (nI t0__21) wd (nI we) nu__21 (nI nq_22) (nI rd) ts (nI ru) (nI rw) (nI ca) df db sd))), (aI k (a 5) 240 ftext)] hP hD
      clear hP hD
      obtain ⟨hP, hD⟩ := hQ9
      have hQ9 := pd_mk [(aI k (a 16) 9 (upd freadSingle 4 nu__21)), ((a 0), .inr (8, (fX8 a (nI tx) (nI pl_22) (nI t0__21) wd (nI we) nu__21 (nI nq_22) (nI rd) ts (nI ru) (nI rw) (nI ca) df db sd))), (aI k (a 5) 240 ftext)] hP hD
      clear hP hD
      obtain ⟨hP, hD⟩ := hQ9
      refine lv_iload_n hx hb dX8_takeSingle_86 rfl (lv_at hl 0 rfl) ?_
      refine lv_if_gt (tgt := 96) hx hb dX8_takeSingle_87 (by decide) (fun _ => ?_) (fun h => absurd (by decide) h)
      refine lv_iload_n hx hb dX8_takeSingle_96 rfl (lv_at hl 0 rfl) ?_
      obtain ⟨hP9, hD9⟩ := pd_sub [((a 0), .inr (8, (fX8 a (nI tx) (nI pl_22) (nI t0__21) wd (nI we) nu__21 (nI nq_22) (nI rd) ts (nI ru) (nI rw) (nI ca) df db sd))), (aI k (a 5) 240 ftext), (aI k (a 16) 9 (upd freadSingle 4 nu__21))] [1, 2, 0] hP hD (by decide) rfl
      exact W.iret (v := 1) hx hb hr (fun t ht hW => ⟨⟨1, (t0__21, wd, we, (nI pl_22), nu__21, (nI nq_22), (upd freadSingle 4 nu__21)), rfl, ⟨.inr ⟨1, pl_22, rfl, by decide, by decide, by simp [siF, hq_22, (show zLE 5 = 0 from rfl), (show zMO 5 = 200 from rfl), (show decide ((5 : Nat) = 1) = false from rfl), -List.getD_eq_getElem?_getD], by simp [siF, hq_22, (show zLE 5 = 0 from rfl), (show zMO 5 = 200 from rfl), (show decide ((5 : Nat) = 1) = false from rfl), -List.getD_eq_getElem?_getD], rfl⟩, by omega, by omega, fun h => absurd h (by decide), fun h => absurd h (by decide)⟩, by rw [ht]; exact hP9, hD9⟩, hS.F ht⟩) hS.2.2 dX8_takeSingle_97
    · refine lv_istore_n (lv' := [(3, .int 2), (2, .int 200), (0, .ref (a 0)), (1, .int 4)]) hx hb dX8_takeSingle_75 rfl hl (by decide) rfl (fun ls hl => ?_)
      refine lv_aload_n hx hb dX8_takeSingle_76 rfl (lv_at hl 2 rfl) ?_
      refine va_get (D := D) (ci := 8) (v := .ref (a 16)) (C := RX8) (T := TX8) (N := 44) hx hb hts inX8 hown hK hP 1 rfl rfl 15 (by decide) (hts _ tw_988) (fun _ h9 => h9) rfl dX8_takeSingle_77 ?_
      refine lv_iload_n hx hb dX8_takeSingle_80 rfl (lv_at hl 3 rfl) ?_
      refine lv_aload_n hx hb dX8_takeSingle_81 rfl (lv_at hl 2 rfl) ?_
      refine va_get (D := D) (ci := 8) (v := .int nu__21) (C := RX8) (T := TX8) (N := 44) hx hb hts inX8 hown hK hP 1 rfl rfl 10 (by decide) (hts _ tw_983) (fun _ h9 => h9) rfl dX8_takeSingle_82 ?_
      refine va_iast hx hb hK hP hD hS 0 1 rfl rfl (by unfold vp_in; decide) dX8_takeSingle_85 (fun H locs hP hD hS => ?_)
      have hQ9 := pd_mk [(aI k (a 16) 9 (upd freadSingle (Int32.toNatClampNeg 4) nu__21)), ((a 0), .inr (8, (fX8 a (nI tx) (nI pl_22) (nI t0__21) wd (nI we) nu__21 (nI nq_22) (nI rd) ts (nI ru) (nI rw) (nI ca) df db sd))), (aI k (a 5) 240 ftext)] hP hD
      clear hP hD
      obtain ⟨hP, hD⟩ := hQ9
      have hQ9 := pd_mk [(aI k (a 16) 9 (upd freadSingle 4 nu__21)), ((a 0), .inr (8, (fX8 a (nI tx) (nI pl_22) (nI t0__21) wd (nI we) nu__21 (nI nq_22) (nI rd) ts (nI ru) (nI rw) (nI ca) df db sd))), (aI k (a 5) 240 ftext)] hP hD
      clear hP hD
      obtain ⟨hP, hD⟩ := hQ9
      refine lv_iload_n hx hb dX8_takeSingle_86 rfl (lv_at hl 0 rfl) ?_
      refine lv_if_gt (tgt := 96) hx hb dX8_takeSingle_87 (by decide) (fun _ => ?_) (fun h => absurd (by decide) h)
      refine lv_iload_n hx hb dX8_takeSingle_96 rfl (lv_at hl 0 rfl) ?_
      obtain ⟨hP9, hD9⟩ := pd_sub [((a 0), .inr (8, (fX8 a (nI tx) (nI pl_22) (nI t0__21) wd (nI we) nu__21 (nI nq_22) (nI rd) ts (nI ru) (nI rw) (nI ca) df db sd))), (aI k (a 5) 240 ftext), (aI k (a 16) 9 (upd freadSingle 4 nu__21))] [1, 2, 0] hP hD (by decide) rfl
      exact W.iret (v := 2) hx hb hr (fun t ht hW => ⟨⟨2, (t0__21, wd, we, (nI pl_22), nu__21, (nI nq_22), (upd freadSingle 4 nu__21)), rfl, ⟨.inr ⟨2, pl_22, rfl, by decide, by decide, by simp [siF, hq_22, (show zLE 5 = 0 from rfl), (show zMO 5 = 200 from rfl), (show decide ((5 : Nat) = 1) = false from rfl), -List.getD_eq_getElem?_getD], by simp [siF, hq_22, (show zLE 5 = 0 from rfl), (show zMO 5 = 200 from rfl), (show decide ((5 : Nat) = 1) = false from rfl), -List.getD_eq_getElem?_getD], rfl⟩, by omega, by omega, fun h => absurd h (by decide), fun h => absurd h (by decide)⟩, by rw [ht]; exact hP9, hD9⟩, hS.F ht⟩) hS.2.2 dX8_takeSingle_97
  · refine lv_iload_n hx hb dX8_takeSingle_0 rfl (lv_at hl 1 rfl) ?_
    refine lv_if_ne (tgt := 23) hx hb dX8_takeSingle_1 (by decide) (fun _ => ?_) (fun h => absurd h (by decide))
    refine lv_iload_n hx hb dX8_takeSingle_23 rfl (lv_at hl 1 rfl) ?_
    refine lv_iconst (v := 4) hx hb dX8_takeSingle_24 (by decide) ?_
    refine lv_icmp_ne (tgt := 34) hx hb dX8_takeSingle_25 (by decide) (fun _ => ?_) (fun h => absurd h (by decide))
    refine lv_iload_n hx hb dX8_takeSingle_34 rfl (lv_at hl 1 rfl) ?_
    refine lv_iconst (v := 5) hx hb dX8_takeSingle_35 (by decide) ?_
    refine lv_icmp_ne (tgt := 43) hx hb dX8_takeSingle_36 (by decide) (fun h => absurd (by decide) h) (fun _ => ?_)
    refine lv_iconst (v := 2) hx hb dX8_takeSingle_39 (by decide) ?_
    refine lv_goto (tgt := 68) hx hb dX8_takeSingle_40 (by decide) ?_
    refine lv_istore_n (lv' := [(2, .int 2), (0, .ref (a 0)), (1, .int 5)]) hx hb dX8_takeSingle_68 rfl hl (by decide) rfl (fun ls hl => ?_)
    refine lv_aload_n hx hb dX8_takeSingle_69 rfl (lv_at hl 1 rfl) ?_
    refine lv_iconst (v := 0) hx hb dX8_takeSingle_70 (by decide) ?_
    refine lv_iload_n hx hb dX8_takeSingle_71 rfl (lv_at hl 0 rfl) ?_
    refine rw_i (D := D) (wr := [(aI k (a 16) 9 freadSingle)]) (va_runV (As := [.int 0, .int 2]) (rest := []) ⟨hx, hb, hml, hown, hts⟩ ((n_takeNumber l D k st lo a tx t0 we rd ru rw ca fp wd nu na ts df db sd ftext 0 2 (by first | assumption | omega) (by first | assumption | omega)) s.heap.size) (cwV 2 hts (gV tw_1159 tw_1161 tw_33 tw_87 tw_1162) rfl rfl rfl (by decide +kernel) ⟨Nat.le_of_ble_eq_true rfl, Nat.le_of_ble_eq_true rfl⟩) (pV hS hAlo hlo hP hK (va_Dlo hD hAlo) hZ [0, 1] (by decide) rfl (ci := 8) (q := (RX8, TX8, 44)) (q0 := 0) rfl rfl) rfl rfl hl.1 rfl (lv_room (Nat.le_of_ble_eq_true rfl)) dX8_takeSingle_72 ⟨Nat.le_of_ble_eq_true rfl, Nat.le_of_ble_eq_true rfl⟩) hS hA hP hD [0, 1] [2] rfl rfl (by decide) (by decide) (fun r_26 u H locs hw_26 hP hD hS => ?_)
    obtain ⟨t0__26, nu__26, na__26, fp__26⟩ := u
    have hQ9 := pd_mk [(aI k (a 16) 9 freadSingle), ((a 0), .inr (8, (fX8 a (nI tx) fp__26 (nI t0__26) wd (nI we) nu__26 na__26 (nI rd) ts (nI ru) (nI rw) (nI ca) df db sd))), (aI k (a 5) 240 ftext)] hP hD
    clear hP hD
    obtain ⟨hP, hD⟩ := hQ9
    try dsimp only at hw_26
    obtain ⟨nq_27, rfl, hq_27, hw_26⟩ := hw_26
    rcases hq_27 with ⟨rfl, hq_27, hfp_27⟩ | ⟨rfl, pl_27, hq_27, rfl⟩ | ⟨rfl, pl_27, hq_27, rfl⟩
    · replace hfp_27 := hfp_27.symm
      subst hfp_27
      refine lv_istore_n (lv' := [(3, .int 0), (2, .int 2), (0, .ref (a 0)), (1, .int 5)]) hx hb dX8_takeSingle_75 rfl hl (by decide) rfl (fun ls hl => ?_)
      refine lv_aload_n hx hb dX8_takeSingle_76 rfl (lv_at hl 2 rfl) ?_
      refine va_get (D := D) (ci := 8) (v := .ref (a 16)) (C := RX8) (T := TX8) (N := 44) hx hb hts inX8 hown hK hP 1 rfl rfl 15 (by decide) (hts _ tw_988) (fun _ h9 => h9) rfl dX8_takeSingle_77 ?_
      refine lv_iload_n hx hb dX8_takeSingle_80 rfl (lv_at hl 3 rfl) ?_
      refine lv_aload_n hx hb dX8_takeSingle_81 rfl (lv_at hl 2 rfl) ?_
      refine va_get (D := D) (ci := 8) (v := .int nu__26) (C := RX8) (T := TX8) (N := 44) hx hb hts inX8 hown hK hP 1 rfl rfl 10 (by decide) (hts _ tw_983) (fun _ h9 => h9) rfl dX8_takeSingle_82 ?_
      refine va_iast hx hb hK hP hD hS 0 1 rfl rfl (by unfold vp_in; decide) dX8_takeSingle_85 (fun H locs hP hD hS => ?_)
      have hQ9 := pd_mk [(aI k (a 16) 9 (upd freadSingle (Int32.toNatClampNeg 5) nu__26)), ((a 0), .inr (8, (fX8 a (nI tx) fp (nI t0__26) wd (nI we) nu__26 (nI nq_27) (nI rd) ts (nI ru) (nI rw) (nI ca) df db sd))), (aI k (a 5) 240 ftext)] hP hD
      clear hP hD
      obtain ⟨hP, hD⟩ := hQ9
      have hQ9 := pd_mk [(aI k (a 16) 9 (upd freadSingle 5 nu__26)), ((a 0), .inr (8, (fX8 a (nI tx) fp (nI t0__26) wd (nI we) nu__26 (nI nq_27) (nI rd) ts (nI ru) (nI rw) (nI ca) df db sd))), (aI k (a 5) 240 ftext)] hP hD
      clear hP hD
      obtain ⟨hP, hD⟩ := hQ9
      refine lv_iload_n hx hb dX8_takeSingle_86 rfl (lv_at hl 0 rfl) ?_
      refine lv_if_gt (tgt := 96) hx hb dX8_takeSingle_87 (by decide) (fun h => absurd h (by decide)) (fun _ => ?_)
      refine lv_iload_n hx hb dX8_takeSingle_90 rfl (lv_at hl 3 rfl) ?_
      refine lv_bipush (v := 6) hx hb dX8_takeSingle_91 (by decide) ?_
      refine lv_icmp_eq (tgt := 98) hx hb dX8_takeSingle_93 (by decide) (fun h => absurd h (by decide)) (fun _ => ?_)
      refine lv_iload_n hx hb dX8_takeSingle_96 rfl (lv_at hl 0 rfl) ?_
      have hg1_9 := (nuR_in hq_27).2
      obtain ⟨hP9, hD9⟩ := pd_sub [((a 0), .inr (8, (fX8 a (nI tx) fp (nI t0__26) wd (nI we) nu__26 (nI nq_27) (nI rd) ts (nI ru) (nI rw) (nI ca) df db sd))), (aI k (a 5) 240 ftext), (aI k (a 16) 9 (upd freadSingle 5 nu__26))] [1, 2, 0] hP hD (by decide) rfl
      exact W.iret (v := 0) hx hb hr (fun t ht hW => ⟨⟨0, (t0__26, wd, we, fp, nu__26, (nI nq_27), (upd freadSingle 5 nu__26)), rfl, ⟨.inl ⟨rfl, nu__26, 0, (by simp [siF, hq_27, (show zLE 6 = 0 from rfl), (show zMO 6 = 2 from rfl), (show decide ((6 : Nat) = 1) = false from rfl), -List.getD_eq_getElem?_getD]), by rw [if_neg (by decide)], rfl⟩, by omega, by omega, fun _ => by omega, fun _ => (rsOK_upd hrs 5 _ (fun _ => rs_in (n := 2) (by omega) (nuR_in hq_27).1) (fun h7 => absurd h7 (by omega)))⟩, by rw [ht]; exact hP9, hD9⟩, hS.F ht⟩) hS.2.2 dX8_takeSingle_97
    · refine lv_istore_n (lv' := [(3, .int 1), (2, .int 2), (0, .ref (a 0)), (1, .int 5)]) hx hb dX8_takeSingle_75 rfl hl (by decide) rfl (fun ls hl => ?_)
      refine lv_aload_n hx hb dX8_takeSingle_76 rfl (lv_at hl 2 rfl) ?_
      refine va_get (D := D) (ci := 8) (v := .ref (a 16)) (C := RX8) (T := TX8) (N := 44) hx hb hts inX8 hown hK hP 1 rfl rfl 15 (by decide) (hts _ tw_988) (fun _ h9 => h9) rfl dX8_takeSingle_77 ?_
      refine lv_iload_n hx hb dX8_takeSingle_80 rfl (lv_at hl 3 rfl) ?_
      refine lv_aload_n hx hb dX8_takeSingle_81 rfl (lv_at hl 2 rfl) ?_
      refine va_get (D := D) (ci := 8) (v := .int nu__26) (C := RX8) (T := TX8) (N := 44) hx hb hts inX8 hown hK hP 1 rfl rfl 10 (by decide) (hts _ tw_983) (fun _ h9 => h9) rfl dX8_takeSingle_82 ?_
      refine va_iast hx hb hK hP hD hS 0 1 rfl rfl (by unfold vp_in; decide) dX8_takeSingle_85 (fun H locs hP hD hS => ?_)
      have hQ9 := pd_mk [(aI k (a 16) 9 (upd freadSingle (Int32.toNatClampNeg 5) nu__26)), ((a 0), .inr (8, (fX8 a (nI tx) (nI pl_27) (nI t0__26) wd (nI we) nu__26 (nI nq_27) (nI rd) ts (nI ru) (nI rw) (nI ca) df db sd))), (aI k (a 5) 240 ftext)] hP hD
      clear hP hD
      obtain ⟨hP, hD⟩ := hQ9
      have hQ9 := pd_mk [(aI k (a 16) 9 (upd freadSingle 5 nu__26)), ((a 0), .inr (8, (fX8 a (nI tx) (nI pl_27) (nI t0__26) wd (nI we) nu__26 (nI nq_27) (nI rd) ts (nI ru) (nI rw) (nI ca) df db sd))), (aI k (a 5) 240 ftext)] hP hD
      clear hP hD
      obtain ⟨hP, hD⟩ := hQ9
      refine lv_iload_n hx hb dX8_takeSingle_86 rfl (lv_at hl 0 rfl) ?_
      refine lv_if_gt (tgt := 96) hx hb dX8_takeSingle_87 (by decide) (fun _ => ?_) (fun h => absurd (by decide) h)
      refine lv_iload_n hx hb dX8_takeSingle_96 rfl (lv_at hl 0 rfl) ?_
      obtain ⟨hP9, hD9⟩ := pd_sub [((a 0), .inr (8, (fX8 a (nI tx) (nI pl_27) (nI t0__26) wd (nI we) nu__26 (nI nq_27) (nI rd) ts (nI ru) (nI rw) (nI ca) df db sd))), (aI k (a 5) 240 ftext), (aI k (a 16) 9 (upd freadSingle 5 nu__26))] [1, 2, 0] hP hD (by decide) rfl
      exact W.iret (v := 1) hx hb hr (fun t ht hW => ⟨⟨1, (t0__26, wd, we, (nI pl_27), nu__26, (nI nq_27), (upd freadSingle 5 nu__26)), rfl, ⟨.inr ⟨1, pl_27, rfl, by decide, by decide, by simp [siF, hq_27, (show zLE 6 = 0 from rfl), (show zMO 6 = 2 from rfl), (show decide ((6 : Nat) = 1) = false from rfl), -List.getD_eq_getElem?_getD], by simp [siF, hq_27, (show zLE 6 = 0 from rfl), (show zMO 6 = 2 from rfl), (show decide ((6 : Nat) = 1) = false from rfl), -List.getD_eq_getElem?_getD], rfl⟩, by omega, by omega, fun h => absurd h (by decide), fun h => absurd h (by decide)⟩, by rw [ht]; exact hP9, hD9⟩, hS.F ht⟩) hS.2.2 dX8_takeSingle_97
    · refine lv_istore_n (lv' := [(3, .int 2), (2, .int 2), (0, .ref (a 0)), (1, .int 5)]) hx hb dX8_takeSingle_75 rfl hl (by decide) rfl (fun ls hl => ?_)
      refine lv_aload_n hx hb dX8_takeSingle_76 rfl (lv_at hl 2 rfl) ?_
      refine va_get (D := D) (ci := 8) (v := .ref (a 16)) (C := RX8) (T := TX8) (N := 44) hx hb hts inX8 hown hK hP 1 rfl rfl 15 (by decide) (hts _ tw_988) (fun _ h9 => h9) rfl dX8_takeSingle_77 ?_
      refine lv_iload_n hx hb dX8_takeSingle_80 rfl (lv_at hl 3 rfl) ?_
      refine lv_aload_n hx hb dX8_takeSingle_81 rfl (lv_at hl 2 rfl) ?_
      refine va_get (D := D) (ci := 8) (v := .int nu__26) (C := RX8) (T := TX8) (N := 44) hx hb hts inX8 hown hK hP 1 rfl rfl 10 (by decide) (hts _ tw_983) (fun _ h9 => h9) rfl dX8_takeSingle_82 ?_
      refine va_iast hx hb hK hP hD hS 0 1 rfl rfl (by unfold vp_in; decide) dX8_takeSingle_85 (fun H locs hP hD hS => ?_)
      have hQ9 := pd_mk [(aI k (a 16) 9 (upd freadSingle (Int32.toNatClampNeg 5) nu__26)), ((a 0), .inr (8, (fX8 a (nI tx) (nI pl_27) (nI t0__26) wd (nI we) nu__26 (nI nq_27) (nI rd) ts (nI ru) (nI rw) (nI ca) df db sd))), (aI k (a 5) 240 ftext)] hP hD
      clear hP hD
      obtain ⟨hP, hD⟩ := hQ9
      have hQ9 := pd_mk [(aI k (a 16) 9 (upd freadSingle 5 nu__26)), ((a 0), .inr (8, (fX8 a (nI tx) (nI pl_27) (nI t0__26) wd (nI we) nu__26 (nI nq_27) (nI rd) ts (nI ru) (nI rw) (nI ca) df db sd))), (aI k (a 5) 240 ftext)] hP hD
      clear hP hD
      obtain ⟨hP, hD⟩ := hQ9
      refine lv_iload_n hx hb dX8_takeSingle_86 rfl (lv_at hl 0 rfl) ?_
      refine lv_if_gt (tgt := 96) hx hb dX8_takeSingle_87 (by decide) (fun _ => ?_) (fun h => absurd (by decide) h)
      refine lv_iload_n hx hb dX8_takeSingle_96 rfl (lv_at hl 0 rfl) ?_
      obtain ⟨hP9, hD9⟩ := pd_sub [((a 0), .inr (8, (fX8 a (nI tx) (nI pl_27) (nI t0__26) wd (nI we) nu__26 (nI nq_27) (nI rd) ts (nI ru) (nI rw) (nI ca) df db sd))), (aI k (a 5) 240 ftext), (aI k (a 16) 9 (upd freadSingle 5 nu__26))] [1, 2, 0] hP hD (by decide) rfl
      exact W.iret (v := 2) hx hb hr (fun t ht hW => ⟨⟨2, (t0__26, wd, we, (nI pl_27), nu__26, (nI nq_27), (upd freadSingle 5 nu__26)), rfl, ⟨.inr ⟨2, pl_27, rfl, by decide, by decide, by simp [siF, hq_27, (show zLE 6 = 0 from rfl), (show zMO 6 = 2 from rfl), (show decide ((6 : Nat) = 1) = false from rfl), -List.getD_eq_getElem?_getD], by simp [siF, hq_27, (show zLE 6 = 0 from rfl), (show zMO 6 = 2 from rfl), (show decide ((6 : Nat) = 1) = false from rfl), -List.getD_eq_getElem?_getD], rfl⟩, by omega, by omega, fun h => absurd h (by decide), fun h => absurd h (by decide)⟩, by rw [ht]; exact hP9, hD9⟩, hS.F ht⟩) hS.2.2 dX8_takeSingle_97
  · refine lv_iload_n hx hb dX8_takeSingle_0 rfl (lv_at hl 1 rfl) ?_
    refine lv_if_ne (tgt := 23) hx hb dX8_takeSingle_1 (by decide) (fun _ => ?_) (fun h => absurd h (by decide))
    refine lv_iload_n hx hb dX8_takeSingle_23 rfl (lv_at hl 1 rfl) ?_
    refine lv_iconst (v := 4) hx hb dX8_takeSingle_24 (by decide) ?_
    refine lv_icmp_ne (tgt := 34) hx hb dX8_takeSingle_25 (by decide) (fun _ => ?_) (fun h => absurd h (by decide))
    refine lv_iload_n hx hb dX8_takeSingle_34 rfl (lv_at hl 1 rfl) ?_
    refine lv_iconst (v := 5) hx hb dX8_takeSingle_35 (by decide) ?_
    refine lv_icmp_ne (tgt := 43) hx hb dX8_takeSingle_36 (by decide) (fun _ => ?_) (fun h => absurd h (by decide))
    refine lv_iload_n hx hb dX8_takeSingle_43 rfl (lv_at hl 1 rfl) ?_
    refine lv_bipush (v := 6) hx hb dX8_takeSingle_44 (by decide) ?_
    refine lv_icmp_ne (tgt := 54) hx hb dX8_takeSingle_46 (by decide) (fun h => absurd (by decide) h) (fun _ => ?_)
    refine lv_bipush (v := 60) hx hb dX8_takeSingle_49 (by decide) ?_
    refine lv_goto (tgt := 68) hx hb dX8_takeSingle_51 (by decide) ?_
    refine lv_istore_n (lv' := [(2, .int 60), (0, .ref (a 0)), (1, .int 6)]) hx hb dX8_takeSingle_68 rfl hl (by decide) rfl (fun ls hl => ?_)
    refine lv_aload_n hx hb dX8_takeSingle_69 rfl (lv_at hl 1 rfl) ?_
    refine lv_iconst (v := 0) hx hb dX8_takeSingle_70 (by decide) ?_
    refine lv_iload_n hx hb dX8_takeSingle_71 rfl (lv_at hl 0 rfl) ?_
    refine rw_i (D := D) (wr := [(aI k (a 16) 9 freadSingle)]) (va_runV (As := [.int 0, .int 60]) (rest := []) ⟨hx, hb, hml, hown, hts⟩ ((n_takeNumber l D k st lo a tx t0 we rd ru rw ca fp wd nu na ts df db sd ftext 0 60 (by first | assumption | omega) (by first | assumption | omega)) s.heap.size) (cwV 2 hts (gV tw_1159 tw_1161 tw_33 tw_87 tw_1162) rfl rfl rfl (by decide +kernel) ⟨Nat.le_of_ble_eq_true rfl, Nat.le_of_ble_eq_true rfl⟩) (pV hS hAlo hlo hP hK (va_Dlo hD hAlo) hZ [0, 1] (by decide) rfl (ci := 8) (q := (RX8, TX8, 44)) (q0 := 0) rfl rfl) rfl rfl hl.1 rfl (lv_room (Nat.le_of_ble_eq_true rfl)) dX8_takeSingle_72 ⟨Nat.le_of_ble_eq_true rfl, Nat.le_of_ble_eq_true rfl⟩) hS hA hP hD [0, 1] [2] rfl rfl (by decide) (by decide) (fun r_31 u H locs hw_31 hP hD hS => ?_)
    obtain ⟨t0__31, nu__31, na__31, fp__31⟩ := u
    have hQ9 := pd_mk [(aI k (a 16) 9 freadSingle), ((a 0), .inr (8, (fX8 a (nI tx) fp__31 (nI t0__31) wd (nI we) nu__31 na__31 (nI rd) ts (nI ru) (nI rw) (nI ca) df db sd))), (aI k (a 5) 240 ftext)] hP hD
    clear hP hD
    obtain ⟨hP, hD⟩ := hQ9
    try dsimp only at hw_31
    obtain ⟨nq_32, rfl, hq_32, hw_31⟩ := hw_31
    rcases hq_32 with ⟨rfl, hq_32, hfp_32⟩ | ⟨rfl, pl_32, hq_32, rfl⟩ | ⟨rfl, pl_32, hq_32, rfl⟩
    · replace hfp_32 := hfp_32.symm
      subst hfp_32
      refine lv_istore_n (lv' := [(3, .int 0), (2, .int 60), (0, .ref (a 0)), (1, .int 6)]) hx hb dX8_takeSingle_75 rfl hl (by decide) rfl (fun ls hl => ?_)
      refine lv_aload_n hx hb dX8_takeSingle_76 rfl (lv_at hl 2 rfl) ?_
      refine va_get (D := D) (ci := 8) (v := .ref (a 16)) (C := RX8) (T := TX8) (N := 44) hx hb hts inX8 hown hK hP 1 rfl rfl 15 (by decide) (hts _ tw_988) (fun _ h9 => h9) rfl dX8_takeSingle_77 ?_
      refine lv_iload_n hx hb dX8_takeSingle_80 rfl (lv_at hl 3 rfl) ?_
      refine lv_aload_n hx hb dX8_takeSingle_81 rfl (lv_at hl 2 rfl) ?_
      refine va_get (D := D) (ci := 8) (v := .int nu__31) (C := RX8) (T := TX8) (N := 44) hx hb hts inX8 hown hK hP 1 rfl rfl 10 (by decide) (hts _ tw_983) (fun _ h9 => h9) rfl dX8_takeSingle_82 ?_
      refine va_iast hx hb hK hP hD hS 0 1 rfl rfl (by unfold vp_in; decide) dX8_takeSingle_85 (fun H locs hP hD hS => ?_)
      have hQ9 := pd_mk [(aI k (a 16) 9 (upd freadSingle (Int32.toNatClampNeg 6) nu__31)), ((a 0), .inr (8, (fX8 a (nI tx) fp (nI t0__31) wd (nI we) nu__31 (nI nq_32) (nI rd) ts (nI ru) (nI rw) (nI ca) df db sd))), (aI k (a 5) 240 ftext)] hP hD
      clear hP hD
      obtain ⟨hP, hD⟩ := hQ9
      have hQ9 := pd_mk [(aI k (a 16) 9 (upd freadSingle 6 nu__31)), ((a 0), .inr (8, (fX8 a (nI tx) fp (nI t0__31) wd (nI we) nu__31 (nI nq_32) (nI rd) ts (nI ru) (nI rw) (nI ca) df db sd))), (aI k (a 5) 240 ftext)] hP hD
      clear hP hD
      obtain ⟨hP, hD⟩ := hQ9
      refine lv_iload_n hx hb dX8_takeSingle_86 rfl (lv_at hl 0 rfl) ?_
      refine lv_if_gt (tgt := 96) hx hb dX8_takeSingle_87 (by decide) (fun h => absurd h (by decide)) (fun _ => ?_)
      refine lv_iload_n hx hb dX8_takeSingle_90 rfl (lv_at hl 3 rfl) ?_
      refine lv_bipush (v := 6) hx hb dX8_takeSingle_91 (by decide) ?_
      refine lv_icmp_eq (tgt := 98) hx hb dX8_takeSingle_93 (by decide) (fun _ => ?_) (fun h => absurd (by decide) h)
      refine lv_aload_n hx hb dX8_takeSingle_98 rfl (lv_at hl 2 rfl) ?_
      refine lv_bipush (v := 116) hx hb dX8_takeSingle_99 (by decide) ?_
      refine lv_bipush (v := 105) hx hb dX8_takeSingle_101 (by decide) ?_
      refine lv_bipush (v := 109) hx hb dX8_takeSingle_103 (by decide) ?_
      refine ro_l (D := D) (va_runS (As := [.int 116, .int 105, .int 109]) (rest := [.ref (a 0)]) ⟨hx, hb, hml, hown, hts⟩ ((n_code l D k st lo 116 105 109) H.size) (va_cwS 3 hts (gS tw_1142 tw_1143 tw_87 tw_1144) rfl rfl rfl (by decide +kernel) ⟨Nat.le_of_ble_eq_true rfl, Nat.le_of_ble_eq_true rfl⟩) (pS hS hAlo hlo hP hK (va_Dlo hD hAlo) hZ [] (by decide) rfl) rfl rfl hl.1 rfl (lv_room (Nat.le_of_ble_eq_true rfl)) dX8_takeSingle_105 ⟨Nat.le_of_ble_eq_true rfl, Nat.le_of_ble_eq_true rfl⟩) hS hA hP (fun r_34 H locs hw_34 hP hS => ?_)
      try dsimp only at hw_34
      obtain rfl : r_34 = 14836 := hw_34.trans (by decide)
      refine lv_bipush (v := 101) hx hb dX8_takeSingle_108 (by decide) ?_
      refine lv_bipush (v := 115) hx hb dX8_takeSingle_110 (by decide) ?_
      refine ro_l (D := D) (va_runS (As := [.long 14836, .int 101, .int 115]) (rest := [.ref (a 0)]) ⟨hx, hb, hml, hown, hts⟩ ((n_longest l D k st lo 14836 101 115) H.size) (va_cwS 3 hts (gS tw_1145 tw_1146 tw_87 tw_1147) rfl rfl rfl (by decide +kernel) ⟨Nat.le_of_ble_eq_true rfl, Nat.le_of_ble_eq_true rfl⟩) (pS hS hAlo hlo hP hK (va_Dlo hD hAlo) hZ [] (by decide) rfl) rfl rfl hl.1 rfl (lv_room (Nat.le_of_ble_eq_true rfl)) dX8_takeSingle_112 ⟨Nat.le_of_ble_eq_true rfl, Nat.le_of_ble_eq_true rfl⟩) hS hA hP (fun r_35 H locs hw_35 hP hS => ?_)
      try dsimp only at hw_35
      obtain rfl : r_35 = 10815598 := hw_35.trans (by decide)
      refine rw_i (D := D) (wr := [(aI k (a 16) 9 (upd freadSingle 6 nu__31))]) (va_runV (As := [.long 10815598]) (rest := []) ⟨hx, hb, hml, hown, hts⟩ ((n_needs l D k st lo a tx t0__31 we rd ru rw ca fp wd nu__31 (nI nq_32) ts df db sd ftext 10815598 8 (by first | assumption | omega) (by first | assumption | omega) (by decide) (by decide +kernel)) H.size) (cwV 1 hts (gV tw_1169 tw_1171 tw_35 tw_87 tw_1172) rfl rfl rfl (by decide +kernel) ⟨Nat.le_of_ble_eq_true rfl, Nat.le_of_ble_eq_true rfl⟩) (pV hS hAlo hlo hP hK (va_Dlo hD hAlo) hZ [1, 2] (by decide) rfl (ci := 8) (q := (RX8, TX8, 44)) (q0 := 0) rfl rfl) rfl rfl hl.1 rfl (lv_room (Nat.le_of_ble_eq_true rfl)) dX8_takeSingle_115 ⟨Nat.le_of_ble_eq_true rfl, Nat.le_of_ble_eq_true rfl⟩) hS hA hP hD [1, 2] [0] rfl rfl (by decide) (by decide) (fun r_36 u H locs hw_36 hP hD hS => ?_)
      obtain ⟨t0__36, wd__36, we__36, fp__36⟩ := u
      have hQ9 := pd_mk [(aI k (a 16) 9 (upd freadSingle 6 nu__31)), ((a 0), .inr (8, (fX8 a (nI tx) fp__36 (nI t0__36) wd__36 (nI we__36) nu__31 (nI nq_32) (nI rd) ts (nI ru) (nI rw) (nI ca) df db sd))), (aI k (a 5) 240 ftext)] hP hD
      clear hP hD
      obtain ⟨hP, hD⟩ := hQ9
      try dsimp only at hw_36
      rcases hw_36 with ⟨⟨rfl, hq_37, hfp_37⟩ | ⟨rfl, pl_37, hq_37, rfl⟩, hw_36⟩
      · replace hfp_37 := hfp_37.symm
        subst hfp_37
        refine lv_istore_n (lv' := [(3, .int 0), (2, .int 60), (0, .ref (a 0)), (1, .int 6)]) hx hb dX8_takeSingle_118 rfl hl (by decide) rfl (fun ls hl => ?_)
        refine lv_iload_n hx hb dX8_takeSingle_119 rfl (lv_at hl 0 rfl) ?_
        refine lv_if_le (tgt := 127) hx hb dX8_takeSingle_120 (by decide) (fun _ => ?_) (fun h => absurd (by decide) h)
        refine lv_aload_n hx hb dX8_takeSingle_127 rfl (lv_at hl 2 rfl) ?_
        refine lv_iconst (v := 0) hx hb dX8_takeSingle_128 (by decide) ?_
        refine lv_iconst (v := 3) hx hb dX8_takeSingle_129 (by decide) ?_
        refine rw_i (D := D) (wr := [(aI k (a 16) 9 (upd freadSingle 6 nu__31))]) (va_runV (As := [.int 0, .int 3]) (rest := []) ⟨hx, hb, hml, hown, hts⟩ ((n_takeNumber l D k st lo a tx t0__36 we__36 rd ru rw ca fp wd__36 nu__31 (nI nq_32) ts df db sd ftext 0 3 (by first | assumption | omega) (by first | assumption | omega)) H.size) (cwV 2 hts (gV tw_1159 tw_1161 tw_33 tw_87 tw_1162) rfl rfl rfl (by decide +kernel) ⟨Nat.le_of_ble_eq_true rfl, Nat.le_of_ble_eq_true rfl⟩) (pV hS hAlo hlo hP hK (va_Dlo hD hAlo) hZ [1, 2] (by decide) rfl (ci := 8) (q := (RX8, TX8, 44)) (q0 := 0) rfl rfl) rfl rfl hl.1 rfl (lv_room (Nat.le_of_ble_eq_true rfl)) dX8_takeSingle_130 ⟨Nat.le_of_ble_eq_true rfl, Nat.le_of_ble_eq_true rfl⟩) hS hA hP hD [1, 2] [0] rfl rfl (by decide) (by decide) (fun r_38 u H locs hw_38 hP hD hS => ?_)
        obtain ⟨t0__38, nu__38, na__38, fp__38⟩ := u
        have hQ9 := pd_mk [(aI k (a 16) 9 (upd freadSingle 6 nu__31)), ((a 0), .inr (8, (fX8 a (nI tx) fp__38 (nI t0__38) wd__36 (nI we__36) nu__38 na__38 (nI rd) ts (nI ru) (nI rw) (nI ca) df db sd))), (aI k (a 5) 240 ftext)] hP hD
        clear hP hD
        obtain ⟨hP, hD⟩ := hQ9
        try dsimp only at hw_38
        obtain ⟨nq_39, rfl, hq_39, hw_38⟩ := hw_38
        rcases hq_39 with ⟨rfl, hq_39, hfp_39⟩ | ⟨rfl, pl_39, hq_39, rfl⟩ | ⟨rfl, pl_39, hq_39, rfl⟩
        · replace hfp_39 := hfp_39.symm
          subst hfp_39
          refine lv_istore_n (lv' := [(3, .int 0), (2, .int 60), (0, .ref (a 0)), (1, .int 6)]) hx hb dX8_takeSingle_133 rfl hl (by decide) rfl (fun ls hl => ?_)
          refine lv_aload_n hx hb dX8_takeSingle_134 rfl (lv_at hl 2 rfl) ?_
          refine va_get (D := D) (ci := 8) (v := .ref (a 16)) (C := RX8) (T := TX8) (N := 44) hx hb hts inX8 hown hK hP 1 rfl rfl 15 (by decide) (hts _ tw_988) (fun _ h9 => h9) rfl dX8_takeSingle_135 ?_
          refine lv_bipush (v := 7) hx hb dX8_takeSingle_138 (by decide) ?_
          refine lv_aload_n hx hb dX8_takeSingle_140 rfl (lv_at hl 2 rfl) ?_
          refine va_get (D := D) (ci := 8) (v := .int nu__38) (C := RX8) (T := TX8) (N := 44) hx hb hts inX8 hown hK hP 1 rfl rfl 10 (by decide) (hts _ tw_983) (fun _ h9 => h9) rfl dX8_takeSingle_141 ?_
          refine va_iast hx hb hK hP hD hS 0 1 rfl rfl (by unfold vp_in; decide) dX8_takeSingle_144 (fun H locs hP hD hS => ?_)
          have hQ9 := pd_mk [(aI k (a 16) 9 (upd (upd freadSingle 6 nu__31) (Int32.toNatClampNeg 7) nu__38)), ((a 0), .inr (8, (fX8 a (nI tx) fp (nI t0__38) wd__36 (nI we__36) nu__38 (nI nq_39) (nI rd) ts (nI ru) (nI rw) (nI ca) df db sd))), (aI k (a 5) 240 ftext)] hP hD
          clear hP hD
          obtain ⟨hP, hD⟩ := hQ9
          have hQ9 := pd_mk [(aI k (a 16) 9 (upd (upd freadSingle 6 nu__31) 7 nu__38)), ((a 0), .inr (8, (fX8 a (nI tx) fp (nI t0__38) wd__36 (nI we__36) nu__38 (nI nq_39) (nI rd) ts (nI ru) (nI rw) (nI ca) df db sd))), (aI k (a 5) 240 ftext)] hP hD
          clear hP hD
          obtain ⟨hP, hD⟩ := hQ9
          refine lv_iload_n hx hb dX8_takeSingle_145 rfl (lv_at hl 0 rfl) ?_
          have hg1_9 := (nuR_in hq_32).2
          obtain ⟨hP9, hD9⟩ := pd_sub [((a 0), .inr (8, (fX8 a (nI tx) fp (nI t0__38) wd__36 (nI we__36) nu__38 (nI nq_39) (nI rd) ts (nI ru) (nI rw) (nI ca) df db sd))), (aI k (a 5) 240 ftext), (aI k (a 16) 9 (upd (upd freadSingle 6 nu__31) 7 nu__38))] [1, 2, 0] hP hD (by decide) rfl
          exact W.iret (v := 0) hx hb hr (fun t ht hW => ⟨⟨0, (t0__38, wd__36, we__36, fp, nu__38, (nI nq_39), (upd (upd freadSingle 6 nu__31) 7 nu__38)), rfl, ⟨.inl ⟨rfl, nu__31, nu__38, (by simp [siF, hq_32, hq_37, hq_39, (show zLE 7 = 0 from rfl), (show zMO 7 = 60 from rfl), (show decide ((7 : Nat) = 1) = false from rfl), -List.getD_eq_getElem?_getD]), by rw [if_pos rfl], rfl⟩, by omega, by omega, fun _ => by omega, fun _ => (rsOK_upd (rsOK_upd hrs 6 _ (fun h5 => absurd h5 (by omega)) (fun h7 => absurd h7 (by omega))) 7 _ (fun h5 => absurd h5 (by omega)) (fun _ => rs_in (n := 3) (by omega) (nuR_in hq_39).1))⟩, by rw [ht]; exact hP9, hD9⟩, hS.F ht⟩) hS.2.2 dX8_takeSingle_146
        · refine lv_istore_n (lv' := [(3, .int 1), (2, .int 60), (0, .ref (a 0)), (1, .int 6)]) hx hb dX8_takeSingle_133 rfl hl (by decide) rfl (fun ls hl => ?_)
          refine lv_aload_n hx hb dX8_takeSingle_134 rfl (lv_at hl 2 rfl) ?_
          refine va_get (D := D) (ci := 8) (v := .ref (a 16)) (C := RX8) (T := TX8) (N := 44) hx hb hts inX8 hown hK hP 1 rfl rfl 15 (by decide) (hts _ tw_988) (fun _ h9 => h9) rfl dX8_takeSingle_135 ?_
          refine lv_bipush (v := 7) hx hb dX8_takeSingle_138 (by decide) ?_
          refine lv_aload_n hx hb dX8_takeSingle_140 rfl (lv_at hl 2 rfl) ?_
          refine va_get (D := D) (ci := 8) (v := .int nu__38) (C := RX8) (T := TX8) (N := 44) hx hb hts inX8 hown hK hP 1 rfl rfl 10 (by decide) (hts _ tw_983) (fun _ h9 => h9) rfl dX8_takeSingle_141 ?_
          refine va_iast hx hb hK hP hD hS 0 1 rfl rfl (by unfold vp_in; decide) dX8_takeSingle_144 (fun H locs hP hD hS => ?_)
          have hQ9 := pd_mk [(aI k (a 16) 9 (upd (upd freadSingle 6 nu__31) (Int32.toNatClampNeg 7) nu__38)), ((a 0), .inr (8, (fX8 a (nI tx) (nI pl_39) (nI t0__38) wd__36 (nI we__36) nu__38 (nI nq_39) (nI rd) ts (nI ru) (nI rw) (nI ca) df db sd))), (aI k (a 5) 240 ftext)] hP hD
          clear hP hD
          obtain ⟨hP, hD⟩ := hQ9
          have hQ9 := pd_mk [(aI k (a 16) 9 (upd (upd freadSingle 6 nu__31) 7 nu__38)), ((a 0), .inr (8, (fX8 a (nI tx) (nI pl_39) (nI t0__38) wd__36 (nI we__36) nu__38 (nI nq_39) (nI rd) ts (nI ru) (nI rw) (nI ca) df db sd))), (aI k (a 5) 240 ftext)] hP hD
          clear hP hD
          obtain ⟨hP, hD⟩ := hQ9
          refine lv_iload_n hx hb dX8_takeSingle_145 rfl (lv_at hl 0 rfl) ?_
          obtain ⟨hP9, hD9⟩ := pd_sub [((a 0), .inr (8, (fX8 a (nI tx) (nI pl_39) (nI t0__38) wd__36 (nI we__36) nu__38 (nI nq_39) (nI rd) ts (nI ru) (nI rw) (nI ca) df db sd))), (aI k (a 5) 240 ftext), (aI k (a 16) 9 (upd (upd freadSingle 6 nu__31) 7 nu__38))] [1, 2, 0] hP hD (by decide) rfl
          exact W.iret (v := 1) hx hb hr (fun t ht hW => ⟨⟨1, (t0__38, wd__36, we__36, (nI pl_39), nu__38, (nI nq_39), (upd (upd freadSingle 6 nu__31) 7 nu__38)), rfl, ⟨.inr ⟨1, pl_39, rfl, by decide, by decide, by simp [siF, hq_32, hq_37, hq_39, (show zLE 7 = 0 from rfl), (show zMO 7 = 60 from rfl), (show decide ((7 : Nat) = 1) = false from rfl), -List.getD_eq_getElem?_getD], by simp [siF, hq_32, hq_37, hq_39, (show zLE 7 = 0 from rfl), (show zMO 7 = 60 from rfl), (show decide ((7 : Nat) = 1) = false from rfl), -List.getD_eq_getElem?_getD], rfl⟩, by omega, by omega, fun h => absurd h (by decide), fun h => absurd h (by decide)⟩, by rw [ht]; exact hP9, hD9⟩, hS.F ht⟩) hS.2.2 dX8_takeSingle_146
        · refine lv_istore_n (lv' := [(3, .int 2), (2, .int 60), (0, .ref (a 0)), (1, .int 6)]) hx hb dX8_takeSingle_133 rfl hl (by decide) rfl (fun ls hl => ?_)
          refine lv_aload_n hx hb dX8_takeSingle_134 rfl (lv_at hl 2 rfl) ?_
          refine va_get (D := D) (ci := 8) (v := .ref (a 16)) (C := RX8) (T := TX8) (N := 44) hx hb hts inX8 hown hK hP 1 rfl rfl 15 (by decide) (hts _ tw_988) (fun _ h9 => h9) rfl dX8_takeSingle_135 ?_
          refine lv_bipush (v := 7) hx hb dX8_takeSingle_138 (by decide) ?_
          refine lv_aload_n hx hb dX8_takeSingle_140 rfl (lv_at hl 2 rfl) ?_
          refine va_get (D := D) (ci := 8) (v := .int nu__38) (C := RX8) (T := TX8) (N := 44) hx hb hts inX8 hown hK hP 1 rfl rfl 10 (by decide) (hts _ tw_983) (fun _ h9 => h9) rfl dX8_takeSingle_141 ?_
          refine va_iast hx hb hK hP hD hS 0 1 rfl rfl (by unfold vp_in; decide) dX8_takeSingle_144 (fun H locs hP hD hS => ?_)
          have hQ9 := pd_mk [(aI k (a 16) 9 (upd (upd freadSingle 6 nu__31) (Int32.toNatClampNeg 7) nu__38)), ((a 0), .inr (8, (fX8 a (nI tx) (nI pl_39) (nI t0__38) wd__36 (nI we__36) nu__38 (nI nq_39) (nI rd) ts (nI ru) (nI rw) (nI ca) df db sd))), (aI k (a 5) 240 ftext)] hP hD
          clear hP hD
          obtain ⟨hP, hD⟩ := hQ9
          have hQ9 := pd_mk [(aI k (a 16) 9 (upd (upd freadSingle 6 nu__31) 7 nu__38)), ((a 0), .inr (8, (fX8 a (nI tx) (nI pl_39) (nI t0__38) wd__36 (nI we__36) nu__38 (nI nq_39) (nI rd) ts (nI ru) (nI rw) (nI ca) df db sd))), (aI k (a 5) 240 ftext)] hP hD
          clear hP hD
          obtain ⟨hP, hD⟩ := hQ9
          refine lv_iload_n hx hb dX8_takeSingle_145 rfl (lv_at hl 0 rfl) ?_
          obtain ⟨hP9, hD9⟩ := pd_sub [((a 0), .inr (8, (fX8 a (nI tx) (nI pl_39) (nI t0__38) wd__36 (nI we__36) nu__38 (nI nq_39) (nI rd) ts (nI ru) (nI rw) (nI ca) df db sd))), (aI k (a 5) 240 ftext), (aI k (a 16) 9 (upd (upd freadSingle 6 nu__31) 7 nu__38))] [1, 2, 0] hP hD (by decide) rfl
          exact W.iret (v := 2) hx hb hr (fun t ht hW => ⟨⟨2, (t0__38, wd__36, we__36, (nI pl_39), nu__38, (nI nq_39), (upd (upd freadSingle 6 nu__31) 7 nu__38)), rfl, ⟨.inr ⟨2, pl_39, rfl, by decide, by decide, by simp [siF, hq_32, hq_37, hq_39, (show zLE 7 = 0 from rfl), (show zMO 7 = 60 from rfl), (show decide ((7 : Nat) = 1) = false from rfl), -List.getD_eq_getElem?_getD], by simp [siF, hq_32, hq_37, hq_39, (show zLE 7 = 0 from rfl), (show zMO 7 = 60 from rfl), (show decide ((7 : Nat) = 1) = false from rfl), -List.getD_eq_getElem?_getD], rfl⟩, by omega, by omega, fun h => absurd h (by decide), fun h => absurd h (by decide)⟩, by rw [ht]; exact hP9, hD9⟩, hS.F ht⟩) hS.2.2 dX8_takeSingle_146
      · refine lv_istore_n (lv' := [(3, .int 1), (2, .int 60), (0, .ref (a 0)), (1, .int 6)]) hx hb dX8_takeSingle_118 rfl hl (by decide) rfl (fun ls hl => ?_)
        refine lv_iload_n hx hb dX8_takeSingle_119 rfl (lv_at hl 0 rfl) ?_
        refine lv_if_le (tgt := 127) hx hb dX8_takeSingle_120 (by decide) (fun h => absurd h (by decide)) (fun _ => ?_)
        refine lv_iload_n hx hb dX8_takeSingle_123 rfl (lv_at hl 0 rfl) ?_
        refine lv_goto (tgt := 133) hx hb dX8_takeSingle_124 (by decide) ?_
        refine lv_istore_n (lv' := [(3, .int 1), (2, .int 60), (0, .ref (a 0)), (1, .int 6)]) hx hb dX8_takeSingle_133 rfl hl (by decide) rfl (fun ls hl => ?_)
        refine lv_aload_n hx hb dX8_takeSingle_134 rfl (lv_at hl 2 rfl) ?_
        refine va_get (D := D) (ci := 8) (v := .ref (a 16)) (C := RX8) (T := TX8) (N := 44) hx hb hts inX8 hown hK hP 1 rfl rfl 15 (by decide) (hts _ tw_988) (fun _ h9 => h9) rfl dX8_takeSingle_135 ?_
        refine lv_bipush (v := 7) hx hb dX8_takeSingle_138 (by decide) ?_
        refine lv_aload_n hx hb dX8_takeSingle_140 rfl (lv_at hl 2 rfl) ?_
        refine va_get (D := D) (ci := 8) (v := .int nu__31) (C := RX8) (T := TX8) (N := 44) hx hb hts inX8 hown hK hP 1 rfl rfl 10 (by decide) (hts _ tw_983) (fun _ h9 => h9) rfl dX8_takeSingle_141 ?_
        refine va_iast hx hb hK hP hD hS 0 1 rfl rfl (by unfold vp_in; decide) dX8_takeSingle_144 (fun H locs hP hD hS => ?_)
        have hQ9 := pd_mk [(aI k (a 16) 9 (upd (upd freadSingle 6 nu__31) (Int32.toNatClampNeg 7) nu__31)), ((a 0), .inr (8, (fX8 a (nI tx) (nI pl_37) (nI t0__36) wd__36 (nI we__36) nu__31 (nI nq_32) (nI rd) ts (nI ru) (nI rw) (nI ca) df db sd))), (aI k (a 5) 240 ftext)] hP hD
        clear hP hD
        obtain ⟨hP, hD⟩ := hQ9
        have hQ9 := pd_mk [(aI k (a 16) 9 (upd (upd freadSingle 6 nu__31) 7 nu__31)), ((a 0), .inr (8, (fX8 a (nI tx) (nI pl_37) (nI t0__36) wd__36 (nI we__36) nu__31 (nI nq_32) (nI rd) ts (nI ru) (nI rw) (nI ca) df db sd))), (aI k (a 5) 240 ftext)] hP hD
        clear hP hD
        obtain ⟨hP, hD⟩ := hQ9
        refine lv_iload_n hx hb dX8_takeSingle_145 rfl (lv_at hl 0 rfl) ?_
        obtain ⟨hP9, hD9⟩ := pd_sub [((a 0), .inr (8, (fX8 a (nI tx) (nI pl_37) (nI t0__36) wd__36 (nI we__36) nu__31 (nI nq_32) (nI rd) ts (nI ru) (nI rw) (nI ca) df db sd))), (aI k (a 5) 240 ftext), (aI k (a 16) 9 (upd (upd freadSingle 6 nu__31) 7 nu__31))] [1, 2, 0] hP hD (by decide) rfl
        exact W.iret (v := 1) hx hb hr (fun t ht hW => ⟨⟨1, (t0__36, wd__36, we__36, (nI pl_37), nu__31, (nI nq_32), (upd (upd freadSingle 6 nu__31) 7 nu__31)), rfl, ⟨.inr ⟨1, pl_37, rfl, by decide, by decide, by simp [siF, hq_32, hq_37, (show zLE 7 = 0 from rfl), (show zMO 7 = 60 from rfl), (show decide ((7 : Nat) = 1) = false from rfl), -List.getD_eq_getElem?_getD], by simp [siF, hq_32, hq_37, (show zLE 7 = 0 from rfl), (show zMO 7 = 60 from rfl), (show decide ((7 : Nat) = 1) = false from rfl), -List.getD_eq_getElem?_getD], rfl⟩, by omega, by omega, fun h => absurd h (by decide), fun h => absurd h (by decide)⟩, by rw [ht]; exact hP9, hD9⟩, hS.F ht⟩) hS.2.2 dX8_takeSingle_146
    · refine lv_istore_n (lv' := [(3, .int 1), (2, .int 60), (0, .ref (a 0)), (1, .int 6)]) hx hb dX8_takeSingle_75 rfl hl (by decide) rfl (fun ls hl => ?_)
      refine lv_aload_n hx hb dX8_takeSingle_76 rfl (lv_at hl 2 rfl) ?_
      refine va_get (D := D) (ci := 8) (v := .ref (a 16)) (C := RX8) (T := TX8) (N := 44) hx hb hts inX8 hown hK hP 1 rfl rfl 15 (by decide) (hts _ tw_988) (fun _ h9 => h9) rfl dX8_takeSingle_77 ?_
      refine lv_iload_n hx hb dX8_takeSingle_80 rfl (lv_at hl 3 rfl) ?_
      refine lv_aload_n hx hb dX8_takeSingle_81 rfl (lv_at hl 2 rfl) ?_
      refine va_get (D := D) (ci := 8) (v := .int nu__31) (C := RX8) (T := TX8) (N := 44) hx hb hts inX8 hown hK hP 1 rfl rfl 10 (by decide) (hts _ tw_983) (fun _ h9 => h9) rfl dX8_takeSingle_82 ?_
      refine va_iast hx hb hK hP hD hS 0 1 rfl rfl (by unfold vp_in; decide) dX8_takeSingle_85 (fun H locs hP hD hS => ?_)
      have hQ9 := pd_mk [(aI k (a 16) 9 (upd freadSingle (Int32.toNatClampNeg 6) nu__31)), ((a 0), .inr (8, (fX8 a (nI tx) (nI pl_32) (nI t0__31) wd (nI we) nu__31 (nI nq_32) (nI rd) ts (nI ru) (nI rw) (nI ca) df db sd))), (aI k (a 5) 240 ftext)] hP hD
      clear hP hD
      obtain ⟨hP, hD⟩ := hQ9
      have hQ9 := pd_mk [(aI k (a 16) 9 (upd freadSingle 6 nu__31)), ((a 0), .inr (8, (fX8 a (nI tx) (nI pl_32) (nI t0__31) wd (nI we) nu__31 (nI nq_32) (nI rd) ts (nI ru) (nI rw) (nI ca) df db sd))), (aI k (a 5) 240 ftext)] hP hD
      clear hP hD
      obtain ⟨hP, hD⟩ := hQ9
      refine lv_iload_n hx hb dX8_takeSingle_86 rfl (lv_at hl 0 rfl) ?_
      refine lv_if_gt (tgt := 96) hx hb dX8_takeSingle_87 (by decide) (fun _ => ?_) (fun h => absurd (by decide) h)
      refine lv_iload_n hx hb dX8_takeSingle_96 rfl (lv_at hl 0 rfl) ?_
      obtain ⟨hP9, hD9⟩ := pd_sub [((a 0), .inr (8, (fX8 a (nI tx) (nI pl_32) (nI t0__31) wd (nI we) nu__31 (nI nq_32) (nI rd) ts (nI ru) (nI rw) (nI ca) df db sd))), (aI k (a 5) 240 ftext), (aI k (a 16) 9 (upd freadSingle 6 nu__31))] [1, 2, 0] hP hD (by decide) rfl
      exact W.iret (v := 1) hx hb hr (fun t ht hW => ⟨⟨1, (t0__31, wd, we, (nI pl_32), nu__31, (nI nq_32), (upd freadSingle 6 nu__31)), rfl, ⟨.inr ⟨1, pl_32, rfl, by decide, by decide, by simp [siF, hq_32, (show zLE 7 = 0 from rfl), (show zMO 7 = 60 from rfl), (show decide ((7 : Nat) = 1) = false from rfl), -List.getD_eq_getElem?_getD], by simp [siF, hq_32, (show zLE 7 = 0 from rfl), (show zMO 7 = 60 from rfl), (show decide ((7 : Nat) = 1) = false from rfl), -List.getD_eq_getElem?_getD], rfl⟩, by omega, by omega, fun h => absurd h (by decide), fun h => absurd h (by decide)⟩, by rw [ht]; exact hP9, hD9⟩, hS.F ht⟩) hS.2.2 dX8_takeSingle_97
    · refine lv_istore_n (lv' := [(3, .int 2), (2, .int 60), (0, .ref (a 0)), (1, .int 6)]) hx hb dX8_takeSingle_75 rfl hl (by decide) rfl (fun ls hl => ?_)
      refine lv_aload_n hx hb dX8_takeSingle_76 rfl (lv_at hl 2 rfl) ?_
      refine va_get (D := D) (ci := 8) (v := .ref (a 16)) (C := RX8) (T := TX8) (N := 44) hx hb hts inX8 hown hK hP 1 rfl rfl 15 (by decide) (hts _ tw_988) (fun _ h9 => h9) rfl dX8_takeSingle_77 ?_
      refine lv_iload_n hx hb dX8_takeSingle_80 rfl (lv_at hl 3 rfl) ?_
      refine lv_aload_n hx hb dX8_takeSingle_81 rfl (lv_at hl 2 rfl) ?_
      refine va_get (D := D) (ci := 8) (v := .int nu__31) (C := RX8) (T := TX8) (N := 44) hx hb hts inX8 hown hK hP 1 rfl rfl 10 (by decide) (hts _ tw_983) (fun _ h9 => h9) rfl dX8_takeSingle_82 ?_
      refine va_iast hx hb hK hP hD hS 0 1 rfl rfl (by unfold vp_in; decide) dX8_takeSingle_85 (fun H locs hP hD hS => ?_)
      have hQ9 := pd_mk [(aI k (a 16) 9 (upd freadSingle (Int32.toNatClampNeg 6) nu__31)), ((a 0), .inr (8, (fX8 a (nI tx) (nI pl_32) (nI t0__31) wd (nI we) nu__31 (nI nq_32) (nI rd) ts (nI ru) (nI rw) (nI ca) df db sd))), (aI k (a 5) 240 ftext)] hP hD
      clear hP hD
      obtain ⟨hP, hD⟩ := hQ9
      have hQ9 := pd_mk [(aI k (a 16) 9 (upd freadSingle 6 nu__31)), ((a 0), .inr (8, (fX8 a (nI tx) (nI pl_32) (nI t0__31) wd (nI we) nu__31 (nI nq_32) (nI rd) ts (nI ru) (nI rw) (nI ca) df db sd))), (aI k (a 5) 240 ftext)] hP hD
      clear hP hD
      obtain ⟨hP, hD⟩ := hQ9
      refine lv_iload_n hx hb dX8_takeSingle_86 rfl (lv_at hl 0 rfl) ?_
      refine lv_if_gt (tgt := 96) hx hb dX8_takeSingle_87 (by decide) (fun _ => ?_) (fun h => absurd (by decide) h)
      refine lv_iload_n hx hb dX8_takeSingle_96 rfl (lv_at hl 0 rfl) ?_
      obtain ⟨hP9, hD9⟩ := pd_sub [((a 0), .inr (8, (fX8 a (nI tx) (nI pl_32) (nI t0__31) wd (nI we) nu__31 (nI nq_32) (nI rd) ts (nI ru) (nI rw) (nI ca) df db sd))), (aI k (a 5) 240 ftext), (aI k (a 16) 9 (upd freadSingle 6 nu__31))] [1, 2, 0] hP hD (by decide) rfl
      exact W.iret (v := 2) hx hb hr (fun t ht hW => ⟨⟨2, (t0__31, wd, we, (nI pl_32), nu__31, (nI nq_32), (upd freadSingle 6 nu__31)), rfl, ⟨.inr ⟨2, pl_32, rfl, by decide, by decide, by simp [siF, hq_32, (show zLE 7 = 0 from rfl), (show zMO 7 = 60 from rfl), (show decide ((7 : Nat) = 1) = false from rfl), -List.getD_eq_getElem?_getD], by simp [siF, hq_32, (show zLE 7 = 0 from rfl), (show zMO 7 = 60 from rfl), (show decide ((7 : Nat) = 1) = false from rfl), -List.getD_eq_getElem?_getD], rfl⟩, by omega, by omega, fun h => absurd h (by decide), fun h => absurd h (by decide)⟩, by rw [ht]; exact hP9, hD9⟩, hS.F ht⟩) hS.2.2 dX8_takeSingle_97
  · refine lv_iload_n hx hb dX8_takeSingle_0 rfl (lv_at hl 1 rfl) ?_
    refine lv_if_ne (tgt := 23) hx hb dX8_takeSingle_1 (by decide) (fun _ => ?_) (fun h => absurd h (by decide))
    refine lv_iload_n hx hb dX8_takeSingle_23 rfl (lv_at hl 1 rfl) ?_
    refine lv_iconst (v := 4) hx hb dX8_takeSingle_24 (by decide) ?_
    refine lv_icmp_ne (tgt := 34) hx hb dX8_takeSingle_25 (by decide) (fun _ => ?_) (fun h => absurd h (by decide))
    refine lv_iload_n hx hb dX8_takeSingle_34 rfl (lv_at hl 1 rfl) ?_
    refine lv_iconst (v := 5) hx hb dX8_takeSingle_35 (by decide) ?_
    refine lv_icmp_ne (tgt := 43) hx hb dX8_takeSingle_36 (by decide) (fun _ => ?_) (fun h => absurd h (by decide))
    refine lv_iload_n hx hb dX8_takeSingle_43 rfl (lv_at hl 1 rfl) ?_
    refine lv_bipush (v := 6) hx hb dX8_takeSingle_44 (by decide) ?_
    refine lv_icmp_ne (tgt := 54) hx hb dX8_takeSingle_46 (by decide) (fun _ => ?_) (fun h => absurd h (by decide))
    refine lv_iload_n hx hb dX8_takeSingle_54 rfl (lv_at hl 1 rfl) ?_
    refine lv_bipush (v := 8) hx hb dX8_takeSingle_55 (by decide) ?_
    refine lv_icmp_ne (tgt := 66) hx hb dX8_takeSingle_57 (by decide) (fun h => absurd (by decide) h) (fun _ => ?_)
    refine lv_sipush (v := 999) hx hb dX8_takeSingle_60 (by decide) ?_
    refine lv_goto (tgt := 68) hx hb dX8_takeSingle_63 (by decide) ?_
    refine lv_istore_n (lv' := [(2, .int 999), (0, .ref (a 0)), (1, .int 8)]) hx hb dX8_takeSingle_68 rfl hl (by decide) rfl (fun ls hl => ?_)
    refine lv_aload_n hx hb dX8_takeSingle_69 rfl (lv_at hl 1 rfl) ?_
    refine lv_iconst (v := 0) hx hb dX8_takeSingle_70 (by decide) ?_
    refine lv_iload_n hx hb dX8_takeSingle_71 rfl (lv_at hl 0 rfl) ?_
    refine rw_i (D := D) (wr := [(aI k (a 16) 9 freadSingle)]) (va_runV (As := [.int 0, .int 999]) (rest := []) ⟨hx, hb, hml, hown, hts⟩ ((n_takeNumber l D k st lo a tx t0 we rd ru rw ca fp wd nu na ts df db sd ftext 0 999 (by first | assumption | omega) (by first | assumption | omega)) s.heap.size) (cwV 2 hts (gV tw_1159 tw_1161 tw_33 tw_87 tw_1162) rfl rfl rfl (by decide +kernel) ⟨Nat.le_of_ble_eq_true rfl, Nat.le_of_ble_eq_true rfl⟩) (pV hS hAlo hlo hP hK (va_Dlo hD hAlo) hZ [0, 1] (by decide) rfl (ci := 8) (q := (RX8, TX8, 44)) (q0 := 0) rfl rfl) rfl rfl hl.1 rfl (lv_room (Nat.le_of_ble_eq_true rfl)) dX8_takeSingle_72 ⟨Nat.le_of_ble_eq_true rfl, Nat.le_of_ble_eq_true rfl⟩) hS hA hP hD [0, 1] [2] rfl rfl (by decide) (by decide) (fun r_46 u H locs hw_46 hP hD hS => ?_)
    obtain ⟨t0__46, nu__46, na__46, fp__46⟩ := u
    have hQ9 := pd_mk [(aI k (a 16) 9 freadSingle), ((a 0), .inr (8, (fX8 a (nI tx) fp__46 (nI t0__46) wd (nI we) nu__46 na__46 (nI rd) ts (nI ru) (nI rw) (nI ca) df db sd))), (aI k (a 5) 240 ftext)] hP hD
    clear hP hD
    obtain ⟨hP, hD⟩ := hQ9
    try dsimp only at hw_46
    obtain ⟨nq_47, rfl, hq_47, hw_46⟩ := hw_46
    rcases hq_47 with ⟨rfl, hq_47, hfp_47⟩ | ⟨rfl, pl_47, hq_47, rfl⟩ | ⟨rfl, pl_47, hq_47, rfl⟩
    · replace hfp_47 := hfp_47.symm
      subst hfp_47
      refine lv_istore_n (lv' := [(3, .int 0), (2, .int 999), (0, .ref (a 0)), (1, .int 8)]) hx hb dX8_takeSingle_75 rfl hl (by decide) rfl (fun ls hl => ?_)
      refine lv_aload_n hx hb dX8_takeSingle_76 rfl (lv_at hl 2 rfl) ?_
      refine va_get (D := D) (ci := 8) (v := .ref (a 16)) (C := RX8) (T := TX8) (N := 44) hx hb hts inX8 hown hK hP 1 rfl rfl 15 (by decide) (hts _ tw_988) (fun _ h9 => h9) rfl dX8_takeSingle_77 ?_
      refine lv_iload_n hx hb dX8_takeSingle_80 rfl (lv_at hl 3 rfl) ?_
      refine lv_aload_n hx hb dX8_takeSingle_81 rfl (lv_at hl 2 rfl) ?_
      refine va_get (D := D) (ci := 8) (v := .int nu__46) (C := RX8) (T := TX8) (N := 44) hx hb hts inX8 hown hK hP 1 rfl rfl 10 (by decide) (hts _ tw_983) (fun _ h9 => h9) rfl dX8_takeSingle_82 ?_
      refine va_iast hx hb hK hP hD hS 0 1 rfl rfl (by unfold vp_in; decide) dX8_takeSingle_85 (fun H locs hP hD hS => ?_)
      have hQ9 := pd_mk [(aI k (a 16) 9 (upd freadSingle (Int32.toNatClampNeg 8) nu__46)), ((a 0), .inr (8, (fX8 a (nI tx) fp (nI t0__46) wd (nI we) nu__46 (nI nq_47) (nI rd) ts (nI ru) (nI rw) (nI ca) df db sd))), (aI k (a 5) 240 ftext)] hP hD
      clear hP hD
      obtain ⟨hP, hD⟩ := hQ9
      have hQ9 := pd_mk [(aI k (a 16) 9 (upd freadSingle 8 nu__46)), ((a 0), .inr (8, (fX8 a (nI tx) fp (nI t0__46) wd (nI we) nu__46 (nI nq_47) (nI rd) ts (nI ru) (nI rw) (nI ca) df db sd))), (aI k (a 5) 240 ftext)] hP hD
      clear hP hD
      obtain ⟨hP, hD⟩ := hQ9
      refine lv_iload_n hx hb dX8_takeSingle_86 rfl (lv_at hl 0 rfl) ?_
      refine lv_if_gt (tgt := 96) hx hb dX8_takeSingle_87 (by decide) (fun h => absurd h (by decide)) (fun _ => ?_)
      refine lv_iload_n hx hb dX8_takeSingle_90 rfl (lv_at hl 3 rfl) ?_
      refine lv_bipush (v := 6) hx hb dX8_takeSingle_91 (by decide) ?_
      refine lv_icmp_eq (tgt := 98) hx hb dX8_takeSingle_93 (by decide) (fun h => absurd h (by decide)) (fun _ => ?_)
      refine lv_iload_n hx hb dX8_takeSingle_96 rfl (lv_at hl 0 rfl) ?_
      have hg1_9 := (nuR_in hq_47).2
      obtain ⟨hP9, hD9⟩ := pd_sub [((a 0), .inr (8, (fX8 a (nI tx) fp (nI t0__46) wd (nI we) nu__46 (nI nq_47) (nI rd) ts (nI ru) (nI rw) (nI ca) df db sd))), (aI k (a 5) 240 ftext), (aI k (a 16) 9 (upd freadSingle 8 nu__46))] [1, 2, 0] hP hD (by decide) rfl
      exact W.iret (v := 0) hx hb hr (fun t ht hW => ⟨⟨0, (t0__46, wd, we, fp, nu__46, (nI nq_47), (upd freadSingle 8 nu__46)), rfl, ⟨.inl ⟨rfl, nu__46, 0, (by simp [siF, hq_47, (show zLE 9 = 0 from rfl), (show zMO 9 = 999 from rfl), (show decide ((9 : Nat) = 1) = false from rfl), -List.getD_eq_getElem?_getD]), by rw [if_neg (by decide)], rfl⟩, by omega, by omega, fun _ => by omega, fun _ => (rsOK_upd hrs 8 _ (fun h5 => absurd h5 (by omega)) (fun h7 => absurd h7 (by omega)))⟩, by rw [ht]; exact hP9, hD9⟩, hS.F ht⟩) hS.2.2 dX8_takeSingle_97
    · refine lv_istore_n (lv' := [(3, .int 1), (2, .int 999), (0, .ref (a 0)), (1, .int 8)]) hx hb dX8_takeSingle_75 rfl hl (by decide) rfl (fun ls hl => ?_)
      refine lv_aload_n hx hb dX8_takeSingle_76 rfl (lv_at hl 2 rfl) ?_
      refine va_get (D := D) (ci := 8) (v := .ref (a 16)) (C := RX8) (T := TX8) (N := 44) hx hb hts inX8 hown hK hP 1 rfl rfl 15 (by decide) (hts _ tw_988) (fun _ h9 => h9) rfl dX8_takeSingle_77 ?_
      refine lv_iload_n hx hb dX8_takeSingle_80 rfl (lv_at hl 3 rfl) ?_
      refine lv_aload_n hx hb dX8_takeSingle_81 rfl (lv_at hl 2 rfl) ?_
      refine va_get (D := D) (ci := 8) (v := .int nu__46) (C := RX8) (T := TX8) (N := 44) hx hb hts inX8 hown hK hP 1 rfl rfl 10 (by decide) (hts _ tw_983) (fun _ h9 => h9) rfl dX8_takeSingle_82 ?_
      refine va_iast hx hb hK hP hD hS 0 1 rfl rfl (by unfold vp_in; decide) dX8_takeSingle_85 (fun H locs hP hD hS => ?_)
      have hQ9 := pd_mk [(aI k (a 16) 9 (upd freadSingle (Int32.toNatClampNeg 8) nu__46)), ((a 0), .inr (8, (fX8 a (nI tx) (nI pl_47) (nI t0__46) wd (nI we) nu__46 (nI nq_47) (nI rd) ts (nI ru) (nI rw) (nI ca) df db sd))), (aI k (a 5) 240 ftext)] hP hD
      clear hP hD
      obtain ⟨hP, hD⟩ := hQ9
      have hQ9 := pd_mk [(aI k (a 16) 9 (upd freadSingle 8 nu__46)), ((a 0), .inr (8, (fX8 a (nI tx) (nI pl_47) (nI t0__46) wd (nI we) nu__46 (nI nq_47) (nI rd) ts (nI ru) (nI rw) (nI ca) df db sd))), (aI k (a 5) 240 ftext)] hP hD
      clear hP hD
      obtain ⟨hP, hD⟩ := hQ9
      refine lv_iload_n hx hb dX8_takeSingle_86 rfl (lv_at hl 0 rfl) ?_
      refine lv_if_gt (tgt := 96) hx hb dX8_takeSingle_87 (by decide) (fun _ => ?_) (fun h => absurd (by decide) h)
      refine lv_iload_n hx hb dX8_takeSingle_96 rfl (lv_at hl 0 rfl) ?_
      obtain ⟨hP9, hD9⟩ := pd_sub [((a 0), .inr (8, (fX8 a (nI tx) (nI pl_47) (nI t0__46) wd (nI we) nu__46 (nI nq_47) (nI rd) ts (nI ru) (nI rw) (nI ca) df db sd))), (aI k (a 5) 240 ftext), (aI k (a 16) 9 (upd freadSingle 8 nu__46))] [1, 2, 0] hP hD (by decide) rfl
      exact W.iret (v := 1) hx hb hr (fun t ht hW => ⟨⟨1, (t0__46, wd, we, (nI pl_47), nu__46, (nI nq_47), (upd freadSingle 8 nu__46)), rfl, ⟨.inr ⟨1, pl_47, rfl, by decide, by decide, by simp [siF, hq_47, (show zLE 9 = 0 from rfl), (show zMO 9 = 999 from rfl), (show decide ((9 : Nat) = 1) = false from rfl), -List.getD_eq_getElem?_getD], by simp [siF, hq_47, (show zLE 9 = 0 from rfl), (show zMO 9 = 999 from rfl), (show decide ((9 : Nat) = 1) = false from rfl), -List.getD_eq_getElem?_getD], rfl⟩, by omega, by omega, fun h => absurd h (by decide), fun h => absurd h (by decide)⟩, by rw [ht]; exact hP9, hD9⟩, hS.F ht⟩) hS.2.2 dX8_takeSingle_97
    · refine lv_istore_n (lv' := [(3, .int 2), (2, .int 999), (0, .ref (a 0)), (1, .int 8)]) hx hb dX8_takeSingle_75 rfl hl (by decide) rfl (fun ls hl => ?_)
      refine lv_aload_n hx hb dX8_takeSingle_76 rfl (lv_at hl 2 rfl) ?_
      refine va_get (D := D) (ci := 8) (v := .ref (a 16)) (C := RX8) (T := TX8) (N := 44) hx hb hts inX8 hown hK hP 1 rfl rfl 15 (by decide) (hts _ tw_988) (fun _ h9 => h9) rfl dX8_takeSingle_77 ?_
      refine lv_iload_n hx hb dX8_takeSingle_80 rfl (lv_at hl 3 rfl) ?_
      refine lv_aload_n hx hb dX8_takeSingle_81 rfl (lv_at hl 2 rfl) ?_
      refine va_get (D := D) (ci := 8) (v := .int nu__46) (C := RX8) (T := TX8) (N := 44) hx hb hts inX8 hown hK hP 1 rfl rfl 10 (by decide) (hts _ tw_983) (fun _ h9 => h9) rfl dX8_takeSingle_82 ?_
      refine va_iast hx hb hK hP hD hS 0 1 rfl rfl (by unfold vp_in; decide) dX8_takeSingle_85 (fun H locs hP hD hS => ?_)
      have hQ9 := pd_mk [(aI k (a 16) 9 (upd freadSingle (Int32.toNatClampNeg 8) nu__46)), ((a 0), .inr (8, (fX8 a (nI tx) (nI pl_47) (nI t0__46) wd (nI we) nu__46 (nI nq_47) (nI rd) ts (nI ru) (nI rw) (nI ca) df db sd))), (aI k (a 5) 240 ftext)] hP hD
      clear hP hD
      obtain ⟨hP, hD⟩ := hQ9
      have hQ9 := pd_mk [(aI k (a 16) 9 (upd freadSingle 8 nu__46)), ((a 0), .inr (8, (fX8 a (nI tx) (nI pl_47) (nI t0__46) wd (nI we) nu__46 (nI nq_47) (nI rd) ts (nI ru) (nI rw) (nI ca) df db sd))), (aI k (a 5) 240 ftext)] hP hD
      clear hP hD
      obtain ⟨hP, hD⟩ := hQ9
      refine lv_iload_n hx hb dX8_takeSingle_86 rfl (lv_at hl 0 rfl) ?_
      refine lv_if_gt (tgt := 96) hx hb dX8_takeSingle_87 (by decide) (fun _ => ?_) (fun h => absurd (by decide) h)
      refine lv_iload_n hx hb dX8_takeSingle_96 rfl (lv_at hl 0 rfl) ?_
      obtain ⟨hP9, hD9⟩ := pd_sub [((a 0), .inr (8, (fX8 a (nI tx) (nI pl_47) (nI t0__46) wd (nI we) nu__46 (nI nq_47) (nI rd) ts (nI ru) (nI rw) (nI ca) df db sd))), (aI k (a 5) 240 ftext), (aI k (a 16) 9 (upd freadSingle 8 nu__46))] [1, 2, 0] hP hD (by decide) rfl
      exact W.iret (v := 2) hx hb hr (fun t ht hW => ⟨⟨2, (t0__46, wd, we, (nI pl_47), nu__46, (nI nq_47), (upd freadSingle 8 nu__46)), rfl, ⟨.inr ⟨2, pl_47, rfl, by decide, by decide, by simp [siF, hq_47, (show zLE 9 = 0 from rfl), (show zMO 9 = 999 from rfl), (show decide ((9 : Nat) = 1) = false from rfl), -List.getD_eq_getElem?_getD], by simp [siF, hq_47, (show zLE 9 = 0 from rfl), (show zMO 9 = 999 from rfl), (show decide ((9 : Nat) = 1) = false from rfl), -List.getD_eq_getElem?_getD], rfl⟩, by omega, by omega, fun h => absurd h (by decide), fun h => absurd h (by decide)⟩, by rw [ht]; exact hP9, hD9⟩, hS.F ht⟩) hS.2.2 dX8_takeSingle_97

theorem f_glueP8 : True := trivial


set_option maxHeartbeats 4000000 in
set_option maxRecDepth 100000 in
theorem n_takeClause (l : Launch) (D : va_G) (k : Nat → ClassId) (st : Nat → Nat) (lo : Nat) (a : Nat → Nat) (tx : Nat) (t0 : Nat) (we : Nat) (rd : Nat) (ru : Nat) (rw : Nat) (ca : Nat) (fp : Int32) (wd : Int64) (nu : Int32) (na : Int32) (ts : Int32) (df : Int32) (db : Int32) (sd : Int32) (ftext : Nat → Int32) (freadFree : Nat → Int32) (freadPrice : Nat → Int32) (freadSingle : Nat → Int32) (ht : t0 ≤ tx) (htx : tx ≤ 240) (hrd : rd ≤ 24) (hrs : rsOK freadSingle) : CWi l D k st lo yX8_takeClause cX8_takeClause 4 (some .int) ({ frames := 4, cells := 0, slots := 0, locals := 98 }) 0 0 [.ref (a 0)] [((a 0), .inr (8, (fX8 a (nI tx) fp (nI t0) wd (nI we) nu na (nI rd) ts (nI ru) (nI rw) (nI ca) df db sd))), (aI k (a 5) 240 ftext), (aI k (a 14) 24 freadFree), (aI k (a 15) 24 freadPrice), (aI k (a 16) 9 freadSingle)] (fun (r : Int32) (u : Nat × Int64 × Nat × Int32 × Int32 × Int32 × Nat × Int32 × (Nat → Int32) × (Nat → Int32) × (Nat → Int32)) => match u with | (t0_, wd_, we_, fp_, nu_, na_, rd_, ts_, freadFree_, freadPrice_, freadSingle_) => ((r = 0 ∧ clF ftext tx t0 (stM rd freadSingle freadFree freadPrice ts) = (0, 0, t0_, stM rd_ freadSingle_ freadFree_ freadPrice_ ts_) ∧ fp_ = fp) ∨ (∃ e pl : Nat, r = nI e ∧ 1 ≤ e ∧ e ≤ 4 ∧ (clF ftext tx t0 (stM rd freadSingle freadFree freadPrice ts)).1 = e ∧ (clF ftext tx t0 (stM rd freadSingle freadFree freadPrice ts)).2.1 = pl ∧ fp_ = nI pl)) ∧ t0 ≤ t0_ ∧ t0_ ≤ tx ∧ rd_ ≤ 24 ∧ (r = 0 → t0 < t0_) ∧ (r = 0 → rsOK freadSingle_)) (fun (u : Nat × Int64 × Nat × Int32 × Int32 × Int32 × Nat × Int32 × (Nat → Int32) × (Nat → Int32) × (Nat → Int32)) => match u with | (t0_, wd_, we_, fp_, nu_, na_, rd_, ts_, freadFree_, freadPrice_, freadSingle_) => [((a 0), .inr (8, (fX8 a (nI tx) fp_ (nI t0_) wd_ (nI we_) nu_ na_ (nI rd_) ts_ (nI ru) (nI rw) (nI ca) df db sd))), (aI k (a 5) 240 ftext), (aI k (a 14) 24 freadFree_), (aI k (a 15) 24 freadPrice_), (aI k (a 16) 9 freadSingle_)]) := by
  intro sz
  refine Met.ofW (cc := cX8_takeClause) (maxL := 4) (ret := (some .int)) (by decide) rfl ?_
  intro p e s m args below meth c s₁ B hml hv
  obtain ⟨rfl, hsz, hlo, hP, hK, hDL, hZ⟩ := hv
  have hx := B.exec
  have hb := B.bytes
  have hr := B.returns
  have hts := WS_ts B.pre
  have hown : s.vm.findClass RX8 = some m.cls := findClass_of_methodNamed B.named
  have hlocks := B.notSynchronized
  subst hsz
  have hD := hDL.self (sz := s.heap.size)
  have hAlo := A_lo hDL hlo
  generalize hAe : va_A [((a 0), .inr (8, (fX8 a (nI tx) fp (nI t0) wd (nI we) nu na (nI rd) ts (nI ru) (nI rw) (nI ca) df db sd))), (aI k (a 5) 240 ftext), (aI k (a 14) 24 freadFree), (aI k (a 15) 24 freadPrice), (aI k (a 16) 9 freadSingle)] s.heap.size = A at hD hAlo ⊢
  have hA : ∀ q : Nat, s.heap.size ≤ q → A q := fun q h => by rw [← hAe]; exact Or.inr h
  have hS : va_S A s.heap s.heap [] := va_S.rf
  have hl := lv_entry ([.ref (a 0)]) (n := 4) (Nat.le_of_ble_eq_true rfl)
  rw [lg_entry_eq]
  generalize (lg_sl ([.ref (a 0)]) ++ List.replicate (4 - (lg_sl ([.ref (a 0)])).length) Slot.unset).toArray = ls at hl ⊢
  have hl : lv_has ls 4 [(0, .ref (a 0))] := hl
  refine lv_aload_n hx hb dX8_takeClause_0 rfl (lv_at hl 0 rfl) ?_
  refine rw_v (D := D) (wr := [(aI k (a 14) 24 freadFree), (aI k (a 15) 24 freadPrice), (aI k (a 16) 9 freadSingle)]) (va_runV (As := []) (rest := []) ⟨hx, hb, hml, hown, hts⟩ ((n_readWord l D k st lo a tx t0 we rd ru rw ca fp wd nu na ts df db sd ftext (by first | assumption | omega) (by first | assumption | omega)) s.heap.size) (cwV 0 hts (gV tw_1128 tw_1130 tw_29 tw_87 tw_1131) rfl rfl rfl (by decide +kernel) ⟨Nat.le_of_ble_eq_true rfl, Nat.le_of_ble_eq_true rfl⟩) (pV hS hAlo hlo hP hK (va_Dlo hD hAlo) hZ [0, 1] (by decide) rfl (ci := 8) (q := (RX8, TX8, 44)) (q0 := 0) rfl rfl) rfl rfl hl.1 rfl (lv_room (Nat.le_of_ble_eq_true rfl)) dX8_takeClause_1 ⟨Nat.le_of_ble_eq_true rfl, Nat.le_of_ble_eq_true rfl⟩) hS hA hP hD [0, 1] [2, 3, 4] rfl rfl (by decide) (by decide) (fun u H locs hw_1 hP hD hS => ?_)
  obtain ⟨t0__1, wd__1, we__1⟩ := u
  have hQ9 := pd_mk [(aI k (a 14) 24 freadFree), (aI k (a 15) 24 freadPrice), (aI k (a 16) 9 freadSingle), ((a 0), .inr (8, (fX8 a (nI tx) fp (nI t0__1) wd__1 (nI we__1) nu na (nI rd) ts (nI ru) (nI rw) (nI ca) df db sd))), (aI k (a 5) 240 ftext)] hP hD
  clear hP hD
  obtain ⟨hP, hD⟩ := hQ9
  try dsimp only at hw_1
  refine lv_aload_n hx hb dX8_takeClause_4 rfl (lv_at hl 0 rfl) ?_
  refine ro_i (D := D) (va_runV (As := []) (rest := []) ⟨hx, hb, hml, hown, hts⟩ ((n_clauseOf l D k st lo a tx t0__1 we__1 rd ru rw ca fp wd__1 nu na ts df db sd) H.size) (cwV 0 hts (gV tw_1138 tw_1140 tw_30 tw_87 tw_1141) rfl rfl rfl (by decide +kernel) ⟨Nat.le_of_ble_eq_true rfl, Nat.le_of_ble_eq_true rfl⟩) (pV hS hAlo hlo hP hK (va_Dlo hD hAlo) hZ [3] (by decide) rfl (ci := 8) (q := (RX8, TX8, 44)) (q0 := 0) rfl rfl) rfl rfl hl.1 rfl (lv_room (Nat.le_of_ble_eq_true rfl)) dX8_takeClause_5 ⟨Nat.le_of_ble_eq_true rfl, Nat.le_of_ble_eq_true rfl⟩) hS hA hP (fun r_2 H locs hw_2 hP hS => ?_)
  try dsimp only at hw_2
  rcases kwsp (L := letA ftext tx t0__1) (hw_2.trans ((fM_clq _).trans (by rw [hw_1.2.2.1]; exact clQ_kw letA_all))) with ⟨hk_3, rfl⟩ | ⟨hk_3, rfl⟩ | ⟨cl_3, hc1_3, hc2_3, hk_3, rfl⟩
  · have hT_3 := hw_1.2.1
    rw [hw_1.1] at hk_3 hT_3
    refine lv_istore_n (lv' := [(1, .int (-1)), (0, .ref (a 0))]) hx hb dX8_takeClause_8 rfl hl (by decide) rfl (fun ls hl => ?_)
    refine lv_iload_n hx hb dX8_takeClause_9 rfl (lv_at hl 0 rfl) ?_
    refine lv_if_lt (tgt := 35) hx hb dX8_takeClause_10 (by decide) (fun _ => ?_) (fun h => absurd (by decide) h)
    refine lv_iconst (v := 0) hx hb dX8_takeClause_35 (by decide) ?_
    refine lv_istore_n (lv' := [(2, .int 0), (1, .int (-1)), (0, .ref (a 0))]) hx hb dX8_takeClause_36 rfl hl (by decide) rfl (fun ls hl => ?_)
    refine lv_iload_n hx hb dX8_takeClause_37 rfl (lv_at hl 1 rfl) ?_
    refine lv_if_lt (tgt := 45) hx hb dX8_takeClause_38 (by decide) (fun _ => ?_) (fun h => absurd (by decide) h)
    refine lv_aload_n hx hb dX8_takeClause_45 rfl (lv_at hl 2 rfl) ?_
    refine lv_iload_n hx hb dX8_takeClause_46 rfl (lv_at hl 1 rfl) ?_
    refine lv_if_ge (tgt := 54) hx hb dX8_takeClause_47 (by decide) (fun h => absurd h (by decide)) (fun _ => ?_)
    refine lv_iconst (v := 1) hx hb dX8_takeClause_50 (by decide) ?_
    refine lv_goto (tgt := 55) hx hb dX8_takeClause_51 (by decide) ?_
    refine lv_aload_n hx hb dX8_takeClause_55 rfl (lv_at hl 2 rfl) ?_
    refine va_get (D := D) (ci := 8) (v := .int (nI t0__1)) (C := RX8) (T := TX8) (N := 44) hx hb hts inX8 hown hK hP 3 rfl rfl 7 (by decide) (hts _ tw_980) (fun _ h9 => h9) rfl dX8_takeClause_56 ?_
    refine rw_i (D := D) (wr := [(aI k (a 14) 24 freadFree), (aI k (a 15) 24 freadPrice), (aI k (a 16) 9 freadSingle), (aI k (a 5) 240 ftext)]) (va_runV (As := [.int 1, .int (nI t0__1)]) (rest := []) ⟨hx, hb, hml, hown, hts⟩ ((n_fails l D k st lo a tx t0__1 we__1 rd ru rw ca fp wd__1 nu na ts df db sd 1 (nI t0__1)) H.size) (cwV 2 hts (gV tw_1151 tw_1153 tw_31 tw_87 tw_1154) rfl rfl rfl (by decide +kernel) ⟨Nat.le_of_ble_eq_true rfl, Nat.le_of_ble_eq_true rfl⟩) (pV hS hAlo hlo hP hK (va_Dlo hD hAlo) hZ [3] (by decide) rfl (ci := 8) (q := (RX8, TX8, 44)) (q0 := 0) rfl rfl) rfl rfl hl.1 rfl (lv_room (Nat.le_of_ble_eq_true rfl)) dX8_takeClause_59 ⟨Nat.le_of_ble_eq_true rfl, Nat.le_of_ble_eq_true rfl⟩) hS hA hP hD [3] [0, 1, 2, 4] rfl rfl (by decide) (by decide) (fun r_4 u H locs hw_4 hP hD hS => ?_)
    obtain ⟨fp__4, rfl⟩ : ∃ z, z = u := ⟨_, rfl⟩
    have hQ9 := pd_mk [(aI k (a 14) 24 freadFree), (aI k (a 15) 24 freadPrice), (aI k (a 16) 9 freadSingle), (aI k (a 5) 240 ftext), ((a 0), .inr (8, (fX8 a (nI tx) fp__4 (nI t0__1) wd__1 (nI we__1) nu na (nI rd) ts (nI ru) (nI rw) (nI ca) df db sd)))] hP hD
    clear hP hD
    obtain ⟨hP, hD⟩ := hQ9
    try dsimp only at hw_4
    obtain ⟨hs0_5, hs1_5⟩ := hw_4
    replace hs0_5 := hs0_5.symm
    subst hs0_5
    replace hs1_5 := hs1_5.symm
    subst hs1_5
    obtain ⟨hP9, hD9⟩ := pd_sub [((a 0), .inr (8, (fX8 a (nI tx) (nI t0__1) (nI t0__1) wd__1 (nI we__1) nu na (nI rd) ts (nI ru) (nI rw) (nI ca) df db sd))), (aI k (a 5) 240 ftext), (aI k (a 14) 24 freadFree), (aI k (a 15) 24 freadPrice), (aI k (a 16) 9 freadSingle)] [4, 3, 0, 1, 2] hP hD (by decide) rfl
    exact W.iret (v := 1) hx hb hr (fun t ht hW => ⟨⟨1, (t0__1, wd__1, we__1, (nI t0__1), nu, na, rd, ts, freadFree, freadPrice, freadSingle), rfl, ⟨.inr ⟨1, t0__1, rfl, by omega, by omega, (show (clF ftext tx t0 (stM rd freadSingle freadFree freadPrice ts)).1 = 1 ∧ (clF ftext tx t0 (stM rd freadSingle freadFree freadPrice ts)).2.1 = t0__1 by rw [cf_none hk_3]; exact ⟨rfl, hw_1.1.symm⟩).1, (show (clF ftext tx t0 (stM rd freadSingle freadFree freadPrice ts)).1 = 1 ∧ (clF ftext tx t0 (stM rd freadSingle freadFree freadPrice ts)).2.1 = t0__1 by rw [cf_none hk_3]; exact ⟨rfl, hw_1.1.symm⟩).2, rfl⟩, by omega, by omega, by omega, fun h => absurd h (by decide), fun h => absurd h (by decide)⟩, by rw [ht]; exact hP9, hD9⟩, hS.F ht⟩) hS.2.2 dX8_takeClause_62
  · have hT_3 := hw_1.2.1
    rw [hw_1.1] at hk_3 hT_3
    refine lv_istore_n (lv' := [(1, .int 9), (0, .ref (a 0))]) hx hb dX8_takeClause_8 rfl hl (by decide) rfl (fun ls hl => ?_)
    refine lv_iload_n hx hb dX8_takeClause_9 rfl (lv_at hl 0 rfl) ?_
    refine lv_if_lt (tgt := 35) hx hb dX8_takeClause_10 (by decide) (fun h => absurd h (by decide)) (fun _ => ?_)
    refine lv_iload_n hx hb dX8_takeClause_13 rfl (lv_at hl 0 rfl) ?_
    refine lv_bipush (v := 9) hx hb dX8_takeClause_14 (by decide) ?_
    refine lv_icmp_ge (tgt := 35) hx hb dX8_takeClause_16 (by decide) (fun _ => ?_) (fun h => absurd (by decide) h)
    refine lv_iconst (v := 0) hx hb dX8_takeClause_35 (by decide) ?_
    refine lv_istore_n (lv' := [(2, .int 0), (1, .int 9), (0, .ref (a 0))]) hx hb dX8_takeClause_36 rfl hl (by decide) rfl (fun ls hl => ?_)
    refine lv_iload_n hx hb dX8_takeClause_37 rfl (lv_at hl 1 rfl) ?_
    refine lv_if_lt (tgt := 45) hx hb dX8_takeClause_38 (by decide) (fun h => absurd h (by decide)) (fun _ => ?_)
    refine lv_iload_n hx hb dX8_takeClause_41 rfl (lv_at hl 0 rfl) ?_
    refine lv_if_eq (tgt := 63) hx hb dX8_takeClause_42 (by decide) (fun _ => ?_) (fun h => absurd (by decide) h)
    refine lv_aload_n hx hb dX8_takeClause_63 rfl (lv_at hl 2 rfl) ?_
    refine lv_dup hx hb dX8_takeClause_64 rfl ?_
    refine va_get (D := D) (ci := 8) (v := .int ts) (C := RX8) (T := TX8) (N := 44) hx hb hts inX8 hown hK hP 3 rfl rfl 16 (by decide) (hts _ tw_989) (fun _ h9 => h9) rfl dX8_takeClause_65 ?_
    refine lv_iconst (v := 1) hx hb dX8_takeClause_68 (by decide) ?_
    refine lv_iload_n hx hb dX8_takeClause_69 rfl (lv_at hl 1 rfl) ?_
    refine lv_ishl hx hb dX8_takeClause_70 ?_
    refine lv_ti (y := 512) (by decide) ?_
    refine lv_ior hx hb dX8_takeClause_71 ?_
    refine lv_topi (fun x_6 ex_6 => ?_)
    refine va_put (D := D) (ci := 8) (v := .int x_6) (ty := .int) (C := RX8) (T := TX8) (N := 44) hx hb hts inX8 tyX8 tyX8_ok nmX8 hown hK hP hD hS 3 rfl rfl 16 (by decide) (hts _ tw_989) (fun _ h9 => h9) rfl (by decide +kernel) rfl rfl (Nat.le_of_ble_eq_true rfl) dX8_takeClause_72 (fun H locs hP hD hS => ?_)
    have hQ9 := pd_mk [(aI k (a 14) 24 freadFree), (aI k (a 15) 24 freadPrice), (aI k (a 16) 9 freadSingle), ((a 0), .inr (8, (fX8 a (nI tx) fp (nI t0__1) wd__1 (nI we__1) nu na (nI rd) x_6 (nI ru) (nI rw) (nI ca) df db sd))), (aI k (a 5) 240 ftext)] hP hD
    clear hP hD
    obtain ⟨hP, hD⟩ := hQ9
    refine lv_aload_n hx hb dX8_takeClause_75 rfl (lv_at hl 2 rfl) ?_
    refine lv_aload_n hx hb dX8_takeClause_76 rfl (lv_at hl 2 rfl) ?_
    refine va_get (D := D) (ci := 8) (v := .int (nI we__1)) (C := RX8) (T := TX8) (N := 44) hx hb hts inX8 hown hK hP 3 rfl rfl 9 (by decide) (hts _ tw_982) (fun _ h9 => h9) rfl dX8_takeClause_77 ?_
    refine va_put (D := D) (ci := 8) (v := .int (nI we__1)) (ty := .int) (C := RX8) (T := TX8) (N := 44) hx hb hts inX8 tyX8 tyX8_ok nmX8 hown hK hP hD hS 3 rfl rfl 7 (by decide) (hts _ tw_980) (fun _ h9 => h9) rfl (by decide +kernel) rfl rfl (Nat.le_of_ble_eq_true rfl) dX8_takeClause_80 (fun H locs hP hD hS => ?_)
    have hQ9 := pd_mk [(aI k (a 14) 24 freadFree), (aI k (a 15) 24 freadPrice), (aI k (a 16) 9 freadSingle), ((a 0), .inr (8, (fX8 a (nI tx) fp (nI we__1) wd__1 (nI we__1) nu na (nI rd) x_6 (nI ru) (nI rw) (nI ca) df db sd))), (aI k (a 5) 240 ftext)] hP hD
    clear hP hD
    obtain ⟨hP, hD⟩ := hQ9
    refine lv_iload_n hx hb dX8_takeClause_83 rfl (lv_at hl 1 rfl) ?_
    refine lv_bipush (v := 9) hx hb dX8_takeClause_84 (by decide) ?_
    refine lv_icmp_ne (tgt := 96) hx hb dX8_takeClause_86 (by decide) (fun h => absurd (by decide) h) (fun _ => ?_)
    refine lv_aload_n hx hb dX8_takeClause_89 rfl (lv_at hl 2 rfl) ?_
    refine rw_i (D := D) (wr := [(aI k (a 16) 9 freadSingle)]) (va_runV (As := []) (rest := []) ⟨hx, hb, hml, hown, hts⟩ ((n_takeDoors l D k st lo a tx we__1 we__1 rd ru rw ca fp wd__1 nu na x_6 df db sd ftext freadFree freadPrice (by first | assumption | omega) (by first | assumption | omega) (by first | assumption | omega)) H.size) (cwV 0 hts (gV tw_1155 tw_1157 tw_32 tw_87 tw_1158) rfl rfl rfl (by decide +kernel) ⟨Nat.le_of_ble_eq_true rfl, Nat.le_of_ble_eq_true rfl⟩) (pV hS hAlo hlo hP hK (va_Dlo hD hAlo) hZ [3, 4, 0, 1] (by decide) rfl (ci := 8) (q := (RX8, TX8, 44)) (q0 := 0) rfl rfl) rfl rfl hl.1 rfl (lv_room (Nat.le_of_ble_eq_true rfl)) dX8_takeClause_90 ⟨Nat.le_of_ble_eq_true rfl, Nat.le_of_ble_eq_true rfl⟩) hS hA hP hD [3, 4, 0, 1] [2] rfl rfl (by decide) (by decide) (fun r_7 u H locs hw_7 hP hD hS => ?_)
    obtain ⟨t0__7, wd__7, we__7, fp__7, nu__7, na__7, rd__7, freadFree__7, freadPrice__7⟩ := u
    have hQ9 := pd_mk [(aI k (a 16) 9 freadSingle), ((a 0), .inr (8, (fX8 a (nI tx) fp__7 (nI t0__7) wd__7 (nI we__7) nu__7 na__7 (nI rd__7) x_6 (nI ru) (nI rw) (nI ca) df db sd))), (aI k (a 5) 240 ftext), (aI k (a 14) 24 freadFree__7), (aI k (a 15) 24 freadPrice__7)] hP hD
    clear hP hD
    obtain ⟨hP, hD⟩ := hQ9
    try dsimp only at hw_7
    rcases hw_7 with ⟨⟨rfl, m_8, v3_8, v5_8, hd_8, hn_8, hf_8, hg_8, hfp_8⟩ | ⟨e_8, pl_8, rfl, he1_8, he2_8, hp1_8, hp2_8, rfl⟩, hw_7⟩
    · replace hfp_8 := hfp_8.symm
      subst hfp_8
      refine lv_goto (tgt := 101) hx hb dX8_takeClause_93 (by decide) ?_
      refine lv_istore_n (lv' := [(3, .int 0), (2, .int 0), (1, .int 9), (0, .ref (a 0))]) hx hb dX8_takeClause_101 rfl hl (by decide) rfl (fun ls hl => ?_)
      refine lv_iload_n hx hb dX8_takeClause_102 rfl (lv_at hl 0 rfl) ?_
      refine lv_if_le (tgt := 108) hx hb dX8_takeClause_103 (by decide) (fun _ => ?_) (fun h => absurd (by decide) h)
      refine lv_aload_n hx hb dX8_takeClause_108 rfl (lv_at hl 3 rfl) ?_
      refine rw_i (D := D) (wr := [(aI k (a 16) 9 freadSingle), (aI k (a 14) 24 freadFree__7), (aI k (a 15) 24 freadPrice__7)]) (va_runV (As := []) (rest := []) ⟨hx, hb, hml, hown, hts⟩ ((n_here l D k st lo a tx t0__7 we__7 rd__7 ru rw ca fp wd__7 nu__7 na__7 x_6 df db sd ftext (by first | assumption | omega) (by first | assumption | omega)) H.size) (cwV 0 hts (gV tw_1120 tw_1122 tw_27 tw_87 tw_1123) rfl rfl rfl (by decide +kernel) ⟨Nat.le_of_ble_eq_true rfl, Nat.le_of_ble_eq_true rfl⟩) (pV hS hAlo hlo hP hK (va_Dlo hD hAlo) hZ [1, 2] (by decide) rfl (ci := 8) (q := (RX8, TX8, 44)) (q0 := 0) rfl rfl) rfl rfl hl.1 rfl (lv_room (Nat.le_of_ble_eq_true rfl)) dX8_takeClause_109 ⟨Nat.le_of_ble_eq_true rfl, Nat.le_of_ble_eq_true rfl⟩) hS hA hP hD [1, 2] [0, 3, 4] rfl rfl (by decide) (by decide) (fun r_9 u H locs hw_9 hP hD hS => ?_)
      obtain ⟨t0__9, rfl⟩ : ∃ z, z = u := ⟨_, rfl⟩
      have hQ9 := pd_mk [(aI k (a 16) 9 freadSingle), (aI k (a 14) 24 freadFree__7), (aI k (a 15) 24 freadPrice__7), ((a 0), .inr (8, (fX8 a (nI tx) fp (nI t0__9) wd__7 (nI we__7) nu__7 na__7 (nI rd__7) x_6 (nI ru) (nI rw) (nI ca) df db sd))), (aI k (a 5) 240 ftext)] hP hD
      clear hP hD
      obtain ⟨hP, hD⟩ := hQ9
      try dsimp only at hw_9
      refine lv_bipush (v := 59) hx hb dX8_takeClause_112 (by decide) ?_
      refine lv_icmp_eq (tgt := 127) hx hb dX8_takeClause_114 (by decide) (fun c_10 => ?_) (fun c_10 => ?_)
      · have hlt_11 : t0__9 < tx := by rcases Nat.lt_or_ge (t0__9) tx with h | h; exact h; exact absurd (c_10.symm.trans (hw_9.2.1.trans (byF_out (by omega)))) (by decide)
        refine lv_aload_n hx hb dX8_takeClause_127 rfl (lv_at hl 3 rfl) ?_
        refine lv_dup hx hb dX8_takeClause_128 rfl ?_
        refine va_get (D := D) (ci := 8) (v := .int (nI t0__9)) (C := RX8) (T := TX8) (N := 44) hx hb hts inX8 hown hK hP 3 rfl rfl 7 (by decide) (hts _ tw_980) (fun _ h9 => h9) rfl dX8_takeClause_129 ?_
        refine lv_iconst (v := 1) hx hb dX8_takeClause_132 (by decide) ?_
        refine lv_iadd hx hb dX8_takeClause_133 ?_
        refine lv_ti (y := (nI (t0__9 + 1))) (nI_add t0__9 1) ?_
        refine va_put (D := D) (ci := 8) (v := .int (nI (t0__9 + 1))) (ty := .int) (C := RX8) (T := TX8) (N := 44) hx hb hts inX8 tyX8 tyX8_ok nmX8 hown hK hP hD hS 3 rfl rfl 7 (by decide) (hts _ tw_980) (fun _ h9 => h9) rfl (by decide +kernel) rfl rfl (Nat.le_of_ble_eq_true rfl) dX8_takeClause_134 (fun H locs hP hD hS => ?_)
        have hQ9 := pd_mk [(aI k (a 16) 9 freadSingle), (aI k (a 14) 24 freadFree__7), (aI k (a 15) 24 freadPrice__7), ((a 0), .inr (8, (fX8 a (nI tx) fp (nI (t0__9 + 1)) wd__7 (nI we__7) nu__7 na__7 (nI rd__7) x_6 (nI ru) (nI rw) (nI ca) df db sd))), (aI k (a 5) 240 ftext)] hP hD
        clear hP hD
        obtain ⟨hP, hD⟩ := hQ9
        refine lv_iconst (v := 0) hx hb dX8_takeClause_137 (by decide) ?_
        obtain ⟨hP9, hD9⟩ := pd_sub [((a 0), .inr (8, (fX8 a (nI tx) fp (nI (t0__9 + 1)) wd__7 (nI we__7) nu__7 na__7 (nI rd__7) x_6 (nI ru) (nI rw) (nI ca) df db sd))), (aI k (a 5) 240 ftext), (aI k (a 14) 24 freadFree__7), (aI k (a 15) 24 freadPrice__7), (aI k (a 16) 9 freadSingle)] [3, 4, 1, 2, 0] hP hD (by decide) rfl
        exact W.iret (v := 0) hx hb hr (fun t ht hW => ⟨⟨0, ((t0__9 + 1), wd__7, we__7, fp, nu__7, na__7, rd__7, x_6, freadFree__7, freadPrice__7, freadSingle), rfl, ⟨.inl ⟨rfl, (by rw [cf_do0 (σ := stM rd freadSingle freadFree freadPrice ts) hk_3 hT_3 (doC_0 hd_8 (smR_1 hw_9.1 hw_9.2.1 c_10)), hn_8, ex_6, show (512 : Int32) = (1 : Int32) <<< (nI 9 &&& 31) from by decide, stM_do hf_8 hg_8]; rfl), rfl⟩, by omega, by omega, by omega, fun _ => by omega, fun _ => hrs⟩, by rw [ht]; exact hP9, hD9⟩, hS.F ht⟩) hS.2.2 dX8_takeClause_138
      · refine lv_aload_n hx hb dX8_takeClause_117 rfl (lv_at hl 3 rfl) ?_
        refine lv_iconst (v := 1) hx hb dX8_takeClause_118 (by decide) ?_
        refine lv_aload_n hx hb dX8_takeClause_119 rfl (lv_at hl 3 rfl) ?_
        refine va_get (D := D) (ci := 8) (v := .int (nI t0__9)) (C := RX8) (T := TX8) (N := 44) hx hb hts inX8 hown hK hP 3 rfl rfl 7 (by decide) (hts _ tw_980) (fun _ h9 => h9) rfl dX8_takeClause_120 ?_
        refine rw_i (D := D) (wr := [(aI k (a 16) 9 freadSingle), (aI k (a 14) 24 freadFree__7), (aI k (a 15) 24 freadPrice__7), (aI k (a 5) 240 ftext)]) (va_runV (As := [.int 1, .int (nI t0__9)]) (rest := []) ⟨hx, hb, hml, hown, hts⟩ ((n_fails l D k st lo a tx t0__9 we__7 rd__7 ru rw ca fp wd__7 nu__7 na__7 x_6 df db sd 1 (nI t0__9)) H.size) (cwV 2 hts (gV tw_1151 tw_1153 tw_31 tw_87 tw_1154) rfl rfl rfl (by decide +kernel) ⟨Nat.le_of_ble_eq_true rfl, Nat.le_of_ble_eq_true rfl⟩) (pV hS hAlo hlo hP hK (va_Dlo hD hAlo) hZ [3] (by decide) rfl (ci := 8) (q := (RX8, TX8, 44)) (q0 := 0) rfl rfl) rfl rfl hl.1 rfl (lv_room (Nat.le_of_ble_eq_true rfl)) dX8_takeClause_123 ⟨Nat.le_of_ble_eq_true rfl, Nat.le_of_ble_eq_true rfl⟩) hS hA hP hD [3] [0, 1, 2, 4] rfl rfl (by decide) (by decide) (fun r_12 u H locs hw_12 hP hD hS => ?_)
        obtain ⟨fp__12, rfl⟩ : ∃ z, z = u := ⟨_, rfl⟩
        have hQ9 := pd_mk [(aI k (a 16) 9 freadSingle), (aI k (a 14) 24 freadFree__7), (aI k (a 15) 24 freadPrice__7), (aI k (a 5) 240 ftext), ((a 0), .inr (8, (fX8 a (nI tx) fp__12 (nI t0__9) wd__7 (nI we__7) nu__7 na__7 (nI rd__7) x_6 (nI ru) (nI rw) (nI ca) df db sd)))] hP hD
        clear hP hD
        obtain ⟨hP, hD⟩ := hQ9
        try dsimp only at hw_12
        obtain ⟨hs0_13, hs1_13⟩ := hw_12
        replace hs0_13 := hs0_13.symm
        subst hs0_13
        replace hs1_13 := hs1_13.symm
        subst hs1_13
        obtain ⟨hP9, hD9⟩ := pd_sub [((a 0), .inr (8, (fX8 a (nI tx) (nI t0__9) (nI t0__9) wd__7 (nI we__7) nu__7 na__7 (nI rd__7) x_6 (nI ru) (nI rw) (nI ca) df db sd))), (aI k (a 5) 240 ftext), (aI k (a 14) 24 freadFree__7), (aI k (a 15) 24 freadPrice__7), (aI k (a 16) 9 freadSingle)] [4, 3, 1, 2, 0] hP hD (by decide) rfl
        exact W.iret (v := 1) hx hb hr (fun t ht hW => ⟨⟨1, (t0__9, wd__7, we__7, (nI t0__9), nu__7, na__7, rd__7, x_6, freadFree__7, freadPrice__7, freadSingle), rfl, ⟨.inr ⟨1, t0__9, rfl, by omega, by omega, (cf_do1 (σ := stM rd freadSingle freadFree freadPrice ts) hk_3 hT_3 (doC_s hd_8 (smR_0 hw_9.1 hw_9.2.1 c_10)).1 (by decide) (doC_s hd_8 (smR_0 hw_9.1 hw_9.2.1 c_10)).2).1, (cf_do1 (σ := stM rd freadSingle freadFree freadPrice ts) hk_3 hT_3 (doC_s hd_8 (smR_0 hw_9.1 hw_9.2.1 c_10)).1 (by decide) (doC_s hd_8 (smR_0 hw_9.1 hw_9.2.1 c_10)).2).2, rfl⟩, by omega, by omega, by omega, fun h => absurd h (by decide), fun h => absurd h (by decide)⟩, by rw [ht]; exact hP9, hD9⟩, hS.F ht⟩) hS.2.2 dX8_takeClause_126
    · refine lv_goto (tgt := 101) hx hb dX8_takeClause_93 (by decide) ?_
      refine lv_istore_n (lv' := [(3, .int (nI e_8)), (2, .int 0), (1, .int 9), (0, .ref (a 0))]) hx hb dX8_takeClause_101 rfl hl (by decide) rfl (fun ls hl => ?_)
      refine lv_iload_n hx hb dX8_takeClause_102 rfl (lv_at hl 0 rfl) ?_
      refine lv_if_le (tgt := 108) hx hb dX8_takeClause_103 (by decide) (fun h => absurd ((nI_leI (a := e_8) (b := 0) (by omega) (by omega)).mp h) (by omega)) (fun _ => ?_)
      refine lv_iload_n hx hb dX8_takeClause_106 rfl (lv_at hl 0 rfl) ?_
      obtain ⟨hP9, hD9⟩ := pd_sub [((a 0), .inr (8, (fX8 a (nI tx) (nI pl_8) (nI t0__7) wd__7 (nI we__7) nu__7 na__7 (nI rd__7) x_6 (nI ru) (nI rw) (nI ca) df db sd))), (aI k (a 5) 240 ftext), (aI k (a 14) 24 freadFree__7), (aI k (a 15) 24 freadPrice__7), (aI k (a 16) 9 freadSingle)] [1, 2, 3, 4, 0] hP hD (by decide) rfl
      exact W.iret (v := (nI e_8)) hx hb hr (fun t ht hW => ⟨⟨(nI e_8), (t0__7, wd__7, we__7, (nI pl_8), nu__7, na__7, rd__7, x_6, freadFree__7, freadPrice__7, freadSingle), rfl, ⟨.inr ⟨e_8, pl_8, rfl, by omega, by omega, (cf_do1 (σ := stM rd freadSingle freadFree freadPrice ts) hk_3 hT_3 (doC_e hp1_8 he1_8 hp2_8).1 he1_8 (doC_e hp1_8 he1_8 hp2_8).2).1, (cf_do1 (σ := stM rd freadSingle freadFree freadPrice ts) hk_3 hT_3 (doC_e hp1_8 he1_8 hp2_8).1 he1_8 (doC_e hp1_8 he1_8 hp2_8).2).2, rfl⟩, by omega, by omega, by omega, fun h => absurd h (nI_ne0 (by omega) (by omega)), fun h => absurd h (nI_ne0 (by omega) (by omega))⟩, by rw [ht]; exact hP9, hD9⟩, hS.F ht⟩) hS.2.2 dX8_takeClause_107
  · have hT_3 := hw_1.2.1
    rw [hw_1.1] at hk_3 hT_3
    refine lv_istore_n (lv' := [(1, .int (nI cl_3)), (0, .ref (a 0))]) hx hb dX8_takeClause_8 rfl hl (by decide) rfl (fun ls hl => ?_)
    refine lv_iload_n hx hb dX8_takeClause_9 rfl (lv_at hl 0 rfl) ?_
    refine lv_if_lt (tgt := 35) hx hb dX8_takeClause_10 (by decide) (fun h => absurd h (nI_pos0 (by omega))) (fun _ => ?_)
    refine lv_iload_n hx hb dX8_takeClause_13 rfl (lv_at hl 0 rfl) ?_
    refine lv_bipush (v := 9) hx hb dX8_takeClause_14 (by decide) ?_
    refine lv_icmp_ge (tgt := 35) hx hb dX8_takeClause_16 (by decide) (fun h => absurd ((nI_leI (a := 9) (b := cl_3) (by omega) (by omega)).mp h) (by omega)) (fun _ => ?_)
    refine lv_aload_n hx hb dX8_takeClause_19 rfl (lv_at hl 1 rfl) ?_
    refine va_get (D := D) (ci := 8) (v := .int ts) (C := RX8) (T := TX8) (N := 44) hx hb hts inX8 hown hK hP 3 rfl rfl 16 (by decide) (hts _ tw_989) (fun _ h9 => h9) rfl dX8_takeClause_20 ?_
    refine lv_iload_n hx hb dX8_takeClause_23 rfl (lv_at hl 0 rfl) ?_
    refine lv_ishr hx hb dX8_takeClause_24 ?_
    refine lv_topi (fun x_16 ex_16 => ?_)
    refine lv_iconst (v := 1) hx hb dX8_takeClause_25 (by decide) ?_
    refine lv_iand hx hb dX8_takeClause_26 ?_
    refine lv_topi (fun x_17 ex_17 => ?_)
    refine lv_iconst (v := 1) hx hb dX8_takeClause_27 (by decide) ?_
    refine lv_icmp_ne (tgt := 35) hx hb dX8_takeClause_28 (by decide) (fun c_18 => ?_) (fun c_18 => ?_)
    · rw [ex_17, ex_16] at c_18
      refine lv_iconst (v := 0) hx hb dX8_takeClause_35 (by decide) ?_
      refine lv_istore_n (lv' := [(2, .int 0), (1, .int (nI cl_3)), (0, .ref (a 0))]) hx hb dX8_takeClause_36 rfl hl (by decide) rfl (fun ls hl => ?_)
      refine lv_iload_n hx hb dX8_takeClause_37 rfl (lv_at hl 1 rfl) ?_
      refine lv_if_lt (tgt := 45) hx hb dX8_takeClause_38 (by decide) (fun h => absurd h (nI_pos0 (by omega))) (fun _ => ?_)
      refine lv_iload_n hx hb dX8_takeClause_41 rfl (lv_at hl 0 rfl) ?_
      refine lv_if_eq (tgt := 63) hx hb dX8_takeClause_42 (by decide) (fun _ => ?_) (fun h => absurd (by decide) h)
      refine lv_aload_n hx hb dX8_takeClause_63 rfl (lv_at hl 2 rfl) ?_
      refine lv_dup hx hb dX8_takeClause_64 rfl ?_
      refine va_get (D := D) (ci := 8) (v := .int ts) (C := RX8) (T := TX8) (N := 44) hx hb hts inX8 hown hK hP 3 rfl rfl 16 (by decide) (hts _ tw_989) (fun _ h9 => h9) rfl dX8_takeClause_65 ?_
      refine lv_iconst (v := 1) hx hb dX8_takeClause_68 (by decide) ?_
      refine lv_iload_n hx hb dX8_takeClause_69 rfl (lv_at hl 1 rfl) ?_
      refine lv_ishl hx hb dX8_takeClause_70 ?_
      refine lv_topi (fun x_19 ex_19 => ?_)
      refine lv_ior hx hb dX8_takeClause_71 ?_
      refine lv_topi (fun x_20 ex_20 => ?_)
      refine va_put (D := D) (ci := 8) (v := .int x_20) (ty := .int) (C := RX8) (T := TX8) (N := 44) hx hb hts inX8 tyX8 tyX8_ok nmX8 hown hK hP hD hS 3 rfl rfl 16 (by decide) (hts _ tw_989) (fun _ h9 => h9) rfl (by decide +kernel) rfl rfl (Nat.le_of_ble_eq_true rfl) dX8_takeClause_72 (fun H locs hP hD hS => ?_)
      have hQ9 := pd_mk [(aI k (a 14) 24 freadFree), (aI k (a 15) 24 freadPrice), (aI k (a 16) 9 freadSingle), ((a 0), .inr (8, (fX8 a (nI tx) fp (nI t0__1) wd__1 (nI we__1) nu na (nI rd) x_20 (nI ru) (nI rw) (nI ca) df db sd))), (aI k (a 5) 240 ftext)] hP hD
      clear hP hD
      obtain ⟨hP, hD⟩ := hQ9
      refine lv_aload_n hx hb dX8_takeClause_75 rfl (lv_at hl 2 rfl) ?_
      refine lv_aload_n hx hb dX8_takeClause_76 rfl (lv_at hl 2 rfl) ?_
      refine va_get (D := D) (ci := 8) (v := .int (nI we__1)) (C := RX8) (T := TX8) (N := 44) hx hb hts inX8 hown hK hP 3 rfl rfl 9 (by decide) (hts _ tw_982) (fun _ h9 => h9) rfl dX8_takeClause_77 ?_
      refine va_put (D := D) (ci := 8) (v := .int (nI we__1)) (ty := .int) (C := RX8) (T := TX8) (N := 44) hx hb hts inX8 tyX8 tyX8_ok nmX8 hown hK hP hD hS 3 rfl rfl 7 (by decide) (hts _ tw_980) (fun _ h9 => h9) rfl (by decide +kernel) rfl rfl (Nat.le_of_ble_eq_true rfl) dX8_takeClause_80 (fun H locs hP hD hS => ?_)
      have hQ9 := pd_mk [(aI k (a 14) 24 freadFree), (aI k (a 15) 24 freadPrice), (aI k (a 16) 9 freadSingle), ((a 0), .inr (8, (fX8 a (nI tx) fp (nI we__1) wd__1 (nI we__1) nu na (nI rd) x_20 (nI ru) (nI rw) (nI ca) df db sd))), (aI k (a 5) 240 ftext)] hP hD
      clear hP hD
      obtain ⟨hP, hD⟩ := hQ9
      refine lv_iload_n hx hb dX8_takeClause_83 rfl (lv_at hl 1 rfl) ?_
      refine lv_bipush (v := 9) hx hb dX8_takeClause_84 (by decide) ?_
      refine lv_icmp_ne (tgt := 96) hx hb dX8_takeClause_86 (by decide) (fun _ => ?_) (fun h => absurd ((nI_eq (a := cl_3) (b := 9) (by omega) (by omega)).mp h) (by omega))
      refine lv_aload_n hx hb dX8_takeClause_96 rfl (lv_at hl 2 rfl) ?_
      refine lv_iload_n hx hb dX8_takeClause_97 rfl (lv_at hl 1 rfl) ?_
      refine rw_i (D := D) (wr := [(aI k (a 14) 24 freadFree), (aI k (a 15) 24 freadPrice)]) (va_runV (As := [.int (nI cl_3)]) (rest := []) ⟨hx, hb, hml, hown, hts⟩ ((n_takeSingle l D k st lo a tx we__1 we__1 rd ru rw ca fp wd__1 nu na x_20 df db sd ftext freadSingle cl_3 (by first | assumption | omega) (by first | assumption | omega) hrs (by first | assumption | omega)) H.size) (cwV 1 hts (gV tw_1173 tw_1175 tw_36 tw_87 tw_1176) rfl rfl rfl (by decide +kernel) ⟨Nat.le_of_ble_eq_true rfl, Nat.le_of_ble_eq_true rfl⟩) (pV hS hAlo hlo hP hK (va_Dlo hD hAlo) hZ [3, 4, 2] (by decide) rfl (ci := 8) (q := (RX8, TX8, 44)) (q0 := 0) rfl rfl) rfl rfl hl.1 rfl (lv_room (Nat.le_of_ble_eq_true rfl)) dX8_takeClause_98 ⟨Nat.le_of_ble_eq_true rfl, Nat.le_of_ble_eq_true rfl⟩) hS hA hP hD [3, 4, 2] [0, 1] rfl rfl (by decide) (by decide) (fun r_22 u H locs hw_22 hP hD hS => ?_)
      obtain ⟨t0__22, wd__22, we__22, fp__22, nu__22, na__22, freadSingle__22⟩ := u
      have hQ9 := pd_mk [(aI k (a 14) 24 freadFree), (aI k (a 15) 24 freadPrice), ((a 0), .inr (8, (fX8 a (nI tx) fp__22 (nI t0__22) wd__22 (nI we__22) nu__22 na__22 (nI rd) x_20 (nI ru) (nI rw) (nI ca) df db sd))), (aI k (a 5) 240 ftext), (aI k (a 16) 9 freadSingle__22)] hP hD
      clear hP hD
      obtain ⟨hP, hD⟩ := hQ9
      try dsimp only at hw_22
      rcases hw_22 with ⟨⟨rfl, v_23, v2_23, hd_23, hvv_23, hfp_23⟩ | ⟨e_23, pl_23, rfl, he1_23, he2_23, hp1_23, hp2_23, rfl⟩, hw_22⟩
      · replace hfp_23 := hfp_23.symm
        subst hfp_23
        refine lv_istore_n (lv' := [(3, .int 0), (2, .int 0), (1, .int (nI cl_3)), (0, .ref (a 0))]) hx hb dX8_takeClause_101 rfl hl (by decide) rfl (fun ls hl => ?_)
        refine lv_iload_n hx hb dX8_takeClause_102 rfl (lv_at hl 0 rfl) ?_
        refine lv_if_le (tgt := 108) hx hb dX8_takeClause_103 (by decide) (fun _ => ?_) (fun h => absurd (by decide) h)
        refine lv_aload_n hx hb dX8_takeClause_108 rfl (lv_at hl 3 rfl) ?_
        refine rw_i (D := D) (wr := [(aI k (a 14) 24 freadFree), (aI k (a 15) 24 freadPrice), (aI k (a 16) 9 freadSingle__22)]) (va_runV (As := []) (rest := []) ⟨hx, hb, hml, hown, hts⟩ ((n_here l D k st lo a tx t0__22 we__22 rd ru rw ca fp wd__22 nu__22 na__22 x_20 df db sd ftext (by first | assumption | omega) (by first | assumption | omega)) H.size) (cwV 0 hts (gV tw_1120 tw_1122 tw_27 tw_87 tw_1123) rfl rfl rfl (by decide +kernel) ⟨Nat.le_of_ble_eq_true rfl, Nat.le_of_ble_eq_true rfl⟩) (pV hS hAlo hlo hP hK (va_Dlo hD hAlo) hZ [2, 3] (by decide) rfl (ci := 8) (q := (RX8, TX8, 44)) (q0 := 0) rfl rfl) rfl rfl hl.1 rfl (lv_room (Nat.le_of_ble_eq_true rfl)) dX8_takeClause_109 ⟨Nat.le_of_ble_eq_true rfl, Nat.le_of_ble_eq_true rfl⟩) hS hA hP hD [2, 3] [0, 1, 4] rfl rfl (by decide) (by decide) (fun r_24 u H locs hw_24 hP hD hS => ?_)
        obtain ⟨t0__24, rfl⟩ : ∃ z, z = u := ⟨_, rfl⟩
        have hQ9 := pd_mk [(aI k (a 14) 24 freadFree), (aI k (a 15) 24 freadPrice), (aI k (a 16) 9 freadSingle__22), ((a 0), .inr (8, (fX8 a (nI tx) fp (nI t0__24) wd__22 (nI we__22) nu__22 na__22 (nI rd) x_20 (nI ru) (nI rw) (nI ca) df db sd))), (aI k (a 5) 240 ftext)] hP hD
        clear hP hD
        obtain ⟨hP, hD⟩ := hQ9
        try dsimp only at hw_24
        refine lv_bipush (v := 59) hx hb dX8_takeClause_112 (by decide) ?_
        refine lv_icmp_eq (tgt := 127) hx hb dX8_takeClause_114 (by decide) (fun c_25 => ?_) (fun c_25 => ?_)
        · have hlt_26 : t0__24 < tx := by rcases Nat.lt_or_ge (t0__24) tx with h | h; exact h; exact absurd (c_25.symm.trans (hw_24.2.1.trans (byF_out (by omega)))) (by decide)
          refine lv_aload_n hx hb dX8_takeClause_127 rfl (lv_at hl 3 rfl) ?_
          refine lv_dup hx hb dX8_takeClause_128 rfl ?_
          refine va_get (D := D) (ci := 8) (v := .int (nI t0__24)) (C := RX8) (T := TX8) (N := 44) hx hb hts inX8 hown hK hP 3 rfl rfl 7 (by decide) (hts _ tw_980) (fun _ h9 => h9) rfl dX8_takeClause_129 ?_
          refine lv_iconst (v := 1) hx hb dX8_takeClause_132 (by decide) ?_
          refine lv_iadd hx hb dX8_takeClause_133 ?_
          refine lv_ti (y := (nI (t0__24 + 1))) (nI_add t0__24 1) ?_
          refine va_put (D := D) (ci := 8) (v := .int (nI (t0__24 + 1))) (ty := .int) (C := RX8) (T := TX8) (N := 44) hx hb hts inX8 tyX8 tyX8_ok nmX8 hown hK hP hD hS 3 rfl rfl 7 (by decide) (hts _ tw_980) (fun _ h9 => h9) rfl (by decide +kernel) rfl rfl (Nat.le_of_ble_eq_true rfl) dX8_takeClause_134 (fun H locs hP hD hS => ?_)
          have hQ9 := pd_mk [(aI k (a 14) 24 freadFree), (aI k (a 15) 24 freadPrice), (aI k (a 16) 9 freadSingle__22), ((a 0), .inr (8, (fX8 a (nI tx) fp (nI (t0__24 + 1)) wd__22 (nI we__22) nu__22 na__22 (nI rd) x_20 (nI ru) (nI rw) (nI ca) df db sd))), (aI k (a 5) 240 ftext)] hP hD
          clear hP hD
          obtain ⟨hP, hD⟩ := hQ9
          refine lv_iconst (v := 0) hx hb dX8_takeClause_137 (by decide) ?_
          obtain ⟨hP9, hD9⟩ := pd_sub [((a 0), .inr (8, (fX8 a (nI tx) fp (nI (t0__24 + 1)) wd__22 (nI we__22) nu__22 na__22 (nI rd) x_20 (nI ru) (nI rw) (nI ca) df db sd))), (aI k (a 5) 240 ftext), (aI k (a 14) 24 freadFree), (aI k (a 15) 24 freadPrice), (aI k (a 16) 9 freadSingle__22)] [3, 4, 0, 1, 2] hP hD (by decide) rfl
          exact W.iret (v := 0) hx hb hr (fun t ht hW => ⟨⟨0, ((t0__24 + 1), wd__22, we__22, fp, nu__22, na__22, rd, x_20, freadFree, freadPrice, freadSingle__22), rfl, ⟨.inl ⟨rfl, (by rw [cf_si0 (σ := stM rd freadSingle freadFree freadPrice ts) hk_3 (by omega) (toM_f (by omega) c_18) hT_3 (siC_0 hd_23 (smR_1 hw_24.1 hw_24.2.1 c_25)), ex_20, ex_19, stM_si (by omega) hvv_23]; rfl), rfl⟩, by omega, by omega, by omega, fun _ => by omega, fun _ => (hw_22.2.2.2 rfl)⟩, by rw [ht]; exact hP9, hD9⟩, hS.F ht⟩) hS.2.2 dX8_takeClause_138
        · refine lv_aload_n hx hb dX8_takeClause_117 rfl (lv_at hl 3 rfl) ?_
          refine lv_iconst (v := 1) hx hb dX8_takeClause_118 (by decide) ?_
          refine lv_aload_n hx hb dX8_takeClause_119 rfl (lv_at hl 3 rfl) ?_
          refine va_get (D := D) (ci := 8) (v := .int (nI t0__24)) (C := RX8) (T := TX8) (N := 44) hx hb hts inX8 hown hK hP 3 rfl rfl 7 (by decide) (hts _ tw_980) (fun _ h9 => h9) rfl dX8_takeClause_120 ?_
          refine rw_i (D := D) (wr := [(aI k (a 14) 24 freadFree), (aI k (a 15) 24 freadPrice), (aI k (a 16) 9 freadSingle__22), (aI k (a 5) 240 ftext)]) (va_runV (As := [.int 1, .int (nI t0__24)]) (rest := []) ⟨hx, hb, hml, hown, hts⟩ ((n_fails l D k st lo a tx t0__24 we__22 rd ru rw ca fp wd__22 nu__22 na__22 x_20 df db sd 1 (nI t0__24)) H.size) (cwV 2 hts (gV tw_1151 tw_1153 tw_31 tw_87 tw_1154) rfl rfl rfl (by decide +kernel) ⟨Nat.le_of_ble_eq_true rfl, Nat.le_of_ble_eq_true rfl⟩) (pV hS hAlo hlo hP hK (va_Dlo hD hAlo) hZ [3] (by decide) rfl (ci := 8) (q := (RX8, TX8, 44)) (q0 := 0) rfl rfl) rfl rfl hl.1 rfl (lv_room (Nat.le_of_ble_eq_true rfl)) dX8_takeClause_123 ⟨Nat.le_of_ble_eq_true rfl, Nat.le_of_ble_eq_true rfl⟩) hS hA hP hD [3] [0, 1, 2, 4] rfl rfl (by decide) (by decide) (fun r_27 u H locs hw_27 hP hD hS => ?_)
          obtain ⟨fp__27, rfl⟩ : ∃ z, z = u := ⟨_, rfl⟩
          have hQ9 := pd_mk [(aI k (a 14) 24 freadFree), (aI k (a 15) 24 freadPrice), (aI k (a 16) 9 freadSingle__22), (aI k (a 5) 240 ftext), ((a 0), .inr (8, (fX8 a (nI tx) fp__27 (nI t0__24) wd__22 (nI we__22) nu__22 na__22 (nI rd) x_20 (nI ru) (nI rw) (nI ca) df db sd)))] hP hD
          clear hP hD
          obtain ⟨hP, hD⟩ := hQ9
          try dsimp only at hw_27
          obtain ⟨hs0_28, hs1_28⟩ := hw_27
          replace hs0_28 := hs0_28.symm
          subst hs0_28
          replace hs1_28 := hs1_28.symm
          subst hs1_28
          obtain ⟨hP9, hD9⟩ := pd_sub [((a 0), .inr (8, (fX8 a (nI tx) (nI t0__24) (nI t0__24) wd__22 (nI we__22) nu__22 na__22 (nI rd) x_20 (nI ru) (nI rw) (nI ca) df db sd))), (aI k (a 5) 240 ftext), (aI k (a 14) 24 freadFree), (aI k (a 15) 24 freadPrice), (aI k (a 16) 9 freadSingle__22)] [4, 3, 0, 1, 2] hP hD (by decide) rfl
          exact W.iret (v := 1) hx hb hr (fun t ht hW => ⟨⟨1, (t0__24, wd__22, we__22, (nI t0__24), nu__22, na__22, rd, x_20, freadFree, freadPrice, freadSingle__22), rfl, ⟨.inr ⟨1, t0__24, rfl, by omega, by omega, (cf_si1 (σ := stM rd freadSingle freadFree freadPrice ts) hk_3 (by omega) (toM_f (by omega) c_18) hT_3 (siC_s hd_23 (smR_0 hw_24.1 hw_24.2.1 c_25)).1 (by decide) (siC_s hd_23 (smR_0 hw_24.1 hw_24.2.1 c_25)).2).1, (cf_si1 (σ := stM rd freadSingle freadFree freadPrice ts) hk_3 (by omega) (toM_f (by omega) c_18) hT_3 (siC_s hd_23 (smR_0 hw_24.1 hw_24.2.1 c_25)).1 (by decide) (siC_s hd_23 (smR_0 hw_24.1 hw_24.2.1 c_25)).2).2, rfl⟩, by omega, by omega, by omega, fun h => absurd h (by decide), fun h => absurd h (by decide)⟩, by rw [ht]; exact hP9, hD9⟩, hS.F ht⟩) hS.2.2 dX8_takeClause_126
      · refine lv_istore_n (lv' := [(3, .int (nI e_23)), (2, .int 0), (1, .int (nI cl_3)), (0, .ref (a 0))]) hx hb dX8_takeClause_101 rfl hl (by decide) rfl (fun ls hl => ?_)
        refine lv_iload_n hx hb dX8_takeClause_102 rfl (lv_at hl 0 rfl) ?_
        refine lv_if_le (tgt := 108) hx hb dX8_takeClause_103 (by decide) (fun h => absurd ((nI_leI (a := e_23) (b := 0) (by omega) (by omega)).mp h) (by omega)) (fun _ => ?_)
        refine lv_iload_n hx hb dX8_takeClause_106 rfl (lv_at hl 0 rfl) ?_
        obtain ⟨hP9, hD9⟩ := pd_sub [((a 0), .inr (8, (fX8 a (nI tx) (nI pl_23) (nI t0__22) wd__22 (nI we__22) nu__22 na__22 (nI rd) x_20 (nI ru) (nI rw) (nI ca) df db sd))), (aI k (a 5) 240 ftext), (aI k (a 14) 24 freadFree), (aI k (a 15) 24 freadPrice), (aI k (a 16) 9 freadSingle__22)] [2, 3, 0, 1, 4] hP hD (by decide) rfl
        exact W.iret (v := (nI e_23)) hx hb hr (fun t ht hW => ⟨⟨(nI e_23), (t0__22, wd__22, we__22, (nI pl_23), nu__22, na__22, rd, x_20, freadFree, freadPrice, freadSingle__22), rfl, ⟨.inr ⟨e_23, pl_23, rfl, by omega, by omega, (cf_si1 (σ := stM rd freadSingle freadFree freadPrice ts) hk_3 (by omega) (toM_f (by omega) c_18) hT_3 (siC_e hp1_23 he1_23 hp2_23).1 he1_23 (siC_e hp1_23 he1_23 hp2_23).2).1, (cf_si1 (σ := stM rd freadSingle freadFree freadPrice ts) hk_3 (by omega) (toM_f (by omega) c_18) hT_3 (siC_e hp1_23 he1_23 hp2_23).1 he1_23 (siC_e hp1_23 he1_23 hp2_23).2).2, rfl⟩, by omega, by omega, by omega, fun h => absurd h (nI_ne0 (by omega) (by omega)), fun h => absurd h (nI_ne0 (by omega) (by omega))⟩, by rw [ht]; exact hP9, hD9⟩, hS.F ht⟩) hS.2.2 dX8_takeClause_107
    · rw [ex_17, ex_16] at c_18
      refine lv_iconst (v := 1) hx hb dX8_takeClause_31 (by decide) ?_
      refine lv_goto (tgt := 36) hx hb dX8_takeClause_32 (by decide) ?_
      refine lv_istore_n (lv' := [(2, .int 1), (1, .int (nI cl_3)), (0, .ref (a 0))]) hx hb dX8_takeClause_36 rfl hl (by decide) rfl (fun ls hl => ?_)
      refine lv_iload_n hx hb dX8_takeClause_37 rfl (lv_at hl 1 rfl) ?_
      refine lv_if_lt (tgt := 45) hx hb dX8_takeClause_38 (by decide) (fun h => absurd h (nI_pos0 (by omega))) (fun _ => ?_)
      refine lv_iload_n hx hb dX8_takeClause_41 rfl (lv_at hl 0 rfl) ?_
      refine lv_if_eq (tgt := 63) hx hb dX8_takeClause_42 (by decide) (fun h => absurd h (by decide)) (fun _ => ?_)
      refine lv_aload_n hx hb dX8_takeClause_45 rfl (lv_at hl 2 rfl) ?_
      refine lv_iload_n hx hb dX8_takeClause_46 rfl (lv_at hl 1 rfl) ?_
      refine lv_if_ge (tgt := 54) hx hb dX8_takeClause_47 (by decide) (fun _ => ?_) (fun h => absurd (nI_ge0 (by omega)) h)
      refine lv_iconst (v := 3) hx hb dX8_takeClause_54 (by decide) ?_
      refine lv_aload_n hx hb dX8_takeClause_55 rfl (lv_at hl 2 rfl) ?_
      refine va_get (D := D) (ci := 8) (v := .int (nI t0__1)) (C := RX8) (T := TX8) (N := 44) hx hb hts inX8 hown hK hP 3 rfl rfl 7 (by decide) (hts _ tw_980) (fun _ h9 => h9) rfl dX8_takeClause_56 ?_
      refine rw_i (D := D) (wr := [(aI k (a 14) 24 freadFree), (aI k (a 15) 24 freadPrice), (aI k (a 16) 9 freadSingle), (aI k (a 5) 240 ftext)]) (va_runV (As := [.int 3, .int (nI t0__1)]) (rest := []) ⟨hx, hb, hml, hown, hts⟩ ((n_fails l D k st lo a tx t0__1 we__1 rd ru rw ca fp wd__1 nu na ts df db sd 3 (nI t0__1)) H.size) (cwV 2 hts (gV tw_1151 tw_1153 tw_31 tw_87 tw_1154) rfl rfl rfl (by decide +kernel) ⟨Nat.le_of_ble_eq_true rfl, Nat.le_of_ble_eq_true rfl⟩) (pV hS hAlo hlo hP hK (va_Dlo hD hAlo) hZ [3] (by decide) rfl (ci := 8) (q := (RX8, TX8, 44)) (q0 := 0) rfl rfl) rfl rfl hl.1 rfl (lv_room (Nat.le_of_ble_eq_true rfl)) dX8_takeClause_59 ⟨Nat.le_of_ble_eq_true rfl, Nat.le_of_ble_eq_true rfl⟩) hS hA hP hD [3] [0, 1, 2, 4] rfl rfl (by decide) (by decide) (fun r_30 u H locs hw_30 hP hD hS => ?_)
      obtain ⟨fp__30, rfl⟩ : ∃ z, z = u := ⟨_, rfl⟩
      have hQ9 := pd_mk [(aI k (a 14) 24 freadFree), (aI k (a 15) 24 freadPrice), (aI k (a 16) 9 freadSingle), (aI k (a 5) 240 ftext), ((a 0), .inr (8, (fX8 a (nI tx) fp__30 (nI t0__1) wd__1 (nI we__1) nu na (nI rd) ts (nI ru) (nI rw) (nI ca) df db sd)))] hP hD
      clear hP hD
      obtain ⟨hP, hD⟩ := hQ9
      try dsimp only at hw_30
      obtain ⟨hs0_31, hs1_31⟩ := hw_30
      replace hs0_31 := hs0_31.symm
      subst hs0_31
      replace hs1_31 := hs1_31.symm
      subst hs1_31
      obtain ⟨hP9, hD9⟩ := pd_sub [((a 0), .inr (8, (fX8 a (nI tx) (nI t0__1) (nI t0__1) wd__1 (nI we__1) nu na (nI rd) ts (nI ru) (nI rw) (nI ca) df db sd))), (aI k (a 5) 240 ftext), (aI k (a 14) 24 freadFree), (aI k (a 15) 24 freadPrice), (aI k (a 16) 9 freadSingle)] [4, 3, 0, 1, 2] hP hD (by decide) rfl
      exact W.iret (v := 3) hx hb hr (fun t ht hW => ⟨⟨3, (t0__1, wd__1, we__1, (nI t0__1), nu, na, rd, ts, freadFree, freadPrice, freadSingle), rfl, ⟨.inr ⟨3, t0__1, rfl, by omega, by omega, (show (clF ftext tx t0 (stM rd freadSingle freadFree freadPrice ts)).1 = 3 ∧ (clF ftext tx t0 (stM rd freadSingle freadFree freadPrice ts)).2.1 = t0__1 by rw [cf_told hk_3 (by omega) (toM_t (by omega) c_18)]; exact ⟨rfl, hw_1.1.symm⟩).1, (show (clF ftext tx t0 (stM rd freadSingle freadFree freadPrice ts)).1 = 3 ∧ (clF ftext tx t0 (stM rd freadSingle freadFree freadPrice ts)).2.1 = t0__1 by rw [cf_told hk_3 (by omega) (toM_t (by omega) c_18)]; exact ⟨rfl, hw_1.1.symm⟩).2, rfl⟩, by omega, by omega, by omega, fun h => absurd h (by decide), fun h => absurd h (by decide)⟩, by rw [ht]; exact hP9, hD9⟩, hS.F ht⟩) hS.2.2 dX8_takeClause_62

theorem f_glueP9 : True := trivial
/-- what a street's text told, as answers show it: doors, singles, chances, prices -/
abbrev SDt : Type := Nat × (Nat → Int32) × (Nat → Int32) × (Nat → Int32)
def sdP (σ : PSt) : SDt := (σ.1, σ.2.1, σ.2.2.1, σ.2.2.2.1)
def sdM (dn : Nat → Nat) (f ff fp : Nat → Int32) (s : Nat) : SDt := (dn s, nG (fun j => f (9 * s + (j - 1))), clp (dn s) (fun i => ff (24 * s + i)), clp (dn s) (fun i => fp (24 * s + i)))
def sdX (n see tm : Nat) (g ff fp : Nat → Int32) : SDt := (n, nG (vv n see tm g), clp n ff, clp n fp)
theorem upd9 {f0 f1 f2 f3 f4 f5 f6 f7 f8 f9 rs : Nat → Int32} {a : Nat} (h0 : f1 = upd f0 (a + 0) (rs 0)) (h1 : f2 = upd f1 (a + 1) (rs 1)) (h2 : f3 = upd f2 (a + 2) (rs 2)) (h3 : f4 = upd f3 (a + 3) (rs 3)) (h4 : f5 = upd f4 (a + 4) (rs 4)) (h5 : f6 = upd f5 (a + 5) (rs 5)) (h6 : f7 = upd f6 (a + 6) (rs 6)) (h7 : f8 = upd f7 (a + 7) (rs 7)) (h8 : f9 = upd f8 (a + 8) (rs 8)) : ∀ j, f9 j = if a ≤ j ∧ j < a + 9 then rs (j - a) else f0 j := by
  intro j
  subst h8 h7 h6 h5 h4 h3 h2 h1 h0
  by_cases hj : a ≤ j ∧ j < a + 9
  · rw [if_pos hj]
    obtain ⟨k, hk⟩ : ∃ k, k = j - a := ⟨_, rfl⟩
    rw [← hk]
    rcases (show k = 0 ∨ k = 1 ∨ k = 2 ∨ k = 3 ∨ k = 4 ∨ k = 5 ∨ k = 6 ∨ k = 7 ∨ k = 8 by omega) with rfl | rfl | rfl | rfl | rfl | rfl | rfl | rfl | rfl
    · rw [pk_un (by omega), pk_un (by omega), pk_un (by omega), pk_un (by omega), pk_un (by omega), pk_un (by omega), pk_un (by omega), pk_un (by omega), show j = a + 0 by omega, pk_us]
    · rw [pk_un (by omega), pk_un (by omega), pk_un (by omega), pk_un (by omega), pk_un (by omega), pk_un (by omega), pk_un (by omega), show j = a + 1 by omega, pk_us]
    · rw [pk_un (by omega), pk_un (by omega), pk_un (by omega), pk_un (by omega), pk_un (by omega), pk_un (by omega), show j = a + 2 by omega, pk_us]
    · rw [pk_un (by omega), pk_un (by omega), pk_un (by omega), pk_un (by omega), pk_un (by omega), show j = a + 3 by omega, pk_us]
    · rw [pk_un (by omega), pk_un (by omega), pk_un (by omega), pk_un (by omega), show j = a + 4 by omega, pk_us]
    · rw [pk_un (by omega), pk_un (by omega), pk_un (by omega), show j = a + 5 by omega, pk_us]
    · rw [pk_un (by omega), pk_un (by omega), show j = a + 6 by omega, pk_us]
    · rw [pk_un (by omega), show j = a + 7 by omega, pk_us]
    · rw [show j = a + 8 by omega, pk_us]
  · rw [if_neg hj, pk_un (by omega), pk_un (by omega), pk_un (by omega), pk_un (by omega), pk_un (by omega), pk_un (by omega), pk_un (by omega), pk_un (by omega), pk_un (by omega)]
/-- copied from a row into another, from a place on -/
theorem cp_step {f g rs : Nat → Int32} {a i : Nat} (h : ∀ j, g j = if a ≤ j ∧ j < a + i then rs (j - a) else f j) : ∀ j, upd g (a + i) (rs i) j = if a ≤ j ∧ j < a + (i + 1) then rs (j - a) else f j := by
  intro j
  by_cases h1 : j = a + i
  · rw [h1, pk_us, if_pos (by omega), show a + i - a = i by omega]
  · rw [pk_un h1, h j]
    by_cases h2 : a ≤ j ∧ j < a + i
    · rw [if_pos h2, if_pos (by omega)]
    · rw [if_neg h2, if_neg (by omega)]
theorem sdM_new {dn dn2 : Nat → Nat} {f f2 ff ff2 fp fp2 rs ra rb : Nat → Int32} {s rd : Nat} {m : Int32} (hd : dn2 = fun j => if j = s then rd else dn j) (hf : ∀ j, f2 j = if 9 * s ≤ j ∧ j < 9 * s + 9 then rs (j - 9 * s) else f j) (h1 : ∀ j, ff2 j = if 24 * s ≤ j ∧ j < 24 * s + rd then ra (j - 24 * s) else ff j) (h2 : ∀ j, fp2 j = if 24 * s ≤ j ∧ j < 24 * s + rd then rb (j - 24 * s) else fp j) : sdM dn2 f2 ff2 fp2 s = sdP (stM rd rs ra rb m) := by
  have e0 : dn2 s = rd := by rw [hd]; exact if_pos rfl
  have e1 : nG (fun j => f2 (9 * s + (j - 1))) = gM rs := by
    funext j
    unfold gM nG
    by_cases hj : 1 ≤ j ∧ j ≤ 9
    · rw [if_pos hj, if_pos hj]
      show f2 (9 * s + (j - 1)) = rs (j - 1)
      rw [hf, if_pos (by omega), show 9 * s + (j - 1) - 9 * s = j - 1 by omega]
    · rw [if_neg hj, if_neg hj]
  have e2 : ∀ (x y z : Nat → Int32), (∀ j, y j = if 24 * s ≤ j ∧ j < 24 * s + rd then z (j - 24 * s) else x j) → clp rd (fun i => y (24 * s + i)) = clp rd z := by
    intro x y z h
    funext i
    unfold clp
    by_cases hi : i < rd
    · rw [if_pos hi, if_pos hi]
      show y (24 * s + i) = z i
      rw [h, if_pos (by omega), show 24 * s + i - 24 * s = i by omega]
    · rw [if_neg hi, if_neg hi]
  show (dn2 s, nG (fun j => f2 (9 * s + (j - 1))), clp (dn2 s) (fun i => ff2 (24 * s + i)), clp (dn2 s) (fun i => fp2 (24 * s + i))) = (rd, gM rs, clp rd ra, clp rd rb)
  rw [e0, e1, e2 ff ff2 ra h1, e2 fp fp2 rb h2]
theorem sdM_old {dn dn2 : Nat → Nat} {f f2 ff ff2 fp fp2 rs ra rb : Nat → Int32} {s rd : Nat} (hrd : rd ≤ 24) (hd : dn2 = fun j => if j = s then rd else dn j) (hf : ∀ j, f2 j = if 9 * s ≤ j ∧ j < 9 * s + 9 then rs (j - 9 * s) else f j) (h1 : ∀ j, ff2 j = if 24 * s ≤ j ∧ j < 24 * s + rd then ra (j - 24 * s) else ff j) (h2 : ∀ j, fp2 j = if 24 * s ≤ j ∧ j < 24 * s + rd then rb (j - 24 * s) else fp j) (hdn : ∀ j, dn j ≤ 24) : ∀ q, q ≠ s → sdM dn2 f2 ff2 fp2 q = sdM dn f ff fp q := by
  intro q hq
  have e0 : dn2 q = dn q := by rw [hd]; exact if_neg hq
  have e1 : nG (fun j => f2 (9 * q + (j - 1))) = nG (fun j => f (9 * q + (j - 1))) := by
    funext j
    unfold nG
    by_cases hj : 1 ≤ j ∧ j ≤ 9
    · rw [if_pos hj, if_pos hj]
      show f2 (9 * q + (j - 1)) = f (9 * q + (j - 1))
      rw [hf, if_neg (by omega)]
    · rw [if_neg hj, if_neg hj]
  have e2 : ∀ (x y z : Nat → Int32), (∀ j, y j = if 24 * s ≤ j ∧ j < 24 * s + rd then z (j - 24 * s) else x j) → clp (dn q) (fun i => y (24 * q + i)) = clp (dn q) (fun i => x (24 * q + i)) := by
    intro x y z h
    have h9 := hdn q
    funext i
    unfold clp
    by_cases hi : i < dn q
    · rw [if_pos hi, if_pos hi]
      show y (24 * q + i) = x (24 * q + i)
      rw [h, if_neg (by omega)]
    · rw [if_neg hi, if_neg hi]
  show (dn2 q, nG (fun j => f2 (9 * q + (j - 1))), clp (dn2 q) (fun i => ff2 (24 * q + i)), clp (dn2 q) (fun i => fp2 (24 * q + i))) = (dn q, nG (fun j => f (9 * q + (j - 1))), clp (dn q) (fun i => ff (24 * q + i)), clp (dn q) (fun i => fp (24 * q + i)))
  rw [e0, e1, e2 ff ff2 ra h1, e2 fp fp2 rb h2]
theorem stM_0 {fs ff fp : Nat → Int32} (h : gM fs = nG zNT) : stM 0 fs ff fp 0 = st0 := by
  unfold stM st0
  have e2 : ∀ f : Nat → Int32, clp 0 f = fun _ => 0 := by
    intro f
    funext j
    unfold clp
    rw [if_neg (by omega)]
  have e3 : toM 0 = fun _ => false := by
    funext c
    unfold toM
    by_cases h1 : 1 ≤ c ∧ c ≤ 9
    · rw [if_pos h1]
      exact BitVec.getLsbD_zero
    · rw [if_neg h1]
  rw [h, e2, e2, e3]
theorem clF_sk {b : Nat → Int32} {n t : Nat} {σ : PSt} : clF b n (skA b n t) σ = clF b n t σ := by
  unfold clF
  rw [skA_idem]
theorem by_neg {b : Nat → Int32} {n t : Nat} {r : Int32} (hb : ∀ j, 0 ≤ b j) (h : r = byF b n t) (hc : r < 0) : ¬ t < n := by
  intro q
  rw [byF_in q] at h
  rw [h] at hc
  exact absurd (hb t) (Int32.not_le.mpr hc)
theorem by_pos {b : Nat → Int32} {n t : Nat} {r : Int32} (h : r = byF b n t) (hc : ¬ r < 0) : t < n := by
  rcases Nat.lt_or_ge t n with q | q
  · exact q
  · rw [byF_out (by omega)] at h
    rw [h] at hc
    exact absurd (by decide) hc


set_option maxHeartbeats 4000000 in
set_option maxRecDepth 100000 in
theorem n_bare (l : Launch) (D : va_G) (k : Nat → ClassId) (st : Nat → Nat) (lo : Nat) (a : Nat → Nat) (tx : Nat) (t0 : Nat) (we : Nat) (rd : Nat) (ru : Nat) (rw : Nat) (ca : Nat) (fp : Int32) (wd : Int64) (nu : Int32) (na : Int32) (ts : Int32) (df : Int32) (db : Int32) (sd : Int32) (freadSingle : Nat → Int32)  : CWv l D k st lo yX8_bare cX8_bare 1 none ({ frames := 0, cells := 0, slots := 0, locals := 0 }) 0 0 [.ref (a 0)] [((a 0), .inr (8, (fX8 a (nI tx) fp (nI t0) wd (nI we) nu na (nI rd) ts (nI ru) (nI rw) (nI ca) df db sd))), (aI k (a 16) 9 freadSingle)] (fun (u : Nat × Int32 × (Nat → Int32)) => match u with | (rd_, ts_, freadSingle_) => rd_ = 0 ∧ ts_ = 0 ∧ gM freadSingle_ = nG zNT ∧ rsOK freadSingle_) (fun (u : Nat × Int32 × (Nat → Int32)) => match u with | (rd_, ts_, freadSingle_) => [((a 0), .inr (8, (fX8 a (nI tx) fp (nI t0) wd (nI we) nu na (nI rd_) ts_ (nI ru) (nI rw) (nI ca) df db sd))), (aI k (a 16) 9 freadSingle_)]) := by
  intro sz
  refine Met.ofW (cc := cX8_bare) (maxL := 1) (ret := none) (by decide) rfl ?_
  intro p e s m args below meth c s₁ B hml hv
  obtain ⟨rfl, hsz, hlo, hP, hK, hDL, hZ⟩ := hv
  have hx := B.exec
  have hb := B.bytes
  have hr := B.returns
  have hts := WS_ts B.pre
  have hown : s.vm.findClass RX8 = some m.cls := findClass_of_methodNamed B.named
  have hlocks := B.notSynchronized
  subst hsz
  have hD := hDL.self (sz := s.heap.size)
  have hAlo := A_lo hDL hlo
  generalize hAe : va_A [((a 0), .inr (8, (fX8 a (nI tx) fp (nI t0) wd (nI we) nu na (nI rd) ts (nI ru) (nI rw) (nI ca) df db sd))), (aI k (a 16) 9 freadSingle)] s.heap.size = A at hD hAlo ⊢
  have hA : ∀ q : Nat, s.heap.size ≤ q → A q := fun q h => by rw [← hAe]; exact Or.inr h
  have hS : va_S A s.heap s.heap [] := va_S.rf
  have hl := lv_entry ([.ref (a 0)]) (n := 1) (Nat.le_of_ble_eq_true rfl)
  rw [lg_entry_eq]
  generalize (lg_sl ([.ref (a 0)]) ++ List.replicate (1 - (lg_sl ([.ref (a 0)])).length) Slot.unset).toArray = ls at hl ⊢
  have hl : lv_has ls 1 [(0, .ref (a 0))] := hl
  refine lv_aload_n hx hb dX8_bare_0 rfl (lv_at hl 0 rfl) ?_
  refine lv_iconst (v := 0) hx hb dX8_bare_1 (by decide) ?_
  refine va_put (D := D) (ci := 8) (v := .int 0) (ty := .int) (C := RX8) (T := TX8) (N := 44) hx hb hts inX8 tyX8 tyX8_ok nmX8 hown hK hP hD hS 0 rfl rfl 12 (by decide) (hts _ tw_985) (fun _ h9 => h9) rfl (by decide +kernel) rfl rfl (Nat.le_of_ble_eq_true rfl) dX8_bare_2 (fun H locs hP hD hS => ?_)
  have hQ9 := pd_mk [((a 0), .inr (8, (fX8 a (nI tx) fp (nI t0) wd (nI we) nu na 0 ts (nI ru) (nI rw) (nI ca) df db sd))), (aI k (a 16) 9 freadSingle)] hP hD
  clear hP hD
  obtain ⟨hP, hD⟩ := hQ9
  refine lv_aload_n hx hb dX8_bare_5 rfl (lv_at hl 0 rfl) ?_
  refine lv_iconst (v := 0) hx hb dX8_bare_6 (by decide) ?_
  refine va_put (D := D) (ci := 8) (v := .int 0) (ty := .int) (C := RX8) (T := TX8) (N := 44) hx hb hts inX8 tyX8 tyX8_ok nmX8 hown hK hP hD hS 0 rfl rfl 16 (by decide) (hts _ tw_989) (fun _ h9 => h9) rfl (by decide +kernel) rfl rfl (Nat.le_of_ble_eq_true rfl) dX8_bare_7 (fun H locs hP hD hS => ?_)
  have hQ9 := pd_mk [((a 0), .inr (8, (fX8 a (nI tx) fp (nI t0) wd (nI we) nu na 0 0 (nI ru) (nI rw) (nI ca) df db sd))), (aI k (a 16) 9 freadSingle)] hP hD
  clear hP hD
  obtain ⟨hP, hD⟩ := hQ9
  refine lv_aload_n hx hb dX8_bare_10 rfl (lv_at hl 0 rfl) ?_
  refine va_get (D := D) (ci := 8) (v := .ref (a 16)) (C := RX8) (T := TX8) (N := 44) hx hb hts inX8 hown hK hP 0 rfl rfl 15 (by decide) (hts _ tw_988) (fun _ h9 => h9) rfl dX8_bare_11 ?_
  refine lv_iconst (v := 0) hx hb dX8_bare_14 (by decide) ?_
  refine lv_iconst (v := 0) hx hb dX8_bare_15 (by decide) ?_
  refine va_iast hx hb hK hP hD hS 1 1 rfl rfl (by unfold vp_in; decide) dX8_bare_16 (fun H locs hP hD hS => ?_)
  have hQ9 := pd_mk [((a 0), .inr (8, (fX8 a (nI tx) fp (nI t0) wd (nI we) nu na 0 0 (nI ru) (nI rw) (nI ca) df db sd))), (aI k (a 16) 9 (upd freadSingle (Int32.toNatClampNeg 0) 0))] hP hD
  clear hP hD
  obtain ⟨hP, hD⟩ := hQ9
  have hQ9 := pd_mk [((a 0), .inr (8, (fX8 a (nI tx) fp (nI t0) wd (nI we) nu na 0 0 (nI ru) (nI rw) (nI ca) df db sd))), (aI k (a 16) 9 (upd freadSingle 0 0))] hP hD
  clear hP hD
  obtain ⟨hP, hD⟩ := hQ9
  refine lv_aload_n hx hb dX8_bare_17 rfl (lv_at hl 0 rfl) ?_
  refine va_get (D := D) (ci := 8) (v := .ref (a 16)) (C := RX8) (T := TX8) (N := 44) hx hb hts inX8 hown hK hP 0 rfl rfl 15 (by decide) (hts _ tw_988) (fun _ h9 => h9) rfl dX8_bare_18 ?_
  refine lv_iconst (v := 1) hx hb dX8_bare_21 (by decide) ?_
  refine lv_iconst (v := 2) hx hb dX8_bare_22 (by decide) ?_
  refine va_iast hx hb hK hP hD hS 1 1 rfl rfl (by unfold vp_in; decide) dX8_bare_23 (fun H locs hP hD hS => ?_)
  have hQ9 := pd_mk [((a 0), .inr (8, (fX8 a (nI tx) fp (nI t0) wd (nI we) nu na 0 0 (nI ru) (nI rw) (nI ca) df db sd))), (aI k (a 16) 9 (upd (upd freadSingle 0 0) (Int32.toNatClampNeg 1) 2))] hP hD
  clear hP hD
  obtain ⟨hP, hD⟩ := hQ9
  have hQ9 := pd_mk [((a 0), .inr (8, (fX8 a (nI tx) fp (nI t0) wd (nI we) nu na 0 0 (nI ru) (nI rw) (nI ca) df db sd))), (aI k (a 16) 9 (upd (upd freadSingle 0 0) 1 2))] hP hD
  clear hP hD
  obtain ⟨hP, hD⟩ := hQ9
  refine lv_aload_n hx hb dX8_bare_24 rfl (lv_at hl 0 rfl) ?_
  refine va_get (D := D) (ci := 8) (v := .ref (a 16)) (C := RX8) (T := TX8) (N := 44) hx hb hts inX8 hown hK hP 0 rfl rfl 15 (by decide) (hts _ tw_988) (fun _ h9 => h9) rfl dX8_bare_25 ?_
  refine lv_iconst (v := 2) hx hb dX8_bare_28 (by decide) ?_
  refine lv_iconst (v := 1) hx hb dX8_bare_29 (by decide) ?_
  refine va_iast hx hb hK hP hD hS 1 1 rfl rfl (by unfold vp_in; decide) dX8_bare_30 (fun H locs hP hD hS => ?_)
  have hQ9 := pd_mk [((a 0), .inr (8, (fX8 a (nI tx) fp (nI t0) wd (nI we) nu na 0 0 (nI ru) (nI rw) (nI ca) df db sd))), (aI k (a 16) 9 (upd (upd (upd freadSingle 0 0) 1 2) (Int32.toNatClampNeg 2) 1))] hP hD
  clear hP hD
  obtain ⟨hP, hD⟩ := hQ9
  have hQ9 := pd_mk [((a 0), .inr (8, (fX8 a (nI tx) fp (nI t0) wd (nI we) nu na 0 0 (nI ru) (nI rw) (nI ca) df db sd))), (aI k (a 16) 9 (upd (upd (upd freadSingle 0 0) 1 2) 2 1))] hP hD
  clear hP hD
  obtain ⟨hP, hD⟩ := hQ9
  refine lv_aload_n hx hb dX8_bare_31 rfl (lv_at hl 0 rfl) ?_
  refine va_get (D := D) (ci := 8) (v := .ref (a 16)) (C := RX8) (T := TX8) (N := 44) hx hb hts inX8 hown hK hP 0 rfl rfl 15 (by decide) (hts _ tw_988) (fun _ h9 => h9) rfl dX8_bare_32 ?_
  refine lv_iconst (v := 3) hx hb dX8_bare_35 (by decide) ?_
  refine lv_iconst (v := 5) hx hb dX8_bare_36 (by decide) ?_
  refine va_iast hx hb hK hP hD hS 1 1 rfl rfl (by unfold vp_in; decide) dX8_bare_37 (fun H locs hP hD hS => ?_)
  have hQ9 := pd_mk [((a 0), .inr (8, (fX8 a (nI tx) fp (nI t0) wd (nI we) nu na 0 0 (nI ru) (nI rw) (nI ca) df db sd))), (aI k (a 16) 9 (upd (upd (upd (upd freadSingle 0 0) 1 2) 2 1) (Int32.toNatClampNeg 3) 5))] hP hD
  clear hP hD
  obtain ⟨hP, hD⟩ := hQ9
  have hQ9 := pd_mk [((a 0), .inr (8, (fX8 a (nI tx) fp (nI t0) wd (nI we) nu na 0 0 (nI ru) (nI rw) (nI ca) df db sd))), (aI k (a 16) 9 (upd (upd (upd (upd freadSingle 0 0) 1 2) 2 1) 3 5))] hP hD
  clear hP hD
  obtain ⟨hP, hD⟩ := hQ9
  refine lv_aload_n hx hb dX8_bare_38 rfl (lv_at hl 0 rfl) ?_
  refine va_get (D := D) (ci := 8) (v := .ref (a 16)) (C := RX8) (T := TX8) (N := 44) hx hb hts inX8 hown hK hP 0 rfl rfl 15 (by decide) (hts _ tw_988) (fun _ h9 => h9) rfl dX8_bare_39 ?_
  refine lv_iconst (v := 4) hx hb dX8_bare_42 (by decide) ?_
  refine lv_bipush (v := 30) hx hb dX8_bare_43 (by decide) ?_
  refine va_iast hx hb hK hP hD hS 1 1 rfl rfl (by unfold vp_in; decide) dX8_bare_45 (fun H locs hP hD hS => ?_)
  have hQ9 := pd_mk [((a 0), .inr (8, (fX8 a (nI tx) fp (nI t0) wd (nI we) nu na 0 0 (nI ru) (nI rw) (nI ca) df db sd))), (aI k (a 16) 9 (upd (upd (upd (upd (upd freadSingle 0 0) 1 2) 2 1) 3 5) (Int32.toNatClampNeg 4) 30))] hP hD
  clear hP hD
  obtain ⟨hP, hD⟩ := hQ9
  have hQ9 := pd_mk [((a 0), .inr (8, (fX8 a (nI tx) fp (nI t0) wd (nI we) nu na 0 0 (nI ru) (nI rw) (nI ca) df db sd))), (aI k (a 16) 9 (upd (upd (upd (upd (upd freadSingle 0 0) 1 2) 2 1) 3 5) 4 30))] hP hD
  clear hP hD
  obtain ⟨hP, hD⟩ := hQ9
  refine lv_aload_n hx hb dX8_bare_46 rfl (lv_at hl 0 rfl) ?_
  refine va_get (D := D) (ci := 8) (v := .ref (a 16)) (C := RX8) (T := TX8) (N := 44) hx hb hts inX8 hown hK hP 0 rfl rfl 15 (by decide) (hts _ tw_988) (fun _ h9 => h9) rfl dX8_bare_47 ?_
  refine lv_iconst (v := 5) hx hb dX8_bare_50 (by decide) ?_
  refine lv_iconst (v := 1) hx hb dX8_bare_51 (by decide) ?_
  refine va_iast hx hb hK hP hD hS 1 1 rfl rfl (by unfold vp_in; decide) dX8_bare_52 (fun H locs hP hD hS => ?_)
  have hQ9 := pd_mk [((a 0), .inr (8, (fX8 a (nI tx) fp (nI t0) wd (nI we) nu na 0 0 (nI ru) (nI rw) (nI ca) df db sd))), (aI k (a 16) 9 (upd (upd (upd (upd (upd (upd freadSingle 0 0) 1 2) 2 1) 3 5) 4 30) (Int32.toNatClampNeg 5) 1))] hP hD
  clear hP hD
  obtain ⟨hP, hD⟩ := hQ9
  have hQ9 := pd_mk [((a 0), .inr (8, (fX8 a (nI tx) fp (nI t0) wd (nI we) nu na 0 0 (nI ru) (nI rw) (nI ca) df db sd))), (aI k (a 16) 9 (upd (upd (upd (upd (upd (upd freadSingle 0 0) 1 2) 2 1) 3 5) 4 30) 5 1))] hP hD
  clear hP hD
  obtain ⟨hP, hD⟩ := hQ9
  refine lv_aload_n hx hb dX8_bare_53 rfl (lv_at hl 0 rfl) ?_
  refine va_get (D := D) (ci := 8) (v := .ref (a 16)) (C := RX8) (T := TX8) (N := 44) hx hb hts inX8 hown hK hP 0 rfl rfl 15 (by decide) (hts _ tw_988) (fun _ h9 => h9) rfl dX8_bare_54 ?_
  refine lv_bipush (v := 6) hx hb dX8_bare_57 (by decide) ?_
  refine lv_bipush (v := 10) hx hb dX8_bare_59 (by decide) ?_
  refine va_iast hx hb hK hP hD hS 1 1 rfl rfl (by unfold vp_in; decide) dX8_bare_61 (fun H locs hP hD hS => ?_)
  have hQ9 := pd_mk [((a 0), .inr (8, (fX8 a (nI tx) fp (nI t0) wd (nI we) nu na 0 0 (nI ru) (nI rw) (nI ca) df db sd))), (aI k (a 16) 9 (upd (upd (upd (upd (upd (upd (upd freadSingle 0 0) 1 2) 2 1) 3 5) 4 30) 5 1) (Int32.toNatClampNeg 6) 10))] hP hD
  clear hP hD
  obtain ⟨hP, hD⟩ := hQ9
  have hQ9 := pd_mk [((a 0), .inr (8, (fX8 a (nI tx) fp (nI t0) wd (nI we) nu na 0 0 (nI ru) (nI rw) (nI ca) df db sd))), (aI k (a 16) 9 (upd (upd (upd (upd (upd (upd (upd freadSingle 0 0) 1 2) 2 1) 3 5) 4 30) 5 1) 6 10))] hP hD
  clear hP hD
  obtain ⟨hP, hD⟩ := hQ9
  refine lv_aload_n hx hb dX8_bare_62 rfl (lv_at hl 0 rfl) ?_
  refine va_get (D := D) (ci := 8) (v := .ref (a 16)) (C := RX8) (T := TX8) (N := 44) hx hb hts inX8 hown hK hP 0 rfl rfl 15 (by decide) (hts _ tw_988) (fun _ h9 => h9) rfl dX8_bare_63 ?_
  refine lv_bipush (v := 7) hx hb dX8_bare_66 (by decide) ?_
  refine lv_iconst (v := 0) hx hb dX8_bare_68 (by decide) ?_
  refine va_iast hx hb hK hP hD hS 1 1 rfl rfl (by unfold vp_in; decide) dX8_bare_69 (fun H locs hP hD hS => ?_)
  have hQ9 := pd_mk [((a 0), .inr (8, (fX8 a (nI tx) fp (nI t0) wd (nI we) nu na 0 0 (nI ru) (nI rw) (nI ca) df db sd))), (aI k (a 16) 9 (upd (upd (upd (upd (upd (upd (upd (upd freadSingle 0 0) 1 2) 2 1) 3 5) 4 30) 5 1) 6 10) (Int32.toNatClampNeg 7) 0))] hP hD
  clear hP hD
  obtain ⟨hP, hD⟩ := hQ9
  have hQ9 := pd_mk [((a 0), .inr (8, (fX8 a (nI tx) fp (nI t0) wd (nI we) nu na 0 0 (nI ru) (nI rw) (nI ca) df db sd))), (aI k (a 16) 9 (upd (upd (upd (upd (upd (upd (upd (upd freadSingle 0 0) 1 2) 2 1) 3 5) 4 30) 5 1) 6 10) 7 0))] hP hD
  clear hP hD
  obtain ⟨hP, hD⟩ := hQ9
  refine lv_aload_n hx hb dX8_bare_70 rfl (lv_at hl 0 rfl) ?_
  refine va_get (D := D) (ci := 8) (v := .ref (a 16)) (C := RX8) (T := TX8) (N := 44) hx hb hts inX8 hown hK hP 0 rfl rfl 15 (by decide) (hts _ tw_988) (fun _ h9 => h9) rfl dX8_bare_71 ?_
  refine lv_bipush (v := 8) hx hb dX8_bare_74 (by decide) ?_
  refine lv_sipush (v := 200) hx hb dX8_bare_76 (by decide) ?_
  refine va_iast hx hb hK hP hD hS 1 1 rfl rfl (by unfold vp_in; decide) dX8_bare_79 (fun H locs hP hD hS => ?_)
  have hQ9 := pd_mk [((a 0), .inr (8, (fX8 a (nI tx) fp (nI t0) wd (nI we) nu na 0 0 (nI ru) (nI rw) (nI ca) df db sd))), (aI k (a 16) 9 (upd (upd (upd (upd (upd (upd (upd (upd (upd freadSingle 0 0) 1 2) 2 1) 3 5) 4 30) 5 1) 6 10) 7 0) (Int32.toNatClampNeg 8) 200))] hP hD
  clear hP hD
  obtain ⟨hP, hD⟩ := hQ9
  have hQ9 := pd_mk [((a 0), .inr (8, (fX8 a (nI tx) fp (nI t0) wd (nI we) nu na 0 0 (nI ru) (nI rw) (nI ca) df db sd))), (aI k (a 16) 9 (upd (upd (upd (upd (upd (upd (upd (upd (upd freadSingle 0 0) 1 2) 2 1) 3 5) 4 30) 5 1) 6 10) 7 0) 8 200))] hP hD
  clear hP hD
  obtain ⟨hP, hD⟩ := hQ9
  obtain ⟨hP9, hD9⟩ := pd_sub [((a 0), .inr (8, (fX8 a (nI tx) fp (nI t0) wd (nI we) nu na 0 0 (nI ru) (nI rw) (nI ca) df db sd))), (aI k (a 16) 9 (upd (upd (upd (upd (upd (upd (upd (upd (upd freadSingle 0 0) 1 2) 2 1) 3 5) 4 30) 5 1) 6 10) 7 0) 8 200))] [0, 1] hP hD (by decide) rfl
  exact W.vret hx hb hr (fun t ht hW => ⟨⟨(0, 0, (upd (upd (upd (upd (upd (upd (upd (upd (upd freadSingle 0 0) 1 2) 2 1) 3 5) 4 30) 5 1) 6 10) 7 0) 8 200)), rfl, ⟨rfl, rfl, (by funext j; match j with | 0 => rfl | 1 => rfl | 2 => rfl | 3 => rfl | 4 => rfl | 5 => rfl | 6 => rfl | 7 => rfl | 8 => rfl | 9 => rfl | j + 10 => rfl), ⟨1, by omega, rfl⟩, 0, by omega, rfl⟩, by rw [ht]; exact hP9, hD9⟩, hS.F ht⟩) hS.2.2 dX8_bare_80


set_option maxHeartbeats 4000000 in
set_option maxRecDepth 100000 in
theorem n_street (l : Launch) (D : va_G) (k : Nat → ClassId) (st : Nat → Nat) (lo : Nat) (a : Nat → Nat) (tx : Nat) (t0 : Nat) (we : Nat) (rd : Nat) (ru : Nat) (rw : Nat) (ca : Nat) (fp : Int32) (wd : Int64) (nu : Int32) (na : Int32) (ts : Int32) (df : Int32) (db : Int32) (sd : Int32) (ftext : Nat → Int32) (freadFree : Nat → Int32) (freadPrice : Nat → Int32) (freadSingle : Nat → Int32) (dn : Nat → Nat) (ffrees : Nat → Int32) (fprices : Nat → Int32) (se : Nat → Nat) (tm : Nat → Nat) (gs : Nat → Int32) (pz : Int32) (htx : tx ≤ 240) (hdn : ∀ j, dn j ≤ 24) (hse : ∀ j, se j ≤ 2) (htm : ∀ j, tm j ≤ 3) (hty : ∀ j, 0 ≤ ftext j) : CWi l D k st lo yX8_street cX8_street 4 (some .int) ({ frames := 5, cells := 0, slots := 0, locals := 121 }) 0 0 [.ref (a 0), .int pz] [((a 0), .inr (8, (fX8 a (nI tx) fp (nI t0) wd (nI we) nu na (nI rd) ts (nI ru) (nI rw) (nI ca) df db sd))), (aI k (a 5) 240 ftext), (aI k (a 14) 24 freadFree), (aI k (a 15) 24 freadPrice), (aI k (a 16) 9 freadSingle), (aI k (a 1) 3 (nF dn)), (aI k (a 2) 72 ffrees), (aI k (a 3) 72 fprices), (aI k (a 4) 27 (sg se tm gs))] (fun (r : Int32) (u : Nat × Int64 × Nat × Int32 × Int32 × Int32 × Nat × Int32 × Nat × (Nat → Int32) × (Nat → Int32) × (Nat → Int32) × (Nat → Nat) × (Nat → Int32) × (Nat → Int32) × (Nat → Nat) × (Nat → Nat) × (Nat → Int32)) => match u with | (t0_, wd_, we_, fp_, nu_, na_, rd_, ts_, tx_, freadFree_, freadPrice_, freadSingle_, dn_, ffrees_, fprices_, se_, tm_, gs_) => ((¬ inB pz 0 2 → r = -1001 ∧ tx_ = tx ∧ fp_ = fp ∧ (∀ q, sdM dn_ (sg se_ tm_ gs_) ffrees_ fprices_ q = sdM dn (sg se tm gs) ffrees fprices q)) ∧ (inB pz 0 2 → tx_ = 0 ∧ ((∃ e pl : Nat, 1 ≤ e ∧ e ≤ 4 ∧ (stF ftext tx 0).1 = e ∧ (stF ftext tx 0).2.1 = pl ∧ r = -10 - nI e ∧ fp_ = nI pl ∧ (∀ q, sdM dn_ (sg se_ tm_ gs_) ffrees_ fprices_ q = sdM dn (sg se tm gs) ffrees fprices q)) ∨ (∃ (sn : Nat) (σ : PSt), sn < 3 ∧ pz = nI sn ∧ stF ftext tx 0 = (0, 0, σ) ∧ r = nI σ.1 ∧ fp_ = -1 ∧ sdM dn_ (sg se_ tm_ gs_) ffrees_ fprices_ sn = sdP σ ∧ (∀ q, q ≠ sn → sdM dn_ (sg se_ tm_ gs_) ffrees_ fprices_ q = sdM dn (sg se tm gs) ffrees fprices q))))) ∧ tx_ ≤ tx ∧ (∀ j, dn_ j ≤ 24) ∧ (∀ j, se_ j ≤ 2) ∧ (∀ j, tm_ j ≤ 3)) (fun (u : Nat × Int64 × Nat × Int32 × Int32 × Int32 × Nat × Int32 × Nat × (Nat → Int32) × (Nat → Int32) × (Nat → Int32) × (Nat → Nat) × (Nat → Int32) × (Nat → Int32) × (Nat → Nat) × (Nat → Nat) × (Nat → Int32)) => match u with | (t0_, wd_, we_, fp_, nu_, na_, rd_, ts_, tx_, freadFree_, freadPrice_, freadSingle_, dn_, ffrees_, fprices_, se_, tm_, gs_) => [((a 0), .inr (8, (fX8 a (nI tx_) fp_ (nI t0_) wd_ (nI we_) nu_ na_ (nI rd_) ts_ (nI ru) (nI rw) (nI ca) df db sd))), (aI k (a 5) 240 ftext), (aI k (a 14) 24 freadFree_), (aI k (a 15) 24 freadPrice_), (aI k (a 16) 9 freadSingle_), (aI k (a 1) 3 (nF dn_)), (aI k (a 2) 72 ffrees_), (aI k (a 3) 72 fprices_), (aI k (a 4) 27 (sg se_ tm_ gs_))]) := by
  intro sz
  refine Met.ofW (cc := cX8_street) (maxL := 4) (ret := (some .int)) (by decide) rfl ?_
  intro p e s m args below meth c s₁ B hml hv
  obtain ⟨rfl, hsz, hlo, hP, hK, hDL, hZ⟩ := hv
  have hx := B.exec
  have hb := B.bytes
  have hr := B.returns
  have hts := WS_ts B.pre
  have hown : s.vm.findClass RX8 = some m.cls := findClass_of_methodNamed B.named
  have hlocks := B.notSynchronized
  subst hsz
  have hD := hDL.self (sz := s.heap.size)
  have hAlo := A_lo hDL hlo
  generalize hAe : va_A [((a 0), .inr (8, (fX8 a (nI tx) fp (nI t0) wd (nI we) nu na (nI rd) ts (nI ru) (nI rw) (nI ca) df db sd))), (aI k (a 5) 240 ftext), (aI k (a 14) 24 freadFree), (aI k (a 15) 24 freadPrice), (aI k (a 16) 9 freadSingle), (aI k (a 1) 3 (nF dn)), (aI k (a 2) 72 ffrees), (aI k (a 3) 72 fprices), (aI k (a 4) 27 (sg se tm gs))] s.heap.size = A at hD hAlo ⊢
  have hA : ∀ q : Nat, s.heap.size ≤ q → A q := fun q h => by rw [← hAe]; exact Or.inr h
  have hS : va_S A s.heap s.heap [] := va_S.rf
  have hl := lv_entry ([.ref (a 0), .int pz]) (n := 4) (Nat.le_of_ble_eq_true rfl)
  rw [lg_entry_eq]
  generalize (lg_sl ([.ref (a 0), .int pz]) ++ List.replicate (4 - (lg_sl ([.ref (a 0), .int pz])).length) Slot.unset).toArray = ls at hl ⊢
  have hl : lv_has ls 4 [(0, .ref (a 0)), (1, .int pz)] := hl
  refine lv_iload_n hx hb dX8_street_0 rfl (lv_at hl 1 rfl) ?_
  refine lv_i2l (v := pz.toInt64) hx hb dX8_street_1 rfl ?_
  refine lv_lconst (v := (0 : Int32).toInt64) hx hb dX8_street_2 (by decide) ?_
  refine lv_ldc2 hx hb hown (hts _ tw_1119) dX8_street_3 ?_
  refine lv_tl (y := ((2 : Int32).toInt64)) (by decide) ?_
  refine ro_i (D := D) (va_runS (As := [.long (pz.toInt64), .long ((0 : Int32).toInt64), .long ((2 : Int32).toInt64)]) (rest := []) ⟨hx, hb, hml, hown, hts⟩ ((k_in l D k st lo pz (0 : Int32) (2 : Int32)) s.heap.size) (va_cwS 3 hts (gS tw_1111 tw_1112 tw_87 tw_1113) rfl rfl rfl (by decide +kernel) ⟨Nat.le_of_ble_eq_true rfl, Nat.le_of_ble_eq_true rfl⟩) (pS hS hAlo hlo hP hK (va_Dlo hD hAlo) hZ [] (by decide) rfl) rfl rfl hl.1 rfl (lv_room (Nat.le_of_ble_eq_true rfl)) dX8_street_6 ⟨Nat.le_of_ble_eq_true rfl, Nat.le_of_ble_eq_true rfl⟩) hS hA hP (fun r_1 H locs hw_1 hP hS => ?_)
  try dsimp only at hw_1
  rcases hw_1 with ⟨rfl, hw_1⟩ | ⟨rfl, hw_1⟩
  · refine lv_if_ne (tgt := 16) hx hb dX8_street_9 (by decide) (fun _ => ?_) (fun h => absurd h (by decide))
    have hin_9 := hw_1
    obtain ⟨sn, -, hsn, rfl⟩ := inB_ofc (a := 0) (b := 2) (by omega) (by omega) hw_1
    refine lv_aload_n hx hb dX8_street_16 rfl (lv_at hl 0 rfl) ?_
    refine lv_iconst (v := (-1)) hx hb dX8_street_17 (by decide) ?_
    refine va_put (D := D) (ci := 8) (v := .int (-1)) (ty := .int) (C := RX8) (T := TX8) (N := 44) hx hb hts inX8 tyX8 tyX8_ok nmX8 hown hK hP hD hS 0 rfl rfl 6 (by decide) (hts _ tw_979) (fun _ h9 => h9) rfl (by decide +kernel) rfl rfl (Nat.le_of_ble_eq_true rfl) dX8_street_18 (fun H locs hP hD hS => ?_)
    have hQ9 := pd_mk [((a 0), .inr (8, (fX8 a (nI tx) (-1) (nI t0) wd (nI we) nu na (nI rd) ts (nI ru) (nI rw) (nI ca) df db sd))), (aI k (a 5) 240 ftext), (aI k (a 14) 24 freadFree), (aI k (a 15) 24 freadPrice), (aI k (a 16) 9 freadSingle), (aI k (a 1) 3 (nF dn)), (aI k (a 2) 72 ffrees), (aI k (a 3) 72 fprices), (aI k (a 4) 27 (sg se tm gs))] hP hD
    clear hP hD
    obtain ⟨hP, hD⟩ := hQ9
    refine lv_aload_n hx hb dX8_street_21 rfl (lv_at hl 0 rfl) ?_
    refine lv_iconst (v := 0) hx hb dX8_street_22 (by decide) ?_
    refine va_put (D := D) (ci := 8) (v := .int 0) (ty := .int) (C := RX8) (T := TX8) (N := 44) hx hb hts inX8 tyX8 tyX8_ok nmX8 hown hK hP hD hS 0 rfl rfl 7 (by decide) (hts _ tw_980) (fun _ h9 => h9) rfl (by decide +kernel) rfl rfl (Nat.le_of_ble_eq_true rfl) dX8_street_23 (fun H locs hP hD hS => ?_)
    have hQ9 := pd_mk [((a 0), .inr (8, (fX8 a (nI tx) (-1) 0 wd (nI we) nu na (nI rd) ts (nI ru) (nI rw) (nI ca) df db sd))), (aI k (a 5) 240 ftext), (aI k (a 14) 24 freadFree), (aI k (a 15) 24 freadPrice), (aI k (a 16) 9 freadSingle), (aI k (a 1) 3 (nF dn)), (aI k (a 2) 72 ffrees), (aI k (a 3) 72 fprices), (aI k (a 4) 27 (sg se tm gs))] hP hD
    clear hP hD
    obtain ⟨hP, hD⟩ := hQ9
    refine lv_aload_n hx hb dX8_street_26 rfl (lv_at hl 0 rfl) ?_
    refine rw_v (D := D) (wr := [(aI k (a 5) 240 ftext), (aI k (a 14) 24 freadFree), (aI k (a 15) 24 freadPrice), (aI k (a 1) 3 (nF dn)), (aI k (a 2) 72 ffrees), (aI k (a 3) 72 fprices), (aI k (a 4) 27 (sg se tm gs))]) (va_runV (As := []) (rest := []) ⟨hx, hb, hml, hown, hts⟩ ((n_bare l D k st lo a tx 0 we rd ru rw ca (-1) wd nu na ts df db sd freadSingle) H.size) (cwV 0 hts (gV tw_969 tw_971 tw_26 tw_87 tw_972) rfl rfl rfl (by decide +kernel) ⟨Nat.le_of_ble_eq_true rfl, Nat.le_of_ble_eq_true rfl⟩) (pV hS hAlo hlo hP hK (va_Dlo hD hAlo) hZ [0, 4] (by decide) rfl (ci := 8) (q := (RX8, TX8, 44)) (q0 := 0) rfl rfl) rfl rfl hl.1 rfl (lv_room (Nat.le_of_ble_eq_true rfl)) dX8_street_27 ⟨Nat.le_of_ble_eq_true rfl, Nat.le_of_ble_eq_true rfl⟩) hS hA hP hD [0, 4] [1, 2, 3, 5, 6, 7, 8] rfl rfl (by decide) (by decide) (fun u H locs hw_2 hP hD hS => ?_)
    obtain ⟨rd__2, ts__2, freadSingle__2⟩ := u
    have hQ9 := pd_mk [(aI k (a 5) 240 ftext), (aI k (a 14) 24 freadFree), (aI k (a 15) 24 freadPrice), (aI k (a 1) 3 (nF dn)), (aI k (a 2) 72 ffrees), (aI k (a 3) 72 fprices), (aI k (a 4) 27 (sg se tm gs)), ((a 0), .inr (8, (fX8 a (nI tx) (-1) 0 wd (nI we) nu na (nI rd__2) ts__2 (nI ru) (nI rw) (nI ca) df db sd))), (aI k (a 16) 9 freadSingle__2)] hP hD
    clear hP hD
    obtain ⟨hP, hD⟩ := hQ9
    try dsimp only at hw_2
    have hb_3 := hw_2.2.2
    obtain ⟨hs0_4, hs1_4⟩ := (⟨hw_2.1, hw_2.2.1⟩ : _ ∧ _)
    replace hs0_4 := hs0_4.symm
    subst hs0_4
    replace hs1_4 := hs1_4.symm
    subst hs1_4
    refine lv_iconst (v := 0) hx hb dX8_street_30 (by decide) ?_
    refine lv_istore_n (lv' := [(2, .int 0), (0, .ref (a 0)), (1, .int (nI sn))]) hx hb dX8_street_31 rfl hl (by decide) rfl (fun ls hl => ?_)
    refine W_loop (σ := Nat × Nat × Int64 × Nat × Int32 × Int32 × Int32 × Nat × Int32 × (Nat → Int32) × (Nat → Int32) × (Nat → Int32)) (fun (n_ : Nat) (x_ : Nat × Nat × Int64 × Nat × Int32 × Int32 × Int32 × Nat × Int32 × (Nat → Int32) × (Nat → Int32) × (Nat → Int32)) (H : Heap) (locs : List Loc) (ls : Array Slot) => match x_ with | (fl_5, t_5, wd2_5, we2_5, fp2_5, nu2_5, na2_5, rd2_5, ts2_5, ra_5, rb_5, rs_5) => n_ = 2 * (tx - t_5) + (if fl_5 = 0 then 1 else 0) ∧ (t_5 ≤ tx ∧ fl_5 ≤ 4 ∧ rd2_5 ≤ 24 ∧ (fl_5 = 0 → rsOK rs_5) ∧ ((fl_5 = 0 ∧ fp2_5 = -1 ∧ ∃ k : Nat, tx - t_5 ≤ k ∧ stL ftext tx k t_5 (stM rd2_5 rs_5 ra_5 rb_5 ts2_5) = (stL ftext tx 240 0 st0)) ∨ (1 ≤ fl_5 ∧ (stL ftext tx 240 0 st0).1 = fl_5 ∧ ∃ pl : Nat, (stL ftext tx 240 0 st0).2.1 = pl ∧ fp2_5 = nI pl))) ∧ va_P D classes [(aI k (a 5) 240 ftext), (aI k (a 14) 24 ra_5), (aI k (a 15) 24 rb_5), (aI k (a 1) 3 (nF dn)), (aI k (a 2) 72 ffrees), (aI k (a 3) 72 fprices), (aI k (a 4) 27 (sg se tm gs)), ((a 0), .inr (8, (fX8 a (nI tx) fp2_5 (nI t_5) wd2_5 (nI we2_5) nu2_5 na2_5 (nI rd2_5) ts2_5 (nI ru) (nI rw) (nI ca) df db sd))), (aI k (a 16) 9 rs_5)] H ∧ va_D A [(aI k (a 5) 240 ftext), (aI k (a 14) 24 ra_5), (aI k (a 15) 24 rb_5), (aI k (a 1) 3 (nF dn)), (aI k (a 2) 72 ffrees), (aI k (a 3) 72 fprices), (aI k (a 4) 27 (sg se tm gs)), ((a 0), .inr (8, (fX8 a (nI tx) fp2_5 (nI t_5) wd2_5 (nI we2_5) nu2_5 na2_5 (nI rd2_5) ts2_5 (nI ru) (nI rw) (nI ca) df db sd))), (aI k (a 16) 9 rs_5)] ∧ va_S A s.heap H locs ∧ lv_has ls 4 [(2, .int (nI fl_5)), (0, .ref (a 0)), (1, .int (nI sn))]) (fun n_5 x_5 H locs ls hI ih_5 => ?_) _ (0, 0, wd, we, (-1), nu, na, 0, 0, freadFree, freadPrice, freadSingle__2) ⟨rfl, ⟨by omega, by omega, by omega, fun _ => hb_3.2, .inl ⟨rfl, rfl, 240, by omega, by rw [stM_0 hb_3.1]⟩⟩, hP, hD, hS, (lv_sub hl [0, 1, 2] rfl)⟩
    obtain ⟨fl_5, t_5, wd2_5, we2_5, fp2_5, nu2_5, na2_5, rd2_5, ts2_5, ra_5, rb_5, rs_5⟩ := x_5
    obtain ⟨hm_5, hv_5, hP, hD, hS, hl⟩ := hI
    subst hm_5
    refine lv_iload_n hx hb dX8_street_32 rfl (lv_at hl 0 rfl) ?_
    refine lv_if_ne (tgt := 51) hx hb dX8_street_33 (by decide) (fun c_6 => ?_) (fun c_6 => ?_)
    · have c_6 : ¬ (fl_5 = 0) := fun h => c_6 ((nI_eq (a := fl_5) (b := 0) (by omega) (by omega)).mpr h)
      obtain ⟨hfe_7, hge_7, pl_7, hpe_7, hpf_7⟩ : 1 ≤ fl_5 ∧ (stL ftext tx 240 0 st0).1 = fl_5 ∧ ∃ pl : Nat, (stL ftext tx 240 0 st0).2.1 = pl ∧ fp2_5 = nI pl := by rcases hv_5.2.2.2.2 with ⟨h, -⟩ | h; exact absurd h (by omega); exact h
      subst hpf_7
      refine lv_iload_n hx hb dX8_street_51 rfl (lv_at hl 0 rfl) ?_
      refine lv_if_ne (tgt := 74) hx hb dX8_street_52 (by decide) (fun _ => ?_) (fun h => absurd ((nI_eq (a := fl_5) (b := 0) (by omega) (by omega)).mp h) (by omega))
      refine lv_iload_n hx hb dX8_street_74 rfl (lv_at hl 0 rfl) ?_
      refine lv_istore_n (lv' := [(2, .int (nI fl_5)), (0, .ref (a 0)), (1, .int (nI sn))]) hx hb dX8_street_75 rfl hl (by decide) rfl (fun ls hl => ?_)
      refine lv_aload_n hx hb dX8_street_76 rfl (lv_at hl 1 rfl) ?_
      refine lv_iconst (v := 0) hx hb dX8_street_77 (by decide) ?_
      refine va_put (D := D) (ci := 8) (v := .int 0) (ty := .int) (C := RX8) (T := TX8) (N := 44) hx hb hts inX8 tyX8 tyX8_ok nmX8 hown hK hP hD hS 7 rfl rfl 5 (by decide) (hts _ tw_978) (fun _ h9 => h9) rfl (by decide +kernel) rfl rfl (Nat.le_of_ble_eq_true rfl) dX8_street_78 (fun H locs hP hD hS => ?_)
      have hQ9 := pd_mk [(aI k (a 5) 240 ftext), (aI k (a 14) 24 ra_5), (aI k (a 15) 24 rb_5), (aI k (a 1) 3 (nF dn)), (aI k (a 2) 72 ffrees), (aI k (a 3) 72 fprices), (aI k (a 4) 27 (sg se tm gs)), ((a 0), .inr (8, (fX8 a 0 (nI pl_7) (nI t_5) wd2_5 (nI we2_5) nu2_5 na2_5 (nI rd2_5) ts2_5 (nI ru) (nI rw) (nI ca) df db sd))), (aI k (a 16) 9 rs_5)] hP hD
      clear hP hD
      obtain ⟨hP, hD⟩ := hQ9
      refine lv_iload_n hx hb dX8_street_81 rfl (lv_at hl 0 rfl) ?_
      refine lv_if_le (tgt := 90) hx hb dX8_street_82 (by decide) (fun h => absurd ((nI_leI (a := fl_5) (b := 0) (by omega) (by omega)).mp h) (by omega)) (fun _ => ?_)
      refine lv_bipush (v := (-10)) hx hb dX8_street_85 (by decide) ?_
      refine lv_iload_n hx hb dX8_street_87 rfl (lv_at hl 0 rfl) ?_
      refine lv_isub hx hb dX8_street_88 ?_
      refine lv_topi (fun x_10 ex_10 => ?_)
      obtain ⟨hP9, hD9⟩ := pd_sub [((a 0), .inr (8, (fX8 a 0 (nI pl_7) (nI t_5) wd2_5 (nI we2_5) nu2_5 na2_5 (nI rd2_5) ts2_5 (nI ru) (nI rw) (nI ca) df db sd))), (aI k (a 5) 240 ftext), (aI k (a 14) 24 ra_5), (aI k (a 15) 24 rb_5), (aI k (a 16) 9 rs_5), (aI k (a 1) 3 (nF dn)), (aI k (a 2) 72 ffrees), (aI k (a 3) 72 fprices), (aI k (a 4) 27 (sg se tm gs))] [7, 0, 1, 2, 8, 3, 4, 5, 6] hP hD (by decide +kernel) rfl
      exact W.iret (v := x_10) hx hb hr (fun t ht hW => ⟨⟨x_10, (t_5, wd2_5, we2_5, (nI pl_7), nu2_5, na2_5, rd2_5, ts2_5, 0, ra_5, rb_5, rs_5, dn, ffrees, fprices, se, tm, gs), rfl, ⟨⟨(fun h => absurd hin_9 h), fun _ => ⟨rfl, .inl ⟨fl_5, pl_7, hfe_7, by omega, (sf_er hge_7 hfe_7 hpe_7).1, (sf_er hge_7 hfe_7 hpe_7).2, ex_10, rfl, fun _ => rfl⟩⟩⟩, by omega, hdn, hse, htm⟩, by rw [ht]; exact hP9, hD9⟩, hS.F ht⟩) hS.2.2 dX8_street_89
    · have c_6 := (nI_eq (a := fl_5) (b := 0) (by omega) (by omega)).mp c_6
      obtain ⟨hfm_11, k_11, hkk_11, hst_11⟩ : fp2_5 = -1 ∧ ∃ k : Nat, tx - t_5 ≤ k ∧ stL ftext tx k t_5 (stM rd2_5 rs_5 ra_5 rb_5 ts2_5) = (stL ftext tx 240 0 st0) := by rcases hv_5.2.2.2.2 with ⟨-, h⟩ | ⟨h, -⟩; exact h; exact absurd h (by omega)
      subst hfm_11
      refine lv_aload_n hx hb dX8_street_36 rfl (lv_at hl 1 rfl) ?_
      refine rw_i (D := D) (wr := [(aI k (a 14) 24 ra_5), (aI k (a 15) 24 rb_5), (aI k (a 1) 3 (nF dn)), (aI k (a 2) 72 ffrees), (aI k (a 3) 72 fprices), (aI k (a 4) 27 (sg se tm gs)), (aI k (a 16) 9 rs_5)]) (va_runV (As := []) (rest := []) ⟨hx, hb, hml, hown, hts⟩ ((n_here l D k st lo a tx t_5 we2_5 rd2_5 ru rw ca (-1) wd2_5 nu2_5 na2_5 ts2_5 df db sd ftext (by first | assumption | omega) (by first | assumption | omega)) H.size) (cwV 0 hts (gV tw_1120 tw_1122 tw_27 tw_87 tw_1123) rfl rfl rfl (by decide +kernel) ⟨Nat.le_of_ble_eq_true rfl, Nat.le_of_ble_eq_true rfl⟩) (pV hS hAlo hlo hP hK (va_Dlo hD hAlo) hZ [7, 0] (by decide) rfl (ci := 8) (q := (RX8, TX8, 44)) (q0 := 0) rfl rfl) rfl rfl hl.1 rfl (lv_room (Nat.le_of_ble_eq_true rfl)) dX8_street_37 ⟨Nat.le_of_ble_eq_true rfl, Nat.le_of_ble_eq_true rfl⟩) hS hA hP hD [7, 0] [1, 2, 3, 4, 5, 6, 8] rfl rfl (by decide) (by decide) (fun r_12 u H locs hw_12 hP hD hS => ?_)
      obtain ⟨t0__12, rfl⟩ : ∃ z, z = u := ⟨_, rfl⟩
      have hQ9 := pd_mk [(aI k (a 14) 24 ra_5), (aI k (a 15) 24 rb_5), (aI k (a 1) 3 (nF dn)), (aI k (a 2) 72 ffrees), (aI k (a 3) 72 fprices), (aI k (a 4) 27 (sg se tm gs)), (aI k (a 16) 9 rs_5), ((a 0), .inr (8, (fX8 a (nI tx) (-1) (nI t0__12) wd2_5 (nI we2_5) nu2_5 na2_5 (nI rd2_5) ts2_5 (nI ru) (nI rw) (nI ca) df db sd))), (aI k (a 5) 240 ftext)] hP hD
      clear hP hD
      obtain ⟨hP, hD⟩ := hQ9
      try dsimp only at hw_12
      refine lv_if_lt (tgt := 51) hx hb dX8_street_40 (by decide) (fun c_13 => ?_) (fun c_13 => ?_)
      · have hend_14 : (stL ftext tx 240 0 st0) = (0, 0, stM rd2_5 rs_5 ra_5 rb_5 ts2_5) := hst_11.symm.trans (sl_end (show ¬ skA ftext tx t_5 < tx by rw [← hw_12.1]; exact by_neg hty hw_12.2.1 c_13))
        refine lv_iload_n hx hb dX8_street_51 rfl (lv_at hl 0 rfl) ?_
        refine lv_if_ne (tgt := 74) hx hb dX8_street_52 (by decide) (fun h => absurd ((nI_eq (a := fl_5) (b := 0) (by omega) (by omega)).mpr (by omega)) h) (fun _ => ?_)
        refine lv_aload_n hx hb dX8_street_55 rfl (lv_at hl 1 rfl) ?_
        refine va_get (D := D) (ci := 8) (v := .int (nI rd2_5)) (C := RX8) (T := TX8) (N := 44) hx hb hts inX8 hown hK hP 7 rfl rfl 12 (by decide) (hts _ tw_985) (fun _ h9 => h9) rfl dX8_street_56 ?_
        refine lv_if_ne (tgt := 74) hx hb dX8_street_59 (by decide) (fun c_16 => ?_) (fun c_16 => ?_)
        · have c_16 : ¬ (rd2_5 = 0) := fun h => c_16 ((nI_eq (a := rd2_5) (b := 0) (by omega) (by omega)).mpr h)
          refine lv_iload_n hx hb dX8_street_74 rfl (lv_at hl 0 rfl) ?_
          refine lv_istore_n (lv' := [(2, .int (nI fl_5)), (0, .ref (a 0)), (1, .int (nI sn))]) hx hb dX8_street_75 rfl hl (by decide) rfl (fun ls hl => ?_)
          refine lv_aload_n hx hb dX8_street_76 rfl (lv_at hl 1 rfl) ?_
          refine lv_iconst (v := 0) hx hb dX8_street_77 (by decide) ?_
          refine va_put (D := D) (ci := 8) (v := .int 0) (ty := .int) (C := RX8) (T := TX8) (N := 44) hx hb hts inX8 tyX8 tyX8_ok nmX8 hown hK hP hD hS 7 rfl rfl 5 (by decide) (hts _ tw_978) (fun _ h9 => h9) rfl (by decide +kernel) rfl rfl (Nat.le_of_ble_eq_true rfl) dX8_street_78 (fun H locs hP hD hS => ?_)
          have hQ9 := pd_mk [(aI k (a 14) 24 ra_5), (aI k (a 15) 24 rb_5), (aI k (a 1) 3 (nF dn)), (aI k (a 2) 72 ffrees), (aI k (a 3) 72 fprices), (aI k (a 4) 27 (sg se tm gs)), (aI k (a 16) 9 rs_5), ((a 0), .inr (8, (fX8 a 0 (-1) (nI t0__12) wd2_5 (nI we2_5) nu2_5 na2_5 (nI rd2_5) ts2_5 (nI ru) (nI rw) (nI ca) df db sd))), (aI k (a 5) 240 ftext)] hP hD
          clear hP hD
          obtain ⟨hP, hD⟩ := hQ9
          refine lv_iload_n hx hb dX8_street_81 rfl (lv_at hl 0 rfl) ?_
          refine lv_if_le (tgt := 90) hx hb dX8_street_82 (by decide) (fun _ => ?_) (fun h => absurd ((nI_leI (a := fl_5) (b := 0) (by omega) (by omega)).mpr (by omega)) h)
          obtain ⟨⟨ra_9, hra_9, era_9⟩, rb_9, hrb_9, erb_9⟩ := hv_5.2.2.2.1 (by omega)
          refine lv_aload_n hx hb dX8_street_90 rfl (lv_at hl 1 rfl) ?_
          refine va_get (D := D) (ci := 8) (v := .ref (a 1)) (C := RX8) (T := TX8) (N := 44) hx hb hts inX8 hown hK hP 7 rfl rfl 0 (by decide) (hts _ tw_973) (fun _ h9 => h9) rfl dX8_street_91 ?_
          refine lv_iload_n hx hb dX8_street_94 rfl (lv_at hl 2 rfl) ?_
          refine lv_aload_n hx hb dX8_street_95 rfl (lv_at hl 1 rfl) ?_
          refine va_get (D := D) (ci := 8) (v := .int (nI rd2_5)) (C := RX8) (T := TX8) (N := 44) hx hb hts inX8 hown hK hP 7 rfl rfl 12 (by decide) (hts _ tw_985) (fun _ h9 => h9) rfl dX8_street_96 ?_
          refine va_iast hx hb hK hP hD hS 2 1 rfl rfl (vp_in_nI (by omega) (by decide)) dX8_street_99 (fun H locs hP hD hS => ?_)
          have hQ9 := pd_mk [(aI k (a 14) 24 ra_5), (aI k (a 15) 24 rb_5), (aI k (a 1) 3 (upd (nF dn) (Int32.toNatClampNeg (nI sn)) (nI rd2_5))), (aI k (a 2) 72 ffrees), (aI k (a 3) 72 fprices), (aI k (a 4) 27 (sg se tm gs)), (aI k (a 16) 9 rs_5), ((a 0), .inr (8, (fX8 a 0 (-1) (nI t0__12) wd2_5 (nI we2_5) nu2_5 na2_5 (nI rd2_5) ts2_5 (nI ru) (nI rw) (nI ca) df db sd))), (aI k (a 5) 240 ftext)] hP hD
          clear hP hD
          obtain ⟨hP, hD⟩ := hQ9
          rw [nI_clamp (n := sn) (by omega)] at hP hD
          rw [show upd (nF dn) sn (nI rd2_5) = nF (fun j => if j = sn then rd2_5 else dn j) from nF_upd _ _ _] at hP hD
          obtain ⟨d_18, hd_18⟩ : ∃ z : Nat → Nat, z = (fun j => if j = sn then rd2_5 else dn j) := ⟨_, rfl⟩
          rw [← hd_18] at hP hD
          refine lv_iconst (v := 0) hx hb dX8_street_100 (by decide) ?_
          refine lv_istore_n (lv' := [(3, .int 0), (2, .int (nI fl_5)), (0, .ref (a 0)), (1, .int (nI sn))]) hx hb dX8_street_101 rfl hl (by decide) rfl (fun ls hl => ?_)
          refine W_loop (σ := Nat × (Nat → Int32) × (Nat → Int32)) (fun (n_ : Nat) (x_ : Nat × (Nat → Int32) × (Nat → Int32)) (H : Heap) (locs : List Loc) (ls : Array Slot) => match x_ with | (ic_19, fr2_19, pr2_19) => n_ = rd2_5 - ic_19 ∧ (ic_19 ≤ rd2_5 ∧ (∀ j, fr2_19 j = if 24 * sn ≤ j ∧ j < 24 * sn + ic_19 then ra_5 (j - 24 * sn) else ffrees j) ∧ (∀ j, pr2_19 j = if 24 * sn ≤ j ∧ j < 24 * sn + ic_19 then rb_5 (j - 24 * sn) else fprices j)) ∧ va_P D classes [(aI k (a 14) 24 ra_5), (aI k (a 15) 24 rb_5), (aI k (a 1) 3 (nF d_18)), (aI k (a 2) 72 fr2_19), (aI k (a 3) 72 pr2_19), (aI k (a 4) 27 (sg se tm gs)), (aI k (a 16) 9 rs_5), ((a 0), .inr (8, (fX8 a 0 (-1) (nI t0__12) wd2_5 (nI we2_5) nu2_5 na2_5 (nI rd2_5) ts2_5 (nI ru) (nI rw) (nI ca) df db sd))), (aI k (a 5) 240 ftext)] H ∧ va_D A [(aI k (a 14) 24 ra_5), (aI k (a 15) 24 rb_5), (aI k (a 1) 3 (nF d_18)), (aI k (a 2) 72 fr2_19), (aI k (a 3) 72 pr2_19), (aI k (a 4) 27 (sg se tm gs)), (aI k (a 16) 9 rs_5), ((a 0), .inr (8, (fX8 a 0 (-1) (nI t0__12) wd2_5 (nI we2_5) nu2_5 na2_5 (nI rd2_5) ts2_5 (nI ru) (nI rw) (nI ca) df db sd))), (aI k (a 5) 240 ftext)] ∧ va_S A s.heap H locs ∧ lv_has ls 4 [(3, .int (nI ic_19)), (2, .int (nI fl_5)), (0, .ref (a 0)), (1, .int (nI sn))]) (fun n_19 x_19 H locs ls hI ih_19 => ?_) _ (0, ffrees, fprices) ⟨rfl, ⟨by omega, fun j => by rw [if_neg (by omega)], fun j => by rw [if_neg (by omega)]⟩, hP, hD, hS, (lv_sub hl [0, 1, 2, 3] rfl)⟩
          obtain ⟨ic_19, fr2_19, pr2_19⟩ := x_19
          obtain ⟨hm_19, hv_19, hP, hD, hS, hl⟩ := hI
          subst hm_19
          refine lv_iload_n hx hb dX8_street_102 rfl (lv_at hl 0 rfl) ?_
          refine lv_aload_n hx hb dX8_street_103 rfl (lv_at hl 2 rfl) ?_
          refine va_get (D := D) (ci := 8) (v := .int (nI rd2_5)) (C := RX8) (T := TX8) (N := 44) hx hb hts inX8 hown hK hP 7 rfl rfl 12 (by decide) (hts _ tw_985) (fun _ h9 => h9) rfl dX8_street_104 ?_
          refine lv_icmp_ge (tgt := 150) hx hb dX8_street_107 (by decide) (fun c_20 => ?_) (fun c_20 => ?_)
          · have c_20 := (nI_leI (a := rd2_5) (b := ic_19) (by omega) (by omega)).mp c_20
            refine lv_iconst (v := 0) hx hb dX8_street_150 (by decide) ?_
            refine lv_istore_n (lv' := [(3, .int 0), (2, .int (nI fl_5)), (0, .ref (a 0)), (1, .int (nI sn))]) hx hb dX8_street_151 rfl hl (by decide) rfl (fun ls hl => ?_)
            refine lv_iload_n hx hb dX8_street_152 rfl (lv_at hl 0 rfl) ?_
            refine lv_bipush (v := 9) hx hb dX8_street_153 (by decide) ?_
            refine lv_icmp_ge (tgt := 181) hx hb dX8_street_155 (by decide) (fun h => absurd h (by decide)) (fun _ => ?_)
            refine lv_aload_n hx hb dX8_street_158 rfl (lv_at hl 2 rfl) ?_
            refine va_get (D := D) (ci := 8) (v := .ref (a 4)) (C := RX8) (T := TX8) (N := 44) hx hb hts inX8 hown hK hP 7 rfl rfl 3 (by decide) (hts _ tw_976) (fun _ h9 => h9) rfl dX8_street_159 ?_
            refine lv_bipush (v := 9) hx hb dX8_street_162 (by decide) ?_
            refine lv_iload_n hx hb dX8_street_164 rfl (lv_at hl 3 rfl) ?_
            refine lv_imul hx hb dX8_street_165 ?_
            refine lv_ti (y := (nI (9 * sn))) (pk_mul 9 sn) ?_
            refine lv_iload_n hx hb dX8_street_166 rfl (lv_at hl 0 rfl) ?_
            refine lv_iadd hx hb dX8_street_167 ?_
            refine lv_ti (y := (nI (9 * sn + 0))) (nI_add (9 * sn) 0) ?_
            refine lv_aload_n hx hb dX8_street_168 rfl (lv_at hl 2 rfl) ?_
            refine va_get (D := D) (ci := 8) (v := .ref (a 16)) (C := RX8) (T := TX8) (N := 44) hx hb hts inX8 hown hK hP 7 rfl rfl 15 (by decide) (hts _ tw_988) (fun _ h9 => h9) rfl dX8_street_169 ?_
            refine lv_iload_n hx hb dX8_street_172 rfl (lv_at hl 0 rfl) ?_
            refine va_iald hx hb hK hP 6 1 rfl rfl (by unfold vp_in; decide) dX8_street_173 ?_
            refine lv_ti (y := (rs_5 0)) (by rfl) ?_
            refine va_iast hx hb hK hP hD hS 5 1 rfl rfl (vp_in_nI (by omega) (by decide)) dX8_street_174 (fun H locs hP hD hS => ?_)
            have hQ9 := pd_mk [(aI k (a 14) 24 ra_5), (aI k (a 15) 24 rb_5), (aI k (a 1) 3 (nF d_18)), (aI k (a 2) 72 fr2_19), (aI k (a 3) 72 pr2_19), (aI k (a 4) 27 (upd (sg se tm gs) (Int32.toNatClampNeg (nI (9 * sn + 0))) (rs_5 0))), (aI k (a 16) 9 rs_5), ((a 0), .inr (8, (fX8 a 0 (-1) (nI t0__12) wd2_5 (nI we2_5) nu2_5 na2_5 (nI rd2_5) ts2_5 (nI ru) (nI rw) (nI ca) df db sd))), (aI k (a 5) 240 ftext)] hP hD
            clear hP hD
            obtain ⟨hP, hD⟩ := hQ9
            rw [nI_clamp (n := (9 * sn + 0)) (by omega)] at hP hD
            have hsg_22 := sg_upd se tm gs (9 * sn + 0) (rs_5 0) (by omega) (by omega)
            rw [hsg_22] at hP hD
            generalize upd gs (9 * sn + 0) (rs_5 0) = gs_22 at hP hD hsg_22
            have hQ9 := pd_mk [(aI k (a 14) 24 ra_5), (aI k (a 15) 24 rb_5), (aI k (a 1) 3 (nF d_18)), (aI k (a 2) 72 fr2_19), (aI k (a 3) 72 pr2_19), (aI k (a 4) 27 (sg se tm gs_22)), (aI k (a 16) 9 rs_5), ((a 0), .inr (8, (fX8 a 0 (-1) (nI t0__12) wd2_5 (nI we2_5) nu2_5 na2_5 (nI rd2_5) ts2_5 (nI ru) (nI rw) (nI ca) df db sd))), (aI k (a 5) 240 ftext)] hP hD
            clear hP hD
            obtain ⟨hP, hD⟩ := hQ9
            refine lv_iinc (v := 1) (lv' := [(3, .int 1), (2, .int (nI fl_5)), (0, .ref (a 0)), (1, .int (nI sn))]) hx hb dX8_street_175 hl (k := 0) rfl (by decide) (by decide) rfl (fun ls hl => ?_)
            refine lv_goto (tgt := 152) hx hb dX8_street_178 (by decide) ?_
            refine lv_iload_n hx hb dX8_street_152 rfl (lv_at hl 0 rfl) ?_
            refine lv_bipush (v := 9) hx hb dX8_street_153 (by decide) ?_
            refine lv_icmp_ge (tgt := 181) hx hb dX8_street_155 (by decide) (fun h => absurd h (by decide)) (fun _ => ?_)
            refine lv_aload_n hx hb dX8_street_158 rfl (lv_at hl 2 rfl) ?_
            refine va_get (D := D) (ci := 8) (v := .ref (a 4)) (C := RX8) (T := TX8) (N := 44) hx hb hts inX8 hown hK hP 7 rfl rfl 3 (by decide) (hts _ tw_976) (fun _ h9 => h9) rfl dX8_street_159 ?_
            refine lv_bipush (v := 9) hx hb dX8_street_162 (by decide) ?_
            refine lv_iload_n hx hb dX8_street_164 rfl (lv_at hl 3 rfl) ?_
            refine lv_imul hx hb dX8_street_165 ?_
            refine lv_ti (y := (nI (9 * sn))) (pk_mul 9 sn) ?_
            refine lv_iload_n hx hb dX8_street_166 rfl (lv_at hl 0 rfl) ?_
            refine lv_iadd hx hb dX8_street_167 ?_
            refine lv_ti (y := (nI (9 * sn + 1))) (nI_add (9 * sn) 1) ?_
            refine lv_aload_n hx hb dX8_street_168 rfl (lv_at hl 2 rfl) ?_
            refine va_get (D := D) (ci := 8) (v := .ref (a 16)) (C := RX8) (T := TX8) (N := 44) hx hb hts inX8 hown hK hP 7 rfl rfl 15 (by decide) (hts _ tw_988) (fun _ h9 => h9) rfl dX8_street_169 ?_
            refine lv_iload_n hx hb dX8_street_172 rfl (lv_at hl 0 rfl) ?_
            refine va_iald hx hb hK hP 6 1 rfl rfl (by unfold vp_in; decide) dX8_street_173 ?_
            refine lv_ti (y := (rs_5 1)) (by rfl) ?_
            refine va_iast hx hb hK hP hD hS 5 1 rfl rfl (vp_in_nI (by omega) (by decide)) dX8_street_174 (fun H locs hP hD hS => ?_)
            have hQ9 := pd_mk [(aI k (a 14) 24 ra_5), (aI k (a 15) 24 rb_5), (aI k (a 1) 3 (nF d_18)), (aI k (a 2) 72 fr2_19), (aI k (a 3) 72 pr2_19), (aI k (a 4) 27 (upd (sg se tm gs_22) (Int32.toNatClampNeg (nI (9 * sn + 1))) (rs_5 1))), (aI k (a 16) 9 rs_5), ((a 0), .inr (8, (fX8 a 0 (-1) (nI t0__12) wd2_5 (nI we2_5) nu2_5 na2_5 (nI rd2_5) ts2_5 (nI ru) (nI rw) (nI ca) df db sd))), (aI k (a 5) 240 ftext)] hP hD
            clear hP hD
            obtain ⟨hP, hD⟩ := hQ9
            rw [nI_clamp (n := (9 * sn + 1)) (by omega)] at hP hD
            have hsg_24 := sg_upd se tm gs_22 (9 * sn + 1) (rs_5 1) (by omega) (by omega)
            rw [hsg_24] at hP hD
            generalize upd gs_22 (9 * sn + 1) (rs_5 1) = gs_24 at hP hD hsg_24
            have hQ9 := pd_mk [(aI k (a 14) 24 ra_5), (aI k (a 15) 24 rb_5), (aI k (a 1) 3 (nF d_18)), (aI k (a 2) 72 fr2_19), (aI k (a 3) 72 pr2_19), (aI k (a 4) 27 (sg se tm gs_24)), (aI k (a 16) 9 rs_5), ((a 0), .inr (8, (fX8 a 0 (-1) (nI t0__12) wd2_5 (nI we2_5) nu2_5 na2_5 (nI rd2_5) ts2_5 (nI ru) (nI rw) (nI ca) df db sd))), (aI k (a 5) 240 ftext)] hP hD
            clear hP hD
            obtain ⟨hP, hD⟩ := hQ9
            refine lv_iinc (v := 2) (lv' := [(3, .int 2), (2, .int (nI fl_5)), (0, .ref (a 0)), (1, .int (nI sn))]) hx hb dX8_street_175 hl (k := 0) rfl (by decide) (by decide) rfl (fun ls hl => ?_)
            refine lv_goto (tgt := 152) hx hb dX8_street_178 (by decide) ?_
            refine lv_iload_n hx hb dX8_street_152 rfl (lv_at hl 0 rfl) ?_
            refine lv_bipush (v := 9) hx hb dX8_street_153 (by decide) ?_
            refine lv_icmp_ge (tgt := 181) hx hb dX8_street_155 (by decide) (fun h => absurd h (by decide)) (fun _ => ?_)
            refine lv_aload_n hx hb dX8_street_158 rfl (lv_at hl 2 rfl) ?_
            refine va_get (D := D) (ci := 8) (v := .ref (a 4)) (C := RX8) (T := TX8) (N := 44) hx hb hts inX8 hown hK hP 7 rfl rfl 3 (by decide) (hts _ tw_976) (fun _ h9 => h9) rfl dX8_street_159 ?_
            refine lv_bipush (v := 9) hx hb dX8_street_162 (by decide) ?_
            refine lv_iload_n hx hb dX8_street_164 rfl (lv_at hl 3 rfl) ?_
            refine lv_imul hx hb dX8_street_165 ?_
            refine lv_ti (y := (nI (9 * sn))) (pk_mul 9 sn) ?_
            refine lv_iload_n hx hb dX8_street_166 rfl (lv_at hl 0 rfl) ?_
            refine lv_iadd hx hb dX8_street_167 ?_
            refine lv_ti (y := (nI (9 * sn + 2))) (nI_add (9 * sn) 2) ?_
            refine lv_aload_n hx hb dX8_street_168 rfl (lv_at hl 2 rfl) ?_
            refine va_get (D := D) (ci := 8) (v := .ref (a 16)) (C := RX8) (T := TX8) (N := 44) hx hb hts inX8 hown hK hP 7 rfl rfl 15 (by decide) (hts _ tw_988) (fun _ h9 => h9) rfl dX8_street_169 ?_
            refine lv_iload_n hx hb dX8_street_172 rfl (lv_at hl 0 rfl) ?_
            refine va_iald hx hb hK hP 6 1 rfl rfl (by unfold vp_in; decide) dX8_street_173 ?_
            refine lv_ti (y := (rs_5 2)) (by rfl) ?_
            refine va_iast hx hb hK hP hD hS 5 1 rfl rfl (vp_in_nI (by omega) (by decide)) dX8_street_174 (fun H locs hP hD hS => ?_)
            have hQ9 := pd_mk [(aI k (a 14) 24 ra_5), (aI k (a 15) 24 rb_5), (aI k (a 1) 3 (nF d_18)), (aI k (a 2) 72 fr2_19), (aI k (a 3) 72 pr2_19), (aI k (a 4) 27 (upd (sg se tm gs_24) (Int32.toNatClampNeg (nI (9 * sn + 2))) (rs_5 2))), (aI k (a 16) 9 rs_5), ((a 0), .inr (8, (fX8 a 0 (-1) (nI t0__12) wd2_5 (nI we2_5) nu2_5 na2_5 (nI rd2_5) ts2_5 (nI ru) (nI rw) (nI ca) df db sd))), (aI k (a 5) 240 ftext)] hP hD
            clear hP hD
            obtain ⟨hP, hD⟩ := hQ9
            rw [nI_clamp (n := (9 * sn + 2)) (by omega)] at hP hD
            have hsg_26 := sg_upd se tm gs_24 (9 * sn + 2) (rs_5 2) (by omega) (by omega)
            rw [hsg_26] at hP hD
            generalize upd gs_24 (9 * sn + 2) (rs_5 2) = gs_26 at hP hD hsg_26
            have hQ9 := pd_mk [(aI k (a 14) 24 ra_5), (aI k (a 15) 24 rb_5), (aI k (a 1) 3 (nF d_18)), (aI k (a 2) 72 fr2_19), (aI k (a 3) 72 pr2_19), (aI k (a 4) 27 (sg se tm gs_26)), (aI k (a 16) 9 rs_5), ((a 0), .inr (8, (fX8 a 0 (-1) (nI t0__12) wd2_5 (nI we2_5) nu2_5 na2_5 (nI rd2_5) ts2_5 (nI ru) (nI rw) (nI ca) df db sd))), (aI k (a 5) 240 ftext)] hP hD
            clear hP hD
            obtain ⟨hP, hD⟩ := hQ9
            refine lv_iinc (v := 3) (lv' := [(3, .int 3), (2, .int (nI fl_5)), (0, .ref (a 0)), (1, .int (nI sn))]) hx hb dX8_street_175 hl (k := 0) rfl (by decide) (by decide) rfl (fun ls hl => ?_)
            refine lv_goto (tgt := 152) hx hb dX8_street_178 (by decide) ?_
            refine lv_iload_n hx hb dX8_street_152 rfl (lv_at hl 0 rfl) ?_
            refine lv_bipush (v := 9) hx hb dX8_street_153 (by decide) ?_
            refine lv_icmp_ge (tgt := 181) hx hb dX8_street_155 (by decide) (fun h => absurd h (by decide)) (fun _ => ?_)
            refine lv_aload_n hx hb dX8_street_158 rfl (lv_at hl 2 rfl) ?_
            refine va_get (D := D) (ci := 8) (v := .ref (a 4)) (C := RX8) (T := TX8) (N := 44) hx hb hts inX8 hown hK hP 7 rfl rfl 3 (by decide) (hts _ tw_976) (fun _ h9 => h9) rfl dX8_street_159 ?_
            refine lv_bipush (v := 9) hx hb dX8_street_162 (by decide) ?_
            refine lv_iload_n hx hb dX8_street_164 rfl (lv_at hl 3 rfl) ?_
            refine lv_imul hx hb dX8_street_165 ?_
            refine lv_ti (y := (nI (9 * sn))) (pk_mul 9 sn) ?_
            refine lv_iload_n hx hb dX8_street_166 rfl (lv_at hl 0 rfl) ?_
            refine lv_iadd hx hb dX8_street_167 ?_
            refine lv_ti (y := (nI (9 * sn + 3))) (nI_add (9 * sn) 3) ?_
            refine lv_aload_n hx hb dX8_street_168 rfl (lv_at hl 2 rfl) ?_
            refine va_get (D := D) (ci := 8) (v := .ref (a 16)) (C := RX8) (T := TX8) (N := 44) hx hb hts inX8 hown hK hP 7 rfl rfl 15 (by decide) (hts _ tw_988) (fun _ h9 => h9) rfl dX8_street_169 ?_
            refine lv_iload_n hx hb dX8_street_172 rfl (lv_at hl 0 rfl) ?_
            refine va_iald hx hb hK hP 6 1 rfl rfl (by unfold vp_in; decide) dX8_street_173 ?_
            refine lv_ti (y := (rs_5 3)) (by rfl) ?_
            refine va_iast hx hb hK hP hD hS 5 1 rfl rfl (vp_in_nI (by omega) (by decide)) dX8_street_174 (fun H locs hP hD hS => ?_)
            have hQ9 := pd_mk [(aI k (a 14) 24 ra_5), (aI k (a 15) 24 rb_5), (aI k (a 1) 3 (nF d_18)), (aI k (a 2) 72 fr2_19), (aI k (a 3) 72 pr2_19), (aI k (a 4) 27 (upd (sg se tm gs_26) (Int32.toNatClampNeg (nI (9 * sn + 3))) (rs_5 3))), (aI k (a 16) 9 rs_5), ((a 0), .inr (8, (fX8 a 0 (-1) (nI t0__12) wd2_5 (nI we2_5) nu2_5 na2_5 (nI rd2_5) ts2_5 (nI ru) (nI rw) (nI ca) df db sd))), (aI k (a 5) 240 ftext)] hP hD
            clear hP hD
            obtain ⟨hP, hD⟩ := hQ9
            rw [nI_clamp (n := (9 * sn + 3)) (by omega)] at hP hD
            have hsg_28 := sg_upd se tm gs_26 (9 * sn + 3) (rs_5 3) (by omega) (by omega)
            rw [hsg_28] at hP hD
            generalize upd gs_26 (9 * sn + 3) (rs_5 3) = gs_28 at hP hD hsg_28
            have hQ9 := pd_mk [(aI k (a 14) 24 ra_5), (aI k (a 15) 24 rb_5), (aI k (a 1) 3 (nF d_18)), (aI k (a 2) 72 fr2_19), (aI k (a 3) 72 pr2_19), (aI k (a 4) 27 (sg se tm gs_28)), (aI k (a 16) 9 rs_5), ((a 0), .inr (8, (fX8 a 0 (-1) (nI t0__12) wd2_5 (nI we2_5) nu2_5 na2_5 (nI rd2_5) ts2_5 (nI ru) (nI rw) (nI ca) df db sd))), (aI k (a 5) 240 ftext)] hP hD
            clear hP hD
            obtain ⟨hP, hD⟩ := hQ9
            refine lv_iinc (v := 4) (lv' := [(3, .int 4), (2, .int (nI fl_5)), (0, .ref (a 0)), (1, .int (nI sn))]) hx hb dX8_street_175 hl (k := 0) rfl (by decide) (by decide) rfl (fun ls hl => ?_)
            refine lv_goto (tgt := 152) hx hb dX8_street_178 (by decide) ?_
            refine lv_iload_n hx hb dX8_street_152 rfl (lv_at hl 0 rfl) ?_
            refine lv_bipush (v := 9) hx hb dX8_street_153 (by decide) ?_
            refine lv_icmp_ge (tgt := 181) hx hb dX8_street_155 (by decide) (fun h => absurd h (by decide)) (fun _ => ?_)
            refine lv_aload_n hx hb dX8_street_158 rfl (lv_at hl 2 rfl) ?_
            refine va_get (D := D) (ci := 8) (v := .ref (a 4)) (C := RX8) (T := TX8) (N := 44) hx hb hts inX8 hown hK hP 7 rfl rfl 3 (by decide) (hts _ tw_976) (fun _ h9 => h9) rfl dX8_street_159 ?_
            refine lv_bipush (v := 9) hx hb dX8_street_162 (by decide) ?_
            refine lv_iload_n hx hb dX8_street_164 rfl (lv_at hl 3 rfl) ?_
            refine lv_imul hx hb dX8_street_165 ?_
            refine lv_ti (y := (nI (9 * sn))) (pk_mul 9 sn) ?_
            refine lv_iload_n hx hb dX8_street_166 rfl (lv_at hl 0 rfl) ?_
            refine lv_iadd hx hb dX8_street_167 ?_
            refine lv_ti (y := (nI (9 * sn + 4))) (nI_add (9 * sn) 4) ?_
            refine lv_aload_n hx hb dX8_street_168 rfl (lv_at hl 2 rfl) ?_
            refine va_get (D := D) (ci := 8) (v := .ref (a 16)) (C := RX8) (T := TX8) (N := 44) hx hb hts inX8 hown hK hP 7 rfl rfl 15 (by decide) (hts _ tw_988) (fun _ h9 => h9) rfl dX8_street_169 ?_
            refine lv_iload_n hx hb dX8_street_172 rfl (lv_at hl 0 rfl) ?_
            refine va_iald hx hb hK hP 6 1 rfl rfl (by unfold vp_in; decide) dX8_street_173 ?_
            refine lv_ti (y := (rs_5 4)) (by rfl) ?_
            refine va_iast hx hb hK hP hD hS 5 1 rfl rfl (vp_in_nI (by omega) (by decide)) dX8_street_174 (fun H locs hP hD hS => ?_)
            have hQ9 := pd_mk [(aI k (a 14) 24 ra_5), (aI k (a 15) 24 rb_5), (aI k (a 1) 3 (nF d_18)), (aI k (a 2) 72 fr2_19), (aI k (a 3) 72 pr2_19), (aI k (a 4) 27 (upd (sg se tm gs_28) (Int32.toNatClampNeg (nI (9 * sn + 4))) (rs_5 4))), (aI k (a 16) 9 rs_5), ((a 0), .inr (8, (fX8 a 0 (-1) (nI t0__12) wd2_5 (nI we2_5) nu2_5 na2_5 (nI rd2_5) ts2_5 (nI ru) (nI rw) (nI ca) df db sd))), (aI k (a 5) 240 ftext)] hP hD
            clear hP hD
            obtain ⟨hP, hD⟩ := hQ9
            rw [nI_clamp (n := (9 * sn + 4)) (by omega)] at hP hD
            have hsg_30 := sg_upd se tm gs_28 (9 * sn + 4) (rs_5 4) (by omega) (by omega)
            rw [hsg_30] at hP hD
            generalize upd gs_28 (9 * sn + 4) (rs_5 4) = gs_30 at hP hD hsg_30
            have hQ9 := pd_mk [(aI k (a 14) 24 ra_5), (aI k (a 15) 24 rb_5), (aI k (a 1) 3 (nF d_18)), (aI k (a 2) 72 fr2_19), (aI k (a 3) 72 pr2_19), (aI k (a 4) 27 (sg se tm gs_30)), (aI k (a 16) 9 rs_5), ((a 0), .inr (8, (fX8 a 0 (-1) (nI t0__12) wd2_5 (nI we2_5) nu2_5 na2_5 (nI rd2_5) ts2_5 (nI ru) (nI rw) (nI ca) df db sd))), (aI k (a 5) 240 ftext)] hP hD
            clear hP hD
            obtain ⟨hP, hD⟩ := hQ9
            refine lv_iinc (v := 5) (lv' := [(3, .int 5), (2, .int (nI fl_5)), (0, .ref (a 0)), (1, .int (nI sn))]) hx hb dX8_street_175 hl (k := 0) rfl (by decide) (by decide) rfl (fun ls hl => ?_)
            refine lv_goto (tgt := 152) hx hb dX8_street_178 (by decide) ?_
            refine lv_iload_n hx hb dX8_street_152 rfl (lv_at hl 0 rfl) ?_
            refine lv_bipush (v := 9) hx hb dX8_street_153 (by decide) ?_
            refine lv_icmp_ge (tgt := 181) hx hb dX8_street_155 (by decide) (fun h => absurd h (by decide)) (fun _ => ?_)
            refine lv_aload_n hx hb dX8_street_158 rfl (lv_at hl 2 rfl) ?_
            refine va_get (D := D) (ci := 8) (v := .ref (a 4)) (C := RX8) (T := TX8) (N := 44) hx hb hts inX8 hown hK hP 7 rfl rfl 3 (by decide) (hts _ tw_976) (fun _ h9 => h9) rfl dX8_street_159 ?_
            refine lv_bipush (v := 9) hx hb dX8_street_162 (by decide) ?_
            refine lv_iload_n hx hb dX8_street_164 rfl (lv_at hl 3 rfl) ?_
            refine lv_imul hx hb dX8_street_165 ?_
            refine lv_ti (y := (nI (9 * sn))) (pk_mul 9 sn) ?_
            refine lv_iload_n hx hb dX8_street_166 rfl (lv_at hl 0 rfl) ?_
            refine lv_iadd hx hb dX8_street_167 ?_
            refine lv_ti (y := (nI (9 * sn + 5))) (nI_add (9 * sn) 5) ?_
            refine lv_aload_n hx hb dX8_street_168 rfl (lv_at hl 2 rfl) ?_
            refine va_get (D := D) (ci := 8) (v := .ref (a 16)) (C := RX8) (T := TX8) (N := 44) hx hb hts inX8 hown hK hP 7 rfl rfl 15 (by decide) (hts _ tw_988) (fun _ h9 => h9) rfl dX8_street_169 ?_
            refine lv_iload_n hx hb dX8_street_172 rfl (lv_at hl 0 rfl) ?_
            refine va_iald hx hb hK hP 6 1 rfl rfl (by unfold vp_in; decide) dX8_street_173 ?_
            refine lv_ti (y := (nI ra_9)) era_9 ?_
            refine va_iast hx hb hK hP hD hS 5 1 rfl rfl (vp_in_nI (by omega) (by decide)) dX8_street_174 (fun H locs hP hD hS => ?_)
            have hQ9 := pd_mk [(aI k (a 14) 24 ra_5), (aI k (a 15) 24 rb_5), (aI k (a 1) 3 (nF d_18)), (aI k (a 2) 72 fr2_19), (aI k (a 3) 72 pr2_19), (aI k (a 4) 27 (upd (sg se tm gs_30) (Int32.toNatClampNeg (nI (9 * sn + 5))) (nI ra_9))), (aI k (a 16) 9 rs_5), ((a 0), .inr (8, (fX8 a 0 (-1) (nI t0__12) wd2_5 (nI we2_5) nu2_5 na2_5 (nI rd2_5) ts2_5 (nI ru) (nI rw) (nI ca) df db sd))), (aI k (a 5) 240 ftext)] hP hD
            clear hP hD
            obtain ⟨hP, hD⟩ := hQ9
            rw [nI_clamp (n := (9 * sn + 5)) (by omega)] at hP hD
            have hsg_32 := sg_upd5 se tm gs_30 sn ra_9
            rw [hsg_32] at hP hD
            generalize hse_32 : (fun j => if j = sn then ra_9 else se j) = se_32 at hP hD hsg_32
            have hQ9 := pd_mk [(aI k (a 14) 24 ra_5), (aI k (a 15) 24 rb_5), (aI k (a 1) 3 (nF d_18)), (aI k (a 2) 72 fr2_19), (aI k (a 3) 72 pr2_19), (aI k (a 4) 27 (sg se_32 tm gs_30)), (aI k (a 16) 9 rs_5), ((a 0), .inr (8, (fX8 a 0 (-1) (nI t0__12) wd2_5 (nI we2_5) nu2_5 na2_5 (nI rd2_5) ts2_5 (nI ru) (nI rw) (nI ca) df db sd))), (aI k (a 5) 240 ftext)] hP hD
            clear hP hD
            obtain ⟨hP, hD⟩ := hQ9
            refine lv_iinc (v := 6) (lv' := [(3, .int 6), (2, .int (nI fl_5)), (0, .ref (a 0)), (1, .int (nI sn))]) hx hb dX8_street_175 hl (k := 0) rfl (by decide) (by decide) rfl (fun ls hl => ?_)
            refine lv_goto (tgt := 152) hx hb dX8_street_178 (by decide) ?_
            refine lv_iload_n hx hb dX8_street_152 rfl (lv_at hl 0 rfl) ?_
            refine lv_bipush (v := 9) hx hb dX8_street_153 (by decide) ?_
            refine lv_icmp_ge (tgt := 181) hx hb dX8_street_155 (by decide) (fun h => absurd h (by decide)) (fun _ => ?_)
            refine lv_aload_n hx hb dX8_street_158 rfl (lv_at hl 2 rfl) ?_
            refine va_get (D := D) (ci := 8) (v := .ref (a 4)) (C := RX8) (T := TX8) (N := 44) hx hb hts inX8 hown hK hP 7 rfl rfl 3 (by decide) (hts _ tw_976) (fun _ h9 => h9) rfl dX8_street_159 ?_
            refine lv_bipush (v := 9) hx hb dX8_street_162 (by decide) ?_
            refine lv_iload_n hx hb dX8_street_164 rfl (lv_at hl 3 rfl) ?_
            refine lv_imul hx hb dX8_street_165 ?_
            refine lv_ti (y := (nI (9 * sn))) (pk_mul 9 sn) ?_
            refine lv_iload_n hx hb dX8_street_166 rfl (lv_at hl 0 rfl) ?_
            refine lv_iadd hx hb dX8_street_167 ?_
            refine lv_ti (y := (nI (9 * sn + 6))) (nI_add (9 * sn) 6) ?_
            refine lv_aload_n hx hb dX8_street_168 rfl (lv_at hl 2 rfl) ?_
            refine va_get (D := D) (ci := 8) (v := .ref (a 16)) (C := RX8) (T := TX8) (N := 44) hx hb hts inX8 hown hK hP 7 rfl rfl 15 (by decide) (hts _ tw_988) (fun _ h9 => h9) rfl dX8_street_169 ?_
            refine lv_iload_n hx hb dX8_street_172 rfl (lv_at hl 0 rfl) ?_
            refine va_iald hx hb hK hP 6 1 rfl rfl (by unfold vp_in; decide) dX8_street_173 ?_
            refine lv_ti (y := (rs_5 6)) (by rfl) ?_
            refine va_iast hx hb hK hP hD hS 5 1 rfl rfl (vp_in_nI (by omega) (by decide)) dX8_street_174 (fun H locs hP hD hS => ?_)
            have hQ9 := pd_mk [(aI k (a 14) 24 ra_5), (aI k (a 15) 24 rb_5), (aI k (a 1) 3 (nF d_18)), (aI k (a 2) 72 fr2_19), (aI k (a 3) 72 pr2_19), (aI k (a 4) 27 (upd (sg se_32 tm gs_30) (Int32.toNatClampNeg (nI (9 * sn + 6))) (rs_5 6))), (aI k (a 16) 9 rs_5), ((a 0), .inr (8, (fX8 a 0 (-1) (nI t0__12) wd2_5 (nI we2_5) nu2_5 na2_5 (nI rd2_5) ts2_5 (nI ru) (nI rw) (nI ca) df db sd))), (aI k (a 5) 240 ftext)] hP hD
            clear hP hD
            obtain ⟨hP, hD⟩ := hQ9
            rw [nI_clamp (n := (9 * sn + 6)) (by omega)] at hP hD
            have hsg_34 := sg_upd se_32 tm gs_30 (9 * sn + 6) (rs_5 6) (by omega) (by omega)
            rw [hsg_34] at hP hD
            generalize upd gs_30 (9 * sn + 6) (rs_5 6) = gs_34 at hP hD hsg_34
            have hQ9 := pd_mk [(aI k (a 14) 24 ra_5), (aI k (a 15) 24 rb_5), (aI k (a 1) 3 (nF d_18)), (aI k (a 2) 72 fr2_19), (aI k (a 3) 72 pr2_19), (aI k (a 4) 27 (sg se_32 tm gs_34)), (aI k (a 16) 9 rs_5), ((a 0), .inr (8, (fX8 a 0 (-1) (nI t0__12) wd2_5 (nI we2_5) nu2_5 na2_5 (nI rd2_5) ts2_5 (nI ru) (nI rw) (nI ca) df db sd))), (aI k (a 5) 240 ftext)] hP hD
            clear hP hD
            obtain ⟨hP, hD⟩ := hQ9
            refine lv_iinc (v := 7) (lv' := [(3, .int 7), (2, .int (nI fl_5)), (0, .ref (a 0)), (1, .int (nI sn))]) hx hb dX8_street_175 hl (k := 0) rfl (by decide) (by decide) rfl (fun ls hl => ?_)
            refine lv_goto (tgt := 152) hx hb dX8_street_178 (by decide) ?_
            refine lv_iload_n hx hb dX8_street_152 rfl (lv_at hl 0 rfl) ?_
            refine lv_bipush (v := 9) hx hb dX8_street_153 (by decide) ?_
            refine lv_icmp_ge (tgt := 181) hx hb dX8_street_155 (by decide) (fun h => absurd h (by decide)) (fun _ => ?_)
            refine lv_aload_n hx hb dX8_street_158 rfl (lv_at hl 2 rfl) ?_
            refine va_get (D := D) (ci := 8) (v := .ref (a 4)) (C := RX8) (T := TX8) (N := 44) hx hb hts inX8 hown hK hP 7 rfl rfl 3 (by decide) (hts _ tw_976) (fun _ h9 => h9) rfl dX8_street_159 ?_
            refine lv_bipush (v := 9) hx hb dX8_street_162 (by decide) ?_
            refine lv_iload_n hx hb dX8_street_164 rfl (lv_at hl 3 rfl) ?_
            refine lv_imul hx hb dX8_street_165 ?_
            refine lv_ti (y := (nI (9 * sn))) (pk_mul 9 sn) ?_
            refine lv_iload_n hx hb dX8_street_166 rfl (lv_at hl 0 rfl) ?_
            refine lv_iadd hx hb dX8_street_167 ?_
            refine lv_ti (y := (nI (9 * sn + 7))) (nI_add (9 * sn) 7) ?_
            refine lv_aload_n hx hb dX8_street_168 rfl (lv_at hl 2 rfl) ?_
            refine va_get (D := D) (ci := 8) (v := .ref (a 16)) (C := RX8) (T := TX8) (N := 44) hx hb hts inX8 hown hK hP 7 rfl rfl 15 (by decide) (hts _ tw_988) (fun _ h9 => h9) rfl dX8_street_169 ?_
            refine lv_iload_n hx hb dX8_street_172 rfl (lv_at hl 0 rfl) ?_
            refine va_iald hx hb hK hP 6 1 rfl rfl (by unfold vp_in; decide) dX8_street_173 ?_
            refine lv_ti (y := (nI rb_9)) erb_9 ?_
            refine va_iast hx hb hK hP hD hS 5 1 rfl rfl (vp_in_nI (by omega) (by decide)) dX8_street_174 (fun H locs hP hD hS => ?_)
            have hQ9 := pd_mk [(aI k (a 14) 24 ra_5), (aI k (a 15) 24 rb_5), (aI k (a 1) 3 (nF d_18)), (aI k (a 2) 72 fr2_19), (aI k (a 3) 72 pr2_19), (aI k (a 4) 27 (upd (sg se_32 tm gs_34) (Int32.toNatClampNeg (nI (9 * sn + 7))) (nI rb_9))), (aI k (a 16) 9 rs_5), ((a 0), .inr (8, (fX8 a 0 (-1) (nI t0__12) wd2_5 (nI we2_5) nu2_5 na2_5 (nI rd2_5) ts2_5 (nI ru) (nI rw) (nI ca) df db sd))), (aI k (a 5) 240 ftext)] hP hD
            clear hP hD
            obtain ⟨hP, hD⟩ := hQ9
            rw [nI_clamp (n := (9 * sn + 7)) (by omega)] at hP hD
            have hsg_36 := sg_upd7 se_32 tm gs_34 sn rb_9
            rw [hsg_36] at hP hD
            generalize htm_36 : (fun j => if j = sn then rb_9 else tm j) = tm_36 at hP hD hsg_36
            have hQ9 := pd_mk [(aI k (a 14) 24 ra_5), (aI k (a 15) 24 rb_5), (aI k (a 1) 3 (nF d_18)), (aI k (a 2) 72 fr2_19), (aI k (a 3) 72 pr2_19), (aI k (a 4) 27 (sg se_32 tm_36 gs_34)), (aI k (a 16) 9 rs_5), ((a 0), .inr (8, (fX8 a 0 (-1) (nI t0__12) wd2_5 (nI we2_5) nu2_5 na2_5 (nI rd2_5) ts2_5 (nI ru) (nI rw) (nI ca) df db sd))), (aI k (a 5) 240 ftext)] hP hD
            clear hP hD
            obtain ⟨hP, hD⟩ := hQ9
            refine lv_iinc (v := 8) (lv' := [(3, .int 8), (2, .int (nI fl_5)), (0, .ref (a 0)), (1, .int (nI sn))]) hx hb dX8_street_175 hl (k := 0) rfl (by decide) (by decide) rfl (fun ls hl => ?_)
            refine lv_goto (tgt := 152) hx hb dX8_street_178 (by decide) ?_
            refine lv_iload_n hx hb dX8_street_152 rfl (lv_at hl 0 rfl) ?_
            refine lv_bipush (v := 9) hx hb dX8_street_153 (by decide) ?_
            refine lv_icmp_ge (tgt := 181) hx hb dX8_street_155 (by decide) (fun h => absurd h (by decide)) (fun _ => ?_)
            refine lv_aload_n hx hb dX8_street_158 rfl (lv_at hl 2 rfl) ?_
            refine va_get (D := D) (ci := 8) (v := .ref (a 4)) (C := RX8) (T := TX8) (N := 44) hx hb hts inX8 hown hK hP 7 rfl rfl 3 (by decide) (hts _ tw_976) (fun _ h9 => h9) rfl dX8_street_159 ?_
            refine lv_bipush (v := 9) hx hb dX8_street_162 (by decide) ?_
            refine lv_iload_n hx hb dX8_street_164 rfl (lv_at hl 3 rfl) ?_
            refine lv_imul hx hb dX8_street_165 ?_
            refine lv_ti (y := (nI (9 * sn))) (pk_mul 9 sn) ?_
            refine lv_iload_n hx hb dX8_street_166 rfl (lv_at hl 0 rfl) ?_
            refine lv_iadd hx hb dX8_street_167 ?_
            refine lv_ti (y := (nI (9 * sn + 8))) (nI_add (9 * sn) 8) ?_
            refine lv_aload_n hx hb dX8_street_168 rfl (lv_at hl 2 rfl) ?_
            refine va_get (D := D) (ci := 8) (v := .ref (a 16)) (C := RX8) (T := TX8) (N := 44) hx hb hts inX8 hown hK hP 7 rfl rfl 15 (by decide) (hts _ tw_988) (fun _ h9 => h9) rfl dX8_street_169 ?_
            refine lv_iload_n hx hb dX8_street_172 rfl (lv_at hl 0 rfl) ?_
            refine va_iald hx hb hK hP 6 1 rfl rfl (by unfold vp_in; decide) dX8_street_173 ?_
            refine lv_ti (y := (rs_5 8)) (by rfl) ?_
            refine va_iast hx hb hK hP hD hS 5 1 rfl rfl (vp_in_nI (by omega) (by decide)) dX8_street_174 (fun H locs hP hD hS => ?_)
            have hQ9 := pd_mk [(aI k (a 14) 24 ra_5), (aI k (a 15) 24 rb_5), (aI k (a 1) 3 (nF d_18)), (aI k (a 2) 72 fr2_19), (aI k (a 3) 72 pr2_19), (aI k (a 4) 27 (upd (sg se_32 tm_36 gs_34) (Int32.toNatClampNeg (nI (9 * sn + 8))) (rs_5 8))), (aI k (a 16) 9 rs_5), ((a 0), .inr (8, (fX8 a 0 (-1) (nI t0__12) wd2_5 (nI we2_5) nu2_5 na2_5 (nI rd2_5) ts2_5 (nI ru) (nI rw) (nI ca) df db sd))), (aI k (a 5) 240 ftext)] hP hD
            clear hP hD
            obtain ⟨hP, hD⟩ := hQ9
            rw [nI_clamp (n := (9 * sn + 8)) (by omega)] at hP hD
            have hsg_38 := sg_upd se_32 tm_36 gs_34 (9 * sn + 8) (rs_5 8) (by omega) (by omega)
            rw [hsg_38] at hP hD
            generalize upd gs_34 (9 * sn + 8) (rs_5 8) = gs_38 at hP hD hsg_38
            have hQ9 := pd_mk [(aI k (a 14) 24 ra_5), (aI k (a 15) 24 rb_5), (aI k (a 1) 3 (nF d_18)), (aI k (a 2) 72 fr2_19), (aI k (a 3) 72 pr2_19), (aI k (a 4) 27 (sg se_32 tm_36 gs_38)), (aI k (a 16) 9 rs_5), ((a 0), .inr (8, (fX8 a 0 (-1) (nI t0__12) wd2_5 (nI we2_5) nu2_5 na2_5 (nI rd2_5) ts2_5 (nI ru) (nI rw) (nI ca) df db sd))), (aI k (a 5) 240 ftext)] hP hD
            clear hP hD
            obtain ⟨hP, hD⟩ := hQ9
            refine lv_iinc (v := 9) (lv' := [(3, .int 9), (2, .int (nI fl_5)), (0, .ref (a 0)), (1, .int (nI sn))]) hx hb dX8_street_175 hl (k := 0) rfl (by decide) (by decide) rfl (fun ls hl => ?_)
            refine lv_goto (tgt := 152) hx hb dX8_street_178 (by decide) ?_
            refine lv_iload_n hx hb dX8_street_152 rfl (lv_at hl 0 rfl) ?_
            refine lv_bipush (v := 9) hx hb dX8_street_153 (by decide) ?_
            refine lv_icmp_ge (tgt := 181) hx hb dX8_street_155 (by decide) (fun _ => ?_) (fun h => absurd (by decide) h)
            refine lv_aload_n hx hb dX8_street_181 rfl (lv_at hl 2 rfl) ?_
            refine va_get (D := D) (ci := 8) (v := .int (nI rd2_5)) (C := RX8) (T := TX8) (N := 44) hx hb hts inX8 hown hK hP 7 rfl rfl 12 (by decide) (hts _ tw_985) (fun _ h9 => h9) rfl dX8_street_182 ?_
            have hsf_9 := upd9 (rs := rs_5) (a := 9 * sn) hsg_22.symm hsg_24.symm hsg_26.symm hsg_28.symm hsg_30.symm (hsg_32.symm.trans (congrArg (upd _ _) era_9.symm)) hsg_34.symm (hsg_36.symm.trans (congrArg (upd _ _) erb_9.symm)) hsg_38.symm
            obtain ⟨hP9, hD9⟩ := pd_sub [((a 0), .inr (8, (fX8 a 0 (-1) (nI t0__12) wd2_5 (nI we2_5) nu2_5 na2_5 (nI rd2_5) ts2_5 (nI ru) (nI rw) (nI ca) df db sd))), (aI k (a 5) 240 ftext), (aI k (a 14) 24 ra_5), (aI k (a 15) 24 rb_5), (aI k (a 16) 9 rs_5), (aI k (a 1) 3 (nF d_18)), (aI k (a 2) 72 fr2_19), (aI k (a 3) 72 pr2_19), (aI k (a 4) 27 (sg se_32 tm_36 gs_38))] [7, 8, 0, 1, 6, 2, 3, 4, 5] hP hD (by decide +kernel) rfl
            exact W.iret (v := (nI rd2_5)) hx hb hr (fun t ht hW => ⟨⟨(nI rd2_5), (t0__12, wd2_5, we2_5, (-1), nu2_5, na2_5, rd2_5, ts2_5, 0, ra_5, rb_5, rs_5, d_18, fr2_19, pr2_19, se_32, tm_36, gs_38), rfl, ⟨⟨(fun h => absurd hin_9 h), fun _ => ⟨rfl, .inr ⟨sn, _, by omega, rfl, sf_ok hend_14 (show 1 ≤ rd2_5 by omega), rfl, rfl, sdM_new hd_18 hsf_9 (fun j => by have h9 := hv_19.2.1 j; rw [(show ic_19 = rd2_5 by omega)] at h9; exact h9) (fun j => by have h9 := hv_19.2.2 j; rw [(show ic_19 = rd2_5 by omega)] at h9; exact h9), sdM_old (by omega) hd_18 hsf_9 (fun j => by have h9 := hv_19.2.1 j; rw [(show ic_19 = rd2_5 by omega)] at h9; exact h9) (fun j => by have h9 := hv_19.2.2 j; rw [(show ic_19 = rd2_5 by omega)] at h9; exact h9) hdn⟩⟩⟩, by omega, by rw [hd_18]; exact up_le hdn (by omega), by rw [← hse_32]; exact up_le hse (by omega), by rw [← htm_36]; exact up_le htm (by omega)⟩, by rw [ht]; exact hP9, hD9⟩, hS.F ht⟩) hS.2.2 dX8_street_185
          · have c_20 : ¬ (rd2_5 ≤ ic_19) := fun h => c_20 ((nI_leI (a := rd2_5) (b := ic_19) (by omega) (by omega)).mpr h)
            refine lv_aload_n hx hb dX8_street_110 rfl (lv_at hl 2 rfl) ?_
            refine va_get (D := D) (ci := 8) (v := .ref (a 2)) (C := RX8) (T := TX8) (N := 44) hx hb hts inX8 hown hK hP 7 rfl rfl 1 (by decide) (hts _ tw_974) (fun _ h9 => h9) rfl dX8_street_111 ?_
            refine lv_bipush (v := 24) hx hb dX8_street_114 (by decide) ?_
            refine lv_iload_n hx hb dX8_street_116 rfl (lv_at hl 3 rfl) ?_
            refine lv_imul hx hb dX8_street_117 ?_
            refine lv_ti (y := (nI (24 * sn))) (pk_mul 24 sn) ?_
            refine lv_iload_n hx hb dX8_street_118 rfl (lv_at hl 0 rfl) ?_
            refine lv_iadd hx hb dX8_street_119 ?_
            refine lv_ti (y := (nI (24 * sn + ic_19))) (nI_add (24 * sn) ic_19) ?_
            refine lv_aload_n hx hb dX8_street_120 rfl (lv_at hl 2 rfl) ?_
            refine va_get (D := D) (ci := 8) (v := .ref (a 14)) (C := RX8) (T := TX8) (N := 44) hx hb hts inX8 hown hK hP 7 rfl rfl 13 (by decide) (hts _ tw_986) (fun _ h9 => h9) rfl dX8_street_121 ?_
            refine lv_iload_n hx hb dX8_street_124 rfl (lv_at hl 0 rfl) ?_
            refine va_iald hx hb hK hP 0 1 rfl rfl (vp_in_nI (by omega) (by decide)) dX8_street_125 ?_
            refine lv_ti (y := (ra_5 ic_19)) (by rw [nI_clamp (by omega)]) ?_
            refine va_iast hx hb hK hP hD hS 3 1 rfl rfl (vp_in_nI (by omega) (by decide)) dX8_street_126 (fun H locs hP hD hS => ?_)
            have hQ9 := pd_mk [(aI k (a 14) 24 ra_5), (aI k (a 15) 24 rb_5), (aI k (a 1) 3 (nF d_18)), (aI k (a 2) 72 (upd fr2_19 (Int32.toNatClampNeg (nI (24 * sn + ic_19))) (ra_5 ic_19))), (aI k (a 3) 72 pr2_19), (aI k (a 4) 27 (sg se tm gs)), (aI k (a 16) 9 rs_5), ((a 0), .inr (8, (fX8 a 0 (-1) (nI t0__12) wd2_5 (nI we2_5) nu2_5 na2_5 (nI rd2_5) ts2_5 (nI ru) (nI rw) (nI ca) df db sd))), (aI k (a 5) 240 ftext)] hP hD
            clear hP hD
            obtain ⟨hP, hD⟩ := hQ9
            rw [nI_clamp (n := (24 * sn + ic_19)) (by omega)] at hP hD
            have hQ9 := pd_mk [(aI k (a 14) 24 ra_5), (aI k (a 15) 24 rb_5), (aI k (a 1) 3 (nF d_18)), (aI k (a 2) 72 (upd fr2_19 (24 * sn + ic_19) (ra_5 ic_19))), (aI k (a 3) 72 pr2_19), (aI k (a 4) 27 (sg se tm gs)), (aI k (a 16) 9 rs_5), ((a 0), .inr (8, (fX8 a 0 (-1) (nI t0__12) wd2_5 (nI we2_5) nu2_5 na2_5 (nI rd2_5) ts2_5 (nI ru) (nI rw) (nI ca) df db sd))), (aI k (a 5) 240 ftext)] hP hD
            clear hP hD
            obtain ⟨hP, hD⟩ := hQ9
            refine lv_aload_n hx hb dX8_street_127 rfl (lv_at hl 2 rfl) ?_
            refine va_get (D := D) (ci := 8) (v := .ref (a 3)) (C := RX8) (T := TX8) (N := 44) hx hb hts inX8 hown hK hP 7 rfl rfl 2 (by decide) (hts _ tw_975) (fun _ h9 => h9) rfl dX8_street_128 ?_
            refine lv_bipush (v := 24) hx hb dX8_street_131 (by decide) ?_
            refine lv_iload_n hx hb dX8_street_133 rfl (lv_at hl 3 rfl) ?_
            refine lv_imul hx hb dX8_street_134 ?_
            refine lv_ti (y := (nI (24 * sn))) (pk_mul 24 sn) ?_
            refine lv_iload_n hx hb dX8_street_135 rfl (lv_at hl 0 rfl) ?_
            refine lv_iadd hx hb dX8_street_136 ?_
            refine lv_ti (y := (nI (24 * sn + ic_19))) (nI_add (24 * sn) ic_19) ?_
            refine lv_aload_n hx hb dX8_street_137 rfl (lv_at hl 2 rfl) ?_
            refine va_get (D := D) (ci := 8) (v := .ref (a 15)) (C := RX8) (T := TX8) (N := 44) hx hb hts inX8 hown hK hP 7 rfl rfl 14 (by decide) (hts _ tw_987) (fun _ h9 => h9) rfl dX8_street_138 ?_
            refine lv_iload_n hx hb dX8_street_141 rfl (lv_at hl 0 rfl) ?_
            refine va_iald hx hb hK hP 1 1 rfl rfl (vp_in_nI (by omega) (by decide)) dX8_street_142 ?_
            refine lv_ti (y := (rb_5 ic_19)) (by rw [nI_clamp (by omega)]) ?_
            refine va_iast hx hb hK hP hD hS 4 1 rfl rfl (vp_in_nI (by omega) (by decide)) dX8_street_143 (fun H locs hP hD hS => ?_)
            have hQ9 := pd_mk [(aI k (a 14) 24 ra_5), (aI k (a 15) 24 rb_5), (aI k (a 1) 3 (nF d_18)), (aI k (a 2) 72 (upd fr2_19 (24 * sn + ic_19) (ra_5 ic_19))), (aI k (a 3) 72 (upd pr2_19 (Int32.toNatClampNeg (nI (24 * sn + ic_19))) (rb_5 ic_19))), (aI k (a 4) 27 (sg se tm gs)), (aI k (a 16) 9 rs_5), ((a 0), .inr (8, (fX8 a 0 (-1) (nI t0__12) wd2_5 (nI we2_5) nu2_5 na2_5 (nI rd2_5) ts2_5 (nI ru) (nI rw) (nI ca) df db sd))), (aI k (a 5) 240 ftext)] hP hD
            clear hP hD
            obtain ⟨hP, hD⟩ := hQ9
            rw [nI_clamp (n := (24 * sn + ic_19)) (by omega)] at hP hD
            have hQ9 := pd_mk [(aI k (a 14) 24 ra_5), (aI k (a 15) 24 rb_5), (aI k (a 1) 3 (nF d_18)), (aI k (a 2) 72 (upd fr2_19 (24 * sn + ic_19) (ra_5 ic_19))), (aI k (a 3) 72 (upd pr2_19 (24 * sn + ic_19) (rb_5 ic_19))), (aI k (a 4) 27 (sg se tm gs)), (aI k (a 16) 9 rs_5), ((a 0), .inr (8, (fX8 a 0 (-1) (nI t0__12) wd2_5 (nI we2_5) nu2_5 na2_5 (nI rd2_5) ts2_5 (nI ru) (nI rw) (nI ca) df db sd))), (aI k (a 5) 240 ftext)] hP hD
            clear hP hD
            obtain ⟨hP, hD⟩ := hQ9
            refine lv_iinc (v := (nI (ic_19 + 1))) (lv' := [(3, .int (nI (ic_19 + 1))), (2, .int (nI fl_5)), (0, .ref (a 0)), (1, .int (nI sn))]) hx hb dX8_street_144 hl (k := 0) rfl (nI_add ic_19 1) (by decide) rfl (fun ls hl => ?_)
            refine lv_goto (tgt := 102) hx hb dX8_street_147 (by decide) ?_
            exact ih_19 _ (ic_19 + 1, (upd fr2_19 (24 * sn + ic_19) (ra_5 ic_19)), (upd pr2_19 (24 * sn + ic_19) (rb_5 ic_19))) _ _ _ (by omega) ⟨rfl, ⟨by omega, cp_step hv_19.2.1, cp_step hv_19.2.2⟩, hP, hD, hS, (lv_sub hl [0, 1, 2, 3] rfl)⟩
        · have c_16 := (nI_eq (a := rd2_5) (b := 0) (by omega) (by omega)).mp c_16
          refine lv_aload_n hx hb dX8_street_62 rfl (lv_at hl 1 rfl) ?_
          refine lv_iconst (v := 1) hx hb dX8_street_63 (by decide) ?_
          refine lv_aload_n hx hb dX8_street_64 rfl (lv_at hl 1 rfl) ?_
          refine va_get (D := D) (ci := 8) (v := .int (nI tx)) (C := RX8) (T := TX8) (N := 44) hx hb hts inX8 hown hK hP 7 rfl rfl 5 (by decide) (hts _ tw_978) (fun _ h9 => h9) rfl dX8_street_65 ?_
          refine rw_i (D := D) (wr := [(aI k (a 14) 24 ra_5), (aI k (a 15) 24 rb_5), (aI k (a 1) 3 (nF dn)), (aI k (a 2) 72 ffrees), (aI k (a 3) 72 fprices), (aI k (a 4) 27 (sg se tm gs)), (aI k (a 16) 9 rs_5), (aI k (a 5) 240 ftext)]) (va_runV (As := [.int 1, .int (nI tx)]) (rest := []) ⟨hx, hb, hml, hown, hts⟩ ((n_fails l D k st lo a tx t0__12 we2_5 rd2_5 ru rw ca (-1) wd2_5 nu2_5 na2_5 ts2_5 df db sd 1 (nI tx)) H.size) (cwV 2 hts (gV tw_1151 tw_1153 tw_31 tw_87 tw_1154) rfl rfl rfl (by decide +kernel) ⟨Nat.le_of_ble_eq_true rfl, Nat.le_of_ble_eq_true rfl⟩) (pV hS hAlo hlo hP hK (va_Dlo hD hAlo) hZ [7] (by decide) rfl (ci := 8) (q := (RX8, TX8, 44)) (q0 := 0) rfl rfl) rfl rfl hl.1 rfl (lv_room (Nat.le_of_ble_eq_true rfl)) dX8_street_68 ⟨Nat.le_of_ble_eq_true rfl, Nat.le_of_ble_eq_true rfl⟩) hS hA hP hD [7] [0, 1, 2, 3, 4, 5, 6, 8] rfl rfl (by decide) (by decide) (fun r_41 u H locs hw_41 hP hD hS => ?_)
          obtain ⟨fp__41, rfl⟩ : ∃ z, z = u := ⟨_, rfl⟩
          have hQ9 := pd_mk [(aI k (a 14) 24 ra_5), (aI k (a 15) 24 rb_5), (aI k (a 1) 3 (nF dn)), (aI k (a 2) 72 ffrees), (aI k (a 3) 72 fprices), (aI k (a 4) 27 (sg se tm gs)), (aI k (a 16) 9 rs_5), (aI k (a 5) 240 ftext), ((a 0), .inr (8, (fX8 a (nI tx) fp__41 (nI t0__12) wd2_5 (nI we2_5) nu2_5 na2_5 (nI rd2_5) ts2_5 (nI ru) (nI rw) (nI ca) df db sd)))] hP hD
          clear hP hD
          obtain ⟨hP, hD⟩ := hQ9
          try dsimp only at hw_41
          obtain ⟨hs0_42, hs1_42⟩ := hw_41
          replace hs0_42 := hs0_42.symm
          subst hs0_42
          replace hs1_42 := hs1_42.symm
          subst hs1_42
          refine lv_goto (tgt := 75) hx hb dX8_street_71 (by decide) ?_
          refine lv_istore_n (lv' := [(2, .int 1), (0, .ref (a 0)), (1, .int (nI sn))]) hx hb dX8_street_75 rfl hl (by decide) rfl (fun ls hl => ?_)
          refine lv_aload_n hx hb dX8_street_76 rfl (lv_at hl 1 rfl) ?_
          refine lv_iconst (v := 0) hx hb dX8_street_77 (by decide) ?_
          refine va_put (D := D) (ci := 8) (v := .int 0) (ty := .int) (C := RX8) (T := TX8) (N := 44) hx hb hts inX8 tyX8 tyX8_ok nmX8 hown hK hP hD hS 8 rfl rfl 5 (by decide) (hts _ tw_978) (fun _ h9 => h9) rfl (by decide +kernel) rfl rfl (Nat.le_of_ble_eq_true rfl) dX8_street_78 (fun H locs hP hD hS => ?_)
          have hQ9 := pd_mk [(aI k (a 14) 24 ra_5), (aI k (a 15) 24 rb_5), (aI k (a 1) 3 (nF dn)), (aI k (a 2) 72 ffrees), (aI k (a 3) 72 fprices), (aI k (a 4) 27 (sg se tm gs)), (aI k (a 16) 9 rs_5), (aI k (a 5) 240 ftext), ((a 0), .inr (8, (fX8 a 0 (nI tx) (nI t0__12) wd2_5 (nI we2_5) nu2_5 na2_5 (nI rd2_5) ts2_5 (nI ru) (nI rw) (nI ca) df db sd)))] hP hD
          clear hP hD
          obtain ⟨hP, hD⟩ := hQ9
          refine lv_iload_n hx hb dX8_street_81 rfl (lv_at hl 0 rfl) ?_
          refine lv_if_le (tgt := 90) hx hb dX8_street_82 (by decide) (fun h => absurd h (by decide)) (fun _ => ?_)
          refine lv_bipush (v := (-10)) hx hb dX8_street_85 (by decide) ?_
          refine lv_iload_n hx hb dX8_street_87 rfl (lv_at hl 0 rfl) ?_
          refine lv_isub hx hb dX8_street_88 ?_
          refine lv_ti (y := (-11)) (by decide) ?_
          obtain ⟨hP9, hD9⟩ := pd_sub [((a 0), .inr (8, (fX8 a 0 (nI tx) (nI t0__12) wd2_5 (nI we2_5) nu2_5 na2_5 (nI rd2_5) ts2_5 (nI ru) (nI rw) (nI ca) df db sd))), (aI k (a 5) 240 ftext), (aI k (a 14) 24 ra_5), (aI k (a 15) 24 rb_5), (aI k (a 16) 9 rs_5), (aI k (a 1) 3 (nF dn)), (aI k (a 2) 72 ffrees), (aI k (a 3) 72 fprices), (aI k (a 4) 27 (sg se tm gs))] [8, 7, 0, 1, 6, 2, 3, 4, 5] hP hD (by decide +kernel) rfl
          exact W.iret (v := (-11)) hx hb hr (fun t ht hW => ⟨⟨(-11), (t0__12, wd2_5, we2_5, (nI tx), nu2_5, na2_5, rd2_5, ts2_5, 0, ra_5, rb_5, rs_5, dn, ffrees, fprices, se, tm, gs), rfl, ⟨⟨(fun h => absurd hin_9 h), fun _ => ⟨rfl, .inl ⟨1, tx, by decide, by decide, (sf_no hend_14 (show rd2_5 = 0 by omega)).1, (sf_no hend_14 (show rd2_5 = 0 by omega)).2, by decide, rfl, fun _ => rfl⟩⟩⟩, by omega, hdn, hse, htm⟩, by rw [ht]; exact hP9, hD9⟩, hS.F ht⟩) hS.2.2 dX8_street_89
      · have hlt_43 := by_pos hw_12.2.1 c_13
        refine lv_aload_n hx hb dX8_street_43 rfl (lv_at hl 1 rfl) ?_
        refine rw_i (D := D) (wr := [(aI k (a 1) 3 (nF dn)), (aI k (a 2) 72 ffrees), (aI k (a 3) 72 fprices), (aI k (a 4) 27 (sg se tm gs))]) (va_runV (As := []) (rest := []) ⟨hx, hb, hml, hown, hts⟩ ((n_takeClause l D k st lo a tx t0__12 we2_5 rd2_5 ru rw ca (-1) wd2_5 nu2_5 na2_5 ts2_5 df db sd ftext ra_5 rb_5 rs_5 (by first | assumption | omega) (by first | assumption | omega) (by first | assumption | omega) (hv_5.2.2.2.1 (by omega))) H.size) (cwV 0 hts (gV tw_1124 tw_1126 tw_28 tw_87 tw_1127) rfl rfl rfl (by decide +kernel) ⟨Nat.le_of_ble_eq_true rfl, Nat.le_of_ble_eq_true rfl⟩) (pV hS hAlo hlo hP hK (va_Dlo hD hAlo) hZ [7, 8, 0, 1, 6] (by decide) rfl (ci := 8) (q := (RX8, TX8, 44)) (q0 := 0) rfl rfl) rfl rfl hl.1 rfl (lv_room (Nat.le_of_ble_eq_true rfl)) dX8_street_44 ⟨Nat.le_of_ble_eq_true rfl, Nat.le_of_ble_eq_true rfl⟩) hS hA hP hD [7, 8, 0, 1, 6] [2, 3, 4, 5] rfl rfl (by decide) (by decide) (fun r_44 u H locs hw_44 hP hD hS => ?_)
        obtain ⟨t0__44, wd__44, we__44, fp__44, nu__44, na__44, rd__44, ts__44, freadFree__44, freadPrice__44, freadSingle__44⟩ := u
        have hQ9 := pd_mk [(aI k (a 1) 3 (nF dn)), (aI k (a 2) 72 ffrees), (aI k (a 3) 72 fprices), (aI k (a 4) 27 (sg se tm gs)), ((a 0), .inr (8, (fX8 a (nI tx) fp__44 (nI t0__44) wd__44 (nI we__44) nu__44 na__44 (nI rd__44) ts__44 (nI ru) (nI rw) (nI ca) df db sd))), (aI k (a 5) 240 ftext), (aI k (a 14) 24 freadFree__44), (aI k (a 15) 24 freadPrice__44), (aI k (a 16) 9 freadSingle__44)] hP hD
        clear hP hD
        obtain ⟨hP, hD⟩ := hQ9
        try dsimp only at hw_44
        rcases hw_44 with ⟨⟨rfl, hcf_45, hfp_45⟩ | ⟨e_45, pl_45, rfl, he1_45, he2_45, hp1_45, hp2_45, rfl⟩, hw_44⟩
        · replace hfp_45 := hfp_45.symm
          subst hfp_45
          have hgt_45 := hw_44.2.2.2.1 rfl
          refine lv_istore_n (lv' := [(2, .int 0), (0, .ref (a 0)), (1, .int (nI sn))]) hx hb dX8_street_47 rfl hl (by decide) rfl (fun ls hl => ?_)
          refine lv_goto (tgt := 32) hx hb dX8_street_48 (by decide) ?_
          have hkx_45 : tx - t0__44 ≤ k_11 - 1 := by clear hv_5; omega
          exact ih_5 _ (0, t0__44, wd__44, we__44, (-1), nu__44, na__44, rd__44, ts__44, freadFree__44, freadPrice__44, freadSingle__44) _ _ _ (by clear hv_5; rw [if_pos (show fl_5 = 0 by omega)]; split <;> omega) ⟨rfl, ⟨by clear hv_5; omega, by clear hv_5; omega, by clear hv_5; omega, fun _ => hw_44.2.2.2.2 rfl, .inl ⟨rfl, rfl, k_11 - 1, hkx_45, by rw [← hst_11, sl_ok (by clear hv_5; omega) (show skA ftext tx t_5 < tx by rw [← hw_12.1]; omega) (by rw [← clF_sk, ← hw_12.1]; exact hcf_45)]⟩⟩, (hP.sub [5, 6, 7, 0, 1, 2, 3, 4, 8] rfl), (hD.sub [5, 6, 7, 0, 1, 2, 3, 4, 8] (by decide +kernel) rfl), hS, (lv_sub hl [0, 1, 2] rfl)⟩
        · refine lv_istore_n (lv' := [(2, .int (nI e_45)), (0, .ref (a 0)), (1, .int (nI sn))]) hx hb dX8_street_47 rfl hl (by decide) rfl (fun ls hl => ?_)
          refine lv_goto (tgt := 32) hx hb dX8_street_48 (by decide) ?_
          exact ih_5 _ (e_45, t0__44, wd__44, we__44, (nI pl_45), nu__44, na__44, rd__44, ts__44, freadFree__44, freadPrice__44, freadSingle__44) _ _ _ (by clear hv_5; rw [if_pos (show fl_5 = 0 by omega)]; split <;> omega) ⟨rfl, ⟨by omega, by omega, by omega, fun h => absurd h (by omega), .inr ⟨he1_45, by rw [← hst_11]; exact (sl_err (e := e_45) (p := pl_45) (by omega) (show skA ftext tx t_5 < tx by rw [← hw_12.1]; omega) (by rw [← clF_sk, ← hw_12.1]; exact hp1_45) he1_45 (by rw [← clF_sk, ← hw_12.1]; exact hp2_45)).1, pl_45, by rw [← hst_11]; exact (sl_err (e := e_45) (p := pl_45) (by omega) (show skA ftext tx t_5 < tx by rw [← hw_12.1]; omega) (by rw [← clF_sk, ← hw_12.1]; exact hp1_45) he1_45 (by rw [← clF_sk, ← hw_12.1]; exact hp2_45)).2, rfl⟩⟩, (hP.sub [5, 6, 7, 0, 1, 2, 3, 4, 8] rfl), (hD.sub [5, 6, 7, 0, 1, 2, 3, 4, 8] (by decide +kernel) rfl), hS, (lv_sub hl [0, 1, 2] rfl)⟩
  · refine lv_if_ne (tgt := 16) hx hb dX8_street_9 (by decide) (fun h => absurd (by decide) h) (fun _ => ?_)
    refine lv_sipush (v := (-1001)) hx hb dX8_street_12 (by decide) ?_
    obtain ⟨hP9, hD9⟩ := pd_sub [((a 0), .inr (8, (fX8 a (nI tx) fp (nI t0) wd (nI we) nu na (nI rd) ts (nI ru) (nI rw) (nI ca) df db sd))), (aI k (a 5) 240 ftext), (aI k (a 14) 24 freadFree), (aI k (a 15) 24 freadPrice), (aI k (a 16) 9 freadSingle), (aI k (a 1) 3 (nF dn)), (aI k (a 2) 72 ffrees), (aI k (a 3) 72 fprices), (aI k (a 4) 27 (sg se tm gs))] [0, 1, 2, 3, 4, 5, 6, 7, 8] hP hD (by decide +kernel) rfl
    exact W.iret (v := (-1001)) hx hb hr (fun t ht hW => ⟨⟨(-1001), (t0, wd, we, fp, nu, na, rd, ts, tx, freadFree, freadPrice, freadSingle, dn, ffrees, fprices, se, tm, gs), rfl, ⟨⟨fun _ => ⟨rfl, rfl, rfl, fun _ => rfl⟩, fun h => absurd h hw_1⟩, by omega, hdn, hse, htm⟩, by rw [ht]; exact hP9, hD9⟩, hS.F ht⟩) hS.2.2 dX8_street_15

theorem f_glueP10 : True := trivial
/-! a rule's text -/
abbrev RSt : Type := Nat × (Nat → Int32) × (Nat → Int32)
/-- a change, behind its word: fault, place, where one stands, how many passed, from which door -/
def chR (b : Nat → Int32) (n cnt : Nat) (sn : Nat → Int32) (t : Nat) : Nat × Nat × Nat × Int32 × Int32 :=
  match nuR b n false 1 24 t with
  | (e1, p1, t1, v1, q1) =>
    if e1 = 0 then
      if cnt = 0 ∨ sn (cnt - 1) < v1 then
        match wdR b n (sByt.getD 12 []) t1 with
        | (e2, p2, t2) =>
          if e2 = 0 then
            match nuR b n false 0 24 t2 with
            | (e3, p3, t3, v3, _) => if e3 = 0 then (0, 0, t3, v1, v3) else (e3, p3, t3, 0, 0)
          else (e2, p2, t2, 0, 0)
      else (3, q1, t1, 0, 0)
    else (e1, p1, t1, 0, 0)
/-- what follows where no change begins: fault, place, rounds -/
def roR (b : Nat → Int32) (n t : Nat) : Nat × Nat × Int32 :=
  if letA b n (skA b n t) = (sByt.getD 7 []) then
    match nuR b n false 0 3 (skA b n t + 5) with
    | (e, p, t1, v, _) => if e = 0 then (if skA b n t1 < n then (1, skA b n t1, v) else (0, 0, v)) else (e, p, 0)
  else if skA b n t < n then (1, skA b n t, 0) else (0, 0, 0)
def ruL (b : Nat → Int32) (n : Nat) : Nat → Nat → RSt → Nat × Nat × RSt × Int32
  | 0, t, σ => ((roR b n t).1, (roR b n t).2.1, σ, (roR b n t).2.2)
  | k + 1, t, σ =>
    if letA b n (skA b n t) = (sByt.getD 13 []) then
      if (chR b n σ.1 σ.2.1 (skA b n t + 4)).1 = 0 then ruL b n k (chR b n σ.1 σ.2.1 (skA b n t + 4)).2.2.1 (σ.1 + 1, upd σ.2.1 σ.1 (chR b n σ.1 σ.2.1 (skA b n t + 4)).2.2.2.1, upd σ.2.2 σ.1 (chR b n σ.1 σ.2.1 (skA b n t + 4)).2.2.2.2)
      else ((chR b n σ.1 σ.2.1 (skA b n t + 4)).1, (chR b n σ.1 σ.2.1 (skA b n t + 4)).2.1, σ, 0)
    else ((roR b n t).1, (roR b n t).2.1, σ, (roR b n t).2.2)
/-- the head of a rule: fault, place, where one stands, from which door -/
def ruH (b : Nat → Int32) (n t : Nat) : Nat × Nat × Nat × Int32 :=
  match wdR b n (sByt.getD 12 []) t with
  | (e1, p1, t1) =>
    if e1 = 0 then
      match nuR b n false 0 24 t1 with
      | (e2, p2, t2, v, _) => if e2 = 0 then (0, 0, t2, v) else (e2, p2, t2, 0)
    else (e1, p1, t1, 0)
def ru0 : RSt := (0, fun _ => 0, fun _ => 0)
theorem rl_go {b : Nat → Int32} {n k t t2 : Nat} {σ : RSt} {v1 v3 : Int32} (hk : 0 < k) (h : letA b n (skA b n t) = (sByt.getD 13 [])) (hc : chR b n σ.1 σ.2.1 (skA b n t + 4) = (0, 0, t2, v1, v3)) : ruL b n k t σ = ruL b n (k - 1) t2 (σ.1 + 1, upd σ.2.1 σ.1 v1, upd σ.2.2 σ.1 v3) := by
  rcases k with _ | k
  · omega
  · show (if _ then (if _ then _ else _) else _) = _
    rw [if_pos h, hc, if_pos rfl]
    rfl
theorem rl_er {b : Nat → Int32} {n k t e p : Nat} {σ : RSt} (hk : 0 < k) (h : letA b n (skA b n t) = (sByt.getD 13 [])) (he : (chR b n σ.1 σ.2.1 (skA b n t + 4)).1 = e) (h1 : 1 ≤ e) (hp : (chR b n σ.1 σ.2.1 (skA b n t + 4)).2.1 = p) : (ruL b n k t σ).1 = e ∧ (ruL b n k t σ).2.1 = p := by
  rcases k with _ | k
  · omega
  · have q : ruL b n (k + 1) t σ = ((chR b n σ.1 σ.2.1 (skA b n t + 4)).1, (chR b n σ.1 σ.2.1 (skA b n t + 4)).2.1, σ, 0) := by
      show (if _ then (if _ then _ else _) else _) = _
      rw [if_pos h, if_neg (by omega)]
    rw [q]
    exact ⟨he, hp⟩
theorem rl_no {b : Nat → Int32} {n k t : Nat} {σ : RSt} (h : ¬ letA b n (skA b n t) = (sByt.getD 13 [])) : ruL b n k t σ = ((roR b n t).1, (roR b n t).2.1, σ, (roR b n t).2.2) := by
  rcases k with _ | k
  · rfl
  · show (if _ then (if _ then _ else _) else _) = _
    rw [if_neg h]
theorem nuR_ge {b : Nat → Int32} {n p t t1 q : Nat} {sg : Bool} {lo hi v : Int32} (h : nuR b n sg lo hi t = (0, p, t1, v, q)) : t + 1 ≤ t1 := (nuR_in h).2
theorem wdR_ge {b : Nat → Int32} {n t t1 i : Nat} (h : wdR b n (sByt.getD i []) t = (0, 0, t1)) : t + (sByt.getD i []).length ≤ t1 := by
  unfold wdR at h
  by_cases c : letA b n (skA b n t) = sByt.getD i []
  · rw [if_pos c] at h
    have e : skA b n t + (sByt.getD i []).length = t1 := congrArg (fun z => z.2.2) h
    have g := skA_ge b n t
    omega
  · rw [if_neg c] at h
    exact absurd (show (1 : Nat) = 0 from congrArg Prod.fst h) (by decide)
theorem chR_clp {b : Nat → Int32} {n cnt t : Nat} {sn : Nat → Int32} : chR b n cnt (clp cnt sn) t = chR b n cnt sn t := by
  unfold chR clp
  rcases Nat.eq_zero_or_pos cnt with h | h
  · simp [h]
  · rw [if_pos (show cnt - 1 < cnt by omega)]
theorem clp_upd {f : Nat → Int32} {n : Nat} {v : Int32} : upd (clp n f) n v = clp (n + 1) (upd f n v) := by
  funext j
  show (if j = n then v else (if j < n then f j else 0)) = (if j < n + 1 then (if j = n then v else f j) else 0)
  by_cases h : j = n
  · rw [if_pos h, if_pos (by omega), if_pos h]
  · rw [if_neg h, if_neg h]
    by_cases h1 : j < n
    · rw [if_pos h1, if_pos (by omega)]
    · rw [if_neg h1, if_neg (by omega)]
theorem clp_0 {f : Nat → Int32} : clp 0 f = fun _ => 0 := by
  funext j
  unfold clp
  rw [if_neg (by omega)]
def ruF (b : Nat → Int32) (n t : Nat) : Nat × Nat × Int32 × RSt × Int32 :=
  if (ruH b n t).1 = 0 then ((ruL b n 24 (ruH b n t).2.2.1 ru0).1, (ruL b n 24 (ruH b n t).2.2.1 ru0).2.1, (ruH b n t).2.2.2, (ruL b n 24 (ruH b n t).2.2.1 ru0).2.2.1, (ruL b n 24 (ruH b n t).2.2.1 ru0).2.2.2)
  else ((ruH b n t).1, (ruH b n t).2.1, 0, ru0, 0)
theorem rf_h {b : Nat → Int32} {n t e p : Nat} (h : (ruH b n t).1 = e) (h1 : 1 ≤ e) (hp : (ruH b n t).2.1 = p) : (ruF b n t).1 = e ∧ (ruF b n t).2.1 = p := by
  unfold ruF
  rw [if_neg (by omega)]
  exact ⟨h, hp⟩
theorem rf_l {b : Nat → Int32} {n t t1 e p : Nat} {v : Int32} (h : ruH b n t = (0, 0, t1, v)) (he : (ruL b n 24 t1 ru0).1 = e) (hp : (ruL b n 24 t1 ru0).2.1 = p) : (ruF b n t).1 = e ∧ (ruF b n t).2.1 = p := by
  unfold ruF
  rw [h, if_pos rfl]
  exact ⟨he, hp⟩
theorem rf_o {b : Nat → Int32} {n t t1 : Nat} {v w : Int32} {σ : RSt} (h : ruH b n t = (0, 0, t1, v)) (hl : ruL b n 24 t1 ru0 = (0, 0, σ, w)) : ruF b n t = (0, 0, v, σ, w) := by
  unfold ruF
  rw [h, if_pos rfl, hl]
theorem ro_1e {b : Nat → Int32} {n t e p t1 q : Nat} {v : Int32} (h : letA b n (skA b n t) = (sByt.getD 7 [])) (hq : nuR b n false 0 3 (skA b n t + 5) = (e, p, t1, v, q)) (h1 : 1 ≤ e) : (roR b n t).1 = e ∧ (roR b n t).2.1 = p := by
  unfold roR
  have h0 : ¬ e = 0 := by omega
  rw [if_pos h, hq]
  simp only [h0, if_false]
  exact ⟨trivial, trivial⟩
theorem ro_1f {b : Nat → Int32} {n t p t1 q : Nat} {v : Int32} (h : letA b n (skA b n t) = (sByt.getD 7 [])) (hq : nuR b n false 0 3 (skA b n t + 5) = (0, p, t1, v, q)) (hz : skA b n t1 < n) : roR b n t = (1, skA b n t1, v) := by
  unfold roR
  rw [if_pos h, hq]
  simp only [hz, if_true]
theorem ro_1o {b : Nat → Int32} {n t p t1 q : Nat} {v : Int32} (h : letA b n (skA b n t) = (sByt.getD 7 [])) (hq : nuR b n false 0 3 (skA b n t + 5) = (0, p, t1, v, q)) (hz : ¬ skA b n t1 < n) : roR b n t = (0, 0, v) := by
  unfold roR
  rw [if_pos h, hq]
  simp only [hz, if_true, if_false]
theorem ro_0f {b : Nat → Int32} {n t : Nat} (h : ¬ letA b n (skA b n t) = (sByt.getD 7 [])) (hz : skA b n t < n) : roR b n t = (1, skA b n t, 0) := by
  unfold roR
  rw [if_neg h, if_pos hz]
theorem ro_0o {b : Nat → Int32} {n t : Nat} (h : ¬ letA b n (skA b n t) = (sByt.getD 7 [])) (hz : ¬ skA b n t < n) : roR b n t = (0, 0, 0) := by
  unfold roR
  rw [if_neg h, if_neg hz]
theorem ch_1 {b : Nat → Int32} {n cnt t e p1 t1 q1 : Nat} {sn : Nat → Int32} {v1 : Int32} (h1 : nuR b n false 1 24 t = (e, p1, t1, v1, q1)) (he : 1 ≤ e) : (chR b n cnt sn t).1 = e ∧ (chR b n cnt sn t).2.1 = p1 := by
  have q : chR b n cnt sn t = (e, p1, t1, 0, 0) := by
    unfold chR
    rw [h1]
    show (if e = 0 then _ else _) = _
    rw [if_neg (by omega)]
  rw [q]
  exact ⟨rfl, rfl⟩
theorem ch_3 {b : Nat → Int32} {n cnt t p1 t1 q1 : Nat} {sn : Nat → Int32} {v1 : Int32} (h1 : nuR b n false 1 24 t = (0, p1, t1, v1, q1)) (hc : ¬ (cnt = 0 ∨ sn (cnt - 1) < v1)) : (chR b n cnt sn t).1 = 3 ∧ (chR b n cnt sn t).2.1 = q1 := by
  have q : chR b n cnt sn t = (3, q1, t1, 0, 0) := by
    unfold chR
    rw [h1]
    show (if (0 : Nat) = 0 then _ else _) = _
    rw [if_pos rfl, if_neg hc]
  rw [q]
  exact ⟨rfl, rfl⟩
theorem ch_2 {b : Nat → Int32} {n cnt t p1 t1 q1 e p2 t2 : Nat} {sn : Nat → Int32} {v1 : Int32} (h1 : nuR b n false 1 24 t = (0, p1, t1, v1, q1)) (hc : cnt = 0 ∨ sn (cnt - 1) < v1) (h2 : wdR b n (sByt.getD 12 []) t1 = (e, p2, t2)) (he : 1 ≤ e) : (chR b n cnt sn t).1 = e ∧ (chR b n cnt sn t).2.1 = p2 := by
  have q : chR b n cnt sn t = (e, p2, t2, 0, 0) := by
    unfold chR
    rw [h1]
    show (if (0 : Nat) = 0 then _ else _) = _
    rw [if_pos rfl, if_pos hc, h2]
    show (if e = 0 then _ else _) = _
    rw [if_neg (by omega)]
  rw [q]
  exact ⟨rfl, rfl⟩
theorem ch_4 {b : Nat → Int32} {n cnt t p1 t1 q1 p2 t2 e p3 t3 q3 : Nat} {sn : Nat → Int32} {v1 v3 : Int32} (h1 : nuR b n false 1 24 t = (0, p1, t1, v1, q1)) (hc : cnt = 0 ∨ sn (cnt - 1) < v1) (h2 : wdR b n (sByt.getD 12 []) t1 = (0, p2, t2)) (h3 : nuR b n false 0 24 t2 = (e, p3, t3, v3, q3)) (he : 1 ≤ e) : (chR b n cnt sn t).1 = e ∧ (chR b n cnt sn t).2.1 = p3 := by
  have q : chR b n cnt sn t = (e, p3, t3, 0, 0) := by
    unfold chR
    rw [h1]
    show (if (0 : Nat) = 0 then _ else _) = _
    rw [if_pos rfl, if_pos hc, h2]
    show (if (0 : Nat) = 0 then _ else _) = _
    rw [if_pos rfl, h3]
    show (if e = 0 then _ else _) = _
    rw [if_neg (by omega)]
  rw [q]
  exact ⟨rfl, rfl⟩
theorem ch_0 {b : Nat → Int32} {n cnt t p1 t1 q1 p2 t2 p3 t3 q3 : Nat} {sn : Nat → Int32} {v1 v3 : Int32} (h1 : nuR b n false 1 24 t = (0, p1, t1, v1, q1)) (hc : cnt = 0 ∨ sn (cnt - 1) < v1) (h2 : wdR b n (sByt.getD 12 []) t1 = (0, p2, t2)) (h3 : nuR b n false 0 24 t2 = (0, p3, t3, v3, q3)) : chR b n cnt sn t = (0, 0, t3, v1, v3) := by
  unfold chR
  rw [h1]
  show (if (0 : Nat) = 0 then _ else _) = _
  rw [if_pos rfl, if_pos hc, h2]
  show (if (0 : Nat) = 0 then _ else _) = _
  rw [if_pos rfl, h3]
  show (if (0 : Nat) = 0 then _ else _) = _
  rw [if_pos rfl]


set_option maxHeartbeats 4000000 in
set_option maxRecDepth 100000 in
theorem y_readChange (l : Launch) (D : va_G) (k : Nat → ClassId) (st : Nat → Nat) (lo : Nat) (u0 : Nat) (u1 : Nat) (u2 : Nat) (rf : Int32) (rc : Nat) (rr : Nat) (rs : Nat → Int32) (rb : Nat → Int32) (x0 : Nat) (x1 : Nat) (tz : Nat) (ta : Nat) (na : Int32) (fn : Int32) (fb : Int32) (fx : Nat → Int32) (ht : ta ≤ tz) (hz : tz ≤ 240) (hrc : rc < 24) (hf0 : fn = 0) : CWv l D k st lo yX3_readChange cX3_readChange 4 none ({ frames := 6, cells := 0, slots := 0, locals := 129 }) 0 0 [.ref u0, .ref x0] [(u0, .inr (3, (fX3 u1 u2 rf (nI rc) (nI rr)))), (aI k u1 24 rs), (aI k u2 24 rb), (x0, .inr (6, (fX6 x1 (nI tz) (nI ta) na fn fb))), (aB k x1 240 fx)] (fun (u : Nat × (Nat → Int32) × (Nat → Int32) × Nat × Int32 × Int32 × Int32) => match u with | (rc_, rs_, rb_, ta_, na_, fn_, fb_) => ((fn_ = 0 ∧ ∃ v1 v3 : Int32, chR (bF fx) tz rc rs ta = (0, 0, ta_, v1, v3) ∧ rc_ = rc + 1 ∧ rs_ = upd rs rc v1 ∧ rb_ = upd rb rc v3 ∧ ta + 6 ≤ ta_) ∨ (∃ e pl : Nat, fn_ = nI e ∧ 1 ≤ e ∧ e ≤ 3 ∧ (chR (bF fx) tz rc rs ta).1 = e ∧ (chR (bF fx) tz rc rs ta).2.1 = pl ∧ fb_ = nI pl)) ∧ rc_ ≤ 24 ∧ ta ≤ ta_ ∧ ta_ ≤ tz) (fun (u : Nat × (Nat → Int32) × (Nat → Int32) × Nat × Int32 × Int32 × Int32) => match u with | (rc_, rs_, rb_, ta_, na_, fn_, fb_) => [(u0, .inr (3, (fX3 u1 u2 rf (nI rc_) (nI rr)))), (aI k u1 24 rs_), (aI k u2 24 rb_), (x0, .inr (6, (fX6 x1 (nI tz) (nI ta_) na_ fn_ fb_))), (aB k x1 240 fx)]) := by
  intro sz
  refine Met.ofW (cc := cX3_readChange) (maxL := 4) (ret := none) (by decide) rfl ?_
  intro p e s m args below meth c s₁ B hml hv
  obtain ⟨rfl, hsz, hlo, hP, hK, hDL, hZ⟩ := hv
  have hx := B.exec
  have hb := B.bytes
  have hr := B.returns
  have hts := WS_ts B.pre
  have hown : s.vm.findClass RX3 = some m.cls := findClass_of_methodNamed B.named
  have hlocks := B.notSynchronized
  subst hsz
  have hD := hDL.self (sz := s.heap.size)
  have hAlo := A_lo hDL hlo
  generalize hAe : va_A [(u0, .inr (3, (fX3 u1 u2 rf (nI rc) (nI rr)))), (aI k u1 24 rs), (aI k u2 24 rb), (x0, .inr (6, (fX6 x1 (nI tz) (nI ta) na fn fb))), (aB k x1 240 fx)] s.heap.size = A at hD hAlo ⊢
  have hA : ∀ q : Nat, s.heap.size ≤ q → A q := fun q h => by rw [← hAe]; exact Or.inr h
  have hS : va_S A s.heap s.heap [] := va_S.rf
  have hl := lv_entry ([.ref u0, .ref x0]) (n := 4) (Nat.le_of_ble_eq_true rfl)
  rw [lg_entry_eq]
  generalize (lg_sl ([.ref u0, .ref x0]) ++ List.replicate (4 - (lg_sl ([.ref u0, .ref x0])).length) Slot.unset).toArray = ls at hl ⊢
  have hl : lv_has ls 4 [(0, .ref u0), (1, .ref x0)] := hl
  subst hf0
  refine lv_aload_n hx hb dX3_readChange_0 rfl (lv_at hl 1 rfl) ?_
  refine lv_iconst (v := 1) hx hb dX3_readChange_1 (by decide) ?_
  refine lv_bipush (v := 24) hx hb dX3_readChange_2 (by decide) ?_
  refine rw_i (D := D) (wr := [(u0, .inr (3, (fX3 u1 u2 rf (nI rc) (nI rr)))), (aI k u1 24 rs), (aI k u2 24 rb)]) (va_runV (As := [.int 1, .int 24]) (rest := []) ⟨hx, hb, hml, hown, hts⟩ ((y_needNumber l D k st lo x0 x1 tz ta na 0 fb fx 1 24 (by first | assumption | omega) (by first | assumption | omega) (by decide)) s.heap.size) (cwV 2 hts (gV tw_681 tw_468 tw_469 tw_80 tw_470) rfl rfl rfl (by decide +kernel) ⟨Nat.le_of_ble_eq_true rfl, Nat.le_of_ble_eq_true rfl⟩) (pV hS hAlo hlo hP hK (va_Dlo hD hAlo) hZ [3, 4] (by decide) rfl (ci := 6) (q := (RX6, TX6, 6)) (q0 := 0) rfl rfl) rfl rfl hl.1 rfl (lv_room (Nat.le_of_ble_eq_true rfl)) dX3_readChange_4 ⟨Nat.le_of_ble_eq_true rfl, Nat.le_of_ble_eq_true rfl⟩) hS hA hP hD [3, 4] [0, 1, 2] rfl rfl (by decide) (by decide) (fun r_1 u H locs hw_1 hP hD hS => ?_)
  obtain ⟨ta__1, na__1, fn__1, fb__1⟩ := u
  have hQ9 := pd_mk [(u0, .inr (3, (fX3 u1 u2 rf (nI rc) (nI rr)))), (aI k u1 24 rs), (aI k u2 24 rb), (x0, .inr (6, (fX6 x1 (nI tz) (nI ta__1) na__1 fn__1 fb__1))), (aB k x1 240 fx)] hP hD
  clear hP hD
  obtain ⟨hP, hD⟩ := hQ9
  try dsimp only at hw_1
  obtain ⟨pl_2, nq_2, rfl, hq_2⟩ := hw_1.2.1 rfl
  rw [show decide ((1 : Int32) < 0) = false from by decide] at hq_2
  rcases hq_2 with ⟨rfl, hq_2⟩ | ⟨rfl, hr_2, rfl, hq_2⟩ | ⟨rfl, hr_2, rfl, hq_2⟩
  · refine lv_istore_n (lv' := [(2, .int r_1), (0, .ref u0), (1, .ref x0)]) hx hb dX3_readChange_7 rfl hl (by decide) rfl (fun ls hl => ?_)
    refine lv_aload_n hx hb dX3_readChange_8 rfl (lv_at hl 2 rfl) ?_
    refine ro_i (D := D) (va_runV (As := []) (rest := []) ⟨hx, hb, hml, hown, hts⟩ ((x_failed l D k st lo x0 x1 tz ta__1 (nI nq_2) 0 fb__1) H.size) (cwV 0 hts (gV tw_682 tw_368 tw_369 tw_80 tw_370) rfl rfl rfl (by decide +kernel) ⟨Nat.le_of_ble_eq_true rfl, Nat.le_of_ble_eq_true rfl⟩) (pV hS hAlo hlo hP hK (va_Dlo hD hAlo) hZ [3] (by decide) rfl (ci := 6) (q := (RX6, TX6, 6)) (q0 := 0) rfl rfl) rfl rfl hl.1 rfl (lv_room (Nat.le_of_ble_eq_true rfl)) dX3_readChange_9 ⟨Nat.le_of_ble_eq_true rfl, Nat.le_of_ble_eq_true rfl⟩) hS hA hP (fun r_3 H locs hw_3 hP hS => ?_)
    try dsimp only at hw_3
    obtain rfl : r_3 = 0 := by rcases hw_3 with ⟨h, h2⟩ | ⟨h, h2⟩ <;> first | exact h | exact absurd rfl h2 | exact absurd h2 (by decide)
    refine lv_if_ne (tgt := 46) hx hb dX3_readChange_12 (by decide) (fun h => absurd (by decide) h) (fun _ => ?_)
    refine lv_aload_n hx hb dX3_readChange_15 rfl (lv_at hl 1 rfl) ?_
    refine va_get (D := D) (ci := 3) (v := .int (nI rc)) (C := RX3) (T := TX3) (N := 5) hx hb hts inX3 hown hK hP 0 rfl rfl 3 (by decide) (hts _ tw_292) (fun _ h9 => h9) rfl dX3_readChange_16 ?_
    refine lv_if_le (tgt := 46) hx hb dX3_readChange_19 (by decide) (fun c_4 => ?_) (fun c_4 => ?_)
    · have c_4 := (nI_leI (a := rc) (b := 0) (by omega) (by omega)).mp c_4
      refine lv_aload_n hx hb dX3_readChange_46 rfl (lv_at hl 2 rfl) ?_
      refine va_ldcS hx hb hown (hZ.2.2.2.2.2.2.2.2.2.2 (RX3, 28, "from", 12) (List.mem_of_getElem? (i := 12) rfl)) dX3_readChange_47 ?_
      refine rw_v (D := D) (wr := [(u0, .inr (3, (fX3 u1 u2 rf (nI rc) (nI rr)))), (aI k u1 24 rs), (aI k u2 24 rb)]) (va_runV (As := [.ref (st (100 + 12))]) (rest := []) ⟨hx, hb, hml, hown, hts⟩ ((y_needWord l D k st lo x0 x1 tz ta__1 (nI nq_2) 0 fb__1 fx 12 (by first | assumption | omega) (by first | assumption | omega) (by first | assumption | omega)) H.size) (cwV 1 hts (gV tw_680 tw_483 tw_484 tw_80 tw_485) rfl rfl rfl (by decide +kernel) ⟨Nat.le_of_ble_eq_true rfl, Nat.le_of_ble_eq_true rfl⟩) (pV hS hAlo hlo hP hK (va_Dlo hD hAlo) hZ [3, 4] (by decide) rfl (ci := 6) (q := (RX6, TX6, 6)) (q0 := 0) rfl rfl) rfl rfl hl.1 rfl (lv_room (Nat.le_of_ble_eq_true rfl)) dX3_readChange_49 ⟨Nat.le_of_ble_eq_true rfl, Nat.le_of_ble_eq_true rfl⟩) hS hA hP hD [3, 4] [0, 1, 2] rfl rfl (by decide) (by decide) (fun u H locs hw_5 hP hD hS => ?_)
      obtain ⟨ta__5, fn__5, fb__5⟩ := u
      have hQ9 := pd_mk [(u0, .inr (3, (fX3 u1 u2 rf (nI rc) (nI rr)))), (aI k u1 24 rs), (aI k u2 24 rb), (x0, .inr (6, (fX6 x1 (nI tz) (nI ta__5) (nI nq_2) fn__5 fb__5))), (aB k x1 240 fx)] hP hD
      clear hP hD
      obtain ⟨hP, hD⟩ := hQ9
      try dsimp only at hw_5
      rcases hw_5.2.1 rfl with ⟨rfl, hq_6⟩ | ⟨rfl, pl_6, hq_6, rfl⟩
      · refine lv_aload_n hx hb dX3_readChange_52 rfl (lv_at hl 2 rfl) ?_
        refine lv_iconst (v := 0) hx hb dX3_readChange_53 (by decide) ?_
        refine lv_bipush (v := 24) hx hb dX3_readChange_54 (by decide) ?_
        refine rw_i (D := D) (wr := [(u0, .inr (3, (fX3 u1 u2 rf (nI rc) (nI rr)))), (aI k u1 24 rs), (aI k u2 24 rb)]) (va_runV (As := [.int 0, .int 24]) (rest := []) ⟨hx, hb, hml, hown, hts⟩ ((y_needNumber l D k st lo x0 x1 tz ta__5 (nI nq_2) 0 fb__5 fx 0 24 (by first | assumption | omega) (by first | assumption | omega) (by decide)) H.size) (cwV 2 hts (gV tw_681 tw_468 tw_469 tw_80 tw_470) rfl rfl rfl (by decide +kernel) ⟨Nat.le_of_ble_eq_true rfl, Nat.le_of_ble_eq_true rfl⟩) (pV hS hAlo hlo hP hK (va_Dlo hD hAlo) hZ [3, 4] (by decide) rfl (ci := 6) (q := (RX6, TX6, 6)) (q0 := 0) rfl rfl) rfl rfl hl.1 rfl (lv_room (Nat.le_of_ble_eq_true rfl)) dX3_readChange_56 ⟨Nat.le_of_ble_eq_true rfl, Nat.le_of_ble_eq_true rfl⟩) hS hA hP hD [3, 4] [0, 1, 2] rfl rfl (by decide) (by decide) (fun r_7 u H locs hw_7 hP hD hS => ?_)
        obtain ⟨ta__7, na__7, fn__7, fb__7⟩ := u
        have hQ9 := pd_mk [(u0, .inr (3, (fX3 u1 u2 rf (nI rc) (nI rr)))), (aI k u1 24 rs), (aI k u2 24 rb), (x0, .inr (6, (fX6 x1 (nI tz) (nI ta__7) na__7 fn__7 fb__7))), (aB k x1 240 fx)] hP hD
        clear hP hD
        obtain ⟨hP, hD⟩ := hQ9
        try dsimp only at hw_7
        obtain ⟨pl_8, nq_8, rfl, hq_8⟩ := hw_7.2.1 rfl
        rw [show decide ((0 : Int32) < 0) = false from by decide] at hq_8
        rcases hq_8 with ⟨rfl, hq_8⟩ | ⟨rfl, hr_8, rfl, hq_8⟩ | ⟨rfl, hr_8, rfl, hq_8⟩
        · refine lv_istore_n (lv' := [(3, .int r_7), (2, .int r_1), (0, .ref u0), (1, .ref x0)]) hx hb dX3_readChange_59 rfl hl (by decide) rfl (fun ls hl => ?_)
          refine lv_aload_n hx hb dX3_readChange_60 rfl (lv_at hl 3 rfl) ?_
          refine ro_i (D := D) (va_runV (As := []) (rest := []) ⟨hx, hb, hml, hown, hts⟩ ((x_failed l D k st lo x0 x1 tz ta__7 (nI nq_8) 0 fb__7) H.size) (cwV 0 hts (gV tw_682 tw_368 tw_369 tw_80 tw_370) rfl rfl rfl (by decide +kernel) ⟨Nat.le_of_ble_eq_true rfl, Nat.le_of_ble_eq_true rfl⟩) (pV hS hAlo hlo hP hK (va_Dlo hD hAlo) hZ [3] (by decide) rfl (ci := 6) (q := (RX6, TX6, 6)) (q0 := 0) rfl rfl) rfl rfl hl.1 rfl (lv_room (Nat.le_of_ble_eq_true rfl)) dX3_readChange_61 ⟨Nat.le_of_ble_eq_true rfl, Nat.le_of_ble_eq_true rfl⟩) hS hA hP (fun r_9 H locs hw_9 hP hS => ?_)
          try dsimp only at hw_9
          obtain rfl : r_9 = 0 := by rcases hw_9 with ⟨h, h2⟩ | ⟨h, h2⟩ <;> first | exact h | exact absurd rfl h2 | exact absurd h2 (by decide)
          refine lv_if_ne (tgt := 106) hx hb dX3_readChange_64 (by decide) (fun h => absurd (by decide) h) (fun _ => ?_)
          refine lv_aload_n hx hb dX3_readChange_67 rfl (lv_at hl 2 rfl) ?_
          refine va_get (D := D) (ci := 3) (v := .int (nI rc)) (C := RX3) (T := TX3) (N := 5) hx hb hts inX3 hown hK hP 0 rfl rfl 3 (by decide) (hts _ tw_292) (fun _ h9 => h9) rfl dX3_readChange_68 ?_
          refine lv_bipush (v := 24) hx hb dX3_readChange_71 (by decide) ?_
          refine lv_icmp_ge (tgt := 106) hx hb dX3_readChange_73 (by decide) (fun h => absurd ((nI_leI (a := 24) (b := rc) (by omega) (by omega)).mp h) (by omega)) (fun _ => ?_)
          refine lv_aload_n hx hb dX3_readChange_76 rfl (lv_at hl 2 rfl) ?_
          refine va_get (D := D) (ci := 3) (v := .ref u1) (C := RX3) (T := TX3) (N := 5) hx hb hts inX3 hown hK hP 0 rfl rfl 0 (by decide) (hts _ tw_289) (fun _ h9 => h9) rfl dX3_readChange_77 ?_
          refine lv_aload_n hx hb dX3_readChange_80 rfl (lv_at hl 2 rfl) ?_
          refine va_get (D := D) (ci := 3) (v := .int (nI rc)) (C := RX3) (T := TX3) (N := 5) hx hb hts inX3 hown hK hP 0 rfl rfl 3 (by decide) (hts _ tw_292) (fun _ h9 => h9) rfl dX3_readChange_81 ?_
          refine lv_iload_n hx hb dX3_readChange_84 rfl (lv_at hl 1 rfl) ?_
          refine va_iast hx hb hK hP hD hS 1 1 rfl rfl (vp_in_nI (by omega) (by decide)) dX3_readChange_85 (fun H locs hP hD hS => ?_)
          have hQ9 := pd_mk [(u0, .inr (3, (fX3 u1 u2 rf (nI rc) (nI rr)))), (aI k u1 24 (upd rs (Int32.toNatClampNeg (nI rc)) r_1)), (aI k u2 24 rb), (x0, .inr (6, (fX6 x1 (nI tz) (nI ta__7) (nI nq_8) 0 fb__7))), (aB k x1 240 fx)] hP hD
          clear hP hD
          obtain ⟨hP, hD⟩ := hQ9
          rw [nI_clamp (n := rc) (by omega)] at hP hD
          have hQ9 := pd_mk [(u0, .inr (3, (fX3 u1 u2 rf (nI rc) (nI rr)))), (aI k u1 24 (upd rs rc r_1)), (aI k u2 24 rb), (x0, .inr (6, (fX6 x1 (nI tz) (nI ta__7) (nI nq_8) 0 fb__7))), (aB k x1 240 fx)] hP hD
          clear hP hD
          obtain ⟨hP, hD⟩ := hQ9
          refine lv_aload_n hx hb dX3_readChange_86 rfl (lv_at hl 2 rfl) ?_
          refine va_get (D := D) (ci := 3) (v := .ref u2) (C := RX3) (T := TX3) (N := 5) hx hb hts inX3 hown hK hP 0 rfl rfl 1 (by decide) (hts _ tw_290) (fun _ h9 => h9) rfl dX3_readChange_87 ?_
          refine lv_aload_n hx hb dX3_readChange_90 rfl (lv_at hl 2 rfl) ?_
          refine va_get (D := D) (ci := 3) (v := .int (nI rc)) (C := RX3) (T := TX3) (N := 5) hx hb hts inX3 hown hK hP 0 rfl rfl 3 (by decide) (hts _ tw_292) (fun _ h9 => h9) rfl dX3_readChange_91 ?_
          refine lv_iload_n hx hb dX3_readChange_94 rfl (lv_at hl 0 rfl) ?_
          refine va_iast hx hb hK hP hD hS 2 1 rfl rfl (vp_in_nI (by omega) (by decide)) dX3_readChange_95 (fun H locs hP hD hS => ?_)
          have hQ9 := pd_mk [(u0, .inr (3, (fX3 u1 u2 rf (nI rc) (nI rr)))), (aI k u1 24 (upd rs rc r_1)), (aI k u2 24 (upd rb (Int32.toNatClampNeg (nI rc)) r_7)), (x0, .inr (6, (fX6 x1 (nI tz) (nI ta__7) (nI nq_8) 0 fb__7))), (aB k x1 240 fx)] hP hD
          clear hP hD
          obtain ⟨hP, hD⟩ := hQ9
          rw [nI_clamp (n := rc) (by omega)] at hP hD
          have hQ9 := pd_mk [(u0, .inr (3, (fX3 u1 u2 rf (nI rc) (nI rr)))), (aI k u1 24 (upd rs rc r_1)), (aI k u2 24 (upd rb rc r_7)), (x0, .inr (6, (fX6 x1 (nI tz) (nI ta__7) (nI nq_8) 0 fb__7))), (aB k x1 240 fx)] hP hD
          clear hP hD
          obtain ⟨hP, hD⟩ := hQ9
          refine lv_aload_n hx hb dX3_readChange_96 rfl (lv_at hl 2 rfl) ?_
          refine lv_dup hx hb dX3_readChange_97 rfl ?_
          refine va_get (D := D) (ci := 3) (v := .int (nI rc)) (C := RX3) (T := TX3) (N := 5) hx hb hts inX3 hown hK hP 0 rfl rfl 3 (by decide) (hts _ tw_292) (fun _ h9 => h9) rfl dX3_readChange_98 ?_
          refine lv_iconst (v := 1) hx hb dX3_readChange_101 (by decide) ?_
          refine lv_iadd hx hb dX3_readChange_102 ?_
          refine lv_ti (y := (nI (rc + 1))) (nI_add rc 1) ?_
          refine va_put (D := D) (ci := 3) (v := .int (nI (rc + 1))) (ty := .int) (C := RX3) (T := TX3) (N := 5) hx hb hts inX3 tyX3 tyX3_ok nmX3 hown hK hP hD hS 0 rfl rfl 3 (by decide) (hts _ tw_292) (fun _ h9 => h9) rfl (by decide +kernel) rfl rfl (Nat.le_of_ble_eq_true rfl) dX3_readChange_103 (fun H locs hP hD hS => ?_)
          have hQ9 := pd_mk [(u0, .inr (3, (fX3 u1 u2 rf (nI (rc + 1)) (nI rr)))), (aI k u1 24 (upd rs rc r_1)), (aI k u2 24 (upd rb rc r_7)), (x0, .inr (6, (fX6 x1 (nI tz) (nI ta__7) (nI nq_8) 0 fb__7))), (aB k x1 240 fx)] hP hD
          clear hP hD
          obtain ⟨hP, hD⟩ := hQ9
          have hz1_9 := nuR_ge hq_2
          have hz2_9 := wdR_ge (i := 12) hq_6
          have hz3_9 := nuR_ge hq_8
          replace hz2_9 : _ + 4 ≤ _ := hz2_9
          obtain ⟨hP9, hD9⟩ := pd_sub [(u0, .inr (3, (fX3 u1 u2 rf (nI (rc + 1)) (nI rr)))), (aI k u1 24 (upd rs rc r_1)), (aI k u2 24 (upd rb rc r_7)), (x0, .inr (6, (fX6 x1 (nI tz) (nI ta__7) (nI nq_8) 0 fb__7))), (aB k x1 240 fx)] [0, 1, 2, 3, 4] hP hD (by decide) rfl
          exact W.vret hx hb hr (fun t ht hW => ⟨⟨((rc + 1), (upd rs rc r_1), (upd rb rc r_7), ta__7, (nI nq_8), 0, fb__7), rfl, ⟨.inl ⟨rfl, r_1, r_7, ch_0  hq_2 (.inl (by omega)) hq_6 hq_8, rfl, rfl, rfl, by omega⟩, by omega, by omega, by omega⟩, by rw [ht]; exact hP9, hD9⟩, hS.F ht⟩) hS.2.2 dX3_readChange_106
        · refine lv_istore_n (lv' := [(3, .int r_7), (2, .int r_1), (0, .ref u0), (1, .ref x0)]) hx hb dX3_readChange_59 rfl hl (by decide) rfl (fun ls hl => ?_)
          refine lv_aload_n hx hb dX3_readChange_60 rfl (lv_at hl 3 rfl) ?_
          refine ro_i (D := D) (va_runV (As := []) (rest := []) ⟨hx, hb, hml, hown, hts⟩ ((x_failed l D k st lo x0 x1 tz ta__7 (nI nq_8) 1 (nI pl_8)) H.size) (cwV 0 hts (gV tw_682 tw_368 tw_369 tw_80 tw_370) rfl rfl rfl (by decide +kernel) ⟨Nat.le_of_ble_eq_true rfl, Nat.le_of_ble_eq_true rfl⟩) (pV hS hAlo hlo hP hK (va_Dlo hD hAlo) hZ [3] (by decide) rfl (ci := 6) (q := (RX6, TX6, 6)) (q0 := 0) rfl rfl) rfl rfl hl.1 rfl (lv_room (Nat.le_of_ble_eq_true rfl)) dX3_readChange_61 ⟨Nat.le_of_ble_eq_true rfl, Nat.le_of_ble_eq_true rfl⟩) hS hA hP (fun r_13 H locs hw_13 hP hS => ?_)
          try dsimp only at hw_13
          obtain rfl : r_13 = 1 := by rcases hw_13 with ⟨h, h2⟩ | ⟨h, h2⟩ <;> first | exact h | exact absurd rfl h2 | exact absurd h2 (by decide)
          refine lv_if_ne (tgt := 106) hx hb dX3_readChange_64 (by decide) (fun _ => ?_) (fun h => absurd h (by decide))
          obtain ⟨hP9, hD9⟩ := pd_sub [(u0, .inr (3, (fX3 u1 u2 rf (nI rc) (nI rr)))), (aI k u1 24 rs), (aI k u2 24 rb), (x0, .inr (6, (fX6 x1 (nI tz) (nI ta__7) (nI nq_8) 1 (nI pl_8)))), (aB k x1 240 fx)] [0, 1, 2, 3, 4] hP hD (by decide) rfl
          exact W.vret hx hb hr (fun t ht hW => ⟨⟨(rc, rs, rb, ta__7, (nI nq_8), 1, (nI pl_8)), rfl, ⟨.inr ⟨1, pl_8, rfl, by decide, by decide, (ch_4  hq_2 (.inl (by omega)) hq_6 hq_8 (by decide)).1, (ch_4  hq_2 (.inl (by omega)) hq_6 hq_8 (by decide)).2, rfl⟩, by omega, by omega, by omega⟩, by rw [ht]; exact hP9, hD9⟩, hS.F ht⟩) hS.2.2 dX3_readChange_106
        · refine lv_istore_n (lv' := [(3, .int r_7), (2, .int r_1), (0, .ref u0), (1, .ref x0)]) hx hb dX3_readChange_59 rfl hl (by decide) rfl (fun ls hl => ?_)
          refine lv_aload_n hx hb dX3_readChange_60 rfl (lv_at hl 3 rfl) ?_
          refine ro_i (D := D) (va_runV (As := []) (rest := []) ⟨hx, hb, hml, hown, hts⟩ ((x_failed l D k st lo x0 x1 tz ta__7 (nI nq_8) 2 (nI pl_8)) H.size) (cwV 0 hts (gV tw_682 tw_368 tw_369 tw_80 tw_370) rfl rfl rfl (by decide +kernel) ⟨Nat.le_of_ble_eq_true rfl, Nat.le_of_ble_eq_true rfl⟩) (pV hS hAlo hlo hP hK (va_Dlo hD hAlo) hZ [3] (by decide) rfl (ci := 6) (q := (RX6, TX6, 6)) (q0 := 0) rfl rfl) rfl rfl hl.1 rfl (lv_room (Nat.le_of_ble_eq_true rfl)) dX3_readChange_61 ⟨Nat.le_of_ble_eq_true rfl, Nat.le_of_ble_eq_true rfl⟩) hS hA hP (fun r_14 H locs hw_14 hP hS => ?_)
          try dsimp only at hw_14
          obtain rfl : r_14 = 1 := by rcases hw_14 with ⟨h, h2⟩ | ⟨h, h2⟩ <;> first | exact h | exact absurd rfl h2 | exact absurd h2 (by decide)
          refine lv_if_ne (tgt := 106) hx hb dX3_readChange_64 (by decide) (fun _ => ?_) (fun h => absurd h (by decide))
          obtain ⟨hP9, hD9⟩ := pd_sub [(u0, .inr (3, (fX3 u1 u2 rf (nI rc) (nI rr)))), (aI k u1 24 rs), (aI k u2 24 rb), (x0, .inr (6, (fX6 x1 (nI tz) (nI ta__7) (nI nq_8) 2 (nI pl_8)))), (aB k x1 240 fx)] [0, 1, 2, 3, 4] hP hD (by decide) rfl
          exact W.vret hx hb hr (fun t ht hW => ⟨⟨(rc, rs, rb, ta__7, (nI nq_8), 2, (nI pl_8)), rfl, ⟨.inr ⟨2, pl_8, rfl, by decide, by decide, (ch_4  hq_2 (.inl (by omega)) hq_6 hq_8 (by decide)).1, (ch_4  hq_2 (.inl (by omega)) hq_6 hq_8 (by decide)).2, rfl⟩, by omega, by omega, by omega⟩, by rw [ht]; exact hP9, hD9⟩, hS.F ht⟩) hS.2.2 dX3_readChange_106
      · refine lv_aload_n hx hb dX3_readChange_52 rfl (lv_at hl 2 rfl) ?_
        refine lv_iconst (v := 0) hx hb dX3_readChange_53 (by decide) ?_
        refine lv_bipush (v := 24) hx hb dX3_readChange_54 (by decide) ?_
        refine rw_i (D := D) (wr := [(u0, .inr (3, (fX3 u1 u2 rf (nI rc) (nI rr)))), (aI k u1 24 rs), (aI k u2 24 rb)]) (va_runV (As := [.int 0, .int 24]) (rest := []) ⟨hx, hb, hml, hown, hts⟩ ((y_needNumber l D k st lo x0 x1 tz ta__5 (nI nq_2) 1 (nI pl_6) fx 0 24 (by first | assumption | omega) (by first | assumption | omega) (by decide)) H.size) (cwV 2 hts (gV tw_681 tw_468 tw_469 tw_80 tw_470) rfl rfl rfl (by decide +kernel) ⟨Nat.le_of_ble_eq_true rfl, Nat.le_of_ble_eq_true rfl⟩) (pV hS hAlo hlo hP hK (va_Dlo hD hAlo) hZ [3, 4] (by decide) rfl (ci := 6) (q := (RX6, TX6, 6)) (q0 := 0) rfl rfl) rfl rfl hl.1 rfl (lv_room (Nat.le_of_ble_eq_true rfl)) dX3_readChange_56 ⟨Nat.le_of_ble_eq_true rfl, Nat.le_of_ble_eq_true rfl⟩) hS hA hP hD [3, 4] [0, 1, 2] rfl rfl (by decide) (by decide) (fun r_15 u H locs hw_15 hP hD hS => ?_)
        obtain ⟨ta__15, na__15, fn__15, fb__15⟩ := u
        have hQ9 := pd_mk [(u0, .inr (3, (fX3 u1 u2 rf (nI rc) (nI rr)))), (aI k u1 24 rs), (aI k u2 24 rb), (x0, .inr (6, (fX6 x1 (nI tz) (nI ta__15) na__15 fn__15 fb__15))), (aB k x1 240 fx)] hP hD
        clear hP hD
        obtain ⟨hP, hD⟩ := hQ9
        try dsimp only at hw_15
        have hr_16 := (hw_15.1 (by decide)).1
        obtain ⟨hs0_17, hs1_17, hs2_17, hs3_17⟩ := (hw_15.1 (by decide)).2
        replace hs0_17 := hs0_17.symm
        subst hs0_17
        replace hs1_17 := hs1_17.symm
        subst hs1_17
        replace hs2_17 := hs2_17.symm
        subst hs2_17
        replace hs3_17 := hs3_17.symm
        subst hs3_17
        refine lv_istore_n (lv' := [(3, .int r_15), (2, .int r_1), (0, .ref u0), (1, .ref x0)]) hx hb dX3_readChange_59 rfl hl (by decide) rfl (fun ls hl => ?_)
        refine lv_aload_n hx hb dX3_readChange_60 rfl (lv_at hl 3 rfl) ?_
        refine ro_i (D := D) (va_runV (As := []) (rest := []) ⟨hx, hb, hml, hown, hts⟩ ((x_failed l D k st lo x0 x1 tz ta__5 (nI nq_2) 1 (nI pl_6)) H.size) (cwV 0 hts (gV tw_682 tw_368 tw_369 tw_80 tw_370) rfl rfl rfl (by decide +kernel) ⟨Nat.le_of_ble_eq_true rfl, Nat.le_of_ble_eq_true rfl⟩) (pV hS hAlo hlo hP hK (va_Dlo hD hAlo) hZ [3] (by decide) rfl (ci := 6) (q := (RX6, TX6, 6)) (q0 := 0) rfl rfl) rfl rfl hl.1 rfl (lv_room (Nat.le_of_ble_eq_true rfl)) dX3_readChange_61 ⟨Nat.le_of_ble_eq_true rfl, Nat.le_of_ble_eq_true rfl⟩) hS hA hP (fun r_18 H locs hw_18 hP hS => ?_)
        try dsimp only at hw_18
        obtain rfl : r_18 = 1 := by rcases hw_18 with ⟨h, h2⟩ | ⟨h, h2⟩ <;> first | exact h | exact absurd rfl h2 | exact absurd h2 (by decide)
        refine lv_if_ne (tgt := 106) hx hb dX3_readChange_64 (by decide) (fun _ => ?_) (fun h => absurd h (by decide))
        obtain ⟨hP9, hD9⟩ := pd_sub [(u0, .inr (3, (fX3 u1 u2 rf (nI rc) (nI rr)))), (aI k u1 24 rs), (aI k u2 24 rb), (x0, .inr (6, (fX6 x1 (nI tz) (nI ta__5) (nI nq_2) 1 (nI pl_6)))), (aB k x1 240 fx)] [0, 1, 2, 3, 4] hP hD (by decide) rfl
        exact W.vret hx hb hr (fun t ht hW => ⟨⟨(rc, rs, rb, ta__5, (nI nq_2), 1, (nI pl_6)), rfl, ⟨.inr ⟨1, pl_6, rfl, by decide, by decide, (ch_2  hq_2 (.inl (by omega)) hq_6 (by decide)).1, (ch_2  hq_2 (.inl (by omega)) hq_6 (by decide)).2, rfl⟩, by omega, by omega, by omega⟩, by rw [ht]; exact hP9, hD9⟩, hS.F ht⟩) hS.2.2 dX3_readChange_106
    · have c_4 : ¬ (rc ≤ 0) := fun h => c_4 ((nI_leI (a := rc) (b := 0) (by omega) (by omega)).mpr h)
      refine lv_iload_n hx hb dX3_readChange_22 rfl (lv_at hl 0 rfl) ?_
      refine lv_aload_n hx hb dX3_readChange_23 rfl (lv_at hl 1 rfl) ?_
      refine va_get (D := D) (ci := 3) (v := .ref u1) (C := RX3) (T := TX3) (N := 5) hx hb hts inX3 hown hK hP 0 rfl rfl 0 (by decide) (hts _ tw_289) (fun _ h9 => h9) rfl dX3_readChange_24 ?_
      refine lv_aload_n hx hb dX3_readChange_27 rfl (lv_at hl 1 rfl) ?_
      refine va_get (D := D) (ci := 3) (v := .int (nI rc)) (C := RX3) (T := TX3) (N := 5) hx hb hts inX3 hown hK hP 0 rfl rfl 3 (by decide) (hts _ tw_292) (fun _ h9 => h9) rfl dX3_readChange_28 ?_
      refine lv_iconst (v := 1) hx hb dX3_readChange_31 (by decide) ?_
      refine lv_isub hx hb dX3_readChange_32 ?_
      refine lv_ti (y := (nI (rc - 1))) (pk_sub (a := rc) (b := 1) (by omega)) ?_
      refine va_iald hx hb hK hP 1 1 rfl rfl (vp_in_nI (by omega) (by decide)) dX3_readChange_33 ?_
      refine lv_ti (y := (rs (rc - 1))) (by rw [nI_clamp (by omega)]) ?_
      refine lv_icmp_gt (tgt := 46) hx hb dX3_readChange_34 (by decide) (fun c_19 => ?_) (fun c_19 => ?_)
      · refine lv_aload_n hx hb dX3_readChange_46 rfl (lv_at hl 2 rfl) ?_
        refine va_ldcS hx hb hown (hZ.2.2.2.2.2.2.2.2.2.2 (RX3, 28, "from", 12) (List.mem_of_getElem? (i := 12) rfl)) dX3_readChange_47 ?_
        refine rw_v (D := D) (wr := [(u0, .inr (3, (fX3 u1 u2 rf (nI rc) (nI rr)))), (aI k u1 24 rs), (aI k u2 24 rb)]) (va_runV (As := [.ref (st (100 + 12))]) (rest := []) ⟨hx, hb, hml, hown, hts⟩ ((y_needWord l D k st lo x0 x1 tz ta__1 (nI nq_2) 0 fb__1 fx 12 (by first | assumption | omega) (by first | assumption | omega) (by first | assumption | omega)) H.size) (cwV 1 hts (gV tw_680 tw_483 tw_484 tw_80 tw_485) rfl rfl rfl (by decide +kernel) ⟨Nat.le_of_ble_eq_true rfl, Nat.le_of_ble_eq_true rfl⟩) (pV hS hAlo hlo hP hK (va_Dlo hD hAlo) hZ [3, 4] (by decide) rfl (ci := 6) (q := (RX6, TX6, 6)) (q0 := 0) rfl rfl) rfl rfl hl.1 rfl (lv_room (Nat.le_of_ble_eq_true rfl)) dX3_readChange_49 ⟨Nat.le_of_ble_eq_true rfl, Nat.le_of_ble_eq_true rfl⟩) hS hA hP hD [3, 4] [0, 1, 2] rfl rfl (by decide) (by decide) (fun u H locs hw_20 hP hD hS => ?_)
        obtain ⟨ta__20, fn__20, fb__20⟩ := u
        have hQ9 := pd_mk [(u0, .inr (3, (fX3 u1 u2 rf (nI rc) (nI rr)))), (aI k u1 24 rs), (aI k u2 24 rb), (x0, .inr (6, (fX6 x1 (nI tz) (nI ta__20) (nI nq_2) fn__20 fb__20))), (aB k x1 240 fx)] hP hD
        clear hP hD
        obtain ⟨hP, hD⟩ := hQ9
        try dsimp only at hw_20
        rcases hw_20.2.1 rfl with ⟨rfl, hq_21⟩ | ⟨rfl, pl_21, hq_21, rfl⟩
        · refine lv_aload_n hx hb dX3_readChange_52 rfl (lv_at hl 2 rfl) ?_
          refine lv_iconst (v := 0) hx hb dX3_readChange_53 (by decide) ?_
          refine lv_bipush (v := 24) hx hb dX3_readChange_54 (by decide) ?_
          refine rw_i (D := D) (wr := [(u0, .inr (3, (fX3 u1 u2 rf (nI rc) (nI rr)))), (aI k u1 24 rs), (aI k u2 24 rb)]) (va_runV (As := [.int 0, .int 24]) (rest := []) ⟨hx, hb, hml, hown, hts⟩ ((y_needNumber l D k st lo x0 x1 tz ta__20 (nI nq_2) 0 fb__20 fx 0 24 (by first | assumption | omega) (by first | assumption | omega) (by decide)) H.size) (cwV 2 hts (gV tw_681 tw_468 tw_469 tw_80 tw_470) rfl rfl rfl (by decide +kernel) ⟨Nat.le_of_ble_eq_true rfl, Nat.le_of_ble_eq_true rfl⟩) (pV hS hAlo hlo hP hK (va_Dlo hD hAlo) hZ [3, 4] (by decide) rfl (ci := 6) (q := (RX6, TX6, 6)) (q0 := 0) rfl rfl) rfl rfl hl.1 rfl (lv_room (Nat.le_of_ble_eq_true rfl)) dX3_readChange_56 ⟨Nat.le_of_ble_eq_true rfl, Nat.le_of_ble_eq_true rfl⟩) hS hA hP hD [3, 4] [0, 1, 2] rfl rfl (by decide) (by decide) (fun r_22 u H locs hw_22 hP hD hS => ?_)
          obtain ⟨ta__22, na__22, fn__22, fb__22⟩ := u
          have hQ9 := pd_mk [(u0, .inr (3, (fX3 u1 u2 rf (nI rc) (nI rr)))), (aI k u1 24 rs), (aI k u2 24 rb), (x0, .inr (6, (fX6 x1 (nI tz) (nI ta__22) na__22 fn__22 fb__22))), (aB k x1 240 fx)] hP hD
          clear hP hD
          obtain ⟨hP, hD⟩ := hQ9
          try dsimp only at hw_22
          obtain ⟨pl_23, nq_23, rfl, hq_23⟩ := hw_22.2.1 rfl
          rw [show decide ((0 : Int32) < 0) = false from by decide] at hq_23
          rcases hq_23 with ⟨rfl, hq_23⟩ | ⟨rfl, hr_23, rfl, hq_23⟩ | ⟨rfl, hr_23, rfl, hq_23⟩
          · refine lv_istore_n (lv' := [(3, .int r_22), (2, .int r_1), (0, .ref u0), (1, .ref x0)]) hx hb dX3_readChange_59 rfl hl (by decide) rfl (fun ls hl => ?_)
            refine lv_aload_n hx hb dX3_readChange_60 rfl (lv_at hl 3 rfl) ?_
            refine ro_i (D := D) (va_runV (As := []) (rest := []) ⟨hx, hb, hml, hown, hts⟩ ((x_failed l D k st lo x0 x1 tz ta__22 (nI nq_23) 0 fb__22) H.size) (cwV 0 hts (gV tw_682 tw_368 tw_369 tw_80 tw_370) rfl rfl rfl (by decide +kernel) ⟨Nat.le_of_ble_eq_true rfl, Nat.le_of_ble_eq_true rfl⟩) (pV hS hAlo hlo hP hK (va_Dlo hD hAlo) hZ [3] (by decide) rfl (ci := 6) (q := (RX6, TX6, 6)) (q0 := 0) rfl rfl) rfl rfl hl.1 rfl (lv_room (Nat.le_of_ble_eq_true rfl)) dX3_readChange_61 ⟨Nat.le_of_ble_eq_true rfl, Nat.le_of_ble_eq_true rfl⟩) hS hA hP (fun r_24 H locs hw_24 hP hS => ?_)
            try dsimp only at hw_24
            obtain rfl : r_24 = 0 := by rcases hw_24 with ⟨h, h2⟩ | ⟨h, h2⟩ <;> first | exact h | exact absurd rfl h2 | exact absurd h2 (by decide)
            refine lv_if_ne (tgt := 106) hx hb dX3_readChange_64 (by decide) (fun h => absurd (by decide) h) (fun _ => ?_)
            refine lv_aload_n hx hb dX3_readChange_67 rfl (lv_at hl 2 rfl) ?_
            refine va_get (D := D) (ci := 3) (v := .int (nI rc)) (C := RX3) (T := TX3) (N := 5) hx hb hts inX3 hown hK hP 0 rfl rfl 3 (by decide) (hts _ tw_292) (fun _ h9 => h9) rfl dX3_readChange_68 ?_
            refine lv_bipush (v := 24) hx hb dX3_readChange_71 (by decide) ?_
            refine lv_icmp_ge (tgt := 106) hx hb dX3_readChange_73 (by decide) (fun h => absurd ((nI_leI (a := 24) (b := rc) (by omega) (by omega)).mp h) (by omega)) (fun _ => ?_)
            refine lv_aload_n hx hb dX3_readChange_76 rfl (lv_at hl 2 rfl) ?_
            refine va_get (D := D) (ci := 3) (v := .ref u1) (C := RX3) (T := TX3) (N := 5) hx hb hts inX3 hown hK hP 0 rfl rfl 0 (by decide) (hts _ tw_289) (fun _ h9 => h9) rfl dX3_readChange_77 ?_
            refine lv_aload_n hx hb dX3_readChange_80 rfl (lv_at hl 2 rfl) ?_
            refine va_get (D := D) (ci := 3) (v := .int (nI rc)) (C := RX3) (T := TX3) (N := 5) hx hb hts inX3 hown hK hP 0 rfl rfl 3 (by decide) (hts _ tw_292) (fun _ h9 => h9) rfl dX3_readChange_81 ?_
            refine lv_iload_n hx hb dX3_readChange_84 rfl (lv_at hl 1 rfl) ?_
            refine va_iast hx hb hK hP hD hS 1 1 rfl rfl (vp_in_nI (by omega) (by decide)) dX3_readChange_85 (fun H locs hP hD hS => ?_)
            have hQ9 := pd_mk [(u0, .inr (3, (fX3 u1 u2 rf (nI rc) (nI rr)))), (aI k u1 24 (upd rs (Int32.toNatClampNeg (nI rc)) r_1)), (aI k u2 24 rb), (x0, .inr (6, (fX6 x1 (nI tz) (nI ta__22) (nI nq_23) 0 fb__22))), (aB k x1 240 fx)] hP hD
            clear hP hD
            obtain ⟨hP, hD⟩ := hQ9
            rw [nI_clamp (n := rc) (by omega)] at hP hD
            have hQ9 := pd_mk [(u0, .inr (3, (fX3 u1 u2 rf (nI rc) (nI rr)))), (aI k u1 24 (upd rs rc r_1)), (aI k u2 24 rb), (x0, .inr (6, (fX6 x1 (nI tz) (nI ta__22) (nI nq_23) 0 fb__22))), (aB k x1 240 fx)] hP hD
            clear hP hD
            obtain ⟨hP, hD⟩ := hQ9
            refine lv_aload_n hx hb dX3_readChange_86 rfl (lv_at hl 2 rfl) ?_
            refine va_get (D := D) (ci := 3) (v := .ref u2) (C := RX3) (T := TX3) (N := 5) hx hb hts inX3 hown hK hP 0 rfl rfl 1 (by decide) (hts _ tw_290) (fun _ h9 => h9) rfl dX3_readChange_87 ?_
            refine lv_aload_n hx hb dX3_readChange_90 rfl (lv_at hl 2 rfl) ?_
            refine va_get (D := D) (ci := 3) (v := .int (nI rc)) (C := RX3) (T := TX3) (N := 5) hx hb hts inX3 hown hK hP 0 rfl rfl 3 (by decide) (hts _ tw_292) (fun _ h9 => h9) rfl dX3_readChange_91 ?_
            refine lv_iload_n hx hb dX3_readChange_94 rfl (lv_at hl 0 rfl) ?_
            refine va_iast hx hb hK hP hD hS 2 1 rfl rfl (vp_in_nI (by omega) (by decide)) dX3_readChange_95 (fun H locs hP hD hS => ?_)
            have hQ9 := pd_mk [(u0, .inr (3, (fX3 u1 u2 rf (nI rc) (nI rr)))), (aI k u1 24 (upd rs rc r_1)), (aI k u2 24 (upd rb (Int32.toNatClampNeg (nI rc)) r_22)), (x0, .inr (6, (fX6 x1 (nI tz) (nI ta__22) (nI nq_23) 0 fb__22))), (aB k x1 240 fx)] hP hD
            clear hP hD
            obtain ⟨hP, hD⟩ := hQ9
            rw [nI_clamp (n := rc) (by omega)] at hP hD
            have hQ9 := pd_mk [(u0, .inr (3, (fX3 u1 u2 rf (nI rc) (nI rr)))), (aI k u1 24 (upd rs rc r_1)), (aI k u2 24 (upd rb rc r_22)), (x0, .inr (6, (fX6 x1 (nI tz) (nI ta__22) (nI nq_23) 0 fb__22))), (aB k x1 240 fx)] hP hD
            clear hP hD
            obtain ⟨hP, hD⟩ := hQ9
            refine lv_aload_n hx hb dX3_readChange_96 rfl (lv_at hl 2 rfl) ?_
            refine lv_dup hx hb dX3_readChange_97 rfl ?_
            refine va_get (D := D) (ci := 3) (v := .int (nI rc)) (C := RX3) (T := TX3) (N := 5) hx hb hts inX3 hown hK hP 0 rfl rfl 3 (by decide) (hts _ tw_292) (fun _ h9 => h9) rfl dX3_readChange_98 ?_
            refine lv_iconst (v := 1) hx hb dX3_readChange_101 (by decide) ?_
            refine lv_iadd hx hb dX3_readChange_102 ?_
            refine lv_ti (y := (nI (rc + 1))) (nI_add rc 1) ?_
            refine va_put (D := D) (ci := 3) (v := .int (nI (rc + 1))) (ty := .int) (C := RX3) (T := TX3) (N := 5) hx hb hts inX3 tyX3 tyX3_ok nmX3 hown hK hP hD hS 0 rfl rfl 3 (by decide) (hts _ tw_292) (fun _ h9 => h9) rfl (by decide +kernel) rfl rfl (Nat.le_of_ble_eq_true rfl) dX3_readChange_103 (fun H locs hP hD hS => ?_)
            have hQ9 := pd_mk [(u0, .inr (3, (fX3 u1 u2 rf (nI (rc + 1)) (nI rr)))), (aI k u1 24 (upd rs rc r_1)), (aI k u2 24 (upd rb rc r_22)), (x0, .inr (6, (fX6 x1 (nI tz) (nI ta__22) (nI nq_23) 0 fb__22))), (aB k x1 240 fx)] hP hD
            clear hP hD
            obtain ⟨hP, hD⟩ := hQ9
            have hz1_9 := nuR_ge hq_2
            have hz2_9 := wdR_ge (i := 12) hq_21
            have hz3_9 := nuR_ge hq_23
            replace hz2_9 : _ + 4 ≤ _ := hz2_9
            obtain ⟨hP9, hD9⟩ := pd_sub [(u0, .inr (3, (fX3 u1 u2 rf (nI (rc + 1)) (nI rr)))), (aI k u1 24 (upd rs rc r_1)), (aI k u2 24 (upd rb rc r_22)), (x0, .inr (6, (fX6 x1 (nI tz) (nI ta__22) (nI nq_23) 0 fb__22))), (aB k x1 240 fx)] [0, 1, 2, 3, 4] hP hD (by decide) rfl
            exact W.vret hx hb hr (fun t ht hW => ⟨⟨((rc + 1), (upd rs rc r_1), (upd rb rc r_22), ta__22, (nI nq_23), 0, fb__22), rfl, ⟨.inl ⟨rfl, r_1, r_22, ch_0  hq_2 (.inr c_19) hq_21 hq_23, rfl, rfl, rfl, by omega⟩, by omega, by omega, by omega⟩, by rw [ht]; exact hP9, hD9⟩, hS.F ht⟩) hS.2.2 dX3_readChange_106
          · refine lv_istore_n (lv' := [(3, .int r_22), (2, .int r_1), (0, .ref u0), (1, .ref x0)]) hx hb dX3_readChange_59 rfl hl (by decide) rfl (fun ls hl => ?_)
            refine lv_aload_n hx hb dX3_readChange_60 rfl (lv_at hl 3 rfl) ?_
            refine ro_i (D := D) (va_runV (As := []) (rest := []) ⟨hx, hb, hml, hown, hts⟩ ((x_failed l D k st lo x0 x1 tz ta__22 (nI nq_23) 1 (nI pl_23)) H.size) (cwV 0 hts (gV tw_682 tw_368 tw_369 tw_80 tw_370) rfl rfl rfl (by decide +kernel) ⟨Nat.le_of_ble_eq_true rfl, Nat.le_of_ble_eq_true rfl⟩) (pV hS hAlo hlo hP hK (va_Dlo hD hAlo) hZ [3] (by decide) rfl (ci := 6) (q := (RX6, TX6, 6)) (q0 := 0) rfl rfl) rfl rfl hl.1 rfl (lv_room (Nat.le_of_ble_eq_true rfl)) dX3_readChange_61 ⟨Nat.le_of_ble_eq_true rfl, Nat.le_of_ble_eq_true rfl⟩) hS hA hP (fun r_28 H locs hw_28 hP hS => ?_)
            try dsimp only at hw_28
            obtain rfl : r_28 = 1 := by rcases hw_28 with ⟨h, h2⟩ | ⟨h, h2⟩ <;> first | exact h | exact absurd rfl h2 | exact absurd h2 (by decide)
            refine lv_if_ne (tgt := 106) hx hb dX3_readChange_64 (by decide) (fun _ => ?_) (fun h => absurd h (by decide))
            obtain ⟨hP9, hD9⟩ := pd_sub [(u0, .inr (3, (fX3 u1 u2 rf (nI rc) (nI rr)))), (aI k u1 24 rs), (aI k u2 24 rb), (x0, .inr (6, (fX6 x1 (nI tz) (nI ta__22) (nI nq_23) 1 (nI pl_23)))), (aB k x1 240 fx)] [0, 1, 2, 3, 4] hP hD (by decide) rfl
            exact W.vret hx hb hr (fun t ht hW => ⟨⟨(rc, rs, rb, ta__22, (nI nq_23), 1, (nI pl_23)), rfl, ⟨.inr ⟨1, pl_23, rfl, by decide, by decide, (ch_4  hq_2 (.inr c_19) hq_21 hq_23 (by decide)).1, (ch_4  hq_2 (.inr c_19) hq_21 hq_23 (by decide)).2, rfl⟩, by omega, by omega, by omega⟩, by rw [ht]; exact hP9, hD9⟩, hS.F ht⟩) hS.2.2 dX3_readChange_106
          · refine lv_istore_n (lv' := [(3, .int r_22), (2, .int r_1), (0, .ref u0), (1, .ref x0)]) hx hb dX3_readChange_59 rfl hl (by decide) rfl (fun ls hl => ?_)
            refine lv_aload_n hx hb dX3_readChange_60 rfl (lv_at hl 3 rfl) ?_
            refine ro_i (D := D) (va_runV (As := []) (rest := []) ⟨hx, hb, hml, hown, hts⟩ ((x_failed l D k st lo x0 x1 tz ta__22 (nI nq_23) 2 (nI pl_23)) H.size) (cwV 0 hts (gV tw_682 tw_368 tw_369 tw_80 tw_370) rfl rfl rfl (by decide +kernel) ⟨Nat.le_of_ble_eq_true rfl, Nat.le_of_ble_eq_true rfl⟩) (pV hS hAlo hlo hP hK (va_Dlo hD hAlo) hZ [3] (by decide) rfl (ci := 6) (q := (RX6, TX6, 6)) (q0 := 0) rfl rfl) rfl rfl hl.1 rfl (lv_room (Nat.le_of_ble_eq_true rfl)) dX3_readChange_61 ⟨Nat.le_of_ble_eq_true rfl, Nat.le_of_ble_eq_true rfl⟩) hS hA hP (fun r_29 H locs hw_29 hP hS => ?_)
            try dsimp only at hw_29
            obtain rfl : r_29 = 1 := by rcases hw_29 with ⟨h, h2⟩ | ⟨h, h2⟩ <;> first | exact h | exact absurd rfl h2 | exact absurd h2 (by decide)
            refine lv_if_ne (tgt := 106) hx hb dX3_readChange_64 (by decide) (fun _ => ?_) (fun h => absurd h (by decide))
            obtain ⟨hP9, hD9⟩ := pd_sub [(u0, .inr (3, (fX3 u1 u2 rf (nI rc) (nI rr)))), (aI k u1 24 rs), (aI k u2 24 rb), (x0, .inr (6, (fX6 x1 (nI tz) (nI ta__22) (nI nq_23) 2 (nI pl_23)))), (aB k x1 240 fx)] [0, 1, 2, 3, 4] hP hD (by decide) rfl
            exact W.vret hx hb hr (fun t ht hW => ⟨⟨(rc, rs, rb, ta__22, (nI nq_23), 2, (nI pl_23)), rfl, ⟨.inr ⟨2, pl_23, rfl, by decide, by decide, (ch_4  hq_2 (.inr c_19) hq_21 hq_23 (by decide)).1, (ch_4  hq_2 (.inr c_19) hq_21 hq_23 (by decide)).2, rfl⟩, by omega, by omega, by omega⟩, by rw [ht]; exact hP9, hD9⟩, hS.F ht⟩) hS.2.2 dX3_readChange_106
        · refine lv_aload_n hx hb dX3_readChange_52 rfl (lv_at hl 2 rfl) ?_
          refine lv_iconst (v := 0) hx hb dX3_readChange_53 (by decide) ?_
          refine lv_bipush (v := 24) hx hb dX3_readChange_54 (by decide) ?_
          refine rw_i (D := D) (wr := [(u0, .inr (3, (fX3 u1 u2 rf (nI rc) (nI rr)))), (aI k u1 24 rs), (aI k u2 24 rb)]) (va_runV (As := [.int 0, .int 24]) (rest := []) ⟨hx, hb, hml, hown, hts⟩ ((y_needNumber l D k st lo x0 x1 tz ta__20 (nI nq_2) 1 (nI pl_21) fx 0 24 (by first | assumption | omega) (by first | assumption | omega) (by decide)) H.size) (cwV 2 hts (gV tw_681 tw_468 tw_469 tw_80 tw_470) rfl rfl rfl (by decide +kernel) ⟨Nat.le_of_ble_eq_true rfl, Nat.le_of_ble_eq_true rfl⟩) (pV hS hAlo hlo hP hK (va_Dlo hD hAlo) hZ [3, 4] (by decide) rfl (ci := 6) (q := (RX6, TX6, 6)) (q0 := 0) rfl rfl) rfl rfl hl.1 rfl (lv_room (Nat.le_of_ble_eq_true rfl)) dX3_readChange_56 ⟨Nat.le_of_ble_eq_true rfl, Nat.le_of_ble_eq_true rfl⟩) hS hA hP hD [3, 4] [0, 1, 2] rfl rfl (by decide) (by decide) (fun r_30 u H locs hw_30 hP hD hS => ?_)
          obtain ⟨ta__30, na__30, fn__30, fb__30⟩ := u
          have hQ9 := pd_mk [(u0, .inr (3, (fX3 u1 u2 rf (nI rc) (nI rr)))), (aI k u1 24 rs), (aI k u2 24 rb), (x0, .inr (6, (fX6 x1 (nI tz) (nI ta__30) na__30 fn__30 fb__30))), (aB k x1 240 fx)] hP hD
          clear hP hD
          obtain ⟨hP, hD⟩ := hQ9
          try dsimp only at hw_30
          have hr_31 := (hw_30.1 (by decide)).1
          obtain ⟨hs0_32, hs1_32, hs2_32, hs3_32⟩ := (hw_30.1 (by decide)).2
          replace hs0_32 := hs0_32.symm
          subst hs0_32
          replace hs1_32 := hs1_32.symm
          subst hs1_32
          replace hs2_32 := hs2_32.symm
          subst hs2_32
          replace hs3_32 := hs3_32.symm
          subst hs3_32
          refine lv_istore_n (lv' := [(3, .int r_30), (2, .int r_1), (0, .ref u0), (1, .ref x0)]) hx hb dX3_readChange_59 rfl hl (by decide) rfl (fun ls hl => ?_)
          refine lv_aload_n hx hb dX3_readChange_60 rfl (lv_at hl 3 rfl) ?_
          refine ro_i (D := D) (va_runV (As := []) (rest := []) ⟨hx, hb, hml, hown, hts⟩ ((x_failed l D k st lo x0 x1 tz ta__20 (nI nq_2) 1 (nI pl_21)) H.size) (cwV 0 hts (gV tw_682 tw_368 tw_369 tw_80 tw_370) rfl rfl rfl (by decide +kernel) ⟨Nat.le_of_ble_eq_true rfl, Nat.le_of_ble_eq_true rfl⟩) (pV hS hAlo hlo hP hK (va_Dlo hD hAlo) hZ [3] (by decide) rfl (ci := 6) (q := (RX6, TX6, 6)) (q0 := 0) rfl rfl) rfl rfl hl.1 rfl (lv_room (Nat.le_of_ble_eq_true rfl)) dX3_readChange_61 ⟨Nat.le_of_ble_eq_true rfl, Nat.le_of_ble_eq_true rfl⟩) hS hA hP (fun r_33 H locs hw_33 hP hS => ?_)
          try dsimp only at hw_33
          obtain rfl : r_33 = 1 := by rcases hw_33 with ⟨h, h2⟩ | ⟨h, h2⟩ <;> first | exact h | exact absurd rfl h2 | exact absurd h2 (by decide)
          refine lv_if_ne (tgt := 106) hx hb dX3_readChange_64 (by decide) (fun _ => ?_) (fun h => absurd h (by decide))
          obtain ⟨hP9, hD9⟩ := pd_sub [(u0, .inr (3, (fX3 u1 u2 rf (nI rc) (nI rr)))), (aI k u1 24 rs), (aI k u2 24 rb), (x0, .inr (6, (fX6 x1 (nI tz) (nI ta__20) (nI nq_2) 1 (nI pl_21)))), (aB k x1 240 fx)] [0, 1, 2, 3, 4] hP hD (by decide) rfl
          exact W.vret hx hb hr (fun t ht hW => ⟨⟨(rc, rs, rb, ta__20, (nI nq_2), 1, (nI pl_21)), rfl, ⟨.inr ⟨1, pl_21, rfl, by decide, by decide, (ch_2  hq_2 (.inr c_19) hq_21 (by decide)).1, (ch_2  hq_2 (.inr c_19) hq_21 (by decide)).2, rfl⟩, by omega, by omega, by omega⟩, by rw [ht]; exact hP9, hD9⟩, hS.F ht⟩) hS.2.2 dX3_readChange_106
      · refine lv_aload_n hx hb dX3_readChange_37 rfl (lv_at hl 2 rfl) ?_
        refine lv_iconst (v := 3) hx hb dX3_readChange_38 (by decide) ?_
        refine lv_aload_n hx hb dX3_readChange_39 rfl (lv_at hl 2 rfl) ?_
        refine va_get (D := D) (ci := 6) (v := .int (nI nq_2)) (C := RX6) (T := TX6) (N := 6) hx hb hts inX6 hown hK hP 3 rfl rfl 3 (by decide) (hts _ tw_117) (fun _ h9 => h9) rfl dX3_readChange_40 ?_
        refine rw_v (D := D) (wr := [(u0, .inr (3, (fX3 u1 u2 rf (nI rc) (nI rr)))), (aI k u1 24 rs), (aI k u2 24 rb), (aB k x1 240 fx)]) (va_runV (As := [.int 3, .int (nI nq_2)]) (rest := []) ⟨hx, hb, hml, hown, hts⟩ ((y_fail l D k st lo x0 x1 tz ta__1 (nI nq_2) 0 fb__1 3 (nI nq_2) (by decide)) H.size) (cwV 2 hts (gV tw_689 tw_456 tw_457 tw_80 tw_458) rfl rfl rfl (by decide +kernel) ⟨Nat.le_of_ble_eq_true rfl, Nat.le_of_ble_eq_true rfl⟩) (pV hS hAlo hlo hP hK (va_Dlo hD hAlo) hZ [3] (by decide) rfl (ci := 6) (q := (RX6, TX6, 6)) (q0 := 0) rfl rfl) rfl rfl hl.1 rfl (lv_room (Nat.le_of_ble_eq_true rfl)) dX3_readChange_43 ⟨Nat.le_of_ble_eq_true rfl, Nat.le_of_ble_eq_true rfl⟩) hS hA hP hD [3] [0, 1, 2, 4] rfl rfl (by decide) (by decide) (fun u H locs hw_34 hP hD hS => ?_)
        obtain ⟨fn__34, fb__34⟩ := u
        have hQ9 := pd_mk [(u0, .inr (3, (fX3 u1 u2 rf (nI rc) (nI rr)))), (aI k u1 24 rs), (aI k u2 24 rb), (aB k x1 240 fx), (x0, .inr (6, (fX6 x1 (nI tz) (nI ta__1) (nI nq_2) fn__34 fb__34)))] hP hD
        clear hP hD
        obtain ⟨hP, hD⟩ := hQ9
        try dsimp only at hw_34
        obtain ⟨hs0_35, hs1_35⟩ := hw_34.2.1 rfl
        replace hs0_35 := hs0_35.symm
        subst hs0_35
        replace hs1_35 := hs1_35.symm
        subst hs1_35
        refine lv_aload_n hx hb dX3_readChange_46 rfl (lv_at hl 2 rfl) ?_
        refine va_ldcS hx hb hown (hZ.2.2.2.2.2.2.2.2.2.2 (RX3, 28, "from", 12) (List.mem_of_getElem? (i := 12) rfl)) dX3_readChange_47 ?_
        refine rw_v (D := D) (wr := [(u0, .inr (3, (fX3 u1 u2 rf (nI rc) (nI rr)))), (aI k u1 24 rs), (aI k u2 24 rb)]) (va_runV (As := [.ref (st (100 + 12))]) (rest := []) ⟨hx, hb, hml, hown, hts⟩ ((y_needWord l D k st lo x0 x1 tz ta__1 (nI nq_2) 3 (nI nq_2) fx 12 (by first | assumption | omega) (by first | assumption | omega) (by first | assumption | omega)) H.size) (cwV 1 hts (gV tw_680 tw_483 tw_484 tw_80 tw_485) rfl rfl rfl (by decide +kernel) ⟨Nat.le_of_ble_eq_true rfl, Nat.le_of_ble_eq_true rfl⟩) (pV hS hAlo hlo hP hK (va_Dlo hD hAlo) hZ [4, 3] (by decide) rfl (ci := 6) (q := (RX6, TX6, 6)) (q0 := 0) rfl rfl) rfl rfl hl.1 rfl (lv_room (Nat.le_of_ble_eq_true rfl)) dX3_readChange_49 ⟨Nat.le_of_ble_eq_true rfl, Nat.le_of_ble_eq_true rfl⟩) hS hA hP hD [4, 3] [0, 1, 2] rfl rfl (by decide) (by decide) (fun u H locs hw_36 hP hD hS => ?_)
        obtain ⟨ta__36, fn__36, fb__36⟩ := u
        have hQ9 := pd_mk [(u0, .inr (3, (fX3 u1 u2 rf (nI rc) (nI rr)))), (aI k u1 24 rs), (aI k u2 24 rb), (x0, .inr (6, (fX6 x1 (nI tz) (nI ta__36) (nI nq_2) fn__36 fb__36))), (aB k x1 240 fx)] hP hD
        clear hP hD
        obtain ⟨hP, hD⟩ := hQ9
        try dsimp only at hw_36
        obtain ⟨hs0_37, hs1_37, hs2_37⟩ := hw_36.1 (by decide)
        replace hs0_37 := hs0_37.symm
        subst hs0_37
        replace hs1_37 := hs1_37.symm
        subst hs1_37
        replace hs2_37 := hs2_37.symm
        subst hs2_37
        refine lv_aload_n hx hb dX3_readChange_52 rfl (lv_at hl 2 rfl) ?_
        refine lv_iconst (v := 0) hx hb dX3_readChange_53 (by decide) ?_
        refine lv_bipush (v := 24) hx hb dX3_readChange_54 (by decide) ?_
        refine rw_i (D := D) (wr := [(u0, .inr (3, (fX3 u1 u2 rf (nI rc) (nI rr)))), (aI k u1 24 rs), (aI k u2 24 rb)]) (va_runV (As := [.int 0, .int 24]) (rest := []) ⟨hx, hb, hml, hown, hts⟩ ((y_needNumber l D k st lo x0 x1 tz ta__1 (nI nq_2) 3 (nI nq_2) fx 0 24 (by first | assumption | omega) (by first | assumption | omega) (by decide)) H.size) (cwV 2 hts (gV tw_681 tw_468 tw_469 tw_80 tw_470) rfl rfl rfl (by decide +kernel) ⟨Nat.le_of_ble_eq_true rfl, Nat.le_of_ble_eq_true rfl⟩) (pV hS hAlo hlo hP hK (va_Dlo hD hAlo) hZ [3, 4] (by decide) rfl (ci := 6) (q := (RX6, TX6, 6)) (q0 := 0) rfl rfl) rfl rfl hl.1 rfl (lv_room (Nat.le_of_ble_eq_true rfl)) dX3_readChange_56 ⟨Nat.le_of_ble_eq_true rfl, Nat.le_of_ble_eq_true rfl⟩) hS hA hP hD [3, 4] [0, 1, 2] rfl rfl (by decide) (by decide) (fun r_38 u H locs hw_38 hP hD hS => ?_)
        obtain ⟨ta__38, na__38, fn__38, fb__38⟩ := u
        have hQ9 := pd_mk [(u0, .inr (3, (fX3 u1 u2 rf (nI rc) (nI rr)))), (aI k u1 24 rs), (aI k u2 24 rb), (x0, .inr (6, (fX6 x1 (nI tz) (nI ta__38) na__38 fn__38 fb__38))), (aB k x1 240 fx)] hP hD
        clear hP hD
        obtain ⟨hP, hD⟩ := hQ9
        try dsimp only at hw_38
        have hr_39 := (hw_38.1 (by decide)).1
        obtain ⟨hs0_40, hs1_40, hs2_40, hs3_40⟩ := (hw_38.1 (by decide)).2
        replace hs0_40 := hs0_40.symm
        subst hs0_40
        replace hs1_40 := hs1_40.symm
        subst hs1_40
        replace hs2_40 := hs2_40.symm
        subst hs2_40
        replace hs3_40 := hs3_40.symm
        subst hs3_40
        refine lv_istore_n (lv' := [(3, .int r_38), (2, .int r_1), (0, .ref u0), (1, .ref x0)]) hx hb dX3_readChange_59 rfl hl (by decide) rfl (fun ls hl => ?_)
        refine lv_aload_n hx hb dX3_readChange_60 rfl (lv_at hl 3 rfl) ?_
        refine ro_i (D := D) (va_runV (As := []) (rest := []) ⟨hx, hb, hml, hown, hts⟩ ((x_failed l D k st lo x0 x1 tz ta__1 (nI nq_2) 3 (nI nq_2)) H.size) (cwV 0 hts (gV tw_682 tw_368 tw_369 tw_80 tw_370) rfl rfl rfl (by decide +kernel) ⟨Nat.le_of_ble_eq_true rfl, Nat.le_of_ble_eq_true rfl⟩) (pV hS hAlo hlo hP hK (va_Dlo hD hAlo) hZ [3] (by decide) rfl (ci := 6) (q := (RX6, TX6, 6)) (q0 := 0) rfl rfl) rfl rfl hl.1 rfl (lv_room (Nat.le_of_ble_eq_true rfl)) dX3_readChange_61 ⟨Nat.le_of_ble_eq_true rfl, Nat.le_of_ble_eq_true rfl⟩) hS hA hP (fun r_41 H locs hw_41 hP hS => ?_)
        try dsimp only at hw_41
        obtain rfl : r_41 = 1 := by rcases hw_41 with ⟨h, h2⟩ | ⟨h, h2⟩ <;> first | exact h | exact absurd rfl h2 | exact absurd h2 (by decide)
        refine lv_if_ne (tgt := 106) hx hb dX3_readChange_64 (by decide) (fun _ => ?_) (fun h => absurd h (by decide))
        obtain ⟨hP9, hD9⟩ := pd_sub [(u0, .inr (3, (fX3 u1 u2 rf (nI rc) (nI rr)))), (aI k u1 24 rs), (aI k u2 24 rb), (x0, .inr (6, (fX6 x1 (nI tz) (nI ta__1) (nI nq_2) 3 (nI nq_2)))), (aB k x1 240 fx)] [0, 1, 2, 3, 4] hP hD (by decide) rfl
        exact W.vret hx hb hr (fun t ht hW => ⟨⟨(rc, rs, rb, ta__1, (nI nq_2), 3, (nI nq_2)), rfl, ⟨.inr ⟨3, nq_2, rfl, by decide, by decide, (ch_3  hq_2 (fun h => h.elim (fun z => by omega) c_19)).1, (ch_3  hq_2 (fun h => h.elim (fun z => by omega) c_19)).2, rfl⟩, by omega, by omega, by omega⟩, by rw [ht]; exact hP9, hD9⟩, hS.F ht⟩) hS.2.2 dX3_readChange_106
  · refine lv_istore_n (lv' := [(2, .int r_1), (0, .ref u0), (1, .ref x0)]) hx hb dX3_readChange_7 rfl hl (by decide) rfl (fun ls hl => ?_)
    refine lv_aload_n hx hb dX3_readChange_8 rfl (lv_at hl 2 rfl) ?_
    refine ro_i (D := D) (va_runV (As := []) (rest := []) ⟨hx, hb, hml, hown, hts⟩ ((x_failed l D k st lo x0 x1 tz ta__1 (nI nq_2) 1 (nI pl_2)) H.size) (cwV 0 hts (gV tw_682 tw_368 tw_369 tw_80 tw_370) rfl rfl rfl (by decide +kernel) ⟨Nat.le_of_ble_eq_true rfl, Nat.le_of_ble_eq_true rfl⟩) (pV hS hAlo hlo hP hK (va_Dlo hD hAlo) hZ [3] (by decide) rfl (ci := 6) (q := (RX6, TX6, 6)) (q0 := 0) rfl rfl) rfl rfl hl.1 rfl (lv_room (Nat.le_of_ble_eq_true rfl)) dX3_readChange_9 ⟨Nat.le_of_ble_eq_true rfl, Nat.le_of_ble_eq_true rfl⟩) hS hA hP (fun r_42 H locs hw_42 hP hS => ?_)
    try dsimp only at hw_42
    obtain rfl : r_42 = 1 := by rcases hw_42 with ⟨h, h2⟩ | ⟨h, h2⟩ <;> first | exact h | exact absurd rfl h2 | exact absurd h2 (by decide)
    refine lv_if_ne (tgt := 46) hx hb dX3_readChange_12 (by decide) (fun _ => ?_) (fun h => absurd h (by decide))
    refine lv_aload_n hx hb dX3_readChange_46 rfl (lv_at hl 2 rfl) ?_
    refine va_ldcS hx hb hown (hZ.2.2.2.2.2.2.2.2.2.2 (RX3, 28, "from", 12) (List.mem_of_getElem? (i := 12) rfl)) dX3_readChange_47 ?_
    refine rw_v (D := D) (wr := [(u0, .inr (3, (fX3 u1 u2 rf (nI rc) (nI rr)))), (aI k u1 24 rs), (aI k u2 24 rb)]) (va_runV (As := [.ref (st (100 + 12))]) (rest := []) ⟨hx, hb, hml, hown, hts⟩ ((y_needWord l D k st lo x0 x1 tz ta__1 (nI nq_2) 1 (nI pl_2) fx 12 (by first | assumption | omega) (by first | assumption | omega) (by first | assumption | omega)) H.size) (cwV 1 hts (gV tw_680 tw_483 tw_484 tw_80 tw_485) rfl rfl rfl (by decide +kernel) ⟨Nat.le_of_ble_eq_true rfl, Nat.le_of_ble_eq_true rfl⟩) (pV hS hAlo hlo hP hK (va_Dlo hD hAlo) hZ [3, 4] (by decide) rfl (ci := 6) (q := (RX6, TX6, 6)) (q0 := 0) rfl rfl) rfl rfl hl.1 rfl (lv_room (Nat.le_of_ble_eq_true rfl)) dX3_readChange_49 ⟨Nat.le_of_ble_eq_true rfl, Nat.le_of_ble_eq_true rfl⟩) hS hA hP hD [3, 4] [0, 1, 2] rfl rfl (by decide) (by decide) (fun u H locs hw_43 hP hD hS => ?_)
    obtain ⟨ta__43, fn__43, fb__43⟩ := u
    have hQ9 := pd_mk [(u0, .inr (3, (fX3 u1 u2 rf (nI rc) (nI rr)))), (aI k u1 24 rs), (aI k u2 24 rb), (x0, .inr (6, (fX6 x1 (nI tz) (nI ta__43) (nI nq_2) fn__43 fb__43))), (aB k x1 240 fx)] hP hD
    clear hP hD
    obtain ⟨hP, hD⟩ := hQ9
    try dsimp only at hw_43
    obtain ⟨hs0_44, hs1_44, hs2_44⟩ := hw_43.1 (by decide)
    replace hs0_44 := hs0_44.symm
    subst hs0_44
    replace hs1_44 := hs1_44.symm
    subst hs1_44
    replace hs2_44 := hs2_44.symm
    subst hs2_44
    refine lv_aload_n hx hb dX3_readChange_52 rfl (lv_at hl 2 rfl) ?_
    refine lv_iconst (v := 0) hx hb dX3_readChange_53 (by decide) ?_
    refine lv_bipush (v := 24) hx hb dX3_readChange_54 (by decide) ?_
    refine rw_i (D := D) (wr := [(u0, .inr (3, (fX3 u1 u2 rf (nI rc) (nI rr)))), (aI k u1 24 rs), (aI k u2 24 rb)]) (va_runV (As := [.int 0, .int 24]) (rest := []) ⟨hx, hb, hml, hown, hts⟩ ((y_needNumber l D k st lo x0 x1 tz ta__1 (nI nq_2) 1 (nI pl_2) fx 0 24 (by first | assumption | omega) (by first | assumption | omega) (by decide)) H.size) (cwV 2 hts (gV tw_681 tw_468 tw_469 tw_80 tw_470) rfl rfl rfl (by decide +kernel) ⟨Nat.le_of_ble_eq_true rfl, Nat.le_of_ble_eq_true rfl⟩) (pV hS hAlo hlo hP hK (va_Dlo hD hAlo) hZ [3, 4] (by decide) rfl (ci := 6) (q := (RX6, TX6, 6)) (q0 := 0) rfl rfl) rfl rfl hl.1 rfl (lv_room (Nat.le_of_ble_eq_true rfl)) dX3_readChange_56 ⟨Nat.le_of_ble_eq_true rfl, Nat.le_of_ble_eq_true rfl⟩) hS hA hP hD [3, 4] [0, 1, 2] rfl rfl (by decide) (by decide) (fun r_45 u H locs hw_45 hP hD hS => ?_)
    obtain ⟨ta__45, na__45, fn__45, fb__45⟩ := u
    have hQ9 := pd_mk [(u0, .inr (3, (fX3 u1 u2 rf (nI rc) (nI rr)))), (aI k u1 24 rs), (aI k u2 24 rb), (x0, .inr (6, (fX6 x1 (nI tz) (nI ta__45) na__45 fn__45 fb__45))), (aB k x1 240 fx)] hP hD
    clear hP hD
    obtain ⟨hP, hD⟩ := hQ9
    try dsimp only at hw_45
    have hr_46 := (hw_45.1 (by decide)).1
    obtain ⟨hs0_47, hs1_47, hs2_47, hs3_47⟩ := (hw_45.1 (by decide)).2
    replace hs0_47 := hs0_47.symm
    subst hs0_47
    replace hs1_47 := hs1_47.symm
    subst hs1_47
    replace hs2_47 := hs2_47.symm
    subst hs2_47
    replace hs3_47 := hs3_47.symm
    subst hs3_47
    refine lv_istore_n (lv' := [(3, .int r_45), (2, .int r_1), (0, .ref u0), (1, .ref x0)]) hx hb dX3_readChange_59 rfl hl (by decide) rfl (fun ls hl => ?_)
    refine lv_aload_n hx hb dX3_readChange_60 rfl (lv_at hl 3 rfl) ?_
    refine ro_i (D := D) (va_runV (As := []) (rest := []) ⟨hx, hb, hml, hown, hts⟩ ((x_failed l D k st lo x0 x1 tz ta__1 (nI nq_2) 1 (nI pl_2)) H.size) (cwV 0 hts (gV tw_682 tw_368 tw_369 tw_80 tw_370) rfl rfl rfl (by decide +kernel) ⟨Nat.le_of_ble_eq_true rfl, Nat.le_of_ble_eq_true rfl⟩) (pV hS hAlo hlo hP hK (va_Dlo hD hAlo) hZ [3] (by decide) rfl (ci := 6) (q := (RX6, TX6, 6)) (q0 := 0) rfl rfl) rfl rfl hl.1 rfl (lv_room (Nat.le_of_ble_eq_true rfl)) dX3_readChange_61 ⟨Nat.le_of_ble_eq_true rfl, Nat.le_of_ble_eq_true rfl⟩) hS hA hP (fun r_48 H locs hw_48 hP hS => ?_)
    try dsimp only at hw_48
    obtain rfl : r_48 = 1 := by rcases hw_48 with ⟨h, h2⟩ | ⟨h, h2⟩ <;> first | exact h | exact absurd rfl h2 | exact absurd h2 (by decide)
    refine lv_if_ne (tgt := 106) hx hb dX3_readChange_64 (by decide) (fun _ => ?_) (fun h => absurd h (by decide))
    obtain ⟨hP9, hD9⟩ := pd_sub [(u0, .inr (3, (fX3 u1 u2 rf (nI rc) (nI rr)))), (aI k u1 24 rs), (aI k u2 24 rb), (x0, .inr (6, (fX6 x1 (nI tz) (nI ta__1) (nI nq_2) 1 (nI pl_2)))), (aB k x1 240 fx)] [0, 1, 2, 3, 4] hP hD (by decide) rfl
    exact W.vret hx hb hr (fun t ht hW => ⟨⟨(rc, rs, rb, ta__1, (nI nq_2), 1, (nI pl_2)), rfl, ⟨.inr ⟨1, pl_2, rfl, by decide, by decide, (ch_1  hq_2 (by decide)).1, (ch_1  hq_2 (by decide)).2, rfl⟩, by omega, by omega, by omega⟩, by rw [ht]; exact hP9, hD9⟩, hS.F ht⟩) hS.2.2 dX3_readChange_106
  · refine lv_istore_n (lv' := [(2, .int r_1), (0, .ref u0), (1, .ref x0)]) hx hb dX3_readChange_7 rfl hl (by decide) rfl (fun ls hl => ?_)
    refine lv_aload_n hx hb dX3_readChange_8 rfl (lv_at hl 2 rfl) ?_
    refine ro_i (D := D) (va_runV (As := []) (rest := []) ⟨hx, hb, hml, hown, hts⟩ ((x_failed l D k st lo x0 x1 tz ta__1 (nI nq_2) 2 (nI pl_2)) H.size) (cwV 0 hts (gV tw_682 tw_368 tw_369 tw_80 tw_370) rfl rfl rfl (by decide +kernel) ⟨Nat.le_of_ble_eq_true rfl, Nat.le_of_ble_eq_true rfl⟩) (pV hS hAlo hlo hP hK (va_Dlo hD hAlo) hZ [3] (by decide) rfl (ci := 6) (q := (RX6, TX6, 6)) (q0 := 0) rfl rfl) rfl rfl hl.1 rfl (lv_room (Nat.le_of_ble_eq_true rfl)) dX3_readChange_9 ⟨Nat.le_of_ble_eq_true rfl, Nat.le_of_ble_eq_true rfl⟩) hS hA hP (fun r_49 H locs hw_49 hP hS => ?_)
    try dsimp only at hw_49
    obtain rfl : r_49 = 1 := by rcases hw_49 with ⟨h, h2⟩ | ⟨h, h2⟩ <;> first | exact h | exact absurd rfl h2 | exact absurd h2 (by decide)
    refine lv_if_ne (tgt := 46) hx hb dX3_readChange_12 (by decide) (fun _ => ?_) (fun h => absurd h (by decide))
    refine lv_aload_n hx hb dX3_readChange_46 rfl (lv_at hl 2 rfl) ?_
    refine va_ldcS hx hb hown (hZ.2.2.2.2.2.2.2.2.2.2 (RX3, 28, "from", 12) (List.mem_of_getElem? (i := 12) rfl)) dX3_readChange_47 ?_
    refine rw_v (D := D) (wr := [(u0, .inr (3, (fX3 u1 u2 rf (nI rc) (nI rr)))), (aI k u1 24 rs), (aI k u2 24 rb)]) (va_runV (As := [.ref (st (100 + 12))]) (rest := []) ⟨hx, hb, hml, hown, hts⟩ ((y_needWord l D k st lo x0 x1 tz ta__1 (nI nq_2) 2 (nI pl_2) fx 12 (by first | assumption | omega) (by first | assumption | omega) (by first | assumption | omega)) H.size) (cwV 1 hts (gV tw_680 tw_483 tw_484 tw_80 tw_485) rfl rfl rfl (by decide +kernel) ⟨Nat.le_of_ble_eq_true rfl, Nat.le_of_ble_eq_true rfl⟩) (pV hS hAlo hlo hP hK (va_Dlo hD hAlo) hZ [3, 4] (by decide) rfl (ci := 6) (q := (RX6, TX6, 6)) (q0 := 0) rfl rfl) rfl rfl hl.1 rfl (lv_room (Nat.le_of_ble_eq_true rfl)) dX3_readChange_49 ⟨Nat.le_of_ble_eq_true rfl, Nat.le_of_ble_eq_true rfl⟩) hS hA hP hD [3, 4] [0, 1, 2] rfl rfl (by decide) (by decide) (fun u H locs hw_50 hP hD hS => ?_)
    obtain ⟨ta__50, fn__50, fb__50⟩ := u
    have hQ9 := pd_mk [(u0, .inr (3, (fX3 u1 u2 rf (nI rc) (nI rr)))), (aI k u1 24 rs), (aI k u2 24 rb), (x0, .inr (6, (fX6 x1 (nI tz) (nI ta__50) (nI nq_2) fn__50 fb__50))), (aB k x1 240 fx)] hP hD
    clear hP hD
    obtain ⟨hP, hD⟩ := hQ9
    try dsimp only at hw_50
    obtain ⟨hs0_51, hs1_51, hs2_51⟩ := hw_50.1 (by decide)
    replace hs0_51 := hs0_51.symm
    subst hs0_51
    replace hs1_51 := hs1_51.symm
    subst hs1_51
    replace hs2_51 := hs2_51.symm
    subst hs2_51
    refine lv_aload_n hx hb dX3_readChange_52 rfl (lv_at hl 2 rfl) ?_
    refine lv_iconst (v := 0) hx hb dX3_readChange_53 (by decide) ?_
    refine lv_bipush (v := 24) hx hb dX3_readChange_54 (by decide) ?_
    refine rw_i (D := D) (wr := [(u0, .inr (3, (fX3 u1 u2 rf (nI rc) (nI rr)))), (aI k u1 24 rs), (aI k u2 24 rb)]) (va_runV (As := [.int 0, .int 24]) (rest := []) ⟨hx, hb, hml, hown, hts⟩ ((y_needNumber l D k st lo x0 x1 tz ta__1 (nI nq_2) 2 (nI pl_2) fx 0 24 (by first | assumption | omega) (by first | assumption | omega) (by decide)) H.size) (cwV 2 hts (gV tw_681 tw_468 tw_469 tw_80 tw_470) rfl rfl rfl (by decide +kernel) ⟨Nat.le_of_ble_eq_true rfl, Nat.le_of_ble_eq_true rfl⟩) (pV hS hAlo hlo hP hK (va_Dlo hD hAlo) hZ [3, 4] (by decide) rfl (ci := 6) (q := (RX6, TX6, 6)) (q0 := 0) rfl rfl) rfl rfl hl.1 rfl (lv_room (Nat.le_of_ble_eq_true rfl)) dX3_readChange_56 ⟨Nat.le_of_ble_eq_true rfl, Nat.le_of_ble_eq_true rfl⟩) hS hA hP hD [3, 4] [0, 1, 2] rfl rfl (by decide) (by decide) (fun r_52 u H locs hw_52 hP hD hS => ?_)
    obtain ⟨ta__52, na__52, fn__52, fb__52⟩ := u
    have hQ9 := pd_mk [(u0, .inr (3, (fX3 u1 u2 rf (nI rc) (nI rr)))), (aI k u1 24 rs), (aI k u2 24 rb), (x0, .inr (6, (fX6 x1 (nI tz) (nI ta__52) na__52 fn__52 fb__52))), (aB k x1 240 fx)] hP hD
    clear hP hD
    obtain ⟨hP, hD⟩ := hQ9
    try dsimp only at hw_52
    have hr_53 := (hw_52.1 (by decide)).1
    obtain ⟨hs0_54, hs1_54, hs2_54, hs3_54⟩ := (hw_52.1 (by decide)).2
    replace hs0_54 := hs0_54.symm
    subst hs0_54
    replace hs1_54 := hs1_54.symm
    subst hs1_54
    replace hs2_54 := hs2_54.symm
    subst hs2_54
    replace hs3_54 := hs3_54.symm
    subst hs3_54
    refine lv_istore_n (lv' := [(3, .int r_52), (2, .int r_1), (0, .ref u0), (1, .ref x0)]) hx hb dX3_readChange_59 rfl hl (by decide) rfl (fun ls hl => ?_)
    refine lv_aload_n hx hb dX3_readChange_60 rfl (lv_at hl 3 rfl) ?_
    refine ro_i (D := D) (va_runV (As := []) (rest := []) ⟨hx, hb, hml, hown, hts⟩ ((x_failed l D k st lo x0 x1 tz ta__1 (nI nq_2) 2 (nI pl_2)) H.size) (cwV 0 hts (gV tw_682 tw_368 tw_369 tw_80 tw_370) rfl rfl rfl (by decide +kernel) ⟨Nat.le_of_ble_eq_true rfl, Nat.le_of_ble_eq_true rfl⟩) (pV hS hAlo hlo hP hK (va_Dlo hD hAlo) hZ [3] (by decide) rfl (ci := 6) (q := (RX6, TX6, 6)) (q0 := 0) rfl rfl) rfl rfl hl.1 rfl (lv_room (Nat.le_of_ble_eq_true rfl)) dX3_readChange_61 ⟨Nat.le_of_ble_eq_true rfl, Nat.le_of_ble_eq_true rfl⟩) hS hA hP (fun r_55 H locs hw_55 hP hS => ?_)
    try dsimp only at hw_55
    obtain rfl : r_55 = 1 := by rcases hw_55 with ⟨h, h2⟩ | ⟨h, h2⟩ <;> first | exact h | exact absurd rfl h2 | exact absurd h2 (by decide)
    refine lv_if_ne (tgt := 106) hx hb dX3_readChange_64 (by decide) (fun _ => ?_) (fun h => absurd h (by decide))
    obtain ⟨hP9, hD9⟩ := pd_sub [(u0, .inr (3, (fX3 u1 u2 rf (nI rc) (nI rr)))), (aI k u1 24 rs), (aI k u2 24 rb), (x0, .inr (6, (fX6 x1 (nI tz) (nI ta__1) (nI nq_2) 2 (nI pl_2)))), (aB k x1 240 fx)] [0, 1, 2, 3, 4] hP hD (by decide) rfl
    exact W.vret hx hb hr (fun t ht hW => ⟨⟨(rc, rs, rb, ta__1, (nI nq_2), 2, (nI pl_2)), rfl, ⟨.inr ⟨2, pl_2, rfl, by decide, by decide, (ch_1  hq_2 (by decide)).1, (ch_1  hq_2 (by decide)).2, rfl⟩, by omega, by omega, by omega⟩, by rw [ht]; exact hP9, hD9⟩, hS.F ht⟩) hS.2.2 dX3_readChange_106


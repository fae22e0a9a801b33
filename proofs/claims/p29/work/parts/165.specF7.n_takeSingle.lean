
set_option maxHeartbeats 4000000 in
set_option maxRecDepth 100000 in
theorem n_takeSingle (l : Launch) (D : va_G) (k : Nat → ClassId) (st : Nat → Nat) (lo : Nat) (a : Nat → Nat) (tx : Nat) (t0 : Nat) (we : Nat) (rd : Nat) (ru : Nat) (rw : Nat) (ca : Nat) (fp : Int32) (wd : Int64) (nu : Int32) (na : Int32) (ts : Int32) (df : Int32) (db : Int32) (sd : Int32) (ftext : Nat → Int32) (freadSingle : Nat → Int32) (cl : Nat) (ht : t0 ≤ tx) (htx : tx ≤ 240) (hrs : rsOK freadSingle) (hcl : cl ≤ 8 ∧ cl ≠ 7) : CWi l D k st lo yX8_takeSingle cX8_takeSingle 4 (some .int) ({ frames := 3, cells := 0, slots := 0, locals := 74 }) 0 0 [.ref (a 0), .int (nI cl)] [((a 0), .inr (8, (fX8 a (nI tx) fp (nI t0) wd (nI we) nu na (nI rd) ts (nI ru) (nI rw) (nI ca) df db sd))), (aI k (a 5) 240 ftext), (aI k (a 16) 9 freadSingle)] (fun (r : Int32) (u : Nat × Int64 × Nat × Int32 × Int32 × Int32 × (Nat → Int32)) => match u with | (t0_, wd_, we_, fp_, nu_, na_, freadSingle_) => ((r = 0 ∧ ∃ v v2 : Int32, siF ftext tx (cl + 1) t0 = (0, 0, t0_, v, v2) ∧ freadSingle_ = (if cl = 6 then upd (upd freadSingle 6 v) 7 v2 else upd freadSingle cl v) ∧ fp_ = fp) ∨ (∃ e pl : Nat, r = nI e ∧ 1 ≤ e ∧ e ≤ 4 ∧ (siF ftext tx (cl + 1) t0).1 = e ∧ (siF ftext tx (cl + 1) t0).2.1 = pl ∧ fp_ = nI pl)) ∧ t0 ≤ t0_ ∧ t0_ ≤ tx ∧ (r = 0 → t0 < t0_) ∧ (r = 0 → rsOK freadSingle_)) (fun (u : Nat × Int64 × Nat × Int32 × Int32 × Int32 × (Nat → Int32)) => match u with | (t0_, wd_, we_, fp_, nu_, na_, freadSingle_) => [((a 0), .inr (8, (fX8 a (nI tx) fp_ (nI t0_) wd_ (nI we_) nu_ na_ (nI rd) ts (nI ru) (nI rw) (nI ca) df db sd))), (aI k (a 5) 240 ftext), (aI k (a 16) 9 freadSingle_)]) := by
  intro sz
  refine Met.ofW (cc := cX8_takeSingle) (maxL := 4) (ret := (some .int)) (by decide) rfl ?_
  intro p e s m args below meth c s₁ B hml hv
  obtain ⟨rfl, hsz, hlo, hP, hK, hDL, hZ⟩ := hv
  have hx := B.exec
  have hb := B.bytes
  have hr := B.returns
  have hts := WS_ts B.pre
  have hown : s.vm.findClass RX8 = some m.cls := findClass_of_methodNamed B.named
  have hlocks := B.notSynchronized
  subst hsz
  have hD := hDL.self (sz := s.heap.size)
  have hAlo := A_lo hDL hlo
  generalize hAe : va_A [((a 0), .inr (8, (fX8 a (nI tx) fp (nI t0) wd (nI we) nu na (nI rd) ts (nI ru) (nI rw) (nI ca) df db sd))), (aI k (a 5) 240 ftext), (aI k (a 16) 9 freadSingle)] s.heap.size = A at hD hAlo ⊢
  have hA : ∀ q : Nat, s.heap.size ≤ q → A q := fun q h => by rw [← hAe]; exact Or.inr h
  have hS : va_S A s.heap s.heap [] := va_S.rf
  have hl := lv_entry ([.ref (a 0), .int (nI cl)]) (n := 4) (Nat.le_of_ble_eq_true rfl)
  rw [lg_entry_eq]
  generalize (lg_sl ([.ref (a 0), .int (nI cl)]) ++ List.replicate (4 - (lg_sl ([.ref (a 0), .int (nI cl)])).length) Slot.unset).toArray = ls at hl ⊢
  have hl : lv_has ls 4 [(0, .ref (a 0)), (1, .int (nI cl))] := hl
  rcases (show cl = 0 ∨ cl = 1 ∨ cl = 2 ∨ cl = 3 ∨ cl = 4 ∨ cl = 5 ∨ cl = 6 ∨ cl = 8 by omega) with rfl | rfl | rfl | rfl | rfl | rfl | rfl | rfl
  · refine lv_iload_n hx hb dX8_takeSingle_0 rfl (lv_at hl 1 rfl) ?_
    refine lv_if_ne (tgt := 23) hx hb dX8_takeSingle_1 (by decide) (fun h => absurd (by decide) h) (fun _ => ?_)
    refine lv_aload_n hx hb dX8_takeSingle_4 rfl (lv_at hl 0 rfl) ?_
    refine lv_bipush (v := 50) hx hb dX8_takeSingle_5 (by decide) ?_
    refine rw_i (D := D) (wr := [(aI k (a 16) 9 freadSingle)]) (va_runV (As := [.int 50]) (rest := []) ⟨hx, hb, hml, hown, hts⟩ ((n_takeSigned l D k st lo a tx t0 we rd ru rw ca fp wd nu na ts df db sd ftext 50 (by first | assumption | omega) (by first | assumption | omega)) s.heap.size) (cwV 1 hts (gV tw_1177 tw_1179 tw_37 tw_87 tw_1180) rfl rfl rfl (by decide +kernel) ⟨Nat.le_of_ble_eq_true rfl, Nat.le_of_ble_eq_true rfl⟩) (pV hS hAlo hlo hP hK (va_Dlo hD hAlo) hZ [0, 1] (by decide) rfl (ci := 8) (q := (RX8, TX8, 44)) (q0 := 0) rfl rfl) rfl rfl hl.1 rfl (lv_room (Nat.le_of_ble_eq_true rfl)) dX8_takeSingle_7 ⟨Nat.le_of_ble_eq_true rfl, Nat.le_of_ble_eq_true rfl⟩) hS hA hP hD [0, 1] [2] rfl rfl (by decide) (by decide) (fun r_1 u H locs hw_1 hP hD hS => ?_)
    obtain ⟨t0__1, nu__1, na__1, fp__1⟩ := u
    replace hP : va_P D classes [(aI k (a 16) 9 freadSingle), ((a 0), .inr (8, (fX8 a (nI tx) fp__1 (nI t0__1) wd (nI we) nu__1 na__1 (nI rd) ts (nI ru) (nI rw) (nI ca) df db sd))), (aI k (a 5) 240 ftext)] H := hP
    replace hD : va_D A [(aI k (a 16) 9 freadSingle), ((a 0), .inr (8, (fX8 a (nI tx) fp__1 (nI t0__1) wd (nI we) nu__1 na__1 (nI rd) ts (nI ru) (nI rw) (nI ca) df db sd))), (aI k (a 5) 240 ftext)] := hD
    try dsimp only at hw_1
    obtain ⟨nq_2, rfl, hq_2, hw_1⟩ := hw_1
    rcases hq_2 with ⟨rfl, hq_2, hfp_2⟩ | ⟨rfl, pl_2, hq_2, rfl⟩ | ⟨rfl, pl_2, hq_2, rfl⟩
    · replace hfp_2 := hfp_2.symm
      subst hfp_2
      refine lv_istore_n (lv' := [(2, .int 0), (0, .ref (a 0)), (1, .int 0)]) hx hb dX8_takeSingle_10 rfl hl (by decide) rfl (fun ls hl => ?_)
      refine lv_aload_n hx hb dX8_takeSingle_11 rfl (lv_at hl 1 rfl) ?_
      refine va_get (D := D) (ci := 8) (v := .ref (a 16)) (C := RX8) (T := TX8) (N := 44) hx hb hts inX8 hown hK hP 1 rfl rfl 15 (by decide) (hts _ tw_988) (fun _ h9 => h9) rfl dX8_takeSingle_12 ?_
      refine lv_iconst (v := 0) hx hb dX8_takeSingle_15 (by decide) ?_
      refine lv_aload_n hx hb dX8_takeSingle_16 rfl (lv_at hl 1 rfl) ?_
      refine va_get (D := D) (ci := 8) (v := .int nu__1) (C := RX8) (T := TX8) (N := 44) hx hb hts inX8 hown hK hP 1 rfl rfl 10 (by decide) (hts _ tw_983) (fun _ h9 => h9) rfl dX8_takeSingle_17 ?_
      refine va_iast hx hb hK hP hD hS 0 1 rfl rfl (by unfold vp_in; decide) dX8_takeSingle_20 (fun H locs hP hD hS => ?_)
      replace hP : va_P D classes [(aI k (a 16) 9 (upd freadSingle (Int32.toNatClampNeg 0) nu__1)), ((a 0), .inr (8, (fX8 a (nI tx) fp (nI t0__1) wd (nI we) nu__1 (nI nq_2) (nI rd) ts (nI ru) (nI rw) (nI ca) df db sd))), (aI k (a 5) 240 ftext)] H := hP
      replace hD : va_D A [(aI k (a 16) 9 (upd freadSingle (Int32.toNatClampNeg 0) nu__1)), ((a 0), .inr (8, (fX8 a (nI tx) fp (nI t0__1) wd (nI we) nu__1 (nI nq_2) (nI rd) ts (nI ru) (nI rw) (nI ca) df db sd))), (aI k (a 5) 240 ftext)] := hD
      replace hP : va_P D classes [(aI k (a 16) 9 (upd freadSingle 0 nu__1)), ((a 0), .inr (8, (fX8 a (nI tx) fp (nI t0__1) wd (nI we) nu__1 (nI nq_2) (nI rd) ts (nI ru) (nI rw) (nI ca) df db sd))), (aI k (a 5) 240 ftext)] H := hP
      replace hD : va_D A [(aI k (a 16) 9 (upd freadSingle 0 nu__1)), ((a 0), .inr (8, (fX8 a (nI tx) fp (nI t0__1) wd (nI we) nu__1 (nI nq_2) (nI rd) ts (nI ru) (nI rw) (nI ca) df db sd))), (aI k (a 5) 240 ftext)] := hD
      refine lv_iload_n hx hb dX8_takeSingle_21 rfl (lv_at hl 0 rfl) ?_
      have hg1_9 := (nuR_in hq_2).2
      have hP9 := hP.sub (ws' := [((a 0), .inr (8, (fX8 a (nI tx) fp (nI t0__1) wd (nI we) nu__1 (nI nq_2) (nI rd) ts (nI ru) (nI rw) (nI ca) df db sd))), (aI k (a 5) 240 ftext), (aI k (a 16) 9 (upd freadSingle 0 nu__1))]) [1, 2, 0] rfl
      have hD9 := hD.sub (ws' := [((a 0), .inr (8, (fX8 a (nI tx) fp (nI t0__1) wd (nI we) nu__1 (nI nq_2) (nI rd) ts (nI ru) (nI rw) (nI ca) df db sd))), (aI k (a 5) 240 ftext), (aI k (a 16) 9 (upd freadSingle 0 nu__1))]) [1, 2, 0] (by decide) rfl
      exact W.iret (v := 0) hx hb hr (fun t ht hW => ⟨⟨0, (t0__1, wd, we, fp, nu__1, (nI nq_2), (upd freadSingle 0 nu__1)), rfl, ⟨.inl ⟨rfl, nu__1, 0, (by simp [siF, hq_2, (show zLE 1 = -50 from rfl), (show zMO 1 = 50 from rfl), (show decide ((1 : Nat) = 1) = true from rfl), -List.getD_eq_getElem?_getD]), by rw [if_neg (by decide)], rfl⟩, by omega, by omega, fun _ => by omega, fun _ => (rsOK_upd hrs 0 _ (fun h5 => absurd h5 (by omega)) (fun h7 => absurd h7 (by omega)))⟩, by rw [ht]; exact hP9, hD9⟩, hS.F ht⟩) hS.2.2 dX8_takeSingle_22
    · refine lv_istore_n (lv' := [(2, .int 1), (0, .ref (a 0)), (1, .int 0)]) hx hb dX8_takeSingle_10 rfl hl (by decide) rfl (fun ls hl => ?_)
      refine lv_aload_n hx hb dX8_takeSingle_11 rfl (lv_at hl 1 rfl) ?_
      refine va_get (D := D) (ci := 8) (v := .ref (a 16)) (C := RX8) (T := TX8) (N := 44) hx hb hts inX8 hown hK hP 1 rfl rfl 15 (by decide) (hts _ tw_988) (fun _ h9 => h9) rfl dX8_takeSingle_12 ?_
      refine lv_iconst (v := 0) hx hb dX8_takeSingle_15 (by decide) ?_
      refine lv_aload_n hx hb dX8_takeSingle_16 rfl (lv_at hl 1 rfl) ?_
      refine va_get (D := D) (ci := 8) (v := .int nu__1) (C := RX8) (T := TX8) (N := 44) hx hb hts inX8 hown hK hP 1 rfl rfl 10 (by decide) (hts _ tw_983) (fun _ h9 => h9) rfl dX8_takeSingle_17 ?_
      refine va_iast hx hb hK hP hD hS 0 1 rfl rfl (by unfold vp_in; decide) dX8_takeSingle_20 (fun H locs hP hD hS => ?_)
      replace hP : va_P D classes [(aI k (a 16) 9 (upd freadSingle (Int32.toNatClampNeg 0) nu__1)), ((a 0), .inr (8, (fX8 a (nI tx) (nI pl_2) (nI t0__1) wd (nI we) nu__1 (nI nq_2) (nI rd) ts (nI ru) (nI rw) (nI ca) df db sd))), (aI k (a 5) 240 ftext)] H := hP
      replace hD : va_D A [(aI k (a 16) 9 (upd freadSingle (Int32.toNatClampNeg 0) nu__1)), ((a 0), .inr (8, (fX8 a (nI tx) (nI pl_2) (nI t0__1) wd (nI we) nu__1 (nI nq_2) (nI rd) ts (nI ru) (nI rw) (nI ca) df db sd))), (aI k (a 5) 240 ftext)] := hD
      replace hP : va_P D classes [(aI k (a 16) 9 (upd freadSingle 0 nu__1)), ((a 0), .inr (8, (fX8 a (nI tx) (nI pl_2) (nI t0__1) wd (nI we) nu__1 (nI nq_2) (nI rd) ts (nI ru) (nI rw) (nI ca) df db sd))), (aI k (a 5) 240 ftext)] H := hP
      replace hD : va_D A [(aI k (a 16) 9 (upd freadSingle 0 nu__1)), ((a 0), .inr (8, (fX8 a (nI tx) (nI pl_2) (nI t0__1) wd (nI we) nu__1 (nI nq_2) (nI rd) ts (nI ru) (nI rw) (nI ca) df db sd))), (aI k (a 5) 240 ftext)] := hD
      refine lv_iload_n hx hb dX8_takeSingle_21 rfl (lv_at hl 0 rfl) ?_
      have hP9 := hP.sub (ws' := [((a 0), .inr (8, (fX8 a (nI tx) (nI pl_2) (nI t0__1) wd (nI we) nu__1 (nI nq_2) (nI rd) ts (nI ru) (nI rw) (nI ca) df db sd))), (aI k (a 5) 240 ftext), (aI k (a 16) 9 (upd freadSingle 0 nu__1))]) [1, 2, 0] rfl
      have hD9 := hD.sub (ws' := [((a 0), .inr (8, (fX8 a (nI tx) (nI pl_2) (nI t0__1) wd (nI we) nu__1 (nI nq_2) (nI rd) ts (nI ru) (nI rw) (nI ca) df db sd))), (aI k (a 5) 240 ftext), (aI k (a 16) 9 (upd freadSingle 0 nu__1))]) [1, 2, 0] (by decide) rfl
      exact W.iret (v := 1) hx hb hr (fun t ht hW => ⟨⟨1, (t0__1, wd, we, (nI pl_2), nu__1, (nI nq_2), (upd freadSingle 0 nu__1)), rfl, ⟨.inr ⟨1, pl_2, rfl, by decide, by decide, by simp [siF, hq_2, (show zLE 1 = -50 from rfl), (show zMO 1 = 50 from rfl), (show decide ((1 : Nat) = 1) = true from rfl), -List.getD_eq_getElem?_getD], by simp [siF, hq_2, (show zLE 1 = -50 from rfl), (show zMO 1 = 50 from rfl), (show decide ((1 : Nat) = 1) = true from rfl), -List.getD_eq_getElem?_getD], rfl⟩, by omega, by omega, fun h => absurd h (by decide), fun h => absurd h (by decide)⟩, by rw [ht]; exact hP9, hD9⟩, hS.F ht⟩) hS.2.2 dX8_takeSingle_22
    · refine lv_istore_n (lv' := [(2, .int 2), (0, .ref (a 0)), (1, .int 0)]) hx hb dX8_takeSingle_10 rfl hl (by decide) rfl (fun ls hl => ?_)
      refine lv_aload_n hx hb dX8_takeSingle_11 rfl (lv_at hl 1 rfl) ?_
      refine va_get (D := D) (ci := 8) (v := .ref (a 16)) (C := RX8) (T := TX8) (N := 44) hx hb hts inX8 hown hK hP 1 rfl rfl 15 (by decide) (hts _ tw_988) (fun _ h9 => h9) rfl dX8_takeSingle_12 ?_
      refine lv_iconst (v := 0) hx hb dX8_takeSingle_15 (by decide) ?_
      refine lv_aload_n hx hb dX8_takeSingle_16 rfl (lv_at hl 1 rfl) ?_
      refine va_get (D := D) (ci := 8) (v := .int nu__1) (C := RX8) (T := TX8) (N := 44) hx hb hts inX8 hown hK hP 1 rfl rfl 10 (by decide) (hts _ tw_983) (fun _ h9 => h9) rfl dX8_takeSingle_17 ?_
      refine va_iast hx hb hK hP hD hS 0 1 rfl rfl (by unfold vp_in; decide) dX8_takeSingle_20 (fun H locs hP hD hS => ?_)
      replace hP : va_P D classes [(aI k (a 16) 9 (upd freadSingle (Int32.toNatClampNeg 0) nu__1)), ((a 0), .inr (8, (fX8 a (nI tx) (nI pl_2) (nI t0__1) wd (nI we) nu__1 (nI nq_2) (nI rd) ts (nI ru) (nI rw) (nI ca) df db sd))), (aI k (a 5) 240 ftext)] H := hP
      replace hD : va_D A [(aI k (a 16) 9 (upd freadSingle (Int32.toNatClampNeg 0) nu__1)), ((a 0), .inr (8, (fX8 a (nI tx) (nI pl_2) (nI t0__1) wd (nI we) nu__1 (nI nq_2) (nI rd) ts (nI ru) (nI rw) (nI ca) df db sd))), (aI k (a 5) 240 ftext)] := hD
      replace hP : va_P D classes [(aI k (a 16) 9 (upd freadSingle 0 nu__1)), ((a 0), .inr (8, (fX8 a (nI tx) (nI pl_2) (nI t0__1) wd (nI we) nu__1 (nI nq_2) (nI rd) ts (nI ru) (nI rw) (nI ca) df db sd))), (aI k (a 5) 240 ftext)] H := hP
      replace hD : va_D A [(aI k (a 16) 9 (upd freadSingle 0 nu__1)), ((a 0), .inr (8, (fX8 a (nI tx) (nI pl_2) (nI t0__1) wd (nI we) nu__1 (nI nq_2) (nI rd) ts (nI ru) (nI rw) (nI ca) df db sd))), (aI k (a 5) 240 ftext)] := hD
      refine lv_iload_n hx hb dX8_takeSingle_21 rfl (lv_at hl 0 rfl) ?_
      have hP9 := hP.sub (ws' := [((a 0), .inr (8, (fX8 a (nI tx) (nI pl_2) (nI t0__1) wd (nI we) nu__1 (nI nq_2) (nI rd) ts (nI ru) (nI rw) (nI ca) df db sd))), (aI k (a 5) 240 ftext), (aI k (a 16) 9 (upd freadSingle 0 nu__1))]) [1, 2, 0] rfl
      have hD9 := hD.sub (ws' := [((a 0), .inr (8, (fX8 a (nI tx) (nI pl_2) (nI t0__1) wd (nI we) nu__1 (nI nq_2) (nI rd) ts (nI ru) (nI rw) (nI ca) df db sd))), (aI k (a 5) 240 ftext), (aI k (a 16) 9 (upd freadSingle 0 nu__1))]) [1, 2, 0] (by decide) rfl
      exact W.iret (v := 2) hx hb hr (fun t ht hW => ⟨⟨2, (t0__1, wd, we, (nI pl_2), nu__1, (nI nq_2), (upd freadSingle 0 nu__1)), rfl, ⟨.inr ⟨2, pl_2, rfl, by decide, by decide, by simp [siF, hq_2, (show zLE 1 = -50 from rfl), (show zMO 1 = 50 from rfl), (show decide ((1 : Nat) = 1) = true from rfl), -List.getD_eq_getElem?_getD], by simp [siF, hq_2, (show zLE 1 = -50 from rfl), (show zMO 1 = 50 from rfl), (show decide ((1 : Nat) = 1) = true from rfl), -List.getD_eq_getElem?_getD], rfl⟩, by omega, by omega, fun h => absurd h (by decide), fun h => absurd h (by decide)⟩, by rw [ht]; exact hP9, hD9⟩, hS.F ht⟩) hS.2.2 dX8_takeSingle_22
  · refine lv_iload_n hx hb dX8_takeSingle_0 rfl (lv_at hl 1 rfl) ?_
    refine lv_if_ne (tgt := 23) hx hb dX8_takeSingle_1 (by decide) (fun _ => ?_) (fun h => absurd h (by decide))
    refine lv_iload_n hx hb dX8_takeSingle_23 rfl (lv_at hl 1 rfl) ?_
    refine lv_iconst (v := 4) hx hb dX8_takeSingle_24 (by decide) ?_
    refine lv_icmp_ne (tgt := 34) hx hb dX8_takeSingle_25 (by decide) (fun _ => ?_) (fun h => absurd h (by decide))
    refine lv_iload_n hx hb dX8_takeSingle_34 rfl (lv_at hl 1 rfl) ?_
    refine lv_iconst (v := 5) hx hb dX8_takeSingle_35 (by decide) ?_
    refine lv_icmp_ne (tgt := 43) hx hb dX8_takeSingle_36 (by decide) (fun _ => ?_) (fun h => absurd h (by decide))
    refine lv_iload_n hx hb dX8_takeSingle_43 rfl (lv_at hl 1 rfl) ?_
    refine lv_bipush (v := 6) hx hb dX8_takeSingle_44 (by decide) ?_
    refine lv_icmp_ne (tgt := 54) hx hb dX8_takeSingle_46 (by decide) (fun _ => ?_) (fun h => absurd h (by decide))
    refine lv_iload_n hx hb dX8_takeSingle_54 rfl (lv_at hl 1 rfl) ?_
    refine lv_bipush (v := 8) hx hb dX8_takeSingle_55 (by decide) ?_
    refine lv_icmp_ne (tgt := 66) hx hb dX8_takeSingle_57 (by decide) (fun _ => ?_) (fun h => absurd h (by decide))
    refine lv_bipush (v := 99) hx hb dX8_takeSingle_66 (by decide) ?_
    refine lv_istore_n (lv' := [(2, .int 99), (0, .ref (a 0)), (1, .int 1)]) hx hb dX8_takeSingle_68 rfl hl (by decide) rfl (fun ls hl => ?_)
    refine lv_aload_n hx hb dX8_takeSingle_69 rfl (lv_at hl 1 rfl) ?_
    refine lv_iconst (v := 0) hx hb dX8_takeSingle_70 (by decide) ?_
    refine lv_iload_n hx hb dX8_takeSingle_71 rfl (lv_at hl 0 rfl) ?_
    refine rw_i (D := D) (wr := [(aI k (a 16) 9 freadSingle)]) (va_runV (As := [.int 0, .int 99]) (rest := []) ⟨hx, hb, hml, hown, hts⟩ ((n_takeNumber l D k st lo a tx t0 we rd ru rw ca fp wd nu na ts df db sd ftext 0 99 (by first | assumption | omega) (by first | assumption | omega)) s.heap.size) (cwV 2 hts (gV tw_1159 tw_1161 tw_33 tw_87 tw_1162) rfl rfl rfl (by decide +kernel) ⟨Nat.le_of_ble_eq_true rfl, Nat.le_of_ble_eq_true rfl⟩) (pV hS hAlo hlo hP hK (va_Dlo hD hAlo) hZ [0, 1] (by decide) rfl (ci := 8) (q := (RX8, TX8, 44)) (q0 := 0) rfl rfl) rfl rfl hl.1 rfl (lv_room (Nat.le_of_ble_eq_true rfl)) dX8_takeSingle_72 ⟨Nat.le_of_ble_eq_true rfl, Nat.le_of_ble_eq_true rfl⟩) hS hA hP hD [0, 1] [2] rfl rfl (by decide) (by decide) (fun r_6 u H locs hw_6 hP hD hS => ?_)
    obtain ⟨t0__6, nu__6, na__6, fp__6⟩ := u
    replace hP : va_P D classes [(aI k (a 16) 9 freadSingle), ((a 0), .inr (8, (fX8 a (nI tx) fp__6 (nI t0__6) wd (nI we) nu__6 na__6 (nI rd) ts (nI ru) (nI rw) (nI ca) df db sd))), (aI k (a 5) 240 ftext)] H := hP
    replace hD : va_D A [(aI k (a 16) 9 freadSingle), ((a 0), .inr (8, (fX8 a (nI tx) fp__6 (nI t0__6) wd (nI we) nu__6 na__6 (nI rd) ts (nI ru) (nI rw) (nI ca) df db sd))), (aI k (a 5) 240 ftext)] := hD
    try dsimp only at hw_6
    obtain ⟨nq_7, rfl, hq_7, hw_6⟩ := hw_6
    rcases hq_7 with ⟨rfl, hq_7, hfp_7⟩ | ⟨rfl, pl_7, hq_7, rfl⟩ | ⟨rfl, pl_7, hq_7, rfl⟩
    · replace hfp_7 := hfp_7.symm
      subst hfp_7
      refine lv_istore_n (lv' := [(3, .int 0), (2, .int 99), (0, .ref (a 0)), (1, .int 1)]) hx hb dX8_takeSingle_75 rfl hl (by decide) rfl (fun ls hl => ?_)
      refine lv_aload_n hx hb dX8_takeSingle_76 rfl (lv_at hl 2 rfl) ?_
      refine va_get (D := D) (ci := 8) (v := .ref (a 16)) (C := RX8) (T := TX8) (N := 44) hx hb hts inX8 hown hK hP 1 rfl rfl 15 (by decide) (hts _ tw_988) (fun _ h9 => h9) rfl dX8_takeSingle_77 ?_
      refine lv_iload_n hx hb dX8_takeSingle_80 rfl (lv_at hl 3 rfl) ?_
      refine lv_aload_n hx hb dX8_takeSingle_81 rfl (lv_at hl 2 rfl) ?_
      refine va_get (D := D) (ci := 8) (v := .int nu__6) (C := RX8) (T := TX8) (N := 44) hx hb hts inX8 hown hK hP 1 rfl rfl 10 (by decide) (hts _ tw_983) (fun _ h9 => h9) rfl dX8_takeSingle_82 ?_
      refine va_iast hx hb hK hP hD hS 0 1 rfl rfl (by unfold vp_in; decide) dX8_takeSingle_85 (fun H locs hP hD hS => ?_)
      replace hP : va_P D classes [(aI k (a 16) 9 (upd freadSingle (Int32.toNatClampNeg 1) nu__6)), ((a 0), .inr (8, (fX8 a (nI tx) fp (nI t0__6) wd (nI we) nu__6 (nI nq_7) (nI rd) ts (nI ru) (nI rw) (nI ca) df db sd))), (aI k (a 5) 240 ftext)] H := hP
      replace hD : va_D A [(aI k (a 16) 9 (upd freadSingle (Int32.toNatClampNeg 1) nu__6)), ((a 0), .inr (8, (fX8 a (nI tx) fp (nI t0__6) wd (nI we) nu__6 (nI nq_7) (nI rd) ts (nI ru) (nI rw) (nI ca) df db sd))), (aI k (a 5) 240 ftext)] := hD
      replace hP : va_P D classes [(aI k (a 16) 9 (upd freadSingle 1 nu__6)), ((a 0), .inr (8, (fX8 a (nI tx) fp (nI t0__6) wd (nI we) nu__6 (nI nq_7) (nI rd) ts (nI ru) (nI rw) (nI ca) df db sd))), (aI k (a 5) 240 ftext)] H := hP
      replace hD : va_D A [(aI k (a 16) 9 (upd freadSingle 1 nu__6)), ((a 0), .inr (8, (fX8 a (nI tx) fp (nI t0__6) wd (nI we) nu__6 (nI nq_7) (nI rd) ts (nI ru) (nI rw) (nI ca) df db sd))), (aI k (a 5) 240 ftext)] := hD
      refine lv_iload_n hx hb dX8_takeSingle_86 rfl (lv_at hl 0 rfl) ?_
      refine lv_if_gt (tgt := 96) hx hb dX8_takeSingle_87 (by decide) (fun h => absurd h (by decide)) (fun _ => ?_)
      refine lv_iload_n hx hb dX8_takeSingle_90 rfl (lv_at hl 3 rfl) ?_
      refine lv_bipush (v := 6) hx hb dX8_takeSingle_91 (by decide) ?_
      refine lv_icmp_eq (tgt := 98) hx hb dX8_takeSingle_93 (by decide) (fun h => absurd h (by decide)) (fun _ => ?_)
      refine lv_iload_n hx hb dX8_takeSingle_96 rfl (lv_at hl 0 rfl) ?_
      have hg1_9 := (nuR_in hq_7).2
      have hP9 := hP.sub (ws' := [((a 0), .inr (8, (fX8 a (nI tx) fp (nI t0__6) wd (nI we) nu__6 (nI nq_7) (nI rd) ts (nI ru) (nI rw) (nI ca) df db sd))), (aI k (a 5) 240 ftext), (aI k (a 16) 9 (upd freadSingle 1 nu__6))]) [1, 2, 0] rfl
      have hD9 := hD.sub (ws' := [((a 0), .inr (8, (fX8 a (nI tx) fp (nI t0__6) wd (nI we) nu__6 (nI nq_7) (nI rd) ts (nI ru) (nI rw) (nI ca) df db sd))), (aI k (a 5) 240 ftext), (aI k (a 16) 9 (upd freadSingle 1 nu__6))]) [1, 2, 0] (by decide) rfl
      exact W.iret (v := 0) hx hb hr (fun t ht hW => ⟨⟨0, (t0__6, wd, we, fp, nu__6, (nI nq_7), (upd freadSingle 1 nu__6)), rfl, ⟨.inl ⟨rfl, nu__6, 0, (by simp [siF, hq_7, (show zLE 2 = 0 from rfl), (show zMO 2 = 99 from rfl), (show decide ((2 : Nat) = 1) = false from rfl), -List.getD_eq_getElem?_getD]), by rw [if_neg (by decide)], rfl⟩, by omega, by omega, fun _ => by omega, fun _ => (rsOK_upd hrs 1 _ (fun h5 => absurd h5 (by omega)) (fun h7 => absurd h7 (by omega)))⟩, by rw [ht]; exact hP9, hD9⟩, hS.F ht⟩) hS.2.2 dX8_takeSingle_97
    · refine lv_istore_n (lv' := [(3, .int 1), (2, .int 99), (0, .ref (a 0)), (1, .int 1)]) hx hb dX8_takeSingle_75 rfl hl (by decide) rfl (fun ls hl => ?_)
      refine lv_aload_n hx hb dX8_takeSingle_76 rfl (lv_at hl 2 rfl) ?_
      refine va_get (D := D) (ci := 8) (v := .ref (a 16)) (C := RX8) (T := TX8) (N := 44) hx hb hts inX8 hown hK hP 1 rfl rfl 15 (by decide) (hts _ tw_988) (fun _ h9 => h9) rfl dX8_takeSingle_77 ?_
      refine lv_iload_n hx hb dX8_takeSingle_80 rfl (lv_at hl 3 rfl) ?_
      refine lv_aload_n hx hb dX8_takeSingle_81 rfl (lv_at hl 2 rfl) ?_
      refine va_get (D := D) (ci := 8) (v := .int nu__6) (C := RX8) (T := TX8) (N := 44) hx hb hts inX8 hown hK hP 1 rfl rfl 10 (by decide) (hts _ tw_983) (fun _ h9 => h9) rfl dX8_takeSingle_82 ?_
      refine va_iast hx hb hK hP hD hS 0 1 rfl rfl (by unfold vp_in; decide) dX8_takeSingle_85 (fun H locs hP hD hS => ?_)
      replace hP : va_P D classes [(aI k (a 16) 9 (upd freadSingle (Int32.toNatClampNeg 1) nu__6)), ((a 0), .inr (8, (fX8 a (nI tx) (nI pl_7) (nI t0__6) wd (nI we) nu__6 (nI nq_7) (nI rd) ts (nI ru) (nI rw) (nI ca) df db sd))), (aI k (a 5) 240 ftext)] H := hP
      replace hD : va_D A [(aI k (a 16) 9 (upd freadSingle (Int32.toNatClampNeg 1) nu__6)), ((a 0), .inr (8, (fX8 a (nI tx) (nI pl_7) (nI t0__6) wd (nI we) nu__6 (nI nq_7) (nI rd) ts (nI ru) (nI rw) (nI ca) df db sd))), (aI k (a 5) 240 ftext)] := hD
      replace hP : va_P D classes [(aI k (a 16) 9 (upd freadSingle 1 nu__6)), ((a 0), .inr (8, (fX8 a (nI tx) (nI pl_7) (nI t0__6) wd (nI we) nu__6 (nI nq_7) (nI rd) ts (nI ru) (nI rw) (nI ca) df db sd))), (aI k (a 5) 240 ftext)] H := hP
      replace hD : va_D A [(aI k (a 16) 9 (upd freadSingle 1 nu__6)), ((a 0), .inr (8, (fX8 a (nI tx) (nI pl_7) (nI t0__6) wd (nI we) nu__6 (nI nq_7) (nI rd) ts (nI ru) (nI rw) (nI ca) df db sd))), (aI k (a 5) 240 ftext)] := hD
      refine lv_iload_n hx hb dX8_takeSingle_86 rfl (lv_at hl 0 rfl) ?_
      refine lv_if_gt (tgt := 96) hx hb dX8_takeSingle_87 (by decide) (fun _ => ?_) (fun h => absurd (by decide) h)
      refine lv_iload_n hx hb dX8_takeSingle_96 rfl (lv_at hl 0 rfl) ?_
      have hP9 := hP.sub (ws' := [((a 0), .inr (8, (fX8 a (nI tx) (nI pl_7) (nI t0__6) wd (nI we) nu__6 (nI nq_7) (nI rd) ts (nI ru) (nI rw) (nI ca) df db sd))), (aI k (a 5) 240 ftext), (aI k (a 16) 9 (upd freadSingle 1 nu__6))]) [1, 2, 0] rfl
      have hD9 := hD.sub (ws' := [((a 0), .inr (8, (fX8 a (nI tx) (nI pl_7) (nI t0__6) wd (nI we) nu__6 (nI nq_7) (nI rd) ts (nI ru) (nI rw) (nI ca) df db sd))), (aI k (a 5) 240 ftext), (aI k (a 16) 9 (upd freadSingle 1 nu__6))]) [1, 2, 0] (by decide) rfl
      exact W.iret (v := 1) hx hb hr (fun t ht hW => ⟨⟨1, (t0__6, wd, we, (nI pl_7), nu__6, (nI nq_7), (upd freadSingle 1 nu__6)), rfl, ⟨.inr ⟨1, pl_7, rfl, by decide, by decide, by simp [siF, hq_7, (show zLE 2 = 0 from rfl), (show zMO 2 = 99 from rfl), (show decide ((2 : Nat) = 1) = false from rfl), -List.getD_eq_getElem?_getD], by simp [siF, hq_7, (show zLE 2 = 0 from rfl), (show zMO 2 = 99 from rfl), (show decide ((2 : Nat) = 1) = false from rfl), -List.getD_eq_getElem?_getD], rfl⟩, by omega, by omega, fun h => absurd h (by decide), fun h => absurd h (by decide)⟩, by rw [ht]; exact hP9, hD9⟩, hS.F ht⟩) hS.2.2 dX8_takeSingle_97
    · refine lv_istore_n (lv' := [(3, .int 2), (2, .int 99), (0, .ref (a 0)), (1, .int 1)]) hx hb dX8_takeSingle_75 rfl hl (by decide) rfl (fun ls hl => ?_)
      refine lv_aload_n hx hb dX8_takeSingle_76 rfl (lv_at hl 2 rfl) ?_
      refine va_get (D := D) (ci := 8) (v := .ref (a 16)) (C := RX8) (T := TX8) (N := 44) hx hb hts inX8 hown hK hP 1 rfl rfl 15 (by decide) (hts _ tw_988) (fun _ h9 => h9) rfl dX8_takeSingle_77 ?_
      refine lv_iload_n hx hb dX8_takeSingle_80 rfl (lv_at hl 3 rfl) ?_
      refine lv_aload_n hx hb dX8_takeSingle_81 rfl (lv_at hl 2 rfl) ?_
      refine va_get (D := D) (ci := 8) (v := .int nu__6) (C := RX8) (T := TX8) (N := 44) hx hb hts inX8 hown hK hP 1 rfl rfl 10 (by decide) (hts _ tw_983) (fun _ h9 => h9) rfl dX8_takeSingle_82 ?_
      refine va_iast hx hb hK hP hD hS 0 1 rfl rfl (by unfold vp_in; decide) dX8_takeSingle_85 (fun H locs hP hD hS => ?_)
      replace hP : va_P D classes [(aI k (a 16) 9 (upd freadSingle (Int32.toNatClampNeg 1) nu__6)), ((a 0), .inr (8, (fX8 a (nI tx) (nI pl_7) (nI t0__6) wd (nI we) nu__6 (nI nq_7) (nI rd) ts (nI ru) (nI rw) (nI ca) df db sd))), (aI k (a 5) 240 ftext)] H := hP
      replace hD : va_D A [(aI k (a 16) 9 (upd freadSingle (Int32.toNatClampNeg 1) nu__6)), ((a 0), .inr (8, (fX8 a (nI tx) (nI pl_7) (nI t0__6) wd (nI we) nu__6 (nI nq_7) (nI rd) ts (nI ru) (nI rw) (nI ca) df db sd))), (aI k (a 5) 240 ftext)] := hD
      replace hP : va_P D classes [(aI k (a 16) 9 (upd freadSingle 1 nu__6)), ((a 0), .inr (8, (fX8 a (nI tx) (nI pl_7) (nI t0__6) wd (nI we) nu__6 (nI nq_7) (nI rd) ts (nI ru) (nI rw) (nI ca) df db sd))), (aI k (a 5) 240 ftext)] H := hP
      replace hD : va_D A [(aI k (a 16) 9 (upd freadSingle 1 nu__6)), ((a 0), .inr (8, (fX8 a (nI tx) (nI pl_7) (nI t0__6) wd (nI we) nu__6 (nI nq_7) (nI rd) ts (nI ru) (nI rw) (nI ca) df db sd))), (aI k (a 5) 240 ftext)] := hD
      refine lv_iload_n hx hb dX8_takeSingle_86 rfl (lv_at hl 0 rfl) ?_
      refine lv_if_gt (tgt := 96) hx hb dX8_takeSingle_87 (by decide) (fun _ => ?_) (fun h => absurd (by decide) h)
      refine lv_iload_n hx hb dX8_takeSingle_96 rfl (lv_at hl 0 rfl) ?_
      have hP9 := hP.sub (ws' := [((a 0), .inr (8, (fX8 a (nI tx) (nI pl_7) (nI t0__6) wd (nI we) nu__6 (nI nq_7) (nI rd) ts (nI ru) (nI rw) (nI ca) df db sd))), (aI k (a 5) 240 ftext), (aI k (a 16) 9 (upd freadSingle 1 nu__6))]) [1, 2, 0] rfl
      have hD9 := hD.sub (ws' := [((a 0), .inr (8, (fX8 a (nI tx) (nI pl_7) (nI t0__6) wd (nI we) nu__6 (nI nq_7) (nI rd) ts (nI ru) (nI rw) (nI ca) df db sd))), (aI k (a 5) 240 ftext), (aI k (a 16) 9 (upd freadSingle 1 nu__6))]) [1, 2, 0] (by decide) rfl
      exact W.iret (v := 2) hx hb hr (fun t ht hW => ⟨⟨2, (t0__6, wd, we, (nI pl_7), nu__6, (nI nq_7), (upd freadSingle 1 nu__6)), rfl, ⟨.inr ⟨2, pl_7, rfl, by decide, by decide, by simp [siF, hq_7, (show zLE 2 = 0 from rfl), (show zMO 2 = 99 from rfl), (show decide ((2 : Nat) = 1) = false from rfl), -List.getD_eq_getElem?_getD], by simp [siF, hq_7, (show zLE 2 = 0 from rfl), (show zMO 2 = 99 from rfl), (show decide ((2 : Nat) = 1) = false from rfl), -List.getD_eq_getElem?_getD], rfl⟩, by omega, by omega, fun h => absurd h (by decide), fun h => absurd h (by decide)⟩, by rw [ht]; exact hP9, hD9⟩, hS.F ht⟩) hS.2.2 dX8_takeSingle_97
  · refine lv_iload_n hx hb dX8_takeSingle_0 rfl (lv_at hl 1 rfl) ?_
    refine lv_if_ne (tgt := 23) hx hb dX8_takeSingle_1 (by decide) (fun _ => ?_) (fun h => absurd h (by decide))
    refine lv_iload_n hx hb dX8_takeSingle_23 rfl (lv_at hl 1 rfl) ?_
    refine lv_iconst (v := 4) hx hb dX8_takeSingle_24 (by decide) ?_
    refine lv_icmp_ne (tgt := 34) hx hb dX8_takeSingle_25 (by decide) (fun _ => ?_) (fun h => absurd h (by decide))
    refine lv_iload_n hx hb dX8_takeSingle_34 rfl (lv_at hl 1 rfl) ?_
    refine lv_iconst (v := 5) hx hb dX8_takeSingle_35 (by decide) ?_
    refine lv_icmp_ne (tgt := 43) hx hb dX8_takeSingle_36 (by decide) (fun _ => ?_) (fun h => absurd h (by decide))
    refine lv_iload_n hx hb dX8_takeSingle_43 rfl (lv_at hl 1 rfl) ?_
    refine lv_bipush (v := 6) hx hb dX8_takeSingle_44 (by decide) ?_
    refine lv_icmp_ne (tgt := 54) hx hb dX8_takeSingle_46 (by decide) (fun _ => ?_) (fun h => absurd h (by decide))
    refine lv_iload_n hx hb dX8_takeSingle_54 rfl (lv_at hl 1 rfl) ?_
    refine lv_bipush (v := 8) hx hb dX8_takeSingle_55 (by decide) ?_
    refine lv_icmp_ne (tgt := 66) hx hb dX8_takeSingle_57 (by decide) (fun _ => ?_) (fun h => absurd h (by decide))
    refine lv_bipush (v := 99) hx hb dX8_takeSingle_66 (by decide) ?_
    refine lv_istore_n (lv' := [(2, .int 99), (0, .ref (a 0)), (1, .int 2)]) hx hb dX8_takeSingle_68 rfl hl (by decide) rfl (fun ls hl => ?_)
    refine lv_aload_n hx hb dX8_takeSingle_69 rfl (lv_at hl 1 rfl) ?_
    refine lv_iconst (v := 0) hx hb dX8_takeSingle_70 (by decide) ?_
    refine lv_iload_n hx hb dX8_takeSingle_71 rfl (lv_at hl 0 rfl) ?_
    refine rw_i (D := D) (wr := [(aI k (a 16) 9 freadSingle)]) (va_runV (As := [.int 0, .int 99]) (rest := []) ⟨hx, hb, hml, hown, hts⟩ ((n_takeNumber l D k st lo a tx t0 we rd ru rw ca fp wd nu na ts df db sd ftext 0 99 (by first | assumption | omega) (by first | assumption | omega)) s.heap.size) (cwV 2 hts (gV tw_1159 tw_1161 tw_33 tw_87 tw_1162) rfl rfl rfl (by decide +kernel) ⟨Nat.le_of_ble_eq_true rfl, Nat.le_of_ble_eq_true rfl⟩) (pV hS hAlo hlo hP hK (va_Dlo hD hAlo) hZ [0, 1] (by decide) rfl (ci := 8) (q := (RX8, TX8, 44)) (q0 := 0) rfl rfl) rfl rfl hl.1 rfl (lv_room (Nat.le_of_ble_eq_true rfl)) dX8_takeSingle_72 ⟨Nat.le_of_ble_eq_true rfl, Nat.le_of_ble_eq_true rfl⟩) hS hA hP hD [0, 1] [2] rfl rfl (by decide) (by decide) (fun r_11 u H locs hw_11 hP hD hS => ?_)
    obtain ⟨t0__11, nu__11, na__11, fp__11⟩ := u
    replace hP : va_P D classes [(aI k (a 16) 9 freadSingle), ((a 0), .inr (8, (fX8 a (nI tx) fp__11 (nI t0__11) wd (nI we) nu__11 na__11 (nI rd) ts (nI ru) (nI rw) (nI ca) df db sd))), (aI k (a 5) 240 ftext)] H := hP
    replace hD : va_D A [(aI k (a 16) 9 freadSingle), ((a 0), .inr (8, (fX8 a (nI tx) fp__11 (nI t0__11) wd (nI we) nu__11 na__11 (nI rd) ts (nI ru) (nI rw) (nI ca) df db sd))), (aI k (a 5) 240 ftext)] := hD
    try dsimp only at hw_11
    obtain ⟨nq_12, rfl, hq_12, hw_11⟩ := hw_11
    rcases hq_12 with ⟨rfl, hq_12, hfp_12⟩ | ⟨rfl, pl_12, hq_12, rfl⟩ | ⟨rfl, pl_12, hq_12, rfl⟩
    · replace hfp_12 := hfp_12.symm
      subst hfp_12
      refine lv_istore_n (lv' := [(3, .int 0), (2, .int 99), (0, .ref (a 0)), (1, .int 2)]) hx hb dX8_takeSingle_75 rfl hl (by decide) rfl (fun ls hl => ?_)
      refine lv_aload_n hx hb dX8_takeSingle_76 rfl (lv_at hl 2 rfl) ?_
      refine va_get (D := D) (ci := 8) (v := .ref (a 16)) (C := RX8) (T := TX8) (N := 44) hx hb hts inX8 hown hK hP 1 rfl rfl 15 (by decide) (hts _ tw_988) (fun _ h9 => h9) rfl dX8_takeSingle_77 ?_
      refine lv_iload_n hx hb dX8_takeSingle_80 rfl (lv_at hl 3 rfl) ?_
      refine lv_aload_n hx hb dX8_takeSingle_81 rfl (lv_at hl 2 rfl) ?_
      refine va_get (D := D) (ci := 8) (v := .int nu__11) (C := RX8) (T := TX8) (N := 44) hx hb hts inX8 hown hK hP 1 rfl rfl 10 (by decide) (hts _ tw_983) (fun _ h9 => h9) rfl dX8_takeSingle_82 ?_
      refine va_iast hx hb hK hP hD hS 0 1 rfl rfl (by unfold vp_in; decide) dX8_takeSingle_85 (fun H locs hP hD hS => ?_)
      replace hP : va_P D classes [(aI k (a 16) 9 (upd freadSingle (Int32.toNatClampNeg 2) nu__11)), ((a 0), .inr (8, (fX8 a (nI tx) fp (nI t0__11) wd (nI we) nu__11 (nI nq_12) (nI rd) ts (nI ru) (nI rw) (nI ca) df db sd))), (aI k (a 5) 240 ftext)] H := hP
      replace hD : va_D A [(aI k (a 16) 9 (upd freadSingle (Int32.toNatClampNeg 2) nu__11)), ((a 0), .inr (8, (fX8 a (nI tx) fp (nI t0__11) wd (nI we) nu__11 (nI nq_12) (nI rd) ts (nI ru) (nI rw) (nI ca) df db sd))), (aI k (a 5) 240 ftext)] := hD
      replace hP : va_P D classes [(aI k (a 16) 9 (upd freadSingle 2 nu__11)), ((a 0), .inr (8, (fX8 a (nI tx) fp (nI t0__11) wd (nI we) nu__11 (nI nq_12) (nI rd) ts (nI ru) (nI rw) (nI ca) df db sd))), (aI k (a 5) 240 ftext)] H := hP
      replace hD : va_D A [(aI k (a 16) 9 (upd freadSingle 2 nu__11)), ((a 0), .inr (8, (fX8 a (nI tx) fp (nI t0__11) wd (nI we) nu__11 (nI nq_12) (nI rd) ts (nI ru) (nI rw) (nI ca) df db sd))), (aI k (a 5) 240 ftext)] := hD
      refine lv_iload_n hx hb dX8_takeSingle_86 rfl (lv_at hl 0 rfl) ?_
      refine lv_if_gt (tgt := 96) hx hb dX8_takeSingle_87 (by decide) (fun h => absurd h (by decide)) (fun _ => ?_)
      refine lv_iload_n hx hb dX8_takeSingle_90 rfl (lv_at hl 3 rfl) ?_
      refine lv_bipush (v := 6) hx hb dX8_takeSingle_91 (by decide) ?_
      refine lv_icmp_eq (tgt := 98) hx hb dX8_takeSingle_93 (by decide) (fun h => absurd h (by decide)) (fun _ => ?_)
      refine lv_iload_n hx hb dX8_takeSingle_96 rfl (lv_at hl 0 rfl) ?_
      have hg1_9 := (nuR_in hq_12).2
      have hP9 := hP.sub (ws' := [((a 0), .inr (8, (fX8 a (nI tx) fp (nI t0__11) wd (nI we) nu__11 (nI nq_12) (nI rd) ts (nI ru) (nI rw) (nI ca) df db sd))), (aI k (a 5) 240 ftext), (aI k (a 16) 9 (upd freadSingle 2 nu__11))]) [1, 2, 0] rfl
      have hD9 := hD.sub (ws' := [((a 0), .inr (8, (fX8 a (nI tx) fp (nI t0__11) wd (nI we) nu__11 (nI nq_12) (nI rd) ts (nI ru) (nI rw) (nI ca) df db sd))), (aI k (a 5) 240 ftext), (aI k (a 16) 9 (upd freadSingle 2 nu__11))]) [1, 2, 0] (by decide) rfl
      exact W.iret (v := 0) hx hb hr (fun t ht hW => ⟨⟨0, (t0__11, wd, we, fp, nu__11, (nI nq_12), (upd freadSingle 2 nu__11)), rfl, ⟨.inl ⟨rfl, nu__11, 0, (by simp [siF, hq_12, (show zLE 3 = 0 from rfl), (show zMO 3 = 99 from rfl), (show decide ((3 : Nat) = 1) = false from rfl), -List.getD_eq_getElem?_getD]), by rw [if_neg (by decide)], rfl⟩, by omega, by omega, fun _ => by omega, fun _ => (rsOK_upd hrs 2 _ (fun h5 => absurd h5 (by omega)) (fun h7 => absurd h7 (by omega)))⟩, by rw [ht]; exact hP9, hD9⟩, hS.F ht⟩) hS.2.2 dX8_takeSingle_97
    · refine lv_istore_n (lv' := [(3, .int 1), (2, .int 99), (0, .ref (a 0)), (1, .int 2)]) hx hb dX8_takeSingle_75 rfl hl (by decide) rfl (fun ls hl => ?_)
      refine lv_aload_n hx hb dX8_takeSingle_76 rfl (lv_at hl 2 rfl) ?_
      refine va_get (D := D) (ci := 8) (v := .ref (a 16)) (C := RX8) (T := TX8) (N := 44) hx hb hts inX8 hown hK hP 1 rfl rfl 15 (by decide) (hts _ tw_988) (fun _ h9 => h9) rfl dX8_takeSingle_77 ?_
      refine lv_iload_n hx hb dX8_takeSingle_80 rfl (lv_at hl 3 rfl) ?_
      refine lv_aload_n hx hb dX8_takeSingle_81 rfl (lv_at hl 2 rfl) ?_
      refine va_get (D := D) (ci := 8) (v := .int nu__11) (C := RX8) (T := TX8) (N := 44) hx hb hts inX8 hown hK hP 1 rfl rfl 10 (by decide) (hts _ tw_983) (fun _ h9 => h9) rfl dX8_takeSingle_82 ?_
      refine va_iast hx hb hK hP hD hS 0 1 rfl rfl (by unfold vp_in; decide) dX8_takeSingle_85 (fun H locs hP hD hS => ?_)
      replace hP : va_P D classes [(aI k (a 16) 9 (upd freadSingle (Int32.toNatClampNeg 2) nu__11)), ((a 0), .inr (8, (fX8 a (nI tx) (nI pl_12) (nI t0__11) wd (nI we) nu__11 (nI nq_12) (nI rd) ts (nI ru) (nI rw) (nI ca) df db sd))), (aI k (a 5) 240 ftext)] H := hP
      replace hD : va_D A [(aI k (a 16) 9 (upd freadSingle (Int32.toNatClampNeg 2) nu__11)), ((a 0), .inr (8, (fX8 a (nI tx) (nI pl_12) (nI t0__11) wd (nI we) nu__11 (nI nq_12) (nI rd) ts (nI ru) (nI rw) (nI ca) df db sd))), (aI k (a 5) 240 ftext)] := hD
      replace hP : va_P D classes [(aI k (a 16) 9 (upd freadSingle 2 nu__11)), ((a 0), .inr (8, (fX8 a (nI tx) (nI pl_12) (nI t0__11) wd (nI we) nu__11 (nI nq_12) (nI rd) ts (nI ru) (nI rw) (nI ca) df db sd))), (aI k (a 5) 240 ftext)] H := hP
      replace hD : va_D A [(aI k (a 16) 9 (upd freadSingle 2 nu__11)), ((a 0), .inr (8, (fX8 a (nI tx) (nI pl_12) (nI t0__11) wd (nI we) nu__11 (nI nq_12) (nI rd) ts (nI ru) (nI rw) (nI ca) df db sd))), (aI k (a 5) 240 ftext)] := hD
      refine lv_iload_n hx hb dX8_takeSingle_86 rfl (lv_at hl 0 rfl) ?_
      refine lv_if_gt (tgt := 96) hx hb dX8_takeSingle_87 (by decide) (fun _ => ?_) (fun h => absurd (by decide) h)
      refine lv_iload_n hx hb dX8_takeSingle_96 rfl (lv_at hl 0 rfl) ?_
      have hP9 := hP.sub (ws' := [((a 0), .inr (8, (fX8 a (nI tx) (nI pl_12) (nI t0__11) wd (nI we) nu__11 (nI nq_12) (nI rd) ts (nI ru) (nI rw) (nI ca) df db sd))), (aI k (a 5) 240 ftext), (aI k (a 16) 9 (upd freadSingle 2 nu__11))]) [1, 2, 0] rfl
      have hD9 := hD.sub (ws' := [((a 0), .inr (8, (fX8 a (nI tx) (nI pl_12) (nI t0__11) wd (nI we) nu__11 (nI nq_12) (nI rd) ts (nI ru) (nI rw) (nI ca) df db sd))), (aI k (a 5) 240 ftext), (aI k (a 16) 9 (upd freadSingle 2 nu__11))]) [1, 2, 0] (by decide) rfl
      exact W.iret (v := 1) hx hb hr (fun t ht hW => ⟨⟨1, (t0__11, wd, we, (nI pl_12), nu__11, (nI nq_12), (upd freadSingle 2 nu__11)), rfl, ⟨.inr ⟨1, pl_12, rfl, by decide, by decide, by simp [siF, hq_12, (show zLE 3 = 0 from rfl), (show zMO 3 = 99 from rfl), (show decide ((3 : Nat) = 1) = false from rfl), -List.getD_eq_getElem?_getD], by simp [siF, hq_12, (show zLE 3 = 0 from rfl), (show zMO 3 = 99 from rfl), (show decide ((3 : Nat) = 1) = false from rfl), -List.getD_eq_getElem?_getD], rfl⟩, by omega, by omega, fun h => absurd h (by decide), fun h => absurd h (by decide)⟩, by rw [ht]; exact hP9, hD9⟩, hS.F ht⟩) hS.2.2 dX8_takeSingle_97
    · refine lv_istore_n (lv' := [(3, .int 2), (2, .int 99), (0, .ref (a 0)), (1, .int 2)]) hx hb dX8_takeSingle_75 rfl hl (by decide) rfl (fun ls hl => ?_)
      refine lv_aload_n hx hb dX8_takeSingle_76 rfl (lv_at hl 2 rfl) ?_
      refine va_get (D := D) (ci := 8) (v := .ref (a 16)) (C := RX8) (T := TX8) (N := 44) hx hb hts inX8 hown hK hP 1 rfl rfl 15 (by decide) (hts _ tw_988) (fun _ h9 => h9) rfl dX8_takeSingle_77 ?_
      refine lv_iload_n hx hb dX8_takeSingle_80 rfl (lv_at hl 3 rfl) ?_
      refine lv_aload_n hx hb dX8_takeSingle_81 rfl (lv_at hl 2 rfl) ?_
      refine va_get (D := D) (ci := 8) (v := .int nu__11) (C := RX8) (T := TX8) (N := 44) hx hb hts inX8 hown hK hP 1 rfl rfl 10 (by decide) (hts _ tw_983) (fun _ h9 => h9) rfl dX8_takeSingle_82 ?_
      refine va_iast hx hb hK hP hD hS 0 1 rfl rfl (by unfold vp_in; decide) dX8_takeSingle_85 (fun H locs hP hD hS => ?_)
      replace hP : va_P D classes [(aI k (a 16) 9 (upd freadSingle (Int32.toNatClampNeg 2) nu__11)), ((a 0), .inr (8, (fX8 a (nI tx) (nI pl_12) (nI t0__11) wd (nI we) nu__11 (nI nq_12) (nI rd) ts (nI ru) (nI rw) (nI ca) df db sd))), (aI k (a 5) 240 ftext)] H := hP
      replace hD : va_D A [(aI k (a 16) 9 (upd freadSingle (Int32.toNatClampNeg 2) nu__11)), ((a 0), .inr (8, (fX8 a (nI tx) (nI pl_12) (nI t0__11) wd (nI we) nu__11 (nI nq_12) (nI rd) ts (nI ru) (nI rw) (nI ca) df db sd))), (aI k (a 5) 240 ftext)] := hD
      replace hP : va_P D classes [(aI k (a 16) 9 (upd freadSingle 2 nu__11)), ((a 0), .inr (8, (fX8 a (nI tx) (nI pl_12) (nI t0__11) wd (nI we) nu__11 (nI nq_12) (nI rd) ts (nI ru) (nI rw) (nI ca) df db sd))), (aI k (a 5) 240 ftext)] H := hP
      replace hD : va_D A [(aI k (a 16) 9 (upd freadSingle 2 nu__11)), ((a 0), .inr (8, (fX8 a (nI tx) (nI pl_12) (nI t0__11) wd (nI we) nu__11 (nI nq_12) (nI rd) ts (nI ru) (nI rw) (nI ca) df db sd))), (aI k (a 5) 240 ftext)] := hD
      refine lv_iload_n hx hb dX8_takeSingle_86 rfl (lv_at hl 0 rfl) ?_
      refine lv_if_gt (tgt := 96) hx hb dX8_takeSingle_87 (by decide) (fun _ => ?_) (fun h => absurd (by decide) h)
      refine lv_iload_n hx hb dX8_takeSingle_96 rfl (lv_at hl 0 rfl) ?_
      have hP9 := hP.sub (ws' := [((a 0), .inr (8, (fX8 a (nI tx) (nI pl_12) (nI t0__11) wd (nI we) nu__11 (nI nq_12) (nI rd) ts (nI ru) (nI rw) (nI ca) df db sd))), (aI k (a 5) 240 ftext), (aI k (a 16) 9 (upd freadSingle 2 nu__11))]) [1, 2, 0] rfl
      have hD9 := hD.sub (ws' := [((a 0), .inr (8, (fX8 a (nI tx) (nI pl_12) (nI t0__11) wd (nI we) nu__11 (nI nq_12) (nI rd) ts (nI ru) (nI rw) (nI ca) df db sd))), (aI k (a 5) 240 ftext), (aI k (a 16) 9 (upd freadSingle 2 nu__11))]) [1, 2, 0] (by decide) rfl
      exact W.iret (v := 2) hx hb hr (fun t ht hW => ⟨⟨2, (t0__11, wd, we, (nI pl_12), nu__11, (nI nq_12), (upd freadSingle 2 nu__11)), rfl, ⟨.inr ⟨2, pl_12, rfl, by decide, by decide, by simp [siF, hq_12, (show zLE 3 = 0 from rfl), (show zMO 3 = 99 from rfl), (show decide ((3 : Nat) = 1) = false from rfl), -List.getD_eq_getElem?_getD], by simp [siF, hq_12, (show zLE 3 = 0 from rfl), (show zMO 3 = 99 from rfl), (show decide ((3 : Nat) = 1) = false from rfl), -List.getD_eq_getElem?_getD], rfl⟩, by omega, by omega, fun h => absurd h (by decide), fun h => absurd h (by decide)⟩, by rw [ht]; exact hP9, hD9⟩, hS.F ht⟩) hS.2.2 dX8_takeSingle_97
  · refine lv_iload_n hx hb dX8_takeSingle_0 rfl (lv_at hl 1 rfl) ?_
    refine lv_if_ne (tgt := 23) hx hb dX8_takeSingle_1 (by decide) (fun _ => ?_) (fun h => absurd h (by decide))
    refine lv_iload_n hx hb dX8_takeSingle_23 rfl (lv_at hl 1 rfl) ?_
    refine lv_iconst (v := 4) hx hb dX8_takeSingle_24 (by decide) ?_
    refine lv_icmp_ne (tgt := 34) hx hb dX8_takeSingle_25 (by decide) (fun _ => ?_) (fun h => absurd h (by decide))
    refine lv_iload_n hx hb dX8_takeSingle_34 rfl (lv_at hl 1 rfl) ?_
    refine lv_iconst (v := 5) hx hb dX8_takeSingle_35 (by decide) ?_
    refine lv_icmp_ne (tgt := 43) hx hb dX8_takeSingle_36 (by decide) (fun _ => ?_) (fun h => absurd h (by decide))
    refine lv_iload_n hx hb dX8_takeSingle_43 rfl (lv_at hl 1 rfl) ?_
    refine lv_bipush (v := 6) hx hb dX8_takeSingle_44 (by decide) ?_
    refine lv_icmp_ne (tgt := 54) hx hb dX8_takeSingle_46 (by decide) (fun _ => ?_) (fun h => absurd h (by decide))
    refine lv_iload_n hx hb dX8_takeSingle_54 rfl (lv_at hl 1 rfl) ?_
    refine lv_bipush (v := 8) hx hb dX8_takeSingle_55 (by decide) ?_
    refine lv_icmp_ne (tgt := 66) hx hb dX8_takeSingle_57 (by decide) (fun _ => ?_) (fun h => absurd h (by decide))
    refine lv_bipush (v := 99) hx hb dX8_takeSingle_66 (by decide) ?_
    refine lv_istore_n (lv' := [(2, .int 99), (0, .ref (a 0)), (1, .int 3)]) hx hb dX8_takeSingle_68 rfl hl (by decide) rfl (fun ls hl => ?_)
    refine lv_aload_n hx hb dX8_takeSingle_69 rfl (lv_at hl 1 rfl) ?_
    refine lv_iconst (v := 0) hx hb dX8_takeSingle_70 (by decide) ?_
    refine lv_iload_n hx hb dX8_takeSingle_71 rfl (lv_at hl 0 rfl) ?_
    refine rw_i (D := D) (wr := [(aI k (a 16) 9 freadSingle)]) (va_runV (As := [.int 0, .int 99]) (rest := []) ⟨hx, hb, hml, hown, hts⟩ ((n_takeNumber l D k st lo a tx t0 we rd ru rw ca fp wd nu na ts df db sd ftext 0 99 (by first | assumption | omega) (by first | assumption | omega)) s.heap.size) (cwV 2 hts (gV tw_1159 tw_1161 tw_33 tw_87 tw_1162) rfl rfl rfl (by decide +kernel) ⟨Nat.le_of_ble_eq_true rfl, Nat.le_of_ble_eq_true rfl⟩) (pV hS hAlo hlo hP hK (va_Dlo hD hAlo) hZ [0, 1] (by decide) rfl (ci := 8) (q := (RX8, TX8, 44)) (q0 := 0) rfl rfl) rfl rfl hl.1 rfl (lv_room (Nat.le_of_ble_eq_true rfl)) dX8_takeSingle_72 ⟨Nat.le_of_ble_eq_true rfl, Nat.le_of_ble_eq_true rfl⟩) hS hA hP hD [0, 1] [2] rfl rfl (by decide) (by decide) (fun r_16 u H locs hw_16 hP hD hS => ?_)
    obtain ⟨t0__16, nu__16, na__16, fp__16⟩ := u
    replace hP : va_P D classes [(aI k (a 16) 9 freadSingle), ((a 0), .inr (8, (fX8 a (nI tx) fp__16 (nI t0__16) wd (nI we) nu__16 na__16 (nI rd) ts (nI ru) (nI rw) (nI ca) df db sd))), (aI k (a 5) 240 ftext)] H := hP
    replace hD : va_D A [(aI k (a 16) 9 freadSingle), ((a 0), .inr (8, (fX8 a (nI tx) fp__16 (nI t0__16) wd (nI we) nu__16 na__16 (nI rd) ts (nI ru) (nI rw) (nI ca) df db sd))), (aI k (a 5) 240 ftext)] := hD
    try dsimp only at hw_16
    obtain ⟨nq_17, rfl, hq_17, hw_16⟩ := hw_16
    rcases hq_17 with ⟨rfl, hq_17, hfp_17⟩ | ⟨rfl, pl_17, hq_17, rfl⟩ | ⟨rfl, pl_17, hq_17, rfl⟩
    · replace hfp_17 := hfp_17.symm
      subst hfp_17
      refine lv_istore_n (lv' := [(3, .int 0), (2, .int 99), (0, .ref (a 0)), (1, .int 3)]) hx hb dX8_takeSingle_75 rfl hl (by decide) rfl (fun ls hl => ?_)
      refine lv_aload_n hx hb dX8_takeSingle_76 rfl (lv_at hl 2 rfl) ?_
      refine va_get (D := D) (ci := 8) (v := .ref (a 16)) (C := RX8) (T := TX8) (N := 44) hx hb hts inX8 hown hK hP 1 rfl rfl 15 (by decide) (hts _ tw_988) (fun _ h9 => h9) rfl dX8_takeSingle_77 ?_
      refine lv_iload_n hx hb dX8_takeSingle_80 rfl (lv_at hl 3 rfl) ?_
      refine lv_aload_n hx hb dX8_takeSingle_81 rfl (lv_at hl 2 rfl) ?_
      refine va_get (D := D) (ci := 8) (v := .int nu__16) (C := RX8) (T := TX8) (N := 44) hx hb hts inX8 hown hK hP 1 rfl rfl 10 (by decide) (hts _ tw_983) (fun _ h9 => h9) rfl dX8_takeSingle_82 ?_
      refine va_iast hx hb hK hP hD hS 0 1 rfl rfl (by unfold vp_in; decide) dX8_takeSingle_85 (fun H locs hP hD hS => ?_)
      replace hP : va_P D classes [(aI k (a 16) 9 (upd freadSingle (Int32.toNatClampNeg 3) nu__16)), ((a 0), .inr (8, (fX8 a (nI tx) fp (nI t0__16) wd (nI we) nu__16 (nI nq_17) (nI rd) ts (nI ru) (nI rw) (nI ca) df db sd))), (aI k (a 5) 240 ftext)] H := hP
      replace hD : va_D A [(aI k (a 16) 9 (upd freadSingle (Int32.toNatClampNeg 3) nu__16)), ((a 0), .inr (8, (fX8 a (nI tx) fp (nI t0__16) wd (nI we) nu__16 (nI nq_17) (nI rd) ts (nI ru) (nI rw) (nI ca) df db sd))), (aI k (a 5) 240 ftext)] := hD
      replace hP : va_P D classes [(aI k (a 16) 9 (upd freadSingle 3 nu__16)), ((a 0), .inr (8, (fX8 a (nI tx) fp (nI t0__16) wd (nI we) nu__16 (nI nq_17) (nI rd) ts (nI ru) (nI rw) (nI ca) df db sd))), (aI k (a 5) 240 ftext)] H := hP
      replace hD : va_D A [(aI k (a 16) 9 (upd freadSingle 3 nu__16)), ((a 0), .inr (8, (fX8 a (nI tx) fp (nI t0__16) wd (nI we) nu__16 (nI nq_17) (nI rd) ts (nI ru) (nI rw) (nI ca) df db sd))), (aI k (a 5) 240 ftext)] := hD
      refine lv_iload_n hx hb dX8_takeSingle_86 rfl (lv_at hl 0 rfl) ?_
      refine lv_if_gt (tgt := 96) hx hb dX8_takeSingle_87 (by decide) (fun h => absurd h (by decide)) (fun _ => ?_)
      refine lv_iload_n hx hb dX8_takeSingle_90 rfl (lv_at hl 3 rfl) ?_
      refine lv_bipush (v := 6) hx hb dX8_takeSingle_91 (by decide) ?_
      refine lv_icmp_eq (tgt := 98) hx hb dX8_takeSingle_93 (by decide) (fun h => absurd h (by decide)) (fun _ => ?_)
      refine lv_iload_n hx hb dX8_takeSingle_96 rfl (lv_at hl 0 rfl) ?_
      have hg1_9 := (nuR_in hq_17).2
      have hP9 := hP.sub (ws' := [((a 0), .inr (8, (fX8 a (nI tx) fp (nI t0__16) wd (nI we) nu__16 (nI nq_17) (nI rd) ts (nI ru) (nI rw) (nI ca) df db sd))), (aI k (a 5) 240 ftext), (aI k (a 16) 9 (upd freadSingle 3 nu__16))]) [1, 2, 0] rfl
      have hD9 := hD.sub (ws' := [((a 0), .inr (8, (fX8 a (nI tx) fp (nI t0__16) wd (nI we) nu__16 (nI nq_17) (nI rd) ts (nI ru) (nI rw) (nI ca) df db sd))), (aI k (a 5) 240 ftext), (aI k (a 16) 9 (upd freadSingle 3 nu__16))]) [1, 2, 0] (by decide) rfl
      exact W.iret (v := 0) hx hb hr (fun t ht hW => ⟨⟨0, (t0__16, wd, we, fp, nu__16, (nI nq_17), (upd freadSingle 3 nu__16)), rfl, ⟨.inl ⟨rfl, nu__16, 0, (by simp [siF, hq_17, (show zLE 4 = 0 from rfl), (show zMO 4 = 99 from rfl), (show decide ((4 : Nat) = 1) = false from rfl), -List.getD_eq_getElem?_getD]), by rw [if_neg (by decide)], rfl⟩, by omega, by omega, fun _ => by omega, fun _ => (rsOK_upd hrs 3 _ (fun h5 => absurd h5 (by omega)) (fun h7 => absurd h7 (by omega)))⟩, by rw [ht]; exact hP9, hD9⟩, hS.F ht⟩) hS.2.2 dX8_takeSingle_97
    · refine lv_istore_n (lv' := [(3, .int 1), (2, .int 99), (0, .ref (a 0)), (1, .int 3)]) hx hb dX8_takeSingle_75 rfl hl (by decide) rfl (fun ls hl => ?_)
      refine lv_aload_n hx hb dX8_takeSingle_76 rfl (lv_at hl 2 rfl) ?_
      refine va_get (D := D) (ci := 8) (v := .ref (a 16)) (C := RX8) (T := TX8) (N := 44) hx hb hts inX8 hown hK hP 1 rfl rfl 15 (by decide) (hts _ tw_988) (fun _ h9 => h9) rfl dX8_takeSingle_77 ?_
      refine lv_iload_n hx hb dX8_takeSingle_80 rfl (lv_at hl 3 rfl) ?_
      refine lv_aload_n hx hb dX8_takeSingle_81 rfl (lv_at hl 2 rfl) ?_
      refine va_get (D := D) (ci := 8) (v := .int nu__16) (C := RX8) (T := TX8) (N := 44) hx hb hts inX8 hown hK hP 1 rfl rfl 10 (by decide) (hts _ tw_983) (fun _ h9 => h9) rfl dX8_takeSingle_82 ?_
      refine va_iast hx hb hK hP hD hS 0 1 rfl rfl (by unfold vp_in; decide) dX8_takeSingle_85 (fun H locs hP hD hS => ?_)
      replace hP : va_P D classes [(aI k (a 16) 9 (upd freadSingle (Int32.toNatClampNeg 3) nu__16)), ((a 0), .inr (8, (fX8 a (nI tx) (nI pl_17) (nI t0__16) wd (nI we) nu__16 (nI nq_17) (nI rd) ts (nI ru) (nI rw) (nI ca) df db sd))), (aI k (a 5) 240 ftext)] H := hP
      replace hD : va_D A [(aI k (a 16) 9 (upd freadSingle (Int32.toNatClampNeg 3) nu__16)), ((a 0), .inr (8, (fX8 a (nI tx) (nI pl_17) (nI t0__16) wd (nI we) nu__16 (nI nq_17) (nI rd) ts (nI ru) (nI rw) (nI ca) df db sd))), (aI k (a 5) 240 ftext)] := hD
      replace hP : va_P D classes [(aI k (a 16) 9 (upd freadSingle 3 nu__16)), ((a 0), .inr (8, (fX8 a (nI tx) (nI pl_17) (nI t0__16) wd (nI we) nu__16 (nI nq_17) (nI rd) ts (nI ru) (nI rw) (nI ca) df db sd))), (aI k (a 5) 240 ftext)] H := hP
      replace hD : va_D A [(aI k (a 16) 9 (upd freadSingle 3 nu__16)), ((a 0), .inr (8, (fX8 a (nI tx) (nI pl_17) (nI t0__16) wd (nI we) nu__16 (nI nq_17) (nI rd) ts (nI ru) (nI rw) (nI ca) df db sd))), (aI k (a 5) 240 ftext)] := hD
      refine lv_iload_n hx hb dX8_takeSingle_86 rfl (lv_at hl 0 rfl) ?_
      refine lv_if_gt (tgt := 96) hx hb dX8_takeSingle_87 (by decide) (fun _ => ?_) (fun h => absurd (by decide) h)
      refine lv_iload_n hx hb dX8_takeSingle_96 rfl (lv_at hl 0 rfl) ?_
      have hP9 := hP.sub (ws' := [((a 0), .inr (8, (fX8 a (nI tx) (nI pl_17) (nI t0__16) wd (nI we) nu__16 (nI nq_17) (nI rd) ts (nI ru) (nI rw) (nI ca) df db sd))), (aI k (a 5) 240 ftext), (aI k (a 16) 9 (upd freadSingle 3 nu__16))]) [1, 2, 0] rfl
      have hD9 := hD.sub (ws' := [((a 0), .inr (8, (fX8 a (nI tx) (nI pl_17) (nI t0__16) wd (nI we) nu__16 (nI nq_17) (nI rd) ts (nI ru) (nI rw) (nI ca) df db sd))), (aI k (a 5) 240 ftext), (aI k (a 16) 9 (upd freadSingle 3 nu__16))]) [1, 2, 0] (by decide) rfl
      exact W.iret (v := 1) hx hb hr (fun t ht hW => ⟨⟨1, (t0__16, wd, we, (nI pl_17), nu__16, (nI nq_17), (upd freadSingle 3 nu__16)), rfl, ⟨.inr ⟨1, pl_17, rfl, by decide, by decide, by simp [siF, hq_17, (show zLE 4 = 0 from rfl), (show zMO 4 = 99 from rfl), (show decide ((4 : Nat) = 1) = false from rfl), -List.getD_eq_getElem?_getD], by simp [siF, hq_17, (show zLE 4 = 0 from rfl), (show zMO 4 = 99 from rfl), (show decide ((4 : Nat) = 1) = false from rfl), -List.getD_eq_getElem?_getD], rfl⟩, by omega, by omega, fun h => absurd h (by decide), fun h => absurd h (by decide)⟩, by rw [ht]; exact hP9, hD9⟩, hS.F ht⟩) hS.2.2 dX8_takeSingle_97
    · refine lv_istore_n (lv' := [(3, .int 2), (2, .int 99), (0, .ref (a 0)), (1, .int 3)]) hx hb dX8_takeSingle_75 rfl hl (by decide) rfl (fun ls hl => ?_)
      refine lv_aload_n hx hb dX8_takeSingle_76 rfl (lv_at hl 2 rfl) ?_
      refine va_get (D := D) (ci := 8) (v := .ref (a 16)) (C := RX8) (T := TX8) (N := 44) hx hb hts inX8 hown hK hP 1 rfl rfl 15 (by decide) (hts _ tw_988) (fun _ h9 => h9) rfl dX8_takeSingle_77 ?_
      refine lv_iload_n hx hb dX8_takeSingle_80 rfl (lv_at hl 3 rfl) ?_
      refine lv_aload_n hx hb dX8_takeSingle_81 rfl (lv_at hl 2 rfl) ?_
      refine va_get (D := D) (ci := 8) (v := .int nu__16) (C := RX8) (T := TX8) (N := 44) hx hb hts inX8 hown hK hP 1 rfl rfl 10 (by decide) (hts _ tw_983) (fun _ h9 => h9) rfl dX8_takeSingle_82 ?_
      refine va_iast hx hb hK hP hD hS 0 1 rfl rfl (by unfold vp_in; decide) dX8_takeSingle_85 (fun H locs hP hD hS => ?_)
      replace hP : va_P D classes [(aI k (a 16) 9 (upd freadSingle (Int32.toNatClampNeg 3) nu__16)), ((a 0), .inr (8, (fX8 a (nI tx) (nI pl_17) (nI t0__16) wd (nI we) nu__16 (nI nq_17) (nI rd) ts (nI ru) (nI rw) (nI ca) df db sd))), (aI k (a 5) 240 ftext)] H := hP
      replace hD : va_D A [(aI k (a 16) 9 (upd freadSingle (Int32.toNatClampNeg 3) nu__16)), ((a 0), .inr (8, (fX8 a (nI tx) (nI pl_17) (nI t0__16) wd (nI we) nu__16 (nI nq_17) (nI rd) ts (nI ru) (nI rw) (nI ca) df db sd))), (aI k (a 5) 240 ftext)] := hD
      replace hP : va_P D classes [(aI k (a 16) 9 (upd freadSingle 3 nu__16)), ((a 0), .inr (8, (fX8 a (nI tx) (nI pl_17) (nI t0__16) wd (nI we) nu__16 (nI nq_17) (nI rd) ts (nI ru) (nI rw) (nI ca) df db sd))), (aI k (a 5) 240 ftext)] H := hP
      replace hD : va_D A [(aI k (a 16) 9 (upd freadSingle 3 nu__16)), ((a 0), .inr (8, (fX8 a (nI tx) (nI pl_17) (nI t0__16) wd (nI we) nu__16 (nI nq_17) (nI rd) ts (nI ru) (nI rw) (nI ca) df db sd))), (aI k (a 5) 240 ftext)] := hD
      refine lv_iload_n hx hb dX8_takeSingle_86 rfl (lv_at hl 0 rfl) ?_
      refine lv_if_gt (tgt := 96) hx hb dX8_takeSingle_87 (by decide) (fun _ => ?_) (fun h => absurd (by decide) h)
      refine lv_iload_n hx hb dX8_takeSingle_96 rfl (lv_at hl 0 rfl) ?_
      have hP9 := hP.sub (ws' := [((a 0), .inr (8, (fX8 a (nI tx) (nI pl_17) (nI t0__16) wd (nI we) nu__16 (nI nq_17) (nI rd) ts (nI ru) (nI rw) (nI ca) df db sd))), (aI k (a 5) 240 ftext), (aI k (a 16) 9 (upd freadSingle 3 nu__16))]) [1, 2, 0] rfl
      have hD9 := hD.sub (ws' := [((a 0), .inr (8, (fX8 a (nI tx) (nI pl_17) (nI t0__16) wd (nI we) nu__16 (nI nq_17) (nI rd) ts (nI ru) (nI rw) (nI ca) df db sd))), (aI k (a 5) 240 ftext), (aI k (a 16) 9 (upd freadSingle 3 nu__16))]) [1, 2, 0] (by decide) rfl
      exact W.iret (v := 2) hx hb hr (fun t ht hW => ⟨⟨2, (t0__16, wd, we, (nI pl_17), nu__16, (nI nq_17), (upd freadSingle 3 nu__16)), rfl, ⟨.inr ⟨2, pl_17, rfl, by decide, by decide, by simp [siF, hq_17, (show zLE 4 = 0 from rfl), (show zMO 4 = 99 from rfl), (show decide ((4 : Nat) = 1) = false from rfl), -List.getD_eq_getElem?_getD], by simp [siF, hq_17, (show zLE 4 = 0 from rfl), (show zMO 4 = 99 from rfl), (show decide ((4 : Nat) = 1) = false from rfl), -List.getD_eq_getElem?_getD], rfl⟩, by omega, by omega, fun h => absurd h (by decide), fun h => absurd h (by decide)⟩, by rw [ht]; exact hP9, hD9⟩, hS.F ht⟩) hS.2.2 dX8_takeSingle_97
  · refine lv_iload_n hx hb dX8_takeSingle_0 rfl (lv_at hl 1 rfl) ?_
    refine lv_if_ne (tgt := 23) hx hb dX8_takeSingle_1 (by decide) (fun _ => ?_) (fun h => absurd h (by decide))
    refine lv_iload_n hx hb dX8_takeSingle_23 rfl (lv_at hl 1 rfl) ?_
    refine lv_iconst (v := 4) hx hb dX8_takeSingle_24 (by decide) ?_
    refine lv_icmp_ne (tgt := 34) hx hb dX8_takeSingle_25 (by decide) (fun h => absurd (by decide) h) (fun _ => ?_)
    refine lv_sipush (v := 200) hx hb dX8_takeSingle_28 (by decide) ?_
    refine lv_goto (tgt := 68) hx hb dX8_takeSingle_31 (by decide) ?_
    refine lv_istore_n (lv' := [(2, .int 200), (0, .ref (a 0)), (1, .int 4)]) hx hb dX8_takeSingle_68 rfl hl (by decide) rfl (fun ls hl => ?_)
    refine lv_aload_n hx hb dX8_takeSingle_69 rfl (lv_at hl 1 rfl) ?_
    refine lv_iconst (v := 0) hx hb dX8_takeSingle_70 (by decide) ?_
    refine lv_iload_n hx hb dX8_takeSingle_71 rfl (lv_at hl 0 rfl) ?_
    refine rw_i (D := D) (wr := [(aI k (a 16) 9 freadSingle)]) (va_runV (As := [.int 0, .int 200]) (rest := []) ⟨hx, hb, hml, hown, hts⟩ ((n_takeNumber l D k st lo a tx t0 we rd ru rw ca fp wd nu na ts df db sd ftext 0 200 (by first | assumption | omega) (by first | assumption | omega)) s.heap.size) (cwV 2 hts (gV tw_1159 tw_1161 tw_33 tw_87 tw_1162) rfl rfl rfl (by decide +kernel) ⟨Nat.le_of_ble_eq_true rfl, Nat.le_of_ble_eq_true rfl⟩) (pV hS hAlo hlo hP hK (va_Dlo hD hAlo) hZ [0, 1] (by decide) rfl (ci := 8) (q := (RX8, TX8, 44)) (q0 := 0) rfl rfl) rfl rfl hl.1 rfl (lv_room (Nat.le_of_ble_eq_true rfl)) dX8_takeSingle_72 ⟨Nat.le_of_ble_eq_true rfl, Nat.le_of_ble_eq_true rfl⟩) hS hA hP hD [0, 1] [2] rfl rfl (by decide) (by decide) (fun r_21 u H locs hw_21 hP hD hS => ?_)
    obtain ⟨t0__21, nu__21, na__21, fp__21⟩ := u
    replace hP : va_P D classes [(aI k (a 16) 9 freadSingle), ((a 0), .inr (8, (fX8 a (nI tx) fp__21 (nI t0__21) wd (nI we) nu__21 na__21 (nI rd) ts (nI ru) (nI rw) (nI ca) df db sd))), (aI k (a 5) 240 ftext)] H := hP
    replace hD : va_D A [(aI k (a 16) 9 freadSingle), ((a 0), .inr (8, (fX8 a (nI tx) fp__21 (nI t0__21) wd (nI we) nu__21 na__21 (nI rd) ts (nI ru) (nI rw) (nI ca) df db sd))), (aI k (a 5) 240 ftext)] := hD
    try dsimp only at hw_21
    obtain ⟨nq_22, rfl, hq_22, hw_21⟩ := hw_21
    rcases hq_22 with ⟨rfl, hq_22, hfp_22⟩ | ⟨rfl, pl_22, hq_22, rfl⟩ | ⟨rfl, pl_22, hq_22, rfl⟩
    · replace hfp_22 := hfp_22.symm
      subst hfp_22
      refine lv_istore_n (lv' := [(3, .int 0), (2, .int 200), (0, .ref (a 0)), (1, .int 4)]) hx hb dX8_takeSingle_75 rfl hl (by decide) rfl (fun ls hl => ?_)
      refine lv_aload_n hx hb dX8_takeSingle_76 rfl (lv_at hl 2 rfl) ?_
      refine va_get (D := D) (ci := 8) (v := .ref (a 16)) (C := RX8) (T := TX8) (N := 44) hx hb hts inX8 hown hK hP 1 rfl rfl 15 (by decide) (hts _ tw_988) (fun _ h9 => h9) rfl dX8_takeSingle_77 ?_
      refine lv_iload_n hx hb dX8_takeSingle_80 rfl (lv_at hl 3 rfl) ?_
      refine lv_aload_n hx hb dX8_takeSingle_81 rfl (lv_at hl 2 rfl) ?_
      refine va_get (D := D) (ci := 8) (v := .int nu__21) (C := RX8) (T := TX8) (N := 44) hx hb hts inX8 hown hK hP 1 rfl rfl 10 (by decide) (hts _ tw_983) (fun _ h9 => h9) rfl dX8_takeSingle_82 ?_
      refine va_iast hx hb hK hP hD hS 0 1 rfl rfl (by unfold vp_in; decide) dX8_takeSingle_85 (fun H locs hP hD hS => ?_)
      replace hP : va_P D classes [(aI k (a 16) 9 (upd freadSingle (Int32.toNatClampNeg 4) nu__21)), ((a 0), .inr (8, (fX8 a (nI tx) fp (nI t0__21) wd (nI we) nu__21 (nI nq_22) (nI rd) ts (nI ru) (nI rw) (nI ca) df db sd))), (aI k (a 5) 240 ftext)] H := hP
      replace hD : va_D A [(aI k (a 16) 9 (upd freadSingle (Int32.toNatClampNeg 4) nu__21)), ((a 0), .inr (8, (fX8 a (nI tx) fp (nI t0__21) wd (nI we) nu__21 (nI nq_22) (nI rd) ts (nI ru) (nI rw) (nI ca) df db sd))), (aI k (a 5) 240 ftext)] := hD
      replace hP : va_P D classes [(aI k (a 16) 9 (upd freadSingle 4 nu__21)), ((a 0), .inr (8, (fX8 a (nI tx) fp (nI t0__21) wd (nI we) nu__21 (nI nq_22) (nI rd) ts (nI ru) (nI rw) (nI ca) df db sd))), (aI k (a 5) 240 ftext)] H := hP
      replace hD : va_D A [(aI k (a 16) 9 (upd freadSingle 4 nu__21)), ((a 0), .inr (8, (fX8 a (nI tx) fp (nI t0__21) wd (nI we) nu__21 (nI nq_22) (nI rd) ts (nI ru) (nI rw) (nI ca) df db sd))), (aI k (a 5) 240 ftext)] := hD
      refine lv_iload_n hx hb dX8_takeSingle_86 rfl (lv_at hl 0 rfl) ?_
      refine lv_if_gt (tgt := 96) hx hb dX8_takeSingle_87 (by decide) (fun h => absurd h (by decide)) (fun _ => ?_)
      refine lv_iload_n hx hb dX8_takeSingle_90 rfl (lv_at hl 3 rfl) ?_
      refine lv_bipush (v := 6) hx hb dX8_takeSingle_91 (by decide) ?_
      refine lv_icmp_eq (tgt := 98) hx hb dX8_takeSingle_93 (by decide) (fun h => absurd h (by decide)) (fun _ => ?_)
      refine lv_iload_n hx hb dX8_takeSingle_96 rfl (lv_at hl 0 rfl) ?_
      have hg1_9 := (nuR_in hq_22).2
      have hP9 := hP.sub (ws' := [((a 0), .inr (8, (fX8 a (nI tx) fp (nI t0__21) wd (nI we) nu__21 (nI nq_22) (nI rd) ts (nI ru) (nI rw) (nI ca) df db sd))), (aI k (a 5) 240 ftext), (aI k (a 16) 9 (upd freadSingle 4 nu__21))]) [1, 2, 0] rfl
      have hD9 := hD.sub (ws' := [((a 0), .inr (8, (fX8 a (nI tx) fp (nI t0__21) wd (nI we) nu__21 (nI nq_22) (nI rd) ts (nI ru) (nI rw) (nI ca) df db sd))), (aI k (a 5) 240 ftext), (aI k (a 16) 9 (upd freadSingle 4 nu__21))]) [1, 2, 0] (by decide) rfl
      exact W.iret (v := 0) hx hb hr (fun t ht hW => ⟨⟨0, (t0__21, wd, we, fp, nu__21, (nI nq_22), (upd freadSingle 4 nu__21)), rfl, ⟨.inl ⟨rfl, nu__21, 0, (by simp [siF, hq_22, (show zLE 5 = 0 from rfl), (show zMO 5 = 200 from rfl), (show decide ((5 : Nat) = 1) = false from rfl), -List.getD_eq_getElem?_getD]), by rw [if_neg (by decide)], rfl⟩, by omega, by omega, fun _ => by omega, fun _ => (rsOK_upd hrs 4 _ (fun h5 => absurd h5 (by omega)) (fun h7 => absurd h7 (by omega)))⟩, by rw [ht]; exact hP9, hD9⟩, hS.F ht⟩) hS.2.2 dX8_takeSingle_97
    · refine lv_istore_n (lv' := [(3, .int 1), (2, .int 200), (0, .ref (a 0)), (1, .int 4)]) hx hb dX8_takeSingle_75 rfl hl (by decide) rfl (fun ls hl => ?_)
      refine lv_aload_n hx hb dX8_takeSingle_76 rfl (lv_at hl 2 rfl) ?_
      refine va_get (D := D) (ci := 8) (v := .ref (a 16)) (C := RX8) (T := TX8) (N := 44) hx hb hts inX8 hown hK hP 1 rfl rfl 15 (by decide) (hts _ tw_988) (fun _ h9 => h9) rfl dX8_takeSingle_77 ?_
      refine lv_iload_n hx hb dX8_takeSingle_80 rfl (lv_at hl 3 rfl) ?_
      refine lv_aload_n hx hb dX8_takeSingle_81 rfl (lv_at hl 2 rfl) ?_
      refine va_get (D := D) (ci := 8) (v := .int nu__21) (C := RX8) (T := TX8) (N := 44) hx hb hts inX8 hown hK hP 1 rfl rfl 10 (by decide) (hts _ tw_983) (fun _ h9 => h9) rfl dX8_takeSingle_82 ?_
      refine va_iast hx hb hK hP hD hS 0 1 rfl rfl (by unfold vp_in; decide) dX8_takeSingle_85 (fun H locs hP hD hS => ?_)
      replace hP : va_P D classes [(aI k (a 16) 9 (upd freadSingle (Int32.toNatClampNeg 4) nu__21)), ((a 0), .inr (8, (fX8 a (nI tx) (nI pl_22) (nI t0__21) wd (nI we) nu__21 (nI nq_22) (nI rd) ts (nI ru) (nI rw) (nI ca) df db sd))), (aI k (a 5) 240 ftext)] H := hP
      replace hD : va_D A [(aI k (a 16) 9 (upd freadSingle (Int32.toNatClampNeg 4) nu__21)), ((a 0), .inr (8, (fX8 a (nI tx) (nI pl_22) (nI t0__21) wd (nI we) nu__21 (nI nq_22) (nI rd) ts (nI ru) (nI rw) (nI ca) df db sd))), (aI k (a 5) 240 ftext)] := hD
      replace hP : va_P D classes [(aI k (a 16) 9 (upd freadSingle 4 nu__21)), ((a 0), .inr (8, (fX8 a (nI tx) (nI pl_22) (nI t0__21) wd (nI we) nu__21 (nI nq_22) (nI rd) ts (nI ru) (nI rw) (nI ca) df db sd))), (aI k (a 5) 240 ftext)] H := hP
      replace hD : va_D A [(aI k (a 16) 9 (upd freadSingle 4 nu__21)), ((a 0), .inr (8, (fX8 a (nI tx) (nI pl_22) (nI t0__21) wd (nI we) nu__21 (nI nq_22) (nI rd) ts (nI ru) (nI rw) (nI ca) df db sd))), (aI k (a 5) 240 ftext)] := hD
      refine lv_iload_n hx hb dX8_takeSingle_86 rfl (lv_at hl 0 rfl) ?_
      refine lv_if_gt (tgt := 96) hx hb dX8_takeSingle_87 (by decide) (fun _ => ?_) (fun h => absurd (by decide) h)
      refine lv_iload_n hx hb dX8_takeSingle_96 rfl (lv_at hl 0 rfl) ?_
      have hP9 := hP.sub (ws' := [((a 0), .inr (8, (fX8 a (nI tx) (nI pl_22) (nI t0__21) wd (nI we) nu__21 (nI nq_22) (nI rd) ts (nI ru) (nI rw) (nI ca) df db sd))), (aI k (a 5) 240 ftext), (aI k (a 16) 9 (upd freadSingle 4 nu__21))]) [1, 2, 0] rfl
      have hD9 := hD.sub (ws' := [((a 0), .inr (8, (fX8 a (nI tx) (nI pl_22) (nI t0__21) wd (nI we) nu__21 (nI nq_22) (nI rd) ts (nI ru) (nI rw) (nI ca) df db sd))), (aI k (a 5) 240 ftext), (aI k (a 16) 9 (upd freadSingle 4 nu__21))]) [1, 2, 0] (by decide) rfl
      exact W.iret (v := 1) hx hb hr (fun t ht hW => ⟨⟨1, (t0__21, wd, we, (nI pl_22), nu__21, (nI nq_22), (upd freadSingle 4 nu__21)), rfl, ⟨.inr ⟨1, pl_22, rfl, by decide, by decide, by simp [siF, hq_22, (show zLE 5 = 0 from rfl), (show zMO 5 = 200 from rfl), (show decide ((5 : Nat) = 1) = false from rfl), -List.getD_eq_getElem?_getD], by simp [siF, hq_22, (show zLE 5 = 0 from rfl), (show zMO 5 = 200 from rfl), (show decide ((5 : Nat) = 1) = false from rfl), -List.getD_eq_getElem?_getD], rfl⟩, by omega, by omega, fun h => absurd h (by decide), fun h => absurd h (by decide)⟩, by rw [ht]; exact hP9, hD9⟩, hS.F ht⟩) hS.2.2 dX8_takeSingle_97
    · refine lv_istore_n (lv' := [(3, .int 2), (2, .int 200), (0, .ref (a 0)), (1, .int 4)]) hx hb dX8_takeSingle_75 rfl hl (by decide) rfl (fun ls hl => ?_)
      refine lv_aload_n hx hb dX8_takeSingle_76 rfl (lv_at hl 2 rfl) ?_
      refine va_get (D := D) (ci := 8) (v := .ref (a 16)) (C := RX8) (T := TX8) (N := 44) hx hb hts inX8 hown hK hP 1 rfl rfl 15 (by decide) (hts _ tw_988) (fun _ h9 => h9) rfl dX8_takeSingle_77 ?_
      refine lv_iload_n hx hb dX8_takeSingle_80 rfl (lv_at hl 3 rfl) ?_
      refine lv_aload_n hx hb dX8_takeSingle_81 rfl (lv_at hl 2 rfl) ?_
      refine va_get (D := D) (ci := 8) (v := .int nu__21) (C := RX8) (T := TX8) (N := 44) hx hb hts inX8 hown hK hP 1 rfl rfl 10 (by decide) (hts _ tw_983) (fun _ h9 => h9) rfl dX8_takeSingle_82 ?_
      refine va_iast hx hb hK hP hD hS 0 1 rfl rfl (by unfold vp_in; decide) dX8_takeSingle_85 (fun H locs hP hD hS => ?_)
      replace hP : va_P D classes [(aI k (a 16) 9 (upd freadSingle (Int32.toNatClampNeg 4) nu__21)), ((a 0), .inr (8, (fX8 a (nI tx) (nI pl_22) (nI t0__21) wd (nI we) nu__21 (nI nq_22) (nI rd) ts (nI ru) (nI rw) (nI ca) df db sd))), (aI k (a 5) 240 ftext)] H := hP
      replace hD : va_D A [(aI k (a 16) 9 (upd freadSingle (Int32.toNatClampNeg 4) nu__21)), ((a 0), .inr (8, (fX8 a (nI tx) (nI pl_22) (nI t0__21) wd (nI we) nu__21 (nI nq_22) (nI rd) ts (nI ru) (nI rw) (nI ca) df db sd))), (aI k (a 5) 240 ftext)] := hD
      replace hP : va_P D classes [(aI k (a 16) 9 (upd freadSingle 4 nu__21)), ((a 0), .inr (8, (fX8 a (nI tx) (nI pl_22) (nI t0__21) wd (nI we) nu__21 (nI nq_22) (nI rd) ts (nI ru) (nI rw) (nI ca) df db sd))), (aI k (a 5) 240 ftext)] H := hP
      replace hD : va_D A [(aI k (a 16) 9 (upd freadSingle 4 nu__21)), ((a 0), .inr (8, (fX8 a (nI tx) (nI pl_22) (nI t0__21) wd (nI we) nu__21 (nI nq_22) (nI rd) ts (nI ru) (nI rw) (nI ca) df db sd))), (aI k (a 5) 240 ftext)] := hD
      refine lv_iload_n hx hb dX8_takeSingle_86 rfl (lv_at hl 0 rfl) ?_
      refine lv_if_gt (tgt := 96) hx hb dX8_takeSingle_87 (by decide) (fun _ => ?_) (fun h => absurd (by decide) h)
      refine lv_iload_n hx hb dX8_takeSingle_96 rfl (lv_at hl 0 rfl) ?_
      have hP9 := hP.sub (ws' := [((a 0), .inr (8, (fX8 a (nI tx) (nI pl_22) (nI t0__21) wd (nI we) nu__21 (nI nq_22) (nI rd) ts (nI ru) (nI rw) (nI ca) df db sd))), (aI k (a 5) 240 ftext), (aI k (a 16) 9 (upd freadSingle 4 nu__21))]) [1, 2, 0] rfl
      have hD9 := hD.sub (ws' := [((a 0), .inr (8, (fX8 a (nI tx) (nI pl_22) (nI t0__21) wd (nI we) nu__21 (nI nq_22) (nI rd) ts (nI ru) (nI rw) (nI ca) df db sd))), (aI k (a 5) 240 ftext), (aI k (a 16) 9 (upd freadSingle 4 nu__21))]) [1, 2, 0] (by decide) rfl
      exact W.iret (v := 2) hx hb hr (fun t ht hW => ⟨⟨2, (t0__21, wd, we, (nI pl_22), nu__21, (nI nq_22), (upd freadSingle 4 nu__21)), rfl, ⟨.inr ⟨2, pl_22, rfl, by decide, by decide, by simp [siF, hq_22, (show zLE 5 = 0 from rfl), (show zMO 5 = 200 from rfl), (show decide ((5 : Nat) = 1) = false from rfl), -List.getD_eq_getElem?_getD], by simp [siF, hq_22, (show zLE 5 = 0 from rfl), (show zMO 5 = 200 from rfl), (show decide ((5 : Nat) = 1) = false from rfl), -List.getD_eq_getElem?_getD], rfl⟩, by omega, by omega, fun h => absurd h (by decide), fun h => absurd h (by decide)⟩, by rw [ht]; exact hP9, hD9⟩, hS.F ht⟩) hS.2.2 dX8_takeSingle_97
  · refine lv_iload_n hx hb dX8_takeSingle_0 rfl (lv_at hl 1 rfl) ?_
    refine lv_if_ne (tgt := 23) hx hb dX8_takeSingle_1 (by decide) (fun _ => ?_) (fun h => absurd h (by decide))
    refine lv_iload_n hx hb dX8_takeSingle_23 rfl (lv_at hl 1 rfl) ?_
    refine lv_iconst (v := 4) hx hb dX8_takeSingle_24 (by decide) ?_
    refine lv_icmp_ne (tgt := 34) hx hb dX8_takeSingle_25 (by decide) (fun _ => ?_) (fun h => absurd h (by decide))
    refine lv_iload_n hx hb dX8_takeSingle_34 rfl (lv_at hl 1 rfl) ?_
    refine lv_iconst (v := 5) hx hb dX8_takeSingle_35 (by decide) ?_
    refine lv_icmp_ne (tgt := 43) hx hb dX8_takeSingle_36 (by decide) (fun h => absurd (by decide) h) (fun _ => ?_)
    refine lv_iconst (v := 2) hx hb dX8_takeSingle_39 (by decide) ?_
    refine lv_goto (tgt := 68) hx hb dX8_takeSingle_40 (by decide) ?_
    refine lv_istore_n (lv' := [(2, .int 2), (0, .ref (a 0)), (1, .int 5)]) hx hb dX8_takeSingle_68 rfl hl (by decide) rfl (fun ls hl => ?_)
    refine lv_aload_n hx hb dX8_takeSingle_69 rfl (lv_at hl 1 rfl) ?_
    refine lv_iconst (v := 0) hx hb dX8_takeSingle_70 (by decide) ?_
    refine lv_iload_n hx hb dX8_takeSingle_71 rfl (lv_at hl 0 rfl) ?_
    refine rw_i (D := D) (wr := [(aI k (a 16) 9 freadSingle)]) (va_runV (As := [.int 0, .int 2]) (rest := []) ⟨hx, hb, hml, hown, hts⟩ ((n_takeNumber l D k st lo a tx t0 we rd ru rw ca fp wd nu na ts df db sd ftext 0 2 (by first | assumption | omega) (by first | assumption | omega)) s.heap.size) (cwV 2 hts (gV tw_1159 tw_1161 tw_33 tw_87 tw_1162) rfl rfl rfl (by decide +kernel) ⟨Nat.le_of_ble_eq_true rfl, Nat.le_of_ble_eq_true rfl⟩) (pV hS hAlo hlo hP hK (va_Dlo hD hAlo) hZ [0, 1] (by decide) rfl (ci := 8) (q := (RX8, TX8, 44)) (q0 := 0) rfl rfl) rfl rfl hl.1 rfl (lv_room (Nat.le_of_ble_eq_true rfl)) dX8_takeSingle_72 ⟨Nat.le_of_ble_eq_true rfl, Nat.le_of_ble_eq_true rfl⟩) hS hA hP hD [0, 1] [2] rfl rfl (by decide) (by decide) (fun r_26 u H locs hw_26 hP hD hS => ?_)
    obtain ⟨t0__26, nu__26, na__26, fp__26⟩ := u
    replace hP : va_P D classes [(aI k (a 16) 9 freadSingle), ((a 0), .inr (8, (fX8 a (nI tx) fp__26 (nI t0__26) wd (nI we) nu__26 na__26 (nI rd) ts (nI ru) (nI rw) (nI ca) df db sd))), (aI k (a 5) 240 ftext)] H := hP
    replace hD : va_D A [(aI k (a 16) 9 freadSingle), ((a 0), .inr (8, (fX8 a (nI tx) fp__26 (nI t0__26) wd (nI we) nu__26 na__26 (nI rd) ts (nI ru) (nI rw) (nI ca) df db sd))), (aI k (a 5) 240 ftext)] := hD
    try dsimp only at hw_26
    obtain ⟨nq_27, rfl, hq_27, hw_26⟩ := hw_26
    rcases hq_27 with ⟨rfl, hq_27, hfp_27⟩ | ⟨rfl, pl_27, hq_27, rfl⟩ | ⟨rfl, pl_27, hq_27, rfl⟩
    · replace hfp_27 := hfp_27.symm
      subst hfp_27
      refine lv_istore_n (lv' := [(3, .int 0), (2, .int 2), (0, .ref (a 0)), (1, .int 5)]) hx hb dX8_takeSingle_75 rfl hl (by decide) rfl (fun ls hl => ?_)
      refine lv_aload_n hx hb dX8_takeSingle_76 rfl (lv_at hl 2 rfl) ?_
      refine va_get (D := D) (ci := 8) (v := .ref (a 16)) (C := RX8) (T := TX8) (N := 44) hx hb hts inX8 hown hK hP 1 rfl rfl 15 (by decide) (hts _ tw_988) (fun _ h9 => h9) rfl dX8_takeSingle_77 ?_
      refine lv_iload_n hx hb dX8_takeSingle_80 rfl (lv_at hl 3 rfl) ?_
      refine lv_aload_n hx hb dX8_takeSingle_81 rfl (lv_at hl 2 rfl) ?_
      refine va_get (D := D) (ci := 8) (v := .int nu__26) (C := RX8) (T := TX8) (N := 44) hx hb hts inX8 hown hK hP 1 rfl rfl 10 (by decide) (hts _ tw_983) (fun _ h9 => h9) rfl dX8_takeSingle_82 ?_
      refine va_iast hx hb hK hP hD hS 0 1 rfl rfl (by unfold vp_in; decide) dX8_takeSingle_85 (fun H locs hP hD hS => ?_)
      replace hP : va_P D classes [(aI k (a 16) 9 (upd freadSingle (Int32.toNatClampNeg 5) nu__26)), ((a 0), .inr (8, (fX8 a (nI tx) fp (nI t0__26) wd (nI we) nu__26 (nI nq_27) (nI rd) ts (nI ru) (nI rw) (nI ca) df db sd))), (aI k (a 5) 240 ftext)] H := hP
      replace hD : va_D A [(aI k (a 16) 9 (upd freadSingle (Int32.toNatClampNeg 5) nu__26)), ((a 0), .inr (8, (fX8 a (nI tx) fp (nI t0__26) wd (nI we) nu__26 (nI nq_27) (nI rd) ts (nI ru) (nI rw) (nI ca) df db sd))), (aI k (a 5) 240 ftext)] := hD
      replace hP : va_P D classes [(aI k (a 16) 9 (upd freadSingle 5 nu__26)), ((a 0), .inr (8, (fX8 a (nI tx) fp (nI t0__26) wd (nI we) nu__26 (nI nq_27) (nI rd) ts (nI ru) (nI rw) (nI ca) df db sd))), (aI k (a 5) 240 ftext)] H := hP
      replace hD : va_D A [(aI k (a 16) 9 (upd freadSingle 5 nu__26)), ((a 0), .inr (8, (fX8 a (nI tx) fp (nI t0__26) wd (nI we) nu__26 (nI nq_27) (nI rd) ts (nI ru) (nI rw) (nI ca) df db sd))), (aI k (a 5) 240 ftext)] := hD
      refine lv_iload_n hx hb dX8_takeSingle_86 rfl (lv_at hl 0 rfl) ?_
      refine lv_if_gt (tgt := 96) hx hb dX8_takeSingle_87 (by decide) (fun h => absurd h (by decide)) (fun _ => ?_)
      refine lv_iload_n hx hb dX8_takeSingle_90 rfl (lv_at hl 3 rfl) ?_
      refine lv_bipush (v := 6) hx hb dX8_takeSingle_91 (by decide) ?_
      refine lv_icmp_eq (tgt := 98) hx hb dX8_takeSingle_93 (by decide) (fun h => absurd h (by decide)) (fun _ => ?_)
      refine lv_iload_n hx hb dX8_takeSingle_96 rfl (lv_at hl 0 rfl) ?_
      have hg1_9 := (nuR_in hq_27).2
      have hP9 := hP.sub (ws' := [((a 0), .inr (8, (fX8 a (nI tx) fp (nI t0__26) wd (nI we) nu__26 (nI nq_27) (nI rd) ts (nI ru) (nI rw) (nI ca) df db sd))), (aI k (a 5) 240 ftext), (aI k (a 16) 9 (upd freadSingle 5 nu__26))]) [1, 2, 0] rfl
      have hD9 := hD.sub (ws' := [((a 0), .inr (8, (fX8 a (nI tx) fp (nI t0__26) wd (nI we) nu__26 (nI nq_27) (nI rd) ts (nI ru) (nI rw) (nI ca) df db sd))), (aI k (a 5) 240 ftext), (aI k (a 16) 9 (upd freadSingle 5 nu__26))]) [1, 2, 0] (by decide) rfl
      exact W.iret (v := 0) hx hb hr (fun t ht hW => ⟨⟨0, (t0__26, wd, we, fp, nu__26, (nI nq_27), (upd freadSingle 5 nu__26)), rfl, ⟨.inl ⟨rfl, nu__26, 0, (by simp [siF, hq_27, (show zLE 6 = 0 from rfl), (show zMO 6 = 2 from rfl), (show decide ((6 : Nat) = 1) = false from rfl), -List.getD_eq_getElem?_getD]), by rw [if_neg (by decide)], rfl⟩, by omega, by omega, fun _ => by omega, fun _ => (rsOK_upd hrs 5 _ (fun _ => rs_in (n := 2) (by omega) (nuR_in hq_27).1) (fun h7 => absurd h7 (by omega)))⟩, by rw [ht]; exact hP9, hD9⟩, hS.F ht⟩) hS.2.2 dX8_takeSingle_97
    · refine lv_istore_n (lv' := [(3, .int 1), (2, .int 2), (0, .ref (a 0)), (1, .int 5)]) hx hb dX8_takeSingle_75 rfl hl (by decide) rfl (fun ls hl => ?_)
      refine lv_aload_n hx hb dX8_takeSingle_76 rfl (lv_at hl 2 rfl) ?_
      refine va_get (D := D) (ci := 8) (v := .ref (a 16)) (C := RX8) (T := TX8) (N := 44) hx hb hts inX8 hown hK hP 1 rfl rfl 15 (by decide) (hts _ tw_988) (fun _ h9 => h9) rfl dX8_takeSingle_77 ?_
      refine lv_iload_n hx hb dX8_takeSingle_80 rfl (lv_at hl 3 rfl) ?_
      refine lv_aload_n hx hb dX8_takeSingle_81 rfl (lv_at hl 2 rfl) ?_
      refine va_get (D := D) (ci := 8) (v := .int nu__26) (C := RX8) (T := TX8) (N := 44) hx hb hts inX8 hown hK hP 1 rfl rfl 10 (by decide) (hts _ tw_983) (fun _ h9 => h9) rfl dX8_takeSingle_82 ?_
      refine va_iast hx hb hK hP hD hS 0 1 rfl rfl (by unfold vp_in; decide) dX8_takeSingle_85 (fun H locs hP hD hS => ?_)
      replace hP : va_P D classes [(aI k (a 16) 9 (upd freadSingle (Int32.toNatClampNeg 5) nu__26)), ((a 0), .inr (8, (fX8 a (nI tx) (nI pl_27) (nI t0__26) wd (nI we) nu__26 (nI nq_27) (nI rd) ts (nI ru) (nI rw) (nI ca) df db sd))), (aI k (a 5) 240 ftext)] H := hP
      replace hD : va_D A [(aI k (a 16) 9 (upd freadSingle (Int32.toNatClampNeg 5) nu__26)), ((a 0), .inr (8, (fX8 a (nI tx) (nI pl_27) (nI t0__26) wd (nI we) nu__26 (nI nq_27) (nI rd) ts (nI ru) (nI rw) (nI ca) df db sd))), (aI k (a 5) 240 ftext)] := hD
      replace hP : va_P D classes [(aI k (a 16) 9 (upd freadSingle 5 nu__26)), ((a 0), .inr (8, (fX8 a (nI tx) (nI pl_27) (nI t0__26) wd (nI we) nu__26 (nI nq_27) (nI rd) ts (nI ru) (nI rw) (nI ca) df db sd))), (aI k (a 5) 240 ftext)] H := hP
      replace hD : va_D A [(aI k (a 16) 9 (upd freadSingle 5 nu__26)), ((a 0), .inr (8, (fX8 a (nI tx) (nI pl_27) (nI t0__26) wd (nI we) nu__26 (nI nq_27) (nI rd) ts (nI ru) (nI rw) (nI ca) df db sd))), (aI k (a 5) 240 ftext)] := hD
      refine lv_iload_n hx hb dX8_takeSingle_86 rfl (lv_at hl 0 rfl) ?_
      refine lv_if_gt (tgt := 96) hx hb dX8_takeSingle_87 (by decide) (fun _ => ?_) (fun h => absurd (by decide) h)
      refine lv_iload_n hx hb dX8_takeSingle_96 rfl (lv_at hl 0 rfl) ?_
      have hP9 := hP.sub (ws' := [((a 0), .inr (8, (fX8 a (nI tx) (nI pl_27) (nI t0__26) wd (nI we) nu__26 (nI nq_27) (nI rd) ts (nI ru) (nI rw) (nI ca) df db sd))), (aI k (a 5) 240 ftext), (aI k (a 16) 9 (upd freadSingle 5 nu__26))]) [1, 2, 0] rfl
      have hD9 := hD.sub (ws' := [((a 0), .inr (8, (fX8 a (nI tx) (nI pl_27) (nI t0__26) wd (nI we) nu__26 (nI nq_27) (nI rd) ts (nI ru) (nI rw) (nI ca) df db sd))), (aI k (a 5) 240 ftext), (aI k (a 16) 9 (upd freadSingle 5 nu__26))]) [1, 2, 0] (by decide) rfl
      exact W.iret (v := 1) hx hb hr (fun t ht hW => ⟨⟨1, (t0__26, wd, we, (nI pl_27), nu__26, (nI nq_27), (upd freadSingle 5 nu__26)), rfl, ⟨.inr ⟨1, pl_27, rfl, by decide, by decide, by simp [siF, hq_27, (show zLE 6 = 0 from rfl), (show zMO 6 = 2 from rfl), (show decide ((6 : Nat) = 1) = false from rfl), -List.getD_eq_getElem?_getD], by simp [siF, hq_27, (show zLE 6 = 0 from rfl), (show zMO 6 = 2 from rfl), (show decide ((6 : Nat) = 1) = false from rfl), -List.getD_eq_getElem?_getD], rfl⟩, by omega, by omega, fun h => absurd h (by decide), fun h => absurd h (by decide)⟩, by rw [ht]; exact hP9, hD9⟩, hS.F ht⟩) hS.2.2 dX8_takeSingle_97
    · refine lv_istore_n (lv' := [(3, .int 2), (2, .int 2), (0, .ref (a 0)), (1, .int 5)]) hx hb dX8_takeSingle_75 rfl hl (by decide) rfl (fun ls hl => ?_)
      refine lv_aload_n hx hb dX8_takeSingle_76 rfl (lv_at hl 2 rfl) ?_
      refine va_get (D := D) (ci := 8) (v := .ref (a 16)) (C := RX8) (T := TX8) (N := 44) hx hb hts inX8 hown hK hP 1 rfl rfl 15 (by decide) (hts _ tw_988) (fun _ h9 => h9) rfl dX8_takeSingle_77 ?_
      refine lv_iload_n hx hb dX8_takeSingle_80 rfl (lv_at hl 3 rfl) ?_
      refine lv_aload_n hx hb dX8_takeSingle_81 rfl (lv_at hl 2 rfl) ?_
      refine va_get (D := D) (ci := 8) (v := .int nu__26) (C := RX8) (T := TX8) (N := 44) hx hb hts inX8 hown hK hP 1 rfl rfl 10 (by decide) (hts _ tw_983) (fun _ h9 => h9) rfl dX8_takeSingle_82 ?_
      refine va_iast hx hb hK hP hD hS 0 1 rfl rfl (by unfold vp_in; decide) dX8_takeSingle_85 (fun H locs hP hD hS => ?_)
      replace hP : va_P D classes [(aI k (a 16) 9 (upd freadSingle (Int32.toNatClampNeg 5) nu__26)), ((a 0), .inr (8, (fX8 a (nI tx) (nI pl_27) (nI t0__26) wd (nI we) nu__26 (nI nq_27) (nI rd) ts (nI ru) (nI rw) (nI ca) df db sd))), (aI k (a 5) 240 ftext)] H := hP
      replace hD : va_D A [(aI k (a 16) 9 (upd freadSingle (Int32.toNatClampNeg 5) nu__26)), ((a 0), .inr (8, (fX8 a (nI tx) (nI pl_27) (nI t0__26) wd (nI we) nu__26 (nI nq_27) (nI rd) ts (nI ru) (nI rw) (nI ca) df db sd))), (aI k (a 5) 240 ftext)] := hD
      replace hP : va_P D classes [(aI k (a 16) 9 (upd freadSingle 5 nu__26)), ((a 0), .inr (8, (fX8 a (nI tx) (nI pl_27) (nI t0__26) wd (nI we) nu__26 (nI nq_27) (nI rd) ts (nI ru) (nI rw) (nI ca) df db sd))), (aI k (a 5) 240 ftext)] H := hP
      replace hD : va_D A [(aI k (a 16) 9 (upd freadSingle 5 nu__26)), ((a 0), .inr (8, (fX8 a (nI tx) (nI pl_27) (nI t0__26) wd (nI we) nu__26 (nI nq_27) (nI rd) ts (nI ru) (nI rw) (nI ca) df db sd))), (aI k (a 5) 240 ftext)] := hD
      refine lv_iload_n hx hb dX8_takeSingle_86 rfl (lv_at hl 0 rfl) ?_
      refine lv_if_gt (tgt := 96) hx hb dX8_takeSingle_87 (by decide) (fun _ => ?_) (fun h => absurd (by decide) h)
      refine lv_iload_n hx hb dX8_takeSingle_96 rfl (lv_at hl 0 rfl) ?_
      have hP9 := hP.sub (ws' := [((a 0), .inr (8, (fX8 a (nI tx) (nI pl_27) (nI t0__26) wd (nI we) nu__26 (nI nq_27) (nI rd) ts (nI ru) (nI rw) (nI ca) df db sd))), (aI k (a 5) 240 ftext), (aI k (a 16) 9 (upd freadSingle 5 nu__26))]) [1, 2, 0] rfl
      have hD9 := hD.sub (ws' := [((a 0), .inr (8, (fX8 a (nI tx) (nI pl_27) (nI t0__26) wd (nI we) nu__26 (nI nq_27) (nI rd) ts (nI ru) (nI rw) (nI ca) df db sd))), (aI k (a 5) 240 ftext), (aI k (a 16) 9 (upd freadSingle 5 nu__26))]) [1, 2, 0] (by decide) rfl
      exact W.iret (v := 2) hx hb hr (fun t ht hW => ⟨⟨2, (t0__26, wd, we, (nI pl_27), nu__26, (nI nq_27), (upd freadSingle 5 nu__26)), rfl, ⟨.inr ⟨2, pl_27, rfl, by decide, by decide, by simp [siF, hq_27, (show zLE 6 = 0 from rfl), (show zMO 6 = 2 from rfl), (show decide ((6 : Nat) = 1) = false from rfl), -List.getD_eq_getElem?_getD], by simp [siF, hq_27, (show zLE 6 = 0 from rfl), (show zMO 6 = 2 from rfl), (show decide ((6 : Nat) = 1) = false from rfl), -List.getD_eq_getElem?_getD], rfl⟩, by omega, by omega, fun h => absurd h (by decide), fun h => absurd h (by decide)⟩, by rw [ht]; exact hP9, hD9⟩, hS.F ht⟩) hS.2.2 dX8_takeSingle_97
  · refine lv_iload_n hx hb dX8_takeSingle_0 rfl (lv_at hl 1 rfl) ?_
    refine lv_if_ne (tgt := 23) hx hb dX8_takeSingle_1 (by decide) (fun _ => ?_) (fun h => absurd h (by decide))
    refine lv_iload_n hx hb dX8_takeSingle_23 rfl (lv_at hl 1 rfl) ?_
    refine lv_iconst (v := 4) hx hb dX8_takeSingle_24 (by decide) ?_
    refine lv_icmp_ne (tgt := 34) hx hb dX8_takeSingle_25 (by decide) (fun _ => ?_) (fun h => absurd h (by decide))
    refine lv_iload_n hx hb dX8_takeSingle_34 rfl (lv_at hl 1 rfl) ?_
    refine lv_iconst (v := 5) hx hb dX8_takeSingle_35 (by decide) ?_
    refine lv_icmp_ne (tgt := 43) hx hb dX8_takeSingle_36 (by decide) (fun _ => ?_) (fun h => absurd h (by decide))
    refine lv_iload_n hx hb dX8_takeSingle_43 rfl (lv_at hl 1 rfl) ?_
    refine lv_bipush (v := 6) hx hb dX8_takeSingle_44 (by decide) ?_
    refine lv_icmp_ne (tgt := 54) hx hb dX8_takeSingle_46 (by decide) (fun h => absurd (by decide) h) (fun _ => ?_)
    refine lv_bipush (v := 60) hx hb dX8_takeSingle_49 (by decide) ?_
    refine lv_goto (tgt := 68) hx hb dX8_takeSingle_51 (by decide) ?_
    refine lv_istore_n (lv' := [(2, .int 60), (0, .ref (a 0)), (1, .int 6)]) hx hb dX8_takeSingle_68 rfl hl (by decide) rfl (fun ls hl => ?_)
    refine lv_aload_n hx hb dX8_takeSingle_69 rfl (lv_at hl 1 rfl) ?_
    refine lv_iconst (v := 0) hx hb dX8_takeSingle_70 (by decide) ?_
    refine lv_iload_n hx hb dX8_takeSingle_71 rfl (lv_at hl 0 rfl) ?_
    refine rw_i (D := D) (wr := [(aI k (a 16) 9 freadSingle)]) (va_runV (As := [.int 0, .int 60]) (rest := []) ⟨hx, hb, hml, hown, hts⟩ ((n_takeNumber l D k st lo a tx t0 we rd ru rw ca fp wd nu na ts df db sd ftext 0 60 (by first | assumption | omega) (by first | assumption | omega)) s.heap.size) (cwV 2 hts (gV tw_1159 tw_1161 tw_33 tw_87 tw_1162) rfl rfl rfl (by decide +kernel) ⟨Nat.le_of_ble_eq_true rfl, Nat.le_of_ble_eq_true rfl⟩) (pV hS hAlo hlo hP hK (va_Dlo hD hAlo) hZ [0, 1] (by decide) rfl (ci := 8) (q := (RX8, TX8, 44)) (q0 := 0) rfl rfl) rfl rfl hl.1 rfl (lv_room (Nat.le_of_ble_eq_true rfl)) dX8_takeSingle_72 ⟨Nat.le_of_ble_eq_true rfl, Nat.le_of_ble_eq_true rfl⟩) hS hA hP hD [0, 1] [2] rfl rfl (by decide) (by decide) (fun r_31 u H locs hw_31 hP hD hS => ?_)
    obtain ⟨t0__31, nu__31, na__31, fp__31⟩ := u
    replace hP : va_P D classes [(aI k (a 16) 9 freadSingle), ((a 0), .inr (8, (fX8 a (nI tx) fp__31 (nI t0__31) wd (nI we) nu__31 na__31 (nI rd) ts (nI ru) (nI rw) (nI ca) df db sd))), (aI k (a 5) 240 ftext)] H := hP
    replace hD : va_D A [(aI k (a 16) 9 freadSingle), ((a 0), .inr (8, (fX8 a (nI tx) fp__31 (nI t0__31) wd (nI we) nu__31 na__31 (nI rd) ts (nI ru) (nI rw) (nI ca) df db sd))), (aI k (a 5) 240 ftext)] := hD
    try dsimp only at hw_31
    obtain ⟨nq_32, rfl, hq_32, hw_31⟩ := hw_31
    rcases hq_32 with ⟨rfl, hq_32, hfp_32⟩ | ⟨rfl, pl_32, hq_32, rfl⟩ | ⟨rfl, pl_32, hq_32, rfl⟩
    · replace hfp_32 := hfp_32.symm
      subst hfp_32
      refine lv_istore_n (lv' := [(3, .int 0), (2, .int 60), (0, .ref (a 0)), (1, .int 6)]) hx hb dX8_takeSingle_75 rfl hl (by decide) rfl (fun ls hl => ?_)
      refine lv_aload_n hx hb dX8_takeSingle_76 rfl (lv_at hl 2 rfl) ?_
      refine va_get (D := D) (ci := 8) (v := .ref (a 16)) (C := RX8) (T := TX8) (N := 44) hx hb hts inX8 hown hK hP 1 rfl rfl 15 (by decide) (hts _ tw_988) (fun _ h9 => h9) rfl dX8_takeSingle_77 ?_
      refine lv_iload_n hx hb dX8_takeSingle_80 rfl (lv_at hl 3 rfl) ?_
      refine lv_aload_n hx hb dX8_takeSingle_81 rfl (lv_at hl 2 rfl) ?_
      refine va_get (D := D) (ci := 8) (v := .int nu__31) (C := RX8) (T := TX8) (N := 44) hx hb hts inX8 hown hK hP 1 rfl rfl 10 (by decide) (hts _ tw_983) (fun _ h9 => h9) rfl dX8_takeSingle_82 ?_
      refine va_iast hx hb hK hP hD hS 0 1 rfl rfl (by unfold vp_in; decide) dX8_takeSingle_85 (fun H locs hP hD hS => ?_)
      replace hP : va_P D classes [(aI k (a 16) 9 (upd freadSingle (Int32.toNatClampNeg 6) nu__31)), ((a 0), .inr (8, (fX8 a (nI tx) fp (nI t0__31) wd (nI we) nu__31 (nI nq_32) (nI rd) ts (nI ru) (nI rw) (nI ca) df db sd))), (aI k (a 5) 240 ftext)] H := hP
      replace hD : va_D A [(aI k (a 16) 9 (upd freadSingle (Int32.toNatClampNeg 6) nu__31)), ((a 0), .inr (8, (fX8 a (nI tx) fp (nI t0__31) wd (nI we) nu__31 (nI nq_32) (nI rd) ts (nI ru) (nI rw) (nI ca) df db sd))), (aI k (a 5) 240 ftext)] := hD
      replace hP : va_P D classes [(aI k (a 16) 9 (upd freadSingle 6 nu__31)), ((a 0), .inr (8, (fX8 a (nI tx) fp (nI t0__31) wd (nI we) nu__31 (nI nq_32) (nI rd) ts (nI ru) (nI rw) (nI ca) df db sd))), (aI k (a 5) 240 ftext)] H := hP
      replace hD : va_D A [(aI k (a 16) 9 (upd freadSingle 6 nu__31)), ((a 0), .inr (8, (fX8 a (nI tx) fp (nI t0__31) wd (nI we) nu__31 (nI nq_32) (nI rd) ts (nI ru) (nI rw) (nI ca) df db sd))), (aI k (a 5) 240 ftext)] := hD
      refine lv_iload_n hx hb dX8_takeSingle_86 rfl (lv_at hl 0 rfl) ?_
      refine lv_if_gt (tgt := 96) hx hb dX8_takeSingle_87 (by decide) (fun h => absurd h (by decide)) (fun _ => ?_)
      refine lv_iload_n hx hb dX8_takeSingle_90 rfl (lv_at hl 3 rfl) ?_
      refine lv_bipush (v := 6) hx hb dX8_takeSingle_91 (by decide) ?_
      refine lv_icmp_eq (tgt := 98) hx hb dX8_takeSingle_93 (by decide) (fun _ => ?_) (fun h => absurd (by decide) h)
      refine lv_aload_n hx hb dX8_takeSingle_98 rfl (lv_at hl 2 rfl) ?_
      refine lv_bipush (v := 116) hx hb dX8_takeSingle_99 (by decide) ?_
      refine lv_bipush (v := 105) hx hb dX8_takeSingle_101 (by decide) ?_
      refine lv_bipush (v := 109) hx hb dX8_takeSingle_103 (by decide) ?_
      refine ro_l (D := D) (va_runS (As := [.int 116, .int 105, .int 109]) (rest := [.ref (a 0)]) ⟨hx, hb, hml, hown, hts⟩ ((n_code l D k st lo 116 105 109) H.size) (va_cwS 3 hts (gS tw_1142 tw_1143 tw_87 tw_1144) rfl rfl rfl (by decide +kernel) ⟨Nat.le_of_ble_eq_true rfl, Nat.le_of_ble_eq_true rfl⟩) (pS hS hAlo hlo hP hK (va_Dlo hD hAlo) hZ [] (by decide) rfl) rfl rfl hl.1 rfl (lv_room (Nat.le_of_ble_eq_true rfl)) dX8_takeSingle_105 ⟨Nat.le_of_ble_eq_true rfl, Nat.le_of_ble_eq_true rfl⟩) hS hA hP (fun r_34 H locs hw_34 hP hS => ?_)
      try dsimp only at hw_34
      obtain rfl : r_34 = 14836 := hw_34.trans (by decide)
      refine lv_bipush (v := 101) hx hb dX8_takeSingle_108 (by decide) ?_
      refine lv_bipush (v := 115) hx hb dX8_takeSingle_110 (by decide) ?_
      refine ro_l (D := D) (va_runS (As := [.long 14836, .int 101, .int 115]) (rest := [.ref (a 0)]) ⟨hx, hb, hml, hown, hts⟩ ((n_longest l D k st lo 14836 101 115) H.size) (va_cwS 3 hts (gS tw_1145 tw_1146 tw_87 tw_1147) rfl rfl rfl (by decide +kernel) ⟨Nat.le_of_ble_eq_true rfl, Nat.le_of_ble_eq_true rfl⟩) (pS hS hAlo hlo hP hK (va_Dlo hD hAlo) hZ [] (by decide) rfl) rfl rfl hl.1 rfl (lv_room (Nat.le_of_ble_eq_true rfl)) dX8_takeSingle_112 ⟨Nat.le_of_ble_eq_true rfl, Nat.le_of_ble_eq_true rfl⟩) hS hA hP (fun r_35 H locs hw_35 hP hS => ?_)
      try dsimp only at hw_35
      obtain rfl : r_35 = 10815598 := hw_35.trans (by decide)
      refine rw_i (D := D) (wr := [(aI k (a 16) 9 (upd freadSingle 6 nu__31))]) (va_runV (As := [.long 10815598]) (rest := []) ⟨hx, hb, hml, hown, hts⟩ ((n_needs l D k st lo a tx t0__31 we rd ru rw ca fp wd nu__31 (nI nq_32) ts df db sd ftext 10815598 8 (by first | assumption | omega) (by first | assumption | omega) (by decide) (by decide +kernel)) H.size) (cwV 1 hts (gV tw_1169 tw_1171 tw_35 tw_87 tw_1172) rfl rfl rfl (by decide +kernel) ⟨Nat.le_of_ble_eq_true rfl, Nat.le_of_ble_eq_true rfl⟩) (pV hS hAlo hlo hP hK (va_Dlo hD hAlo) hZ [1, 2] (by decide) rfl (ci := 8) (q := (RX8, TX8, 44)) (q0 := 0) rfl rfl) rfl rfl hl.1 rfl (lv_room (Nat.le_of_ble_eq_true rfl)) dX8_takeSingle_115 ⟨Nat.le_of_ble_eq_true rfl, Nat.le_of_ble_eq_true rfl⟩) hS hA hP hD [1, 2] [0] rfl rfl (by decide) (by decide) (fun r_36 u H locs hw_36 hP hD hS => ?_)
      obtain ⟨t0__36, wd__36, we__36, fp__36⟩ := u
      replace hP : va_P D classes [(aI k (a 16) 9 (upd freadSingle 6 nu__31)), ((a 0), .inr (8, (fX8 a (nI tx) fp__36 (nI t0__36) wd__36 (nI we__36) nu__31 (nI nq_32) (nI rd) ts (nI ru) (nI rw) (nI ca) df db sd))), (aI k (a 5) 240 ftext)] H := hP
      replace hD : va_D A [(aI k (a 16) 9 (upd freadSingle 6 nu__31)), ((a 0), .inr (8, (fX8 a (nI tx) fp__36 (nI t0__36) wd__36 (nI we__36) nu__31 (nI nq_32) (nI rd) ts (nI ru) (nI rw) (nI ca) df db sd))), (aI k (a 5) 240 ftext)] := hD
      try dsimp only at hw_36
      rcases hw_36 with ⟨⟨rfl, hq_37, hfp_37⟩ | ⟨rfl, pl_37, hq_37, rfl⟩, hw_36⟩
      · replace hfp_37 := hfp_37.symm
        subst hfp_37
        refine lv_istore_n (lv' := [(3, .int 0), (2, .int 60), (0, .ref (a 0)), (1, .int 6)]) hx hb dX8_takeSingle_118 rfl hl (by decide) rfl (fun ls hl => ?_)
        refine lv_iload_n hx hb dX8_takeSingle_119 rfl (lv_at hl 0 rfl) ?_
        refine lv_if_le (tgt := 127) hx hb dX8_takeSingle_120 (by decide) (fun _ => ?_) (fun h => absurd (by decide) h)
        refine lv_aload_n hx hb dX8_takeSingle_127 rfl (lv_at hl 2 rfl) ?_
        refine lv_iconst (v := 0) hx hb dX8_takeSingle_128 (by decide) ?_
        refine lv_iconst (v := 3) hx hb dX8_takeSingle_129 (by decide) ?_
        refine rw_i (D := D) (wr := [(aI k (a 16) 9 (upd freadSingle 6 nu__31))]) (va_runV (As := [.int 0, .int 3]) (rest := []) ⟨hx, hb, hml, hown, hts⟩ ((n_takeNumber l D k st lo a tx t0__36 we__36 rd ru rw ca fp wd__36 nu__31 (nI nq_32) ts df db sd ftext 0 3 (by first | assumption | omega) (by first | assumption | omega)) H.size) (cwV 2 hts (gV tw_1159 tw_1161 tw_33 tw_87 tw_1162) rfl rfl rfl (by decide +kernel) ⟨Nat.le_of_ble_eq_true rfl, Nat.le_of_ble_eq_true rfl⟩) (pV hS hAlo hlo hP hK (va_Dlo hD hAlo) hZ [1, 2] (by decide) rfl (ci := 8) (q := (RX8, TX8, 44)) (q0 := 0) rfl rfl) rfl rfl hl.1 rfl (lv_room (Nat.le_of_ble_eq_true rfl)) dX8_takeSingle_130 ⟨Nat.le_of_ble_eq_true rfl, Nat.le_of_ble_eq_true rfl⟩) hS hA hP hD [1, 2] [0] rfl rfl (by decide) (by decide) (fun r_38 u H locs hw_38 hP hD hS => ?_)
        obtain ⟨t0__38, nu__38, na__38, fp__38⟩ := u
        replace hP : va_P D classes [(aI k (a 16) 9 (upd freadSingle 6 nu__31)), ((a 0), .inr (8, (fX8 a (nI tx) fp__38 (nI t0__38) wd__36 (nI we__36) nu__38 na__38 (nI rd) ts (nI ru) (nI rw) (nI ca) df db sd))), (aI k (a 5) 240 ftext)] H := hP
        replace hD : va_D A [(aI k (a 16) 9 (upd freadSingle 6 nu__31)), ((a 0), .inr (8, (fX8 a (nI tx) fp__38 (nI t0__38) wd__36 (nI we__36) nu__38 na__38 (nI rd) ts (nI ru) (nI rw) (nI ca) df db sd))), (aI k (a 5) 240 ftext)] := hD
        try dsimp only at hw_38
        obtain ⟨nq_39, rfl, hq_39, hw_38⟩ := hw_38
        rcases hq_39 with ⟨rfl, hq_39, hfp_39⟩ | ⟨rfl, pl_39, hq_39, rfl⟩ | ⟨rfl, pl_39, hq_39, rfl⟩
        · replace hfp_39 := hfp_39.symm
          subst hfp_39
          refine lv_istore_n (lv' := [(3, .int 0), (2, .int 60), (0, .ref (a 0)), (1, .int 6)]) hx hb dX8_takeSingle_133 rfl hl (by decide) rfl (fun ls hl => ?_)
          refine lv_aload_n hx hb dX8_takeSingle_134 rfl (lv_at hl 2 rfl) ?_
          refine va_get (D := D) (ci := 8) (v := .ref (a 16)) (C := RX8) (T := TX8) (N := 44) hx hb hts inX8 hown hK hP 1 rfl rfl 15 (by decide) (hts _ tw_988) (fun _ h9 => h9) rfl dX8_takeSingle_135 ?_
          refine lv_bipush (v := 7) hx hb dX8_takeSingle_138 (by decide) ?_
          refine lv_aload_n hx hb dX8_takeSingle_140 rfl (lv_at hl 2 rfl) ?_
          refine va_get (D := D) (ci := 8) (v := .int nu__38) (C := RX8) (T := TX8) (N := 44) hx hb hts inX8 hown hK hP 1 rfl rfl 10 (by decide) (hts _ tw_983) (fun _ h9 => h9) rfl dX8_takeSingle_141 ?_
          refine va_iast hx hb hK hP hD hS 0 1 rfl rfl (by unfold vp_in; decide) dX8_takeSingle_144 (fun H locs hP hD hS => ?_)
          replace hP : va_P D classes [(aI k (a 16) 9 (upd (upd freadSingle 6 nu__31) (Int32.toNatClampNeg 7) nu__38)), ((a 0), .inr (8, (fX8 a (nI tx) fp (nI t0__38) wd__36 (nI we__36) nu__38 (nI nq_39) (nI rd) ts (nI ru) (nI rw) (nI ca) df db sd))), (aI k (a 5) 240 ftext)] H := hP
          replace hD : va_D A [(aI k (a 16) 9 (upd (upd freadSingle 6 nu__31) (Int32.toNatClampNeg 7) nu__38)), ((a 0), .inr (8, (fX8 a (nI tx) fp (nI t0__38) wd__36 (nI we__36) nu__38 (nI nq_39) (nI rd) ts (nI ru) (nI rw) (nI ca) df db sd))), (aI k (a 5) 240 ftext)] := hD
          replace hP : va_P D classes [(aI k (a 16) 9 (upd (upd freadSingle 6 nu__31) 7 nu__38)), ((a 0), .inr (8, (fX8 a (nI tx) fp (nI t0__38) wd__36 (nI we__36) nu__38 (nI nq_39) (nI rd) ts (nI ru) (nI rw) (nI ca) df db sd))), (aI k (a 5) 240 ftext)] H := hP
          replace hD : va_D A [(aI k (a 16) 9 (upd (upd freadSingle 6 nu__31) 7 nu__38)), ((a 0), .inr (8, (fX8 a (nI tx) fp (nI t0__38) wd__36 (nI we__36) nu__38 (nI nq_39) (nI rd) ts (nI ru) (nI rw) (nI ca) df db sd))), (aI k (a 5) 240 ftext)] := hD
          refine lv_iload_n hx hb dX8_takeSingle_145 rfl (lv_at hl 0 rfl) ?_
          have hg1_9 := (nuR_in hq_32).2
          have hP9 := hP.sub (ws' := [((a 0), .inr (8, (fX8 a (nI tx) fp (nI t0__38) wd__36 (nI we__36) nu__38 (nI nq_39) (nI rd) ts (nI ru) (nI rw) (nI ca) df db sd))), (aI k (a 5) 240 ftext), (aI k (a 16) 9 (upd (upd freadSingle 6 nu__31) 7 nu__38))]) [1, 2, 0] rfl
          have hD9 := hD.sub (ws' := [((a 0), .inr (8, (fX8 a (nI tx) fp (nI t0__38) wd__36 (nI we__36) nu__38 (nI nq_39) (nI rd) ts (nI ru) (nI rw) (nI ca) df db sd))), (aI k (a 5) 240 ftext), (aI k (a 16) 9 (upd (upd freadSingle 6 nu__31) 7 nu__38))]) [1, 2, 0] (by decide) rfl
          exact W.iret (v := 0) hx hb hr (fun t ht hW => ⟨⟨0, (t0__38, wd__36, we__36, fp, nu__38, (nI nq_39), (upd (upd freadSingle 6 nu__31) 7 nu__38)), rfl, ⟨.inl ⟨rfl, nu__31, nu__38, (by simp [siF, hq_32, hq_37, hq_39, (show zLE 7 = 0 from rfl), (show zMO 7 = 60 from rfl), (show decide ((7 : Nat) = 1) = false from rfl), -List.getD_eq_getElem?_getD]), by rw [if_pos rfl], rfl⟩, by omega, by omega, fun _ => by omega, fun _ => (rsOK_upd (rsOK_upd hrs 6 _ (fun h5 => absurd h5 (by omega)) (fun h7 => absurd h7 (by omega))) 7 _ (fun h5 => absurd h5 (by omega)) (fun _ => rs_in (n := 3) (by omega) (nuR_in hq_39).1))⟩, by rw [ht]; exact hP9, hD9⟩, hS.F ht⟩) hS.2.2 dX8_takeSingle_146
        · refine lv_istore_n (lv' := [(3, .int 1), (2, .int 60), (0, .ref (a 0)), (1, .int 6)]) hx hb dX8_takeSingle_133 rfl hl (by decide) rfl (fun ls hl => ?_)
          refine lv_aload_n hx hb dX8_takeSingle_134 rfl (lv_at hl 2 rfl) ?_
          refine va_get (D := D) (ci := 8) (v := .ref (a 16)) (C := RX8) (T := TX8) (N := 44) hx hb hts inX8 hown hK hP 1 rfl rfl 15 (by decide) (hts _ tw_988) (fun _ h9 => h9) rfl dX8_takeSingle_135 ?_
          refine lv_bipush (v := 7) hx hb dX8_takeSingle_138 (by decide) ?_
          refine lv_aload_n hx hb dX8_takeSingle_140 rfl (lv_at hl 2 rfl) ?_
          refine va_get (D := D) (ci := 8) (v := .int nu__38) (C := RX8) (T := TX8) (N := 44) hx hb hts inX8 hown hK hP 1 rfl rfl 10 (by decide) (hts _ tw_983) (fun _ h9 => h9) rfl dX8_takeSingle_141 ?_
          refine va_iast hx hb hK hP hD hS 0 1 rfl rfl (by unfold vp_in; decide) dX8_takeSingle_144 (fun H locs hP hD hS => ?_)
          replace hP : va_P D classes [(aI k (a 16) 9 (upd (upd freadSingle 6 nu__31) (Int32.toNatClampNeg 7) nu__38)), ((a 0), .inr (8, (fX8 a (nI tx) (nI pl_39) (nI t0__38) wd__36 (nI we__36) nu__38 (nI nq_39) (nI rd) ts (nI ru) (nI rw) (nI ca) df db sd))), (aI k (a 5) 240 ftext)] H := hP
          replace hD : va_D A [(aI k (a 16) 9 (upd (upd freadSingle 6 nu__31) (Int32.toNatClampNeg 7) nu__38)), ((a 0), .inr (8, (fX8 a (nI tx) (nI pl_39) (nI t0__38) wd__36 (nI we__36) nu__38 (nI nq_39) (nI rd) ts (nI ru) (nI rw) (nI ca) df db sd))), (aI k (a 5) 240 ftext)] := hD
          replace hP : va_P D classes [(aI k (a 16) 9 (upd (upd freadSingle 6 nu__31) 7 nu__38)), ((a 0), .inr (8, (fX8 a (nI tx) (nI pl_39) (nI t0__38) wd__36 (nI we__36) nu__38 (nI nq_39) (nI rd) ts (nI ru) (nI rw) (nI ca) df db sd))), (aI k (a 5) 240 ftext)] H := hP
          replace hD : va_D A [(aI k (a 16) 9 (upd (upd freadSingle 6 nu__31) 7 nu__38)), ((a 0), .inr (8, (fX8 a (nI tx) (nI pl_39) (nI t0__38) wd__36 (nI we__36) nu__38 (nI nq_39) (nI rd) ts (nI ru) (nI rw) (nI ca) df db sd))), (aI k (a 5) 240 ftext)] := hD
          refine lv_iload_n hx hb dX8_takeSingle_145 rfl (lv_at hl 0 rfl) ?_
          have hP9 := hP.sub (ws' := [((a 0), .inr (8, (fX8 a (nI tx) (nI pl_39) (nI t0__38) wd__36 (nI we__36) nu__38 (nI nq_39) (nI rd) ts (nI ru) (nI rw) (nI ca) df db sd))), (aI k (a 5) 240 ftext), (aI k (a 16) 9 (upd (upd freadSingle 6 nu__31) 7 nu__38))]) [1, 2, 0] rfl
          have hD9 := hD.sub (ws' := [((a 0), .inr (8, (fX8 a (nI tx) (nI pl_39) (nI t0__38) wd__36 (nI we__36) nu__38 (nI nq_39) (nI rd) ts (nI ru) (nI rw) (nI ca) df db sd))), (aI k (a 5) 240 ftext), (aI k (a 16) 9 (upd (upd freadSingle 6 nu__31) 7 nu__38))]) [1, 2, 0] (by decide) rfl
          exact W.iret (v := 1) hx hb hr (fun t ht hW => ⟨⟨1, (t0__38, wd__36, we__36, (nI pl_39), nu__38, (nI nq_39), (upd (upd freadSingle 6 nu__31) 7 nu__38)), rfl, ⟨.inr ⟨1, pl_39, rfl, by decide, by decide, by simp [siF, hq_32, hq_37, hq_39, (show zLE 7 = 0 from rfl), (show zMO 7 = 60 from rfl), (show decide ((7 : Nat) = 1) = false from rfl), -List.getD_eq_getElem?_getD], by simp [siF, hq_32, hq_37, hq_39, (show zLE 7 = 0 from rfl), (show zMO 7 = 60 from rfl), (show decide ((7 : Nat) = 1) = false from rfl), -List.getD_eq_getElem?_getD], rfl⟩, by omega, by omega, fun h => absurd h (by decide), fun h => absurd h (by decide)⟩, by rw [ht]; exact hP9, hD9⟩, hS.F ht⟩) hS.2.2 dX8_takeSingle_146
        · refine lv_istore_n (lv' := [(3, .int 2), (2, .int 60), (0, .ref (a 0)), (1, .int 6)]) hx hb dX8_takeSingle_133 rfl hl (by decide) rfl (fun ls hl => ?_)
          refine lv_aload_n hx hb dX8_takeSingle_134 rfl (lv_at hl 2 rfl) ?_
          refine va_get (D := D) (ci := 8) (v := .ref (a 16)) (C := RX8) (T := TX8) (N := 44) hx hb hts inX8 hown hK hP 1 rfl rfl 15 (by decide) (hts _ tw_988) (fun _ h9 => h9) rfl dX8_takeSingle_135 ?_
          refine lv_bipush (v := 7) hx hb dX8_takeSingle_138 (by decide) ?_
          refine lv_aload_n hx hb dX8_takeSingle_140 rfl (lv_at hl 2 rfl) ?_
          refine va_get (D := D) (ci := 8) (v := .int nu__38) (C := RX8) (T := TX8) (N := 44) hx hb hts inX8 hown hK hP 1 rfl rfl 10 (by decide) (hts _ tw_983) (fun _ h9 => h9) rfl dX8_takeSingle_141 ?_
          refine va_iast hx hb hK hP hD hS 0 1 rfl rfl (by unfold vp_in; decide) dX8_takeSingle_144 (fun H locs hP hD hS => ?_)
          replace hP : va_P D classes [(aI k (a 16) 9 (upd (upd freadSingle 6 nu__31) (Int32.toNatClampNeg 7) nu__38)), ((a 0), .inr (8, (fX8 a (nI tx) (nI pl_39) (nI t0__38) wd__36 (nI we__36) nu__38 (nI nq_39) (nI rd) ts (nI ru) (nI rw) (nI ca) df db sd))), (aI k (a 5) 240 ftext)] H := hP
          replace hD : va_D A [(aI k (a 16) 9 (upd (upd freadSingle 6 nu__31) (Int32.toNatClampNeg 7) nu__38)), ((a 0), .inr (8, (fX8 a (nI tx) (nI pl_39) (nI t0__38) wd__36 (nI we__36) nu__38 (nI nq_39) (nI rd) ts (nI ru) (nI rw) (nI ca) df db sd))), (aI k (a 5) 240 ftext)] := hD
          replace hP : va_P D classes [(aI k (a 16) 9 (upd (upd freadSingle 6 nu__31) 7 nu__38)), ((a 0), .inr (8, (fX8 a (nI tx) (nI pl_39) (nI t0__38) wd__36 (nI we__36) nu__38 (nI nq_39) (nI rd) ts (nI ru) (nI rw) (nI ca) df db sd))), (aI k (a 5) 240 ftext)] H := hP
          replace hD : va_D A [(aI k (a 16) 9 (upd (upd freadSingle 6 nu__31) 7 nu__38)), ((a 0), .inr (8, (fX8 a (nI tx) (nI pl_39) (nI t0__38) wd__36 (nI we__36) nu__38 (nI nq_39) (nI rd) ts (nI ru) (nI rw) (nI ca) df db sd))), (aI k (a 5) 240 ftext)] := hD
          refine lv_iload_n hx hb dX8_takeSingle_145 rfl (lv_at hl 0 rfl) ?_
          have hP9 := hP.sub (ws' := [((a 0), .inr (8, (fX8 a (nI tx) (nI pl_39) (nI t0__38) wd__36 (nI we__36) nu__38 (nI nq_39) (nI rd) ts (nI ru) (nI rw) (nI ca) df db sd))), (aI k (a 5) 240 ftext), (aI k (a 16) 9 (upd (upd freadSingle 6 nu__31) 7 nu__38))]) [1, 2, 0] rfl
          have hD9 := hD.sub (ws' := [((a 0), .inr (8, (fX8 a (nI tx) (nI pl_39) (nI t0__38) wd__36 (nI we__36) nu__38 (nI nq_39) (nI rd) ts (nI ru) (nI rw) (nI ca) df db sd))), (aI k (a 5) 240 ftext), (aI k (a 16) 9 (upd (upd freadSingle 6 nu__31) 7 nu__38))]) [1, 2, 0] (by decide) rfl
          exact W.iret (v := 2) hx hb hr (fun t ht hW => ⟨⟨2, (t0__38, wd__36, we__36, (nI pl_39), nu__38, (nI nq_39), (upd (upd freadSingle 6 nu__31) 7 nu__38)), rfl, ⟨.inr ⟨2, pl_39, rfl, by decide, by decide, by simp [siF, hq_32, hq_37, hq_39, (show zLE 7 = 0 from rfl), (show zMO 7 = 60 from rfl), (show decide ((7 : Nat) = 1) = false from rfl), -List.getD_eq_getElem?_getD], by simp [siF, hq_32, hq_37, hq_39, (show zLE 7 = 0 from rfl), (show zMO 7 = 60 from rfl), (show decide ((7 : Nat) = 1) = false from rfl), -List.getD_eq_getElem?_getD], rfl⟩, by omega, by omega, fun h => absurd h (by decide), fun h => absurd h (by decide)⟩, by rw [ht]; exact hP9, hD9⟩, hS.F ht⟩) hS.2.2 dX8_takeSingle_146
      · refine lv_istore_n (lv' := [(3, .int 1), (2, .int 60), (0, .ref (a 0)), (1, .int 6)]) hx hb dX8_takeSingle_118 rfl hl (by decide) rfl (fun ls hl => ?_)
        refine lv_iload_n hx hb dX8_takeSingle_119 rfl (lv_at hl 0 rfl) ?_
        refine lv_if_le (tgt := 127) hx hb dX8_takeSingle_120 (by decide) (fun h => absurd h (by decide)) (fun _ => ?_)
        refine lv_iload_n hx hb dX8_takeSingle_123 rfl (lv_at hl 0 rfl) ?_
        refine lv_goto (tgt := 133) hx hb dX8_takeSingle_124 (by decide) ?_
        refine lv_istore_n (lv' := [(3, .int 1), (2, .int 60), (0, .ref (a 0)), (1, .int 6)]) hx hb dX8_takeSingle_133 rfl hl (by decide) rfl (fun ls hl => ?_)
        refine lv_aload_n hx hb dX8_takeSingle_134 rfl (lv_at hl 2 rfl) ?_
        refine va_get (D := D) (ci := 8) (v := .ref (a 16)) (C := RX8) (T := TX8) (N := 44) hx hb hts inX8 hown hK hP 1 rfl rfl 15 (by decide) (hts _ tw_988) (fun _ h9 => h9) rfl dX8_takeSingle_135 ?_
        refine lv_bipush (v := 7) hx hb dX8_takeSingle_138 (by decide) ?_
        refine lv_aload_n hx hb dX8_takeSingle_140 rfl (lv_at hl 2 rfl) ?_
        refine va_get (D := D) (ci := 8) (v := .int nu__31) (C := RX8) (T := TX8) (N := 44) hx hb hts inX8 hown hK hP 1 rfl rfl 10 (by decide) (hts _ tw_983) (fun _ h9 => h9) rfl dX8_takeSingle_141 ?_
        refine va_iast hx hb hK hP hD hS 0 1 rfl rfl (by unfold vp_in; decide) dX8_takeSingle_144 (fun H locs hP hD hS => ?_)
        replace hP : va_P D classes [(aI k (a 16) 9 (upd (upd freadSingle 6 nu__31) (Int32.toNatClampNeg 7) nu__31)), ((a 0), .inr (8, (fX8 a (nI tx) (nI pl_37) (nI t0__36) wd__36 (nI we__36) nu__31 (nI nq_32) (nI rd) ts (nI ru) (nI rw) (nI ca) df db sd))), (aI k (a 5) 240 ftext)] H := hP
        replace hD : va_D A [(aI k (a 16) 9 (upd (upd freadSingle 6 nu__31) (Int32.toNatClampNeg 7) nu__31)), ((a 0), .inr (8, (fX8 a (nI tx) (nI pl_37) (nI t0__36) wd__36 (nI we__36) nu__31 (nI nq_32) (nI rd) ts (nI ru) (nI rw) (nI ca) df db sd))), (aI k (a 5) 240 ftext)] := hD
        replace hP : va_P D classes [(aI k (a 16) 9 (upd (upd freadSingle 6 nu__31) 7 nu__31)), ((a 0), .inr (8, (fX8 a (nI tx) (nI pl_37) (nI t0__36) wd__36 (nI we__36) nu__31 (nI nq_32) (nI rd) ts (nI ru) (nI rw) (nI ca) df db sd))), (aI k (a 5) 240 ftext)] H := hP
        replace hD : va_D A [(aI k (a 16) 9 (upd (upd freadSingle 6 nu__31) 7 nu__31)), ((a 0), .inr (8, (fX8 a (nI tx) (nI pl_37) (nI t0__36) wd__36 (nI we__36) nu__31 (nI nq_32) (nI rd) ts (nI ru) (nI rw) (nI ca) df db sd))), (aI k (a 5) 240 ftext)] := hD
        refine lv_iload_n hx hb dX8_takeSingle_145 rfl (lv_at hl 0 rfl) ?_
        have hP9 := hP.sub (ws' := [((a 0), .inr (8, (fX8 a (nI tx) (nI pl_37) (nI t0__36) wd__36 (nI we__36) nu__31 (nI nq_32) (nI rd) ts (nI ru) (nI rw) (nI ca) df db sd))), (aI k (a 5) 240 ftext), (aI k (a 16) 9 (upd (upd freadSingle 6 nu__31) 7 nu__31))]) [1, 2, 0] rfl
        have hD9 := hD.sub (ws' := [((a 0), .inr (8, (fX8 a (nI tx) (nI pl_37) (nI t0__36) wd__36 (nI we__36) nu__31 (nI nq_32) (nI rd) ts (nI ru) (nI rw) (nI ca) df db sd))), (aI k (a 5) 240 ftext), (aI k (a 16) 9 (upd (upd freadSingle 6 nu__31) 7 nu__31))]) [1, 2, 0] (by decide) rfl
        exact W.iret (v := 1) hx hb hr (fun t ht hW => ⟨⟨1, (t0__36, wd__36, we__36, (nI pl_37), nu__31, (nI nq_32), (upd (upd freadSingle 6 nu__31) 7 nu__31)), rfl, ⟨.inr ⟨1, pl_37, rfl, by decide, by decide, by simp [siF, hq_32, hq_37, (show zLE 7 = 0 from rfl), (show zMO 7 = 60 from rfl), (show decide ((7 : Nat) = 1) = false from rfl), -List.getD_eq_getElem?_getD], by simp [siF, hq_32, hq_37, (show zLE 7 = 0 from rfl), (show zMO 7 = 60 from rfl), (show decide ((7 : Nat) = 1) = false from rfl), -List.getD_eq_getElem?_getD], rfl⟩, by omega, by omega, fun h => absurd h (by decide), fun h => absurd h (by decide)⟩, by rw [ht]; exact hP9, hD9⟩, hS.F ht⟩) hS.2.2 dX8_takeSingle_146
    · refine lv_istore_n (lv' := [(3, .int 1), (2, .int 60), (0, .ref (a 0)), (1, .int 6)]) hx hb dX8_takeSingle_75 rfl hl (by decide) rfl (fun ls hl => ?_)
      refine lv_aload_n hx hb dX8_takeSingle_76 rfl (lv_at hl 2 rfl) ?_
      refine va_get (D := D) (ci := 8) (v := .ref (a 16)) (C := RX8) (T := TX8) (N := 44) hx hb hts inX8 hown hK hP 1 rfl rfl 15 (by decide) (hts _ tw_988) (fun _ h9 => h9) rfl dX8_takeSingle_77 ?_
      refine lv_iload_n hx hb dX8_takeSingle_80 rfl (lv_at hl 3 rfl) ?_
      refine lv_aload_n hx hb dX8_takeSingle_81 rfl (lv_at hl 2 rfl) ?_
      refine va_get (D := D) (ci := 8) (v := .int nu__31) (C := RX8) (T := TX8) (N := 44) hx hb hts inX8 hown hK hP 1 rfl rfl 10 (by decide) (hts _ tw_983) (fun _ h9 => h9) rfl dX8_takeSingle_82 ?_
      refine va_iast hx hb hK hP hD hS 0 1 rfl rfl (by unfold vp_in; decide) dX8_takeSingle_85 (fun H locs hP hD hS => ?_)
      replace hP : va_P D classes [(aI k (a 16) 9 (upd freadSingle (Int32.toNatClampNeg 6) nu__31)), ((a 0), .inr (8, (fX8 a (nI tx) (nI pl_32) (nI t0__31) wd (nI we) nu__31 (nI nq_32) (nI rd) ts (nI ru) (nI rw) (nI ca) df db sd))), (aI k (a 5) 240 ftext)] H := hP
      replace hD : va_D A [(aI k (a 16) 9 (upd freadSingle (Int32.toNatClampNeg 6) nu__31)), ((a 0), .inr (8, (fX8 a (nI tx) (nI pl_32) (nI t0__31) wd (nI we) nu__31 (nI nq_32) (nI rd) ts (nI ru) (nI rw) (nI ca) df db sd))), (aI k (a 5) 240 ftext)] := hD
      replace hP : va_P D classes [(aI k (a 16) 9 (upd freadSingle 6 nu__31)), ((a 0), .inr (8, (fX8 a (nI tx) (nI pl_32) (nI t0__31) wd (nI we) nu__31 (nI nq_32) (nI rd) ts (nI ru) (nI rw) (nI ca) df db sd))), (aI k (a 5) 240 ftext)] H := hP
      replace hD : va_D A [(aI k (a 16) 9 (upd freadSingle 6 nu__31)), ((a 0), .inr (8, (fX8 a (nI tx) (nI pl_32) (nI t0__31) wd (nI we) nu__31 (nI nq_32) (nI rd) ts (nI ru) (nI rw) (nI ca) df db sd))), (aI k (a 5) 240 ftext)] := hD
      refine lv_iload_n hx hb dX8_takeSingle_86 rfl (lv_at hl 0 rfl) ?_
      refine lv_if_gt (tgt := 96) hx hb dX8_takeSingle_87 (by decide) (fun _ => ?_) (fun h => absurd (by decide) h)
      refine lv_iload_n hx hb dX8_takeSingle_96 rfl (lv_at hl 0 rfl) ?_
      have hP9 := hP.sub (ws' := [((a 0), .inr (8, (fX8 a (nI tx) (nI pl_32) (nI t0__31) wd (nI we) nu__31 (nI nq_32) (nI rd) ts (nI ru) (nI rw) (nI ca) df db sd))), (aI k (a 5) 240 ftext), (aI k (a 16) 9 (upd freadSingle 6 nu__31))]) [1, 2, 0] rfl
      have hD9 := hD.sub (ws' := [((a 0), .inr (8, (fX8 a (nI tx) (nI pl_32) (nI t0__31) wd (nI we) nu__31 (nI nq_32) (nI rd) ts (nI ru) (nI rw) (nI ca) df db sd))), (aI k (a 5) 240 ftext), (aI k (a 16) 9 (upd freadSingle 6 nu__31))]) [1, 2, 0] (by decide) rfl
      exact W.iret (v := 1) hx hb hr (fun t ht hW => ⟨⟨1, (t0__31, wd, we, (nI pl_32), nu__31, (nI nq_32), (upd freadSingle 6 nu__31)), rfl, ⟨.inr ⟨1, pl_32, rfl, by decide, by decide, by simp [siF, hq_32, (show zLE 7 = 0 from rfl), (show zMO 7 = 60 from rfl), (show decide ((7 : Nat) = 1) = false from rfl), -List.getD_eq_getElem?_getD], by simp [siF, hq_32, (show zLE 7 = 0 from rfl), (show zMO 7 = 60 from rfl), (show decide ((7 : Nat) = 1) = false from rfl), -List.getD_eq_getElem?_getD], rfl⟩, by omega, by omega, fun h => absurd h (by decide), fun h => absurd h (by decide)⟩, by rw [ht]; exact hP9, hD9⟩, hS.F ht⟩) hS.2.2 dX8_takeSingle_97
    · refine lv_istore_n (lv' := [(3, .int 2), (2, .int 60), (0, .ref (a 0)), (1, .int 6)]) hx hb dX8_takeSingle_75 rfl hl (by decide) rfl (fun ls hl => ?_)
      refine lv_aload_n hx hb dX8_takeSingle_76 rfl (lv_at hl 2 rfl) ?_
      refine va_get (D := D) (ci := 8) (v := .ref (a 16)) (C := RX8) (T := TX8) (N := 44) hx hb hts inX8 hown hK hP 1 rfl rfl 15 (by decide) (hts _ tw_988) (fun _ h9 => h9) rfl dX8_takeSingle_77 ?_
      refine lv_iload_n hx hb dX8_takeSingle_80 rfl (lv_at hl 3 rfl) ?_
      refine lv_aload_n hx hb dX8_takeSingle_81 rfl (lv_at hl 2 rfl) ?_
      refine va_get (D := D) (ci := 8) (v := .int nu__31) (C := RX8) (T := TX8) (N := 44) hx hb hts inX8 hown hK hP 1 rfl rfl 10 (by decide) (hts _ tw_983) (fun _ h9 => h9) rfl dX8_takeSingle_82 ?_
      refine va_iast hx hb hK hP hD hS 0 1 rfl rfl (by unfold vp_in; decide) dX8_takeSingle_85 (fun H locs hP hD hS => ?_)
      replace hP : va_P D classes [(aI k (a 16) 9 (upd freadSingle (Int32.toNatClampNeg 6) nu__31)), ((a 0), .inr (8, (fX8 a (nI tx) (nI pl_32) (nI t0__31) wd (nI we) nu__31 (nI nq_32) (nI rd) ts (nI ru) (nI rw) (nI ca) df db sd))), (aI k (a 5) 240 ftext)] H := hP
      replace hD : va_D A [(aI k (a 16) 9 (upd freadSingle (Int32.toNatClampNeg 6) nu__31)), ((a 0), .inr (8, (fX8 a (nI tx) (nI pl_32) (nI t0__31) wd (nI we) nu__31 (nI nq_32) (nI rd) ts (nI ru) (nI rw) (nI ca) df db sd))), (aI k (a 5) 240 ftext)] := hD
      replace hP : va_P D classes [(aI k (a 16) 9 (upd freadSingle 6 nu__31)), ((a 0), .inr (8, (fX8 a (nI tx) (nI pl_32) (nI t0__31) wd (nI we) nu__31 (nI nq_32) (nI rd) ts (nI ru) (nI rw) (nI ca) df db sd))), (aI k (a 5) 240 ftext)] H := hP
      replace hD : va_D A [(aI k (a 16) 9 (upd freadSingle 6 nu__31)), ((a 0), .inr (8, (fX8 a (nI tx) (nI pl_32) (nI t0__31) wd (nI we) nu__31 (nI nq_32) (nI rd) ts (nI ru) (nI rw) (nI ca) df db sd))), (aI k (a 5) 240 ftext)] := hD
      refine lv_iload_n hx hb dX8_takeSingle_86 rfl (lv_at hl 0 rfl) ?_
      refine lv_if_gt (tgt := 96) hx hb dX8_takeSingle_87 (by decide) (fun _ => ?_) (fun h => absurd (by decide) h)
      refine lv_iload_n hx hb dX8_takeSingle_96 rfl (lv_at hl 0 rfl) ?_
      have hP9 := hP.sub (ws' := [((a 0), .inr (8, (fX8 a (nI tx) (nI pl_32) (nI t0__31) wd (nI we) nu__31 (nI nq_32) (nI rd) ts (nI ru) (nI rw) (nI ca) df db sd))), (aI k (a 5) 240 ftext), (aI k (a 16) 9 (upd freadSingle 6 nu__31))]) [1, 2, 0] rfl
      have hD9 := hD.sub (ws' := [((a 0), .inr (8, (fX8 a (nI tx) (nI pl_32) (nI t0__31) wd (nI we) nu__31 (nI nq_32) (nI rd) ts (nI ru) (nI rw) (nI ca) df db sd))), (aI k (a 5) 240 ftext), (aI k (a 16) 9 (upd freadSingle 6 nu__31))]) [1, 2, 0] (by decide) rfl
      exact W.iret (v := 2) hx hb hr (fun t ht hW => ⟨⟨2, (t0__31, wd, we, (nI pl_32), nu__31, (nI nq_32), (upd freadSingle 6 nu__31)), rfl, ⟨.inr ⟨2, pl_32, rfl, by decide, by decide, by simp [siF, hq_32, (show zLE 7 = 0 from rfl), (show zMO 7 = 60 from rfl), (show decide ((7 : Nat) = 1) = false from rfl), -List.getD_eq_getElem?_getD], by simp [siF, hq_32, (show zLE 7 = 0 from rfl), (show zMO 7 = 60 from rfl), (show decide ((7 : Nat) = 1) = false from rfl), -List.getD_eq_getElem?_getD], rfl⟩, by omega, by omega, fun h => absurd h (by decide), fun h => absurd h (by decide)⟩, by rw [ht]; exact hP9, hD9⟩, hS.F ht⟩) hS.2.2 dX8_takeSingle_97
  · refine lv_iload_n hx hb dX8_takeSingle_0 rfl (lv_at hl 1 rfl) ?_
    refine lv_if_ne (tgt := 23) hx hb dX8_takeSingle_1 (by decide) (fun _ => ?_) (fun h => absurd h (by decide))
    refine lv_iload_n hx hb dX8_takeSingle_23 rfl (lv_at hl 1 rfl) ?_
    refine lv_iconst (v := 4) hx hb dX8_takeSingle_24 (by decide) ?_
    refine lv_icmp_ne (tgt := 34) hx hb dX8_takeSingle_25 (by decide) (fun _ => ?_) (fun h => absurd h (by decide))
    refine lv_iload_n hx hb dX8_takeSingle_34 rfl (lv_at hl 1 rfl) ?_
    refine lv_iconst (v := 5) hx hb dX8_takeSingle_35 (by decide) ?_
    refine lv_icmp_ne (tgt := 43) hx hb dX8_takeSingle_36 (by decide) (fun _ => ?_) (fun h => absurd h (by decide))
    refine lv_iload_n hx hb dX8_takeSingle_43 rfl (lv_at hl 1 rfl) ?_
    refine lv_bipush (v := 6) hx hb dX8_takeSingle_44 (by decide) ?_
    refine lv_icmp_ne (tgt := 54) hx hb dX8_takeSingle_46 (by decide) (fun _ => ?_) (fun h => absurd h (by decide))
    refine lv_iload_n hx hb dX8_takeSingle_54 rfl (lv_at hl 1 rfl) ?_
    refine lv_bipush (v := 8) hx hb dX8_takeSingle_55 (by decide) ?_
    refine lv_icmp_ne (tgt := 66) hx hb dX8_takeSingle_57 (by decide) (fun h => absurd (by decide) h) (fun _ => ?_)
    refine lv_sipush (v := 999) hx hb dX8_takeSingle_60 (by decide) ?_
    refine lv_goto (tgt := 68) hx hb dX8_takeSingle_63 (by decide) ?_
    refine lv_istore_n (lv' := [(2, .int 999), (0, .ref (a 0)), (1, .int 8)]) hx hb dX8_takeSingle_68 rfl hl (by decide) rfl (fun ls hl => ?_)
    refine lv_aload_n hx hb dX8_takeSingle_69 rfl (lv_at hl 1 rfl) ?_
    refine lv_iconst (v := 0) hx hb dX8_takeSingle_70 (by decide) ?_
    refine lv_iload_n hx hb dX8_takeSingle_71 rfl (lv_at hl 0 rfl) ?_
    refine rw_i (D := D) (wr := [(aI k (a 16) 9 freadSingle)]) (va_runV (As := [.int 0, .int 999]) (rest := []) ⟨hx, hb, hml, hown, hts⟩ ((n_takeNumber l D k st lo a tx t0 we rd ru rw ca fp wd nu na ts df db sd ftext 0 999 (by first | assumption | omega) (by first | assumption | omega)) s.heap.size) (cwV 2 hts (gV tw_1159 tw_1161 tw_33 tw_87 tw_1162) rfl rfl rfl (by decide +kernel) ⟨Nat.le_of_ble_eq_true rfl, Nat.le_of_ble_eq_true rfl⟩) (pV hS hAlo hlo hP hK (va_Dlo hD hAlo) hZ [0, 1] (by decide) rfl (ci := 8) (q := (RX8, TX8, 44)) (q0 := 0) rfl rfl) rfl rfl hl.1 rfl (lv_room (Nat.le_of_ble_eq_true rfl)) dX8_takeSingle_72 ⟨Nat.le_of_ble_eq_true rfl, Nat.le_of_ble_eq_true rfl⟩) hS hA hP hD [0, 1] [2] rfl rfl (by decide) (by decide) (fun r_46 u H locs hw_46 hP hD hS => ?_)
    obtain ⟨t0__46, nu__46, na__46, fp__46⟩ := u
    replace hP : va_P D classes [(aI k (a 16) 9 freadSingle), ((a 0), .inr (8, (fX8 a (nI tx) fp__46 (nI t0__46) wd (nI we) nu__46 na__46 (nI rd) ts (nI ru) (nI rw) (nI ca) df db sd))), (aI k (a 5) 240 ftext)] H := hP
    replace hD : va_D A [(aI k (a 16) 9 freadSingle), ((a 0), .inr (8, (fX8 a (nI tx) fp__46 (nI t0__46) wd (nI we) nu__46 na__46 (nI rd) ts (nI ru) (nI rw) (nI ca) df db sd))), (aI k (a 5) 240 ftext)] := hD
    try dsimp only at hw_46
    obtain ⟨nq_47, rfl, hq_47, hw_46⟩ := hw_46
    rcases hq_47 with ⟨rfl, hq_47, hfp_47⟩ | ⟨rfl, pl_47, hq_47, rfl⟩ | ⟨rfl, pl_47, hq_47, rfl⟩
    · replace hfp_47 := hfp_47.symm
      subst hfp_47
      refine lv_istore_n (lv' := [(3, .int 0), (2, .int 999), (0, .ref (a 0)), (1, .int 8)]) hx hb dX8_takeSingle_75 rfl hl (by decide) rfl (fun ls hl => ?_)
      refine lv_aload_n hx hb dX8_takeSingle_76 rfl (lv_at hl 2 rfl) ?_
      refine va_get (D := D) (ci := 8) (v := .ref (a 16)) (C := RX8) (T := TX8) (N := 44) hx hb hts inX8 hown hK hP 1 rfl rfl 15 (by decide) (hts _ tw_988) (fun _ h9 => h9) rfl dX8_takeSingle_77 ?_
      refine lv_iload_n hx hb dX8_takeSingle_80 rfl (lv_at hl 3 rfl) ?_
      refine lv_aload_n hx hb dX8_takeSingle_81 rfl (lv_at hl 2 rfl) ?_
      refine va_get (D := D) (ci := 8) (v := .int nu__46) (C := RX8) (T := TX8) (N := 44) hx hb hts inX8 hown hK hP 1 rfl rfl 10 (by decide) (hts _ tw_983) (fun _ h9 => h9) rfl dX8_takeSingle_82 ?_
      refine va_iast hx hb hK hP hD hS 0 1 rfl rfl (by unfold vp_in; decide) dX8_takeSingle_85 (fun H locs hP hD hS => ?_)
      replace hP : va_P D classes [(aI k (a 16) 9 (upd freadSingle (Int32.toNatClampNeg 8) nu__46)), ((a 0), .inr (8, (fX8 a (nI tx) fp (nI t0__46) wd (nI we) nu__46 (nI nq_47) (nI rd) ts (nI ru) (nI rw) (nI ca) df db sd))), (aI k (a 5) 240 ftext)] H := hP
      replace hD : va_D A [(aI k (a 16) 9 (upd freadSingle (Int32.toNatClampNeg 8) nu__46)), ((a 0), .inr (8, (fX8 a (nI tx) fp (nI t0__46) wd (nI we) nu__46 (nI nq_47) (nI rd) ts (nI ru) (nI rw) (nI ca) df db sd))), (aI k (a 5) 240 ftext)] := hD
      replace hP : va_P D classes [(aI k (a 16) 9 (upd freadSingle 8 nu__46)), ((a 0), .inr (8, (fX8 a (nI tx) fp (nI t0__46) wd (nI we) nu__46 (nI nq_47) (nI rd) ts (nI ru) (nI rw) (nI ca) df db sd))), (aI k (a 5) 240 ftext)] H := hP
      replace hD : va_D A [(aI k (a 16) 9 (upd freadSingle 8 nu__46)), ((a 0), .inr (8, (fX8 a (nI tx) fp (nI t0__46) wd (nI we) nu__46 (nI nq_47) (nI rd) ts (nI ru) (nI rw) (nI ca) df db sd))), (aI k (a 5) 240 ftext)] := hD
      refine lv_iload_n hx hb dX8_takeSingle_86 rfl (lv_at hl 0 rfl) ?_
      refine lv_if_gt (tgt := 96) hx hb dX8_takeSingle_87 (by decide) (fun h => absurd h (by decide)) (fun _ => ?_)
      refine lv_iload_n hx hb dX8_takeSingle_90 rfl (lv_at hl 3 rfl) ?_
      refine lv_bipush (v := 6) hx hb dX8_takeSingle_91 (by decide) ?_
      refine lv_icmp_eq (tgt := 98) hx hb dX8_takeSingle_93 (by decide) (fun h => absurd h (by decide)) (fun _ => ?_)
      refine lv_iload_n hx hb dX8_takeSingle_96 rfl (lv_at hl 0 rfl) ?_
      have hg1_9 := (nuR_in hq_47).2
      have hP9 := hP.sub (ws' := [((a 0), .inr (8, (fX8 a (nI tx) fp (nI t0__46) wd (nI we) nu__46 (nI nq_47) (nI rd) ts (nI ru) (nI rw) (nI ca) df db sd))), (aI k (a 5) 240 ftext), (aI k (a 16) 9 (upd freadSingle 8 nu__46))]) [1, 2, 0] rfl
      have hD9 := hD.sub (ws' := [((a 0), .inr (8, (fX8 a (nI tx) fp (nI t0__46) wd (nI we) nu__46 (nI nq_47) (nI rd) ts (nI ru) (nI rw) (nI ca) df db sd))), (aI k (a 5) 240 ftext), (aI k (a 16) 9 (upd freadSingle 8 nu__46))]) [1, 2, 0] (by decide) rfl
      exact W.iret (v := 0) hx hb hr (fun t ht hW => ⟨⟨0, (t0__46, wd, we, fp, nu__46, (nI nq_47), (upd freadSingle 8 nu__46)), rfl, ⟨.inl ⟨rfl, nu__46, 0, (by simp [siF, hq_47, (show zLE 9 = 0 from rfl), (show zMO 9 = 999 from rfl), (show decide ((9 : Nat) = 1) = false from rfl), -List.getD_eq_getElem?_getD]), by rw [if_neg (by decide)], rfl⟩, by omega, by omega, fun _ => by omega, fun _ => (rsOK_upd hrs 8 _ (fun h5 => absurd h5 (by omega)) (fun h7 => absurd h7 (by omega)))⟩, by rw [ht]; exact hP9, hD9⟩, hS.F ht⟩) hS.2.2 dX8_takeSingle_97
    · refine lv_istore_n (lv' := [(3, .int 1), (2, .int 999), (0, .ref (a 0)), (1, .int 8)]) hx hb dX8_takeSingle_75 rfl hl (by decide) rfl (fun ls hl => ?_)
      refine lv_aload_n hx hb dX8_takeSingle_76 rfl (lv_at hl 2 rfl) ?_
      refine va_get (D := D) (ci := 8) (v := .ref (a 16)) (C := RX8) (T := TX8) (N := 44) hx hb hts inX8 hown hK hP 1 rfl rfl 15 (by decide) (hts _ tw_988) (fun _ h9 => h9) rfl dX8_takeSingle_77 ?_
      refine lv_iload_n hx hb dX8_takeSingle_80 rfl (lv_at hl 3 rfl) ?_
      refine lv_aload_n hx hb dX8_takeSingle_81 rfl (lv_at hl 2 rfl) ?_
      refine va_get (D := D) (ci := 8) (v := .int nu__46) (C := RX8) (T := TX8) (N := 44) hx hb hts inX8 hown hK hP 1 rfl rfl 10 (by decide) (hts _ tw_983) (fun _ h9 => h9) rfl dX8_takeSingle_82 ?_
      refine va_iast hx hb hK hP hD hS 0 1 rfl rfl (by unfold vp_in; decide) dX8_takeSingle_85 (fun H locs hP hD hS => ?_)
      replace hP : va_P D classes [(aI k (a 16) 9 (upd freadSingle (Int32.toNatClampNeg 8) nu__46)), ((a 0), .inr (8, (fX8 a (nI tx) (nI pl_47) (nI t0__46) wd (nI we) nu__46 (nI nq_47) (nI rd) ts (nI ru) (nI rw) (nI ca) df db sd))), (aI k (a 5) 240 ftext)] H := hP
      replace hD : va_D A [(aI k (a 16) 9 (upd freadSingle (Int32.toNatClampNeg 8) nu__46)), ((a 0), .inr (8, (fX8 a (nI tx) (nI pl_47) (nI t0__46) wd (nI we) nu__46 (nI nq_47) (nI rd) ts (nI ru) (nI rw) (nI ca) df db sd))), (aI k (a 5) 240 ftext)] := hD
      replace hP : va_P D classes [(aI k (a 16) 9 (upd freadSingle 8 nu__46)), ((a 0), .inr (8, (fX8 a (nI tx) (nI pl_47) (nI t0__46) wd (nI we) nu__46 (nI nq_47) (nI rd) ts (nI ru) (nI rw) (nI ca) df db sd))), (aI k (a 5) 240 ftext)] H := hP
      replace hD : va_D A [(aI k (a 16) 9 (upd freadSingle 8 nu__46)), ((a 0), .inr (8, (fX8 a (nI tx) (nI pl_47) (nI t0__46) wd (nI we) nu__46 (nI nq_47) (nI rd) ts (nI ru) (nI rw) (nI ca) df db sd))), (aI k (a 5) 240 ftext)] := hD
      refine lv_iload_n hx hb dX8_takeSingle_86 rfl (lv_at hl 0 rfl) ?_
      refine lv_if_gt (tgt := 96) hx hb dX8_takeSingle_87 (by decide) (fun _ => ?_) (fun h => absurd (by decide) h)
      refine lv_iload_n hx hb dX8_takeSingle_96 rfl (lv_at hl 0 rfl) ?_
      have hP9 := hP.sub (ws' := [((a 0), .inr (8, (fX8 a (nI tx) (nI pl_47) (nI t0__46) wd (nI we) nu__46 (nI nq_47) (nI rd) ts (nI ru) (nI rw) (nI ca) df db sd))), (aI k (a 5) 240 ftext), (aI k (a 16) 9 (upd freadSingle 8 nu__46))]) [1, 2, 0] rfl
      have hD9 := hD.sub (ws' := [((a 0), .inr (8, (fX8 a (nI tx) (nI pl_47) (nI t0__46) wd (nI we) nu__46 (nI nq_47) (nI rd) ts (nI ru) (nI rw) (nI ca) df db sd))), (aI k (a 5) 240 ftext), (aI k (a 16) 9 (upd freadSingle 8 nu__46))]) [1, 2, 0] (by decide) rfl
      exact W.iret (v := 1) hx hb hr (fun t ht hW => ⟨⟨1, (t0__46, wd, we, (nI pl_47), nu__46, (nI nq_47), (upd freadSingle 8 nu__46)), rfl, ⟨.inr ⟨1, pl_47, rfl, by decide, by decide, by simp [siF, hq_47, (show zLE 9 = 0 from rfl), (show zMO 9 = 999 from rfl), (show decide ((9 : Nat) = 1) = false from rfl), -List.getD_eq_getElem?_getD], by simp [siF, hq_47, (show zLE 9 = 0 from rfl), (show zMO 9 = 999 from rfl), (show decide ((9 : Nat) = 1) = false from rfl), -List.getD_eq_getElem?_getD], rfl⟩, by omega, by omega, fun h => absurd h (by decide), fun h => absurd h (by decide)⟩, by rw [ht]; exact hP9, hD9⟩, hS.F ht⟩) hS.2.2 dX8_takeSingle_97
    · refine lv_istore_n (lv' := [(3, .int 2), (2, .int 999), (0, .ref (a 0)), (1, .int 8)]) hx hb dX8_takeSingle_75 rfl hl (by decide) rfl (fun ls hl => ?_)
      refine lv_aload_n hx hb dX8_takeSingle_76 rfl (lv_at hl 2 rfl) ?_
      refine va_get (D := D) (ci := 8) (v := .ref (a 16)) (C := RX8) (T := TX8) (N := 44) hx hb hts inX8 hown hK hP 1 rfl rfl 15 (by decide) (hts _ tw_988) (fun _ h9 => h9) rfl dX8_takeSingle_77 ?_
      refine lv_iload_n hx hb dX8_takeSingle_80 rfl (lv_at hl 3 rfl) ?_
      refine lv_aload_n hx hb dX8_takeSingle_81 rfl (lv_at hl 2 rfl) ?_
      refine va_get (D := D) (ci := 8) (v := .int nu__46) (C := RX8) (T := TX8) (N := 44) hx hb hts inX8 hown hK hP 1 rfl rfl 10 (by decide) (hts _ tw_983) (fun _ h9 => h9) rfl dX8_takeSingle_82 ?_
      refine va_iast hx hb hK hP hD hS 0 1 rfl rfl (by unfold vp_in; decide) dX8_takeSingle_85 (fun H locs hP hD hS => ?_)
      replace hP : va_P D classes [(aI k (a 16) 9 (upd freadSingle (Int32.toNatClampNeg 8) nu__46)), ((a 0), .inr (8, (fX8 a (nI tx) (nI pl_47) (nI t0__46) wd (nI we) nu__46 (nI nq_47) (nI rd) ts (nI ru) (nI rw) (nI ca) df db sd))), (aI k (a 5) 240 ftext)] H := hP
      replace hD : va_D A [(aI k (a 16) 9 (upd freadSingle (Int32.toNatClampNeg 8) nu__46)), ((a 0), .inr (8, (fX8 a (nI tx) (nI pl_47) (nI t0__46) wd (nI we) nu__46 (nI nq_47) (nI rd) ts (nI ru) (nI rw) (nI ca) df db sd))), (aI k (a 5) 240 ftext)] := hD
      replace hP : va_P D classes [(aI k (a 16) 9 (upd freadSingle 8 nu__46)), ((a 0), .inr (8, (fX8 a (nI tx) (nI pl_47) (nI t0__46) wd (nI we) nu__46 (nI nq_47) (nI rd) ts (nI ru) (nI rw) (nI ca) df db sd))), (aI k (a 5) 240 ftext)] H := hP
      replace hD : va_D A [(aI k (a 16) 9 (upd freadSingle 8 nu__46)), ((a 0), .inr (8, (fX8 a (nI tx) (nI pl_47) (nI t0__46) wd (nI we) nu__46 (nI nq_47) (nI rd) ts (nI ru) (nI rw) (nI ca) df db sd))), (aI k (a 5) 240 ftext)] := hD
      refine lv_iload_n hx hb dX8_takeSingle_86 rfl (lv_at hl 0 rfl) ?_
      refine lv_if_gt (tgt := 96) hx hb dX8_takeSingle_87 (by decide) (fun _ => ?_) (fun h => absurd (by decide) h)
      refine lv_iload_n hx hb dX8_takeSingle_96 rfl (lv_at hl 0 rfl) ?_
      have hP9 := hP.sub (ws' := [((a 0), .inr (8, (fX8 a (nI tx) (nI pl_47) (nI t0__46) wd (nI we) nu__46 (nI nq_47) (nI rd) ts (nI ru) (nI rw) (nI ca) df db sd))), (aI k (a 5) 240 ftext), (aI k (a 16) 9 (upd freadSingle 8 nu__46))]) [1, 2, 0] rfl
      have hD9 := hD.sub (ws' := [((a 0), .inr (8, (fX8 a (nI tx) (nI pl_47) (nI t0__46) wd (nI we) nu__46 (nI nq_47) (nI rd) ts (nI ru) (nI rw) (nI ca) df db sd))), (aI k (a 5) 240 ftext), (aI k (a 16) 9 (upd freadSingle 8 nu__46))]) [1, 2, 0] (by decide) rfl
      exact W.iret (v := 2) hx hb hr (fun t ht hW => ⟨⟨2, (t0__46, wd, we, (nI pl_47), nu__46, (nI nq_47), (upd freadSingle 8 nu__46)), rfl, ⟨.inr ⟨2, pl_47, rfl, by decide, by decide, by simp [siF, hq_47, (show zLE 9 = 0 from rfl), (show zMO 9 = 999 from rfl), (show decide ((9 : Nat) = 1) = false from rfl), -List.getD_eq_getElem?_getD], by simp [siF, hq_47, (show zLE 9 = 0 from rfl), (show zMO 9 = 999 from rfl), (show decide ((9 : Nat) = 1) = false from rfl), -List.getD_eq_getElem?_getD], rfl⟩, by omega, by omega, fun h => absurd h (by decide), fun h => absurd h (by decide)⟩, by rw [ht]; exact hP9, hD9⟩, hS.F ht⟩) hS.2.2 dX8_takeSingle_97


set_option maxHeartbeats 4000000 in
set_option maxRecDepth 100000 in
theorem n_bare (l : Launch) (D : va_G) (k : Nat → ClassId) (st : Nat → Nat) (lo : Nat) (a : Nat → Nat) (tx : Nat) (t0 : Nat) (we : Nat) (rd : Nat) (ru : Nat) (rw : Nat) (ca : Nat) (fp : Int32) (wd : Int64) (nu : Int32) (na : Int32) (ts : Int32) (df : Int32) (db : Int32) (sd : Int32) (freadSingle : Nat → Int32)  : CWv l D k st lo yX8_bare cX8_bare 1 none ({ frames := 0, cells := 0, slots := 0, locals := 0 }) 0 0 [.ref (a 0)] [((a 0), .inr (8, (fX8 a (nI tx) fp (nI t0) wd (nI we) nu na (nI rd) ts (nI ru) (nI rw) (nI ca) df db sd))), (aI k (a 16) 9 freadSingle)] (fun (u : Nat × Int32 × (Nat → Int32)) => match u with | (rd_, ts_, freadSingle_) => rd_ = 0 ∧ ts_ = 0 ∧ gM freadSingle_ = nG zNT ∧ rsOK freadSingle_) (fun (u : Nat × Int32 × (Nat → Int32)) => match u with | (rd_, ts_, freadSingle_) => [((a 0), .inr (8, (fX8 a (nI tx) fp (nI t0) wd (nI we) nu na (nI rd_) ts_ (nI ru) (nI rw) (nI ca) df db sd))), (aI k (a 16) 9 freadSingle_)]) := by
  intro sz
  refine Met.ofW (cc := cX8_bare) (maxL := 1) (ret := none) (by decide) rfl ?_
  intro p e s m args below meth c s₁ B hml hv
  obtain ⟨rfl, hsz, hlo, hP, hK, hDL, hZ⟩ := hv
  have hx := B.exec
  have hb := B.bytes
  have hr := B.returns
  have hts := WS_ts B.pre
  have hown : s.vm.findClass RX8 = some m.cls := findClass_of_methodNamed B.named
  have hlocks := B.notSynchronized
  subst hsz
  have hD := hDL.self (sz := s.heap.size)
  have hAlo := A_lo hDL hlo
  generalize hAe : va_A [((a 0), .inr (8, (fX8 a (nI tx) fp (nI t0) wd (nI we) nu na (nI rd) ts (nI ru) (nI rw) (nI ca) df db sd))), (aI k (a 16) 9 freadSingle)] s.heap.size = A at hD hAlo ⊢
  have hA : ∀ q : Nat, s.heap.size ≤ q → A q := fun q h => by rw [← hAe]; exact Or.inr h
  have hS : va_S A s.heap s.heap [] := va_S.rf
  have hl := lv_entry ([.ref (a 0)]) (n := 1) (Nat.le_of_ble_eq_true rfl)
  rw [lg_entry_eq]
  generalize (lg_sl ([.ref (a 0)]) ++ List.replicate (1 - (lg_sl ([.ref (a 0)])).length) Slot.unset).toArray = ls at hl ⊢
  have hl : lv_has ls 1 [(0, .ref (a 0))] := hl
  refine lv_aload_n hx hb dX8_bare_0 rfl (lv_at hl 0 rfl) ?_
  refine lv_iconst (v := 0) hx hb dX8_bare_1 (by decide) ?_
  refine va_put (D := D) (ci := 8) (v := .int 0) (ty := .int) (C := RX8) (T := TX8) (N := 44) hx hb hts inX8 tyX8 tyX8_ok nmX8 hown hK hP hD hS 0 rfl rfl 12 (by decide) (hts _ tw_985) (fun _ h9 => h9) rfl (by decide +kernel) rfl rfl (Nat.le_of_ble_eq_true rfl) dX8_bare_2 (fun H locs hP hD hS => ?_)
  replace hP : va_P D classes [((a 0), .inr (8, (fX8 a (nI tx) fp (nI t0) wd (nI we) nu na 0 ts (nI ru) (nI rw) (nI ca) df db sd))), (aI k (a 16) 9 freadSingle)] H := hP
  replace hD : va_D A [((a 0), .inr (8, (fX8 a (nI tx) fp (nI t0) wd (nI we) nu na 0 ts (nI ru) (nI rw) (nI ca) df db sd))), (aI k (a 16) 9 freadSingle)] := hD
  refine lv_aload_n hx hb dX8_bare_5 rfl (lv_at hl 0 rfl) ?_
  refine lv_iconst (v := 0) hx hb dX8_bare_6 (by decide) ?_
  refine va_put (D := D) (ci := 8) (v := .int 0) (ty := .int) (C := RX8) (T := TX8) (N := 44) hx hb hts inX8 tyX8 tyX8_ok nmX8 hown hK hP hD hS 0 rfl rfl 16 (by decide) (hts _ tw_989) (fun _ h9 => h9) rfl (by decide +kernel) rfl rfl (Nat.le_of_ble_eq_true rfl) dX8_bare_7 (fun H locs hP hD hS => ?_)
  replace hP : va_P D classes [((a 0), .inr (8, (fX8 a (nI tx) fp (nI t0) wd (nI we) nu na 0 0 (nI ru) (nI rw) (nI ca) df db sd))), (aI k (a 16) 9 freadSingle)] H := hP
  replace hD : va_D A [((a 0), .inr (8, (fX8 a (nI tx) fp (nI t0) wd (nI we) nu na 0 0 (nI ru) (nI rw) (nI ca) df db sd))), (aI k (a 16) 9 freadSingle)] := hD
  refine lv_aload_n hx hb dX8_bare_10 rfl (lv_at hl 0 rfl) ?_
  refine va_get (D := D) (ci := 8) (v := .ref (a 16)) (C := RX8) (T := TX8) (N := 44) hx hb hts inX8 hown hK hP 0 rfl rfl 15 (by decide) (hts _ tw_988) (fun _ h9 => h9) rfl dX8_bare_11 ?_
  refine lv_iconst (v := 0) hx hb dX8_bare_14 (by decide) ?_
  refine lv_iconst (v := 0) hx hb dX8_bare_15 (by decide) ?_
  refine va_iast hx hb hK hP hD hS 1 1 rfl rfl (by unfold vp_in; decide) dX8_bare_16 (fun H locs hP hD hS => ?_)
  replace hP : va_P D classes [((a 0), .inr (8, (fX8 a (nI tx) fp (nI t0) wd (nI we) nu na 0 0 (nI ru) (nI rw) (nI ca) df db sd))), (aI k (a 16) 9 (upd freadSingle (Int32.toNatClampNeg 0) 0))] H := hP
  replace hD : va_D A [((a 0), .inr (8, (fX8 a (nI tx) fp (nI t0) wd (nI we) nu na 0 0 (nI ru) (nI rw) (nI ca) df db sd))), (aI k (a 16) 9 (upd freadSingle (Int32.toNatClampNeg 0) 0))] := hD
  replace hP : va_P D classes [((a 0), .inr (8, (fX8 a (nI tx) fp (nI t0) wd (nI we) nu na 0 0 (nI ru) (nI rw) (nI ca) df db sd))), (aI k (a 16) 9 (upd freadSingle 0 0))] H := hP
  replace hD : va_D A [((a 0), .inr (8, (fX8 a (nI tx) fp (nI t0) wd (nI we) nu na 0 0 (nI ru) (nI rw) (nI ca) df db sd))), (aI k (a 16) 9 (upd freadSingle 0 0))] := hD
  refine lv_aload_n hx hb dX8_bare_17 rfl (lv_at hl 0 rfl) ?_
  refine va_get (D := D) (ci := 8) (v := .ref (a 16)) (C := RX8) (T := TX8) (N := 44) hx hb hts inX8 hown hK hP 0 rfl rfl 15 (by decide) (hts _ tw_988) (fun _ h9 => h9) rfl dX8_bare_18 ?_
  refine lv_iconst (v := 1) hx hb dX8_bare_21 (by decide) ?_
  refine lv_iconst (v := 2) hx hb dX8_bare_22 (by decide) ?_
  refine va_iast hx hb hK hP hD hS 1 1 rfl rfl (by unfold vp_in; decide) dX8_bare_23 (fun H locs hP hD hS => ?_)
  replace hP : va_P D classes [((a 0), .inr (8, (fX8 a (nI tx) fp (nI t0) wd (nI we) nu na 0 0 (nI ru) (nI rw) (nI ca) df db sd))), (aI k (a 16) 9 (upd (upd freadSingle 0 0) (Int32.toNatClampNeg 1) 2))] H := hP
  replace hD : va_D A [((a 0), .inr (8, (fX8 a (nI tx) fp (nI t0) wd (nI we) nu na 0 0 (nI ru) (nI rw) (nI ca) df db sd))), (aI k (a 16) 9 (upd (upd freadSingle 0 0) (Int32.toNatClampNeg 1) 2))] := hD
  replace hP : va_P D classes [((a 0), .inr (8, (fX8 a (nI tx) fp (nI t0) wd (nI we) nu na 0 0 (nI ru) (nI rw) (nI ca) df db sd))), (aI k (a 16) 9 (upd (upd freadSingle 0 0) 1 2))] H := hP
  replace hD : va_D A [((a 0), .inr (8, (fX8 a (nI tx) fp (nI t0) wd (nI we) nu na 0 0 (nI ru) (nI rw) (nI ca) df db sd))), (aI k (a 16) 9 (upd (upd freadSingle 0 0) 1 2))] := hD
  refine lv_aload_n hx hb dX8_bare_24 rfl (lv_at hl 0 rfl) ?_
  refine va_get (D := D) (ci := 8) (v := .ref (a 16)) (C := RX8) (T := TX8) (N := 44) hx hb hts inX8 hown hK hP 0 rfl rfl 15 (by decide) (hts _ tw_988) (fun _ h9 => h9) rfl dX8_bare_25 ?_
  refine lv_iconst (v := 2) hx hb dX8_bare_28 (by decide) ?_
  refine lv_iconst (v := 1) hx hb dX8_bare_29 (by decide) ?_
  refine va_iast hx hb hK hP hD hS 1 1 rfl rfl (by unfold vp_in; decide) dX8_bare_30 (fun H locs hP hD hS => ?_)
  replace hP : va_P D classes [((a 0), .inr (8, (fX8 a (nI tx) fp (nI t0) wd (nI we) nu na 0 0 (nI ru) (nI rw) (nI ca) df db sd))), (aI k (a 16) 9 (upd (upd (upd freadSingle 0 0) 1 2) (Int32.toNatClampNeg 2) 1))] H := hP
  replace hD : va_D A [((a 0), .inr (8, (fX8 a (nI tx) fp (nI t0) wd (nI we) nu na 0 0 (nI ru) (nI rw) (nI ca) df db sd))), (aI k (a 16) 9 (upd (upd (upd freadSingle 0 0) 1 2) (Int32.toNatClampNeg 2) 1))] := hD
  replace hP : va_P D classes [((a 0), .inr (8, (fX8 a (nI tx) fp (nI t0) wd (nI we) nu na 0 0 (nI ru) (nI rw) (nI ca) df db sd))), (aI k (a 16) 9 (upd (upd (upd freadSingle 0 0) 1 2) 2 1))] H := hP
  replace hD : va_D A [((a 0), .inr (8, (fX8 a (nI tx) fp (nI t0) wd (nI we) nu na 0 0 (nI ru) (nI rw) (nI ca) df db sd))), (aI k (a 16) 9 (upd (upd (upd freadSingle 0 0) 1 2) 2 1))] := hD
  refine lv_aload_n hx hb dX8_bare_31 rfl (lv_at hl 0 rfl) ?_
  refine va_get (D := D) (ci := 8) (v := .ref (a 16)) (C := RX8) (T := TX8) (N := 44) hx hb hts inX8 hown hK hP 0 rfl rfl 15 (by decide) (hts _ tw_988) (fun _ h9 => h9) rfl dX8_bare_32 ?_
  refine lv_iconst (v := 3) hx hb dX8_bare_35 (by decide) ?_
  refine lv_iconst (v := 5) hx hb dX8_bare_36 (by decide) ?_
  refine va_iast hx hb hK hP hD hS 1 1 rfl rfl (by unfold vp_in; decide) dX8_bare_37 (fun H locs hP hD hS => ?_)
  replace hP : va_P D classes [((a 0), .inr (8, (fX8 a (nI tx) fp (nI t0) wd (nI we) nu na 0 0 (nI ru) (nI rw) (nI ca) df db sd))), (aI k (a 16) 9 (upd (upd (upd (upd freadSingle 0 0) 1 2) 2 1) (Int32.toNatClampNeg 3) 5))] H := hP
  replace hD : va_D A [((a 0), .inr (8, (fX8 a (nI tx) fp (nI t0) wd (nI we) nu na 0 0 (nI ru) (nI rw) (nI ca) df db sd))), (aI k (a 16) 9 (upd (upd (upd (upd freadSingle 0 0) 1 2) 2 1) (Int32.toNatClampNeg 3) 5))] := hD
  replace hP : va_P D classes [((a 0), .inr (8, (fX8 a (nI tx) fp (nI t0) wd (nI we) nu na 0 0 (nI ru) (nI rw) (nI ca) df db sd))), (aI k (a 16) 9 (upd (upd (upd (upd freadSingle 0 0) 1 2) 2 1) 3 5))] H := hP
  replace hD : va_D A [((a 0), .inr (8, (fX8 a (nI tx) fp (nI t0) wd (nI we) nu na 0 0 (nI ru) (nI rw) (nI ca) df db sd))), (aI k (a 16) 9 (upd (upd (upd (upd freadSingle 0 0) 1 2) 2 1) 3 5))] := hD
  refine lv_aload_n hx hb dX8_bare_38 rfl (lv_at hl 0 rfl) ?_
  refine va_get (D := D) (ci := 8) (v := .ref (a 16)) (C := RX8) (T := TX8) (N := 44) hx hb hts inX8 hown hK hP 0 rfl rfl 15 (by decide) (hts _ tw_988) (fun _ h9 => h9) rfl dX8_bare_39 ?_
  refine lv_iconst (v := 4) hx hb dX8_bare_42 (by decide) ?_
  refine lv_bipush (v := 30) hx hb dX8_bare_43 (by decide) ?_
  refine va_iast hx hb hK hP hD hS 1 1 rfl rfl (by unfold vp_in; decide) dX8_bare_45 (fun H locs hP hD hS => ?_)
  replace hP : va_P D classes [((a 0), .inr (8, (fX8 a (nI tx) fp (nI t0) wd (nI we) nu na 0 0 (nI ru) (nI rw) (nI ca) df db sd))), (aI k (a 16) 9 (upd (upd (upd (upd (upd freadSingle 0 0) 1 2) 2 1) 3 5) (Int32.toNatClampNeg 4) 30))] H := hP
  replace hD : va_D A [((a 0), .inr (8, (fX8 a (nI tx) fp (nI t0) wd (nI we) nu na 0 0 (nI ru) (nI rw) (nI ca) df db sd))), (aI k (a 16) 9 (upd (upd (upd (upd (upd freadSingle 0 0) 1 2) 2 1) 3 5) (Int32.toNatClampNeg 4) 30))] := hD
  replace hP : va_P D classes [((a 0), .inr (8, (fX8 a (nI tx) fp (nI t0) wd (nI we) nu na 0 0 (nI ru) (nI rw) (nI ca) df db sd))), (aI k (a 16) 9 (upd (upd (upd (upd (upd freadSingle 0 0) 1 2) 2 1) 3 5) 4 30))] H := hP
  replace hD : va_D A [((a 0), .inr (8, (fX8 a (nI tx) fp (nI t0) wd (nI we) nu na 0 0 (nI ru) (nI rw) (nI ca) df db sd))), (aI k (a 16) 9 (upd (upd (upd (upd (upd freadSingle 0 0) 1 2) 2 1) 3 5) 4 30))] := hD
  refine lv_aload_n hx hb dX8_bare_46 rfl (lv_at hl 0 rfl) ?_
  refine va_get (D := D) (ci := 8) (v := .ref (a 16)) (C := RX8) (T := TX8) (N := 44) hx hb hts inX8 hown hK hP 0 rfl rfl 15 (by decide) (hts _ tw_988) (fun _ h9 => h9) rfl dX8_bare_47 ?_
  refine lv_iconst (v := 5) hx hb dX8_bare_50 (by decide) ?_
  refine lv_iconst (v := 1) hx hb dX8_bare_51 (by decide) ?_
  refine va_iast hx hb hK hP hD hS 1 1 rfl rfl (by unfold vp_in; decide) dX8_bare_52 (fun H locs hP hD hS => ?_)
  replace hP : va_P D classes [((a 0), .inr (8, (fX8 a (nI tx) fp (nI t0) wd (nI we) nu na 0 0 (nI ru) (nI rw) (nI ca) df db sd))), (aI k (a 16) 9 (upd (upd (upd (upd (upd (upd freadSingle 0 0) 1 2) 2 1) 3 5) 4 30) (Int32.toNatClampNeg 5) 1))] H := hP
  replace hD : va_D A [((a 0), .inr (8, (fX8 a (nI tx) fp (nI t0) wd (nI we) nu na 0 0 (nI ru) (nI rw) (nI ca) df db sd))), (aI k (a 16) 9 (upd (upd (upd (upd (upd (upd freadSingle 0 0) 1 2) 2 1) 3 5) 4 30) (Int32.toNatClampNeg 5) 1))] := hD
  replace hP : va_P D classes [((a 0), .inr (8, (fX8 a (nI tx) fp (nI t0) wd (nI we) nu na 0 0 (nI ru) (nI rw) (nI ca) df db sd))), (aI k (a 16) 9 (upd (upd (upd (upd (upd (upd freadSingle 0 0) 1 2) 2 1) 3 5) 4 30) 5 1))] H := hP
  replace hD : va_D A [((a 0), .inr (8, (fX8 a (nI tx) fp (nI t0) wd (nI we) nu na 0 0 (nI ru) (nI rw) (nI ca) df db sd))), (aI k (a 16) 9 (upd (upd (upd (upd (upd (upd freadSingle 0 0) 1 2) 2 1) 3 5) 4 30) 5 1))] := hD
  refine lv_aload_n hx hb dX8_bare_53 rfl (lv_at hl 0 rfl) ?_
  refine va_get (D := D) (ci := 8) (v := .ref (a 16)) (C := RX8) (T := TX8) (N := 44) hx hb hts inX8 hown hK hP 0 rfl rfl 15 (by decide) (hts _ tw_988) (fun _ h9 => h9) rfl dX8_bare_54 ?_
  refine lv_bipush (v := 6) hx hb dX8_bare_57 (by decide) ?_
  refine lv_bipush (v := 10) hx hb dX8_bare_59 (by decide) ?_
  refine va_iast hx hb hK hP hD hS 1 1 rfl rfl (by unfold vp_in; decide) dX8_bare_61 (fun H locs hP hD hS => ?_)
  replace hP : va_P D classes [((a 0), .inr (8, (fX8 a (nI tx) fp (nI t0) wd (nI we) nu na 0 0 (nI ru) (nI rw) (nI ca) df db sd))), (aI k (a 16) 9 (upd (upd (upd (upd (upd (upd (upd freadSingle 0 0) 1 2) 2 1) 3 5) 4 30) 5 1) (Int32.toNatClampNeg 6) 10))] H := hP
  replace hD : va_D A [((a 0), .inr (8, (fX8 a (nI tx) fp (nI t0) wd (nI we) nu na 0 0 (nI ru) (nI rw) (nI ca) df db sd))), (aI k (a 16) 9 (upd (upd (upd (upd (upd (upd (upd freadSingle 0 0) 1 2) 2 1) 3 5) 4 30) 5 1) (Int32.toNatClampNeg 6) 10))] := hD
  replace hP : va_P D classes [((a 0), .inr (8, (fX8 a (nI tx) fp (nI t0) wd (nI we) nu na 0 0 (nI ru) (nI rw) (nI ca) df db sd))), (aI k (a 16) 9 (upd (upd (upd (upd (upd (upd (upd freadSingle 0 0) 1 2) 2 1) 3 5) 4 30) 5 1) 6 10))] H := hP
  replace hD : va_D A [((a 0), .inr (8, (fX8 a (nI tx) fp (nI t0) wd (nI we) nu na 0 0 (nI ru) (nI rw) (nI ca) df db sd))), (aI k (a 16) 9 (upd (upd (upd (upd (upd (upd (upd freadSingle 0 0) 1 2) 2 1) 3 5) 4 30) 5 1) 6 10))] := hD
  refine lv_aload_n hx hb dX8_bare_62 rfl (lv_at hl 0 rfl) ?_
  refine va_get (D := D) (ci := 8) (v := .ref (a 16)) (C := RX8) (T := TX8) (N := 44) hx hb hts inX8 hown hK hP 0 rfl rfl 15 (by decide) (hts _ tw_988) (fun _ h9 => h9) rfl dX8_bare_63 ?_
  refine lv_bipush (v := 7) hx hb dX8_bare_66 (by decide) ?_
  refine lv_iconst (v := 0) hx hb dX8_bare_68 (by decide) ?_
  refine va_iast hx hb hK hP hD hS 1 1 rfl rfl (by unfold vp_in; decide) dX8_bare_69 (fun H locs hP hD hS => ?_)
  replace hP : va_P D classes [((a 0), .inr (8, (fX8 a (nI tx) fp (nI t0) wd (nI we) nu na 0 0 (nI ru) (nI rw) (nI ca) df db sd))), (aI k (a 16) 9 (upd (upd (upd (upd (upd (upd (upd (upd freadSingle 0 0) 1 2) 2 1) 3 5) 4 30) 5 1) 6 10) (Int32.toNatClampNeg 7) 0))] H := hP
  replace hD : va_D A [((a 0), .inr (8, (fX8 a (nI tx) fp (nI t0) wd (nI we) nu na 0 0 (nI ru) (nI rw) (nI ca) df db sd))), (aI k (a 16) 9 (upd (upd (upd (upd (upd (upd (upd (upd freadSingle 0 0) 1 2) 2 1) 3 5) 4 30) 5 1) 6 10) (Int32.toNatClampNeg 7) 0))] := hD
  replace hP : va_P D classes [((a 0), .inr (8, (fX8 a (nI tx) fp (nI t0) wd (nI we) nu na 0 0 (nI ru) (nI rw) (nI ca) df db sd))), (aI k (a 16) 9 (upd (upd (upd (upd (upd (upd (upd (upd freadSingle 0 0) 1 2) 2 1) 3 5) 4 30) 5 1) 6 10) 7 0))] H := hP
  replace hD : va_D A [((a 0), .inr (8, (fX8 a (nI tx) fp (nI t0) wd (nI we) nu na 0 0 (nI ru) (nI rw) (nI ca) df db sd))), (aI k (a 16) 9 (upd (upd (upd (upd (upd (upd (upd (upd freadSingle 0 0) 1 2) 2 1) 3 5) 4 30) 5 1) 6 10) 7 0))] := hD
  refine lv_aload_n hx hb dX8_bare_70 rfl (lv_at hl 0 rfl) ?_
  refine va_get (D := D) (ci := 8) (v := .ref (a 16)) (C := RX8) (T := TX8) (N := 44) hx hb hts inX8 hown hK hP 0 rfl rfl 15 (by decide) (hts _ tw_988) (fun _ h9 => h9) rfl dX8_bare_71 ?_
  refine lv_bipush (v := 8) hx hb dX8_bare_74 (by decide) ?_
  refine lv_sipush (v := 200) hx hb dX8_bare_76 (by decide) ?_
  refine va_iast hx hb hK hP hD hS 1 1 rfl rfl (by unfold vp_in; decide) dX8_bare_79 (fun H locs hP hD hS => ?_)
  replace hP : va_P D classes [((a 0), .inr (8, (fX8 a (nI tx) fp (nI t0) wd (nI we) nu na 0 0 (nI ru) (nI rw) (nI ca) df db sd))), (aI k (a 16) 9 (upd (upd (upd (upd (upd (upd (upd (upd (upd freadSingle 0 0) 1 2) 2 1) 3 5) 4 30) 5 1) 6 10) 7 0) (Int32.toNatClampNeg 8) 200))] H := hP
  replace hD : va_D A [((a 0), .inr (8, (fX8 a (nI tx) fp (nI t0) wd (nI we) nu na 0 0 (nI ru) (nI rw) (nI ca) df db sd))), (aI k (a 16) 9 (upd (upd (upd (upd (upd (upd (upd (upd (upd freadSingle 0 0) 1 2) 2 1) 3 5) 4 30) 5 1) 6 10) 7 0) (Int32.toNatClampNeg 8) 200))] := hD
  replace hP : va_P D classes [((a 0), .inr (8, (fX8 a (nI tx) fp (nI t0) wd (nI we) nu na 0 0 (nI ru) (nI rw) (nI ca) df db sd))), (aI k (a 16) 9 (upd (upd (upd (upd (upd (upd (upd (upd (upd freadSingle 0 0) 1 2) 2 1) 3 5) 4 30) 5 1) 6 10) 7 0) 8 200))] H := hP
  replace hD : va_D A [((a 0), .inr (8, (fX8 a (nI tx) fp (nI t0) wd (nI we) nu na 0 0 (nI ru) (nI rw) (nI ca) df db sd))), (aI k (a 16) 9 (upd (upd (upd (upd (upd (upd (upd (upd (upd freadSingle 0 0) 1 2) 2 1) 3 5) 4 30) 5 1) 6 10) 7 0) 8 200))] := hD
  have hP9 := hP.sub (ws' := [((a 0), .inr (8, (fX8 a (nI tx) fp (nI t0) wd (nI we) nu na 0 0 (nI ru) (nI rw) (nI ca) df db sd))), (aI k (a 16) 9 (upd (upd (upd (upd (upd (upd (upd (upd (upd freadSingle 0 0) 1 2) 2 1) 3 5) 4 30) 5 1) 6 10) 7 0) 8 200))]) [0, 1] rfl
  have hD9 := hD.sub (ws' := [((a 0), .inr (8, (fX8 a (nI tx) fp (nI t0) wd (nI we) nu na 0 0 (nI ru) (nI rw) (nI ca) df db sd))), (aI k (a 16) 9 (upd (upd (upd (upd (upd (upd (upd (upd (upd freadSingle 0 0) 1 2) 2 1) 3 5) 4 30) 5 1) 6 10) 7 0) 8 200))]) [0, 1] (by decide) rfl
  exact W.vret hx hb hr (fun t ht hW => ⟨⟨(0, 0, (upd (upd (upd (upd (upd (upd (upd (upd (upd freadSingle 0 0) 1 2) 2 1) 3 5) 4 30) 5 1) 6 10) 7 0) 8 200)), rfl, ⟨rfl, rfl, (by funext j; match j with | 0 => rfl | 1 => rfl | 2 => rfl | 3 => rfl | 4 => rfl | 5 => rfl | 6 => rfl | 7 => rfl | 8 => rfl | 9 => rfl | j + 10 => rfl), ⟨1, by omega, rfl⟩, 0, by omega, rfl⟩, by rw [ht]; exact hP9, hD9⟩, hS.F ht⟩) hS.2.2 dX8_bare_80


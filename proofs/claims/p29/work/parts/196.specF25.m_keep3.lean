
set_option maxHeartbeats 4000000 in
set_option maxRecDepth 100000 in
theorem m_keep3 (l : Launch) (D : va_G) (k : Nat → ClassId) (st : Nat → Nat) (lo : Nat) (a : Nat → Nat) (tx : Nat) (t0 : Nat) (we : Nat) (rd : Nat) (ru : Nat) (rw : Nat) (ca : Nat) (fp : Int32) (wd : Int64) (nu : Int32) (na : Int32) (ts : Int32) (df : Int32) (db : Int32) (sd : Int32) (frow : Nat → Int32) (fwalks : Nat → Int32) (br : Nat → Nat) (fisKept : Nat → Int32) (fimages : Nat → Int32) (pz : Int32) (hrw : rw ≤ 24) (hca : ca ≤ 4) (hbr : ∀ j, br j ≤ 24) (him : imOK fimages) : CWi l D k st lo yX8_keep cX8_keep 4 (some .int) ({ frames := 1, cells := 0, slots := 0, locals := 25 }) 0 0 [.ref (a 0), .int pz] [((a 0), .inr (8, (fX8 a (nI tx) fp (nI t0) wd (nI we) nu na (nI rd) ts (nI ru) (nI rw) (nI ca) df db sd))), (aZ k (a 32) 24 frow), (aI k (a 36) 4 fwalks), (aI k (a 37) 4 (nF br)), (aZ k (a 43) 2 fisKept), (aI k (a 44) 70 fimages)] (fun (r : Int32) (u : (Nat → Int32) × (Nat → Int32)) => match u with | (fisKept_, fimages_) => imOK fimages_ ∧ kpI pz 0 (fisKept 0) (fisKept_ 0) (fimages 0) (fimages 1) (fimages_ 0) (fimages_ 1) rw ca ∧ kpI pz 1 (fisKept 1) (fisKept_ 1) (fimages 35) (fimages 36) (fimages_ 35) (fimages_ 36) rw ca ∧ (inB pz 0 1 → r = 1) ∧ (¬ inB pz 0 1 → r = -1001) ∧ kpM pz 0 0 fimages fimages_ sd frow fwalks ∧ kpM pz 1 35 fimages fimages_ sd frow fwalks) (fun (u : (Nat → Int32) × (Nat → Int32)) => match u with | (fisKept_, fimages_) => [((a 0), .inr (8, (fX8 a (nI tx) fp (nI t0) wd (nI we) nu na (nI rd) ts (nI ru) (nI rw) (nI ca) df db sd))), (aZ k (a 32) 24 frow), (aI k (a 36) 4 fwalks), (aI k (a 37) 4 (nF br)), (aZ k (a 43) 2 fisKept_), (aI k (a 44) 70 fimages_)]) := by
  intro sz
  refine Met.ofW (cc := cX8_keep) (maxL := 4) (ret := (some .int)) (by decide) rfl ?_
  intro p e s m args below meth c s₁ B hml hv
  obtain ⟨rfl, hsz, hlo, hP, hK, hDL, hZ⟩ := hv
  have hx := B.exec
  have hb := B.bytes
  have hr := B.returns
  have hts := WS_ts B.pre
  have hown : s.vm.findClass RX8 = some m.cls := findClass_of_methodNamed B.named
  have hlocks := B.notSynchronized
  subst hsz
  have hD := hDL.self (sz := s.heap.size)
  have hAlo := A_lo hDL hlo
  generalize hAe : va_A [((a 0), .inr (8, (fX8 a (nI tx) fp (nI t0) wd (nI we) nu na (nI rd) ts (nI ru) (nI rw) (nI ca) df db sd))), (aZ k (a 32) 24 frow), (aI k (a 36) 4 fwalks), (aI k (a 37) 4 (nF br)), (aZ k (a 43) 2 fisKept), (aI k (a 44) 70 fimages)] s.heap.size = A at hD hAlo ⊢
  have hA : ∀ q : Nat, s.heap.size ≤ q → A q := fun q h => by rw [← hAe]; exact Or.inr h
  have hS : va_S A s.heap s.heap [] := va_S.rf
  have hl := lv_entry ([.ref (a 0), .int pz]) (n := 4) (Nat.le_of_ble_eq_true rfl)
  rw [lg_entry_eq]
  generalize (lg_sl ([.ref (a 0), .int pz]) ++ List.replicate (4 - (lg_sl ([.ref (a 0), .int pz])).length) Slot.unset).toArray = ls at hl ⊢
  have hl : lv_has ls 4 [(0, .ref (a 0)), (1, .int pz)] := hl
  refine lv_iload_n hx hb dX8_keep_0 rfl (lv_at hl 1 rfl) ?_
  refine lv_i2l (v := pz.toInt64) hx hb dX8_keep_1 rfl ?_
  refine lv_lconst (v := (0 : Int32).toInt64) hx hb dX8_keep_2 (by decide) ?_
  refine lv_lconst (v := (1 : Int32).toInt64) hx hb dX8_keep_3 (by decide) ?_
  refine ro_i (D := D) (va_runS (As := [.long (pz.toInt64), .long ((0 : Int32).toInt64), .long ((1 : Int32).toInt64)]) (rest := []) ⟨hx, hb, hml, hown, hts⟩ ((k_in l D k st lo pz (0 : Int32) (1 : Int32)) s.heap.size) (va_cwS 3 hts (gS tw_1111 tw_1112 tw_87 tw_1113) rfl rfl rfl (by decide +kernel) ⟨Nat.le_of_ble_eq_true rfl, Nat.le_of_ble_eq_true rfl⟩) (pS hS hAlo hlo hP hK (va_Dlo hD hAlo) hZ [] (by decide) rfl) rfl rfl hl.1 rfl (lv_room (Nat.le_of_ble_eq_true rfl)) dX8_keep_4 ⟨Nat.le_of_ble_eq_true rfl, Nat.le_of_ble_eq_true rfl⟩) hS hA hP (fun r_1 H locs hw_1 hP hS => ?_)
  try dsimp only at hw_1
  rcases hw_1 with ⟨rfl, hw_1⟩ | ⟨rfl, hw_1⟩
  · refine lv_if_ne (tgt := 14) hx hb dX8_keep_7 (by decide) (fun _ => ?_) (fun h => absurd h (by decide))
    rcases spl2 hw_1 with rfl | rfl
    · refine lv_bipush (v := 35) hx hb dX8_keep_14 (by decide) ?_
      refine lv_iload_n hx hb dX8_keep_16 rfl (lv_at hl 1 rfl) ?_
      refine lv_imul hx hb dX8_keep_17 ?_
      refine lv_ti (y := 0) (by decide) ?_
      refine lv_istore_n (lv' := [(2, .int 0), (0, .ref (a 0)), (1, .int 0)]) hx hb dX8_keep_18 rfl hl (by decide) rfl (fun ls hl => ?_)
      refine lv_aload_n hx hb dX8_keep_19 rfl (lv_at hl 1 rfl) ?_
      refine va_get (D := D) (ci := 8) (v := .ref (a 44)) (C := RX8) (T := TX8) (N := 44) hx hb hts inX8 hown hK hP 0 rfl rfl 43 (by decide) (hts _ tw_1016) (fun _ h9 => h9) rfl dX8_keep_20 ?_
      refine lv_iload_n hx hb dX8_keep_23 rfl (lv_at hl 0 rfl) ?_
      refine lv_aload_n hx hb dX8_keep_24 rfl (lv_at hl 1 rfl) ?_
      refine va_get (D := D) (ci := 8) (v := .int (nI rw)) (C := RX8) (T := TX8) (N := 44) hx hb hts inX8 hown hK hP 0 rfl rfl 30 (by decide) (hts _ tw_1003) (fun _ h9 => h9) rfl dX8_keep_25 ?_
      refine va_iast hx hb hK hP hD hS 5 1 rfl rfl (by unfold vp_in; decide) dX8_keep_28 (fun H locs hP hD hS => ?_)
      replace hP : va_P D classes [((a 0), .inr (8, (fX8 a (nI tx) fp (nI t0) wd (nI we) nu na (nI rd) ts (nI ru) (nI rw) (nI ca) df db sd))), (aZ k (a 32) 24 frow), (aI k (a 36) 4 fwalks), (aI k (a 37) 4 (nF br)), (aZ k (a 43) 2 fisKept), (aI k (a 44) 70 (upd fimages (Int32.toNatClampNeg 0) (nI rw)))] H := hP
      replace hD : va_D A [((a 0), .inr (8, (fX8 a (nI tx) fp (nI t0) wd (nI we) nu na (nI rd) ts (nI ru) (nI rw) (nI ca) df db sd))), (aZ k (a 32) 24 frow), (aI k (a 36) 4 fwalks), (aI k (a 37) 4 (nF br)), (aZ k (a 43) 2 fisKept), (aI k (a 44) 70 (upd fimages (Int32.toNatClampNeg 0) (nI rw)))] := hD
      replace hP : va_P D classes [((a 0), .inr (8, (fX8 a (nI tx) fp (nI t0) wd (nI we) nu na (nI rd) ts (nI ru) (nI rw) (nI ca) df db sd))), (aZ k (a 32) 24 frow), (aI k (a 36) 4 fwalks), (aI k (a 37) 4 (nF br)), (aZ k (a 43) 2 fisKept), (aI k (a 44) 70 (upd fimages 0 (nI rw)))] H := hP
      replace hD : va_D A [((a 0), .inr (8, (fX8 a (nI tx) fp (nI t0) wd (nI we) nu na (nI rd) ts (nI ru) (nI rw) (nI ca) df db sd))), (aZ k (a 32) 24 frow), (aI k (a 36) 4 fwalks), (aI k (a 37) 4 (nF br)), (aZ k (a 43) 2 fisKept), (aI k (a 44) 70 (upd fimages 0 (nI rw)))] := hD
      have him_3 : imOK (upd fimages 0 (nI rw)) := imOK_upd him 0 (nI rw) ⟨fun _ => ⟨rw, by omega, rfl⟩, fun h => absurd h (by omega), fun h => absurd h (by omega)⟩
      have hfO_3 : ∀ x, ¬ (0 ≤ x ∧ x < 35) → (upd fimages 0 (nI rw)) x = fimages x := fun x hx => (upd_ne (by omega)).trans ((fun _ _ => rfl) x hx)
      have hft0_3 : (upd fimages 0 (nI rw)) 0 = (nI rw) := upd_eq
      generalize (upd fimages 0 (nI rw)) = f_3 at hP hD him_3 hfO_3 hft0_3
      refine lv_aload_n hx hb dX8_keep_29 rfl (lv_at hl 1 rfl) ?_
      refine va_get (D := D) (ci := 8) (v := .ref (a 44)) (C := RX8) (T := TX8) (N := 44) hx hb hts inX8 hown hK hP 0 rfl rfl 43 (by decide) (hts _ tw_1016) (fun _ h9 => h9) rfl dX8_keep_30 ?_
      refine lv_iload_n hx hb dX8_keep_33 rfl (lv_at hl 0 rfl) ?_
      refine lv_iconst (v := 1) hx hb dX8_keep_34 (by decide) ?_
      refine lv_iadd hx hb dX8_keep_35 ?_
      refine lv_ti (y := 1) (by decide) ?_
      refine lv_aload_n hx hb dX8_keep_36 rfl (lv_at hl 1 rfl) ?_
      refine va_get (D := D) (ci := 8) (v := .int (nI ca)) (C := RX8) (T := TX8) (N := 44) hx hb hts inX8 hown hK hP 0 rfl rfl 34 (by decide) (hts _ tw_1007) (fun _ h9 => h9) rfl dX8_keep_37 ?_
      refine va_iast hx hb hK hP hD hS 5 1 rfl rfl (by unfold vp_in; decide) dX8_keep_40 (fun H locs hP hD hS => ?_)
      replace hP : va_P D classes [((a 0), .inr (8, (fX8 a (nI tx) fp (nI t0) wd (nI we) nu na (nI rd) ts (nI ru) (nI rw) (nI ca) df db sd))), (aZ k (a 32) 24 frow), (aI k (a 36) 4 fwalks), (aI k (a 37) 4 (nF br)), (aZ k (a 43) 2 fisKept), (aI k (a 44) 70 (upd f_3 (Int32.toNatClampNeg 1) (nI ca)))] H := hP
      replace hD : va_D A [((a 0), .inr (8, (fX8 a (nI tx) fp (nI t0) wd (nI we) nu na (nI rd) ts (nI ru) (nI rw) (nI ca) df db sd))), (aZ k (a 32) 24 frow), (aI k (a 36) 4 fwalks), (aI k (a 37) 4 (nF br)), (aZ k (a 43) 2 fisKept), (aI k (a 44) 70 (upd f_3 (Int32.toNatClampNeg 1) (nI ca)))] := hD
      replace hP : va_P D classes [((a 0), .inr (8, (fX8 a (nI tx) fp (nI t0) wd (nI we) nu na (nI rd) ts (nI ru) (nI rw) (nI ca) df db sd))), (aZ k (a 32) 24 frow), (aI k (a 36) 4 fwalks), (aI k (a 37) 4 (nF br)), (aZ k (a 43) 2 fisKept), (aI k (a 44) 70 (upd f_3 1 (nI ca)))] H := hP
      replace hD : va_D A [((a 0), .inr (8, (fX8 a (nI tx) fp (nI t0) wd (nI we) nu na (nI rd) ts (nI ru) (nI rw) (nI ca) df db sd))), (aZ k (a 32) 24 frow), (aI k (a 36) 4 fwalks), (aI k (a 37) 4 (nF br)), (aZ k (a 43) 2 fisKept), (aI k (a 44) 70 (upd f_3 1 (nI ca)))] := hD
      have him_5 : imOK (upd f_3 1 (nI ca)) := imOK_upd him_3 1 (nI ca) ⟨fun h => absurd h (by omega), fun _ => ⟨ca, by omega, rfl⟩, fun h => absurd h (by omega)⟩
      have hfO_5 : ∀ x, ¬ (0 ≤ x ∧ x < 35) → (upd f_3 1 (nI ca)) x = fimages x := fun x hx => (upd_ne (by omega)).trans (hfO_3 x hx)
      have hft0_5 : (upd f_3 1 (nI ca)) 0 = (nI rw) := (upd_ne (by omega)).trans hft0_3
      have hft1_5 : (upd f_3 1 (nI ca)) 1 = (nI ca) := upd_eq
      generalize (upd f_3 1 (nI ca)) = f_5 at hP hD him_5 hfO_5 hft0_5 hft1_5
      refine lv_aload_n hx hb dX8_keep_41 rfl (lv_at hl 1 rfl) ?_
      refine va_get (D := D) (ci := 8) (v := .ref (a 44)) (C := RX8) (T := TX8) (N := 44) hx hb hts inX8 hown hK hP 0 rfl rfl 43 (by decide) (hts _ tw_1016) (fun _ h9 => h9) rfl dX8_keep_42 ?_
      refine lv_iload_n hx hb dX8_keep_45 rfl (lv_at hl 0 rfl) ?_
      refine lv_iconst (v := 2) hx hb dX8_keep_46 (by decide) ?_
      refine lv_iadd hx hb dX8_keep_47 ?_
      refine lv_ti (y := 2) (by decide) ?_
      refine lv_aload_n hx hb dX8_keep_48 rfl (lv_at hl 1 rfl) ?_
      refine va_get (D := D) (ci := 8) (v := .int sd) (C := RX8) (T := TX8) (N := 44) hx hb hts inX8 hown hK hP 0 rfl rfl 41 (by decide) (hts _ tw_1014) (fun _ h9 => h9) rfl dX8_keep_49 ?_
      refine va_iast hx hb hK hP hD hS 5 1 rfl rfl (by unfold vp_in; decide) dX8_keep_52 (fun H locs hP hD hS => ?_)
      replace hP : va_P D classes [((a 0), .inr (8, (fX8 a (nI tx) fp (nI t0) wd (nI we) nu na (nI rd) ts (nI ru) (nI rw) (nI ca) df db sd))), (aZ k (a 32) 24 frow), (aI k (a 36) 4 fwalks), (aI k (a 37) 4 (nF br)), (aZ k (a 43) 2 fisKept), (aI k (a 44) 70 (upd f_5 (Int32.toNatClampNeg 2) sd))] H := hP
      replace hD : va_D A [((a 0), .inr (8, (fX8 a (nI tx) fp (nI t0) wd (nI we) nu na (nI rd) ts (nI ru) (nI rw) (nI ca) df db sd))), (aZ k (a 32) 24 frow), (aI k (a 36) 4 fwalks), (aI k (a 37) 4 (nF br)), (aZ k (a 43) 2 fisKept), (aI k (a 44) 70 (upd f_5 (Int32.toNatClampNeg 2) sd))] := hD
      replace hP : va_P D classes [((a 0), .inr (8, (fX8 a (nI tx) fp (nI t0) wd (nI we) nu na (nI rd) ts (nI ru) (nI rw) (nI ca) df db sd))), (aZ k (a 32) 24 frow), (aI k (a 36) 4 fwalks), (aI k (a 37) 4 (nF br)), (aZ k (a 43) 2 fisKept), (aI k (a 44) 70 (upd f_5 2 sd))] H := hP
      replace hD : va_D A [((a 0), .inr (8, (fX8 a (nI tx) fp (nI t0) wd (nI we) nu na (nI rd) ts (nI ru) (nI rw) (nI ca) df db sd))), (aZ k (a 32) 24 frow), (aI k (a 36) 4 fwalks), (aI k (a 37) 4 (nF br)), (aZ k (a 43) 2 fisKept), (aI k (a 44) 70 (upd f_5 2 sd))] := hD
      have him_7 : imOK (upd f_5 2 sd) := imOK_upd him_5 2 sd ⟨fun h => absurd h (by omega), fun h => absurd h (by omega), fun h => absurd h (by omega)⟩
      have hfO_7 : ∀ x, ¬ (0 ≤ x ∧ x < 35) → (upd f_5 2 sd) x = fimages x := fun x hx => (upd_ne (by omega)).trans (hfO_5 x hx)
      have hft0_7 : (upd f_5 2 sd) 0 = (nI rw) := (upd_ne (by omega)).trans hft0_5
      have hft1_7 : (upd f_5 2 sd) 1 = (nI ca) := (upd_ne (by omega)).trans hft1_5
      have hft2_7 : (upd f_5 2 sd) 2 = sd := upd_eq
      generalize (upd f_5 2 sd) = f_7 at hP hD him_7 hfO_7 hft0_7 hft1_7 hft2_7
      refine lv_iconst (v := 0) hx hb dX8_keep_53 (by decide) ?_
      refine lv_istore_n (lv' := [(3, .int 0), (2, .int 0), (0, .ref (a 0)), (1, .int 0)]) hx hb dX8_keep_54 rfl hl (by decide) rfl (fun ls hl => ?_)
      refine W_loop (σ := Nat × (Nat → Int32)) (fun (n_ : Nat) (x_ : Nat × (Nat → Int32)) (H : Heap) (locs : List Loc) (ls : Array Slot) => match x_ with | (kk_8, im_8) => n_ = 24 - kk_8 ∧ ((kk_8 ≤ 24) ∧ imOK im_8 ∧ (im_8 0 = (nI rw)) ∧ (im_8 1 = (nI ca)) ∧ (im_8 2 = sd) ∧ (∀ x, ¬ (0 ≤ x ∧ x < 35) → im_8 x = fimages x) ∧ (∀ i, i < kk_8 → im_8 (3 + i) = b01 (frow i))) ∧ va_P D classes [((a 0), .inr (8, (fX8 a (nI tx) fp (nI t0) wd (nI we) nu na (nI rd) ts (nI ru) (nI rw) (nI ca) df db sd))), (aZ k (a 32) 24 frow), (aI k (a 36) 4 fwalks), (aI k (a 37) 4 (nF br)), (aZ k (a 43) 2 fisKept), (aI k (a 44) 70 im_8)] H ∧ va_D A [((a 0), .inr (8, (fX8 a (nI tx) fp (nI t0) wd (nI we) nu na (nI rd) ts (nI ru) (nI rw) (nI ca) df db sd))), (aZ k (a 32) 24 frow), (aI k (a 36) 4 fwalks), (aI k (a 37) 4 (nF br)), (aZ k (a 43) 2 fisKept), (aI k (a 44) 70 im_8)] ∧ va_S A s.heap H locs ∧ lv_has ls 4 [(3, .int (nI kk_8)), (2, .int 0), (0, .ref (a 0)), (1, .int 0)]) (fun n_8 x_8 H locs ls hI ih_8 => ?_) _ (0, f_7) ⟨rfl, ⟨by omega, him_7, hft0_7, hft1_7, hft2_7, hfO_7, (fun i hi => absurd hi (Nat.not_lt_zero i))⟩, hP, hD, hS, (lv_sub hl [0, 1, 2, 3] rfl)⟩
      obtain ⟨kk_8, im_8⟩ := x_8
      obtain ⟨hm_8, hv_8, hP, hD, hS, hl⟩ := hI
      subst hm_8
      obtain ⟨-, himl_8, hlt0_8, hlt1_8, hlt2_8, hlO_8, hlG_8⟩ := id hv_8
      refine lv_iload_n hx hb dX8_keep_55 rfl (lv_at hl 0 rfl) ?_
      refine lv_bipush (v := 24) hx hb dX8_keep_56 (by decide) ?_
      refine lv_icmp_ge (tgt := 91) hx hb dX8_keep_58 (by decide) (fun c_9 => ?_) (fun c_9 => ?_)
      · have c_9 := (nI_leI (a := 24) (b := kk_8) (by omega) (by omega)).mp c_9
        refine lv_iconst (v := 0) hx hb dX8_keep_91 (by decide) ?_
        refine lv_istore_n (lv' := [(3, .int 0), (2, .int 0), (0, .ref (a 0)), (1, .int 0)]) hx hb dX8_keep_92 rfl hl (by decide) rfl (fun ls hl => ?_)
        refine W_loop (σ := Nat × (Nat → Int32)) (fun (n_ : Nat) (x_ : Nat × (Nat → Int32)) (H : Heap) (locs : List Loc) (ls : Array Slot) => match x_ with | (kk_10, im_10) => n_ = 4 - kk_10 ∧ ((kk_10 ≤ 4) ∧ imOK im_10 ∧ (im_10 0 = (nI rw)) ∧ (im_10 1 = (nI ca)) ∧ (im_10 2 = sd) ∧ (∀ x, ¬ (0 ≤ x ∧ x < 35) → im_10 x = fimages x) ∧ (∀ i, i < 24 → im_10 (3 + i) = b01 (frow i)) ∧ (∀ i, i < kk_10 → im_10 (27 + i) = fwalks i)) ∧ va_P D classes [((a 0), .inr (8, (fX8 a (nI tx) fp (nI t0) wd (nI we) nu na (nI rd) ts (nI ru) (nI rw) (nI ca) df db sd))), (aZ k (a 32) 24 frow), (aI k (a 36) 4 fwalks), (aI k (a 37) 4 (nF br)), (aZ k (a 43) 2 fisKept), (aI k (a 44) 70 im_10)] H ∧ va_D A [((a 0), .inr (8, (fX8 a (nI tx) fp (nI t0) wd (nI we) nu na (nI rd) ts (nI ru) (nI rw) (nI ca) df db sd))), (aZ k (a 32) 24 frow), (aI k (a 36) 4 fwalks), (aI k (a 37) 4 (nF br)), (aZ k (a 43) 2 fisKept), (aI k (a 44) 70 im_10)] ∧ va_S A s.heap H locs ∧ lv_has ls 4 [(3, .int (nI kk_10)), (2, .int 0), (0, .ref (a 0)), (1, .int 0)]) (fun n_10 x_10 H locs ls hI ih_10 => ?_) _ (0, im_8) ⟨rfl, ⟨by omega, himl_8, hlt0_8, hlt1_8, hlt2_8, hlO_8, (fun i hi => hlG_8 i (by omega)), (fun i hi => absurd hi (Nat.not_lt_zero i))⟩, hP, hD, hS, (lv_sub hl [0, 1, 2, 3] rfl)⟩
        obtain ⟨kk_10, im_10⟩ := x_10
        obtain ⟨hm_10, hv_10, hP, hD, hS, hl⟩ := hI
        subst hm_10
        obtain ⟨-, himl_10, hlt0_10, hlt1_10, hlt2_10, hlO_10, hlR_10, hlG_10⟩ := id hv_10
        refine lv_iload_n hx hb dX8_keep_93 rfl (lv_at hl 0 rfl) ?_
        refine lv_iconst (v := 4) hx hb dX8_keep_94 (by decide) ?_
        refine lv_icmp_ge (tgt := 138) hx hb dX8_keep_95 (by decide) (fun c_11 => ?_) (fun c_11 => ?_)
        · have c_11 := (nI_leI (a := 4) (b := kk_10) (by omega) (by omega)).mp c_11
          refine lv_aload_n hx hb dX8_keep_138 rfl (lv_at hl 2 rfl) ?_
          refine va_get (D := D) (ci := 8) (v := .ref (a 43)) (C := RX8) (T := TX8) (N := 44) hx hb hts inX8 hown hK hP 0 rfl rfl 42 (by decide) (hts _ tw_1015) (fun _ h9 => h9) rfl dX8_keep_139 ?_
          refine lv_iload_n hx hb dX8_keep_142 rfl (lv_at hl 3 rfl) ?_
          refine lv_iconst (v := 1) hx hb dX8_keep_143 (by decide) ?_
          refine va_zast hx hb hK hP hD hS 4 2 rfl rfl (by unfold vp_in; decide) dX8_keep_144 (fun H locs hP hD hS => ?_)
          replace hP : va_P D classes [((a 0), .inr (8, (fX8 a (nI tx) fp (nI t0) wd (nI we) nu na (nI rd) ts (nI ru) (nI rw) (nI ca) df db sd))), (aZ k (a 32) 24 frow), (aI k (a 36) 4 fwalks), (aI k (a 37) 4 (nF br)), (aZ k (a 43) 2 (upd fisKept (Int32.toNatClampNeg 0) (vp_nar .boolean 1))), (aI k (a 44) 70 im_10)] H := hP
          replace hD : va_D A [((a 0), .inr (8, (fX8 a (nI tx) fp (nI t0) wd (nI we) nu na (nI rd) ts (nI ru) (nI rw) (nI ca) df db sd))), (aZ k (a 32) 24 frow), (aI k (a 36) 4 fwalks), (aI k (a 37) 4 (nF br)), (aZ k (a 43) 2 (upd fisKept (Int32.toNatClampNeg 0) (vp_nar .boolean 1))), (aI k (a 44) 70 im_10)] := hD
          replace hP : va_P D classes [((a 0), .inr (8, (fX8 a (nI tx) fp (nI t0) wd (nI we) nu na (nI rd) ts (nI ru) (nI rw) (nI ca) df db sd))), (aZ k (a 32) 24 frow), (aI k (a 36) 4 fwalks), (aI k (a 37) 4 (nF br)), (aZ k (a 43) 2 (upd fisKept 0 1)), (aI k (a 44) 70 im_10)] H := hP
          replace hD : va_D A [((a 0), .inr (8, (fX8 a (nI tx) fp (nI t0) wd (nI we) nu na (nI rd) ts (nI ru) (nI rw) (nI ca) df db sd))), (aZ k (a 32) 24 frow), (aI k (a 36) 4 fwalks), (aI k (a 37) 4 (nF br)), (aZ k (a 43) 2 (upd fisKept 0 1)), (aI k (a 44) 70 im_10)] := hD
          refine lv_iconst (v := 1) hx hb dX8_keep_145 (by decide) ?_
          have hP9 := hP.sub (ws' := [((a 0), .inr (8, (fX8 a (nI tx) fp (nI t0) wd (nI we) nu na (nI rd) ts (nI ru) (nI rw) (nI ca) df db sd))), (aZ k (a 32) 24 frow), (aI k (a 36) 4 fwalks), (aI k (a 37) 4 (nF br)), (aZ k (a 43) 2 (upd fisKept 0 1)), (aI k (a 44) 70 im_10)]) [0, 1, 2, 3, 4, 5] rfl
          have hD9 := hD.sub (ws' := [((a 0), .inr (8, (fX8 a (nI tx) fp (nI t0) wd (nI we) nu na (nI rd) ts (nI ru) (nI rw) (nI ca) df db sd))), (aZ k (a 32) 24 frow), (aI k (a 36) 4 fwalks), (aI k (a 37) 4 (nF br)), (aZ k (a 43) 2 (upd fisKept 0 1)), (aI k (a 44) 70 im_10)]) [0, 1, 2, 3, 4, 5] (by decide) rfl
          exact W.iret (v := 1) hx hb hr (fun t ht hW => ⟨⟨1, ((upd fisKept 0 1), im_10), rfl, ⟨himl_10, ⟨fun _ => ⟨by rfl, hlt0_10, hlt1_10⟩, fun h => absurd rfl h⟩, ⟨fun h => absurd h (by decide), fun _ => ⟨by rfl, hlO_10 35 (by omega), hlO_10 36 (by omega)⟩⟩, fun _ => rfl, fun h => absurd hw_1 h, ⟨fun _ => ⟨hlt2_10, hlR_10, fun c hc => hlG_10 c (by omega)⟩, fun h => absurd rfl h⟩, ⟨fun h => absurd h (by decide), fun _ x h1 h2 => hlO_10 x (by omega)⟩⟩, by rw [ht]; exact hP9, hD9⟩, hS.F ht⟩) hS.2.2 dX8_keep_146
        · have c_11 : ¬ (4 ≤ kk_10) := fun h => c_11 ((nI_leI (a := 4) (b := kk_10) (by omega) (by omega)).mpr h)
          refine lv_aload_n hx hb dX8_keep_98 rfl (lv_at hl 2 rfl) ?_
          refine va_get (D := D) (ci := 8) (v := .ref (a 44)) (C := RX8) (T := TX8) (N := 44) hx hb hts inX8 hown hK hP 0 rfl rfl 43 (by decide) (hts _ tw_1016) (fun _ h9 => h9) rfl dX8_keep_99 ?_
          refine lv_iload_n hx hb dX8_keep_102 rfl (lv_at hl 1 rfl) ?_
          refine lv_bipush (v := 27) hx hb dX8_keep_103 (by decide) ?_
          refine lv_iadd hx hb dX8_keep_105 ?_
          refine lv_ti (y := 27) (by decide) ?_
          refine lv_iload_n hx hb dX8_keep_106 rfl (lv_at hl 0 rfl) ?_
          refine lv_iadd hx hb dX8_keep_107 ?_
          refine lv_ti (y := (nI (27 + kk_10))) (nI_add 27 kk_10) ?_
          refine lv_aload_n hx hb dX8_keep_108 rfl (lv_at hl 2 rfl) ?_
          refine va_get (D := D) (ci := 8) (v := .ref (a 36)) (C := RX8) (T := TX8) (N := 44) hx hb hts inX8 hown hK hP 0 rfl rfl 35 (by decide) (hts _ tw_1008) (fun _ h9 => h9) rfl dX8_keep_109 ?_
          refine lv_iload_n hx hb dX8_keep_112 rfl (lv_at hl 0 rfl) ?_
          refine va_iald hx hb hK hP 2 1 rfl rfl (vp_in_nI (by omega) (by decide)) dX8_keep_113 ?_
          refine lv_ti (y := (fwalks kk_10)) (by rw [nI_clamp (by omega)]) ?_
          refine va_iast hx hb hK hP hD hS 5 1 rfl rfl (vp_in_nI (by omega) (by decide)) dX8_keep_114 (fun H locs hP hD hS => ?_)
          replace hP : va_P D classes [((a 0), .inr (8, (fX8 a (nI tx) fp (nI t0) wd (nI we) nu na (nI rd) ts (nI ru) (nI rw) (nI ca) df db sd))), (aZ k (a 32) 24 frow), (aI k (a 36) 4 fwalks), (aI k (a 37) 4 (nF br)), (aZ k (a 43) 2 fisKept), (aI k (a 44) 70 (upd im_10 (Int32.toNatClampNeg (nI (27 + kk_10))) (fwalks kk_10)))] H := hP
          replace hD : va_D A [((a 0), .inr (8, (fX8 a (nI tx) fp (nI t0) wd (nI we) nu na (nI rd) ts (nI ru) (nI rw) (nI ca) df db sd))), (aZ k (a 32) 24 frow), (aI k (a 36) 4 fwalks), (aI k (a 37) 4 (nF br)), (aZ k (a 43) 2 fisKept), (aI k (a 44) 70 (upd im_10 (Int32.toNatClampNeg (nI (27 + kk_10))) (fwalks kk_10)))] := hD
          rw [nI_clamp (n := (27 + kk_10)) (by omega)] at hP hD
          replace hP : va_P D classes [((a 0), .inr (8, (fX8 a (nI tx) fp (nI t0) wd (nI we) nu na (nI rd) ts (nI ru) (nI rw) (nI ca) df db sd))), (aZ k (a 32) 24 frow), (aI k (a 36) 4 fwalks), (aI k (a 37) 4 (nF br)), (aZ k (a 43) 2 fisKept), (aI k (a 44) 70 (upd im_10 (27 + kk_10) (fwalks kk_10)))] H := hP
          replace hD : va_D A [((a 0), .inr (8, (fX8 a (nI tx) fp (nI t0) wd (nI we) nu na (nI rd) ts (nI ru) (nI rw) (nI ca) df db sd))), (aZ k (a 32) 24 frow), (aI k (a 36) 4 fwalks), (aI k (a 37) 4 (nF br)), (aZ k (a 43) 2 fisKept), (aI k (a 44) 70 (upd im_10 (27 + kk_10) (fwalks kk_10)))] := hD
          have him_14 : imOK (upd im_10 (27 + kk_10) (fwalks kk_10)) := imOK_upd himl_10 (27 + kk_10) (fwalks kk_10) ⟨fun h => absurd h (by omega), fun h => absurd h (by omega), fun h => absurd h (by omega)⟩
          have hft0_14 : (upd im_10 (27 + kk_10) (fwalks kk_10)) 0 = (nI rw) := (upd_ne (by omega)).trans hlt0_10
          have hft1_14 : (upd im_10 (27 + kk_10) (fwalks kk_10)) 1 = (nI ca) := (upd_ne (by omega)).trans hlt1_10
          have hft2_14 : (upd im_10 (27 + kk_10) (fwalks kk_10)) 2 = sd := (upd_ne (by omega)).trans hlt2_10
          have hfO_14 : ∀ x, ¬ (0 ≤ x ∧ x < 35) → (upd im_10 (27 + kk_10) (fwalks kk_10)) x = fimages x := fun x hx => (upd_ne (by omega)).trans (hlO_10 x hx)
          have hfR_14 : ∀ i, i < 24 → (upd im_10 (27 + kk_10) (fwalks kk_10)) (3 + i) = b01 (frow i) := fun i hi => (upd_ne (by omega)).trans (hlR_10 i hi)
          have hfW_14 : ∀ i, i < kk_10 + 1 → (upd im_10 (27 + kk_10) (fwalks kk_10)) (27 + i) = fwalks i := im_st (F := fwalks) hlG_10 rfl
          generalize (upd im_10 (27 + kk_10) (fwalks kk_10)) = f_14 at hP hD him_14 hft0_14 hft1_14 hft2_14 hfO_14 hfR_14 hfW_14
          refine lv_aload_n hx hb dX8_keep_115 rfl (lv_at hl 2 rfl) ?_
          refine va_get (D := D) (ci := 8) (v := .ref (a 44)) (C := RX8) (T := TX8) (N := 44) hx hb hts inX8 hown hK hP 0 rfl rfl 43 (by decide) (hts _ tw_1016) (fun _ h9 => h9) rfl dX8_keep_116 ?_
          refine lv_iload_n hx hb dX8_keep_119 rfl (lv_at hl 1 rfl) ?_
          refine lv_bipush (v := 31) hx hb dX8_keep_120 (by decide) ?_
          refine lv_iadd hx hb dX8_keep_122 ?_
          refine lv_ti (y := 31) (by decide) ?_
          refine lv_iload_n hx hb dX8_keep_123 rfl (lv_at hl 0 rfl) ?_
          refine lv_iadd hx hb dX8_keep_124 ?_
          refine lv_ti (y := (nI (31 + kk_10))) (nI_add 31 kk_10) ?_
          refine lv_aload_n hx hb dX8_keep_125 rfl (lv_at hl 2 rfl) ?_
          refine va_get (D := D) (ci := 8) (v := .ref (a 37)) (C := RX8) (T := TX8) (N := 44) hx hb hts inX8 hown hK hP 0 rfl rfl 36 (by decide) (hts _ tw_1009) (fun _ h9 => h9) rfl dX8_keep_126 ?_
          refine lv_iload_n hx hb dX8_keep_129 rfl (lv_at hl 0 rfl) ?_
          refine va_iald hx hb hK hP 3 1 rfl rfl (vp_in_nI (by omega) (by decide)) dX8_keep_130 ?_
          have hq_15 := hbr kk_10
          refine lv_ti (y := (nI (br kk_10))) (by rw [nI_clamp (by omega)]; rfl) ?_
          refine va_iast hx hb hK hP hD hS 5 1 rfl rfl (vp_in_nI (by omega) (by decide)) dX8_keep_131 (fun H locs hP hD hS => ?_)
          replace hP : va_P D classes [((a 0), .inr (8, (fX8 a (nI tx) fp (nI t0) wd (nI we) nu na (nI rd) ts (nI ru) (nI rw) (nI ca) df db sd))), (aZ k (a 32) 24 frow), (aI k (a 36) 4 fwalks), (aI k (a 37) 4 (nF br)), (aZ k (a 43) 2 fisKept), (aI k (a 44) 70 (upd f_14 (Int32.toNatClampNeg (nI (31 + kk_10))) (nI (br kk_10))))] H := hP
          replace hD : va_D A [((a 0), .inr (8, (fX8 a (nI tx) fp (nI t0) wd (nI we) nu na (nI rd) ts (nI ru) (nI rw) (nI ca) df db sd))), (aZ k (a 32) 24 frow), (aI k (a 36) 4 fwalks), (aI k (a 37) 4 (nF br)), (aZ k (a 43) 2 fisKept), (aI k (a 44) 70 (upd f_14 (Int32.toNatClampNeg (nI (31 + kk_10))) (nI (br kk_10))))] := hD
          rw [nI_clamp (n := (31 + kk_10)) (by omega)] at hP hD
          replace hP : va_P D classes [((a 0), .inr (8, (fX8 a (nI tx) fp (nI t0) wd (nI we) nu na (nI rd) ts (nI ru) (nI rw) (nI ca) df db sd))), (aZ k (a 32) 24 frow), (aI k (a 36) 4 fwalks), (aI k (a 37) 4 (nF br)), (aZ k (a 43) 2 fisKept), (aI k (a 44) 70 (upd f_14 (31 + kk_10) (nI (br kk_10))))] H := hP
          replace hD : va_D A [((a 0), .inr (8, (fX8 a (nI tx) fp (nI t0) wd (nI we) nu na (nI rd) ts (nI ru) (nI rw) (nI ca) df db sd))), (aZ k (a 32) 24 frow), (aI k (a 36) 4 fwalks), (aI k (a 37) 4 (nF br)), (aZ k (a 43) 2 fisKept), (aI k (a 44) 70 (upd f_14 (31 + kk_10) (nI (br kk_10))))] := hD
          have him_17 : imOK (upd f_14 (31 + kk_10) (nI (br kk_10))) := imOK_upd him_14 (31 + kk_10) (nI (br kk_10)) ⟨fun h => absurd h (by omega), fun h => absurd h (by omega), fun _ => ⟨br kk_10, by omega, rfl⟩⟩
          have hft0_17 : (upd f_14 (31 + kk_10) (nI (br kk_10))) 0 = (nI rw) := (upd_ne (by omega)).trans hft0_14
          have hft1_17 : (upd f_14 (31 + kk_10) (nI (br kk_10))) 1 = (nI ca) := (upd_ne (by omega)).trans hft1_14
          have hft2_17 : (upd f_14 (31 + kk_10) (nI (br kk_10))) 2 = sd := (upd_ne (by omega)).trans hft2_14
          have hfO_17 : ∀ x, ¬ (0 ≤ x ∧ x < 35) → (upd f_14 (31 + kk_10) (nI (br kk_10))) x = fimages x := fun x hx => (upd_ne (by omega)).trans (hfO_14 x hx)
          have hfR_17 : ∀ i, i < 24 → (upd f_14 (31 + kk_10) (nI (br kk_10))) (3 + i) = b01 (frow i) := fun i hi => (upd_ne (by omega)).trans (hfR_14 i hi)
          have hfW_17 : ∀ i, i < kk_10 + 1 → (upd f_14 (31 + kk_10) (nI (br kk_10))) (27 + i) = fwalks i := fun i hi => (upd_ne (by omega)).trans (hfW_14 i hi)
          generalize (upd f_14 (31 + kk_10) (nI (br kk_10))) = f_17 at hP hD him_17 hft0_17 hft1_17 hft2_17 hfO_17 hfR_17 hfW_17
          refine lv_iinc (v := (nI (kk_10 + 1))) (lv' := [(3, .int (nI (kk_10 + 1))), (2, .int 0), (0, .ref (a 0)), (1, .int 0)]) hx hb dX8_keep_132 hl (k := 0) rfl (nI_add kk_10 1) (by decide) rfl (fun ls hl => ?_)
          refine lv_goto (tgt := 93) hx hb dX8_keep_135 (by decide) ?_
          exact ih_10 _ (kk_10 + 1, f_17) _ _ _ (by omega) ⟨rfl, ⟨by omega, him_17, hft0_17, hft1_17, hft2_17, hfO_17, hfR_17, hfW_17⟩, hP, hD, hS, (lv_sub hl [0, 1, 2, 3] rfl)⟩
      · have c_9 : ¬ (24 ≤ kk_8) := fun h => c_9 ((nI_leI (a := 24) (b := kk_8) (by omega) (by omega)).mpr h)
        refine lv_aload_n hx hb dX8_keep_61 rfl (lv_at hl 2 rfl) ?_
        refine va_get (D := D) (ci := 8) (v := .ref (a 44)) (C := RX8) (T := TX8) (N := 44) hx hb hts inX8 hown hK hP 0 rfl rfl 43 (by decide) (hts _ tw_1016) (fun _ h9 => h9) rfl dX8_keep_62 ?_
        refine lv_iload_n hx hb dX8_keep_65 rfl (lv_at hl 1 rfl) ?_
        refine lv_iconst (v := 3) hx hb dX8_keep_66 (by decide) ?_
        refine lv_iadd hx hb dX8_keep_67 ?_
        refine lv_ti (y := 3) (by decide) ?_
        refine lv_iload_n hx hb dX8_keep_68 rfl (lv_at hl 0 rfl) ?_
        refine lv_iadd hx hb dX8_keep_69 ?_
        refine lv_ti (y := (nI (3 + kk_8))) (nI_add 3 kk_8) ?_
        refine lv_aload_n hx hb dX8_keep_70 rfl (lv_at hl 2 rfl) ?_
        refine va_get (D := D) (ci := 8) (v := .ref (a 32)) (C := RX8) (T := TX8) (N := 44) hx hb hts inX8 hown hK hP 0 rfl rfl 31 (by decide) (hts _ tw_1004) (fun _ h9 => h9) rfl dX8_keep_71 ?_
        refine lv_iload_n hx hb dX8_keep_74 rfl (lv_at hl 0 rfl) ?_
        refine va_zald hx hb hK hP 1 2 rfl rfl (vp_in_nI (by omega) (by decide)) dX8_keep_75 ?_
        refine lv_ti (y := (frow kk_8)) (by rw [nI_clamp (by omega)]) ?_
        refine lv_if_eq (tgt := 83) hx hb dX8_keep_76 (by decide) (fun c_18 => ?_) (fun c_18 => ?_)
        · refine lv_iconst (v := 0) hx hb dX8_keep_83 (by decide) ?_
          refine va_iast hx hb hK hP hD hS 5 1 rfl rfl (vp_in_nI (by omega) (by decide)) dX8_keep_84 (fun H locs hP hD hS => ?_)
          replace hP : va_P D classes [((a 0), .inr (8, (fX8 a (nI tx) fp (nI t0) wd (nI we) nu na (nI rd) ts (nI ru) (nI rw) (nI ca) df db sd))), (aZ k (a 32) 24 frow), (aI k (a 36) 4 fwalks), (aI k (a 37) 4 (nF br)), (aZ k (a 43) 2 fisKept), (aI k (a 44) 70 (upd im_8 (Int32.toNatClampNeg (nI (3 + kk_8))) 0))] H := hP
          replace hD : va_D A [((a 0), .inr (8, (fX8 a (nI tx) fp (nI t0) wd (nI we) nu na (nI rd) ts (nI ru) (nI rw) (nI ca) df db sd))), (aZ k (a 32) 24 frow), (aI k (a 36) 4 fwalks), (aI k (a 37) 4 (nF br)), (aZ k (a 43) 2 fisKept), (aI k (a 44) 70 (upd im_8 (Int32.toNatClampNeg (nI (3 + kk_8))) 0))] := hD
          rw [nI_clamp (n := (3 + kk_8)) (by omega)] at hP hD
          replace hP : va_P D classes [((a 0), .inr (8, (fX8 a (nI tx) fp (nI t0) wd (nI we) nu na (nI rd) ts (nI ru) (nI rw) (nI ca) df db sd))), (aZ k (a 32) 24 frow), (aI k (a 36) 4 fwalks), (aI k (a 37) 4 (nF br)), (aZ k (a 43) 2 fisKept), (aI k (a 44) 70 (upd im_8 (3 + kk_8) 0))] H := hP
          replace hD : va_D A [((a 0), .inr (8, (fX8 a (nI tx) fp (nI t0) wd (nI we) nu na (nI rd) ts (nI ru) (nI rw) (nI ca) df db sd))), (aZ k (a 32) 24 frow), (aI k (a 36) 4 fwalks), (aI k (a 37) 4 (nF br)), (aZ k (a 43) 2 fisKept), (aI k (a 44) 70 (upd im_8 (3 + kk_8) 0))] := hD
          have him_20 : imOK (upd im_8 (3 + kk_8) 0) := imOK_upd himl_8 (3 + kk_8) 0 ⟨fun h => absurd h (by omega), fun h => absurd h (by omega), fun h => absurd h (by omega)⟩
          have hft0_20 : (upd im_8 (3 + kk_8) 0) 0 = (nI rw) := (upd_ne (by omega)).trans hlt0_8
          have hft1_20 : (upd im_8 (3 + kk_8) 0) 1 = (nI ca) := (upd_ne (by omega)).trans hlt1_8
          have hft2_20 : (upd im_8 (3 + kk_8) 0) 2 = sd := (upd_ne (by omega)).trans hlt2_8
          have hfO_20 : ∀ x, ¬ (0 ≤ x ∧ x < 35) → (upd im_8 (3 + kk_8) 0) x = fimages x := fun x hx => (upd_ne (by omega)).trans (hlO_8 x hx)
          have hfR_20 : ∀ i, i < kk_8 + 1 → (upd im_8 (3 + kk_8) 0) (3 + i) = b01 (frow i) := im_st (F := fun i => b01 (frow i)) hlG_8 (show (0 : Int32) = b01 (frow kk_8) from (if_pos c_18).symm)
          generalize (upd im_8 (3 + kk_8) 0) = f_20 at hP hD him_20 hft0_20 hft1_20 hft2_20 hfO_20 hfR_20
          refine lv_iinc (v := (nI (kk_8 + 1))) (lv' := [(3, .int (nI (kk_8 + 1))), (2, .int 0), (0, .ref (a 0)), (1, .int 0)]) hx hb dX8_keep_85 hl (k := 0) rfl (nI_add kk_8 1) (by decide) rfl (fun ls hl => ?_)
          refine lv_goto (tgt := 55) hx hb dX8_keep_88 (by decide) ?_
          exact ih_8 _ (kk_8 + 1, f_20) _ _ _ (by omega) ⟨rfl, ⟨by omega, him_20, hft0_20, hft1_20, hft2_20, hfO_20, hfR_20⟩, hP, hD, hS, (lv_sub hl [0, 1, 2, 3] rfl)⟩
        · refine lv_iconst (v := 1) hx hb dX8_keep_79 (by decide) ?_
          refine lv_goto (tgt := 84) hx hb dX8_keep_80 (by decide) ?_
          refine va_iast hx hb hK hP hD hS 5 1 rfl rfl (vp_in_nI (by omega) (by decide)) dX8_keep_84 (fun H locs hP hD hS => ?_)
          replace hP : va_P D classes [((a 0), .inr (8, (fX8 a (nI tx) fp (nI t0) wd (nI we) nu na (nI rd) ts (nI ru) (nI rw) (nI ca) df db sd))), (aZ k (a 32) 24 frow), (aI k (a 36) 4 fwalks), (aI k (a 37) 4 (nF br)), (aZ k (a 43) 2 fisKept), (aI k (a 44) 70 (upd im_8 (Int32.toNatClampNeg (nI (3 + kk_8))) 1))] H := hP
          replace hD : va_D A [((a 0), .inr (8, (fX8 a (nI tx) fp (nI t0) wd (nI we) nu na (nI rd) ts (nI ru) (nI rw) (nI ca) df db sd))), (aZ k (a 32) 24 frow), (aI k (a 36) 4 fwalks), (aI k (a 37) 4 (nF br)), (aZ k (a 43) 2 fisKept), (aI k (a 44) 70 (upd im_8 (Int32.toNatClampNeg (nI (3 + kk_8))) 1))] := hD
          rw [nI_clamp (n := (3 + kk_8)) (by omega)] at hP hD
          replace hP : va_P D classes [((a 0), .inr (8, (fX8 a (nI tx) fp (nI t0) wd (nI we) nu na (nI rd) ts (nI ru) (nI rw) (nI ca) df db sd))), (aZ k (a 32) 24 frow), (aI k (a 36) 4 fwalks), (aI k (a 37) 4 (nF br)), (aZ k (a 43) 2 fisKept), (aI k (a 44) 70 (upd im_8 (3 + kk_8) 1))] H := hP
          replace hD : va_D A [((a 0), .inr (8, (fX8 a (nI tx) fp (nI t0) wd (nI we) nu na (nI rd) ts (nI ru) (nI rw) (nI ca) df db sd))), (aZ k (a 32) 24 frow), (aI k (a 36) 4 fwalks), (aI k (a 37) 4 (nF br)), (aZ k (a 43) 2 fisKept), (aI k (a 44) 70 (upd im_8 (3 + kk_8) 1))] := hD
          have him_22 : imOK (upd im_8 (3 + kk_8) 1) := imOK_upd himl_8 (3 + kk_8) 1 ⟨fun h => absurd h (by omega), fun h => absurd h (by omega), fun h => absurd h (by omega)⟩
          have hft0_22 : (upd im_8 (3 + kk_8) 1) 0 = (nI rw) := (upd_ne (by omega)).trans hlt0_8
          have hft1_22 : (upd im_8 (3 + kk_8) 1) 1 = (nI ca) := (upd_ne (by omega)).trans hlt1_8
          have hft2_22 : (upd im_8 (3 + kk_8) 1) 2 = sd := (upd_ne (by omega)).trans hlt2_8
          have hfO_22 : ∀ x, ¬ (0 ≤ x ∧ x < 35) → (upd im_8 (3 + kk_8) 1) x = fimages x := fun x hx => (upd_ne (by omega)).trans (hlO_8 x hx)
          have hfR_22 : ∀ i, i < kk_8 + 1 → (upd im_8 (3 + kk_8) 1) (3 + i) = b01 (frow i) := im_st (F := fun i => b01 (frow i)) hlG_8 (show (1 : Int32) = b01 (frow kk_8) from (if_neg c_18).symm)
          generalize (upd im_8 (3 + kk_8) 1) = f_22 at hP hD him_22 hft0_22 hft1_22 hft2_22 hfO_22 hfR_22
          refine lv_iinc (v := (nI (kk_8 + 1))) (lv' := [(3, .int (nI (kk_8 + 1))), (2, .int 0), (0, .ref (a 0)), (1, .int 0)]) hx hb dX8_keep_85 hl (k := 0) rfl (nI_add kk_8 1) (by decide) rfl (fun ls hl => ?_)
          refine lv_goto (tgt := 55) hx hb dX8_keep_88 (by decide) ?_
          exact ih_8 _ (kk_8 + 1, f_22) _ _ _ (by omega) ⟨rfl, ⟨by omega, him_22, hft0_22, hft1_22, hft2_22, hfO_22, hfR_22⟩, hP, hD, hS, (lv_sub hl [0, 1, 2, 3] rfl)⟩
    · refine lv_bipush (v := 35) hx hb dX8_keep_14 (by decide) ?_
      refine lv_iload_n hx hb dX8_keep_16 rfl (lv_at hl 1 rfl) ?_
      refine lv_imul hx hb dX8_keep_17 ?_
      refine lv_ti (y := 35) (by decide) ?_
      refine lv_istore_n (lv' := [(2, .int 35), (0, .ref (a 0)), (1, .int 1)]) hx hb dX8_keep_18 rfl hl (by decide) rfl (fun ls hl => ?_)
      refine lv_aload_n hx hb dX8_keep_19 rfl (lv_at hl 1 rfl) ?_
      refine va_get (D := D) (ci := 8) (v := .ref (a 44)) (C := RX8) (T := TX8) (N := 44) hx hb hts inX8 hown hK hP 0 rfl rfl 43 (by decide) (hts _ tw_1016) (fun _ h9 => h9) rfl dX8_keep_20 ?_
      refine lv_iload_n hx hb dX8_keep_23 rfl (lv_at hl 0 rfl) ?_
      refine lv_aload_n hx hb dX8_keep_24 rfl (lv_at hl 1 rfl) ?_
      refine va_get (D := D) (ci := 8) (v := .int (nI rw)) (C := RX8) (T := TX8) (N := 44) hx hb hts inX8 hown hK hP 0 rfl rfl 30 (by decide) (hts _ tw_1003) (fun _ h9 => h9) rfl dX8_keep_25 ?_
      refine va_iast hx hb hK hP hD hS 5 1 rfl rfl (by unfold vp_in; decide) dX8_keep_28 (fun H locs hP hD hS => ?_)
      replace hP : va_P D classes [((a 0), .inr (8, (fX8 a (nI tx) fp (nI t0) wd (nI we) nu na (nI rd) ts (nI ru) (nI rw) (nI ca) df db sd))), (aZ k (a 32) 24 frow), (aI k (a 36) 4 fwalks), (aI k (a 37) 4 (nF br)), (aZ k (a 43) 2 fisKept), (aI k (a 44) 70 (upd fimages (Int32.toNatClampNeg 35) (nI rw)))] H := hP
      replace hD : va_D A [((a 0), .inr (8, (fX8 a (nI tx) fp (nI t0) wd (nI we) nu na (nI rd) ts (nI ru) (nI rw) (nI ca) df db sd))), (aZ k (a 32) 24 frow), (aI k (a 36) 4 fwalks), (aI k (a 37) 4 (nF br)), (aZ k (a 43) 2 fisKept), (aI k (a 44) 70 (upd fimages (Int32.toNatClampNeg 35) (nI rw)))] := hD
      replace hP : va_P D classes [((a 0), .inr (8, (fX8 a (nI tx) fp (nI t0) wd (nI we) nu na (nI rd) ts (nI ru) (nI rw) (nI ca) df db sd))), (aZ k (a 32) 24 frow), (aI k (a 36) 4 fwalks), (aI k (a 37) 4 (nF br)), (aZ k (a 43) 2 fisKept), (aI k (a 44) 70 (upd fimages 35 (nI rw)))] H := hP
      replace hD : va_D A [((a 0), .inr (8, (fX8 a (nI tx) fp (nI t0) wd (nI we) nu na (nI rd) ts (nI ru) (nI rw) (nI ca) df db sd))), (aZ k (a 32) 24 frow), (aI k (a 36) 4 fwalks), (aI k (a 37) 4 (nF br)), (aZ k (a 43) 2 fisKept), (aI k (a 44) 70 (upd fimages 35 (nI rw)))] := hD
      have him_24 : imOK (upd fimages 35 (nI rw)) := imOK_upd him 35 (nI rw) ⟨fun _ => ⟨rw, by omega, rfl⟩, fun h => absurd h (by omega), fun h => absurd h (by omega)⟩
      have hfO_24 : ∀ x, ¬ (35 ≤ x ∧ x < 70) → (upd fimages 35 (nI rw)) x = fimages x := fun x hx => (upd_ne (by omega)).trans ((fun _ _ => rfl) x hx)
      have hft0_24 : (upd fimages 35 (nI rw)) 35 = (nI rw) := upd_eq
      generalize (upd fimages 35 (nI rw)) = f_24 at hP hD him_24 hfO_24 hft0_24
      refine lv_aload_n hx hb dX8_keep_29 rfl (lv_at hl 1 rfl) ?_
      refine va_get (D := D) (ci := 8) (v := .ref (a 44)) (C := RX8) (T := TX8) (N := 44) hx hb hts inX8 hown hK hP 0 rfl rfl 43 (by decide) (hts _ tw_1016) (fun _ h9 => h9) rfl dX8_keep_30 ?_
      refine lv_iload_n hx hb dX8_keep_33 rfl (lv_at hl 0 rfl) ?_
      refine lv_iconst (v := 1) hx hb dX8_keep_34 (by decide) ?_
      refine lv_iadd hx hb dX8_keep_35 ?_
      refine lv_ti (y := 36) (by decide) ?_
      refine lv_aload_n hx hb dX8_keep_36 rfl (lv_at hl 1 rfl) ?_
      refine va_get (D := D) (ci := 8) (v := .int (nI ca)) (C := RX8) (T := TX8) (N := 44) hx hb hts inX8 hown hK hP 0 rfl rfl 34 (by decide) (hts _ tw_1007) (fun _ h9 => h9) rfl dX8_keep_37 ?_
      refine va_iast hx hb hK hP hD hS 5 1 rfl rfl (by unfold vp_in; decide) dX8_keep_40 (fun H locs hP hD hS => ?_)
      replace hP : va_P D classes [((a 0), .inr (8, (fX8 a (nI tx) fp (nI t0) wd (nI we) nu na (nI rd) ts (nI ru) (nI rw) (nI ca) df db sd))), (aZ k (a 32) 24 frow), (aI k (a 36) 4 fwalks), (aI k (a 37) 4 (nF br)), (aZ k (a 43) 2 fisKept), (aI k (a 44) 70 (upd f_24 (Int32.toNatClampNeg 36) (nI ca)))] H := hP
      replace hD : va_D A [((a 0), .inr (8, (fX8 a (nI tx) fp (nI t0) wd (nI we) nu na (nI rd) ts (nI ru) (nI rw) (nI ca) df db sd))), (aZ k (a 32) 24 frow), (aI k (a 36) 4 fwalks), (aI k (a 37) 4 (nF br)), (aZ k (a 43) 2 fisKept), (aI k (a 44) 70 (upd f_24 (Int32.toNatClampNeg 36) (nI ca)))] := hD
      replace hP : va_P D classes [((a 0), .inr (8, (fX8 a (nI tx) fp (nI t0) wd (nI we) nu na (nI rd) ts (nI ru) (nI rw) (nI ca) df db sd))), (aZ k (a 32) 24 frow), (aI k (a 36) 4 fwalks), (aI k (a 37) 4 (nF br)), (aZ k (a 43) 2 fisKept), (aI k (a 44) 70 (upd f_24 36 (nI ca)))] H := hP
      replace hD : va_D A [((a 0), .inr (8, (fX8 a (nI tx) fp (nI t0) wd (nI we) nu na (nI rd) ts (nI ru) (nI rw) (nI ca) df db sd))), (aZ k (a 32) 24 frow), (aI k (a 36) 4 fwalks), (aI k (a 37) 4 (nF br)), (aZ k (a 43) 2 fisKept), (aI k (a 44) 70 (upd f_24 36 (nI ca)))] := hD
      have him_26 : imOK (upd f_24 36 (nI ca)) := imOK_upd him_24 36 (nI ca) ⟨fun h => absurd h (by omega), fun _ => ⟨ca, by omega, rfl⟩, fun h => absurd h (by omega)⟩
      have hfO_26 : ∀ x, ¬ (35 ≤ x ∧ x < 70) → (upd f_24 36 (nI ca)) x = fimages x := fun x hx => (upd_ne (by omega)).trans (hfO_24 x hx)
      have hft0_26 : (upd f_24 36 (nI ca)) 35 = (nI rw) := (upd_ne (by omega)).trans hft0_24
      have hft1_26 : (upd f_24 36 (nI ca)) 36 = (nI ca) := upd_eq
      generalize (upd f_24 36 (nI ca)) = f_26 at hP hD him_26 hfO_26 hft0_26 hft1_26
      refine lv_aload_n hx hb dX8_keep_41 rfl (lv_at hl 1 rfl) ?_
      refine va_get (D := D) (ci := 8) (v := .ref (a 44)) (C := RX8) (T := TX8) (N := 44) hx hb hts inX8 hown hK hP 0 rfl rfl 43 (by decide) (hts _ tw_1016) (fun _ h9 => h9) rfl dX8_keep_42 ?_
      refine lv_iload_n hx hb dX8_keep_45 rfl (lv_at hl 0 rfl) ?_
      refine lv_iconst (v := 2) hx hb dX8_keep_46 (by decide) ?_
      refine lv_iadd hx hb dX8_keep_47 ?_
      refine lv_ti (y := 37) (by decide) ?_
      refine lv_aload_n hx hb dX8_keep_48 rfl (lv_at hl 1 rfl) ?_
      refine va_get (D := D) (ci := 8) (v := .int sd) (C := RX8) (T := TX8) (N := 44) hx hb hts inX8 hown hK hP 0 rfl rfl 41 (by decide) (hts _ tw_1014) (fun _ h9 => h9) rfl dX8_keep_49 ?_
      refine va_iast hx hb hK hP hD hS 5 1 rfl rfl (by unfold vp_in; decide) dX8_keep_52 (fun H locs hP hD hS => ?_)
      replace hP : va_P D classes [((a 0), .inr (8, (fX8 a (nI tx) fp (nI t0) wd (nI we) nu na (nI rd) ts (nI ru) (nI rw) (nI ca) df db sd))), (aZ k (a 32) 24 frow), (aI k (a 36) 4 fwalks), (aI k (a 37) 4 (nF br)), (aZ k (a 43) 2 fisKept), (aI k (a 44) 70 (upd f_26 (Int32.toNatClampNeg 37) sd))] H := hP
      replace hD : va_D A [((a 0), .inr (8, (fX8 a (nI tx) fp (nI t0) wd (nI we) nu na (nI rd) ts (nI ru) (nI rw) (nI ca) df db sd))), (aZ k (a 32) 24 frow), (aI k (a 36) 4 fwalks), (aI k (a 37) 4 (nF br)), (aZ k (a 43) 2 fisKept), (aI k (a 44) 70 (upd f_26 (Int32.toNatClampNeg 37) sd))] := hD
      replace hP : va_P D classes [((a 0), .inr (8, (fX8 a (nI tx) fp (nI t0) wd (nI we) nu na (nI rd) ts (nI ru) (nI rw) (nI ca) df db sd))), (aZ k (a 32) 24 frow), (aI k (a 36) 4 fwalks), (aI k (a 37) 4 (nF br)), (aZ k (a 43) 2 fisKept), (aI k (a 44) 70 (upd f_26 37 sd))] H := hP
      replace hD : va_D A [((a 0), .inr (8, (fX8 a (nI tx) fp (nI t0) wd (nI we) nu na (nI rd) ts (nI ru) (nI rw) (nI ca) df db sd))), (aZ k (a 32) 24 frow), (aI k (a 36) 4 fwalks), (aI k (a 37) 4 (nF br)), (aZ k (a 43) 2 fisKept), (aI k (a 44) 70 (upd f_26 37 sd))] := hD
      have him_28 : imOK (upd f_26 37 sd) := imOK_upd him_26 37 sd ⟨fun h => absurd h (by omega), fun h => absurd h (by omega), fun h => absurd h (by omega)⟩
      have hfO_28 : ∀ x, ¬ (35 ≤ x ∧ x < 70) → (upd f_26 37 sd) x = fimages x := fun x hx => (upd_ne (by omega)).trans (hfO_26 x hx)
      have hft0_28 : (upd f_26 37 sd) 35 = (nI rw) := (upd_ne (by omega)).trans hft0_26
      have hft1_28 : (upd f_26 37 sd) 36 = (nI ca) := (upd_ne (by omega)).trans hft1_26
      have hft2_28 : (upd f_26 37 sd) 37 = sd := upd_eq
      generalize (upd f_26 37 sd) = f_28 at hP hD him_28 hfO_28 hft0_28 hft1_28 hft2_28
      refine lv_iconst (v := 0) hx hb dX8_keep_53 (by decide) ?_
      refine lv_istore_n (lv' := [(3, .int 0), (2, .int 35), (0, .ref (a 0)), (1, .int 1)]) hx hb dX8_keep_54 rfl hl (by decide) rfl (fun ls hl => ?_)
      refine W_loop (σ := Nat × (Nat → Int32)) (fun (n_ : Nat) (x_ : Nat × (Nat → Int32)) (H : Heap) (locs : List Loc) (ls : Array Slot) => match x_ with | (kk_29, im_29) => n_ = 24 - kk_29 ∧ ((kk_29 ≤ 24) ∧ imOK im_29 ∧ (im_29 35 = (nI rw)) ∧ (im_29 36 = (nI ca)) ∧ (im_29 37 = sd) ∧ (∀ x, ¬ (35 ≤ x ∧ x < 70) → im_29 x = fimages x) ∧ (∀ i, i < kk_29 → im_29 (38 + i) = b01 (frow i))) ∧ va_P D classes [((a 0), .inr (8, (fX8 a (nI tx) fp (nI t0) wd (nI we) nu na (nI rd) ts (nI ru) (nI rw) (nI ca) df db sd))), (aZ k (a 32) 24 frow), (aI k (a 36) 4 fwalks), (aI k (a 37) 4 (nF br)), (aZ k (a 43) 2 fisKept), (aI k (a 44) 70 im_29)] H ∧ va_D A [((a 0), .inr (8, (fX8 a (nI tx) fp (nI t0) wd (nI we) nu na (nI rd) ts (nI ru) (nI rw) (nI ca) df db sd))), (aZ k (a 32) 24 frow), (aI k (a 36) 4 fwalks), (aI k (a 37) 4 (nF br)), (aZ k (a 43) 2 fisKept), (aI k (a 44) 70 im_29)] ∧ va_S A s.heap H locs ∧ lv_has ls 4 [(3, .int (nI kk_29)), (2, .int 35), (0, .ref (a 0)), (1, .int 1)]) (fun n_29 x_29 H locs ls hI ih_29 => ?_) _ (0, f_28) ⟨rfl, ⟨by omega, him_28, hft0_28, hft1_28, hft2_28, hfO_28, (fun i hi => absurd hi (Nat.not_lt_zero i))⟩, hP, hD, hS, (lv_sub hl [0, 1, 2, 3] rfl)⟩
      obtain ⟨kk_29, im_29⟩ := x_29
      obtain ⟨hm_29, hv_29, hP, hD, hS, hl⟩ := hI
      subst hm_29
      obtain ⟨-, himl_29, hlt0_29, hlt1_29, hlt2_29, hlO_29, hlG_29⟩ := id hv_29
      refine lv_iload_n hx hb dX8_keep_55 rfl (lv_at hl 0 rfl) ?_
      refine lv_bipush (v := 24) hx hb dX8_keep_56 (by decide) ?_
      refine lv_icmp_ge (tgt := 91) hx hb dX8_keep_58 (by decide) (fun c_30 => ?_) (fun c_30 => ?_)
      · have c_30 := (nI_leI (a := 24) (b := kk_29) (by omega) (by omega)).mp c_30
        refine lv_iconst (v := 0) hx hb dX8_keep_91 (by decide) ?_
        refine lv_istore_n (lv' := [(3, .int 0), (2, .int 35), (0, .ref (a 0)), (1, .int 1)]) hx hb dX8_keep_92 rfl hl (by decide) rfl (fun ls hl => ?_)
        refine W_loop (σ := Nat × (Nat → Int32)) (fun (n_ : Nat) (x_ : Nat × (Nat → Int32)) (H : Heap) (locs : List Loc) (ls : Array Slot) => match x_ with | (kk_31, im_31) => n_ = 4 - kk_31 ∧ ((kk_31 ≤ 4) ∧ imOK im_31 ∧ (im_31 35 = (nI rw)) ∧ (im_31 36 = (nI ca)) ∧ (im_31 37 = sd) ∧ (∀ x, ¬ (35 ≤ x ∧ x < 70) → im_31 x = fimages x) ∧ (∀ i, i < 24 → im_31 (38 + i) = b01 (frow i)) ∧ (∀ i, i < kk_31 → im_31 (62 + i) = fwalks i)) ∧ va_P D classes [((a 0), .inr (8, (fX8 a (nI tx) fp (nI t0) wd (nI we) nu na (nI rd) ts (nI ru) (nI rw) (nI ca) df db sd))), (aZ k (a 32) 24 frow), (aI k (a 36) 4 fwalks), (aI k (a 37) 4 (nF br)), (aZ k (a 43) 2 fisKept), (aI k (a 44) 70 im_31)] H ∧ va_D A [((a 0), .inr (8, (fX8 a (nI tx) fp (nI t0) wd (nI we) nu na (nI rd) ts (nI ru) (nI rw) (nI ca) df db sd))), (aZ k (a 32) 24 frow), (aI k (a 36) 4 fwalks), (aI k (a 37) 4 (nF br)), (aZ k (a 43) 2 fisKept), (aI k (a 44) 70 im_31)] ∧ va_S A s.heap H locs ∧ lv_has ls 4 [(3, .int (nI kk_31)), (2, .int 35), (0, .ref (a 0)), (1, .int 1)]) (fun n_31 x_31 H locs ls hI ih_31 => ?_) _ (0, im_29) ⟨rfl, ⟨by omega, himl_29, hlt0_29, hlt1_29, hlt2_29, hlO_29, (fun i hi => hlG_29 i (by omega)), (fun i hi => absurd hi (Nat.not_lt_zero i))⟩, hP, hD, hS, (lv_sub hl [0, 1, 2, 3] rfl)⟩
        obtain ⟨kk_31, im_31⟩ := x_31
        obtain ⟨hm_31, hv_31, hP, hD, hS, hl⟩ := hI
        subst hm_31
        obtain ⟨-, himl_31, hlt0_31, hlt1_31, hlt2_31, hlO_31, hlR_31, hlG_31⟩ := id hv_31
        refine lv_iload_n hx hb dX8_keep_93 rfl (lv_at hl 0 rfl) ?_
        refine lv_iconst (v := 4) hx hb dX8_keep_94 (by decide) ?_
        refine lv_icmp_ge (tgt := 138) hx hb dX8_keep_95 (by decide) (fun c_32 => ?_) (fun c_32 => ?_)
        · have c_32 := (nI_leI (a := 4) (b := kk_31) (by omega) (by omega)).mp c_32
          refine lv_aload_n hx hb dX8_keep_138 rfl (lv_at hl 2 rfl) ?_
          refine va_get (D := D) (ci := 8) (v := .ref (a 43)) (C := RX8) (T := TX8) (N := 44) hx hb hts inX8 hown hK hP 0 rfl rfl 42 (by decide) (hts _ tw_1015) (fun _ h9 => h9) rfl dX8_keep_139 ?_
          refine lv_iload_n hx hb dX8_keep_142 rfl (lv_at hl 3 rfl) ?_
          refine lv_iconst (v := 1) hx hb dX8_keep_143 (by decide) ?_
          refine va_zast hx hb hK hP hD hS 4 2 rfl rfl (by unfold vp_in; decide) dX8_keep_144 (fun H locs hP hD hS => ?_)
          replace hP : va_P D classes [((a 0), .inr (8, (fX8 a (nI tx) fp (nI t0) wd (nI we) nu na (nI rd) ts (nI ru) (nI rw) (nI ca) df db sd))), (aZ k (a 32) 24 frow), (aI k (a 36) 4 fwalks), (aI k (a 37) 4 (nF br)), (aZ k (a 43) 2 (upd fisKept (Int32.toNatClampNeg 1) (vp_nar .boolean 1))), (aI k (a 44) 70 im_31)] H := hP
          replace hD : va_D A [((a 0), .inr (8, (fX8 a (nI tx) fp (nI t0) wd (nI we) nu na (nI rd) ts (nI ru) (nI rw) (nI ca) df db sd))), (aZ k (a 32) 24 frow), (aI k (a 36) 4 fwalks), (aI k (a 37) 4 (nF br)), (aZ k (a 43) 2 (upd fisKept (Int32.toNatClampNeg 1) (vp_nar .boolean 1))), (aI k (a 44) 70 im_31)] := hD
          replace hP : va_P D classes [((a 0), .inr (8, (fX8 a (nI tx) fp (nI t0) wd (nI we) nu na (nI rd) ts (nI ru) (nI rw) (nI ca) df db sd))), (aZ k (a 32) 24 frow), (aI k (a 36) 4 fwalks), (aI k (a 37) 4 (nF br)), (aZ k (a 43) 2 (upd fisKept 1 1)), (aI k (a 44) 70 im_31)] H := hP
          replace hD : va_D A [((a 0), .inr (8, (fX8 a (nI tx) fp (nI t0) wd (nI we) nu na (nI rd) ts (nI ru) (nI rw) (nI ca) df db sd))), (aZ k (a 32) 24 frow), (aI k (a 36) 4 fwalks), (aI k (a 37) 4 (nF br)), (aZ k (a 43) 2 (upd fisKept 1 1)), (aI k (a 44) 70 im_31)] := hD
          refine lv_iconst (v := 1) hx hb dX8_keep_145 (by decide) ?_
          have hP9 := hP.sub (ws' := [((a 0), .inr (8, (fX8 a (nI tx) fp (nI t0) wd (nI we) nu na (nI rd) ts (nI ru) (nI rw) (nI ca) df db sd))), (aZ k (a 32) 24 frow), (aI k (a 36) 4 fwalks), (aI k (a 37) 4 (nF br)), (aZ k (a 43) 2 (upd fisKept 1 1)), (aI k (a 44) 70 im_31)]) [0, 1, 2, 3, 4, 5] rfl
          have hD9 := hD.sub (ws' := [((a 0), .inr (8, (fX8 a (nI tx) fp (nI t0) wd (nI we) nu na (nI rd) ts (nI ru) (nI rw) (nI ca) df db sd))), (aZ k (a 32) 24 frow), (aI k (a 36) 4 fwalks), (aI k (a 37) 4 (nF br)), (aZ k (a 43) 2 (upd fisKept 1 1)), (aI k (a 44) 70 im_31)]) [0, 1, 2, 3, 4, 5] (by decide) rfl
          exact W.iret (v := 1) hx hb hr (fun t ht hW => ⟨⟨1, ((upd fisKept 1 1), im_31), rfl, ⟨himl_31, ⟨fun h => absurd h (by decide), fun _ => ⟨by rfl, hlO_31 0 (by omega), hlO_31 1 (by omega)⟩⟩, ⟨fun _ => ⟨by rfl, hlt0_31, hlt1_31⟩, fun h => absurd rfl h⟩, fun _ => rfl, fun h => absurd hw_1 h, ⟨fun h => absurd h (by decide), fun _ x h1 h2 => hlO_31 x (by omega)⟩, ⟨fun _ => ⟨hlt2_31, hlR_31, fun c hc => hlG_31 c (by omega)⟩, fun h => absurd rfl h⟩⟩, by rw [ht]; exact hP9, hD9⟩, hS.F ht⟩) hS.2.2 dX8_keep_146
        · have c_32 : ¬ (4 ≤ kk_31) := fun h => c_32 ((nI_leI (a := 4) (b := kk_31) (by omega) (by omega)).mpr h)
          refine lv_aload_n hx hb dX8_keep_98 rfl (lv_at hl 2 rfl) ?_
          refine va_get (D := D) (ci := 8) (v := .ref (a 44)) (C := RX8) (T := TX8) (N := 44) hx hb hts inX8 hown hK hP 0 rfl rfl 43 (by decide) (hts _ tw_1016) (fun _ h9 => h9) rfl dX8_keep_99 ?_
          refine lv_iload_n hx hb dX8_keep_102 rfl (lv_at hl 1 rfl) ?_
          refine lv_bipush (v := 27) hx hb dX8_keep_103 (by decide) ?_
          refine lv_iadd hx hb dX8_keep_105 ?_
          refine lv_ti (y := 62) (by decide) ?_
          refine lv_iload_n hx hb dX8_keep_106 rfl (lv_at hl 0 rfl) ?_
          refine lv_iadd hx hb dX8_keep_107 ?_
          refine lv_ti (y := (nI (62 + kk_31))) (nI_add 62 kk_31) ?_
          refine lv_aload_n hx hb dX8_keep_108 rfl (lv_at hl 2 rfl) ?_
          refine va_get (D := D) (ci := 8) (v := .ref (a 36)) (C := RX8) (T := TX8) (N := 44) hx hb hts inX8 hown hK hP 0 rfl rfl 35 (by decide) (hts _ tw_1008) (fun _ h9 => h9) rfl dX8_keep_109 ?_
          refine lv_iload_n hx hb dX8_keep_112 rfl (lv_at hl 0 rfl) ?_
          refine va_iald hx hb hK hP 2 1 rfl rfl (vp_in_nI (by omega) (by decide)) dX8_keep_113 ?_
          refine lv_ti (y := (fwalks kk_31)) (by rw [nI_clamp (by omega)]) ?_
          refine va_iast hx hb hK hP hD hS 5 1 rfl rfl (vp_in_nI (by omega) (by decide)) dX8_keep_114 (fun H locs hP hD hS => ?_)
          replace hP : va_P D classes [((a 0), .inr (8, (fX8 a (nI tx) fp (nI t0) wd (nI we) nu na (nI rd) ts (nI ru) (nI rw) (nI ca) df db sd))), (aZ k (a 32) 24 frow), (aI k (a 36) 4 fwalks), (aI k (a 37) 4 (nF br)), (aZ k (a 43) 2 fisKept), (aI k (a 44) 70 (upd im_31 (Int32.toNatClampNeg (nI (62 + kk_31))) (fwalks kk_31)))] H := hP
          replace hD : va_D A [((a 0), .inr (8, (fX8 a (nI tx) fp (nI t0) wd (nI we) nu na (nI rd) ts (nI ru) (nI rw) (nI ca) df db sd))), (aZ k (a 32) 24 frow), (aI k (a 36) 4 fwalks), (aI k (a 37) 4 (nF br)), (aZ k (a 43) 2 fisKept), (aI k (a 44) 70 (upd im_31 (Int32.toNatClampNeg (nI (62 + kk_31))) (fwalks kk_31)))] := hD
          rw [nI_clamp (n := (62 + kk_31)) (by omega)] at hP hD
          replace hP : va_P D classes [((a 0), .inr (8, (fX8 a (nI tx) fp (nI t0) wd (nI we) nu na (nI rd) ts (nI ru) (nI rw) (nI ca) df db sd))), (aZ k (a 32) 24 frow), (aI k (a 36) 4 fwalks), (aI k (a 37) 4 (nF br)), (aZ k (a 43) 2 fisKept), (aI k (a 44) 70 (upd im_31 (62 + kk_31) (fwalks kk_31)))] H := hP
          replace hD : va_D A [((a 0), .inr (8, (fX8 a (nI tx) fp (nI t0) wd (nI we) nu na (nI rd) ts (nI ru) (nI rw) (nI ca) df db sd))), (aZ k (a 32) 24 frow), (aI k (a 36) 4 fwalks), (aI k (a 37) 4 (nF br)), (aZ k (a 43) 2 fisKept), (aI k (a 44) 70 (upd im_31 (62 + kk_31) (fwalks kk_31)))] := hD
          have him_35 : imOK (upd im_31 (62 + kk_31) (fwalks kk_31)) := imOK_upd himl_31 (62 + kk_31) (fwalks kk_31) ⟨fun h => absurd h (by omega), fun h => absurd h (by omega), fun h => absurd h (by omega)⟩
          have hft0_35 : (upd im_31 (62 + kk_31) (fwalks kk_31)) 35 = (nI rw) := (upd_ne (by omega)).trans hlt0_31
          have hft1_35 : (upd im_31 (62 + kk_31) (fwalks kk_31)) 36 = (nI ca) := (upd_ne (by omega)).trans hlt1_31
          have hft2_35 : (upd im_31 (62 + kk_31) (fwalks kk_31)) 37 = sd := (upd_ne (by omega)).trans hlt2_31
          have hfO_35 : ∀ x, ¬ (35 ≤ x ∧ x < 70) → (upd im_31 (62 + kk_31) (fwalks kk_31)) x = fimages x := fun x hx => (upd_ne (by omega)).trans (hlO_31 x hx)
          have hfR_35 : ∀ i, i < 24 → (upd im_31 (62 + kk_31) (fwalks kk_31)) (38 + i) = b01 (frow i) := fun i hi => (upd_ne (by omega)).trans (hlR_31 i hi)
          have hfW_35 : ∀ i, i < kk_31 + 1 → (upd im_31 (62 + kk_31) (fwalks kk_31)) (62 + i) = fwalks i := im_st (F := fwalks) hlG_31 rfl
          generalize (upd im_31 (62 + kk_31) (fwalks kk_31)) = f_35 at hP hD him_35 hft0_35 hft1_35 hft2_35 hfO_35 hfR_35 hfW_35
          refine lv_aload_n hx hb dX8_keep_115 rfl (lv_at hl 2 rfl) ?_
          refine va_get (D := D) (ci := 8) (v := .ref (a 44)) (C := RX8) (T := TX8) (N := 44) hx hb hts inX8 hown hK hP 0 rfl rfl 43 (by decide) (hts _ tw_1016) (fun _ h9 => h9) rfl dX8_keep_116 ?_
          refine lv_iload_n hx hb dX8_keep_119 rfl (lv_at hl 1 rfl) ?_
          refine lv_bipush (v := 31) hx hb dX8_keep_120 (by decide) ?_
          refine lv_iadd hx hb dX8_keep_122 ?_
          refine lv_ti (y := 66) (by decide) ?_
          refine lv_iload_n hx hb dX8_keep_123 rfl (lv_at hl 0 rfl) ?_
          refine lv_iadd hx hb dX8_keep_124 ?_
          refine lv_ti (y := (nI (66 + kk_31))) (nI_add 66 kk_31) ?_
          refine lv_aload_n hx hb dX8_keep_125 rfl (lv_at hl 2 rfl) ?_
          refine va_get (D := D) (ci := 8) (v := .ref (a 37)) (C := RX8) (T := TX8) (N := 44) hx hb hts inX8 hown hK hP 0 rfl rfl 36 (by decide) (hts _ tw_1009) (fun _ h9 => h9) rfl dX8_keep_126 ?_
          refine lv_iload_n hx hb dX8_keep_129 rfl (lv_at hl 0 rfl) ?_
          refine va_iald hx hb hK hP 3 1 rfl rfl (vp_in_nI (by omega) (by decide)) dX8_keep_130 ?_
          have hq_36 := hbr kk_31
          refine lv_ti (y := (nI (br kk_31))) (by rw [nI_clamp (by omega)]; rfl) ?_
          refine va_iast hx hb hK hP hD hS 5 1 rfl rfl (vp_in_nI (by omega) (by decide)) dX8_keep_131 (fun H locs hP hD hS => ?_)
          replace hP : va_P D classes [((a 0), .inr (8, (fX8 a (nI tx) fp (nI t0) wd (nI we) nu na (nI rd) ts (nI ru) (nI rw) (nI ca) df db sd))), (aZ k (a 32) 24 frow), (aI k (a 36) 4 fwalks), (aI k (a 37) 4 (nF br)), (aZ k (a 43) 2 fisKept), (aI k (a 44) 70 (upd f_35 (Int32.toNatClampNeg (nI (66 + kk_31))) (nI (br kk_31))))] H := hP
          replace hD : va_D A [((a 0), .inr (8, (fX8 a (nI tx) fp (nI t0) wd (nI we) nu na (nI rd) ts (nI ru) (nI rw) (nI ca) df db sd))), (aZ k (a 32) 24 frow), (aI k (a 36) 4 fwalks), (aI k (a 37) 4 (nF br)), (aZ k (a 43) 2 fisKept), (aI k (a 44) 70 (upd f_35 (Int32.toNatClampNeg (nI (66 + kk_31))) (nI (br kk_31))))] := hD
          rw [nI_clamp (n := (66 + kk_31)) (by omega)] at hP hD
          replace hP : va_P D classes [((a 0), .inr (8, (fX8 a (nI tx) fp (nI t0) wd (nI we) nu na (nI rd) ts (nI ru) (nI rw) (nI ca) df db sd))), (aZ k (a 32) 24 frow), (aI k (a 36) 4 fwalks), (aI k (a 37) 4 (nF br)), (aZ k (a 43) 2 fisKept), (aI k (a 44) 70 (upd f_35 (66 + kk_31) (nI (br kk_31))))] H := hP
          replace hD : va_D A [((a 0), .inr (8, (fX8 a (nI tx) fp (nI t0) wd (nI we) nu na (nI rd) ts (nI ru) (nI rw) (nI ca) df db sd))), (aZ k (a 32) 24 frow), (aI k (a 36) 4 fwalks), (aI k (a 37) 4 (nF br)), (aZ k (a 43) 2 fisKept), (aI k (a 44) 70 (upd f_35 (66 + kk_31) (nI (br kk_31))))] := hD
          have him_38 : imOK (upd f_35 (66 + kk_31) (nI (br kk_31))) := imOK_upd him_35 (66 + kk_31) (nI (br kk_31)) ⟨fun h => absurd h (by omega), fun h => absurd h (by omega), fun _ => ⟨br kk_31, by omega, rfl⟩⟩
          have hft0_38 : (upd f_35 (66 + kk_31) (nI (br kk_31))) 35 = (nI rw) := (upd_ne (by omega)).trans hft0_35
          have hft1_38 : (upd f_35 (66 + kk_31) (nI (br kk_31))) 36 = (nI ca) := (upd_ne (by omega)).trans hft1_35
          have hft2_38 : (upd f_35 (66 + kk_31) (nI (br kk_31))) 37 = sd := (upd_ne (by omega)).trans hft2_35
          have hfO_38 : ∀ x, ¬ (35 ≤ x ∧ x < 70) → (upd f_35 (66 + kk_31) (nI (br kk_31))) x = fimages x := fun x hx => (upd_ne (by omega)).trans (hfO_35 x hx)
          have hfR_38 : ∀ i, i < 24 → (upd f_35 (66 + kk_31) (nI (br kk_31))) (38 + i) = b01 (frow i) := fun i hi => (upd_ne (by omega)).trans (hfR_35 i hi)
          have hfW_38 : ∀ i, i < kk_31 + 1 → (upd f_35 (66 + kk_31) (nI (br kk_31))) (62 + i) = fwalks i := fun i hi => (upd_ne (by omega)).trans (hfW_35 i hi)
          generalize (upd f_35 (66 + kk_31) (nI (br kk_31))) = f_38 at hP hD him_38 hft0_38 hft1_38 hft2_38 hfO_38 hfR_38 hfW_38
          refine lv_iinc (v := (nI (kk_31 + 1))) (lv' := [(3, .int (nI (kk_31 + 1))), (2, .int 35), (0, .ref (a 0)), (1, .int 1)]) hx hb dX8_keep_132 hl (k := 0) rfl (nI_add kk_31 1) (by decide) rfl (fun ls hl => ?_)
          refine lv_goto (tgt := 93) hx hb dX8_keep_135 (by decide) ?_
          exact ih_31 _ (kk_31 + 1, f_38) _ _ _ (by omega) ⟨rfl, ⟨by omega, him_38, hft0_38, hft1_38, hft2_38, hfO_38, hfR_38, hfW_38⟩, hP, hD, hS, (lv_sub hl [0, 1, 2, 3] rfl)⟩
      · have c_30 : ¬ (24 ≤ kk_29) := fun h => c_30 ((nI_leI (a := 24) (b := kk_29) (by omega) (by omega)).mpr h)
        refine lv_aload_n hx hb dX8_keep_61 rfl (lv_at hl 2 rfl) ?_
        refine va_get (D := D) (ci := 8) (v := .ref (a 44)) (C := RX8) (T := TX8) (N := 44) hx hb hts inX8 hown hK hP 0 rfl rfl 43 (by decide) (hts _ tw_1016) (fun _ h9 => h9) rfl dX8_keep_62 ?_
        refine lv_iload_n hx hb dX8_keep_65 rfl (lv_at hl 1 rfl) ?_
        refine lv_iconst (v := 3) hx hb dX8_keep_66 (by decide) ?_
        refine lv_iadd hx hb dX8_keep_67 ?_
        refine lv_ti (y := 38) (by decide) ?_
        refine lv_iload_n hx hb dX8_keep_68 rfl (lv_at hl 0 rfl) ?_
        refine lv_iadd hx hb dX8_keep_69 ?_
        refine lv_ti (y := (nI (38 + kk_29))) (nI_add 38 kk_29) ?_
        refine lv_aload_n hx hb dX8_keep_70 rfl (lv_at hl 2 rfl) ?_
        refine va_get (D := D) (ci := 8) (v := .ref (a 32)) (C := RX8) (T := TX8) (N := 44) hx hb hts inX8 hown hK hP 0 rfl rfl 31 (by decide) (hts _ tw_1004) (fun _ h9 => h9) rfl dX8_keep_71 ?_
        refine lv_iload_n hx hb dX8_keep_74 rfl (lv_at hl 0 rfl) ?_
        refine va_zald hx hb hK hP 1 2 rfl rfl (vp_in_nI (by omega) (by decide)) dX8_keep_75 ?_
        refine lv_ti (y := (frow kk_29)) (by rw [nI_clamp (by omega)]) ?_
        refine lv_if_eq (tgt := 83) hx hb dX8_keep_76 (by decide) (fun c_39 => ?_) (fun c_39 => ?_)
        · refine lv_iconst (v := 0) hx hb dX8_keep_83 (by decide) ?_
          refine va_iast hx hb hK hP hD hS 5 1 rfl rfl (vp_in_nI (by omega) (by decide)) dX8_keep_84 (fun H locs hP hD hS => ?_)
          replace hP : va_P D classes [((a 0), .inr (8, (fX8 a (nI tx) fp (nI t0) wd (nI we) nu na (nI rd) ts (nI ru) (nI rw) (nI ca) df db sd))), (aZ k (a 32) 24 frow), (aI k (a 36) 4 fwalks), (aI k (a 37) 4 (nF br)), (aZ k (a 43) 2 fisKept), (aI k (a 44) 70 (upd im_29 (Int32.toNatClampNeg (nI (38 + kk_29))) 0))] H := hP
          replace hD : va_D A [((a 0), .inr (8, (fX8 a (nI tx) fp (nI t0) wd (nI we) nu na (nI rd) ts (nI ru) (nI rw) (nI ca) df db sd))), (aZ k (a 32) 24 frow), (aI k (a 36) 4 fwalks), (aI k (a 37) 4 (nF br)), (aZ k (a 43) 2 fisKept), (aI k (a 44) 70 (upd im_29 (Int32.toNatClampNeg (nI (38 + kk_29))) 0))] := hD
          rw [nI_clamp (n := (38 + kk_29)) (by omega)] at hP hD
          replace hP : va_P D classes [((a 0), .inr (8, (fX8 a (nI tx) fp (nI t0) wd (nI we) nu na (nI rd) ts (nI ru) (nI rw) (nI ca) df db sd))), (aZ k (a 32) 24 frow), (aI k (a 36) 4 fwalks), (aI k (a 37) 4 (nF br)), (aZ k (a 43) 2 fisKept), (aI k (a 44) 70 (upd im_29 (38 + kk_29) 0))] H := hP
          replace hD : va_D A [((a 0), .inr (8, (fX8 a (nI tx) fp (nI t0) wd (nI we) nu na (nI rd) ts (nI ru) (nI rw) (nI ca) df db sd))), (aZ k (a 32) 24 frow), (aI k (a 36) 4 fwalks), (aI k (a 37) 4 (nF br)), (aZ k (a 43) 2 fisKept), (aI k (a 44) 70 (upd im_29 (38 + kk_29) 0))] := hD
          have him_41 : imOK (upd im_29 (38 + kk_29) 0) := imOK_upd himl_29 (38 + kk_29) 0 ⟨fun h => absurd h (by omega), fun h => absurd h (by omega), fun h => absurd h (by omega)⟩
          have hft0_41 : (upd im_29 (38 + kk_29) 0) 35 = (nI rw) := (upd_ne (by omega)).trans hlt0_29
          have hft1_41 : (upd im_29 (38 + kk_29) 0) 36 = (nI ca) := (upd_ne (by omega)).trans hlt1_29
          have hft2_41 : (upd im_29 (38 + kk_29) 0) 37 = sd := (upd_ne (by omega)).trans hlt2_29
          have hfO_41 : ∀ x, ¬ (35 ≤ x ∧ x < 70) → (upd im_29 (38 + kk_29) 0) x = fimages x := fun x hx => (upd_ne (by omega)).trans (hlO_29 x hx)
          have hfR_41 : ∀ i, i < kk_29 + 1 → (upd im_29 (38 + kk_29) 0) (38 + i) = b01 (frow i) := im_st (F := fun i => b01 (frow i)) hlG_29 (show (0 : Int32) = b01 (frow kk_29) from (if_pos c_39).symm)
          generalize (upd im_29 (38 + kk_29) 0) = f_41 at hP hD him_41 hft0_41 hft1_41 hft2_41 hfO_41 hfR_41
          refine lv_iinc (v := (nI (kk_29 + 1))) (lv' := [(3, .int (nI (kk_29 + 1))), (2, .int 35), (0, .ref (a 0)), (1, .int 1)]) hx hb dX8_keep_85 hl (k := 0) rfl (nI_add kk_29 1) (by decide) rfl (fun ls hl => ?_)
          refine lv_goto (tgt := 55) hx hb dX8_keep_88 (by decide) ?_
          exact ih_29 _ (kk_29 + 1, f_41) _ _ _ (by omega) ⟨rfl, ⟨by omega, him_41, hft0_41, hft1_41, hft2_41, hfO_41, hfR_41⟩, hP, hD, hS, (lv_sub hl [0, 1, 2, 3] rfl)⟩
        · refine lv_iconst (v := 1) hx hb dX8_keep_79 (by decide) ?_
          refine lv_goto (tgt := 84) hx hb dX8_keep_80 (by decide) ?_
          refine va_iast hx hb hK hP hD hS 5 1 rfl rfl (vp_in_nI (by omega) (by decide)) dX8_keep_84 (fun H locs hP hD hS => ?_)
          replace hP : va_P D classes [((a 0), .inr (8, (fX8 a (nI tx) fp (nI t0) wd (nI we) nu na (nI rd) ts (nI ru) (nI rw) (nI ca) df db sd))), (aZ k (a 32) 24 frow), (aI k (a 36) 4 fwalks), (aI k (a 37) 4 (nF br)), (aZ k (a 43) 2 fisKept), (aI k (a 44) 70 (upd im_29 (Int32.toNatClampNeg (nI (38 + kk_29))) 1))] H := hP
          replace hD : va_D A [((a 0), .inr (8, (fX8 a (nI tx) fp (nI t0) wd (nI we) nu na (nI rd) ts (nI ru) (nI rw) (nI ca) df db sd))), (aZ k (a 32) 24 frow), (aI k (a 36) 4 fwalks), (aI k (a 37) 4 (nF br)), (aZ k (a 43) 2 fisKept), (aI k (a 44) 70 (upd im_29 (Int32.toNatClampNeg (nI (38 + kk_29))) 1))] := hD
          rw [nI_clamp (n := (38 + kk_29)) (by omega)] at hP hD
          replace hP : va_P D classes [((a 0), .inr (8, (fX8 a (nI tx) fp (nI t0) wd (nI we) nu na (nI rd) ts (nI ru) (nI rw) (nI ca) df db sd))), (aZ k (a 32) 24 frow), (aI k (a 36) 4 fwalks), (aI k (a 37) 4 (nF br)), (aZ k (a 43) 2 fisKept), (aI k (a 44) 70 (upd im_29 (38 + kk_29) 1))] H := hP
          replace hD : va_D A [((a 0), .inr (8, (fX8 a (nI tx) fp (nI t0) wd (nI we) nu na (nI rd) ts (nI ru) (nI rw) (nI ca) df db sd))), (aZ k (a 32) 24 frow), (aI k (a 36) 4 fwalks), (aI k (a 37) 4 (nF br)), (aZ k (a 43) 2 fisKept), (aI k (a 44) 70 (upd im_29 (38 + kk_29) 1))] := hD
          have him_43 : imOK (upd im_29 (38 + kk_29) 1) := imOK_upd himl_29 (38 + kk_29) 1 ⟨fun h => absurd h (by omega), fun h => absurd h (by omega), fun h => absurd h (by omega)⟩
          have hft0_43 : (upd im_29 (38 + kk_29) 1) 35 = (nI rw) := (upd_ne (by omega)).trans hlt0_29
          have hft1_43 : (upd im_29 (38 + kk_29) 1) 36 = (nI ca) := (upd_ne (by omega)).trans hlt1_29
          have hft2_43 : (upd im_29 (38 + kk_29) 1) 37 = sd := (upd_ne (by omega)).trans hlt2_29
          have hfO_43 : ∀ x, ¬ (35 ≤ x ∧ x < 70) → (upd im_29 (38 + kk_29) 1) x = fimages x := fun x hx => (upd_ne (by omega)).trans (hlO_29 x hx)
          have hfR_43 : ∀ i, i < kk_29 + 1 → (upd im_29 (38 + kk_29) 1) (38 + i) = b01 (frow i) := im_st (F := fun i => b01 (frow i)) hlG_29 (show (1 : Int32) = b01 (frow kk_29) from (if_neg c_39).symm)
          generalize (upd im_29 (38 + kk_29) 1) = f_43 at hP hD him_43 hft0_43 hft1_43 hft2_43 hfO_43 hfR_43
          refine lv_iinc (v := (nI (kk_29 + 1))) (lv' := [(3, .int (nI (kk_29 + 1))), (2, .int 35), (0, .ref (a 0)), (1, .int 1)]) hx hb dX8_keep_85 hl (k := 0) rfl (nI_add kk_29 1) (by decide) rfl (fun ls hl => ?_)
          refine lv_goto (tgt := 55) hx hb dX8_keep_88 (by decide) ?_
          exact ih_29 _ (kk_29 + 1, f_43) _ _ _ (by omega) ⟨rfl, ⟨by omega, him_43, hft0_43, hft1_43, hft2_43, hfO_43, hfR_43⟩, hP, hD, hS, (lv_sub hl [0, 1, 2, 3] rfl)⟩
  · refine lv_if_ne (tgt := 14) hx hb dX8_keep_7 (by decide) (fun h => absurd (by decide) h) (fun _ => ?_)
    refine lv_sipush (v := (-1001)) hx hb dX8_keep_10 (by decide) ?_
    have hP9 := hP.sub (ws' := [((a 0), .inr (8, (fX8 a (nI tx) fp (nI t0) wd (nI we) nu na (nI rd) ts (nI ru) (nI rw) (nI ca) df db sd))), (aZ k (a 32) 24 frow), (aI k (a 36) 4 fwalks), (aI k (a 37) 4 (nF br)), (aZ k (a 43) 2 fisKept), (aI k (a 44) 70 fimages)]) [0, 1, 2, 3, 4, 5] rfl
    have hD9 := hD.sub (ws' := [((a 0), .inr (8, (fX8 a (nI tx) fp (nI t0) wd (nI we) nu na (nI rd) ts (nI ru) (nI rw) (nI ca) df db sd))), (aZ k (a 32) 24 frow), (aI k (a 36) 4 fwalks), (aI k (a 37) 4 (nF br)), (aZ k (a 43) 2 fisKept), (aI k (a 44) 70 fimages)]) [0, 1, 2, 3, 4, 5] (by decide) rfl
    exact W.iret (v := (-1001)) hx hb hr (fun t ht hW => ⟨⟨(-1001), (fisKept, fimages), rfl, ⟨him, ⟨fun h => absurd h (no_in hw_1).1, fun _ => ⟨rfl, rfl, rfl⟩⟩, ⟨fun h => absurd h (no_in hw_1).2, fun _ => ⟨rfl, rfl, rfl⟩⟩, fun h => absurd h hw_1, fun _ => rfl, ⟨fun h => absurd h (no_in hw_1).1, fun _ _ _ _ => rfl⟩, ⟨fun h => absurd h (no_in hw_1).2, fun _ _ _ _ => rfl⟩⟩, by rw [ht]; exact hP9, hD9⟩, hS.F ht⟩) hS.2.2 dX8_keep_13


set_option maxHeartbeats 4000000 in
set_option maxRecDepth 100000 in
theorem m_goBack3 (l : Launch) (D : va_G) (k : Nat → ClassId) (st : Nat → Nat) (lo : Nat) (a : Nat → Nat) (tx : Nat) (t0 : Nat) (we : Nat) (rd : Nat) (ru : Nat) (rw : Nat) (ca : Nat) (fp : Int32) (wd : Int64) (nu : Int32) (na : Int32) (ts : Int32) (df : Int32) (db : Int32) (sd : Int32) (fisKept : Nat → Int32) (fimages : Nat → Int32) (frow : Nat → Int32) (fwalks : Nat → Int32) (br : Nat → Nat) (pz : Int32) (hrw : rw ≤ 24) (hca : ca ≤ 4) (hbr : ∀ j, br j ≤ 24) (him : imOK fimages) : CWi l D k st lo yX8_goBack cX8_goBack 4 (some .int) ({ frames := 1, cells := 0, slots := 0, locals := 25 }) 0 0 [.ref (a 0), .int pz] [((a 0), .inr (8, (fX8 a (nI tx) fp (nI t0) wd (nI we) nu na (nI rd) ts (nI ru) (nI rw) (nI ca) df db sd))), (aZ k (a 43) 2 fisKept), (aI k (a 44) 70 fimages), (aZ k (a 32) 24 frow), (aI k (a 36) 4 fwalks), (aI k (a 37) 4 (nF br))] (fun (r : Int32) (u : Nat × Nat × Int32 × (Nat → Int32) × (Nat → Int32) × (Nat → Nat)) => match u with | (rw_, ca_, sd_, frow_, fwalks_, br_) => (∀ b0 b1 a0 a1 : Nat, fimages 0 = nI b0 → fimages 35 = nI b1 → fimages 1 = nI a0 → fimages 36 = nI a1 → b0 ≤ 24 → b1 ≤ 24 → a0 ≤ 4 → a1 ≤ 4 → gbP pz (fisKept 0) (fisKept 1) b0 b1 rw r rw_ ∧ gbP pz (fisKept 0) (fisKept 1) a0 a1 ca r ca_) ∧ rw_ ≤ 24 ∧ ca_ ≤ 4 ∧ (∀ j, br_ j ≤ 24) ∧ gbR pz (fisKept 0) (fisKept 1) fimages frow sd fwalks frow_ sd_ fwalks_) (fun (u : Nat × Nat × Int32 × (Nat → Int32) × (Nat → Int32) × (Nat → Nat)) => match u with | (rw_, ca_, sd_, frow_, fwalks_, br_) => [((a 0), .inr (8, (fX8 a (nI tx) fp (nI t0) wd (nI we) nu na (nI rd) ts (nI ru) (nI rw_) (nI ca_) df db sd_))), (aZ k (a 43) 2 fisKept), (aI k (a 44) 70 fimages), (aZ k (a 32) 24 frow_), (aI k (a 36) 4 fwalks_), (aI k (a 37) 4 (nF br_))]) := by
  intro sz
  refine Met.ofW (cc := cX8_goBack) (maxL := 4) (ret := (some .int)) (by decide) rfl ?_
  intro p e s m args below meth c s₁ B hml hv
  obtain ⟨rfl, hsz, hlo, hP, hK, hDL, hZ⟩ := hv
  have hx := B.exec
  have hb := B.bytes
  have hr := B.returns
  have hts := WS_ts B.pre
  have hown : s.vm.findClass RX8 = some m.cls := findClass_of_methodNamed B.named
  have hlocks := B.notSynchronized
  subst hsz
  have hD := hDL.self (sz := s.heap.size)
  have hAlo := A_lo hDL hlo
  generalize hAe : va_A [((a 0), .inr (8, (fX8 a (nI tx) fp (nI t0) wd (nI we) nu na (nI rd) ts (nI ru) (nI rw) (nI ca) df db sd))), (aZ k (a 43) 2 fisKept), (aI k (a 44) 70 fimages), (aZ k (a 32) 24 frow), (aI k (a 36) 4 fwalks), (aI k (a 37) 4 (nF br))] s.heap.size = A at hD hAlo ⊢
  have hA : ∀ q : Nat, s.heap.size ≤ q → A q := fun q h => by rw [← hAe]; exact Or.inr h
  have hS : va_S A s.heap s.heap [] := va_S.rf
  have hl := lv_entry ([.ref (a 0), .int pz]) (n := 4) (Nat.le_of_ble_eq_true rfl)
  rw [lg_entry_eq]
  generalize (lg_sl ([.ref (a 0), .int pz]) ++ List.replicate (4 - (lg_sl ([.ref (a 0), .int pz])).length) Slot.unset).toArray = ls at hl ⊢
  have hl : lv_has ls 4 [(0, .ref (a 0)), (1, .int pz)] := hl
  refine lv_iload_n hx hb dX8_goBack_0 rfl (lv_at hl 1 rfl) ?_
  refine lv_i2l (v := pz.toInt64) hx hb dX8_goBack_1 rfl ?_
  refine lv_lconst (v := (0 : Int32).toInt64) hx hb dX8_goBack_2 (by decide) ?_
  refine lv_lconst (v := (1 : Int32).toInt64) hx hb dX8_goBack_3 (by decide) ?_
  refine ro_i (D := D) (va_runS (As := [.long (pz.toInt64), .long ((0 : Int32).toInt64), .long ((1 : Int32).toInt64)]) (rest := []) ⟨hx, hb, hml, hown, hts⟩ ((k_in l D k st lo pz (0 : Int32) (1 : Int32)) s.heap.size) (va_cwS 3 hts (gS tw_1111 tw_1112 tw_87 tw_1113) rfl rfl rfl (by decide +kernel) ⟨Nat.le_of_ble_eq_true rfl, Nat.le_of_ble_eq_true rfl⟩) (pS hS hAlo hlo hP hK (va_Dlo hD hAlo) hZ [] (by decide) rfl) rfl rfl hl.1 rfl (lv_room (Nat.le_of_ble_eq_true rfl)) dX8_goBack_4 ⟨Nat.le_of_ble_eq_true rfl, Nat.le_of_ble_eq_true rfl⟩) hS hA hP (fun r_1 H locs hw_1 hP hS => ?_)
  try dsimp only at hw_1
  rcases hw_1 with ⟨rfl, hw_1⟩ | ⟨rfl, hw_1⟩
  · refine lv_if_ne (tgt := 14) hx hb dX8_goBack_7 (by decide) (fun _ => ?_) (fun h => absurd h (by decide))
    rcases spl2 hw_1 with rfl | rfl
    · refine lv_aload_n hx hb dX8_goBack_14 rfl (lv_at hl 0 rfl) ?_
      refine va_get (D := D) (ci := 8) (v := .ref (a 43)) (C := RX8) (T := TX8) (N := 44) hx hb hts inX8 hown hK hP 0 rfl rfl 42 (by decide) (hts _ tw_1015) (fun _ h9 => h9) rfl dX8_goBack_15 ?_
      refine lv_iload_n hx hb dX8_goBack_18 rfl (lv_at hl 1 rfl) ?_
      refine va_zald hx hb hK hP 1 2 rfl rfl (by unfold vp_in; decide) dX8_goBack_19 ?_
      refine lv_ti (y := (fisKept 0)) (by rfl) ?_
      refine lv_if_ne (tgt := 27) hx hb dX8_goBack_20 (by decide) (fun c_2 => ?_) (fun c_2 => ?_)
      · refine lv_bipush (v := 35) hx hb dX8_goBack_27 (by decide) ?_
        refine lv_iload_n hx hb dX8_goBack_29 rfl (lv_at hl 1 rfl) ?_
        refine lv_imul hx hb dX8_goBack_30 ?_
        refine lv_ti (y := 0) (by decide) ?_
        refine lv_istore_n (lv' := [(2, .int 0), (0, .ref (a 0)), (1, .int 0)]) hx hb dX8_goBack_31 rfl hl (by decide) rfl (fun ls hl => ?_)
        refine lv_aload_n hx hb dX8_goBack_32 rfl (lv_at hl 1 rfl) ?_
        refine lv_aload_n hx hb dX8_goBack_33 rfl (lv_at hl 1 rfl) ?_
        refine va_get (D := D) (ci := 8) (v := .ref (a 44)) (C := RX8) (T := TX8) (N := 44) hx hb hts inX8 hown hK hP 0 rfl rfl 43 (by decide) (hts _ tw_1016) (fun _ h9 => h9) rfl dX8_goBack_34 ?_
        refine lv_iload_n hx hb dX8_goBack_37 rfl (lv_at hl 0 rfl) ?_
        refine va_iald hx hb hK hP 2 1 rfl rfl (by unfold vp_in; decide) dX8_goBack_38 ?_
        obtain ⟨ig_3, hig_3, eig_3⟩ := (him 0).1 (by omega)
        refine lv_ti (y := (nI ig_3)) (by exact eig_3) ?_
        refine va_put (D := D) (ci := 8) (v := .int (nI ig_3)) (ty := .int) (C := RX8) (T := TX8) (N := 44) hx hb hts inX8 tyX8 tyX8_ok nmX8 hown hK hP hD hS 0 rfl rfl 30 (by decide) (hts _ tw_1003) (fun _ h9 => h9) rfl (by decide +kernel) rfl rfl (Nat.le_of_ble_eq_true rfl) dX8_goBack_39 (fun H locs hP hD hS => ?_)
        replace hP : va_P D classes [((a 0), .inr (8, (fX8 a (nI tx) fp (nI t0) wd (nI we) nu na (nI rd) ts (nI ru) (nI ig_3) (nI ca) df db sd))), (aZ k (a 43) 2 fisKept), (aI k (a 44) 70 fimages), (aZ k (a 32) 24 frow), (aI k (a 36) 4 fwalks), (aI k (a 37) 4 (nF br))] H := hP
        replace hD : va_D A [((a 0), .inr (8, (fX8 a (nI tx) fp (nI t0) wd (nI we) nu na (nI rd) ts (nI ru) (nI ig_3) (nI ca) df db sd))), (aZ k (a 43) 2 fisKept), (aI k (a 44) 70 fimages), (aZ k (a 32) 24 frow), (aI k (a 36) 4 fwalks), (aI k (a 37) 4 (nF br))] := hD
        refine lv_aload_n hx hb dX8_goBack_42 rfl (lv_at hl 1 rfl) ?_
        refine lv_aload_n hx hb dX8_goBack_43 rfl (lv_at hl 1 rfl) ?_
        refine va_get (D := D) (ci := 8) (v := .ref (a 44)) (C := RX8) (T := TX8) (N := 44) hx hb hts inX8 hown hK hP 0 rfl rfl 43 (by decide) (hts _ tw_1016) (fun _ h9 => h9) rfl dX8_goBack_44 ?_
        refine lv_iload_n hx hb dX8_goBack_47 rfl (lv_at hl 0 rfl) ?_
        refine lv_iconst (v := 1) hx hb dX8_goBack_48 (by decide) ?_
        refine lv_iadd hx hb dX8_goBack_49 ?_
        refine lv_ti (y := 1) (by decide) ?_
        refine va_iald hx hb hK hP 2 1 rfl rfl (by unfold vp_in; decide) dX8_goBack_50 ?_
        obtain ⟨ig_4, hig_4, eig_4⟩ := (him 1).2.1 (by omega)
        refine lv_ti (y := (nI ig_4)) (by exact eig_4) ?_
        refine va_put (D := D) (ci := 8) (v := .int (nI ig_4)) (ty := .int) (C := RX8) (T := TX8) (N := 44) hx hb hts inX8 tyX8 tyX8_ok nmX8 hown hK hP hD hS 0 rfl rfl 34 (by decide) (hts _ tw_1007) (fun _ h9 => h9) rfl (by decide +kernel) rfl rfl (Nat.le_of_ble_eq_true rfl) dX8_goBack_51 (fun H locs hP hD hS => ?_)
        replace hP : va_P D classes [((a 0), .inr (8, (fX8 a (nI tx) fp (nI t0) wd (nI we) nu na (nI rd) ts (nI ru) (nI ig_3) (nI ig_4) df db sd))), (aZ k (a 43) 2 fisKept), (aI k (a 44) 70 fimages), (aZ k (a 32) 24 frow), (aI k (a 36) 4 fwalks), (aI k (a 37) 4 (nF br))] H := hP
        replace hD : va_D A [((a 0), .inr (8, (fX8 a (nI tx) fp (nI t0) wd (nI we) nu na (nI rd) ts (nI ru) (nI ig_3) (nI ig_4) df db sd))), (aZ k (a 43) 2 fisKept), (aI k (a 44) 70 fimages), (aZ k (a 32) 24 frow), (aI k (a 36) 4 fwalks), (aI k (a 37) 4 (nF br))] := hD
        refine lv_aload_n hx hb dX8_goBack_54 rfl (lv_at hl 1 rfl) ?_
        refine lv_aload_n hx hb dX8_goBack_55 rfl (lv_at hl 1 rfl) ?_
        refine va_get (D := D) (ci := 8) (v := .ref (a 44)) (C := RX8) (T := TX8) (N := 44) hx hb hts inX8 hown hK hP 0 rfl rfl 43 (by decide) (hts _ tw_1016) (fun _ h9 => h9) rfl dX8_goBack_56 ?_
        refine lv_iload_n hx hb dX8_goBack_59 rfl (lv_at hl 0 rfl) ?_
        refine lv_iconst (v := 2) hx hb dX8_goBack_60 (by decide) ?_
        refine lv_iadd hx hb dX8_goBack_61 ?_
        refine lv_ti (y := 2) (by decide) ?_
        refine va_iald hx hb hK hP 2 1 rfl rfl (by unfold vp_in; decide) dX8_goBack_62 ?_
        refine lv_ti (y := (fimages 2)) (by rfl) ?_
        refine va_put (D := D) (ci := 8) (v := .int (fimages 2)) (ty := .int) (C := RX8) (T := TX8) (N := 44) hx hb hts inX8 tyX8 tyX8_ok nmX8 hown hK hP hD hS 0 rfl rfl 41 (by decide) (hts _ tw_1014) (fun _ h9 => h9) rfl (by decide +kernel) rfl rfl (Nat.le_of_ble_eq_true rfl) dX8_goBack_63 (fun H locs hP hD hS => ?_)
        replace hP : va_P D classes [((a 0), .inr (8, (fX8 a (nI tx) fp (nI t0) wd (nI we) nu na (nI rd) ts (nI ru) (nI ig_3) (nI ig_4) df db (fimages 2)))), (aZ k (a 43) 2 fisKept), (aI k (a 44) 70 fimages), (aZ k (a 32) 24 frow), (aI k (a 36) 4 fwalks), (aI k (a 37) 4 (nF br))] H := hP
        replace hD : va_D A [((a 0), .inr (8, (fX8 a (nI tx) fp (nI t0) wd (nI we) nu na (nI rd) ts (nI ru) (nI ig_3) (nI ig_4) df db (fimages 2)))), (aZ k (a 43) 2 fisKept), (aI k (a 44) 70 fimages), (aZ k (a 32) 24 frow), (aI k (a 36) 4 fwalks), (aI k (a 37) 4 (nF br))] := hD
        refine lv_iconst (v := 0) hx hb dX8_goBack_66 (by decide) ?_
        refine lv_istore_n (lv' := [(3, .int 0), (2, .int 0), (0, .ref (a 0)), (1, .int 0)]) hx hb dX8_goBack_67 rfl hl (by decide) rfl (fun ls hl => ?_)
        refine W_loop (σ := Nat × (Nat → Int32)) (fun (n_ : Nat) (x_ : Nat × (Nat → Int32)) (H : Heap) (locs : List Loc) (ls : Array Slot) => match x_ with | (kk_5, fr2_5) => n_ = 24 - kk_5 ∧ (kk_5 ≤ 24 ∧ ∀ i, i < kk_5 → fr2_5 i = b11 (fimages (3 + i))) ∧ va_P D classes [((a 0), .inr (8, (fX8 a (nI tx) fp (nI t0) wd (nI we) nu na (nI rd) ts (nI ru) (nI ig_3) (nI ig_4) df db (fimages 2)))), (aZ k (a 43) 2 fisKept), (aI k (a 44) 70 fimages), (aZ k (a 32) 24 fr2_5), (aI k (a 36) 4 fwalks), (aI k (a 37) 4 (nF br))] H ∧ va_D A [((a 0), .inr (8, (fX8 a (nI tx) fp (nI t0) wd (nI we) nu na (nI rd) ts (nI ru) (nI ig_3) (nI ig_4) df db (fimages 2)))), (aZ k (a 43) 2 fisKept), (aI k (a 44) 70 fimages), (aZ k (a 32) 24 fr2_5), (aI k (a 36) 4 fwalks), (aI k (a 37) 4 (nF br))] ∧ va_S A s.heap H locs ∧ lv_has ls 4 [(3, .int (nI kk_5)), (2, .int 0), (0, .ref (a 0)), (1, .int 0)]) (fun n_5 x_5 H locs ls hI ih_5 => ?_) _ (0, frow) ⟨rfl, ⟨by omega, fun i h => absurd h (Nat.not_lt_zero i)⟩, hP, hD, hS, (lv_sub hl [0, 1, 2, 3] rfl)⟩
        obtain ⟨kk_5, fr2_5⟩ := x_5
        obtain ⟨hm_5, hv_5, hP, hD, hS, hl⟩ := hI
        subst hm_5
        refine lv_iload_n hx hb dX8_goBack_68 rfl (lv_at hl 0 rfl) ?_
        refine lv_bipush (v := 24) hx hb dX8_goBack_69 (by decide) ?_
        refine lv_icmp_ge (tgt := 105) hx hb dX8_goBack_71 (by decide) (fun c_6 => ?_) (fun c_6 => ?_)
        · have c_6 := (nI_leI (a := 24) (b := kk_5) (by omega) (by omega)).mp c_6
          refine lv_iconst (v := 0) hx hb dX8_goBack_105 (by decide) ?_
          refine lv_istore_n (lv' := [(3, .int 0), (2, .int 0), (0, .ref (a 0)), (1, .int 0)]) hx hb dX8_goBack_106 rfl hl (by decide) rfl (fun ls hl => ?_)
          refine W_loop (σ := Nat × (Nat → Int32) × (Nat → Nat)) (fun (n_ : Nat) (x_ : Nat × (Nat → Int32) × (Nat → Nat)) (H : Heap) (locs : List Loc) (ls : Array Slot) => match x_ with | (kk_7, fw2_7, b2_7) => n_ = 4 - kk_7 ∧ (kk_7 ≤ 4 ∧ (∀ j, b2_7 j ≤ 24) ∧ (∀ c, c < kk_7 → fw2_7 c = fimages (27 + c))) ∧ va_P D classes [((a 0), .inr (8, (fX8 a (nI tx) fp (nI t0) wd (nI we) nu na (nI rd) ts (nI ru) (nI ig_3) (nI ig_4) df db (fimages 2)))), (aZ k (a 43) 2 fisKept), (aI k (a 44) 70 fimages), (aZ k (a 32) 24 fr2_5), (aI k (a 36) 4 fw2_7), (aI k (a 37) 4 (nF b2_7))] H ∧ va_D A [((a 0), .inr (8, (fX8 a (nI tx) fp (nI t0) wd (nI we) nu na (nI rd) ts (nI ru) (nI ig_3) (nI ig_4) df db (fimages 2)))), (aZ k (a 43) 2 fisKept), (aI k (a 44) 70 fimages), (aZ k (a 32) 24 fr2_5), (aI k (a 36) 4 fw2_7), (aI k (a 37) 4 (nF b2_7))] ∧ va_S A s.heap H locs ∧ lv_has ls 4 [(3, .int (nI kk_7)), (2, .int 0), (0, .ref (a 0)), (1, .int 0)]) (fun n_7 x_7 H locs ls hI ih_7 => ?_) _ (0, fwalks, br) ⟨rfl, ⟨by omega, hbr, fun c h => absurd h (Nat.not_lt_zero c)⟩, hP, hD, hS, (lv_sub hl [0, 1, 2, 3] rfl)⟩
          obtain ⟨kk_7, fw2_7, b2_7⟩ := x_7
          obtain ⟨hm_7, hv_7, hP, hD, hS, hl⟩ := hI
          subst hm_7
          have hbl_7 := hv_7.2.1
          refine lv_iload_n hx hb dX8_goBack_107 rfl (lv_at hl 0 rfl) ?_
          refine lv_iconst (v := 4) hx hb dX8_goBack_108 (by decide) ?_
          refine lv_icmp_ge (tgt := 152) hx hb dX8_goBack_109 (by decide) (fun c_8 => ?_) (fun c_8 => ?_)
          · have c_8 := (nI_leI (a := 4) (b := kk_7) (by omega) (by omega)).mp c_8
            refine lv_iconst (v := 1) hx hb dX8_goBack_152 (by decide) ?_
            have hP9 := hP.sub (ws' := [((a 0), .inr (8, (fX8 a (nI tx) fp (nI t0) wd (nI we) nu na (nI rd) ts (nI ru) (nI ig_3) (nI ig_4) df db (fimages 2)))), (aZ k (a 43) 2 fisKept), (aI k (a 44) 70 fimages), (aZ k (a 32) 24 fr2_5), (aI k (a 36) 4 fw2_7), (aI k (a 37) 4 (nF b2_7))]) [0, 1, 2, 3, 4, 5] rfl
            have hD9 := hD.sub (ws' := [((a 0), .inr (8, (fX8 a (nI tx) fp (nI t0) wd (nI we) nu na (nI rd) ts (nI ru) (nI ig_3) (nI ig_4) df db (fimages 2)))), (aZ k (a 43) 2 fisKept), (aI k (a 44) 70 fimages), (aZ k (a 32) 24 fr2_5), (aI k (a 36) 4 fw2_7), (aI k (a 37) 4 (nF b2_7))]) [0, 1, 2, 3, 4, 5] (by decide) rfl
            exact W.iret (v := 1) hx hb hr (fun t ht hW => ⟨⟨1, (ig_3, ig_4, (fimages 2), fr2_5, fw2_7, b2_7), rfl, ⟨fun b0 b1 a0 a1 hb0 hb1 ha0 ha1 hc0 hc1 hd0 hd1 => ⟨gb_k0 c_2 (nI_inj (by omega) (by omega) (eig_3.symm.trans hb0)), gb_k0 c_2 (nI_inj (by omega) (by omega) (eig_4.symm.trans ha0))⟩, by omega, by omega, hbl_7, gr_k0 c_2 ⟨rfl, fun i hi => hv_5.2 i (by omega), fun c hc => hv_7.2.2 c (by omega)⟩⟩, by rw [ht]; exact hP9, hD9⟩, hS.F ht⟩) hS.2.2 dX8_goBack_153
          · have c_8 : ¬ (4 ≤ kk_7) := fun h => c_8 ((nI_leI (a := 4) (b := kk_7) (by omega) (by omega)).mpr h)
            refine lv_aload_n hx hb dX8_goBack_112 rfl (lv_at hl 2 rfl) ?_
            refine va_get (D := D) (ci := 8) (v := .ref (a 36)) (C := RX8) (T := TX8) (N := 44) hx hb hts inX8 hown hK hP 0 rfl rfl 35 (by decide) (hts _ tw_1008) (fun _ h9 => h9) rfl dX8_goBack_113 ?_
            refine lv_iload_n hx hb dX8_goBack_116 rfl (lv_at hl 0 rfl) ?_
            refine lv_aload_n hx hb dX8_goBack_117 rfl (lv_at hl 2 rfl) ?_
            refine va_get (D := D) (ci := 8) (v := .ref (a 44)) (C := RX8) (T := TX8) (N := 44) hx hb hts inX8 hown hK hP 0 rfl rfl 43 (by decide) (hts _ tw_1016) (fun _ h9 => h9) rfl dX8_goBack_118 ?_
            refine lv_iload_n hx hb dX8_goBack_121 rfl (lv_at hl 1 rfl) ?_
            refine lv_bipush (v := 27) hx hb dX8_goBack_122 (by decide) ?_
            refine lv_iadd hx hb dX8_goBack_124 ?_
            refine lv_ti (y := 27) (by decide) ?_
            refine lv_iload_n hx hb dX8_goBack_125 rfl (lv_at hl 0 rfl) ?_
            refine lv_iadd hx hb dX8_goBack_126 ?_
            refine lv_ti (y := (nI (27 + kk_7))) (nI_add 27 kk_7) ?_
            refine va_iald hx hb hK hP 2 1 rfl rfl (vp_in_nI (by omega) (by decide)) dX8_goBack_127 ?_
            refine lv_ti (y := (fimages (27 + kk_7))) (by rw [nI_clamp (by omega)]) ?_
            refine va_iast hx hb hK hP hD hS 4 1 rfl rfl (vp_in_nI (by omega) (by decide)) dX8_goBack_128 (fun H locs hP hD hS => ?_)
            replace hP : va_P D classes [((a 0), .inr (8, (fX8 a (nI tx) fp (nI t0) wd (nI we) nu na (nI rd) ts (nI ru) (nI ig_3) (nI ig_4) df db (fimages 2)))), (aZ k (a 43) 2 fisKept), (aI k (a 44) 70 fimages), (aZ k (a 32) 24 fr2_5), (aI k (a 36) 4 (upd fw2_7 (Int32.toNatClampNeg (nI kk_7)) (fimages (27 + kk_7)))), (aI k (a 37) 4 (nF b2_7))] H := hP
            replace hD : va_D A [((a 0), .inr (8, (fX8 a (nI tx) fp (nI t0) wd (nI we) nu na (nI rd) ts (nI ru) (nI ig_3) (nI ig_4) df db (fimages 2)))), (aZ k (a 43) 2 fisKept), (aI k (a 44) 70 fimages), (aZ k (a 32) 24 fr2_5), (aI k (a 36) 4 (upd fw2_7 (Int32.toNatClampNeg (nI kk_7)) (fimages (27 + kk_7)))), (aI k (a 37) 4 (nF b2_7))] := hD
            rw [nI_clamp (n := kk_7) (by omega)] at hP hD
            replace hP : va_P D classes [((a 0), .inr (8, (fX8 a (nI tx) fp (nI t0) wd (nI we) nu na (nI rd) ts (nI ru) (nI ig_3) (nI ig_4) df db (fimages 2)))), (aZ k (a 43) 2 fisKept), (aI k (a 44) 70 fimages), (aZ k (a 32) 24 fr2_5), (aI k (a 36) 4 (upd fw2_7 kk_7 (fimages (27 + kk_7)))), (aI k (a 37) 4 (nF b2_7))] H := hP
            replace hD : va_D A [((a 0), .inr (8, (fX8 a (nI tx) fp (nI t0) wd (nI we) nu na (nI rd) ts (nI ru) (nI ig_3) (nI ig_4) df db (fimages 2)))), (aZ k (a 43) 2 fisKept), (aI k (a 44) 70 fimages), (aZ k (a 32) 24 fr2_5), (aI k (a 36) 4 (upd fw2_7 kk_7 (fimages (27 + kk_7)))), (aI k (a 37) 4 (nF b2_7))] := hD
            refine lv_aload_n hx hb dX8_goBack_129 rfl (lv_at hl 2 rfl) ?_
            refine va_get (D := D) (ci := 8) (v := .ref (a 37)) (C := RX8) (T := TX8) (N := 44) hx hb hts inX8 hown hK hP 0 rfl rfl 36 (by decide) (hts _ tw_1009) (fun _ h9 => h9) rfl dX8_goBack_130 ?_
            refine lv_iload_n hx hb dX8_goBack_133 rfl (lv_at hl 0 rfl) ?_
            refine lv_aload_n hx hb dX8_goBack_134 rfl (lv_at hl 2 rfl) ?_
            refine va_get (D := D) (ci := 8) (v := .ref (a 44)) (C := RX8) (T := TX8) (N := 44) hx hb hts inX8 hown hK hP 0 rfl rfl 43 (by decide) (hts _ tw_1016) (fun _ h9 => h9) rfl dX8_goBack_135 ?_
            refine lv_iload_n hx hb dX8_goBack_138 rfl (lv_at hl 1 rfl) ?_
            refine lv_bipush (v := 31) hx hb dX8_goBack_139 (by decide) ?_
            refine lv_iadd hx hb dX8_goBack_141 ?_
            refine lv_ti (y := 31) (by decide) ?_
            refine lv_iload_n hx hb dX8_goBack_142 rfl (lv_at hl 0 rfl) ?_
            refine lv_iadd hx hb dX8_goBack_143 ?_
            refine lv_ti (y := (nI (31 + kk_7))) (nI_add 31 kk_7) ?_
            refine va_iald hx hb hK hP 2 1 rfl rfl (vp_in_nI (by omega) (by decide)) dX8_goBack_144 ?_
            obtain ⟨ig_10, hig_10, eig_10⟩ := (him (31 + kk_7)).2.2 (by omega)
            refine lv_ti (y := (nI ig_10)) (by rw [nI_clamp (by omega)]; exact eig_10) ?_
            refine va_iast hx hb hK hP hD hS 5 1 rfl rfl (vp_in_nI (by omega) (by decide)) dX8_goBack_145 (fun H locs hP hD hS => ?_)
            replace hP : va_P D classes [((a 0), .inr (8, (fX8 a (nI tx) fp (nI t0) wd (nI we) nu na (nI rd) ts (nI ru) (nI ig_3) (nI ig_4) df db (fimages 2)))), (aZ k (a 43) 2 fisKept), (aI k (a 44) 70 fimages), (aZ k (a 32) 24 fr2_5), (aI k (a 36) 4 (upd fw2_7 kk_7 (fimages (27 + kk_7)))), (aI k (a 37) 4 (upd (nF b2_7) (Int32.toNatClampNeg (nI kk_7)) (nI ig_10)))] H := hP
            replace hD : va_D A [((a 0), .inr (8, (fX8 a (nI tx) fp (nI t0) wd (nI we) nu na (nI rd) ts (nI ru) (nI ig_3) (nI ig_4) df db (fimages 2)))), (aZ k (a 43) 2 fisKept), (aI k (a 44) 70 fimages), (aZ k (a 32) 24 fr2_5), (aI k (a 36) 4 (upd fw2_7 kk_7 (fimages (27 + kk_7)))), (aI k (a 37) 4 (upd (nF b2_7) (Int32.toNatClampNeg (nI kk_7)) (nI ig_10)))] := hD
            rw [nI_clamp (n := kk_7) (by omega)] at hP hD
            rw [show upd (nF b2_7) kk_7 (nI ig_10) = nF (fun j => if j = kk_7 then ig_10 else b2_7 j) from nF_upd _ _ _] at hP hD
            obtain ⟨d_12, hd_12⟩ : ∃ z : Nat → Nat, z = (fun j => if j = kk_7 then ig_10 else b2_7 j) := ⟨_, rfl⟩
            rw [← hd_12] at hP hD
            have hbb_12 : ∀ j, d_12 j ≤ 24 := by rw [hd_12]; exact up_le hbl_7 (by omega)
            refine lv_iinc (v := (nI (kk_7 + 1))) (lv' := [(3, .int (nI (kk_7 + 1))), (2, .int 0), (0, .ref (a 0)), (1, .int 0)]) hx hb dX8_goBack_146 hl (k := 0) rfl (nI_add kk_7 1) (by decide) rfl (fun ls hl => ?_)
            refine lv_goto (tgt := 107) hx hb dX8_goBack_149 (by decide) ?_
            exact ih_7 _ (kk_7 + 1, (upd fw2_7 kk_7 (fimages (27 + kk_7))), d_12) _ _ _ (by omega) ⟨rfl, ⟨by omega, hbb_12, la_upd (F := fun c => fimages (27 + c)) hv_7.2.2 rfl⟩, hP, hD, hS, (lv_sub hl [0, 1, 2, 3] rfl)⟩
        · have c_6 : ¬ (24 ≤ kk_5) := fun h => c_6 ((nI_leI (a := 24) (b := kk_5) (by omega) (by omega)).mpr h)
          refine lv_aload_n hx hb dX8_goBack_74 rfl (lv_at hl 2 rfl) ?_
          refine va_get (D := D) (ci := 8) (v := .ref (a 32)) (C := RX8) (T := TX8) (N := 44) hx hb hts inX8 hown hK hP 0 rfl rfl 31 (by decide) (hts _ tw_1004) (fun _ h9 => h9) rfl dX8_goBack_75 ?_
          refine lv_iload_n hx hb dX8_goBack_78 rfl (lv_at hl 0 rfl) ?_
          refine lv_aload_n hx hb dX8_goBack_79 rfl (lv_at hl 2 rfl) ?_
          refine va_get (D := D) (ci := 8) (v := .ref (a 44)) (C := RX8) (T := TX8) (N := 44) hx hb hts inX8 hown hK hP 0 rfl rfl 43 (by decide) (hts _ tw_1016) (fun _ h9 => h9) rfl dX8_goBack_80 ?_
          refine lv_iload_n hx hb dX8_goBack_83 rfl (lv_at hl 1 rfl) ?_
          refine lv_iconst (v := 3) hx hb dX8_goBack_84 (by decide) ?_
          refine lv_iadd hx hb dX8_goBack_85 ?_
          refine lv_ti (y := 3) (by decide) ?_
          refine lv_iload_n hx hb dX8_goBack_86 rfl (lv_at hl 0 rfl) ?_
          refine lv_iadd hx hb dX8_goBack_87 ?_
          refine lv_ti (y := (nI (3 + kk_5))) (nI_add 3 kk_5) ?_
          refine va_iald hx hb hK hP 2 1 rfl rfl (vp_in_nI (by omega) (by decide)) dX8_goBack_88 ?_
          refine lv_ti (y := (fimages (3 + kk_5))) (by rw [nI_clamp (by omega)]) ?_
          refine lv_iconst (v := 1) hx hb dX8_goBack_89 (by decide) ?_
          refine lv_icmp_ne (tgt := 97) hx hb dX8_goBack_90 (by decide) (fun c_13 => ?_) (fun c_13 => ?_)
          · refine lv_iconst (v := 0) hx hb dX8_goBack_97 (by decide) ?_
            refine va_zast hx hb hK hP hD hS 3 2 rfl rfl (vp_in_nI (by omega) (by decide)) dX8_goBack_98 (fun H locs hP hD hS => ?_)
            replace hP : va_P D classes [((a 0), .inr (8, (fX8 a (nI tx) fp (nI t0) wd (nI we) nu na (nI rd) ts (nI ru) (nI ig_3) (nI ig_4) df db (fimages 2)))), (aZ k (a 43) 2 fisKept), (aI k (a 44) 70 fimages), (aZ k (a 32) 24 (upd fr2_5 (Int32.toNatClampNeg (nI kk_5)) (vp_nar .boolean 0))), (aI k (a 36) 4 fwalks), (aI k (a 37) 4 (nF br))] H := hP
            replace hD : va_D A [((a 0), .inr (8, (fX8 a (nI tx) fp (nI t0) wd (nI we) nu na (nI rd) ts (nI ru) (nI ig_3) (nI ig_4) df db (fimages 2)))), (aZ k (a 43) 2 fisKept), (aI k (a 44) 70 fimages), (aZ k (a 32) 24 (upd fr2_5 (Int32.toNatClampNeg (nI kk_5)) (vp_nar .boolean 0))), (aI k (a 36) 4 fwalks), (aI k (a 37) 4 (nF br))] := hD
            rw [nI_clamp (n := kk_5) (by omega)] at hP hD
            replace hP : va_P D classes [((a 0), .inr (8, (fX8 a (nI tx) fp (nI t0) wd (nI we) nu na (nI rd) ts (nI ru) (nI ig_3) (nI ig_4) df db (fimages 2)))), (aZ k (a 43) 2 fisKept), (aI k (a 44) 70 fimages), (aZ k (a 32) 24 (upd fr2_5 kk_5 (vp_nar .boolean 0))), (aI k (a 36) 4 fwalks), (aI k (a 37) 4 (nF br))] H := hP
            replace hD : va_D A [((a 0), .inr (8, (fX8 a (nI tx) fp (nI t0) wd (nI we) nu na (nI rd) ts (nI ru) (nI ig_3) (nI ig_4) df db (fimages 2)))), (aZ k (a 43) 2 fisKept), (aI k (a 44) 70 fimages), (aZ k (a 32) 24 (upd fr2_5 kk_5 (vp_nar .boolean 0))), (aI k (a 36) 4 fwalks), (aI k (a 37) 4 (nF br))] := hD
            refine lv_iinc (v := (nI (kk_5 + 1))) (lv' := [(3, .int (nI (kk_5 + 1))), (2, .int 0), (0, .ref (a 0)), (1, .int 0)]) hx hb dX8_goBack_99 hl (k := 0) rfl (nI_add kk_5 1) (by decide) rfl (fun ls hl => ?_)
            refine lv_goto (tgt := 68) hx hb dX8_goBack_102 (by decide) ?_
            exact ih_5 _ (kk_5 + 1, (upd fr2_5 kk_5 (vp_nar .boolean 0))) _ _ _ (by omega) ⟨rfl, ⟨by omega, la_upd (F := fun i => b11 (fimages (3 + i))) hv_5.2 (by rw [show vp_nar .boolean 0 = 0 from rfl]; exact (if_neg c_13).symm)⟩, hP, hD, hS, (lv_sub hl [0, 1, 2, 3] rfl)⟩
          · refine lv_iconst (v := 1) hx hb dX8_goBack_93 (by decide) ?_
            refine lv_goto (tgt := 98) hx hb dX8_goBack_94 (by decide) ?_
            refine va_zast hx hb hK hP hD hS 3 2 rfl rfl (vp_in_nI (by omega) (by decide)) dX8_goBack_98 (fun H locs hP hD hS => ?_)
            replace hP : va_P D classes [((a 0), .inr (8, (fX8 a (nI tx) fp (nI t0) wd (nI we) nu na (nI rd) ts (nI ru) (nI ig_3) (nI ig_4) df db (fimages 2)))), (aZ k (a 43) 2 fisKept), (aI k (a 44) 70 fimages), (aZ k (a 32) 24 (upd fr2_5 (Int32.toNatClampNeg (nI kk_5)) (vp_nar .boolean 1))), (aI k (a 36) 4 fwalks), (aI k (a 37) 4 (nF br))] H := hP
            replace hD : va_D A [((a 0), .inr (8, (fX8 a (nI tx) fp (nI t0) wd (nI we) nu na (nI rd) ts (nI ru) (nI ig_3) (nI ig_4) df db (fimages 2)))), (aZ k (a 43) 2 fisKept), (aI k (a 44) 70 fimages), (aZ k (a 32) 24 (upd fr2_5 (Int32.toNatClampNeg (nI kk_5)) (vp_nar .boolean 1))), (aI k (a 36) 4 fwalks), (aI k (a 37) 4 (nF br))] := hD
            rw [nI_clamp (n := kk_5) (by omega)] at hP hD
            replace hP : va_P D classes [((a 0), .inr (8, (fX8 a (nI tx) fp (nI t0) wd (nI we) nu na (nI rd) ts (nI ru) (nI ig_3) (nI ig_4) df db (fimages 2)))), (aZ k (a 43) 2 fisKept), (aI k (a 44) 70 fimages), (aZ k (a 32) 24 (upd fr2_5 kk_5 (vp_nar .boolean 1))), (aI k (a 36) 4 fwalks), (aI k (a 37) 4 (nF br))] H := hP
            replace hD : va_D A [((a 0), .inr (8, (fX8 a (nI tx) fp (nI t0) wd (nI we) nu na (nI rd) ts (nI ru) (nI ig_3) (nI ig_4) df db (fimages 2)))), (aZ k (a 43) 2 fisKept), (aI k (a 44) 70 fimages), (aZ k (a 32) 24 (upd fr2_5 kk_5 (vp_nar .boolean 1))), (aI k (a 36) 4 fwalks), (aI k (a 37) 4 (nF br))] := hD
            refine lv_iinc (v := (nI (kk_5 + 1))) (lv' := [(3, .int (nI (kk_5 + 1))), (2, .int 0), (0, .ref (a 0)), (1, .int 0)]) hx hb dX8_goBack_99 hl (k := 0) rfl (nI_add kk_5 1) (by decide) rfl (fun ls hl => ?_)
            refine lv_goto (tgt := 68) hx hb dX8_goBack_102 (by decide) ?_
            exact ih_5 _ (kk_5 + 1, (upd fr2_5 kk_5 (vp_nar .boolean 1))) _ _ _ (by omega) ⟨rfl, ⟨by omega, la_upd (F := fun i => b11 (fimages (3 + i))) hv_5.2 (by rw [show vp_nar .boolean 1 = 1 from rfl]; exact (if_pos c_13).symm)⟩, hP, hD, hS, (lv_sub hl [0, 1, 2, 3] rfl)⟩
      · refine lv_sipush (v := (-1003)) hx hb dX8_goBack_23 (by decide) ?_
        have hP9 := hP.sub (ws' := [((a 0), .inr (8, (fX8 a (nI tx) fp (nI t0) wd (nI we) nu na (nI rd) ts (nI ru) (nI rw) (nI ca) df db sd))), (aZ k (a 43) 2 fisKept), (aI k (a 44) 70 fimages), (aZ k (a 32) 24 frow), (aI k (a 36) 4 fwalks), (aI k (a 37) 4 (nF br))]) [0, 1, 2, 3, 4, 5] rfl
        have hD9 := hD.sub (ws' := [((a 0), .inr (8, (fX8 a (nI tx) fp (nI t0) wd (nI we) nu na (nI rd) ts (nI ru) (nI rw) (nI ca) df db sd))), (aZ k (a 43) 2 fisKept), (aI k (a 44) 70 fimages), (aZ k (a 32) 24 frow), (aI k (a 36) 4 fwalks), (aI k (a 37) 4 (nF br))]) [0, 1, 2, 3, 4, 5] (by decide) rfl
        exact W.iret (v := (-1003)) hx hb hr (fun t ht hW => ⟨⟨(-1003), (rw, ca, sd, frow, fwalks, br), rfl, ⟨fun b0 b1 a0 a1 hb0 hb1 ha0 ha1 hc0 hc1 hd0 hd1 => ⟨gb_n0 c_2, gb_n0 c_2⟩, by omega, by omega, hbr, gr_n0 c_2⟩, by rw [ht]; exact hP9, hD9⟩, hS.F ht⟩) hS.2.2 dX8_goBack_26
    · refine lv_aload_n hx hb dX8_goBack_14 rfl (lv_at hl 0 rfl) ?_
      refine va_get (D := D) (ci := 8) (v := .ref (a 43)) (C := RX8) (T := TX8) (N := 44) hx hb hts inX8 hown hK hP 0 rfl rfl 42 (by decide) (hts _ tw_1015) (fun _ h9 => h9) rfl dX8_goBack_15 ?_
      refine lv_iload_n hx hb dX8_goBack_18 rfl (lv_at hl 1 rfl) ?_
      refine va_zald hx hb hK hP 1 2 rfl rfl (by unfold vp_in; decide) dX8_goBack_19 ?_
      refine lv_ti (y := (fisKept 1)) (by rfl) ?_
      refine lv_if_ne (tgt := 27) hx hb dX8_goBack_20 (by decide) (fun c_16 => ?_) (fun c_16 => ?_)
      · refine lv_bipush (v := 35) hx hb dX8_goBack_27 (by decide) ?_
        refine lv_iload_n hx hb dX8_goBack_29 rfl (lv_at hl 1 rfl) ?_
        refine lv_imul hx hb dX8_goBack_30 ?_
        refine lv_ti (y := 35) (by decide) ?_
        refine lv_istore_n (lv' := [(2, .int 35), (0, .ref (a 0)), (1, .int 1)]) hx hb dX8_goBack_31 rfl hl (by decide) rfl (fun ls hl => ?_)
        refine lv_aload_n hx hb dX8_goBack_32 rfl (lv_at hl 1 rfl) ?_
        refine lv_aload_n hx hb dX8_goBack_33 rfl (lv_at hl 1 rfl) ?_
        refine va_get (D := D) (ci := 8) (v := .ref (a 44)) (C := RX8) (T := TX8) (N := 44) hx hb hts inX8 hown hK hP 0 rfl rfl 43 (by decide) (hts _ tw_1016) (fun _ h9 => h9) rfl dX8_goBack_34 ?_
        refine lv_iload_n hx hb dX8_goBack_37 rfl (lv_at hl 0 rfl) ?_
        refine va_iald hx hb hK hP 2 1 rfl rfl (by unfold vp_in; decide) dX8_goBack_38 ?_
        obtain ⟨ig_17, hig_17, eig_17⟩ := (him 35).1 (by omega)
        refine lv_ti (y := (nI ig_17)) (by exact eig_17) ?_
        refine va_put (D := D) (ci := 8) (v := .int (nI ig_17)) (ty := .int) (C := RX8) (T := TX8) (N := 44) hx hb hts inX8 tyX8 tyX8_ok nmX8 hown hK hP hD hS 0 rfl rfl 30 (by decide) (hts _ tw_1003) (fun _ h9 => h9) rfl (by decide +kernel) rfl rfl (Nat.le_of_ble_eq_true rfl) dX8_goBack_39 (fun H locs hP hD hS => ?_)
        replace hP : va_P D classes [((a 0), .inr (8, (fX8 a (nI tx) fp (nI t0) wd (nI we) nu na (nI rd) ts (nI ru) (nI ig_17) (nI ca) df db sd))), (aZ k (a 43) 2 fisKept), (aI k (a 44) 70 fimages), (aZ k (a 32) 24 frow), (aI k (a 36) 4 fwalks), (aI k (a 37) 4 (nF br))] H := hP
        replace hD : va_D A [((a 0), .inr (8, (fX8 a (nI tx) fp (nI t0) wd (nI we) nu na (nI rd) ts (nI ru) (nI ig_17) (nI ca) df db sd))), (aZ k (a 43) 2 fisKept), (aI k (a 44) 70 fimages), (aZ k (a 32) 24 frow), (aI k (a 36) 4 fwalks), (aI k (a 37) 4 (nF br))] := hD
        refine lv_aload_n hx hb dX8_goBack_42 rfl (lv_at hl 1 rfl) ?_
        refine lv_aload_n hx hb dX8_goBack_43 rfl (lv_at hl 1 rfl) ?_
        refine va_get (D := D) (ci := 8) (v := .ref (a 44)) (C := RX8) (T := TX8) (N := 44) hx hb hts inX8 hown hK hP 0 rfl rfl 43 (by decide) (hts _ tw_1016) (fun _ h9 => h9) rfl dX8_goBack_44 ?_
        refine lv_iload_n hx hb dX8_goBack_47 rfl (lv_at hl 0 rfl) ?_
        refine lv_iconst (v := 1) hx hb dX8_goBack_48 (by decide) ?_
        refine lv_iadd hx hb dX8_goBack_49 ?_
        refine lv_ti (y := 36) (by decide) ?_
        refine va_iald hx hb hK hP 2 1 rfl rfl (by unfold vp_in; decide) dX8_goBack_50 ?_
        obtain ⟨ig_18, hig_18, eig_18⟩ := (him 36).2.1 (by omega)
        refine lv_ti (y := (nI ig_18)) (by exact eig_18) ?_
        refine va_put (D := D) (ci := 8) (v := .int (nI ig_18)) (ty := .int) (C := RX8) (T := TX8) (N := 44) hx hb hts inX8 tyX8 tyX8_ok nmX8 hown hK hP hD hS 0 rfl rfl 34 (by decide) (hts _ tw_1007) (fun _ h9 => h9) rfl (by decide +kernel) rfl rfl (Nat.le_of_ble_eq_true rfl) dX8_goBack_51 (fun H locs hP hD hS => ?_)
        replace hP : va_P D classes [((a 0), .inr (8, (fX8 a (nI tx) fp (nI t0) wd (nI we) nu na (nI rd) ts (nI ru) (nI ig_17) (nI ig_18) df db sd))), (aZ k (a 43) 2 fisKept), (aI k (a 44) 70 fimages), (aZ k (a 32) 24 frow), (aI k (a 36) 4 fwalks), (aI k (a 37) 4 (nF br))] H := hP
        replace hD : va_D A [((a 0), .inr (8, (fX8 a (nI tx) fp (nI t0) wd (nI we) nu na (nI rd) ts (nI ru) (nI ig_17) (nI ig_18) df db sd))), (aZ k (a 43) 2 fisKept), (aI k (a 44) 70 fimages), (aZ k (a 32) 24 frow), (aI k (a 36) 4 fwalks), (aI k (a 37) 4 (nF br))] := hD
        refine lv_aload_n hx hb dX8_goBack_54 rfl (lv_at hl 1 rfl) ?_
        refine lv_aload_n hx hb dX8_goBack_55 rfl (lv_at hl 1 rfl) ?_
        refine va_get (D := D) (ci := 8) (v := .ref (a 44)) (C := RX8) (T := TX8) (N := 44) hx hb hts inX8 hown hK hP 0 rfl rfl 43 (by decide) (hts _ tw_1016) (fun _ h9 => h9) rfl dX8_goBack_56 ?_
        refine lv_iload_n hx hb dX8_goBack_59 rfl (lv_at hl 0 rfl) ?_
        refine lv_iconst (v := 2) hx hb dX8_goBack_60 (by decide) ?_
        refine lv_iadd hx hb dX8_goBack_61 ?_
        refine lv_ti (y := 37) (by decide) ?_
        refine va_iald hx hb hK hP 2 1 rfl rfl (by unfold vp_in; decide) dX8_goBack_62 ?_
        refine lv_ti (y := (fimages 37)) (by rfl) ?_
        refine va_put (D := D) (ci := 8) (v := .int (fimages 37)) (ty := .int) (C := RX8) (T := TX8) (N := 44) hx hb hts inX8 tyX8 tyX8_ok nmX8 hown hK hP hD hS 0 rfl rfl 41 (by decide) (hts _ tw_1014) (fun _ h9 => h9) rfl (by decide +kernel) rfl rfl (Nat.le_of_ble_eq_true rfl) dX8_goBack_63 (fun H locs hP hD hS => ?_)
        replace hP : va_P D classes [((a 0), .inr (8, (fX8 a (nI tx) fp (nI t0) wd (nI we) nu na (nI rd) ts (nI ru) (nI ig_17) (nI ig_18) df db (fimages 37)))), (aZ k (a 43) 2 fisKept), (aI k (a 44) 70 fimages), (aZ k (a 32) 24 frow), (aI k (a 36) 4 fwalks), (aI k (a 37) 4 (nF br))] H := hP
        replace hD : va_D A [((a 0), .inr (8, (fX8 a (nI tx) fp (nI t0) wd (nI we) nu na (nI rd) ts (nI ru) (nI ig_17) (nI ig_18) df db (fimages 37)))), (aZ k (a 43) 2 fisKept), (aI k (a 44) 70 fimages), (aZ k (a 32) 24 frow), (aI k (a 36) 4 fwalks), (aI k (a 37) 4 (nF br))] := hD
        refine lv_iconst (v := 0) hx hb dX8_goBack_66 (by decide) ?_
        refine lv_istore_n (lv' := [(3, .int 0), (2, .int 35), (0, .ref (a 0)), (1, .int 1)]) hx hb dX8_goBack_67 rfl hl (by decide) rfl (fun ls hl => ?_)
        refine W_loop (σ := Nat × (Nat → Int32)) (fun (n_ : Nat) (x_ : Nat × (Nat → Int32)) (H : Heap) (locs : List Loc) (ls : Array Slot) => match x_ with | (kk_19, fr2_19) => n_ = 24 - kk_19 ∧ (kk_19 ≤ 24 ∧ ∀ i, i < kk_19 → fr2_19 i = b11 (fimages (38 + i))) ∧ va_P D classes [((a 0), .inr (8, (fX8 a (nI tx) fp (nI t0) wd (nI we) nu na (nI rd) ts (nI ru) (nI ig_17) (nI ig_18) df db (fimages 37)))), (aZ k (a 43) 2 fisKept), (aI k (a 44) 70 fimages), (aZ k (a 32) 24 fr2_19), (aI k (a 36) 4 fwalks), (aI k (a 37) 4 (nF br))] H ∧ va_D A [((a 0), .inr (8, (fX8 a (nI tx) fp (nI t0) wd (nI we) nu na (nI rd) ts (nI ru) (nI ig_17) (nI ig_18) df db (fimages 37)))), (aZ k (a 43) 2 fisKept), (aI k (a 44) 70 fimages), (aZ k (a 32) 24 fr2_19), (aI k (a 36) 4 fwalks), (aI k (a 37) 4 (nF br))] ∧ va_S A s.heap H locs ∧ lv_has ls 4 [(3, .int (nI kk_19)), (2, .int 35), (0, .ref (a 0)), (1, .int 1)]) (fun n_19 x_19 H locs ls hI ih_19 => ?_) _ (0, frow) ⟨rfl, ⟨by omega, fun i h => absurd h (Nat.not_lt_zero i)⟩, hP, hD, hS, (lv_sub hl [0, 1, 2, 3] rfl)⟩
        obtain ⟨kk_19, fr2_19⟩ := x_19
        obtain ⟨hm_19, hv_19, hP, hD, hS, hl⟩ := hI
        subst hm_19
        refine lv_iload_n hx hb dX8_goBack_68 rfl (lv_at hl 0 rfl) ?_
        refine lv_bipush (v := 24) hx hb dX8_goBack_69 (by decide) ?_
        refine lv_icmp_ge (tgt := 105) hx hb dX8_goBack_71 (by decide) (fun c_20 => ?_) (fun c_20 => ?_)
        · have c_20 := (nI_leI (a := 24) (b := kk_19) (by omega) (by omega)).mp c_20
          refine lv_iconst (v := 0) hx hb dX8_goBack_105 (by decide) ?_
          refine lv_istore_n (lv' := [(3, .int 0), (2, .int 35), (0, .ref (a 0)), (1, .int 1)]) hx hb dX8_goBack_106 rfl hl (by decide) rfl (fun ls hl => ?_)
          refine W_loop (σ := Nat × (Nat → Int32) × (Nat → Nat)) (fun (n_ : Nat) (x_ : Nat × (Nat → Int32) × (Nat → Nat)) (H : Heap) (locs : List Loc) (ls : Array Slot) => match x_ with | (kk_21, fw2_21, b2_21) => n_ = 4 - kk_21 ∧ (kk_21 ≤ 4 ∧ (∀ j, b2_21 j ≤ 24) ∧ (∀ c, c < kk_21 → fw2_21 c = fimages (62 + c))) ∧ va_P D classes [((a 0), .inr (8, (fX8 a (nI tx) fp (nI t0) wd (nI we) nu na (nI rd) ts (nI ru) (nI ig_17) (nI ig_18) df db (fimages 37)))), (aZ k (a 43) 2 fisKept), (aI k (a 44) 70 fimages), (aZ k (a 32) 24 fr2_19), (aI k (a 36) 4 fw2_21), (aI k (a 37) 4 (nF b2_21))] H ∧ va_D A [((a 0), .inr (8, (fX8 a (nI tx) fp (nI t0) wd (nI we) nu na (nI rd) ts (nI ru) (nI ig_17) (nI ig_18) df db (fimages 37)))), (aZ k (a 43) 2 fisKept), (aI k (a 44) 70 fimages), (aZ k (a 32) 24 fr2_19), (aI k (a 36) 4 fw2_21), (aI k (a 37) 4 (nF b2_21))] ∧ va_S A s.heap H locs ∧ lv_has ls 4 [(3, .int (nI kk_21)), (2, .int 35), (0, .ref (a 0)), (1, .int 1)]) (fun n_21 x_21 H locs ls hI ih_21 => ?_) _ (0, fwalks, br) ⟨rfl, ⟨by omega, hbr, fun c h => absurd h (Nat.not_lt_zero c)⟩, hP, hD, hS, (lv_sub hl [0, 1, 2, 3] rfl)⟩
          obtain ⟨kk_21, fw2_21, b2_21⟩ := x_21
          obtain ⟨hm_21, hv_21, hP, hD, hS, hl⟩ := hI
          subst hm_21
          have hbl_21 := hv_21.2.1
          refine lv_iload_n hx hb dX8_goBack_107 rfl (lv_at hl 0 rfl) ?_
          refine lv_iconst (v := 4) hx hb dX8_goBack_108 (by decide) ?_
          refine lv_icmp_ge (tgt := 152) hx hb dX8_goBack_109 (by decide) (fun c_22 => ?_) (fun c_22 => ?_)
          · have c_22 := (nI_leI (a := 4) (b := kk_21) (by omega) (by omega)).mp c_22
            refine lv_iconst (v := 1) hx hb dX8_goBack_152 (by decide) ?_
            have hP9 := hP.sub (ws' := [((a 0), .inr (8, (fX8 a (nI tx) fp (nI t0) wd (nI we) nu na (nI rd) ts (nI ru) (nI ig_17) (nI ig_18) df db (fimages 37)))), (aZ k (a 43) 2 fisKept), (aI k (a 44) 70 fimages), (aZ k (a 32) 24 fr2_19), (aI k (a 36) 4 fw2_21), (aI k (a 37) 4 (nF b2_21))]) [0, 1, 2, 3, 4, 5] rfl
            have hD9 := hD.sub (ws' := [((a 0), .inr (8, (fX8 a (nI tx) fp (nI t0) wd (nI we) nu na (nI rd) ts (nI ru) (nI ig_17) (nI ig_18) df db (fimages 37)))), (aZ k (a 43) 2 fisKept), (aI k (a 44) 70 fimages), (aZ k (a 32) 24 fr2_19), (aI k (a 36) 4 fw2_21), (aI k (a 37) 4 (nF b2_21))]) [0, 1, 2, 3, 4, 5] (by decide) rfl
            exact W.iret (v := 1) hx hb hr (fun t ht hW => ⟨⟨1, (ig_17, ig_18, (fimages 37), fr2_19, fw2_21, b2_21), rfl, ⟨fun b0 b1 a0 a1 hb0 hb1 ha0 ha1 hc0 hc1 hd0 hd1 => ⟨gb_k1 c_16 (nI_inj (by omega) (by omega) (eig_17.symm.trans hb1)), gb_k1 c_16 (nI_inj (by omega) (by omega) (eig_18.symm.trans ha1))⟩, by omega, by omega, hbl_21, gr_k1 c_16 ⟨rfl, fun i hi => hv_19.2 i (by omega), fun c hc => hv_21.2.2 c (by omega)⟩⟩, by rw [ht]; exact hP9, hD9⟩, hS.F ht⟩) hS.2.2 dX8_goBack_153
          · have c_22 : ¬ (4 ≤ kk_21) := fun h => c_22 ((nI_leI (a := 4) (b := kk_21) (by omega) (by omega)).mpr h)
            refine lv_aload_n hx hb dX8_goBack_112 rfl (lv_at hl 2 rfl) ?_
            refine va_get (D := D) (ci := 8) (v := .ref (a 36)) (C := RX8) (T := TX8) (N := 44) hx hb hts inX8 hown hK hP 0 rfl rfl 35 (by decide) (hts _ tw_1008) (fun _ h9 => h9) rfl dX8_goBack_113 ?_
            refine lv_iload_n hx hb dX8_goBack_116 rfl (lv_at hl 0 rfl) ?_
            refine lv_aload_n hx hb dX8_goBack_117 rfl (lv_at hl 2 rfl) ?_
            refine va_get (D := D) (ci := 8) (v := .ref (a 44)) (C := RX8) (T := TX8) (N := 44) hx hb hts inX8 hown hK hP 0 rfl rfl 43 (by decide) (hts _ tw_1016) (fun _ h9 => h9) rfl dX8_goBack_118 ?_
            refine lv_iload_n hx hb dX8_goBack_121 rfl (lv_at hl 1 rfl) ?_
            refine lv_bipush (v := 27) hx hb dX8_goBack_122 (by decide) ?_
            refine lv_iadd hx hb dX8_goBack_124 ?_
            refine lv_ti (y := 62) (by decide) ?_
            refine lv_iload_n hx hb dX8_goBack_125 rfl (lv_at hl 0 rfl) ?_
            refine lv_iadd hx hb dX8_goBack_126 ?_
            refine lv_ti (y := (nI (62 + kk_21))) (nI_add 62 kk_21) ?_
            refine va_iald hx hb hK hP 2 1 rfl rfl (vp_in_nI (by omega) (by decide)) dX8_goBack_127 ?_
            refine lv_ti (y := (fimages (62 + kk_21))) (by rw [nI_clamp (by omega)]) ?_
            refine va_iast hx hb hK hP hD hS 4 1 rfl rfl (vp_in_nI (by omega) (by decide)) dX8_goBack_128 (fun H locs hP hD hS => ?_)
            replace hP : va_P D classes [((a 0), .inr (8, (fX8 a (nI tx) fp (nI t0) wd (nI we) nu na (nI rd) ts (nI ru) (nI ig_17) (nI ig_18) df db (fimages 37)))), (aZ k (a 43) 2 fisKept), (aI k (a 44) 70 fimages), (aZ k (a 32) 24 fr2_19), (aI k (a 36) 4 (upd fw2_21 (Int32.toNatClampNeg (nI kk_21)) (fimages (62 + kk_21)))), (aI k (a 37) 4 (nF b2_21))] H := hP
            replace hD : va_D A [((a 0), .inr (8, (fX8 a (nI tx) fp (nI t0) wd (nI we) nu na (nI rd) ts (nI ru) (nI ig_17) (nI ig_18) df db (fimages 37)))), (aZ k (a 43) 2 fisKept), (aI k (a 44) 70 fimages), (aZ k (a 32) 24 fr2_19), (aI k (a 36) 4 (upd fw2_21 (Int32.toNatClampNeg (nI kk_21)) (fimages (62 + kk_21)))), (aI k (a 37) 4 (nF b2_21))] := hD
            rw [nI_clamp (n := kk_21) (by omega)] at hP hD
            replace hP : va_P D classes [((a 0), .inr (8, (fX8 a (nI tx) fp (nI t0) wd (nI we) nu na (nI rd) ts (nI ru) (nI ig_17) (nI ig_18) df db (fimages 37)))), (aZ k (a 43) 2 fisKept), (aI k (a 44) 70 fimages), (aZ k (a 32) 24 fr2_19), (aI k (a 36) 4 (upd fw2_21 kk_21 (fimages (62 + kk_21)))), (aI k (a 37) 4 (nF b2_21))] H := hP
            replace hD : va_D A [((a 0), .inr (8, (fX8 a (nI tx) fp (nI t0) wd (nI we) nu na (nI rd) ts (nI ru) (nI ig_17) (nI ig_18) df db (fimages 37)))), (aZ k (a 43) 2 fisKept), (aI k (a 44) 70 fimages), (aZ k (a 32) 24 fr2_19), (aI k (a 36) 4 (upd fw2_21 kk_21 (fimages (62 + kk_21)))), (aI k (a 37) 4 (nF b2_21))] := hD
            refine lv_aload_n hx hb dX8_goBack_129 rfl (lv_at hl 2 rfl) ?_
            refine va_get (D := D) (ci := 8) (v := .ref (a 37)) (C := RX8) (T := TX8) (N := 44) hx hb hts inX8 hown hK hP 0 rfl rfl 36 (by decide) (hts _ tw_1009) (fun _ h9 => h9) rfl dX8_goBack_130 ?_
            refine lv_iload_n hx hb dX8_goBack_133 rfl (lv_at hl 0 rfl) ?_
            refine lv_aload_n hx hb dX8_goBack_134 rfl (lv_at hl 2 rfl) ?_
            refine va_get (D := D) (ci := 8) (v := .ref (a 44)) (C := RX8) (T := TX8) (N := 44) hx hb hts inX8 hown hK hP 0 rfl rfl 43 (by decide) (hts _ tw_1016) (fun _ h9 => h9) rfl dX8_goBack_135 ?_
            refine lv_iload_n hx hb dX8_goBack_138 rfl (lv_at hl 1 rfl) ?_
            refine lv_bipush (v := 31) hx hb dX8_goBack_139 (by decide) ?_
            refine lv_iadd hx hb dX8_goBack_141 ?_
            refine lv_ti (y := 66) (by decide) ?_
            refine lv_iload_n hx hb dX8_goBack_142 rfl (lv_at hl 0 rfl) ?_
            refine lv_iadd hx hb dX8_goBack_143 ?_
            refine lv_ti (y := (nI (66 + kk_21))) (nI_add 66 kk_21) ?_
            refine va_iald hx hb hK hP 2 1 rfl rfl (vp_in_nI (by omega) (by decide)) dX8_goBack_144 ?_
            obtain ⟨ig_24, hig_24, eig_24⟩ := (him (66 + kk_21)).2.2 (by omega)
            refine lv_ti (y := (nI ig_24)) (by rw [nI_clamp (by omega)]; exact eig_24) ?_
            refine va_iast hx hb hK hP hD hS 5 1 rfl rfl (vp_in_nI (by omega) (by decide)) dX8_goBack_145 (fun H locs hP hD hS => ?_)
            replace hP : va_P D classes [((a 0), .inr (8, (fX8 a (nI tx) fp (nI t0) wd (nI we) nu na (nI rd) ts (nI ru) (nI ig_17) (nI ig_18) df db (fimages 37)))), (aZ k (a 43) 2 fisKept), (aI k (a 44) 70 fimages), (aZ k (a 32) 24 fr2_19), (aI k (a 36) 4 (upd fw2_21 kk_21 (fimages (62 + kk_21)))), (aI k (a 37) 4 (upd (nF b2_21) (Int32.toNatClampNeg (nI kk_21)) (nI ig_24)))] H := hP
            replace hD : va_D A [((a 0), .inr (8, (fX8 a (nI tx) fp (nI t0) wd (nI we) nu na (nI rd) ts (nI ru) (nI ig_17) (nI ig_18) df db (fimages 37)))), (aZ k (a 43) 2 fisKept), (aI k (a 44) 70 fimages), (aZ k (a 32) 24 fr2_19), (aI k (a 36) 4 (upd fw2_21 kk_21 (fimages (62 + kk_21)))), (aI k (a 37) 4 (upd (nF b2_21) (Int32.toNatClampNeg (nI kk_21)) (nI ig_24)))] := hD
            rw [nI_clamp (n := kk_21) (by omega)] at hP hD
            rw [show upd (nF b2_21) kk_21 (nI ig_24) = nF (fun j => if j = kk_21 then ig_24 else b2_21 j) from nF_upd _ _ _] at hP hD
            obtain ⟨d_26, hd_26⟩ : ∃ z : Nat → Nat, z = (fun j => if j = kk_21 then ig_24 else b2_21 j) := ⟨_, rfl⟩
            rw [← hd_26] at hP hD
            have hbb_26 : ∀ j, d_26 j ≤ 24 := by rw [hd_26]; exact up_le hbl_21 (by omega)
            refine lv_iinc (v := (nI (kk_21 + 1))) (lv' := [(3, .int (nI (kk_21 + 1))), (2, .int 35), (0, .ref (a 0)), (1, .int 1)]) hx hb dX8_goBack_146 hl (k := 0) rfl (nI_add kk_21 1) (by decide) rfl (fun ls hl => ?_)
            refine lv_goto (tgt := 107) hx hb dX8_goBack_149 (by decide) ?_
            exact ih_21 _ (kk_21 + 1, (upd fw2_21 kk_21 (fimages (62 + kk_21))), d_26) _ _ _ (by omega) ⟨rfl, ⟨by omega, hbb_26, la_upd (F := fun c => fimages (62 + c)) hv_21.2.2 rfl⟩, hP, hD, hS, (lv_sub hl [0, 1, 2, 3] rfl)⟩
        · have c_20 : ¬ (24 ≤ kk_19) := fun h => c_20 ((nI_leI (a := 24) (b := kk_19) (by omega) (by omega)).mpr h)
          refine lv_aload_n hx hb dX8_goBack_74 rfl (lv_at hl 2 rfl) ?_
          refine va_get (D := D) (ci := 8) (v := .ref (a 32)) (C := RX8) (T := TX8) (N := 44) hx hb hts inX8 hown hK hP 0 rfl rfl 31 (by decide) (hts _ tw_1004) (fun _ h9 => h9) rfl dX8_goBack_75 ?_
          refine lv_iload_n hx hb dX8_goBack_78 rfl (lv_at hl 0 rfl) ?_
          refine lv_aload_n hx hb dX8_goBack_79 rfl (lv_at hl 2 rfl) ?_
          refine va_get (D := D) (ci := 8) (v := .ref (a 44)) (C := RX8) (T := TX8) (N := 44) hx hb hts inX8 hown hK hP 0 rfl rfl 43 (by decide) (hts _ tw_1016) (fun _ h9 => h9) rfl dX8_goBack_80 ?_
          refine lv_iload_n hx hb dX8_goBack_83 rfl (lv_at hl 1 rfl) ?_
          refine lv_iconst (v := 3) hx hb dX8_goBack_84 (by decide) ?_
          refine lv_iadd hx hb dX8_goBack_85 ?_
          refine lv_ti (y := 38) (by decide) ?_
          refine lv_iload_n hx hb dX8_goBack_86 rfl (lv_at hl 0 rfl) ?_
          refine lv_iadd hx hb dX8_goBack_87 ?_
          refine lv_ti (y := (nI (38 + kk_19))) (nI_add 38 kk_19) ?_
          refine va_iald hx hb hK hP 2 1 rfl rfl (vp_in_nI (by omega) (by decide)) dX8_goBack_88 ?_
          refine lv_ti (y := (fimages (38 + kk_19))) (by rw [nI_clamp (by omega)]) ?_
          refine lv_iconst (v := 1) hx hb dX8_goBack_89 (by decide) ?_
          refine lv_icmp_ne (tgt := 97) hx hb dX8_goBack_90 (by decide) (fun c_27 => ?_) (fun c_27 => ?_)
          · refine lv_iconst (v := 0) hx hb dX8_goBack_97 (by decide) ?_
            refine va_zast hx hb hK hP hD hS 3 2 rfl rfl (vp_in_nI (by omega) (by decide)) dX8_goBack_98 (fun H locs hP hD hS => ?_)
            replace hP : va_P D classes [((a 0), .inr (8, (fX8 a (nI tx) fp (nI t0) wd (nI we) nu na (nI rd) ts (nI ru) (nI ig_17) (nI ig_18) df db (fimages 37)))), (aZ k (a 43) 2 fisKept), (aI k (a 44) 70 fimages), (aZ k (a 32) 24 (upd fr2_19 (Int32.toNatClampNeg (nI kk_19)) (vp_nar .boolean 0))), (aI k (a 36) 4 fwalks), (aI k (a 37) 4 (nF br))] H := hP
            replace hD : va_D A [((a 0), .inr (8, (fX8 a (nI tx) fp (nI t0) wd (nI we) nu na (nI rd) ts (nI ru) (nI ig_17) (nI ig_18) df db (fimages 37)))), (aZ k (a 43) 2 fisKept), (aI k (a 44) 70 fimages), (aZ k (a 32) 24 (upd fr2_19 (Int32.toNatClampNeg (nI kk_19)) (vp_nar .boolean 0))), (aI k (a 36) 4 fwalks), (aI k (a 37) 4 (nF br))] := hD
            rw [nI_clamp (n := kk_19) (by omega)] at hP hD
            replace hP : va_P D classes [((a 0), .inr (8, (fX8 a (nI tx) fp (nI t0) wd (nI we) nu na (nI rd) ts (nI ru) (nI ig_17) (nI ig_18) df db (fimages 37)))), (aZ k (a 43) 2 fisKept), (aI k (a 44) 70 fimages), (aZ k (a 32) 24 (upd fr2_19 kk_19 (vp_nar .boolean 0))), (aI k (a 36) 4 fwalks), (aI k (a 37) 4 (nF br))] H := hP
            replace hD : va_D A [((a 0), .inr (8, (fX8 a (nI tx) fp (nI t0) wd (nI we) nu na (nI rd) ts (nI ru) (nI ig_17) (nI ig_18) df db (fimages 37)))), (aZ k (a 43) 2 fisKept), (aI k (a 44) 70 fimages), (aZ k (a 32) 24 (upd fr2_19 kk_19 (vp_nar .boolean 0))), (aI k (a 36) 4 fwalks), (aI k (a 37) 4 (nF br))] := hD
            refine lv_iinc (v := (nI (kk_19 + 1))) (lv' := [(3, .int (nI (kk_19 + 1))), (2, .int 35), (0, .ref (a 0)), (1, .int 1)]) hx hb dX8_goBack_99 hl (k := 0) rfl (nI_add kk_19 1) (by decide) rfl (fun ls hl => ?_)
            refine lv_goto (tgt := 68) hx hb dX8_goBack_102 (by decide) ?_
            exact ih_19 _ (kk_19 + 1, (upd fr2_19 kk_19 (vp_nar .boolean 0))) _ _ _ (by omega) ⟨rfl, ⟨by omega, la_upd (F := fun i => b11 (fimages (38 + i))) hv_19.2 (by rw [show vp_nar .boolean 0 = 0 from rfl]; exact (if_neg c_27).symm)⟩, hP, hD, hS, (lv_sub hl [0, 1, 2, 3] rfl)⟩
          · refine lv_iconst (v := 1) hx hb dX8_goBack_93 (by decide) ?_
            refine lv_goto (tgt := 98) hx hb dX8_goBack_94 (by decide) ?_
            refine va_zast hx hb hK hP hD hS 3 2 rfl rfl (vp_in_nI (by omega) (by decide)) dX8_goBack_98 (fun H locs hP hD hS => ?_)
            replace hP : va_P D classes [((a 0), .inr (8, (fX8 a (nI tx) fp (nI t0) wd (nI we) nu na (nI rd) ts (nI ru) (nI ig_17) (nI ig_18) df db (fimages 37)))), (aZ k (a 43) 2 fisKept), (aI k (a 44) 70 fimages), (aZ k (a 32) 24 (upd fr2_19 (Int32.toNatClampNeg (nI kk_19)) (vp_nar .boolean 1))), (aI k (a 36) 4 fwalks), (aI k (a 37) 4 (nF br))] H := hP
            replace hD : va_D A [((a 0), .inr (8, (fX8 a (nI tx) fp (nI t0) wd (nI we) nu na (nI rd) ts (nI ru) (nI ig_17) (nI ig_18) df db (fimages 37)))), (aZ k (a 43) 2 fisKept), (aI k (a 44) 70 fimages), (aZ k (a 32) 24 (upd fr2_19 (Int32.toNatClampNeg (nI kk_19)) (vp_nar .boolean 1))), (aI k (a 36) 4 fwalks), (aI k (a 37) 4 (nF br))] := hD
            rw [nI_clamp (n := kk_19) (by omega)] at hP hD
            replace hP : va_P D classes [((a 0), .inr (8, (fX8 a (nI tx) fp (nI t0) wd (nI we) nu na (nI rd) ts (nI ru) (nI ig_17) (nI ig_18) df db (fimages 37)))), (aZ k (a 43) 2 fisKept), (aI k (a 44) 70 fimages), (aZ k (a 32) 24 (upd fr2_19 kk_19 (vp_nar .boolean 1))), (aI k (a 36) 4 fwalks), (aI k (a 37) 4 (nF br))] H := hP
            replace hD : va_D A [((a 0), .inr (8, (fX8 a (nI tx) fp (nI t0) wd (nI we) nu na (nI rd) ts (nI ru) (nI ig_17) (nI ig_18) df db (fimages 37)))), (aZ k (a 43) 2 fisKept), (aI k (a 44) 70 fimages), (aZ k (a 32) 24 (upd fr2_19 kk_19 (vp_nar .boolean 1))), (aI k (a 36) 4 fwalks), (aI k (a 37) 4 (nF br))] := hD
            refine lv_iinc (v := (nI (kk_19 + 1))) (lv' := [(3, .int (nI (kk_19 + 1))), (2, .int 35), (0, .ref (a 0)), (1, .int 1)]) hx hb dX8_goBack_99 hl (k := 0) rfl (nI_add kk_19 1) (by decide) rfl (fun ls hl => ?_)
            refine lv_goto (tgt := 68) hx hb dX8_goBack_102 (by decide) ?_
            exact ih_19 _ (kk_19 + 1, (upd fr2_19 kk_19 (vp_nar .boolean 1))) _ _ _ (by omega) ⟨rfl, ⟨by omega, la_upd (F := fun i => b11 (fimages (38 + i))) hv_19.2 (by rw [show vp_nar .boolean 1 = 1 from rfl]; exact (if_pos c_27).symm)⟩, hP, hD, hS, (lv_sub hl [0, 1, 2, 3] rfl)⟩
      · refine lv_sipush (v := (-1003)) hx hb dX8_goBack_23 (by decide) ?_
        have hP9 := hP.sub (ws' := [((a 0), .inr (8, (fX8 a (nI tx) fp (nI t0) wd (nI we) nu na (nI rd) ts (nI ru) (nI rw) (nI ca) df db sd))), (aZ k (a 43) 2 fisKept), (aI k (a 44) 70 fimages), (aZ k (a 32) 24 frow), (aI k (a 36) 4 fwalks), (aI k (a 37) 4 (nF br))]) [0, 1, 2, 3, 4, 5] rfl
        have hD9 := hD.sub (ws' := [((a 0), .inr (8, (fX8 a (nI tx) fp (nI t0) wd (nI we) nu na (nI rd) ts (nI ru) (nI rw) (nI ca) df db sd))), (aZ k (a 43) 2 fisKept), (aI k (a 44) 70 fimages), (aZ k (a 32) 24 frow), (aI k (a 36) 4 fwalks), (aI k (a 37) 4 (nF br))]) [0, 1, 2, 3, 4, 5] (by decide) rfl
        exact W.iret (v := (-1003)) hx hb hr (fun t ht hW => ⟨⟨(-1003), (rw, ca, sd, frow, fwalks, br), rfl, ⟨fun b0 b1 a0 a1 hb0 hb1 ha0 ha1 hc0 hc1 hd0 hd1 => ⟨gb_n1 c_16, gb_n1 c_16⟩, by omega, by omega, hbr, gr_n1 c_16⟩, by rw [ht]; exact hP9, hD9⟩, hS.F ht⟩) hS.2.2 dX8_goBack_26
  · refine lv_if_ne (tgt := 14) hx hb dX8_goBack_7 (by decide) (fun h => absurd (by decide) h) (fun _ => ?_)
    refine lv_sipush (v := (-1001)) hx hb dX8_goBack_10 (by decide) ?_
    have hP9 := hP.sub (ws' := [((a 0), .inr (8, (fX8 a (nI tx) fp (nI t0) wd (nI we) nu na (nI rd) ts (nI ru) (nI rw) (nI ca) df db sd))), (aZ k (a 43) 2 fisKept), (aI k (a 44) 70 fimages), (aZ k (a 32) 24 frow), (aI k (a 36) 4 fwalks), (aI k (a 37) 4 (nF br))]) [0, 1, 2, 3, 4, 5] rfl
    have hD9 := hD.sub (ws' := [((a 0), .inr (8, (fX8 a (nI tx) fp (nI t0) wd (nI we) nu na (nI rd) ts (nI ru) (nI rw) (nI ca) df db sd))), (aZ k (a 43) 2 fisKept), (aI k (a 44) 70 fimages), (aZ k (a 32) 24 frow), (aI k (a 36) 4 fwalks), (aI k (a 37) 4 (nF br))]) [0, 1, 2, 3, 4, 5] (by decide) rfl
    exact W.iret (v := (-1001)) hx hb hr (fun t ht hW => ⟨⟨(-1001), (rw, ca, sd, frow, fwalks, br), rfl, ⟨fun b0 b1 a0 a1 hb0 hb1 ha0 ha1 hc0 hc1 hd0 hd1 => ⟨gb_out hw_1, gb_out hw_1⟩, by omega, by omega, hbr, gr_out hw_1⟩, by rw [ht]; exact hP9, hD9⟩, hS.F ht⟩) hS.2.2 dX8_goBack_13


set_option maxHeartbeats 4000000 in
set_option maxRecDepth 100000 in
theorem n_seed (l : Launch) (D : va_G) (k : Nat → ClassId) (st : Nat → Nat) (lo : Nat) (a : Nat → Nat) (tx : Nat) (t0 : Nat) (we : Nat) (rd : Nat) (ru : Nat) (rw : Nat) (ca : Nat) (fp : Int32) (wd : Int64) (nu : Int32) (na : Int32) (ts : Int32) (df : Int32) (db : Int32) (sd : Int32) (p0 : Int32)  : CWi l D k st lo yX8_seed cX8_seed 3 (some .int) ({ frames := 0, cells := 0, slots := 0, locals := 0 }) 0 0 [.ref (a 0), .int p0] [((a 0), .inr (8, (fX8 a (nI tx) fp (nI t0) wd (nI we) nu na (nI rd) ts (nI ru) (nI rw) (nI ca) df db sd)))] (fun (r : Int32) (sd_ : Int32) => sedP p0 sd r sd_) (fun (sd_ : Int32) => [((a 0), .inr (8, (fX8 a (nI tx) fp (nI t0) wd (nI we) nu na (nI rd) ts (nI ru) (nI rw) (nI ca) df db sd_)))]) := by
  intro sz
  refine Met.ofW (cc := cX8_seed) (maxL := 3) (ret := (some .int)) (by decide) rfl ?_
  intro p e s m args below meth c s₁ B hml hv
  obtain ⟨rfl, hsz, hlo, hP, hK, hDL, hZ⟩ := hv
  have hx := B.exec
  have hb := B.bytes
  have hr := B.returns
  have hts := WS_ts B.pre
  have hown : s.vm.findClass RX8 = some m.cls := findClass_of_methodNamed B.named
  have hlocks := B.notSynchronized
  subst hsz
  have hD := hDL.self (sz := s.heap.size)
  have hAlo := A_lo hDL hlo
  generalize hAe : va_A [((a 0), .inr (8, (fX8 a (nI tx) fp (nI t0) wd (nI we) nu na (nI rd) ts (nI ru) (nI rw) (nI ca) df db sd)))] s.heap.size = A at hD hAlo ⊢
  have hA : ∀ q : Nat, s.heap.size ≤ q → A q := fun q h => by rw [← hAe]; exact Or.inr h
  have hS : va_S A s.heap s.heap [] := va_S.rf
  have hl := lv_entry ([.ref (a 0), .int p0]) (n := 3) (Nat.le_of_ble_eq_true rfl)
  rw [lg_entry_eq]
  generalize (lg_sl ([.ref (a 0), .int p0]) ++ List.replicate (3 - (lg_sl ([.ref (a 0), .int p0])).length) Slot.unset).toArray = ls at hl ⊢
  have hl : lv_has ls 3 [(0, .ref (a 0)), (1, .int p0)] := hl
  refine lv_iload_n hx hb dX8_seed_0 rfl (lv_at hl 1 rfl) ?_
  refine lv_if_ge (tgt := 8) hx hb dX8_seed_1 (by decide) (fun c_1 => ?_) (fun c_1 => ?_)
  · refine lv_aload_n hx hb dX8_seed_8 rfl (lv_at hl 0 rfl) ?_
    refine va_get (D := D) (ci := 8) (v := .int sd) (C := RX8) (T := TX8) (N := 44) hx hb hts inX8 hown hK hP 0 rfl rfl 41 (by decide) (hts _ tw_1014) (fun _ h9 => h9) rfl dX8_seed_9 ?_
    refine lv_istore_n (lv' := [(2, .int sd), (0, .ref (a 0)), (1, .int p0)]) hx hb dX8_seed_12 rfl hl (by decide) rfl (fun ls hl => ?_)
    refine lv_aload_n hx hb dX8_seed_13 rfl (lv_at hl 1 rfl) ?_
    refine lv_iload_n hx hb dX8_seed_14 rfl (lv_at hl 2 rfl) ?_
    refine va_put (D := D) (ci := 8) (v := .int p0) (ty := .int) (C := RX8) (T := TX8) (N := 44) hx hb hts inX8 tyX8 tyX8_ok nmX8 hown hK hP hD hS 0 rfl rfl 41 (by decide) (hts _ tw_1014) (fun _ h9 => h9) rfl (by decide +kernel) rfl rfl (Nat.le_of_ble_eq_true rfl) dX8_seed_15 (fun H locs hP hD hS => ?_)
    replace hP : va_P D classes [((a 0), .inr (8, (fX8 a (nI tx) fp (nI t0) wd (nI we) nu na (nI rd) ts (nI ru) (nI rw) (nI ca) df db p0)))] H := hP
    replace hD : va_D A [((a 0), .inr (8, (fX8 a (nI tx) fp (nI t0) wd (nI we) nu na (nI rd) ts (nI ru) (nI rw) (nI ca) df db p0)))] := hD
    refine lv_iload_n hx hb dX8_seed_18 rfl (lv_at hl 0 rfl) ?_
    have hP9 := hP.sub (ws' := [((a 0), .inr (8, (fX8 a (nI tx) fp (nI t0) wd (nI we) nu na (nI rd) ts (nI ru) (nI rw) (nI ca) df db p0)))]) [0] rfl
    have hD9 := hD.sub (ws' := [((a 0), .inr (8, (fX8 a (nI tx) fp (nI t0) wd (nI we) nu na (nI rd) ts (nI ru) (nI rw) (nI ca) df db p0)))]) [0] (by decide) rfl
    exact W.iret (v := sd) hx hb hr (fun t ht hW => ⟨⟨sd, p0, rfl, ⟨fun h => absurd h (Int32.not_lt.mpr c_1), fun _ => ⟨rfl, rfl⟩⟩, by rw [ht]; exact hP9, hD9⟩, hS.F ht⟩) hS.2.2 dX8_seed_19
  · refine lv_sipush (v := (-1002)) hx hb dX8_seed_4 (by decide) ?_
    have hP9 := hP.sub (ws' := [((a 0), .inr (8, (fX8 a (nI tx) fp (nI t0) wd (nI we) nu na (nI rd) ts (nI ru) (nI rw) (nI ca) df db sd)))]) [0] rfl
    have hD9 := hD.sub (ws' := [((a 0), .inr (8, (fX8 a (nI tx) fp (nI t0) wd (nI we) nu na (nI rd) ts (nI ru) (nI rw) (nI ca) df db sd)))]) [0] (by decide) rfl
    exact W.iret (v := (-1002)) hx hb hr (fun t ht hW => ⟨⟨(-1002), sd, rfl, ⟨fun _ => ⟨rfl, rfl⟩, fun h => absurd (Int32.not_le.mp c_1) h⟩, by rw [ht]; exact hP9, hD9⟩, hS.F ht⟩) hS.2.2 dX8_seed_7

